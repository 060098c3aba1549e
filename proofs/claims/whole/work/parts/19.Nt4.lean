/-! CONTRACTS: NumberText, 4: words, the body, the scan -/
def wLen (i : Nat) : Nat := g_len.getD i 0
def wdOk (ch : Nat → Nat) (i p : Nat) : Prop := ∀ j, j < wLen i → ch (p + j) = wdC i j
def wdNo (ch : Nat → Nat) (i p m : Nat) : Prop := m < wLen i ∧ (∀ j, j < m → ch (p + j) = wdC i j) ∧ ch (p + m) ≠ wdC i m
theorem wLen_ok : ∀ i, i < 2 → wLen i ≤ 8 ∧ ∀ j, j < wLen i → wdC i j ≠ 0 ∧ wdC i j < 256 := by decide +kernel
theorem wd_ex (ch : Nat → Nat) (i p : Nat) : wdOk ch i p ∨ ∃ m, wdNo ch i p m := by
  have key : ∀ k, k ≤ wLen i → (∀ j, j < k → ch (p + j) = wdC i j) ∨ ∃ m, wdNo ch i p m := by
    intro k
    induction k with
    | zero => intro _; exact Or.inl (fun j h => by omega)
    | succ k ih =>
      intro hk
      rcases ih (by omega) with h | h
      · by_cases z : ch (p + k) = wdC i k
        · exact Or.inl (fun j hj => by
            rcases Nat.lt_or_ge j k with w | w
            · exact h j w
            · rw [show j = k by omega]; exact z)
        · exact Or.inr ⟨k, hk, h, z⟩
      · exact Or.inr h
  exact key _ (Nat.le_refl _)
def isX (ch : Nat → Nat) (p : Nat) : Prop := ch p = 48 ∧ (ch (p + 1) = 120 ∨ ch (p + 1) = 88)
def bdOk (ch : Nat → Nat) (p k d : Nat) (L : List (Option Nat)) (es : List Nat) (e : Nat) : Prop :=
  (ch p = 78 ∧ k = 3 ∧ wdOk ch 0 p ∧ e = p + wLen 0) ∨ (ch p = 73 ∧ k = 2 ∧ wdOk ch 1 p ∧ e = p + wLen 1) ∨
  (ch p ≠ 78 ∧ ch p ≠ 73 ∧ isX ch p ∧ k = 1 ∧ d = p + 2 ∧ hxOk ch (p + 2) L es e) ∨ (ch p ≠ 78 ∧ ch p ≠ 73 ∧ ¬ isX ch p ∧ k = 0 ∧ d = p ∧ dcOk ch p L es e)
def bdNo (ch : Nat → Nat) (p e : Nat) : Prop :=
  (ch p = 78 ∧ ∃ m, wdNo ch 0 p m ∧ e = p + m) ∨ (ch p = 73 ∧ ∃ m, wdNo ch 1 p m ∧ e = p + m) ∨
  (ch p ≠ 78 ∧ ch p ≠ 73 ∧ isX ch p ∧ hxNo ch (p + 2) e) ∨ (ch p ≠ 78 ∧ ch p ≠ 73 ∧ ¬ isX ch p ∧ dcNo ch p e)
theorem wdOk_le {ch : Nat → Nat} {n i p : Nat} (hC : tCh ch n) (hi : i < 2) (hp : p ≤ n) (h : wdOk ch i p) : p + wLen i ≤ n := by
  rcases Nat.lt_or_ge n (p + wLen i) with z | z
  · have h1 := h (n - p) (by omega)
    rw [show p + (n - p) = n by omega, hC.2.2 n (Nat.le_refl _)] at h1
    exact absurd h1.symm ((wLen_ok i hi).2 _ (by omega)).1
  · exact z
theorem wdNo_le {ch : Nat → Nat} {n i p m : Nat} (hC : tCh ch n) (hi : i < 2) (hp : p ≤ n) (h : wdNo ch i p m) : p + m ≤ n := by
  rcases Nat.lt_or_ge n (p + m) with z | z
  · have h1 := h.2.1 (n - p) (by omega)
    have := h.1
    rw [show p + (n - p) = n by omega, hC.2.2 n (Nat.le_refl _)] at h1
    exact absurd h1.symm ((wLen_ok i hi).2 _ (by omega)).1
  · exact z
theorem isX_le {ch : Nat → Nat} {n p : Nat} (hC : tCh ch n) (h : isX ch p) : p + 2 ≤ n := by
  have := ch_lt hC (p := p + 1) (by have := h.2; omega)
  omega
theorem dcOk_le {ch : Nat → Nat} {n p e : Nat} {L : List (Option Nat)} {es : List Nat} (hC : tCh ch n) (hp : p ≤ n) (h : dcOk ch p L es e) : e ≤ n := by
  obtain ⟨hL, -, hE⟩ := h
  have hp1 := dgL_lt hC L false p hp hL
  rcases hE with ⟨h1, h2, -, rfl⟩ | ⟨-, -, rfl⟩
  · exact (sfx_le hC (exL_lt hC es _ (sgn_le hC (isE_lt hC h1)).2 h2)).2
  · exact (sfx_le hC hp1).2
theorem hxOk_le {ch : Nat → Nat} {n p e : Nat} {L : List (Option Nat)} {es : List Nat} (hC : tCh ch n) (hp : p ≤ n) (h : hxOk ch p L es e) : e ≤ n := by
  obtain ⟨hL, -, h1, h2, -, rfl⟩ := h
  exact (sfx_le hC (exL_lt hC es _ (sgn_le hC (isP_lt hC h1)).2 h2)).2
theorem bdOk_le {ch : Nat → Nat} {n p k d e : Nat} {L : List (Option Nat)} {es : List Nat} (hC : tCh ch n) (hp : p ≤ n) (h : bdOk ch p k d L es e) : e ≤ n := by
  rcases h with ⟨-, -, h, rfl⟩ | ⟨-, -, h, rfl⟩ | ⟨-, -, h1, -, -, h⟩ | ⟨-, -, -, -, -, h⟩
  · exact wdOk_le hC (by decide) hp h
  · exact wdOk_le hC (by decide) hp h
  · exact hxOk_le hC (isX_le hC h1) h
  · exact dcOk_le hC hp h
theorem dc_ex {ch : Nat → Nat} {n p : Nat} (hC : tCh ch n) (hp : p ≤ n) : (∃ L es e, dcOk ch p L es e) ∨ ∃ e, dcNo ch p e := by
  obtain ⟨L, hL⟩ := dgL_ex (b := 10) hC n p false (by omega) hp
  have hp1 := dgL_lt hC L false p hp hL
  cases hD : hasD L with
  | false => exact Or.inr ⟨_, L, hL, Or.inl ⟨hD, rfl⟩⟩
  | true =>
    by_cases h1 : isE ch (p + L.length)
    · have hlt := isE_lt hC h1
      have hs := sgn_le hC (p := p + L.length + 1) hlt
      obtain ⟨es, hes⟩ := exL_ex hC n _ (by omega) hs.2
      cases es with
      | nil => exact Or.inr ⟨_, L, hL, Or.inr ⟨hD, h1, hes, rfl⟩⟩
      | cons d es => exact Or.inl ⟨L, d :: es, _, hL, hD, Or.inl ⟨h1, hes, by simp, rfl⟩⟩
    · exact Or.inl ⟨L, [], _, hL, hD, Or.inr ⟨h1, rfl, rfl⟩⟩
theorem hx_ex {ch : Nat → Nat} {n p : Nat} (hC : tCh ch n) (hp : p ≤ n) : (∃ L es e, hxOk ch p L es e) ∨ ∃ e, hxNo ch p e := by
  obtain ⟨L, hL⟩ := dgL_ex (b := 16) hC n p false (by omega) hp
  cases hD : hasD L with
  | false => exact Or.inr ⟨_, L, hL, Or.inl ⟨Or.inl hD, rfl⟩⟩
  | true =>
    by_cases h1 : isP ch (p + L.length)
    · have hlt := isP_lt hC h1
      have hs := sgn_le hC (p := p + L.length + 1) hlt
      obtain ⟨es, hes⟩ := exL_ex hC n _ (by omega) hs.2
      cases es with
      | nil => exact Or.inr ⟨_, L, hL, Or.inr ⟨hD, h1, hes, rfl⟩⟩
      | cons d es => exact Or.inl ⟨L, d :: es, _, hL, hD, h1, hes, by simp, rfl⟩
    · exact Or.inr ⟨_, L, hL, Or.inl ⟨Or.inr h1, rfl⟩⟩
theorem bd_ex {ch : Nat → Nat} {n p : Nat} (hC : tCh ch n) (hp : p ≤ n) : (∃ k d L es e, bdOk ch p k d L es e) ∨ ∃ e, bdNo ch p e := by
  by_cases h1 : ch p = 78
  · rcases wd_ex ch 0 p with h | ⟨m, h⟩
    · exact Or.inl ⟨3, 0, [], [], _, Or.inl ⟨h1, rfl, h, rfl⟩⟩
    · exact Or.inr ⟨_, Or.inl ⟨h1, m, h, rfl⟩⟩
  · by_cases h2 : ch p = 73
    · rcases wd_ex ch 1 p with h | ⟨m, h⟩
      · exact Or.inl ⟨2, 0, [], [], _, Or.inr (Or.inl ⟨h2, rfl, h, rfl⟩)⟩
      · exact Or.inr ⟨_, Or.inr (Or.inl ⟨h2, m, h, rfl⟩)⟩
    · by_cases h3 : isX ch p
      · rcases hx_ex hC (isX_le hC h3) with ⟨L, es, e, h⟩ | ⟨e, h⟩
        · exact Or.inl ⟨1, p + 2, L, es, e, Or.inr (Or.inr (Or.inl ⟨h1, h2, h3, rfl, rfl, h⟩))⟩
        · exact Or.inr ⟨e, Or.inr (Or.inr (Or.inl ⟨h1, h2, h3, h⟩))⟩
      · rcases dc_ex hC hp with ⟨L, es, e, h⟩ | ⟨e, h⟩
        · exact Or.inl ⟨0, p, L, es, e, Or.inr (Or.inr (Or.inr ⟨h1, h2, h3, rfl, rfl, h⟩))⟩
        · exact Or.inr ⟨e, Or.inr (Or.inr (Or.inr ⟨h1, h2, h3, h⟩))⟩
/-- the text is a number text: sign, kind, digits from d on, the exponent's digits -/
def scOk (ch : Nat → Nat) (n : Nat) (ng : Bool) (k d : Nat) (L : List (Option Nat)) (es : List Nat) : Prop :=
  ∃ b e, bl_end ch 0 b ∧ ng = decide (ch b = 45) ∧ bdOk ch (sgn ch b) k d L es e ∧ bl_end ch e n
/-- it is none; w: the place -/
def scNo (ch : Nat → Nat) (n w : Nat) : Prop :=
  ∃ b, bl_end ch 0 b ∧ (bdNo ch (sgn ch b) w ∨ ∃ k d L es e, bdOk ch (sgn ch b) k d L es e ∧ bl_end ch e w ∧ w < n)
theorem sc_ex {ch : Nat → Nat} {n : Nat} (hC : tCh ch n) : (∃ ng k d L es, scOk ch n ng k d L es) ∨ ∃ w, scNo ch n w := by
  obtain ⟨b, hb⟩ := bl_ex hC n 0 (by omega) (Nat.zero_le _)
  have hbn := bl_le hC (Nat.zero_le _) hb
  have hs := sgn_le hC hbn
  rcases bd_ex hC hs.2 with ⟨k, d, L, es, e, h⟩ | ⟨e, h⟩
  · have he := bdOk_le hC hs.2 h
    obtain ⟨f, hf⟩ := bl_ex hC n e (by omega) he
    have hfn := bl_le hC he hf
    rcases Nat.eq_or_lt_of_le hfn with z | z
    · subst z
      exact Or.inl ⟨_, k, d, L, es, b, e, hb, rfl, h, hf⟩
    · exact Or.inr ⟨f, b, hb, Or.inr ⟨k, d, L, es, e, h, hf, z⟩⟩
  · exact Or.inr ⟨e, b, hb, Or.inl h⟩
section Nt4
variable {l : Launch} {G : gG} {a q : Nat} {row : Nat → Int32} {len sc me at_ fo wr ne df dt sg fr ex : Int32} {ch : Nat → Nat} {n p : Nat}
theorem a_Nt_takeWord {w0 : va_W} (T : tOk row len ch n) {i m : Nat} {ok : Bool} (hi : i < 2) (hp : p ≤ n) (hm : p + m ≤ n) (h1 : ∀ j, j < m → ch (p + j) = wdC i j) (h2 : if ok then m = wLen i else m < wLen i ∧ ch (p + m) ≠ wdC i m) :
    ∀ (k x : Nat), m - x ≤ k → x ≤ m → gAt l G m_Nt_takeWord w0 (some (.int (bI ok))) (wT G a q row len sc me (nI (p + m)) fo wr ne df dt sg fr ex) 2 [(0, .ref a), (1, .ref (g_adK G i)), (2, .int (nI x))] [] (wT G a q row len sc me (nI (p + x)) fo wr ne df dt sg fr ex) := by
  have hC := T.2.1
  have hn : n ≤ 4096 := hC.1
  have h8 := wLen_ok i hi
  have hml : m ≤ wLen i := by
    cases ok with
    | true => exact Nat.le_of_eq h2
    | false => exact Nat.le_of_lt h2.1
  intro k
  induction k with
  | zero =>
    intro x hx1 hx2
    have hx : x = m := by omega
    subst hx
    refine b_Nt_takeWord_2 (k_Nt_takeWord_4 hi (c_JS_length hi) (b_Nt_takeWord_7 (fun z => ?_) (fun z => ?_)))
    · have z : wLen i ≤ x := (nI_leI (by show wLen i < _; omega) (by omega)).mp z
      cases ok with
      | true => exact ⟨rfl, rfl, rfl⟩
      | false => have := h2.1; omega
    · have z : ¬ wLen i ≤ x := fun w => z (nI_le w (by omega))
      cases ok with
      | true => exact absurd (Nat.le_of_eq h2.symm) z
      | false =>
        refine k_Nt_takeWord_11 (c_Nt_here T (by omega)) (b_Nt_takeWord_14 (k_Nt_takeWord_16 hi (c_JS_charAt hi (by show x < wLen i; omega)) (b_Nt_takeWord_19 (fun w => ?_) (fun _ => ⟨rfl, rfl, rfl⟩))))
        exact absurd ((nI_eq (by have := hC.lt (p + x); omega) (by have := (h8.2 x h2.1).2; omega)).mp w) h2.2
  | succ k ih =>
    intro x hx1 hx2
    rcases Nat.eq_or_lt_of_le hx2 with hx | hx
    · exact ih x (by omega) hx2
    · refine b_Nt_takeWord_2 (k_Nt_takeWord_4 hi (c_JS_length hi) (b_Nt_takeWord_7 (fun z => ?_) (fun z => k_Nt_takeWord_11 (c_Nt_here T (by omega)) (b_Nt_takeWord_14 (k_Nt_takeWord_16 hi (c_JS_charAt hi (by show x < wLen i; omega)) (b_Nt_takeWord_19 (fun _ => ?_) (fun w => ?_)))))))
      · have z : wLen i ≤ x := (nI_leI (by show wLen i < _; omega) (by omega)).mp z
        omega
      · have e1 : nI (p + x) + (1 : Int32) = nI (p + (x + 1)) := nI_1 (p + x)
        have e2 : nI x + (1 : Int32) = nI (x + 1) := nI_1 x
        rw [e1, e2]
        exact ih (x + 1) (by omega) hx
      · exact absurd (by rw [h1 x hx]) w
theorem c_Nt_takeWord (T : tOk row len ch n) {i m : Nat} {ok : Bool} (hi : i < 2) (hp : p ≤ n) (hm : p + m ≤ n) (h1 : ∀ j, j < m → ch (p + j) = wdC i j) (h2 : if ok then m = wLen i else m < wLen i ∧ ch (p + m) ≠ wdC i m) : gCt l G m_Nt_takeWord [.ref a, .ref (g_adK G i)] (wT G a q row len sc me (nI p) fo wr ne df dt sg fr ex) (some (.int (bI ok))) (wT G a q row len sc me (nI (p + m)) fo wr ne df dt sg fr ex) :=
  gCt.mk (by decide +kernel) (Nat.le_of_ble_eq_true rfl) rfl (b_Nt_takeWord_0 (a_Nt_takeWord T hi hp hm h1 h2 m 0 (by omega) (Nat.zero_le _)))
theorem chE {ch : Nat → Nat} {n : Nat} (hC : tCh ch n) (p : Nat) {c : Nat} (hc : c < 256) : nI (ch p) = nI c ↔ ch p = c := nI_eq (by have := hC.lt p; omega) (by omega)
/-- up to the digits -/
theorem a_Nt_takeBody {w0 w1 : va_W} {res : Option Value} (T : tOk row len ch n) (hp : p ≤ n) (h1 : ch p ≠ 78) (h2 : ch p ≠ 73)
    (kx : isX ch p → gAt l G m_Nt_takeBody w0 res w1 80 [(0, .ref a), (1, .int (nI (ch (p + 1))))] [] (wT G a q row len sc me (nI p) fo wr ne df dt sg fr ex))
    (kd : ¬ isX ch p → gAt l G m_Nt_takeBody w0 res w1 103 [(0, .ref a), (1, .int (nI (ch (p + 1))))] [] (wT G a q row len sc me (nI p) fo wr ne df dt sg fr ex)) :
    gAt l G m_Nt_takeBody w0 res w1 0 [(0, .ref a)] [] (wT G a q row len sc me (nI p) fo wr ne df dt sg fr ex) := by
  have hC := T.2.1
  have hn : n ≤ 4096 := hC.1
  have e1 : nI p + (1 : Int32) = nI (p + 1) := nI_1 p
  refine b_Nt_takeBody_0 (k_Nt_takeBody_1 (c_Nt_here T (by omega)) (b_Nt_takeBody_4 (fun _ => k_Nt_takeBody_25 (c_Nt_here T (by omega)) (b_Nt_takeBody_28 (fun _ => ?_) (fun z => absurd ((chE hC p (by decide)).mp z) h2))) (fun z => absurd ((chE hC p (by decide)).mp z) h1)))
  rw [e1]
  refine k_Nt_takeBody_55 (c_Nt_characterAt T (by omega)) (b_Nt_takeBody_58 (k_Nt_takeBody_60 (c_Nt_here T (by omega)) (b_Nt_takeBody_63 (fun z => kd (fun w => z (by rw [w.1]; rfl))) (fun z1 z2 => kx ⟨(chE hC p (by decide)).mp z1, Or.inl ((chE hC (p + 1) (by decide)).mp z2)⟩) (fun _ z2 z3 => kd (fun w => ?_)) (fun z1 _ z3 => kx ⟨(chE hC p (by decide)).mp z1, Or.inr ((chE hC (p + 1) (by decide)).mp z3)⟩))))
  rcases w.2 with w | w
  · exact z2 (by rw [w]; rfl)
  · exact z3 (by rw [w]; rfl)
theorem c_Nt_takeBody {k d e : Nat} {L : List (Option Nat)} {es : List Nat} (T : tOk row len ch n) (hp : p ≤ n) (h : bdOk ch p k d L es e) : ∃ df2 dt2 sg2 fr2 ex2, gCt l G m_Nt_takeBody [.ref a] (wT G a q row len sc me (nI p) fo wr ne df dt sg fr ex) (some (.int (nI k))) (wT G a q row len sc me (nI e) fo wr ne df2 dt2 sg2 fr2 ex2) ∧ (k < 2 → df2 = nI d ∧ dt2 = nI (d + L.length) ∧ sg2 = nI (sgF 0 L) ∧ fr2 = nI (frF false 0 L) ∧ ex2 = eC ch (d + L.length) es) := by
  have hC := T.2.1
  have hn : n ≤ 4096 := hC.1
  rcases h with ⟨h1, rfl, h, rfl⟩ | ⟨h1, rfl, h, rfl⟩ | ⟨h1, h2, h3, rfl, rfl, h⟩ | ⟨h1, h2, h3, rfl, rfl, h⟩
  · refine ⟨df, dt, sg, fr, ex, ?_, fun z => by omega⟩
    have c := c_Nt_takeWord (l := l) (G := G) (a := a) (q := q) (sc := sc) (me := me) (fo := fo) (wr := wr) (ne := ne) (df := df) (dt := dt) (sg := sg) (fr := fr) (ex := ex) T (i := 0) (m := wLen 0) (ok := true) (by decide) hp (wdOk_le hC (by decide) hp h) h rfl
    exact gCt.mk (by decide +kernel) (Nat.le_of_ble_eq_true rfl) rfl (b_Nt_takeBody_0 (k_Nt_takeBody_1 (c_Nt_here T (by omega)) (b_Nt_takeBody_4 (fun z => absurd (by rw [h1]; rfl) z) (fun _ => k_Nt_takeBody_12 c (b_Nt_takeBody_15 (fun z => absurd z (by decide)) (fun _ => b_Nt_takeBody_23 ⟨rfl, rfl⟩))))))
  · refine ⟨df, dt, sg, fr, ex, ?_, fun z => by omega⟩
    have c := c_Nt_takeWord (l := l) (G := G) (a := a) (q := q) (sc := sc) (me := me) (fo := fo) (wr := wr) (ne := ne) (df := df) (dt := dt) (sg := sg) (fr := fr) (ex := ex) T (i := 1) (m := wLen 1) (ok := true) (by decide) hp (wdOk_le hC (by decide) hp h) h rfl
    refine gCt.mk (by decide +kernel) (Nat.le_of_ble_eq_true rfl) rfl (b_Nt_takeBody_0 (k_Nt_takeBody_1 (c_Nt_here T (by omega)) (b_Nt_takeBody_4 (fun _ => k_Nt_takeBody_25 (c_Nt_here T (by omega)) (b_Nt_takeBody_28 (fun z => absurd (by rw [h1]; rfl) z) (fun _ => k_Nt_takeBody_36 c (b_Nt_takeBody_39 (fun z => absurd z (by decide)) (fun _ => b_Nt_takeBody_47 ⟨rfl, rfl⟩))))) (fun z => ?_))))
    exact absurd ((chE hC p (c := 78) (by decide)).mp z) (by omega)
  · refine ⟨_, _, _, _, _, gCt.mk (by decide +kernel) (Nat.le_of_ble_eq_true rfl) rfl (a_Nt_takeBody T hp h1 h2 (fun _ => b_Nt_takeBody_80 ?_) (fun z => absurd h3 z)), fun _ => ⟨rfl, rfl, rfl, rfl, rfl⟩⟩
    have e2 : nI p + (2 : Int32) = nI (p + 2) := nI_add p 2
    rw [e2]
    exact k_Nt_takeBody_91 (c_Nt_takeHexadecimal T (isX_le hC h3) h) (b_Nt_takeBody_94 (fun z => absurd z (by decide)) (fun _ => b_Nt_takeBody_102 ⟨rfl, rfl⟩))
  · exact ⟨_, _, _, _, _, gCt.mk (by decide +kernel) (Nat.le_of_ble_eq_true rfl) rfl (a_Nt_takeBody T hp h1 h2 (fun z => absurd z h3) (fun _ => b_Nt_takeBody_103 (k_Nt_takeBody_104 (c_Nt_takeDecimal T hp h) (b_Nt_takeBody_107 (fun z => absurd z (by decide)) (fun _ => b_Nt_takeBody_115 ⟨rfl, rfl⟩))))), fun _ => ⟨rfl, rfl, rfl, rfl, rfl⟩⟩
theorem c_Nt_takeBodyNo {e : Nat} (T : tOk row len ch n) (hp : p ≤ n) (h : bdNo ch p e) : ∃ df2 dt2 sg2 fr2 ex2, gCt l G m_Nt_takeBody [.ref a] (wT G a q row len sc me (nI p) fo wr ne df dt sg fr ex) (some (.int (-1))) (wT G a q row len sc me (nI e) fo wr ne df2 dt2 sg2 fr2 ex2) := by
  have hC := T.2.1
  have hn : n ≤ 4096 := hC.1
  rcases h with ⟨h1, m, h, rfl⟩ | ⟨h1, m, h, rfl⟩ | ⟨h1, h2, h3, h⟩ | ⟨h1, h2, h3, h⟩
  · have c := c_Nt_takeWord (l := l) (G := G) (a := a) (q := q) (sc := sc) (me := me) (fo := fo) (wr := wr) (ne := ne) (df := df) (dt := dt) (sg := sg) (fr := fr) (ex := ex) T (i := 0) (m := m) (ok := false) (by decide) hp (wdNo_le hC (by decide) hp h) h.2.1 ⟨h.1, h.2.2⟩
    exact ⟨df, dt, sg, fr, ex, gCt.mk (by decide +kernel) (Nat.le_of_ble_eq_true rfl) rfl (b_Nt_takeBody_0 (k_Nt_takeBody_1 (c_Nt_here T (by omega)) (b_Nt_takeBody_4 (fun z => absurd (by rw [h1]; rfl) z) (fun _ => k_Nt_takeBody_12 c (b_Nt_takeBody_15 (fun _ => b_Nt_takeBody_23 ⟨rfl, rfl⟩) (fun z => absurd rfl z))))))⟩
  · have c := c_Nt_takeWord (l := l) (G := G) (a := a) (q := q) (sc := sc) (me := me) (fo := fo) (wr := wr) (ne := ne) (df := df) (dt := dt) (sg := sg) (fr := fr) (ex := ex) T (i := 1) (m := m) (ok := false) (by decide) hp (wdNo_le hC (by decide) hp h) h.2.1 ⟨h.1, h.2.2⟩
    refine ⟨df, dt, sg, fr, ex, gCt.mk (by decide +kernel) (Nat.le_of_ble_eq_true rfl) rfl (b_Nt_takeBody_0 (k_Nt_takeBody_1 (c_Nt_here T (by omega)) (b_Nt_takeBody_4 (fun _ => k_Nt_takeBody_25 (c_Nt_here T (by omega)) (b_Nt_takeBody_28 (fun z => absurd (by rw [h1]; rfl) z) (fun _ => k_Nt_takeBody_36 c (b_Nt_takeBody_39 (fun _ => b_Nt_takeBody_47 ⟨rfl, rfl⟩) (fun z => absurd rfl z))))) (fun z => ?_))))⟩
    exact absurd ((chE hC p (c := 78) (by decide)).mp z) (by omega)
  · have e2 : nI p + (2 : Int32) = nI (p + 2) := nI_add p 2
    obtain ⟨df2, dt2, sg2, fr2, ex2, c⟩ := c_Nt_takeHexadecimalNo (l := l) (G := G) (a := a) (q := q) (sc := sc) (me := me) (fo := fo) (wr := wr) (ne := ne) (df := df) (dt := dt) (sg := sg) (fr := fr) (ex := ex) T (isX_le hC h3) h
    refine ⟨df2, dt2, sg2, fr2, ex2, gCt.mk (by decide +kernel) (Nat.le_of_ble_eq_true rfl) rfl (a_Nt_takeBody T hp h1 h2 (fun _ => b_Nt_takeBody_80 ?_) (fun z => absurd h3 z))⟩
    rw [e2]
    exact k_Nt_takeBody_91 c (b_Nt_takeBody_94 (fun _ => b_Nt_takeBody_102 ⟨rfl, rfl⟩) (fun z => absurd rfl z))
  · obtain ⟨df2, dt2, sg2, fr2, ex2, c⟩ := c_Nt_takeDecimalNo (l := l) (G := G) (a := a) (q := q) (sc := sc) (me := me) (fo := fo) (wr := wr) (ne := ne) (df := df) (dt := dt) (sg := sg) (fr := fr) (ex := ex) T hp h
    exact ⟨df2, dt2, sg2, fr2, ex2, gCt.mk (by decide +kernel) (Nat.le_of_ble_eq_true rfl) rfl (a_Nt_takeBody T hp h1 h2 (fun z => absurd z h3) (fun _ => b_Nt_takeBody_103 (k_Nt_takeBody_104 c (b_Nt_takeBody_107 (fun _ => b_Nt_takeBody_115 ⟨rfl, rfl⟩) (fun z => absurd rfl z)))))⟩
/-- the scan, up to the body -/
theorem a_Nt_scan {w0 w1 : va_W} {res : Option Value} {b : Nat} (T : tOk row len ch n) (hb : bl_end ch 0 b) (k : gAt l G m_Nt_scan w0 res w1 56 [(0, .ref a)] [.ref a, .ref a] (wT G a q row len 1 0 (nI (sgn ch b)) fo wr (bI (decide (ch b = 45))) df dt sg fr ex)) :
    gAt l G m_Nt_scan w0 res w1 0 [(0, .ref a)] [] (wT G a q row len 0 me at_ fo wr ne df dt sg fr ex) := by
  have hC := T.2.1
  have hn : n ≤ 4096 := hC.1
  have hbn := bl_le hC (Nat.zero_le _) hb
  have e0 : (if ch b = 43 ∨ ch b = 45 then nI (b + 1) else nI b) = nI (sgn ch b) := by unfold sgn; split <;> rfl
  have key : ∀ x : Bool, x = decide (ch b = 45) → gAt l G m_Nt_scan w0 res w1 42 [(0, .ref a)] [.int (bI x), .ref a] (wT G a q row len 1 0 (nI b) fo wr ne df dt sg fr ex) := by
    intro x hx
    subst hx
    have c1 := c_Nt_skipOneOf (l := l) (G := G) (a := a) (q := q) (sc := 1) (me := 0) (fo := fo) (wr := wr) (ne := bI (decide (ch b = 45))) (df := df) (dt := dt) (sg := sg) (fr := fr) (ex := ex) (c1 := 43) (c2 := 45) T (p := b) (by omega) (by decide) (by decide)
    rw [e0] at c1
    exact b_Nt_scan_42 ⟨bI_nar _, bI_fit _⟩ (k_Nt_scan_50 c1 (b_Nt_scan_53 k))
  refine b_Nt_scan_0 (fun _ => k_Nt_scan_24 (c_Nt_skipBlanks (p := 0) T (Nat.zero_le _) hb) (b_Nt_scan_27 (k_Nt_scan_29 (c_Nt_here T (by omega)) (b_Nt_scan_32 (fun z => ?_) (fun z => ?_))))) (fun z => absurd rfl z)
  · exact key false (decide_eq_false (fun w => z (by rw [w]; rfl))).symm
  · exact key true (decide_eq_true ((chE hC b (by decide)).mp z)).symm
theorem c_Nt_scan {ng : Bool} {k d : Nat} {L : List (Option Nat)} {es : List Nat} (T : tOk row len ch n) (h : scOk ch n ng k d L es) : ∃ at2 df2 dt2 sg2 fr2 ex2, gCt l G m_Nt_scan [.ref a] (wT G a q row len 0 me at_ fo wr ne df dt sg fr ex) none (wT G a q row len 1 0 at2 (nI k) (-1) (bI ng) df2 dt2 sg2 fr2 ex2) ∧ (k < 2 → df2 = nI d ∧ dt2 = nI (d + L.length) ∧ sg2 = nI (sgF 0 L) ∧ fr2 = nI (frF false 0 L) ∧ ex2 = eC ch (d + L.length) es) := by
  have hC := T.2.1
  have hn : n ≤ 4096 := hC.1
  obtain ⟨b, e, hb, rfl, h1, h2⟩ := h
  have hbn := bl_le hC (Nat.zero_le _) hb
  have hs := sgn_le hC hbn
  have he := bdOk_le hC hs.2 h1
  have hk : k < 4 := by rcases h1 with h | h | h | h <;> omega
  have hk1 : ¬ nI k = (-1 : Int32) := by
    intro z
    have z2 := congrArg Int32.toInt z
    rw [nI_toInt (by omega)] at z2
    have : ((-1 : Int32)).toInt = -1 := by decide
    omega
  obtain ⟨df2, dt2, sg2, fr2, ex2, c, hd⟩ := c_Nt_takeBody (l := l) (G := G) (a := a) (q := q) (sc := 1) (me := 0) (fo := fo) (wr := wr) (ne := bI (decide (ch b = 45))) (df := df) (dt := dt) (sg := sg) (fr := fr) (ex := ex) T hs.2 h1
  refine ⟨nI n, df2, dt2, sg2, fr2, ex2, gCt.mk (by decide +kernel) (Nat.le_of_ble_eq_true rfl) rfl (a_Nt_scan T hb (k_Nt_scan_56 c (b_Nt_scan_59 (fun z => absurd z hk1) (fun _ => k_Nt_scan_71 (c_Nt_skipBlanks T he h2) (b_Nt_scan_74 (fun _ => b_Nt_scan_94 (b_Nt_scan_97 (fun _ => b_Nt_scan_114 ⟨rfl, rfl⟩) (fun z => absurd z hk1))) (fun z => ?_)))))), hd⟩
  exact absurd (by rw [T.1]; exact nI_le (Nat.le_refl n) (by omega)) z
theorem c_Nt_scanNo {w : Nat} (T : tOk row len ch n) (h : scNo ch n w) : ∃ at2 ne2 df2 dt2 sg2 fr2 ex2, gCt l G m_Nt_scan [.ref a] (wT G a q row len 0 me at_ fo wr ne df dt sg fr ex) none (wT G a q row len 1 0 at2 (-1) (nI w) ne2 df2 dt2 sg2 fr2 ex2) := by
  have hC := T.2.1
  have hn : n ≤ 4096 := hC.1
  obtain ⟨b, hb, h⟩ := h
  have hbn := bl_le hC (Nat.zero_le _) hb
  have hs := sgn_le hC hbn
  rcases h with h | ⟨k, d, L, es, e, h1, h2, h3⟩
  · obtain ⟨df2, dt2, sg2, fr2, ex2, c⟩ := c_Nt_takeBodyNo (l := l) (G := G) (a := a) (q := q) (sc := 1) (me := 0) (fo := fo) (wr := wr) (ne := bI (decide (ch b = 45))) (df := df) (dt := dt) (sg := sg) (fr := fr) (ex := ex) T hs.2 h
    exact ⟨_, _, df2, dt2, sg2, fr2, ex2, gCt.mk (by decide +kernel) (Nat.le_of_ble_eq_true rfl) rfl (a_Nt_scan T hb (k_Nt_scan_56 c (b_Nt_scan_59 (fun _ => b_Nt_scan_97 (fun z => absurd rfl z) (fun _ => b_Nt_scan_114 ⟨rfl, rfl⟩)) (fun z => absurd rfl z))))⟩
  · have he := bdOk_le hC hs.2 h1
    have hk : k < 4 := by rcases h1 with h | h | h | h <;> omega
    have hk1 : ¬ nI k = (-1 : Int32) := by
      intro z
      have z2 := congrArg Int32.toInt z
      rw [nI_toInt (by omega)] at z2
      have : ((-1 : Int32)).toInt = -1 := by decide
      omega
    obtain ⟨df2, dt2, sg2, fr2, ex2, c, -⟩ := c_Nt_takeBody (l := l) (G := G) (a := a) (q := q) (sc := 1) (me := 0) (fo := fo) (wr := wr) (ne := bI (decide (ch b = 45))) (df := df) (dt := dt) (sg := sg) (fr := fr) (ex := ex) T hs.2 h1
    refine ⟨_, _, df2, dt2, sg2, fr2, ex2, gCt.mk (by decide +kernel) (Nat.le_of_ble_eq_true rfl) rfl (a_Nt_scan T hb (k_Nt_scan_56 c (b_Nt_scan_59 (fun z => absurd z hk1) (fun _ => k_Nt_scan_71 (c_Nt_skipBlanks T he h2) (b_Nt_scan_74 (fun z => ?_) (fun _ => b_Nt_scan_94 (b_Nt_scan_97 (fun z => absurd rfl z) (fun _ => b_Nt_scan_114 ⟨rfl, rfl⟩))))))))⟩
    rw [T.1] at z
    have := (nI_leI (by omega) (by omega)).mp z
    omega
theorem c_Nt_scan1 {sc : Int32} (hsc : ¬ sc = 0) : gCt l G m_Nt_scan [.ref a] (wT G a q row len sc me at_ fo wr ne df dt sg fr ex) none (wT G a q row len sc me at_ fo wr ne df dt sg fr ex) :=
  gCt.mk (by decide +kernel) (Nat.le_of_ble_eq_true rfl) rfl (b_Nt_scan_0 (fun z => absurd z hsc) (fun _ => ⟨rfl, rfl⟩))
end Nt4
