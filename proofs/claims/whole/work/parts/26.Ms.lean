/-! NUMBERS, 2: the size of a quotient; CONTRACTS: Measure.hexadecimal -/
/-- lead and place and rest tell num / den -/
def zR (num den lead : Nat) (pl : Int) (rest : Bool) : Prop := ∀ K j : Nat, (j : Int) = K + pl → lead = num * 2 ^ K / (den * 2 ^ j) ∧ rest = decide (num * 2 ^ K % (den * 2 ^ j) ≠ 0)
def zI1 (n d lead : Nat) (rest : Bool) : Prop := lead = n / d ∧ rest = decide (n % d ≠ 0)
theorem zI1_mul {n d lead c : Nat} {rest : Bool} (hc : 0 < c) : zI1 (n * c) (d * c) lead rest ↔ zI1 n d lead rest := by
  unfold zI1
  have e : (n * c % (d * c) ≠ 0) ↔ (n % d ≠ 0) := by
    rw [Nat.mul_mod_mul_right]
    constructor
    · intro h q; exact h (by rw [q, Nat.zero_mul])
    · intro h q
      rcases Nat.mul_eq_zero.mp q with q | q
      · exact h q
      · omega
  rw [Nat.mul_div_mul_right _ _ hc]
  constructor
  · intro h; exact ⟨h.1, by rw [h.2]; exact decide_eq_decide.mpr e⟩
  · intro h; exact ⟨h.1, by rw [h.2]; exact (decide_eq_decide.mpr e).symm⟩
theorem zR_one {num den lead : Nat} {pl : Int} {rest : Bool} (K j : Nat) (hj : (j : Int) = K + pl) (h : zI1 (num * 2 ^ K) (den * 2 ^ j) lead rest) : zR num den lead pl rest := by
  intro K2 j2 hj2
  rcases Nat.le_total K K2 with z | z
  · obtain ⟨t, rfl⟩ := Nat.exists_eq_add_of_le z
    have e : j2 = j + t := by omega
    subst e
    have := (zI1_mul (c := 2 ^ t) (Nat.two_pow_pos t)).mpr h
    rw [Nat.mul_assoc, Nat.mul_assoc, ← Nat.pow_add, ← Nat.pow_add] at this
    exact this
  · obtain ⟨t, rfl⟩ := Nat.exists_eq_add_of_le z
    have e : j = j2 + t := by omega
    subst e
    rw [Nat.pow_add, Nat.pow_add, ← Nat.mul_assoc, ← Nat.mul_assoc] at h
    exact (zI1_mul (c := 2 ^ t) (Nat.two_pow_pos t)).mp h
theorem zR_mul {num den lead c : Nat} {pl : Int} {rest : Bool} (hc : 0 < c) : zR (num * c) (den * c) lead pl rest ↔ zR num den lead pl rest := by
  have key : ∀ K j, zI1 (num * c * 2 ^ K) (den * c * 2 ^ j) lead rest ↔ zI1 (num * 2 ^ K) (den * 2 ^ j) lead rest := by
    intro K j
    rw [Nat.mul_right_comm num, Nat.mul_right_comm den]
    exact zI1_mul hc
  constructor
  · intro h K j hj; exact (key K j).mp (h K j hj)
  · intro h K j hj; exact (key K j).mpr (h K j hj)
theorem pRep_0 : pRep 0 0 0 false := ⟨rfl, rfl, by decide, fun h => absurd h (by decide)⟩
theorem pRep_up {Q lead place j : Nat} {rest : Bool} (h : pRep Q lead place rest) (hb : bin lead j) : j = 62 ∨ (j < 62 ∧ place = 0 ∧ lead = Q ∧ rest = false) := by
  obtain ⟨h1, h2, h3, h4⟩ := h
  have hj : j < 63 := (bin_lt hb 63).mp h3
  rcases Nat.eq_zero_or_pos place with z | z
  · subst z
    rw [Nat.pow_zero, Nat.div_one] at h1
    rw [Nat.pow_zero, Nat.mod_one] at h2
    rcases (show j = 62 ∨ j < 62 by omega) with y | y
    · exact Or.inl y
    · exact Or.inr ⟨y, rfl, h1, by rw [h2]; rfl⟩
  · have := h4 z
    rcases (show j = 62 ∨ j < 62 by omega) with y | y
    · exact Or.inl y
    · have := (bin_lt hb 62).mpr y
      omega
theorem mul4 (x a b u : Nat) : x * a * (b * u) = x * u * (a * b) := by
  rw [Nat.mul_assoc, Nat.mul_assoc, Nat.mul_left_comm a b u, Nat.mul_comm u, Nat.mul_assoc, Nat.mul_left_comm b a u]
theorem zR_end {Q lead place j X m a b : Nat} {rest : Bool} (h : pRep Q lead place rest) (hb : bin lead j) (hm : 0 < m) (hQ : Q = X / m) (hmQ : m = 1 ∨ 2 ^ 62 ≤ Q) :
    zR (X * 2 ^ a) (m * 2 ^ b) (lead * 2 ^ (62 - j)) ((a : Int) - b + place - (62 - j : Nat)) (rest || decide (X % m ≠ 0)) := by
  refine zR_one (b + (62 - j)) (a + place) (by omega) ?_
  rw [Nat.pow_add, Nat.pow_add, mul4 X, mul4 m, Nat.mul_comm (2 ^ b) (2 ^ a), zI1_mul (Nat.mul_pos (Nat.two_pow_pos _) (Nat.two_pow_pos _))]
  rcases pRep_up h hb with z | ⟨z1, z2, z3, z4⟩
  · subst z
    rw [Nat.sub_self, Nat.pow_zero, Nat.mul_one, Nat.mul_one]
    obtain ⟨h1, h2, h3, h4⟩ := h
    refine ⟨?_, ?_⟩
    · rw [← Nat.div_div_eq_div_mul, ← hQ]; exact h1
    · rw [h2, hQ, ← Bool.decide_or]
      refine decide_eq_decide.mpr ?_
      rw [mod_mul_ne hm]
      exact Or.comm
  · have hlt := (bin_lt hb 62).mpr z1
    rcases hmQ with rfl | w
    · rw [Nat.div_one] at hQ
      subst z2 z3 z4 hQ
      rw [Nat.pow_zero, Nat.mul_one]
      refine ⟨(Nat.div_one _).symm, ?_⟩
      rw [Nat.mod_one, Nat.mod_one]
      rfl
    · omega
theorem pRep_pl {Q lead place B : Nat} {rest : Bool} (h : pRep Q lead place rest) (hB : Q < 2 ^ B) : place ≤ B := by
  obtain ⟨h1, h2, h3, h4⟩ := h
  rcases Nat.eq_zero_or_pos place with z | z
  · omega
  · have hl := h4 z
    rcases Nat.lt_or_ge B place with y | y
    · have : 2 ^ B ≤ 2 ^ place := Nat.pow_le_pow_right (by decide) (by omega)
      have : Q / 2 ^ place = 0 := Nat.div_eq_of_lt (by omega)
      omega
    · exact y
/-- the digits' number -/
def acc (b : Nat) : Nat → List (Option Nat) → Nat
  | Q, [] => Q
  | Q, some d :: L => acc b (Q * b + d) L
  | Q, none :: L => acc b Q L
def dgs (b : Nat) : List (Option Nat) → Prop
  | [] => True
  | some d :: L => d < b ∧ dgs b L
  | none :: L => dgs b L
theorem s_dv10 {c d : Nat} (h : s_dv 10 c = some d) : d < 10 := by
  unfold s_dv at h
  split at h
  · cases h; omega
  · simp at h
theorem dgL_dgs {ch : Nat → Nat} {b : Nat} (hb : b = 10 ∨ b = 16) : ∀ (L : List (Option Nat)) (seen : Bool) (p : Nat), dgL ch b seen p L → dgs b L := by
  intro L
  induction L with
  | nil => intro _ _ _; exact True.intro
  | cons x L ih =>
    intro seen p h
    cases x with
    | some d =>
      refine ⟨?_, ih _ _ h.2⟩
      rcases hb with rfl | rfl
      · exact s_dv10 h.1
      · exact (s_dv_lt h.1).1
    | none => exact ih _ _ h.2.2.2
theorem acc_lt {b : Nat} (hb : 1 ≤ b) : ∀ (L : List (Option Nat)) (Q B : Nat), dgs b L → Q < b ^ B → acc b Q L < b ^ (B + L.length) := by
  intro L
  induction L with
  | nil => intro Q B _ h; exact h
  | cons x L ih =>
    intro Q B hd h
    have e : B + (x :: L).length = B + 1 + L.length := by simp only [List.length_cons]; omega
    rw [e]
    cases x with
    | some d =>
      refine ih _ _ hd.2 ?_
      have : (Q + 1) * b ≤ b ^ B * b := Nat.mul_le_mul_right _ h
      rw [Nat.pow_succ]
      have := hd.1
      rw [Nat.add_mul] at *
      omega
    | none => exact ih _ _ hd (Nat.lt_of_lt_of_le h (Nat.pow_le_pow_right hb (by omega)))
section MsS
variable {l : Launch} {G : gG} {e n q t tq a : Nat} {row : Nat → Int32} {len sc me at_ fo wr ne df dt sg fr ex : Int32} {ch : Nat → Nat} {tn : Nat} {W : Nat → Int32} {ns ng nw : Int32}
abbrev wH (G : gG) (e n q t tq a : Nat) (W : Nat → Int32) (ns ng nw : Int32) (row : Nat → Int32) (len sc me at_ fo wr ne df dt sg fr ex : Int32) (z1 : Int64) (z2 z3 : Int32) : va_W :=
  [oMs e n, oNa n q ns ng nw, aI G q 100 W, oNt t tq len sc me at_ fo wr ne df dt sg fr ex, aC G tq 4096 row, oSi a z1 z2 z3]
theorem nI_ne1 {d : Nat} (h : d < 2 ^ 31) : ¬ nI d = (-1 : Int32) := fun z => by
  have := congrArg Int32.toInt z
  rw [← zI_nat, zI_toInt (by omega) (by omega)] at this
  have : ((-1 : Int32)).toInt = -1 := by decide
  omega
theorem a_Ms_hex (T : tOk row len ch tn) :
    ∀ (L : List (Option Nat)) (seen : Bool) (p Q lead place : Nat) (rest : Bool), p ≤ tn → dt = nI (p + L.length) → dgL ch 16 seen p L → pRep Q lead place rest → ∃ lead2 place2 rest2, pRep (acc 16 Q L) lead2 place2 rest2 ∧ ∀ (w0 w1 : va_W),
    (∀ x3, gAt l G m_Ms_hexadecimal w0 none w1 58 [(0, .ref e), (1, .ref t), (2, .ref a), (3, .int x3)] [.int (bI false), .int (ex - (4 : Int32) * fr), .ref a] (wH G e n q t tq a W ns ng nw row len sc me at_ fo wr ne df dt sg fr ex (lN lead2) (nI place2) (bI rest2))) →
    gAt l G m_Ms_hexadecimal w0 none w1 9 [(0, .ref e), (1, .ref t), (2, .ref a), (3, .int (nI p))] [] (wH G e n q t tq a W ns ng nw row len sc me at_ fo wr ne df dt sg fr ex (lN lead) (nI place) (bI rest)) := by
  intro L
  induction L with
  | nil =>
    intro seen p Q lead place rest hp hdt hL hR
    exact ⟨lead, place, rest, hR, fun w0 w1 fin => b_Ms_hexadecimal_9 (fun _ => fin _) (fun z => absurd (by rw [hdt]; exact Int32.le_refl _) z)⟩
  | cons x L ih =>
    intro seen p Q lead place rest hp hdt hL hR
    have hn := T.2.1.1
    have hlen := dgL_lt T.2.1 _ _ _ hp hL
    simp only [List.length_cons] at hlen hdt
    have hlt : ¬ dt ≤ nI p := fun z => by
      rw [hdt] at z
      have := (nI_leI (by omega) (by omega)).mp z
      omega
    have e1 : nI p + (1 : Int32) = nI (p + 1) := nI_1 p
    have st : ∀ (w0 w1 : va_W) (v : Int32), v = oI (s_dv 16 (ch p)) → gAt l G m_Ms_hexadecimal w0 none w1 24 [(0, .ref e), (1, .ref t), (2, .ref a), (3, .int (nI p))] [.int v] (wH G e n q t tq a W ns ng nw row len sc me at_ fo wr ne df dt sg fr ex (lN lead) (nI place) (bI rest)) → gAt l G m_Ms_hexadecimal w0 none w1 9 [(0, .ref e), (1, .ref t), (2, .ref a), (3, .int (nI p))] [] (wH G e n q t tq a W ns ng nw row len sc me at_ fo wr ne df dt sg fr ex (lN lead) (nI place) (bI rest)) := by
      intro w0 w1 v hv k
      subst hv
      exact b_Ms_hexadecimal_9 (fun z => absurd z hlt) (fun _ => k_Ms_hexadecimal_21 (c_Nt_digitAt (b := 16) T (by omega) (by decide)) k)
    cases x with
    | none =>
      obtain ⟨lead2, place2, rest2, h1, h2⟩ := ih true (p + 1) Q lead place rest (by omega) (by rw [hdt]; congr 1; omega) hL.2.2.2 hR
      refine ⟨lead2, place2, rest2, h1, fun w0 w1 fin => st w0 w1 (-1) (by rw [hL.1]; rfl) (b_Ms_hexadecimal_24 (fun _ => b_Ms_hexadecimal_39 ?_) (fun z => absurd rfl z))⟩
      rw [e1]
      exact h2 w0 w1 fin
    | some d =>
      have hd := (s_dv_lt hL.1).1
      have hne : ¬ nI d = (-1 : Int32) := nI_ne1 (by omega)
      obtain ⟨lead3, place3, rest3, c, hR2⟩ := c_Si_push (l := l) (G := G) (a := a) (u := d) (w := 4) (by decide) (by decide) (by omega) hR
      obtain ⟨lead2, place2, rest2, h1, h2⟩ := ih seen (p + 1) (Q * 16 + d) lead3 place3 rest3 (by omega) (by rw [hdt]; congr 1; omega) hL.2 hR2
      refine ⟨lead2, place2, rest2, h1, fun w0 w1 fin => st w0 w1 (nI d) (by rw [hL.1]; rfl) (b_Ms_hexadecimal_24 (fun z => absurd z hne) (fun _ => k_Ms_hexadecimal_36 c (b_Ms_hexadecimal_39 ?_)))⟩
      rw [e1]
      exact h2 w0 w1 fin
theorem zI_hex (E F : Int) : zI E - (4 : Int32) * zI F = zI (E - 4 * F) := by
  rw [show (4 : Int32) = zI 4 from rfl, zI_mul, zI_sub]
/-- how a size stands for a number: none, or lead, place and rest tell it -/
theorem c_Ms_hexadecimal {L : List (Option Nat)} {d0 f0 : Nat} {E : Int} {z1 : Int64} {z2 z3 : Int32} (T : tOk row len ch tn) (hd0 : d0 ≤ tn) (hdf : df = nI d0) (hdt : dt = nI (d0 + L.length)) (hL : dgL ch 16 false d0 L) (hfr : fr = nI f0) (hex : ex = zI E) (hE1 : -1000000 ≤ E) (hE2 : E ≤ 1000000) (hf : f0 ≤ 4096) :
    ∃ lead pl rest, gCt l G m_Ms_hexadecimal [.ref e, .ref t, .ref a] (wH G e n q t tq a W ns ng nw row len sc me at_ fo wr ne df dt sg fr ex z1 z2 z3) none (wH G e n q t tq a W ns ng nw row len sc me at_ fo wr ne df dt sg fr ex (lN lead) (zI pl) (bI rest)) ∧ -1100000 ≤ pl ∧ pl ≤ 1100000 ∧
      ((acc 16 0 L = 0 ∧ lead = 0 ∧ rest = false) ∨ (acc 16 0 L ≠ 0 ∧ 2 ^ 62 ≤ lead ∧ lead < 2 ^ 63 ∧ zR (acc 16 0 L * 2 ^ (E - 4 * f0).toNat) (2 ^ (-(E - 4 * f0)).toNat) lead pl rest)) := by
  have hn := T.2.1.1
  have hlen := dgL_lt T.2.1 _ _ _ hd0 hL
  have hQ : acc 16 0 L < 2 ^ 16384 := by
    have h1 := acc_lt (b := 16) (by decide) L 0 0 (dgL_dgs (Or.inr rfl) _ _ _ hL) (by decide)
    have h2 : 16 ^ (0 + L.length) ≤ 16 ^ 4096 := Nat.pow_le_pow_right (by decide) (by omega)
    have h3 : 16 ^ 4096 = 2 ^ 16384 := by rw [show 16 = 2 ^ 4 from rfl, ← Nat.pow_mul]
    rw [h3] at h2
    exact Nat.lt_of_lt_of_le h1 h2
  obtain ⟨lead, place, rest, hR, hk⟩ := a_Ms_hex (l := l) (G := G) (e := e) (n := n) (q := q) (t := t) (tq := tq) (a := a) (W := W) (ns := ns) (ng := ng) (nw := nw) (sc := sc) (me := me) (at_ := at_) (fo := fo) (wr := wr) (ne := ne) (df := df) (sg := sg) (fr := fr) (ex := ex) T L false d0 0 0 0 false hd0 hdt hL pRep_0
  have hpl := pRep_pl hR hQ
  have ee : ex - (4 : Int32) * fr = zI (E - 4 * f0) := by rw [hex, hfr, ← zI_nat, zI_hex]
  have st : ∀ w1 : va_W, (∀ x3, gAt l G m_Ms_hexadecimal (wH G e n q t tq a W ns ng nw row len sc me at_ fo wr ne df dt sg fr ex z1 z2 z3) none w1 58 [(0, .ref e), (1, .ref t), (2, .ref a), (3, .int x3)] [.int (bI false), .int (zI (E - 4 * f0)), .ref a] (wH G e n q t tq a W ns ng nw row len sc me at_ fo wr ne df dt sg fr ex (lN lead) (nI place) (bI rest))) → gCt l G m_Ms_hexadecimal [.ref e, .ref t, .ref a] (wH G e n q t tq a W ns ng nw row len sc me at_ fo wr ne df dt sg fr ex z1 z2 z3) none w1 := by
    intro w1 k
    rw [← ee] at k
    refine gCt.mk (by decide +kernel) (Nat.le_of_ble_eq_true rfl) rfl (b_Ms_hexadecimal_0 (k_Ms_hexadecimal_1 c_Si_begin (b_Ms_hexadecimal_4 ?_)))
    rw [hdf]
    rw [hdf] at hk k
    exact hk _ _ k
  rcases Nat.eq_zero_or_pos lead with z | z
  · have hp0 : place = 0 := by
      rcases Nat.eq_zero_or_pos place with y | y
      · exact y
      · have := hR.2.2.2 y; omega
    subst hp0
    have h1 := hR.1
    have h2 := hR.2.1
    rw [Nat.pow_zero, Nat.div_one] at h1
    rw [Nat.pow_zero, Nat.mod_one] at h2
    have h2 : rest = false := h2
    subst h2
    refine ⟨0, E - 4 * f0, false, st _ (fun x3 => k_Ms_hexadecimal_58 (c_Si_end0 (lead := lead) z) (b_Ms_hexadecimal_61 ⟨rfl, ?_⟩)), by omega, by omega, Or.inl ⟨by omega, rfl, rfl⟩⟩
    rw [show nI 0 = zI 0 from rfl, zI_add, Int.add_zero]
    rfl
  · obtain ⟨j, hj⟩ := bin_ex z
    have hj63 : j < 63 := (bin_lt hj 63).mp hR.2.2.1
    have hne : acc 16 0 L ≠ 0 := fun y => by
      have := hR.1
      rw [y, Nat.zero_div] at this
      omega
    have hb := bin_mul (c := 62 - j) hj
    rw [show j + (62 - j) = 62 by omega] at hb
    refine ⟨lead * 2 ^ (62 - j), (E - 4 * f0) + place - (62 - j : Nat), rest, st _ (fun x3 => k_Ms_hexadecimal_58 (c_Si_end hj (by omega)) (b_Ms_hexadecimal_61 ⟨rfl, ?_⟩)), by omega, by omega, Or.inr ⟨hne, hb.1, hb.2, ?_⟩⟩
    · rw [← zI_nat place, ← zI_nat (62 - j), zI_add, zI_sub, Bool.or_false]
    · have := zR_end (m := 1) (a := (E - 4 * f0).toNat) (b := (-(E - 4 * f0)).toNat) hR hj (by decide) (Nat.div_one _).symm (Or.inl rfl)
      rw [Nat.mod_one, Nat.one_mul, show (((E - 4 * f0).toNat : Int) - ((-(E - 4 * f0)).toNat : Int)) = E - 4 * f0 by omega] at this
      rw [show (rest || decide ((0 : Nat) ≠ 0)) = rest from Bool.or_false rest] at this
      exact this
end MsS
