/-! CONTRACTS: ExactReader, 1: its state; writing, kinds -/
def eZ (ch : Nat → Nat) (p1 : Nat) (es : List Nat) : Int := if ch (p1 + 1) = 45 then -(satC 0 es : Nat) else (satC 0 es : Nat)
theorem eC_eZ (ch : Nat → Nat) (p1 : Nat) (es : List Nat) : eC ch p1 es = zI (eZ ch p1 es) := by
  unfold eC eZ
  split
  · rw [← zI_nat, zI_neg]
  · rw [zI_nat]
theorem eZ_rng (ch : Nat → Nat) (p1 : Nat) (es : List Nat) : -1000000 ≤ eZ ch p1 es ∧ eZ ch p1 es ≤ 1000000 := by
  have := satC_le es 0 (by decide)
  unfold eZ
  split <;> omega
/-- the size of a hexadecimal -/
def hxZ (Q : Nat) (E : Int) (lead : Nat) (pl : Int) (rest : Bool) : Prop :=
  (Q = 0 ∧ lead = 0 ∧ rest = false) ∨ (Q ≠ 0 ∧ 2 ^ 62 ≤ lead ∧ lead < 2 ^ 63 ∧ zR (Q * 2 ^ E.toNat) (2 ^ (-E).toNat) lead pl rest)
/-- the size of what the text says -/
def szK (ch : Nat → Nat) (k d : Nat) (L : List (Option Nat)) (es : List Nat) (lead : Nat) (pl : Int) (rest : Bool) : Prop :=
  -1073741824 ≤ pl ∧ (pl ≤ 1073741824 ∧ (k < 2 → pl ≤ 2000000)) ∧ ((k = 0 ∧ dcZ (acc 10 0 L) (sgF 0 L) (eZ ch (d + L.length) es - (frF false 0 L : Nat)) lead pl rest) ∨
  (k = 1 ∧ hxZ (acc 16 0 L) (eZ ch (d + L.length) es - 4 * (frF false 0 L : Nat)) lead pl rest) ∨ (2 ≤ k ∧ lead = 2 ^ 62 ∧ pl = 1073741824 ∧ rest = false))
theorem szK.lead {ch : Nat → Nat} {k d : Nat} {L : List (Option Nat)} {es : List Nat} {lead : Nat} {pl : Int} {rest : Bool} (h : szK ch k d L es lead pl rest) : lead = 0 ∨ (2 ^ 62 ≤ lead ∧ lead < 2 ^ 63) := by
  have p : 2 ^ 62 ≤ 2 ^ 62 ∧ (2 ^ 62 : Nat) < 2 ^ 63 := by decide
  rcases h.2.2 with h | h | h
  · rcases h.2 with h | h | h | h
    · exact Or.inl h.2.1
    · exact Or.inr (by rw [h.2.2.1]; exact p)
    · exact Or.inr (by rw [h.2.2.1]; exact p)
    · exact Or.inr ⟨h.2.2.2.1, h.2.2.2.2.1⟩
  · rcases h.2 with h | h
    · exact Or.inl h.2.1
    · exact Or.inr ⟨h.2.1, h.2.2.1⟩
  · exact Or.inr (by rw [h.2.1]; exact p)
def scn (ch : Nat → Nat) (n : Nat) (me fo wr ne df dt sg fr ex : Int32) (s1 : Int64) (s2 s3 : Int32) : Prop :=
  (∃ ng k d L es, scOk ch n ng k d L es ∧ fo = nI k ∧ wr = -1 ∧ ne = bI ng ∧ (k < 2 → df = nI d ∧ dt = nI (d + L.length) ∧ sg = nI (sgF 0 L) ∧ fr = nI (frF false 0 L) ∧ ex = eC ch (d + L.length) es) ∧
    (me = 0 ∨ (me = 1 ∧ ∃ lead pl rest, s1 = lN lead ∧ s2 = zI pl ∧ s3 = bI rest ∧ szK ch k d L es lead pl rest))) ∨
  (∃ w, scNo ch n w ∧ fo = -1 ∧ wr = nI w ∧ me = 0)
abbrev wX (G : gG) (x t tq e m q s o r : Nat) (row : Nat → Int32) (len sc me at_ fo wr ne df dt sg fr ex : Int32) (W : Nat → Int32) (ns ng nw : Int32) (s1 : Int64) (s2 s3 : Int32) (o1 : Int64) (o2 o3 : Int32) (rm : Int64) (rk rf rl : Int32) : va_W :=
  [oEr x t e s o r, oNt t tq len sc me at_ fo wr ne df dt sg fr ex, aC G tq 4096 row, oMs e m, oNa m q ns ng nw, aI G q 100 W, oSi s s1 s2 s3, oSi o o1 o2 o3, oRo r rm rk rf rl]
/-- the class's object, its text is ch -/
def XI (G : gG) (x t tq e m q s o r : Nat) (ch : Nat → Nat) (n : Nat) (w : va_W) : Prop :=
  ∃ row len sc me at_ fo wr ne df dt sg fr ex W ns ng nw s1 s2 s3 o1 o2 o3 rm rk rf rl, w = wX G x t tq e m q s o r row len sc me at_ fo wr ne df dt sg fr ex W ns ng nw s1 s2 s3 o1 o2 o3 rm rk rf rl ∧ tOk row len ch n ∧ (sc = 0 ∨ (sc = 1 ∧ scn ch n me fo wr ne df dt sg fr ex s1 s2 s3))
def byt (b i : Nat) : Nat := b / 2 ^ (8 * i) % 256
def apC (ch : Nat → Nat) (n c : Nat) : Nat → Nat := fun j => if j = n then c else ch j
def cutC (ch : Nat → Nat) (n : Nat) : Nat → Nat := fun j => if j < n then ch j else 0
def wrC (b : Nat) : Nat → (Nat → Nat) → Nat → Nat → Nat
  | 0, ch, _ => ch
  | k + 1, ch, n => if byt b (7 - k) = 0 then wrC b k ch n else wrC b k (apC ch n (byt b (7 - k))) (n + 1)
def wrN (b : Nat) : Nat → Nat
  | 0 => 0
  | k + 1 => (if byt b (7 - k) = 0 then 0 else 1) + wrN b k
theorem wrN_le (b : Nat) : ∀ k, wrN b k ≤ k := by
  intro k
  induction k with
  | zero => exact Nat.le_refl _
  | succ k ih => rw [wrN]; split <;> omega
theorem byt_lt (b i : Nat) : byt b i < 256 := Nat.mod_lt _ (by decide)
theorem tCh_app {ch : Nat → Nat} {n c : Nat} (h : tCh ch n) (hn : n < 4096) (h1 : 1 ≤ c) (h2 : c ≤ 255) : tCh (apC ch n c) (n + 1) := by
  refine ⟨hn, fun j hj => ?_, fun j hj => ?_⟩
  · unfold apC
    by_cases z : j = n
    · rw [if_pos z]; exact ⟨h1, h2⟩
    · rw [if_neg z]; exact h.2.1 j (by omega)
  · unfold apC
    rw [if_neg (by omega)]
    exact h.2.2 j (by omega)
theorem tOk_app {row : Nat → Int32} {len : Int32} {ch : Nat → Nat} {n c : Nat} (h : tOk row len ch n) (hn : n < 4096) (h1 : 1 ≤ c) (h2 : c ≤ 255) : tOk (upd row n (nI c)) (nI (n + 1)) (apC ch n c) (n + 1) := by
  refine ⟨rfl, tCh_app h.2.1 hn h1 h2, fun j hj => ?_⟩
  unfold apC
  by_cases z : j = n
  · rw [if_pos z, z, upd_self]
  · rw [if_neg z, upd_ne z]; exact h.2.2 j (by omega)
theorem tCh_cut {ch : Nat → Nat} {n k : Nat} (h : tCh ch n) (hk : k ≤ n) : tCh (cutC ch k) k := by
  refine ⟨Nat.le_trans hk h.1, fun j hj => ?_, fun j hj => ?_⟩
  · unfold cutC; rw [if_pos hj]; exact h.2.1 j (by omega)
  · unfold cutC; rw [if_neg (by omega)]
theorem tOk_cut {row : Nat → Int32} {len : Int32} {ch : Nat → Nat} {n k : Nat} (h : tOk row len ch n) (hk : k ≤ n) : tOk row (nI k) (cutC ch k) k := by
  refine ⟨rfl, tCh_cut h.2.1 hk, fun j hj => ?_⟩
  unfold cutC
  rw [if_pos hj]
  exact h.2.2 j (by omega)
section ErS
variable {l : Launch} {G : gG} {x t tq e m q s o r : Nat} {ch : Nat → Nat} {n : Nat} {w : va_W}
theorem c_Er_byteOf {b i : Nat} (hb : b < 2 ^ 64) (hi : i < 8) : gCt l G m_Er_byteOf [.long (lN b), .int (nI i)] [] (some (.int (nI (byt b i)))) [] := by
  have e1 : (8 : Int32) * nI i = nI (8 * i) := by
    rw [← zI_nat, ← zI_nat, show (8 : Int32) = zI 8 from rfl, zI_mul]
    congr 1
  have e2 : (Int64.toUInt64 (lN b) >>> ((Int32.toInt64 (nI (8 * i))).toUInt64 &&& Int64.toUInt64 63)).toInt64 = lN (b / 2 ^ (8 * i)) := wb_shr hb (by omega)
  have e3 : lN (b / 2 ^ (8 * i)) &&& (255 : Int64) = lN (byt b i) := wb_mask (k := 8) (Nat.lt_of_le_of_lt (Nat.div_le_self _ _) hb) (by decide)
  have hlt := byt_lt b i
  have e4 : (Int32.toUInt32 (nI (byt b i)) % 65536).toInt32 = nI (byt b i) := by
    have := v_char hlt
    exact this
  refine gCt.mk (by decide +kernel) (Nat.le_of_ble_eq_true rfl) rfl (b_Er_byteOf_0 ?_)
  rw [e1, e2, e3, lN_i, e4]
  exact ⟨n_char hlt, rfl, rfl⟩
theorem c_Er_write {b : Nat} (hb : b < 2 ^ 64) (h : XI G x t tq e m q s o r ch n w) :
    ∃ w2, gCt l G m_Er_write [.ref x, .long (lN b)] w (some (.int (if n + wrN b 8 ≤ 4096 then nI (n + wrN b 8) else -1))) w2 ∧ XI G x t tq e m q s o r (if n + wrN b 8 ≤ 4096 then wrC b 8 ch n else ch) (if n + wrN b 8 ≤ 4096 then n + wrN b 8 else n) w2 := by
  obtain ⟨row, len, sc, me, at_, fo, wr, ne, df, dt, sg, fr, ex, W, ns, ng, nw, s1, s2, s3, o1, o2, o3, rm, rk, rf, rl, rfl, T, hs⟩ := h
  have hn := T.2.1.1
  have hle := wrN_le b 8
  have L1 : ∀ (k i c : Nat) (w0 w1 : va_W) (res : Option Value), i + k = 8 → c + k ≤ 8 →
      (∀ x4, gAt l G m_Er_write w0 res w1 35 [(0, .ref x), (1, .long (lN b)), (3, .int (nI (c + wrN b k))), (4, .int x4)] [.ref t, .int (nI (c + wrN b k))] (wX G x t tq e m q s o r row len sc me at_ fo wr ne df dt sg fr ex W ns ng nw s1 s2 s3 o1 o2 o3 rm rk rf rl)) →
      gAt l G m_Er_write w0 res w1 5 [(0, .ref x), (1, .long (lN b)), (3, .int (nI c)), (4, .int (nI i))] [] (wX G x t tq e m q s o r row len sc me at_ fo wr ne df dt sg fr ex W ns ng nw s1 s2 s3 o1 o2 o3 rm rk rf rl) := by
    intro k
    induction k with
    | zero =>
      intro i c w0 w1 res hi hc fin
      have : i = 8 := by omega
      subst this
      exact b_Er_write_5 (fun _ => fin _) (fun z => absurd (by decide +kernel) z)
    | succ k ih =>
      intro i c w0 w1 res hi hc fin
      have hlt : ¬ (8 : Int32) ≤ nI i := fun z => by have := (nI_leI (a := 8) (by decide) (by omega)).mp z; omega
      have e1 : nI i + (1 : Int32) = nI (i + 1) := nI_1 i
      have hbl := byt_lt b i
      have ei : 7 - k = i := by omega
      have h0 : nI (byt b i) = 0 ↔ byt b i = 0 := nI_eq (b := 0) (by omega) (by decide)
      rw [wrN, ei] at fin
      refine b_Er_write_5 (fun z => absurd z hlt) (fun _ => k_Er_write_15 (c_Er_byteOf hb (by omega)) (b_Er_write_18 (fun z => ?_) (fun z => ?_)))
      · rw [if_pos (h0.mp z), Nat.zero_add] at fin
        refine b_Er_write_24 ?_
        rw [e1]
        exact ih (i + 1) c w0 w1 res (by omega) (by omega) fin
      · rw [if_neg (fun y => z (h0.mpr y)), ← Nat.add_assoc] at fin
        have e2 : nI c + (1 : Int32) = nI (c + 1) := nI_1 c
        refine b_Er_write_24 ?_
        rw [e1, e2]
        exact ih (i + 1) (c + 1) w0 w1 res (by omega) (by omega) fin
  have hroom : nI 4096 - nI n = nI (4096 - n) := pk_sub hn
  have hlen : len = nI n := T.1
  by_cases hfit : n + wrN b 8 ≤ 4096
  · rw [if_pos hfit, if_pos hfit, if_pos hfit]
    have L2 : ∀ (k i c : Nat) (ch : Nat → Nat) (row : Nat → Int32) (len sc : Int32) (w0 : va_W) (x3 : Int32), i + k = 8 → c + wrN b k ≤ 4096 → tOk row len ch c → (sc = 0 ∨ (sc = 1 ∧ scn ch c me fo wr ne df dt sg fr ex s1 s2 s3)) →
        ∃ w2, gAt l G m_Er_write w0 (some (.int (nI (c + wrN b k)))) w2 46 [(0, .ref x), (1, .long (lN b)), (3, .int x3), (4, .int (nI i))] [] (wX G x t tq e m q s o r row len sc me at_ fo wr ne df dt sg fr ex W ns ng nw s1 s2 s3 o1 o2 o3 rm rk rf rl) ∧ XI G x t tq e m q s o r (wrC b k ch c) (c + wrN b k) w2 := by
      intro k
      induction k with
      | zero =>
        intro i c ch row len sc w0 x3 hi hc T hs
        have : i = 8 := by omega
        subst this
        exact ⟨_, b_Er_write_46 (fun _ => ⟨vi (by rw [T.1]; rfl), rfl⟩) (fun z => absurd (by decide +kernel) z), row, len, sc, me, at_, fo, wr, ne, df, dt, sg, fr, ex, W, ns, ng, nw, s1, s2, s3, o1, o2, o3, rm, rk, rf, rl, rfl, T, hs⟩
      | succ k ih =>
        intro i c ch row len sc w0 x3 hi hc T hs
        have hlt : ¬ (8 : Int32) ≤ nI i := fun z => by have := (nI_leI (a := 8) (by decide) (by omega)).mp z; omega
        have e1 : nI i + (1 : Int32) = nI (i + 1) := nI_1 i
        have hbl := byt_lt b i
        have ei : 7 - k = i := by omega
        rw [wrN, ei] at hc
        rw [wrN, wrC, ei]
        by_cases z : byt b i = 0
        · rw [if_pos z, Nat.zero_add] at hc
          rw [if_pos z, if_pos z, Nat.zero_add]
          obtain ⟨w2, h1, h2⟩ := ih (i + 1) c ch row len sc w0 x3 (by omega) hc T hs
          refine ⟨w2, b_Er_write_46 (fun y => absurd y hlt) (fun _ => k_Er_write_60 (c_Er_byteOf hb (by omega)) ?_), h2⟩
          rw [z]
          refine k_Er_write_63 c_Nt_append0 (b_Er_write_66 ?_)
          rw [e1]
          exact h1
        · rw [if_neg z] at hc
          rw [if_neg z, if_neg z]
          obtain ⟨w2, h1, h2⟩ := ih (i + 1) (c + 1) (apC ch c (byt b i)) (upd row c (nI (byt b i))) (nI (c + 1)) 0 w0 x3 (by omega) (by omega) (tOk_app T (by omega) (by omega) (by omega)) (Or.inl rfl)
          rw [show c + (1 + wrN b k) = c + 1 + wrN b k by omega]
          refine ⟨w2, b_Er_write_46 (fun y => absurd y hlt) (fun _ => k_Er_write_60 (c_Er_byteOf hb (by omega)) ?_), h2⟩
          have hl : len = nI c := T.1
          rw [hl]
          refine k_Er_write_63 (c_Nt_append (by omega) (by omega) hbl) (b_Er_write_66 ?_)
          rw [e1]
          exact h1
    obtain ⟨w2, h1, h2⟩ := L2 8 0 n ch row len sc (wX G x t tq e m q s o r row len sc me at_ fo wr ne df dt sg fr ex W ns ng nw s1 s2 s3 o1 o2 o3 rm rk rf rl) (nI (0 + wrN b 8)) rfl hfit T hs
    refine ⟨w2, gCt.mk (by decide +kernel) (Nat.le_of_ble_eq_true rfl) rfl (b_Er_write_0 (L1 8 0 0 _ _ _ rfl (by decide) (fun x4 => ?_))), h2⟩
    rw [hlen] at h1 ⊢
    refine k_Er_write_35 c_Nt_room (b_Er_write_38 (fun _ => h1) (fun z => ?_))
    rw [hroom] at z
    exact absurd (nI_le (by omega) (by omega)) z
  · rw [if_neg hfit, if_neg hfit, if_neg hfit]
    refine ⟨_, gCt.mk (by decide +kernel) (Nat.le_of_ble_eq_true rfl) rfl (b_Er_write_0 (L1 8 0 0 _ _ _ rfl (by decide) (fun x4 => ?_))), row, len, sc, me, at_, fo, wr, ne, df, dt, sg, fr, ex, W, ns, ng, nw, s1, s2, s3, o1, o2, o3, rm, rk, rf, rl, rfl, T, hs⟩
    rw [hlen]
    refine k_Er_write_35 c_Nt_room (b_Er_write_38 (fun z => ?_) (fun _ => ⟨rfl, rfl⟩))
    rw [hroom] at z
    have := (nI_leI (by omega) (by omega)).mp z
    omega
theorem c_Er_wipe (h : XI G x t tq e m q s o r ch n w) : ∃ w2, gCt l G m_Er_wipe [.ref x] w (some (.int (nI n))) w2 ∧ XI G x t tq e m q s o r (cutC ch 0) 0 w2 := by
  obtain ⟨row, len, sc, me, at_, fo, wr, ne, df, dt, sg, fr, ex, W, ns, ng, nw, s1, s2, s3, o1, o2, o3, rm, rk, rf, rl, rfl, T, hs⟩ := h
  have hn := T.2.1.1
  have hlen : len = nI n := T.1
  subst hlen
  have c := c_Nt_dropLast (l := l) (G := G) (a := t) (q := tq) (row := row) (sc := sc) (me := me) (at_ := at_) (fo := fo) (wr := wr) (ne := ne) (df := df) (dt := dt) (sg := sg) (fr := fr) (ex := ex) (n := n) (k := n) (by omega) (by omega)
  rw [Nat.sub_self] at c
  exact ⟨_, gCt.mk (by decide +kernel) (Nat.le_of_ble_eq_true rfl) rfl (b_Er_wipe_0 (k_Er_wipe_13 c (b_Er_wipe_16 ⟨rfl, rfl⟩))), row, nI 0, 0, me, at_, fo, wr, ne, df, dt, sg, fr, ex, W, ns, ng, nw, s1, s2, s3, o1, o2, o3, rm, rk, rf, rl, rfl, tOk_cut T (Nat.zero_le _), Or.inl rfl⟩
theorem x_scan {row : Nat → Int32} {len sc me at_ fo wr ne df dt sg fr ex : Int32} {s1 : Int64} {s2 s3 : Int32} (T : tOk row len ch n) (hs : sc = 0 ∨ (sc = 1 ∧ scn ch n me fo wr ne df dt sg fr ex s1 s2 s3)) :
    ∃ me2 at2 fo2 wr2 ne2 df2 dt2 sg2 fr2 ex2, gCt l G m_Nt_scan [.ref t] (wT G t tq row len sc me at_ fo wr ne df dt sg fr ex) none (wT G t tq row len 1 me2 at2 fo2 wr2 ne2 df2 dt2 sg2 fr2 ex2) ∧ scn ch n me2 fo2 wr2 ne2 df2 dt2 sg2 fr2 ex2 s1 s2 s3 := by
  rcases hs with hs | ⟨hs, hc⟩
  · subst hs
    rcases sc_ex T.2.1 with ⟨ng, k, d, L, es, h⟩ | ⟨wv, h⟩
    · obtain ⟨at2, df2, dt2, sg2, fr2, ex2, c, p⟩ := c_Nt_scan (l := l) (G := G) (a := t) (q := tq) (me := me) (at_ := at_) (fo := fo) (wr := wr) (ne := ne) (df := df) (dt := dt) (sg := sg) (fr := fr) (ex := ex) T h
      exact ⟨0, at2, nI k, -1, bI ng, df2, dt2, sg2, fr2, ex2, c, Or.inl ⟨ng, k, d, L, es, h, rfl, rfl, rfl, p, Or.inl rfl⟩⟩
    · obtain ⟨at2, ne2, df2, dt2, sg2, fr2, ex2, c⟩ := c_Nt_scanNo (l := l) (G := G) (a := t) (q := tq) (me := me) (at_ := at_) (fo := fo) (wr := wr) (ne := ne) (df := df) (dt := dt) (sg := sg) (fr := fr) (ex := ex) T h
      exact ⟨0, at2, -1, nI wv, ne2, df2, dt2, sg2, fr2, ex2, c, Or.inr ⟨wv, h, rfl, rfl, rfl⟩⟩
  · subst hs
    exact ⟨me, at_, fo, wr, ne, df, dt, sg, fr, ex, c_Nt_scan1 (by decide), hc⟩
theorem c_Er_kind (h : XI G x t tq e m q s o r ch n w) :
    (∃ ng k d L es w2, scOk ch n ng k d L es ∧ gCt l G m_Er_kind [.ref x] w (some (.int (nI k))) w2 ∧ XI G x t tq e m q s o r ch n w2) ∨ (∃ wv w2, scNo ch n wv ∧ gCt l G m_Er_kind [.ref x] w (some (.int (-1))) w2 ∧ XI G x t tq e m q s o r ch n w2) := by
  obtain ⟨row, len, sc, me, at_, fo, wr, ne, df, dt, sg, fr, ex, W, ns, ng, nw, s1, s2, s3, o1, o2, o3, rm, rk, rf, rl, rfl, T, hs⟩ := h
  obtain ⟨me2, at2, fo2, wr2, ne2, df2, dt2, sg2, fr2, ex2, c, hc⟩ := x_scan (l := l) (G := G) (t := t) (tq := tq) (at_ := at_) T hs
  have g : gCt l G m_Er_kind [.ref x] (wX G x t tq e m q s o r row len sc me at_ fo wr ne df dt sg fr ex W ns ng nw s1 s2 s3 o1 o2 o3 rm rk rf rl) (some (.int fo2)) (wX G x t tq e m q s o r row len 1 me2 at2 fo2 wr2 ne2 df2 dt2 sg2 fr2 ex2 W ns ng nw s1 s2 s3 o1 o2 o3 rm rk rf rl) :=
    gCt.mk (by decide +kernel) (Nat.le_of_ble_eq_true rfl) rfl (b_Er_kind_0 (k_Er_kind_4 c (b_Er_kind_7 ⟨rfl, rfl⟩)))
  have hX : XI G x t tq e m q s o r ch n (wX G x t tq e m q s o r row len 1 me2 at2 fo2 wr2 ne2 df2 dt2 sg2 fr2 ex2 W ns ng nw s1 s2 s3 o1 o2 o3 rm rk rf rl) :=
    ⟨row, len, 1, me2, at2, fo2, wr2, ne2, df2, dt2, sg2, fr2, ex2, W, ns, ng, nw, s1, s2, s3, o1, o2, o3, rm, rk, rf, rl, rfl, T, Or.inr ⟨rfl, hc⟩⟩
  rcases hc with ⟨ng2, k, d, L, es, h1, h2, _⟩ | ⟨wv, h1, h2, h3, _⟩
  · rw [h2] at g
    rw [h2] at hX
    exact Or.inl ⟨ng2, k, d, L, es, _, h1, g, hX⟩
  · rw [h2] at g
    rw [h2] at hX
    exact Or.inr ⟨wv, _, h1, g, hX⟩
theorem c_Er_fault (h : XI G x t tq e m q s o r ch n w) :
    (∃ ng k d L es w2, scOk ch n ng k d L es ∧ gCt l G m_Er_fault [.ref x] w (some (.int (-1))) w2 ∧ XI G x t tq e m q s o r ch n w2) ∨ (∃ wv w2, scNo ch n wv ∧ gCt l G m_Er_fault [.ref x] w (some (.int (nI wv))) w2 ∧ XI G x t tq e m q s o r ch n w2) := by
  obtain ⟨row, len, sc, me, at_, fo, wr, ne, df, dt, sg, fr, ex, W, ns, ng, nw, s1, s2, s3, o1, o2, o3, rm, rk, rf, rl, rfl, T, hs⟩ := h
  obtain ⟨me2, at2, fo2, wr2, ne2, df2, dt2, sg2, fr2, ex2, c, hc⟩ := x_scan (l := l) (G := G) (t := t) (tq := tq) (at_ := at_) T hs
  have g : gCt l G m_Er_fault [.ref x] (wX G x t tq e m q s o r row len sc me at_ fo wr ne df dt sg fr ex W ns ng nw s1 s2 s3 o1 o2 o3 rm rk rf rl) (some (.int wr2)) (wX G x t tq e m q s o r row len 1 me2 at2 fo2 wr2 ne2 df2 dt2 sg2 fr2 ex2 W ns ng nw s1 s2 s3 o1 o2 o3 rm rk rf rl) :=
    gCt.mk (by decide +kernel) (Nat.le_of_ble_eq_true rfl) rfl (b_Er_fault_0 (k_Er_fault_4 c (b_Er_fault_7 ⟨rfl, rfl⟩)))
  have hX : XI G x t tq e m q s o r ch n (wX G x t tq e m q s o r row len 1 me2 at2 fo2 wr2 ne2 df2 dt2 sg2 fr2 ex2 W ns ng nw s1 s2 s3 o1 o2 o3 rm rk rf rl) :=
    ⟨row, len, 1, me2, at2, fo2, wr2, ne2, df2, dt2, sg2, fr2, ex2, W, ns, ng, nw, s1, s2, s3, o1, o2, o3, rm, rk, rf, rl, rfl, T, Or.inr ⟨rfl, hc⟩⟩
  rcases hc with ⟨ng2, k, d, L, es, h1, _, h2, _⟩ | ⟨wv, h1, _, h2, _⟩
  · rw [h2] at g
    rw [h2] at hX
    exact Or.inl ⟨ng2, k, d, L, es, _, h1, g, hX⟩
  · rw [h2] at g
    rw [h2] at hX
    exact Or.inr ⟨wv, _, h1, g, hX⟩
end ErS
