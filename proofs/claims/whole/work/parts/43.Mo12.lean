/-! CONTRACTS: the model, 12: goesUp, pack, sizeRead -/
section Mo12
variable {l : Launch} {G : gG} {m ta fa wa : Nat} {th len ki pc be ma po : Int32} {ex : Int64} {fm to : Int32} {sc : Int64} {re hu : Int32} {tx fg wd : Nat → Int32}
theorem c_Mo_goesUp {whole rest : Nat} (hw : whole < 2 ^ 63) (hr : rest < 4) : gCt l G m_Mo_goesUp [.ref m] (wM G m ta fa wa th len ki pc be ma po ex fm to (lN whole) sc (nI rest) hu tx fg wd) (some (.int (bI (decide (rest = 3 ∨ (rest = 2 ∧ whole % 2 = 1)))))) (wM G m ta fa wa th len ki pc be ma po ex fm to (lN whole) sc (nI rest) hu tx fg wd) := by
  have r3 : nI rest = (3 : Int32) ↔ rest = 3 := nI_eq (b := 3) (by omega) (by decide)
  have r2 : nI rest = (2 : Int32) ↔ rest = 2 := nI_eq (b := 2) (by omega) (by decide)
  have em : lN whole - lN whole / (2 : Int64) * (2 : Int64) = lN (whole % 2) := pk_lRem (b := 2) hw (by decide) (by decide)
  have c1 : lg_cmp (lN whole - lN whole / (2 : Int64) * (2 : Int64)) (1 : Int64) = 0 ↔ whole % 2 = 1 := by
    rw [em, lgc_eq]
    exact pk_lEQ (b := 1) (by omega) (by decide)
  refine gCt.mk (by decide +kernel) (Nat.le_of_ble_eq_true rfl) rfl (b_Mo_goesUp_0 (fun z => b_Mo_goesUp_29 (b_Mo_goesUp_34 ⟨rfl, vi ?_, rfl⟩)) (fun z y => b_Mo_goesUp_33 (b_Mo_goesUp_34 ⟨rfl, vi ?_, rfl⟩)) (fun z y x => b_Mo_goesUp_33 (b_Mo_goesUp_34 ⟨rfl, vi ?_, rfl⟩)) (fun z y x => b_Mo_goesUp_29 (b_Mo_goesUp_34 ⟨rfl, vi ?_, rfl⟩)))
  · rw [decide_eq_true (Or.inl (r3.mp z))]; rfl
  · rw [decide_eq_false (fun v => v.elim (fun v => z (r3.mpr v)) (fun v => y (r2.mpr v.1)))]; rfl
  · rw [decide_eq_false (fun v => v.elim (fun v => z (r3.mpr v)) (fun v => x (c1.mpr v.2)))]; rfl
  · rw [decide_eq_true (Or.inr ⟨r2.mp y, c1.mp x⟩)]; rfl
theorem c_Mo_pack {i nw u : Nat} {wh : Int64} (hi : i < 2) (hn : nw ≤ 2 ^ f_p i) (hu2 : u ≤ 100000) : gCt l G m_Mo_pack [.ref m, .long (lN nw), .int (nI (f_p i)), .int (zI (f_least i))] (wM G m ta fa wa th len ki pc be ma po ex fm to wh (zL (f_least i + u)) re 0 tx fg wd) (some (.long (lN (rc_bits (f_p i) (f_inf i) nw (u + 1))))) (wM G m ta fa wa th len ki pc be ma po ex fm to wh (zL (f_least i + u)) re 0 tx fg wd) := by
  obtain ⟨p1, p2, i1, i2, l1, l2⟩ := f_rng hi
  have hpp : 2 * 2 ^ (f_p i - 1) = 2 ^ f_p i := by rw [← Nat.pow_succ']; congr 1; omega
  have hp52 : 2 ^ (f_p i - 1) ≤ 2 ^ 52 := Nat.pow_le_pow_right (by decide) (by omega)
  have hp0 := Nat.two_pow_pos (f_p i - 1)
  have ep1 : nI (f_p i) - (1 : Int32) = nI (f_p i - 1) := pk_sub (b := 1) (by omega)
  have e1 : (1 : Int64) <<< ((Int32.toInt64 (nI (f_p i - 1))) &&& 63) = lN (2 ^ (f_p i - 1)) := by
    have := wb_shl 1 (k := f_p i - 1) (by omega)
    rw [Nat.one_mul] at this
    exact this
  have ein : (zL (f_least i + u) - (Int32.toInt64 (zI (f_least i)))) + (1 : Int64) = lN (u + 1) := by
    rw [zI_l (by omega) (by omega), show (1 : Int64) = zL 1 from rfl, zL_sub, zL_add, ← zL_nat]
    congr 1
    omega
  have einf : ∀ v0 : Int64, v0 = lN (f_inf i) → v0 <<< ((Int32.toInt64 (nI (f_p i - 1))) &&& 63) = lN (f_inf i * 2 ^ (f_p i - 1)) := by
    intro v0 h
    rw [h]
    exact wb_shl (f_inf i) (k := f_p i - 1) (by omega)
  have hinf63 : f_inf i * 2 ^ (f_p i - 1) < 2 ^ 63 := by
    have := f_sgn hi
    have h3 : 2 ^ (f_p i - 1 + f_e i) ≤ 2 ^ 63 := Nat.pow_le_pow_right (by decide) (by omega)
    omega
  have c0 : 0 ≤ lg_cmp (lN nw) (lN (2 ^ (f_p i - 1))) ↔ ¬ nw < 2 ^ (f_p i - 1) := by
    rw [lgc_ge, pk_lLT (by omega) (by omega)]
  have c1 : lg_cmp (lN (u + 1)) (2047 : Int64) ≤ 0 ↔ u + 1 ≤ 2047 := by
    rw [lgc_le0, show (2047 : Int64) = lN 2047 from rfl, pk_lLT (by decide) (by omega)]
    omega
  have k15 : ∀ v0 : Int64, v0 = lN (f_inf i) → gAt l G m_Mo_pack (wM G m ta fa wa th len ki pc be ma po ex fm to wh (zL (f_least i + u)) re 0 tx fg wd) (some (.long (lN (rc_bits (f_p i) (f_inf i) nw (u + 1))))) (wM G m ta fa wa th len ki pc be ma po ex fm to wh (zL (f_least i + u)) re 0 tx fg wd) 15 [(0, .ref m), (1, .long (lN nw)), (3, .int (nI (f_p i))), (4, .int (zI (f_least i)))] [.long v0] (wM G m ta fa wa th len ki pc be ma po ex fm to wh (zL (f_least i + u)) re 0 tx fg wd) := by
    intro v0 hv
    by_cases z : nw < 2 ^ (f_p i - 1)
    · have er : rc_bits (f_p i) (f_inf i) nw (u + 1) = nw := by unfold rc_bits; rw [if_pos z]
      rw [er]
      have nz : ¬ 0 ≤ lg_cmp (lN nw) ((1 : Int64) <<< ((Int32.toInt64 (nI (f_p i) - (1 : Int32))) &&& 63)) := by
        rw [ep1, e1, c0]
        omega
      exact b_Mo_pack_15 (fun y => absurd y nz) (fun y => absurd y nz) (fun y => absurd y nz) (fun y => absurd y nz) (fun y => absurd y nz) (fun _ => ⟨rfl, rfl⟩)
    · have pz : 0 ≤ lg_cmp (lN nw) ((1 : Int64) <<< ((Int32.toInt64 (nI (f_p i) - (1 : Int32))) &&& 63)) := by
        rw [ep1, e1, c0]
        exact z
      have er : rc_bits (f_p i) (f_inf i) nw (u + 1) = min ((u + 1) * 2 ^ (f_p i - 1) + (nw - 2 ^ (f_p i - 1))) (f_inf i * 2 ^ (f_p i - 1)) := by unfold rc_bits; rw [if_neg z]
      rw [er]
      by_cases y : u + 1 ≤ 2047
      · have hmul : (u + 1) * 2 ^ (f_p i - 1) ≤ 2047 * 2 ^ (f_p i - 1) := Nat.mul_le_mul_right _ y
        have epk : (((zL (f_least i + u) - (Int32.toInt64 (zI (f_least i)))) + (1 : Int64)) <<< ((Int32.toInt64 (nI (f_p i) - (1 : Int32))) &&& 63)) + (lN nw - ((1 : Int64) <<< ((Int32.toInt64 (nI (f_p i) - (1 : Int32))) &&& 63))) = lN ((u + 1) * 2 ^ (f_p i - 1) + (nw - 2 ^ (f_p i - 1))) := by
          rw [ein, ep1, e1, wb_shl (u + 1) (k := f_p i - 1) (by omega), lN_sub (by omega), lN_add]
        have hle63 : (u + 1) * 2 ^ (f_p i - 1) + (nw - 2 ^ (f_p i - 1)) ≤ 2 ^ 63 := by
          have : 2047 * 2 ^ (f_p i - 1) + 2 ^ (f_p i - 1) ≤ 2048 * 2 ^ 52 := by omega
          omega
        refine b_Mo_pack_15 (fun _ x => absurd rfl x) (fun _ _ _ x => b_Mo_pack_95 (b_Mo_pack_102 ⟨vl ?_, rfl⟩)) (fun _ _ _ x1 x2 => b_Mo_pack_102 ⟨vl ?_, rfl⟩) (fun _ _ _ x1 x2 => b_Mo_pack_95 (b_Mo_pack_102 ⟨vl ?_, rfl⟩)) (fun _ _ x => ?_) (fun x => absurd pz x)
        · rw [epk] at x
          rw [ep1, einf v0 hv]
          congr 1
          refine Nat.min_eq_right ?_
          rcases Nat.lt_or_ge ((u + 1) * 2 ^ (f_p i - 1) + (nw - 2 ^ (f_p i - 1))) (2 ^ 63) with v | v
          · rw [lgc_lt, show (0 : Int64) = lN 0 from rfl, pk_lLT v (by decide)] at x
            omega
          · omega
        · rw [epk] at x1 x2 ⊢
          have hv63 : (u + 1) * 2 ^ (f_p i - 1) + (nw - 2 ^ (f_p i - 1)) < 2 ^ 63 := by
            rcases Nat.lt_or_ge ((u + 1) * 2 ^ (f_p i - 1) + (nw - 2 ^ (f_p i - 1))) (2 ^ 63) with v | v
            · exact v
            · exfalso
              have v : (u + 1) * 2 ^ (f_p i - 1) + (nw - 2 ^ (f_p i - 1)) = 2 ^ 63 := by omega
              rw [v] at x1
              exact x1 (by decide +kernel)
          rw [ep1, einf v0 hv, lgc_le0, pk_lLT hinf63 hv63] at x2
          congr 1
          exact Nat.min_eq_left (by omega)
        · rw [epk] at x1 x2
          have hv63 : (u + 1) * 2 ^ (f_p i - 1) + (nw - 2 ^ (f_p i - 1)) < 2 ^ 63 := by
            rcases Nat.lt_or_ge ((u + 1) * 2 ^ (f_p i - 1) + (nw - 2 ^ (f_p i - 1))) (2 ^ 63) with v | v
            · exact v
            · exfalso
              have v : (u + 1) * 2 ^ (f_p i - 1) + (nw - 2 ^ (f_p i - 1)) = 2 ^ 63 := by omega
              rw [v] at x1
              exact x1 (by decide +kernel)
          rw [ep1, einf v0 hv, lgc_le0, pk_lLT hinf63 hv63] at x2
          rw [ep1, einf v0 hv]
          congr 1
          exact Nat.min_eq_right (by omega)
        · rw [ein] at x
          exact absurd (c1.mpr y) x
      · have hmul : 2048 * 2 ^ (f_p i - 1) ≤ (u + 1) * 2 ^ (f_p i - 1) := Nat.mul_le_mul_right _ (by omega)
        have hmul2 : f_inf i * 2 ^ (f_p i - 1) ≤ 2048 * 2 ^ (f_p i - 1) := Nat.mul_le_mul_right _ (by omega)
        have ny : ¬ lg_cmp ((zL (f_least i + u) - (Int32.toInt64 (zI (f_least i)))) + (1 : Int64)) (2047 : Int64) ≤ 0 := by
          rw [ein, c1]
          exact y
        refine b_Mo_pack_15 (fun _ x => absurd rfl x) (fun _ _ x => absurd x ny) (fun _ _ x => absurd x ny) (fun _ _ x => absurd x ny) (fun _ _ _ => b_Mo_pack_61 ⟨vl ?_, rfl⟩) (fun x => absurd pz x)
        rw [ep1, einf v0 hv]
        congr 1
        exact Nat.min_eq_right (by omega)
  have h53 : nI (f_p i) = (53 : Int32) ↔ f_p i = 53 := nI_eq (b := 53) (by omega) (by decide)
  refine gCt.mk (by decide +kernel) (Nat.le_of_ble_eq_true rfl) rfl (b_Mo_pack_0 (fun z => k15 _ ?_) (fun z => k15 _ ?_))
  · rcases (show i = 0 ∨ i = 1 by omega) with rfl | rfl
    · exact absurd (h53.mpr rfl) z
    · rfl
  · rcases (show i = 0 ∨ i = 1 by omega) with rfl | rfl
    · rfl
    · exact absurd (h53.mp z) (by decide)
/-- the bits that the model makes of what it found -/
def mB (i whole : Nat) (scale : Int) (rest : Nat) (huge : Bool) : Nat := if huge then f_inf i * 2 ^ (f_p i - 1) else rc_bits (f_p i) (f_inf i) (rc_up whole rest) ((scale - f_least i).toNat + 1)
theorem mF_rng {num den p whole rest : Nat} {least scale : Int} {huge : Bool} (h : mF num den p least whole scale rest huge) (hl1 : -2000 ≤ least) (hl2 : least ≤ 0) : whole < 2 ^ p ∧ least ≤ scale ∧ scale ≤ 10000 ∧ rest < 4 := by
  have hp := Nat.two_pow_pos p
  rcases h with ⟨_, h1, h2, h3, _⟩ | ⟨_, ⟨h1, h2, h3, h4⟩, _, h5⟩ | ⟨_, _, _, h1, h2, h3⟩ | ⟨_, _, _, h1, h2, h3⟩
  · exact ⟨by omega, by omega, by omega, by omega⟩
  · refine ⟨h3, h2, h5, ?_⟩
    have := (h1 (-scale).toNat scale.toNat (by omega)).2
    rw [this]
    unfold rc_cls
    split
    · decide
    · split
      · decide
      · split <;> decide
  · exact ⟨by omega, by omega, by omega, by omega⟩
  · exact ⟨by omega, by omega, by omega, by omega⟩
theorem c_Mo_sizeRead {ds : Nat → Nat} {i k M pt : Nat} {E : Int} {wh : Int64} (hi : i < 2) (hk : k < 2) (hM : M ≤ 4096) (hpt : pt ≤ 4096) (hds : ∀ j, j < M → ds j < (if k = 0 then 10 else 16)) (hfg : ∀ j, j < M → fg j = nI (ds j)) (hE1 : -20000000000 ≤ E) (hE2 : E ≤ 20000000000) :
    ∃ W2 fm2 to2 whole scale rest huge, gCt l G m_Mo_sizeRead [.ref m, .int (nI (f_p i)), .int (zI (f_least i))] (wM G m ta fa wa th len (nI k) pc be (nI M) (nI pt) (zL E) fm to wh sc re hu tx fg wd) (some (.long (lN (mB i whole scale rest huge)))) (wM G m ta fa wa th len (nI k) pc be (nI M) (nI pt) (zL E) fm2 to2 (lN whole) (zL scale) (nI rest) (bI huge) tx fg W2) ∧ mF (mNumV k ds M pt E) (mDenV k M pt E) (f_p i) (f_least i) whole scale rest huge := by
  obtain ⟨p1, p2, i1, i2, l1, l2⟩ := f_rng hi
  obtain ⟨W2, fm2, to2, whole, scale, rest, huge, c, hm⟩ := c_Mo_find (l := l) (G := G) (m := m) (ta := ta) (fa := fa) (wa := wa) (th := th) (len := len) (pc := pc) (be := be) (tx := tx) (fg := fg) (wd := wd) (p := f_p i) (least := f_least i) (fm := fm) (to := to) (wh := wh) (sc := sc) (re := re) (hu := hu) hk hM hpt hds hfg hE1 hE2 (by omega) (by omega) (by omega) (by omega)
  obtain ⟨r1, r2, r3, r4⟩ := mF_rng hm (by omega) (by omega)
  have hp53 : 2 ^ f_p i ≤ 2 ^ 53 := Nat.pow_le_pow_right (by decide) p2
  have k1 : nI k ≤ (1 : Int32) := nI_le (b := 1) (by omega) (by decide)
  refine ⟨W2, fm2, to2, whole, scale, rest, huge, gCt.mk (by decide +kernel) (Nat.le_of_ble_eq_true rfl) rfl (b_Mo_sizeRead_0 (fun _ => k_Mo_sizeRead_49 c ?_) (fun z => absurd k1 z) (fun z => absurd k1 z)), hm⟩
  have ep1 : nI (f_p i) - (1 : Int32) = nI (f_p i - 1) := pk_sub (b := 1) (by omega)
  have h53 : nI (f_p i) = (53 : Int32) ↔ f_p i = 53 := nI_eq (b := 53) (by omega) (by decide)
  cases huge with
  | true =>
    unfold mB
    rw [if_pos rfl]
    refine b_Mo_sizeRead_52 (fun z => absurd z (by decide)) (fun _ z => b_Mo_sizeRead_74 ⟨vl ?_, rfl⟩) (fun _ z => b_Mo_sizeRead_74 ⟨vl ?_, rfl⟩)
    · rcases (show i = 0 ∨ i = 1 by omega) with rfl | rfl
      · exact absurd (h53.mpr rfl) z
      · decide +kernel
    · rcases (show i = 0 ∨ i = 1 by omega) with rfl | rfl
      · decide +kernel
      · exact absurd (h53.mp z) (by decide)
  | false =>
    have eB : mB i whole scale rest false = rc_bits (f_p i) (f_inf i) (rc_up whole rest) ((scale - f_least i).toNat + 1) := rfl
    rw [eB]
    have hup := rc_up_le whole rest
    have cpk := c_Mo_pack (l := l) (G := G) (m := m) (ta := ta) (fa := fa) (wa := wa) (th := th) (len := len) (ki := nI k) (pc := pc) (be := be) (ma := nI M) (po := nI pt) (ex := zL E) (fm := fm2) (to := to2) (re := nI rest) (tx := tx) (fg := fg) (wd := W2) (i := i) (nw := rc_up whole rest) (u := (scale - f_least i).toNat) (wh := lN whole) hi (by omega) (by omega)
    rw [show f_least i + ((scale - f_least i).toNat : Nat) = scale by omega] at cpk
    refine b_Mo_sizeRead_52 (fun _ => k_Mo_sizeRead_81 (c_Mo_goesUp (by omega) r4) (b_Mo_sizeRead_84 (fun z => b_Mo_sizeRead_100 ?_) (fun z => b_Mo_sizeRead_100 ?_))) (fun z => absurd rfl z) (fun z => absurd rfl z)
    · have z := of_decide_eq_false (bI_0.mp z)
      have e : rc_up whole rest = whole := by unfold rc_up; rw [if_neg z]
      rw [e] at cpk ⊢
      exact k_Mo_sizeRead_102 cpk (b_Mo_sizeRead_105 ⟨rfl, rfl⟩)
    · have z : rest = 3 ∨ (rest = 2 ∧ whole % 2 = 1) := by
        by_cases y : rest = 3 ∨ (rest = 2 ∧ whole % 2 = 1)
        · exact y
        · exact absurd (bI_0.mpr (decide_eq_false y)) z
      have e : rc_up whole rest = whole + 1 := by unfold rc_up; rw [if_pos z]
      rw [e] at cpk ⊢
      rw [show (1 : Int64) = lN 1 from rfl, lN_add]
      exact k_Mo_sizeRead_102 cpk (b_Mo_sizeRead_105 ⟨rfl, rfl⟩)
end Mo12
