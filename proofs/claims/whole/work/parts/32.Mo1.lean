/-! CONTRACTS: the model, 1: its text -/
theorem sar_byte {b k : Nat} (hb : b < 2 ^ 64) (hk : k ≤ 56) : (lN b >>> ((nI k).toInt64 &&& 63)) &&& (255 : Int64) = lN (b / 2 ^ k % 256) := by
  rw [wb_c k (by omega)]
  apply wb_inj
  rw [Int64.toBitVec_and, Int64.toBitVec_shiftRight, wb_tb, wb_tb, wb_tb, wb_sm k (by omega)]
  apply BitVec.eq_of_getLsbD_eq
  intro i hi
  show ((BitVec.ofNat 64 b).sshiftRight (BitVec.ofNat 64 k).toNat &&& BitVec.ofNat 64 (2 ^ 8 - 1)).getLsbD i = (BitVec.ofNat 64 (b / 2 ^ k % 2 ^ 8)).getLsbD i
  rw [BitVec.toNat_ofNat, Nat.mod_eq_of_lt (show k < 2 ^ 64 by omega), BitVec.getLsbD_and, BitVec.getLsbD_sshiftRight, BitVec.getLsbD_ofNat, BitVec.getLsbD_ofNat, BitVec.getLsbD_ofNat, Nat.testBit_two_pow_sub_one, Nat.testBit_mod_two_pow, Nat.testBit_div_two_pow]
  by_cases z : i < 8
  · have h1 : k + i < 64 := by omega
    have h2 : ¬ 64 ≤ i := by omega
    simp [z, h1, h2, hi, Nat.add_comm]
  · simp [z]
section Mo1
variable {l : Launch} {G : gG} {m ta fa wa : Nat} {th len ki pc be ma po : Int32} {ex : Int64} {fm to : Int32} {wh sc : Int64} {re hu : Int32} {tx fg wd : Nat → Int32} {ch : Nat → Nat} {n p : Nat}
abbrev wM (G : gG) (m ta fa wa : Nat) (th len ki pc be ma po : Int32) (ex : Int64) (fm to : Int32) (wh sc : Int64) (re hu : Int32) (tx fg wd : Nat → Int32) : va_W :=
  [oMo m th ta len ki pc be fa ma po ex wa fm to wh sc re hu, aI G ta 4096 tx, aI G fa 4096 fg, aI G wa 800 wd]
theorem c_Mo_thrown : gCt l G m_Mo_thrown [.ref m] (wM G m ta fa wa th len ki pc be ma po ex fm to wh sc re hu tx fg wd) (some (.int th)) (wM G m ta fa wa th len ki pc be ma po ex fm to wh sc re hu tx fg wd) :=
  gCt.mk (by decide +kernel) (Nat.le_of_ble_eq_true rfl) rfl (b_Mo_thrown_0 ⟨rfl, rfl⟩)
theorem c_Mo_wipe : gCt l G m_Mo_wipe [.ref m] (wM G m ta fa wa th len ki pc be ma po ex fm to wh sc re hu tx fg wd) (some (.int len)) (wM G m ta fa wa 0 0 ki pc be ma po ex fm to wh sc re hu tx fg wd) :=
  gCt.mk (by decide +kernel) (Nat.le_of_ble_eq_true rfl) rfl (b_Mo_wipe_0 ⟨rfl, rfl⟩)
theorem c_Mo_here (T : tOk tx len ch n) (hp : p < 2 ^ 31) : gCt l G m_Mo_here [.ref m] (wM G m ta fa wa th len ki (nI p) be ma po ex fm to wh sc re hu tx fg wd) (some (.int (nI (ch p)))) (wM G m ta fa wa th len ki (nI p) be ma po ex fm to wh sc re hu tx fg wd) := by
  have hn := T.2.1.1
  have hlen : len = nI n := T.1
  subst hlen
  have hle : nI n ≤ nI p ↔ n ≤ p := nI_leI (by omega) hp
  refine gCt.mk (by decide +kernel) (Nat.le_of_ble_eq_true rfl) rfl (b_Mo_here_0 (fun z => b_Mo_here_24 ⟨vi ?_, rfl⟩) (fun z => vp_in_nI ?_ (by decide)) (fun z => b_Mo_here_24 ⟨vi ?_, rfl⟩))
  · rw [T.2.1.2.2 p (hle.mp z)]; rfl
  · have : ¬ n ≤ p := fun y => z (hle.mpr y)
    omega
  · have : ¬ n ≤ p := fun y => z (hle.mpr y)
    rw [nI_clamp hp, T.2.2 p (by omega)]
theorem c_Mo_write {b : Nat} (hb : b < 2 ^ 64) (T : tOk tx len ch n) :
    ∃ tx2, gCt l G m_Mo_write [.ref m, .long (lN b)] (wM G m ta fa wa th len ki pc be ma po ex fm to wh sc re hu tx fg wd) (some (.int (if n + wrN b 8 ≤ 4096 then nI (n + wrN b 8) else -1))) (wM G m ta fa wa 0 (nI (if n + wrN b 8 ≤ 4096 then n + wrN b 8 else n)) ki pc be ma po ex fm to wh sc re hu tx2 fg wd) ∧ tOk tx2 (nI (if n + wrN b 8 ≤ 4096 then n + wrN b 8 else n)) (if n + wrN b 8 ≤ 4096 then wrC b 8 ch n else ch) (if n + wrN b 8 ≤ 4096 then n + wrN b 8 else n) := by
  have hn := T.2.1.1
  have hle := wrN_le b 8
  have hlen : len = nI n := T.1
  subst hlen
  have e64 : ∀ i, i < 8 → ¬ (64 : Int32) ≤ nI (8 * i) := fun i hi z => by have := (nI_leI (a := 64) (by decide) (by omega)).mp z; omega
  have eb : ∀ i, i < 8 → (lN b >>> ((Int32.toInt64 (nI (8 * i))) &&& 63)) &&& (255 : Int64) = lN (byt b i) := fun i hi => sar_byte hb (by omega)
  have e8 : ∀ i, nI (8 * i) + (8 : Int32) = nI (8 * (i + 1)) := fun i => by
    rw [show (8 : Int32) = nI 8 from rfl, nI_add]
    rfl
  have hfitI : (nI n + nI (0 + wrN b 8) ≤ (4096 : Int32)) ↔ n + wrN b 8 ≤ 4096 := by
    rw [nI_add, Nat.zero_add]
    exact nI_leI (b := 4096) (by omega) (by decide)
  have L1 : ∀ (k i c : Nat) (w0 w1 : va_W) (res : Option Value), i + k = 8 → c + k ≤ 8 →
      (gAt l G m_Mo_write w0 res w1 10 [(0, .ref m), (1, .long (lN b)), (3, .int (nI (c + wrN b k))), (4, .int (nI 64))] [] (wM G m ta fa wa 0 (nI n) ki pc be ma po ex fm to wh sc re hu tx fg wd)) →
      gAt l G m_Mo_write w0 res w1 10 [(0, .ref m), (1, .long (lN b)), (3, .int (nI c)), (4, .int (nI (8 * i)))] [] (wM G m ta fa wa 0 (nI n) ki pc be ma po ex fm to wh sc re hu tx fg wd) := by
    intro k
    induction k with
    | zero =>
      intro i c w0 w1 res hi hc fin
      have : i = 8 := by omega
      subst this
      exact fin
    | succ k ih =>
      intro i c w0 w1 res hi hc fin
      have ei : 7 - k = i := by omega
      have hbl := byt_lt b i
      have C0 := lg_cmp0 (a := byt b i) (by omega)
      rw [wrN, ei] at fin
      refine b_Mo_write_10 (fun z => absurd z (e64 i (by omega))) (fun z => absurd z (e64 i (by omega))) (fun _ z => b_Mo_write_37 ?_) (fun _ z => b_Mo_write_37 ?_)
      · rw [eb i (by omega)] at z
        rw [if_pos (C0.mp z), Nat.zero_add] at fin
        rw [e8]
        exact ih (i + 1) c w0 w1 res (by omega) (by omega) fin
      · rw [eb i (by omega)] at z
        rw [if_neg (fun y => z (C0.mpr y)), ← Nat.add_assoc] at fin
        have e2 : nI c + (1 : Int32) = nI (c + 1) := nI_1 c
        rw [e8, e2]
        exact ih (i + 1) (c + 1) w0 w1 res (by omega) (by omega) fin
  by_cases hfit : n + wrN b 8 ≤ 4096
  · rw [if_pos hfit, if_pos hfit, if_pos hfit]
    have L2 : ∀ (k i c : Nat) (ch : Nat → Nat) (tx : Nat → Int32) (w0 : va_W) (x3 : Int32), i + k = 8 → c + wrN b k ≤ 4096 → tOk tx (nI c) ch c →
        ∃ tx2, gAt l G m_Mo_write w0 (some (.int (nI (c + wrN b k)))) (wM G m ta fa wa 0 (nI (c + wrN b k)) ki pc be ma po ex fm to wh sc re hu tx2 fg wd) 61 [(0, .ref m), (1, .long (lN b)), (3, .int x3), (4, .int (nI (8 * i)))] [] (wM G m ta fa wa 0 (nI c) ki pc be ma po ex fm to wh sc re hu tx fg wd) ∧ tOk tx2 (nI (c + wrN b k)) (wrC b k ch c) (c + wrN b k) := by
      intro k
      induction k with
      | zero =>
        intro i c ch tx w0 x3 hi hc T
        have : i = 8 := by omega
        subst this
        have hge : (64 : Int32) ≤ nI (8 * 8) := by decide +kernel
        exact ⟨tx, b_Mo_write_61 (fun _ => ⟨rfl, rfl⟩) (fun z => absurd hge z) (fun z => absurd hge z) (fun z => absurd hge z), T⟩
      | succ k ih =>
        intro i c ch tx w0 x3 hi hc T
        have ei : 7 - k = i := by omega
        have hbl := byt_lt b i
        have h0 : nI (byt b i) = 0 ↔ byt b i = 0 := nI_eq (b := 0) (by omega) (by decide)
        rw [wrN, ei] at hc
        rw [wrN, wrC, ei]
        by_cases z : byt b i = 0
        · rw [if_pos z, Nat.zero_add] at hc
          rw [if_pos z, if_pos z, Nat.zero_add]
          obtain ⟨tx2, h1, h2⟩ := ih (i + 1) c ch tx w0 x3 (by omega) hc T
          refine ⟨tx2, b_Mo_write_61 (fun y => absurd y (e64 i (by omega))) (fun _ y => b_Mo_write_105 ?_) (fun _ y => ?_) (fun _ y => ?_), h2⟩
          · rw [e8]; exact h1
          · rw [eb i (by omega), lN_i] at y; exact absurd (h0.mpr z) y
          · rw [eb i (by omega), lN_i] at y; exact absurd (h0.mpr z) y
        · rw [if_neg z] at hc
          rw [if_neg z, if_neg z, show c + (1 + wrN b k) = c + 1 + wrN b k by omega]
          obtain ⟨tx2, h1, h2⟩ := ih (i + 1) (c + 1) (apC ch c (byt b i)) (upd tx c (nI (byt b i))) w0 x3 (by omega) (by omega) (tOk_app T (by omega) (by omega) (by omega))
          refine ⟨tx2, b_Mo_write_61 (fun y => absurd y (e64 i (by omega))) (fun _ y => ?_) (fun _ y => vp_in_nI (by omega) (by decide)) (fun _ y => b_Mo_write_105 ?_), h2⟩
          · rw [eb i (by omega), lN_i] at y; exact absurd (h0.mp y) z
          · have e2 : nI c + (1 : Int32) = nI (c + 1) := nI_1 c
            rw [e8, eb i (by omega), lN_i, nI_clamp (by omega), e2]
            exact h1
    obtain ⟨tx2, h1, h2⟩ := L2 8 0 n ch tx (wM G m ta fa wa th (nI n) ki pc be ma po ex fm to wh sc re hu tx fg wd) (nI (0 + wrN b 8)) rfl hfit T
    have hge : (64 : Int32) ≤ nI 64 := by decide +kernel
    exact ⟨tx2, gCt.mk (by decide +kernel) (Nat.le_of_ble_eq_true rfl) rfl (b_Mo_write_0 (L1 8 0 0 _ _ _ rfl (by decide) (b_Mo_write_10 (fun _ _ => h1) (fun _ z => absurd (hfitI.mpr hfit) z) (fun z => absurd hge z) (fun z => absurd hge z)))), h2⟩
  · rw [if_neg hfit, if_neg hfit, if_neg hfit]
    have hge : (64 : Int32) ≤ nI 64 := by decide +kernel
    exact ⟨tx, gCt.mk (by decide +kernel) (Nat.le_of_ble_eq_true rfl) rfl (b_Mo_write_0 (L1 8 0 0 _ _ _ rfl (by decide) (b_Mo_write_10 (fun _ z => absurd (hfitI.mp z) hfit) (fun _ _ => ⟨rfl, rfl⟩) (fun z => absurd hge z) (fun z => absurd hge z)))), T⟩
/-- c characters, n times -/
def rpC (ch : Nat → Nat) (n c k : Nat) : Nat → Nat := fun j => if n ≤ j ∧ j < n + k then c else ch j
theorem rpC_0 (ch : Nat → Nat) (n c : Nat) : rpC ch n c 0 = ch := by
  funext j
  unfold rpC
  rw [if_neg (by omega)]
theorem rpC_s (ch : Nat → Nat) (n c k : Nat) : apC (rpC ch n c k) (n + k) c = rpC ch n c (k + 1) := by
  funext j
  unfold apC rpC
  by_cases z : j = n + k
  · rw [if_pos z, if_pos (by omega)]
  · rw [if_neg z]
    by_cases y : n ≤ j ∧ j < n + k
    · rw [if_pos y, if_pos (by omega)]
    · rw [if_neg y, if_neg (by omega)]
theorem c_Mo_repeatBad {c k : Int32} (h : c < 1 ∨ (255 : Int32) < c ∨ k < 0) : gCt l G m_Mo_repeat [.ref m, .int c, .int k] (wM G m ta fa wa th len ki pc be ma po ex fm to wh sc re hu tx fg wd) (some (.int 0)) (wM G m ta fa wa 1 len ki pc be ma po ex fm to wh sc re hu tx fg wd) := by
  have bad : gAt l G m_Mo_repeat (wM G m ta fa wa th len ki pc be ma po ex fm to wh sc re hu tx fg wd) (some (.int 0)) (wM G m ta fa wa 1 len ki pc be ma po ex fm to wh sc re hu tx fg wd) 17 [(0, .ref m), (1, .int c), (2, .int k)] [.ref m] (wM G m ta fa wa th len ki pc be ma po ex fm to wh sc re hu tx fg wd) :=
    b_Mo_repeat_17 (b_Mo_repeat_22 (fun z => absurd z (by decide)) (fun z => absurd z (by decide)) (fun _ => ⟨rfl, rfl⟩))
  refine gCt.mk (by decide +kernel) (Nat.le_of_ble_eq_true rfl) rfl (b_Mo_repeat_0 (fun _ => bad) (fun _ _ => bad) (fun z1 z2 z3 => ?_) (fun _ _ _ => bad))
  rcases h with h | h | h
  · exact absurd h z1
  · exact absurd h z2
  · exact absurd h (Int32.not_lt.mpr z3)
theorem c_Mo_repeat {c k : Nat} (T : tOk tx len ch n) (hc1 : 1 ≤ c) (hc2 : c ≤ 255) (hk : k < 2 ^ 31) :
    ∃ tx2, gCt l G m_Mo_repeat [.ref m, .int (nI c), .int (nI k)] (wM G m ta fa wa th len ki pc be ma po ex fm to wh sc re hu tx fg wd) (some (.int (if k ≤ 4096 - n then nI (n + k) else -1))) (wM G m ta fa wa 0 (nI (if k ≤ 4096 - n then n + k else n)) ki pc be ma po ex fm to wh sc re hu tx2 fg wd) ∧ tOk tx2 (nI (if k ≤ 4096 - n then n + k else n)) (if k ≤ 4096 - n then rpC ch n c k else ch) (if k ≤ 4096 - n then n + k else n) := by
  have hn := T.2.1.1
  have hlen : len = nI n := T.1
  subst hlen
  have h1 : ¬ nI c < (1 : Int32) := fun z => by have := (nI_ltI (b := 1) (by omega) (by decide)).mp z; omega
  have h2 : ¬ (255 : Int32) < nI c := fun z => by have := (nI_ltI (a := 255) (by decide) (by omega)).mp z; omega
  have h3 : (0 : Int32) ≤ nI k := nI_le (a := 0) (Nat.zero_le _) hk
  have e4 : (4096 : Int32) - nI n = nI (4096 - n) := pk_sub (a := 4096) hn
  have h4 : nI k ≤ (4096 : Int32) - nI n ↔ k ≤ 4096 - n := by
    rw [e4]
    exact nI_leI hk (by omega)
  by_cases hfit : k ≤ 4096 - n
  · rw [if_pos hfit, if_pos hfit, if_pos hfit]
    have L : ∀ (d i : Nat) (tx : Nat → Int32) (w0 : va_W), i + d = k → tOk tx (nI (n + i)) (rpC ch n c i) (n + i) →
        ∃ tx2, gAt l G m_Mo_repeat w0 (some (.int (nI (n + k)))) (wM G m ta fa wa 0 (nI (n + k)) ki pc be ma po ex fm to wh sc re hu tx2 fg wd) 50 [(0, .ref m), (1, .int (nI c)), (2, .int (nI k)), (3, .int (nI i))] [] (wM G m ta fa wa 0 (nI (n + i)) ki pc be ma po ex fm to wh sc re hu tx fg wd) ∧ tOk tx2 (nI (n + k)) (rpC ch n c k) (n + k) := by
      intro d
      induction d with
      | zero =>
        intro i tx w0 hi T
        have : i = k := by omega
        subst this
        exact ⟨tx, b_Mo_repeat_50 (fun _ => ⟨rfl, rfl⟩) (fun z => absurd (Int32.le_refl _) z) (fun z => absurd (Int32.le_refl _) z), T⟩
      | succ d ih =>
        intro i tx w0 hi T
        have hlt : ¬ nI k ≤ nI i := fun z => by have := (nI_leI (by omega) (by omega)).mp z; omega
        have T2 := tOk_app T (by omega : n + i < 4096) hc1 hc2
        rw [rpC_s] at T2
        obtain ⟨tx2, g1, g2⟩ := ih (i + 1) (upd tx (n + i) (nI c)) w0 (by omega) T2
        refine ⟨tx2, b_Mo_repeat_50 (fun z => absurd z hlt) (fun _ => vp_in_nI (by omega) (by decide)) (fun _ => ?_), g2⟩
        have e1 : nI i + (1 : Int32) = nI (i + 1) := nI_1 i
        have e2 : nI (n + i) + (1 : Int32) = nI (n + (i + 1)) := nI_1 (n + i)
        rw [e1, e2, nI_clamp (by omega)]
        exact g1
    obtain ⟨tx2, g1, g2⟩ := L k 0 tx (wM G m ta fa wa th (nI n) ki pc be ma po ex fm to wh sc re hu tx fg wd) (by omega) (by rw [rpC_0]; exact T)
    exact ⟨tx2, gCt.mk (by decide +kernel) (Nat.le_of_ble_eq_true rfl) rfl (b_Mo_repeat_0 (fun z => absurd z h1) (fun _ z => absurd z h2) (fun _ _ _ => b_Mo_repeat_22 (fun _ _ => g1) (fun _ z => absurd (h4.mpr hfit) z) (fun z => absurd (by decide) z)) (fun _ _ z => absurd h3 z)), g2⟩
  · rw [if_neg hfit, if_neg hfit, if_neg hfit]
    exact ⟨tx, gCt.mk (by decide +kernel) (Nat.le_of_ble_eq_true rfl) rfl (b_Mo_repeat_0 (fun z => absurd z h1) (fun _ z => absurd z h2) (fun _ _ _ => b_Mo_repeat_22 (fun _ z => absurd (h4.mp z) hfit) (fun _ _ => ⟨rfl, rfl⟩) (fun z => absurd (by decide) z)) (fun _ _ z => absurd h3 z)), T⟩
theorem c_Mo_cutBad {k : Int32} (h : k < 0) : gCt l G m_Mo_cut [.ref m, .int k] (wM G m ta fa wa th len ki pc be ma po ex fm to wh sc re hu tx fg wd) (some (.int 0)) (wM G m ta fa wa 1 len ki pc be ma po ex fm to wh sc re hu tx fg wd) :=
  gCt.mk (by decide +kernel) (Nat.le_of_ble_eq_true rfl) rfl (b_Mo_cut_0 (fun z => absurd h (Int32.not_lt.mpr z)) (fun _ => b_Mo_cut_10 (fun z => absurd z (by decide)) (fun z => absurd z (by decide)) (fun _ => ⟨rfl, rfl⟩)))
theorem c_Mo_cut {k : Nat} (hn : n ≤ 4096) (hk : k < 2 ^ 31) : gCt l G m_Mo_cut [.ref m, .int (nI k)] (wM G m ta fa wa th (nI n) ki pc be ma po ex fm to wh sc re hu tx fg wd) (some (.int (nI (n - k)))) (wM G m ta fa wa 0 (nI (n - k)) ki pc be ma po ex fm to wh sc re hu tx fg wd) := by
  have h3 : (0 : Int32) ≤ nI k := nI_le (a := 0) (Nat.zero_le _) hk
  have hle : nI k ≤ nI n ↔ k ≤ n := nI_leI hk (by omega)
  refine gCt.mk (by decide +kernel) (Nat.le_of_ble_eq_true rfl) rfl (b_Mo_cut_0 (fun _ => b_Mo_cut_10 (fun _ z => b_Mo_cut_41 ?_) (fun _ z => b_Mo_cut_41 ?_) (fun z => absurd (by decide) z)) (fun z => absurd h3 z))
  · have e : nI n - nI k = nI (n - k) := pk_sub (hle.mp z)
    rw [e]
    exact ⟨rfl, rfl⟩
  · have : ¬ k ≤ n := fun y => z (hle.mpr y)
    rw [show n - k = 0 by omega]
    exact ⟨rfl, rfl⟩
end Mo1
