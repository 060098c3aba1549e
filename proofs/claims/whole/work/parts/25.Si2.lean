/-! CONTRACTS: Size, 2: a double, signs, order -/
def mD (b : Nat) : Nat := if b / 2 ^ 52 % 2048 = 0 then b % 2 ^ 52 else b % 2 ^ 52 + 2 ^ 52
def kD (b : Nat) : Int := if b / 2 ^ 52 % 2048 = 0 then -1074 else (b / 2 ^ 52 % 2048 : Nat) - 1075
section Si2
variable {l : Launch} {G : gG} {a c : Nat}
theorem a_Si_setDouble {w0 w1 : va_W} {z1 : Int64} {z2 z3 : Int32} {b : Nat} (hb : b < 2 ^ 64)
    (k : gAt l G m_Si_setDouble w0 none w1 24 [(0, .ref a), (1, .long (lN b)), (3, .int (nI (b / 2 ^ 52 % 2048))), (4, .long (lN (b % 2 ^ 52)))] [.int (nI 2047), .int (nI (b / 2 ^ 52 % 2048))] [oSi a z1 z2 z3]) :
    gAt l G m_Si_setDouble w0 none w1 0 [(0, .ref a), (1, .long (lN b))] [] [oSi a z1 z2 z3] :=
  b_Si_setDouble_0 (k_Si_setDouble_4 (c_Fm_exponentField hb) (b_Si_setDouble_7 (k_Si_setDouble_12 (c_Fm_lowField (by decide) hb) (b_Si_setDouble_15 (k_Si_setDouble_21 (c_Fm_infiniteField (by decide)) k)))))
theorem c_Si_setDoubleInf {z1 : Int64} {z2 z3 : Int32} {b : Nat} (hb : b < 2 ^ 64) (hf : b / 2 ^ 52 % 2048 = 2047) : gCt l G m_Si_setDouble [.ref a, .long (lN b)] [oSi a z1 z2 z3] none (wZ a (2 ^ 62) (nI 1073741824) false) := by
  refine gCt.mk (by decide +kernel) (Nat.le_of_ble_eq_true rfl) rfl (a_Si_setDouble hb ?_)
  rw [hf]
  exact b_Si_setDouble_24 (fun z => absurd rfl z) (fun z => absurd rfl z) (fun _ => k_Si_setDouble_28 c_Si_setInfinite (b_Si_setDouble_31 (b_Si_setDouble_73 ⟨rfl, rfl⟩)))
theorem a_Si_setD {w0 w1 : va_W} {z1 z4 : Int64} {z2 z3 z5 z6 : Int32} {b : Nat} (hb : b < 2 ^ 64) (hf : b / 2 ^ 52 % 2048 ≠ 2047) (hc : gCt l G m_Si_set [.ref a, .long (lN (mD b)), .int (zI (kD b))] [oSi a z1 z2 z3] none [oSi a z4 z5 z6])
    (k : [oSi a z4 z5 z6] = w1) : gAt l G m_Si_setDouble w0 none w1 0 [(0, .ref a), (1, .long (lN b))] [] [oSi a z1 z2 z3] := by
  have hne : ¬ nI (b / 2 ^ 52 % 2048) = nI 2047 := fun z => hf ((nI_eq (by omega) (by decide)).mp z)
  have h0 : nI (b / 2 ^ 52 % 2048) = 0 ↔ b / 2 ^ 52 % 2048 = 0 := nI_eq (b := 0) (by omega) (by decide)
  have hlow : b % 2 ^ 52 < 2 ^ 52 := Nat.mod_lt _ (by decide)
  unfold mD kD at hc
  refine a_Si_setDouble hb (b_Si_setDouble_24 (fun _ z => ?_) (fun _ z => ?_) (fun z => absurd z hne))
  · have z : ¬ b / 2 ^ 52 % 2048 = 0 := fun y => z (h0.mpr y)
    rw [if_neg z, if_neg z] at hc
    have e1 : lN (b % 2 ^ 52) ||| lN (2 ^ (f_p 0 - 1)) = lN (b % 2 ^ 52 + 2 ^ 52) := by
      have := g_or' (k := 52) (p := 2 ^ 52) (a := b % 2 ^ 52) (b := 1) rfl hlow (by omega)
      rw [Nat.one_mul] at this
      exact this
    have e2 : nI (b / 2 ^ 52 % 2048) - 1 + zI (f_least 0) = zI ((b / 2 ^ 52 % 2048 : Nat) - 1075) := by
      rw [← zI_nat, show (1 : Int32) = zI 1 from rfl, zI_sub, zI_add]
      congr 1
      show (_ : Int) - 1 + (-1074) = _
      omega
    refine k_Si_setDouble_59 (c_Fm_hiddenBit (by decide)) (b_Si_setDouble_62 (k_Si_setDouble_67 (c_Fm_exponentOf (by decide) _) ?_))
    rw [e1, e2]
    exact k_Si_setDouble_70 hc (b_Si_setDouble_73 ⟨rfl, k⟩)
  · have z := h0.mp z
    rw [if_pos z, if_pos z] at hc
    have e : g_eF1.2.2.2.getD 0 0 = zI (-1074) := e_least (i := 0) (by decide)
    rw [e]
    exact k_Si_setDouble_47 hc (b_Si_setDouble_50 (b_Si_setDouble_73 ⟨rfl, k⟩))
theorem c_Si_setDouble0 {z1 : Int64} {z2 z3 : Int32} {b : Nat} (hb : b < 2 ^ 64) (hf : b / 2 ^ 52 % 2048 ≠ 2047) (h0 : mD b = 0) : gCt l G m_Si_setDouble [.ref a, .long (lN b)] [oSi a z1 z2 z3] none (wZ a 0 (zI (kD b)) false) :=
  gCt.mk (by decide +kernel) (Nat.le_of_ble_eq_true rfl) rfl (a_Si_setD hb hf (by rw [h0]; exact c_Si_set0) rfl)
theorem mD_lt (b : Nat) : mD b < 2 ^ 53 := by
  have hlow : b % 2 ^ 52 < 2 ^ 52 := Nat.mod_lt _ (by decide)
  unfold mD
  split <;> omega
theorem c_Si_setDouble {z1 : Int64} {z2 z3 : Int32} {b j : Nat} (hb : b < 2 ^ 64) (hf : b / 2 ^ 52 % 2048 ≠ 2047) (h : bin (mD b) j) : gCt l G m_Si_setDouble [.ref a, .long (lN b)] [oSi a z1 z2 z3] none (wZ a (mD b * 2 ^ (62 - j)) (zI (kD b - (62 - j : Nat))) false) := by
  have hj : j < 53 := (bin_lt h 53).mp (mD_lt b)
  refine gCt.mk (by decide +kernel) (Nat.le_of_ble_eq_true rfl) rfl (a_Si_setD hb hf (c_Si_set h (by omega)) ?_)
  rw [← zI_nat, zI_sub]
theorem c_Si_signWith {lead : Nat} {pl : Int32} {rest ng : Bool} (hl : lead < 2 ^ 63) : gCt l G m_Si_signWith [.ref a, .int (bI ng)] (wZ a lead pl rest) (some (.int (if lead = 0 then 0 else if ng then -1 else 1))) (wZ a lead pl rest) := by
  have C := lg_cmp0 hl
  refine gCt.mk (by decide +kernel) (Nat.le_of_ble_eq_true rfl) rfl (b_Si_signWith_0 (fun z y => b_Si_signWith_20 ⟨vi ?_, rfl⟩) (fun z y => b_Si_signWith_20 ⟨vi ?_, rfl⟩) (fun z => ⟨vi ?_, rfl⟩))
  · rw [if_neg (fun q => z (C.mpr q)), bI_0.mp y]; rfl
  · rw [if_neg (fun q => z (C.mpr q))]
    cases ng with
    | true => rfl
    | false => exact absurd rfl y
  · rw [if_pos (C.mp z)]
/-- how a size lies to one that has no rest -/
def ordZ (lead : Nat) (pl : Int) (rest : Bool) (lead2 : Nat) (pl2 : Int) : Int :=
  if pl < pl2 then -1 else if pl2 < pl then 1 else if lead < lead2 then -1 else if lead2 < lead then 1 else if rest then 1 else 0
theorem c_Si_order {lead lead2 : Nat} {pl pl2 : Int} {rest rest2 : Bool} (hl : lead < 2 ^ 63) (hl2 : lead2 < 2 ^ 63) (p1 : -1073741900 ≤ pl) (p2 : pl ≤ 1073741900) (q1 : -1073741900 ≤ pl2) (q2 : pl2 ≤ 1073741900) :
    gCt l G m_Si_order [.ref a, .ref c] [oSi a (lN lead) (zI pl) (bI rest), oSi c (lN lead2) (zI pl2) (bI rest2)] (some (.int (zI (ordZ lead pl rest lead2 pl2)))) [oSi a (lN lead) (zI pl) (bI rest), oSi c (lN lead2) (zI pl2) (bI rest2)] := by
  have hp : zI pl = zI pl2 ↔ pl = pl2 := zI_eq (by omega) (by omega) (by omega) (by omega)
  have hpl : zI pl < zI pl2 ↔ pl < pl2 := zI_lt (by omega) (by omega) (by omega) (by omega)
  have hL : lN lead = lN lead2 ↔ lead = lead2 := pk_lEQ hl hl2
  have hLl : lN lead < lN lead2 ↔ lead < lead2 := pk_lLT hl hl2
  unfold ordZ
  refine gCt.mk (by decide +kernel) (Nat.le_of_ble_eq_true rfl) rfl (b_Si_order_0 (fun x y z => b_Si_order_59 ⟨vi ?_, rfl⟩) (fun x y z => b_Si_order_59 ⟨vi ?_, rfl⟩) (fun x y => k_Si_order_43 (c_JL_compare _ _) (b_Si_order_46 ⟨vi ?_, rfl⟩)) (fun x => k_Si_order_19 (c_JI_compare _ _) (b_Si_order_22 ⟨vi ?_, rfl⟩)))
  · have x := hp.mp x
    have y := hL.mp (lgc_eq.mp y)
    rw [bI_0.mp z, if_neg (by omega), if_neg (by omega), if_neg (by omega), if_neg (by omega)]
    rfl
  · have x := hp.mp x
    have y := hL.mp (lgc_eq.mp y)
    rw [if_neg (by omega), if_neg (by omega), if_neg (by omega), if_neg (by omega)]
    cases rest with
    | true => rfl
    | false => exact absurd rfl z
  · have x := hp.mp x
    have y : ¬ lead = lead2 := fun q => y (lgc_eq.mpr (hL.mpr q))
    rw [if_neg (by omega), if_neg (by omega)]
    by_cases q : lead < lead2
    · rw [if_pos q, if_pos (hLl.mpr q)]; rfl
    · rw [if_neg q, if_pos (by omega), if_neg (fun v => q (hLl.mp v)), if_neg (fun v => y (hL.mp v))]; rfl
  · have x : ¬ pl = pl2 := fun q => x (hp.mpr q)
    by_cases q : pl < pl2
    · rw [if_pos q, if_pos (hpl.mpr q)]; rfl
    · rw [if_neg q, if_pos (by omega), if_neg (fun v => q (hpl.mp v)), if_neg (fun v => x (hp.mp v))]; rfl
end Si2
