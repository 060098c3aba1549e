/-! THE LAW: turns, loop, beginning -/
section LawM
variable {l : Launch} {G : gG} {sa sn : Nat} {sf : Nat → Int32} {x t tq e m q s o r mo ta fa wa oa : Nat} {w0 : va_W} {Q : gE} {kc ns : Nat} {i : Int32} {ch : Nat → Nat} {n : Nat} {th : Int32} {w wm : va_W} {g : Nat → Int64}
theorem nI_int {j : Nat} (h : j < 2 ^ 31) : (nI j).toInt = j := by
  rw [← zI_nat]
  exact zI_toInt (by omega) (by omega)
theorem L_turn (hl9 : l.stackTraces = false) (v1 : vp_in (i + 1) sn) (v2 : vp_in (i + 2) sn) (hr : lR kc ns) (hX : XI G x t tq e m q s o r ch n w) (hM : MI G mo ta fa wa ch n th wm) (k : lK l G sa sn sf x t tq e m q s o r mo ta fa wa oa w0 Q (kc + 1) (ns + 6) i) (v : Int32) :
    gA3 l G mx_La_law (tbL sa sn sf) w0 Q kc ns 39 [(0, .ref sa), (1, .ref x), (2, .ref mo), (3, .ref oa), (4, .int i)] [.int (v &&& (15 : Int32))] (lw G w wm oa g) := by
  obtain ⟨a, rfl⟩ := i_any v
  rw [show (15 : Int32) = nI 15 from rfl, nx_and]
  have hj : a &&& 15 < 16 := Nat.lt_succ_of_le Nat.and_le_right
  generalize a &&& 15 = j at hj
  rcases (show j = 0 ∨ j = 1 ∨ j = 2 ∨ j = 3 ∨ j = 4 ∨ j = 5 ∨ j = 6 ∨ j = 7 ∨ j = 8 ∨ j = 9 ∨ 10 ≤ j by omega) with rfl | rfl | rfl | rfl | rfl | rfl | rfl | rfl | rfl | rfl | h10
  · exact z_tsI 92 dLa_law_39 (by decide) (by decide) rfl (by decide) (L_write v1 v2 hr hX hM k)
  · exact z_tsI 149 dLa_law_39 (by decide) (by decide) rfl (by decide) (L_repeat hl9 v1 v2 hr hX hM k)
  · exact z_tsI 217 dLa_law_39 (by decide) (by decide) rfl (by decide) (L_cut hl9 v1 hr hX hM k)
  · exact z_tsI 273 dLa_law_39 (by decide) (by decide) rfl (by decide) (L_wipe hr hX hM k)
  · exact z_tsI 286 dLa_law_39 (by decide) (by decide) rfl (by decide) (L_kind hr hX hM k)
  · exact z_tsI 299 dLa_law_39 (by decide) (by decide) rfl (by decide) (L_fault hr hX hM k)
  · exact z_tsI 312 dLa_law_39 (by decide) (by decide) rfl (by decide) (L_bits hl9 hr hX hM k)
  · exact z_tsI 355 dLa_law_39 (by decide) (by decide) rfl (by decide) (L_floatBits hl9 hr hX hM k)
  · exact z_tsI 399 dLa_law_39 (by decide) (by decide) rfl (by decide) (L_side hl9 v1 hr hX hM k)
  · exact z_tsI 471 dLa_law_39 (by decide) (by decide) rfl (by decide) (L_compare hl9 v1 v2 hr hX hM k)
  · refine z_tsO 559 dLa_law_39 (Or.inr ?_) (by decide) (gA3.down (Nat.le_succ _) (Nat.le_add_right _ _) (k _ _ _ _ _ g hX hM))
    rw [nI_int (by omega)]
    omega
theorem L_loop (hl9 : l.stackTraces = false) (hsn : sn ≤ 1536) (kR : ∀ kc ns lv ws, kc ≤ 1045 → ns ≤ 21473 → gA3 l G mx_La_law (tbL sa sn sf) w0 Q kc ns 566 lv [.int 1] ws) :
    ∀ (d c : Nat) (ch : Nat → Nat) (n : Nat) (th : Int32) (w wm : va_W) (g : Nat → Int64), c + d = sn / 3 → XI G x t tq e m q s o r ch n w → MI G mo ta fa wa ch n th wm →
      gA3 l G mx_La_law (tbL sa sn sf) w0 Q (14 + c) (13239 + 6 * c) 23 [(0, .ref sa), (1, .ref x), (2, .ref mo), (3, .ref oa), (4, .int (nI (3 * c)))] [] (lw G w wm oa g) := by
  intro d
  induction d with
  | zero =>
    intro c ch n th w wm g hc hX hM
    obtain ⟨row, len, sc, me, at_, fo, wr, ne, df, dt, sg, fr, ex, W, ns_, ng_, nw, s1, s2, s3, o1, o2, o3, rm, rk, rf, rl, rfl, T, hs⟩ := hX
    obtain ⟨len9, ki9, pc9, be9, ma9, po9, ex9, fm9, to9, wh9, sc9, re9, hu9, tx9, fg9, wd9, rfl, T9⟩ := hM
    have hlt : Int32.ofNat sn - (3 : Int32) < nI (3 * c) := by
      show nI sn - zI 3 < _
      rw [← zI_nat, ← zI_nat, zI_sub]
      exact (zI_lt (by omega) (by omega) (by omega) (by omega)).mpr (by omega)
    exact B_La_law_23 (fun _ => kR _ _ _ _ (by omega) (by omega)) (fun z => absurd hlt z) (fun z => absurd hlt z)
  | succ d ih =>
    intro c ch n th w wm g hc hX hM
    have hlt : ¬ Int32.ofNat sn - (3 : Int32) < nI (3 * c) := by
      show ¬ nI sn - zI 3 < _
      rw [← zI_nat, ← zI_nat, zI_sub]
      intro z
      have := (zI_lt (by omega) (by omega) (by omega) (by omega)).mp z
      omega
    have e1 : nI (3 * c) + (1 : Int32) = nI (3 * c + 1) := nI_1 _
    have e2 : nI (3 * c) + (2 : Int32) = nI (3 * c + 2) := by
      rw [show (2 : Int32) = nI 2 from rfl, ← zI_nat, ← zI_nat, ← zI_nat, zI_add]
      rfl
    have e3 : nI (3 * c) + (3 : Int32) = nI (3 * (c + 1)) := by
      rw [show (3 : Int32) = nI 3 from rfl, ← zI_nat, ← zI_nat, ← zI_nat, zI_add]
      rfl
    have v0 : vp_in (nI (3 * c)) sn := vp_in_nI (by omega) (by omega)
    have v1 : vp_in (nI (3 * c) + 1) sn := by rw [e1]; exact vp_in_nI (by omega) (by omega)
    have v2 : vp_in (nI (3 * c) + 2) sn := by rw [e2]; exact vp_in_nI (by omega) (by omega)
    have hr : lR (14 + c) (13239 + 6 * c) := by
      constructor
      · show 14 + c + 1 ≤ 1045
        omega
      · show 13239 + 6 * c + 6 ≤ 21473
        omega
    have hk : lK l G sa sn sf x t tq e m q s o r mo ta fa wa oa w0 Q (14 + c + 1) (13239 + 6 * c + 6) (nI (3 * c)) := by
      intro ch2 n2 th2 w2 wm2 g2 hX2 hM2
      have h := ih (c + 1) ch2 n2 th2 w2 wm2 g2 (by omega) hX2 hM2
      rw [← e3, show 14 + (c + 1) = 14 + c + 1 by omega, show 13239 + 6 * (c + 1) = 13239 + 6 * c + 6 by omega] at h
      obtain ⟨row, len, sc, me, at_, fo, wr, ne, df, dt, sg, fr, ex, W, ns_, ng_, nw, s1, s2, s3, o1, o2, o3, rm, rk, rf, rl, rfl, T, hs⟩ := hX2
      obtain ⟨len9, ki9, pc9, be9, ma9, po9, ex9, fm9, to9, wh9, sc9, re9, hu9, tx9, fg9, wd9, rfl, T9⟩ := hM2
      exact B_La_law_559 h
    have ht := L_turn (g := g) hl9 v1 v2 hr hX hM hk (sf (Int32.toNatClampNeg (nI (3 * c))))
    obtain ⟨row, len, sc, me, at_, fo, wr, ne, df, dt, sg, fr, ex, W, ns_, ng_, nw, s1, s2, s3, o1, o2, o3, rm, rk, rf, rl, rfl, T, hs⟩ := hX
    obtain ⟨len9, ki9, pc9, be9, ma9, po9, ex9, fm9, to9, wh9, sc9, re9, hu9, tx9, fg9, wd9, rfl, T9⟩ := hM
    exact B_La_law_23 (fun z => absurd z hlt) (fun _ => v0) (fun _ => ht)
end LawM
