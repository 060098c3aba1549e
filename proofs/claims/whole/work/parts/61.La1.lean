/-! CONTRACTS: the law's helpers -/
theorem vp01 : vp_in 0 1 := by unfold vp_in; decide
section La1
variable {l : Launch} {G : gG} {x t tq e m q s o r oa : Nat} {g : Nat → Int64} {ch : Nat → Nat} {n : Nat} {w : va_W}
theorem h_repeatBad {c k : Int32} (hl9 : l.stackTraces = false) (hX : XI G x t tq e m q s o r ch n w) (h : c < 1 ∨ (255 : Int32) < c ∨ k < 0) : gCW l G mx_La_repeat hh_La_repeat [.ref x, .int c, .int k, .ref oa] (w ++ [aL G oa 1 g]) (some (.int 1)) (w ++ [aL G oa 1 g]) 1 6 := by
  have c := x_repeatBad hl9 hX h
  obtain ⟨row, len, sc, me, at_, fo, wr, ne, df, dt, sg, fr, ex, W, ns, ng, nw, s1, s2, s3, o1, o2, o3, rm, rk, rf, rl, rfl, T, hs⟩ := hX
  exact gCW.mk (by decide +kernel) (Nat.le_of_ble_eq_true rfl) rfl (B_La_repeat_0 (KX0_La_repeat_5 c (by decide) (by decide) (fun _ => B_La_repeat_13 ⟨1, 6, rfl, by decide, by decide⟩)))
theorem h_repeat {c k : Nat} (hX : XI G x t tq e m q s o r ch n w) (hc1 : 1 ≤ c) (hc2 : c ≤ 255) (hk : k < 2 ^ 31) :
    ∃ w2, gCW l G mx_La_repeat hh_La_repeat [.ref x, .int (nI c), .int (nI k), .ref oa] (w ++ [aL G oa 1 g]) (some (.int 0)) (w2 ++ [aL G oa 1 (vp_updL g (Int32.toNatClampNeg 0) (Int32.toInt64 (if k ≤ 4096 - n then nI (n + k) else -1)))]) 1 6 ∧ XI G x t tq e m q s o r (if k ≤ 4096 - n then rpC ch n c k else ch) (if k ≤ 4096 - n then n + k else n) w2 := by
  obtain ⟨w2, c, hX2⟩ := x_repeat (l := l) hX hc1 hc2 hk
  obtain ⟨row, len, sc, me, at_, fo, wr, ne, df, dt, sg, fr, ex, W, ns, ng, nw, s1, s2, s3, o1, o2, o3, rm, rk, rf, rl, rfl, T, hs⟩ := hX
  obtain ⟨row', len', sc', me', at_', fo', wr', ne', df', dt', sg', fr', ex', W', ns', ng', nw', s1', s2', s3', o1', o2', o3', rm', rk', rf', rl', rfl, T', hs'⟩ := hX2
  exact ⟨_, gCW.mk (by decide +kernel) (Nat.le_of_ble_eq_true rfl) rfl (B_La_repeat_0 (K_La_repeat_5 c (by decide) (by decide) (B_La_repeat_8 vp01 ⟨1, 6, rfl, by decide, by decide⟩))), row', len', sc', me', at_', fo', wr', ne', df', dt', sg', fr', ex', W', ns', ng', nw', s1', s2', s3', o1', o2', o3', rm', rk', rf', rl', rfl, T', hs'⟩
theorem h_cutBad {k : Int32} (hl9 : l.stackTraces = false) (hX : XI G x t tq e m q s o r ch n w) (h : k < 0) : gCW l G mx_La_cut hh_La_cut [.ref x, .int k, .ref oa] (w ++ [aL G oa 1 g]) (some (.int 1)) (w ++ [aL G oa 1 g]) 1 6 := by
  have c := x_cutBad hl9 hX h
  obtain ⟨row, len, sc, me, at_, fo, wr, ne, df, dt, sg, fr, ex, W, ns, ng, nw, s1, s2, s3, o1, o2, o3, rm, rk, rf, rl, rfl, T, hs⟩ := hX
  exact gCW.mk (by decide +kernel) (Nat.le_of_ble_eq_true rfl) rfl (B_La_cut_0 (KX0_La_cut_4 c (by decide) (by decide) (fun _ => B_La_cut_12 ⟨1, 6, rfl, by decide, by decide⟩)))
theorem h_cut {k : Nat} (hX : XI G x t tq e m q s o r ch n w) (hk : k < 2 ^ 31) :
    ∃ w2, gCW l G mx_La_cut hh_La_cut [.ref x, .int (nI k), .ref oa] (w ++ [aL G oa 1 g]) (some (.int 0)) (w2 ++ [aL G oa 1 (vp_updL g (Int32.toNatClampNeg 0) (Int32.toInt64 (nI (n - k))))]) 1 6 ∧ XI G x t tq e m q s o r (cutC ch (n - k)) (n - k) w2 := by
  obtain ⟨w2, c, hX2⟩ := x_cut (l := l) hX hk
  obtain ⟨row, len, sc, me, at_, fo, wr, ne, df, dt, sg, fr, ex, W, ns, ng, nw, s1, s2, s3, o1, o2, o3, rm, rk, rf, rl, rfl, T, hs⟩ := hX
  obtain ⟨row', len', sc', me', at_', fo', wr', ne', df', dt', sg', fr', ex', W', ns', ng', nw', s1', s2', s3', o1', o2', o3', rm', rk', rf', rl', rfl, T', hs'⟩ := hX2
  exact ⟨_, gCW.mk (by decide +kernel) (Nat.le_of_ble_eq_true rfl) rfl (B_La_cut_0 (K_La_cut_4 c (by decide) (by decide) (B_La_cut_7 vp01 ⟨1, 6, rfl, by decide, by decide⟩))), row', len', sc', me', at_', fo', wr', ne', df', dt', sg', fr', ex', W', ns', ng', nw', s1', s2', s3', o1', o2', o3', rm', rk', rf', rl', rfl, T', hs'⟩
theorem h_bits (hl9 : l.stackTraces = false) (hX : XI G x t tq e m q s o r ch n w) :
    (∃ ng k d L es w2 lead pl rest, scOk ch n ng k d L es ∧ gCW l G mx_La_bits hh_La_bits [.ref x, .ref oa] (w ++ [aL G oa 1 g]) (some (.int 0)) (w2 ++ [aL G oa 1 (vp_updL g (Int32.toNatClampNeg 0) (lN (bitV 0 ng k lead pl rest)))]) 1 6 ∧ XI G x t tq e m q s o r ch n w2 ∧ (k ≠ 3 → szK ch k d L es lead pl rest)) ∨
    (∃ wv w2, scNo ch n wv ∧ gCW l G mx_La_bits hh_La_bits [.ref x, .ref oa] (w ++ [aL G oa 1 g]) (some (.int 1)) (w2 ++ [aL G oa 1 g]) 1 6 ∧ XI G x t tq e m q s o r ch n w2) := by
  rcases x_bits (l := l) hl9 hX with ⟨ng, k, d, L, es, w2, lead, pl, rest, h1, c, hX2, hz⟩ | ⟨wv, w2, h1, c, hX2⟩
  · left
    obtain ⟨row, len, sc, me, at_, fo, wr, ne, df, dt, sg, fr, ex, W, ns, ng9, nw, s1, s2, s3, o1, o2, o3, rm, rk, rf, rl, rfl, T, hs⟩ := hX
    obtain ⟨row', len', sc', me', at_', fo', wr', ne', df', dt', sg', fr', ex', W', ns', ng', nw', s1', s2', s3', o1', o2', o3', rm', rk', rf', rl', rfl, T', hs'⟩ := hX2
    exact ⟨ng, k, d, L, es, _, lead, pl, rest, h1, gCW.mk (by decide +kernel) (Nat.le_of_ble_eq_true rfl) rfl (B_La_bits_0 (K_La_bits_3 c (by decide) (by decide) (B_La_bits_6 vp01 ⟨1, 6, rfl, by decide, by decide⟩))), ⟨row', len', sc', me', at_', fo', wr', ne', df', dt', sg', fr', ex', W', ns', ng', nw', s1', s2', s3', o1', o2', o3', rm', rk', rf', rl', rfl, T', hs'⟩, hz⟩
  · right
    obtain ⟨row, len, sc, me, at_, fo, wr, ne, df, dt, sg, fr, ex, W, ns, ng, nw, s1, s2, s3, o1, o2, o3, rm, rk, rf, rl, rfl, T, hs⟩ := hX
    obtain ⟨row', len', sc', me', at_', fo', wr', ne', df', dt', sg', fr', ex', W', ns', ng', nw', s1', s2', s3', o1', o2', o3', rm', rk', rf', rl', rfl, T', hs'⟩ := hX2
    exact ⟨wv, _, h1, gCW.mk (by decide +kernel) (Nat.le_of_ble_eq_true rfl) rfl (B_La_bits_0 (KX0_La_bits_3 c (by decide) (by decide) (fun _ => B_La_bits_10 ⟨1, 6, rfl, by decide, by decide⟩))), row', len', sc', me', at_', fo', wr', ne', df', dt', sg', fr', ex', W', ns', ng', nw', s1', s2', s3', o1', o2', o3', rm', rk', rf', rl', rfl, T', hs'⟩
theorem h_floatBits (hl9 : l.stackTraces = false) (hX : XI G x t tq e m q s o r ch n w) :
    (∃ ng k d L es w2 lead pl rest, scOk ch n ng k d L es ∧ gCW l G mx_La_floatBits hh_La_floatBits [.ref x, .ref oa] (w ++ [aL G oa 1 g]) (some (.int 0)) (w2 ++ [aL G oa 1 (vp_updL g (Int32.toNatClampNeg 0) (Int32.toInt64 (nI (bitV 1 ng k lead pl rest))))]) 1 6 ∧ XI G x t tq e m q s o r ch n w2 ∧ (k ≠ 3 → szK ch k d L es lead pl rest)) ∨
    (∃ wv w2, scNo ch n wv ∧ gCW l G mx_La_floatBits hh_La_floatBits [.ref x, .ref oa] (w ++ [aL G oa 1 g]) (some (.int 1)) (w2 ++ [aL G oa 1 g]) 1 6 ∧ XI G x t tq e m q s o r ch n w2) := by
  rcases x_floatBits (l := l) hl9 hX with ⟨ng, k, d, L, es, w2, lead, pl, rest, h1, c, hX2, hz⟩ | ⟨wv, w2, h1, c, hX2⟩
  · left
    obtain ⟨row, len, sc, me, at_, fo, wr, ne, df, dt, sg, fr, ex, W, ns, ng9, nw, s1, s2, s3, o1, o2, o3, rm, rk, rf, rl, rfl, T, hs⟩ := hX
    obtain ⟨row', len', sc', me', at_', fo', wr', ne', df', dt', sg', fr', ex', W', ns', ng', nw', s1', s2', s3', o1', o2', o3', rm', rk', rf', rl', rfl, T', hs'⟩ := hX2
    exact ⟨ng, k, d, L, es, _, lead, pl, rest, h1, gCW.mk (by decide +kernel) (Nat.le_of_ble_eq_true rfl) rfl (B_La_floatBits_0 (K_La_floatBits_3 c (by decide) (by decide) (B_La_floatBits_6 vp01 ⟨1, 6, rfl, by decide, by decide⟩))), ⟨row', len', sc', me', at_', fo', wr', ne', df', dt', sg', fr', ex', W', ns', ng', nw', s1', s2', s3', o1', o2', o3', rm', rk', rf', rl', rfl, T', hs'⟩, hz⟩
  · right
    obtain ⟨row, len, sc, me, at_, fo, wr, ne, df, dt, sg, fr, ex, W, ns, ng, nw, s1, s2, s3, o1, o2, o3, rm, rk, rf, rl, rfl, T, hs⟩ := hX
    obtain ⟨row', len', sc', me', at_', fo', wr', ne', df', dt', sg', fr', ex', W', ns', ng', nw', s1', s2', s3', o1', o2', o3', rm', rk', rf', rl', rfl, T', hs'⟩ := hX2
    exact ⟨wv, _, h1, gCW.mk (by decide +kernel) (Nat.le_of_ble_eq_true rfl) rfl (B_La_floatBits_0 (KX0_La_floatBits_3 c (by decide) (by decide) (fun _ => B_La_floatBits_11 ⟨1, 6, rfl, by decide, by decide⟩))), row', len', sc', me', at_', fo', wr', ne', df', dt', sg', fr', ex', W', ns', ng', nw', s1', s2', s3', o1', o2', o3', rm', rk', rf', rl', rfl, T', hs'⟩
theorem h_side {fl : Bool} (hl9 : l.stackTraces = false) (hX : XI G x t tq e m q s o r ch n w) :
    (∃ ng k d L es w2 lead pl rest, scOk ch n ng k d L es ∧ gCW l G mx_La_side hh_La_side [.ref x, .int (bI fl), .ref oa] (w ++ [aL G oa 1 g]) (some (.int 0)) (w2 ++ [aL G oa 1 (vp_updL g (Int32.toNatClampNeg 0) (Int32.toInt64 (zI (sdV (if fl then 1 else 0) ng k lead pl rest))))]) 1 6 ∧ XI G x t tq e m q s o r ch n w2 ∧ (k < 2 → szK ch k d L es lead pl rest)) ∨
    (∃ wv w2, scNo ch n wv ∧ gCW l G mx_La_side hh_La_side [.ref x, .int (bI fl), .ref oa] (w ++ [aL G oa 1 g]) (some (.int 1)) (w2 ++ [aL G oa 1 g]) 1 6 ∧ XI G x t tq e m q s o r ch n w2) := by
  rcases x_side (l := l) (fl := fl) hl9 hX with ⟨ng, k, d, L, es, w2, lead, pl, rest, h1, c, hX2, hz⟩ | ⟨wv, w2, h1, c, hX2⟩
  · left
    obtain ⟨row, len, sc, me, at_, fo, wr, ne, df, dt, sg, fr, ex, W, ns, ng9, nw, s1, s2, s3, o1, o2, o3, rm, rk, rf, rl, rfl, T, hs⟩ := hX
    obtain ⟨row', len', sc', me', at_', fo', wr', ne', df', dt', sg', fr', ex', W', ns', ng', nw', s1', s2', s3', o1', o2', o3', rm', rk', rf', rl', rfl, T', hs'⟩ := hX2
    exact ⟨ng, k, d, L, es, _, lead, pl, rest, h1, gCW.mk (by decide +kernel) (Nat.le_of_ble_eq_true rfl) rfl (B_La_side_0 (K_La_side_4 c (by decide) (by decide) (B_La_side_7 vp01 ⟨1, 6, rfl, by decide, by decide⟩))), ⟨row', len', sc', me', at_', fo', wr', ne', df', dt', sg', fr', ex', W', ns', ng', nw', s1', s2', s3', o1', o2', o3', rm', rk', rf', rl', rfl, T', hs'⟩, hz⟩
  · right
    obtain ⟨row, len, sc, me, at_, fo, wr, ne, df, dt, sg, fr, ex, W, ns, ng, nw, s1, s2, s3, o1, o2, o3, rm, rk, rf, rl, rfl, T, hs⟩ := hX
    obtain ⟨row', len', sc', me', at_', fo', wr', ne', df', dt', sg', fr', ex', W', ns', ng', nw', s1', s2', s3', o1', o2', o3', rm', rk', rf', rl', rfl, T', hs'⟩ := hX2
    exact ⟨wv, _, h1, gCW.mk (by decide +kernel) (Nat.le_of_ble_eq_true rfl) rfl (B_La_side_0 (KX0_La_side_4 c (by decide) (by decide) (fun _ => B_La_side_12 ⟨1, 6, rfl, by decide, by decide⟩))), row', len', sc', me', at_', fo', wr', ne', df', dt', sg', fr', ex', W', ns', ng', nw', s1', s2', s3', o1', o2', o3', rm', rk', rf', rl', rfl, T', hs'⟩
theorem h_compare {b : Nat} (hl9 : l.stackTraces = false) (hb : b < 2 ^ 64) (hX : XI G x t tq e m q s o r ch n w) :
    (∃ ng k d L es w2 lead pl rest lead2 pl2, scOk ch n ng k d L es ∧ k ≠ 3 ∧ ¬ dI < b % 2 ^ 63 ∧ gCW l G mx_La_compare hh_La_compare [.ref x, .long (lN b), .ref oa] (w ++ [aL G oa 1 g]) (some (.int 0)) (w2 ++ [aL G oa 1 (vp_updL g (Int32.toNatClampNeg 0) (Int32.toInt64 (zI (cV ng lead pl rest (decide (2 ^ 63 ≤ b)) lead2 pl2))))]) 1 6 ∧ XI G x t tq e m q s o r ch n w2 ∧ szK ch k d L es lead pl rest ∧ dbl b lead2 pl2) ∨
    (∃ ng k d L es w2, scOk ch n ng k d L es ∧ (k = 3 ∨ dI < b % 2 ^ 63) ∧ gCW l G mx_La_compare hh_La_compare [.ref x, .long (lN b), .ref oa] (w ++ [aL G oa 1 g]) (some (.int 2)) (w2 ++ [aL G oa 1 g]) 1 6 ∧ XI G x t tq e m q s o r ch n w2) ∨
    (∃ wv w2, scNo ch n wv ∧ gCW l G mx_La_compare hh_La_compare [.ref x, .long (lN b), .ref oa] (w ++ [aL G oa 1 g]) (some (.int 1)) (w2 ++ [aL G oa 1 g]) 1 6 ∧ XI G x t tq e m q s o r ch n w2) := by
  rcases x_compare (l := l) hl9 hb hX with ⟨ng, k, d, L, es, w2, lead, pl, rest, lead2, pl2, h1, hk, hbb, c, hX2, hz, hD⟩ | ⟨ng, k, d, L, es, w2, h1, hk, c, hX2⟩ | ⟨wv, w2, h1, c, hX2⟩
  · left
    obtain ⟨row, len, sc, me, at_, fo, wr, ne, df, dt, sg, fr, ex, W, ns, ng9, nw, s1, s2, s3, o1, o2, o3, rm, rk, rf, rl, rfl, T, hs⟩ := hX
    obtain ⟨row', len', sc', me', at_', fo', wr', ne', df', dt', sg', fr', ex', W', ns', ng', nw', s1', s2', s3', o1', o2', o3', rm', rk', rf', rl', rfl, T', hs'⟩ := hX2
    exact ⟨ng, k, d, L, es, _, lead, pl, rest, lead2, pl2, h1, hk, hbb, gCW.mk (by decide +kernel) (Nat.le_of_ble_eq_true rfl) rfl (B_La_compare_0 (K_La_compare_4 c (by decide) (by decide) (B_La_compare_7 vp01 ⟨1, 6, rfl, by decide, by decide⟩))), ⟨row', len', sc', me', at_', fo', wr', ne', df', dt', sg', fr', ex', W', ns', ng', nw', s1', s2', s3', o1', o2', o3', rm', rk', rf', rl', rfl, T', hs'⟩, hz, hD⟩
  · right; left
    obtain ⟨row, len, sc, me, at_, fo, wr, ne, df, dt, sg, fr, ex, W, ns, ng9, nw, s1, s2, s3, o1, o2, o3, rm, rk, rf, rl, rfl, T, hs⟩ := hX
    obtain ⟨row', len', sc', me', at_', fo', wr', ne', df', dt', sg', fr', ex', W', ns', ng', nw', s1', s2', s3', o1', o2', o3', rm', rk', rf', rl', rfl, T', hs'⟩ := hX2
    exact ⟨ng, k, d, L, es, _, h1, hk, gCW.mk (by decide +kernel) (Nat.le_of_ble_eq_true rfl) rfl (B_La_compare_0 (KX1_La_compare_4 c (by decide) (by decide) (fun _ => B_La_compare_16 ⟨1, 6, rfl, by decide, by decide⟩))), row', len', sc', me', at_', fo', wr', ne', df', dt', sg', fr', ex', W', ns', ng', nw', s1', s2', s3', o1', o2', o3', rm', rk', rf', rl', rfl, T', hs'⟩
  · right; right
    obtain ⟨row, len, sc, me, at_, fo, wr, ne, df, dt, sg, fr, ex, W, ns, ng, nw, s1, s2, s3, o1, o2, o3, rm, rk, rf, rl, rfl, T, hs⟩ := hX
    obtain ⟨row', len', sc', me', at_', fo', wr', ne', df', dt', sg', fr', ex', W', ns', ng', nw', s1', s2', s3', o1', o2', o3', rm', rk', rf', rl', rfl, T', hs'⟩ := hX2
    exact ⟨wv, _, h1, gCW.mk (by decide +kernel) (Nat.le_of_ble_eq_true rfl) rfl (B_La_compare_0 (KX0_La_compare_4 c (by decide) (by decide) (fun _ => B_La_compare_12 ⟨1, 6, rfl, by decide, by decide⟩))), row', len', sc', me', at_', fo', wr', ne', df', dt', sg', fr', ex', W', ns', ng', nw', s1', s2', s3', o1', o2', o3', rm', rk', rf', rl', rfl, T', hs'⟩
end La1
