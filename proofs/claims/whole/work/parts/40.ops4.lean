/-! changes: writeOld, writeNew, remove -/
theorem zb_out {x : Int32} {n : Nat} (h : x < 0 ∨ nI n ≤ x) : fX5_isBelow x (nI n) = some (nI 0) := by
  rw [C_isBelow]
  rcases h with h | h
  · rw [if_pos (by rw [nI_0]; exact h)]
  · by_cases h0 : x < nI 0
    · rw [if_pos h0]
    · rw [if_neg h0, if_pos h]
theorem zlt_of {x : Int32} {n : Nat} (hn : n + 1 < 2 ^ 31) (h : nI (n + 1) ≤ x) : nI n < x := by
  rw [Int32.lt_iff_toInt_lt, nI_toInt (by omega)]
  rw [Int32.le_iff_toInt_le, nI_toInt hn] at h
  omega
theorem zin_out {x : Int32} {n : Nat} (hn : n + 1 < 2 ^ 31) (h : x < 0 ∨ nI (n + 1) ≤ x) : fX6_in x (nI 0) (nI n) = some (nI 0) := by
  unfold fX6_in
  simp only [gl_0, gl_1, gl_2, gl_3, gl_4, gl_5, gl_6, gl_7, gl_8, gl_9, gl_10, gl_11, gl_12, gl_13, gl_14, gl_15, gl_16, gl_17, gl_18, gl_19, gl_20, gl_21, gl_22, gl_23, gl_24, gl_25, gl_26, gl_27, gl_28, gl_29, gl_30, gl_31, gl_32, gl_44, gl_48, gl_49, gl_57, gl_59, gl_60, gl_63, gl_70, gl_98, gl_99, gl_100, gl_101, gl_107, gl_109, gl_110, gl_111, gl_116, gl_120, gl_126, gl_155, gl_411, gl_999, gl_1000, gl_1233, gl_1644, gl_100000, gl_m1]
  rcases h with h | h
  · rw [if_pos (by rw [nI_0]; exact h)]
  · by_cases h0 : x < nI 0
    · rw [if_pos h0]
    · rw [if_neg h0, if_pos (zlt_of hn h)]
theorem zin_in {j n : Nat} (hj : j ≤ n) (hn : n < 2 ^ 31) : fX6_in (nI j) (nI 0) (nI n) = some (nI 1) := by
  unfold fX6_in
  simp (disch := omega) only [gl_0, gl_1, gl_2, gl_3, gl_4, gl_5, gl_6, gl_7, gl_8, gl_9, gl_10, gl_11, gl_12, gl_13, gl_14, gl_15, gl_16, gl_17, gl_18, gl_19, gl_20, gl_21, gl_22, gl_23, gl_24, gl_25, gl_26, gl_27, gl_28, gl_29, gl_30, gl_31, gl_32, gl_44, gl_48, gl_49, gl_57, gl_59, gl_60, gl_63, gl_70, gl_98, gl_99, gl_100, gl_101, gl_107, gl_109, gl_110, gl_111, gl_116, gl_120, gl_126, gl_155, gl_411, gl_999, gl_1000, gl_1233, gl_1644, gl_100000, gl_m1, nI_eq, nI_leI, nI_ltI, nI_add, nI_clamp, pk_mul, pk_sub, z_in, z_gt, z_bs, z_us, z_un, if_pos, if_neg, if_true, if_false, and_true, true_and, and_self, not_true_eq_false, not_false_eq_true]
theorem zin1_out {x : Int32} {n : Nat} (hn : n + 1 < 2 ^ 31) (h : x < nI 1 ∨ nI (n + 1) ≤ x) : fX6_in x (nI 1) (nI n) = some (nI 0) := by
  unfold fX6_in
  simp only [gl_0, gl_1, gl_2, gl_3, gl_4, gl_5, gl_6, gl_7, gl_8, gl_9, gl_10, gl_11, gl_12, gl_13, gl_14, gl_15, gl_16, gl_17, gl_18, gl_19, gl_20, gl_21, gl_22, gl_23, gl_24, gl_25, gl_26, gl_27, gl_28, gl_29, gl_30, gl_31, gl_32, gl_44, gl_48, gl_49, gl_57, gl_59, gl_60, gl_63, gl_70, gl_98, gl_99, gl_100, gl_101, gl_107, gl_109, gl_110, gl_111, gl_116, gl_120, gl_126, gl_155, gl_411, gl_999, gl_1000, gl_1233, gl_1644, gl_100000, gl_m1]
  by_cases h0 : x < nI 1
  · rw [if_pos h0]
  · rw [if_neg h0, if_pos (zlt_of hn (h.resolve_left h0))]
theorem zin1_in {j n : Nat} (h1 : 1 ≤ j) (hj : j ≤ n) (hn : n < 2 ^ 31) : fX6_in (nI j) (nI 1) (nI n) = some (nI 1) := by
  unfold fX6_in
  simp (disch := omega) only [gl_0, gl_1, gl_2, gl_3, gl_4, gl_5, gl_6, gl_7, gl_8, gl_9, gl_10, gl_11, gl_12, gl_13, gl_14, gl_15, gl_16, gl_17, gl_18, gl_19, gl_20, gl_21, gl_22, gl_23, gl_24, gl_25, gl_26, gl_27, gl_28, gl_29, gl_30, gl_31, gl_32, gl_44, gl_48, gl_49, gl_57, gl_59, gl_60, gl_63, gl_70, gl_98, gl_99, gl_100, gl_101, gl_107, gl_109, gl_110, gl_111, gl_116, gl_120, gl_126, gl_155, gl_411, gl_999, gl_1000, gl_1233, gl_1644, gl_100000, gl_m1, nI_eq, nI_leI, nI_ltI, nI_add, nI_clamp, pk_mul, pk_sub, z_in, z_gt, z_bs, z_us, z_un, if_pos, if_neg, if_true, if_false, and_true, true_and, and_self, not_true_eq_false, not_false_eq_true]
theorem zkey_out {x : Int32} (h : x < 0 ∨ nI 31 ≤ x) : fX6_isKey x = some (nI 0) := by
  unfold fX6_isKey
  simp only [gl_0, gl_1, gl_2, gl_3, gl_4, gl_5, gl_6, gl_7, gl_8, gl_9, gl_10, gl_11, gl_12, gl_13, gl_14, gl_15, gl_16, gl_17, gl_18, gl_19, gl_20, gl_21, gl_22, gl_23, gl_24, gl_25, gl_26, gl_27, gl_28, gl_29, gl_30, gl_31, gl_32, gl_44, gl_48, gl_49, gl_57, gl_59, gl_60, gl_63, gl_70, gl_98, gl_99, gl_100, gl_101, gl_107, gl_109, gl_110, gl_111, gl_116, gl_120, gl_126, gl_155, gl_411, gl_999, gl_1000, gl_1233, gl_1644, gl_100000, gl_m1]
  rw [zin_out (by omega) h]
  simp (disch := first | omega | decide) only [z_bs, z_gt, zo1 (Or.inl rfl)]
theorem zkey_in {j : Nat} (h : j < 31) : fX6_isKey (nI j) = some (nI 1) := by
  unfold fX6_isKey
  simp only [gl_0, gl_1, gl_2, gl_3, gl_4, gl_5, gl_6, gl_7, gl_8, gl_9, gl_10, gl_11, gl_12, gl_13, gl_14, gl_15, gl_16, gl_17, gl_18, gl_19, gl_20, gl_21, gl_22, gl_23, gl_24, gl_25, gl_26, gl_27, gl_28, gl_29, gl_30, gl_31, gl_32, gl_44, gl_48, gl_49, gl_57, gl_59, gl_60, gl_63, gl_70, gl_98, gl_99, gl_100, gl_101, gl_107, gl_109, gl_110, gl_111, gl_116, gl_120, gl_126, gl_155, gl_411, gl_999, gl_1000, gl_1233, gl_1644, gl_100000, gl_m1]
  rw [zin_in (by omega) (by omega)]
  simp (disch := first | omega | decide) only [z_bs, z_gt, zo1 (Or.inr rfl)]
theorem C_ofOld {a b c : Nat} : fX2_ofOld (nI a) (nI b) (nI c) = some (nI (4 * (10 * a + b) + c)) := by
  unfold fX2_ofOld fX2_ofNew
  simp (disch := omega) only [gl_0, gl_1, gl_2, gl_3, gl_4, gl_5, gl_6, gl_7, gl_8, gl_9, gl_10, gl_11, gl_12, gl_13, gl_14, gl_15, gl_16, gl_17, gl_18, gl_19, gl_20, gl_21, gl_22, gl_23, gl_24, gl_25, gl_26, gl_27, gl_28, gl_29, gl_30, gl_31, gl_32, gl_44, gl_48, gl_49, gl_57, gl_59, gl_60, gl_63, gl_70, gl_98, gl_99, gl_100, gl_101, gl_107, gl_109, gl_110, gl_111, gl_116, gl_120, gl_126, gl_155, gl_411, gl_999, gl_1000, gl_1233, gl_1644, gl_100000, gl_m1, nI_eq, nI_leI, nI_ltI, nI_add, nI_clamp, pk_mul, pk_sub, z_in, z_gt, z_bs, z_us, z_un, if_pos, if_neg, if_true, if_false, and_true, true_and, and_self, not_true_eq_false, not_false_eq_true]
theorem C_ofNew {u v : Nat} : fX2_ofNew (nI u) (nI v) = some (nI (4 * u + v)) := by
  unfold fX2_ofNew
  simp (disch := omega) only [gl_0, gl_1, gl_2, gl_3, gl_4, gl_5, gl_6, gl_7, gl_8, gl_9, gl_10, gl_11, gl_12, gl_13, gl_14, gl_15, gl_16, gl_17, gl_18, gl_19, gl_20, gl_21, gl_22, gl_23, gl_24, gl_25, gl_26, gl_27, gl_28, gl_29, gl_30, gl_31, gl_32, gl_44, gl_48, gl_49, gl_57, gl_59, gl_60, gl_63, gl_70, gl_98, gl_99, gl_100, gl_101, gl_107, gl_109, gl_110, gl_111, gl_116, gl_120, gl_126, gl_155, gl_411, gl_999, gl_1000, gl_1233, gl_1644, gl_100000, gl_m1, nI_eq, nI_leI, nI_ltI, nI_add, nI_clamp, pk_mul, pk_sub, z_in, z_gt, z_bs, z_us, z_un, if_pos, if_neg, if_true, if_false, and_true, true_and, and_self, not_true_eq_false, not_false_eq_true]
section MD10
variable {ss was beg asi : Nat → Int32} {sta : Int32} {txt : Nat → Int32} {typ att rea : Int32} {got row oth : Nat → Int32}
variable {p l x : Nat} {lo : Int32} {ov orr nv nr : Nat → Int32} {q : Nat} {qk qv qr wr : Nat → Int32} {wa : Int32} {wc wk : Nat → Int32}
theorem S_bad {oC : Option (Int32 × Int32 × Int32 × Int32 × Int32 × (Nat → Int32) × (Nat → Int32) × (Nat → Int32) × (Nat → Int32) × Int32 × (Nat → Int32) × (Nat → Int32) × (Nat → Int32) × (Nat → Int32) × Int32 × (Nat → Int32) × (Nat → Int32))} {oM : Option (Int32 × (Nat → Int32) × (Nat → Int32) × (Nat → Int32) × (Nat → Int32) × Int32 × (Nat → Int32) × Int32 × Int32 × Int32 × (Nat → Int32) × (Nat → Int32) × (Nat → Int32))} (R : RT ss p l x lo ov orr nv nr q qk qv qr wr wa wc wk) (h1 : oC = some (-1000001, nI p, nI l, nI x, lo, ov, orr, nv, nr, nI q, qk, qv, qr, wr, wa, wc, wk)) (h2 : oM = some (-1000001, ss, was, beg, asi, sta, txt, typ, att, rea, got, row, oth)) : OpOK was beg asi sta txt typ att rea got (nI p, nI l, nI x, lo, ov, orr, nv, nr, nI q, qk, qv, qr, wr, wa, wc, wk) oC oM := by
  rw [h1, h2]
  exact OpOK_no R (Or.inl rfl)
theorem S_no {oC : Option (Int32 × Int32 × Int32 × Int32 × Int32 × (Nat → Int32) × (Nat → Int32) × (Nat → Int32) × (Nat → Int32) × Int32 × (Nat → Int32) × (Nat → Int32) × (Nat → Int32) × (Nat → Int32) × Int32 × (Nat → Int32) × (Nat → Int32))} {oM : Option (Int32 × (Nat → Int32) × (Nat → Int32) × (Nat → Int32) × (Nat → Int32) × Int32 × (Nat → Int32) × Int32 × Int32 × Int32 × (Nat → Int32) × (Nat → Int32) × (Nat → Int32))} {row' oth' : Nat → Int32} (R : RT ss p l x lo ov orr nv nr q qk qv qr wr wa wc wk) (h1 : oC = some (-1000002, nI p, nI l, nI x, lo, ov, orr, nv, nr, nI q, qk, qv, qr, wr, wa, wc, wk)) (h2 : oM = some (-1000002, ss, was, beg, asi, sta, txt, typ, att, rea, got, row', oth')) : OpOK was beg asi sta txt typ att rea got (nI p, nI l, nI x, lo, ov, orr, nv, nr, nI q, qk, qv, qr, wr, wa, wc, wk) oC oM := by
  rw [h1, h2]
  exact OpOK_no R (Or.inr (Or.inl rfl))
theorem S_writesOld (R : RT ss p l x lo ov orr nv nr q qk qv qr wr wa wc wk) (y a b c : Int32) : OpOK was beg asi sta txt typ att rea got (nI p, nI l, nI x, lo, ov, orr, nv, nr, nI q, qk, qv, qr, wr, wa, wc, wk) (fX4_putOld y a b c (nI p) (nI l) (nI x) lo ov orr nv nr (nI q) qk qv qr wr wa wc wk) (fX6_writesOld y a b c ss was beg asi sta txt typ att rea got row oth) := by
  unfold fX4_putOld fX6_writesOld
  have hy := pk_ix y (n := 31) (by omega)
  rw [← or_assoc] at hy
  rcases hy with hy | ⟨k, hk, rfl, -⟩
  · exact S_bad (row := row) (oth := oth) R (by simp only [gl_0, gl_1, gl_2, gl_3, gl_4, gl_5, gl_6, gl_7, gl_8, gl_9, gl_10, gl_11, gl_12, gl_13, gl_14, gl_15, gl_16, gl_17, gl_18, gl_19, gl_20, gl_21, gl_22, gl_23, gl_24, gl_25, gl_26, gl_27, gl_28, gl_29, gl_30, gl_31, gl_32, gl_44, gl_48, gl_49, gl_57, gl_59, gl_60, gl_63, gl_70, gl_98, gl_99, gl_100, gl_101, gl_107, gl_109, gl_110, gl_111, gl_116, gl_120, gl_126, gl_155, gl_411, gl_999, gl_1000, gl_1233, gl_1644, gl_100000, gl_m1, zb_out hy, z_bs, if_true]) (by simp only [gl_0, gl_1, gl_2, gl_3, gl_4, gl_5, gl_6, gl_7, gl_8, gl_9, gl_10, gl_11, gl_12, gl_13, gl_14, gl_15, gl_16, gl_17, gl_18, gl_19, gl_20, gl_21, gl_22, gl_23, gl_24, gl_25, gl_26, gl_27, gl_28, gl_29, gl_30, gl_31, gl_32, gl_44, gl_48, gl_49, gl_57, gl_59, gl_60, gl_63, gl_70, gl_98, gl_99, gl_100, gl_101, gl_107, gl_109, gl_110, gl_111, gl_116, gl_120, gl_126, gl_155, gl_411, gl_999, gl_1000, gl_1233, gl_1644, gl_100000, gl_m1, zkey_out hy, z_bs, if_true])
  have ha := pk_ix a (n := 100) (by omega)
  rw [← or_assoc] at ha
  rcases ha with ha | ⟨a, ha, rfl, -⟩
  · exact S_bad (row := row) (oth := oth) R (by simp (disch := omega) only [gl_0, gl_1, gl_2, gl_3, gl_4, gl_5, gl_6, gl_7, gl_8, gl_9, gl_10, gl_11, gl_12, gl_13, gl_14, gl_15, gl_16, gl_17, gl_18, gl_19, gl_20, gl_21, gl_22, gl_23, gl_24, gl_25, gl_26, gl_27, gl_28, gl_29, gl_30, gl_31, gl_32, gl_44, gl_48, gl_49, gl_57, gl_59, gl_60, gl_63, gl_70, gl_98, gl_99, gl_100, gl_101, gl_107, gl_109, gl_110, gl_111, gl_116, gl_120, gl_126, gl_155, gl_411, gl_999, gl_1000, gl_1233, gl_1644, gl_100000, gl_m1, nI_eq, nI_leI, nI_ltI, nI_add, nI_clamp, pk_mul, pk_sub, z_in, z_gt, z_bs, z_us, z_un, if_pos, if_neg, if_true, if_false, and_true, true_and, and_self, not_true_eq_false, not_false_eq_true, zb_out ha, C_isBelow_nI]) (by simp (disch := omega) only [gl_0, gl_1, gl_2, gl_3, gl_4, gl_5, gl_6, gl_7, gl_8, gl_9, gl_10, gl_11, gl_12, gl_13, gl_14, gl_15, gl_16, gl_17, gl_18, gl_19, gl_20, gl_21, gl_22, gl_23, gl_24, gl_25, gl_26, gl_27, gl_28, gl_29, gl_30, gl_31, gl_32, gl_44, gl_48, gl_49, gl_57, gl_59, gl_60, gl_63, gl_70, gl_98, gl_99, gl_100, gl_101, gl_107, gl_109, gl_110, gl_111, gl_116, gl_120, gl_126, gl_155, gl_411, gl_999, gl_1000, gl_1233, gl_1644, gl_100000, gl_m1, nI_eq, nI_leI, nI_ltI, nI_add, nI_clamp, pk_mul, pk_sub, z_in, z_gt, z_bs, z_us, z_un, if_pos, if_neg, if_true, if_false, and_true, true_and, and_self, not_true_eq_false, not_false_eq_true, zkey_in hk, zin_out (show 99 + 1 < 2 ^ 31 by omega) ha])
  have hb := pk_ix b (n := 10) (by omega)
  rw [← or_assoc] at hb
  rcases hb with hb | ⟨b, hb, rfl, -⟩
  · exact S_bad (row := row) (oth := oth) R (by simp (disch := omega) only [gl_0, gl_1, gl_2, gl_3, gl_4, gl_5, gl_6, gl_7, gl_8, gl_9, gl_10, gl_11, gl_12, gl_13, gl_14, gl_15, gl_16, gl_17, gl_18, gl_19, gl_20, gl_21, gl_22, gl_23, gl_24, gl_25, gl_26, gl_27, gl_28, gl_29, gl_30, gl_31, gl_32, gl_44, gl_48, gl_49, gl_57, gl_59, gl_60, gl_63, gl_70, gl_98, gl_99, gl_100, gl_101, gl_107, gl_109, gl_110, gl_111, gl_116, gl_120, gl_126, gl_155, gl_411, gl_999, gl_1000, gl_1233, gl_1644, gl_100000, gl_m1, nI_eq, nI_leI, nI_ltI, nI_add, nI_clamp, pk_mul, pk_sub, z_in, z_gt, z_bs, z_us, z_un, if_pos, if_neg, if_true, if_false, and_true, true_and, and_self, not_true_eq_false, not_false_eq_true, zb_out hb, C_isBelow_nI]) (by simp (disch := omega) only [gl_0, gl_1, gl_2, gl_3, gl_4, gl_5, gl_6, gl_7, gl_8, gl_9, gl_10, gl_11, gl_12, gl_13, gl_14, gl_15, gl_16, gl_17, gl_18, gl_19, gl_20, gl_21, gl_22, gl_23, gl_24, gl_25, gl_26, gl_27, gl_28, gl_29, gl_30, gl_31, gl_32, gl_44, gl_48, gl_49, gl_57, gl_59, gl_60, gl_63, gl_70, gl_98, gl_99, gl_100, gl_101, gl_107, gl_109, gl_110, gl_111, gl_116, gl_120, gl_126, gl_155, gl_411, gl_999, gl_1000, gl_1233, gl_1644, gl_100000, gl_m1, nI_eq, nI_leI, nI_ltI, nI_add, nI_clamp, pk_mul, pk_sub, z_in, z_gt, z_bs, z_us, z_un, if_pos, if_neg, if_true, if_false, and_true, true_and, and_self, not_true_eq_false, not_false_eq_true, zkey_in hk, zin_in, zin_out (show 9 + 1 < 2 ^ 31 by omega) hb])
  have hc := pk_ix c (n := 2) (by omega)
  rw [← or_assoc] at hc
  rcases hc with hc | ⟨c, hc, rfl, -⟩
  · exact S_bad (row := row) (oth := oth) R (by simp (disch := omega) only [gl_0, gl_1, gl_2, gl_3, gl_4, gl_5, gl_6, gl_7, gl_8, gl_9, gl_10, gl_11, gl_12, gl_13, gl_14, gl_15, gl_16, gl_17, gl_18, gl_19, gl_20, gl_21, gl_22, gl_23, gl_24, gl_25, gl_26, gl_27, gl_28, gl_29, gl_30, gl_31, gl_32, gl_44, gl_48, gl_49, gl_57, gl_59, gl_60, gl_63, gl_70, gl_98, gl_99, gl_100, gl_101, gl_107, gl_109, gl_110, gl_111, gl_116, gl_120, gl_126, gl_155, gl_411, gl_999, gl_1000, gl_1233, gl_1644, gl_100000, gl_m1, nI_eq, nI_leI, nI_ltI, nI_add, nI_clamp, pk_mul, pk_sub, z_in, z_gt, z_bs, z_us, z_un, if_pos, if_neg, if_true, if_false, and_true, true_and, and_self, not_true_eq_false, not_false_eq_true, zb_out hc, C_isBelow_nI]) (by simp (disch := omega) only [gl_0, gl_1, gl_2, gl_3, gl_4, gl_5, gl_6, gl_7, gl_8, gl_9, gl_10, gl_11, gl_12, gl_13, gl_14, gl_15, gl_16, gl_17, gl_18, gl_19, gl_20, gl_21, gl_22, gl_23, gl_24, gl_25, gl_26, gl_27, gl_28, gl_29, gl_30, gl_31, gl_32, gl_44, gl_48, gl_49, gl_57, gl_59, gl_60, gl_63, gl_70, gl_98, gl_99, gl_100, gl_101, gl_107, gl_109, gl_110, gl_111, gl_116, gl_120, gl_126, gl_155, gl_411, gl_999, gl_1000, gl_1233, gl_1644, gl_100000, gl_m1, nI_eq, nI_leI, nI_ltI, nI_add, nI_clamp, pk_mul, pk_sub, z_in, z_gt, z_bs, z_us, z_un, if_pos, if_neg, if_true, if_false, and_true, true_and, and_self, not_true_eq_false, not_false_eq_true, zkey_in hk, zin_in, zin_out (show 1 + 1 < 2 ^ 31 by omega) hc])
  have hrow : RowIs (upd (upd (upd (upd row 0 (nI 1)) 1 (nI a)) 2 (nI b)) 3 (nI c)) 0 (nI (4 * (10 * a + b) + c)) := by
    have e1 : (4 * (10 * a + b) + c) / 4 / 10 = a := by omega
    have e2 : (4 * (10 * a + b) + c) / 4 % 10 = b := by omega
    have e3 : (4 * (10 * a + b) + c) % 4 = c := by omega
    refine ⟨?_, ?_, ?_, ?_⟩
    · rw [zd_0 0 (by omega)]; rfl
    · rw [zd_01 (by omega), e1]; rfl
    · rw [zd_02 (by omega), e2]; rfl
    · rw [zd_03 (by omega), e3]; rfl
  have hS := S_put (was := was) (beg := beg) (asi := asi) (sta := sta) (txt := txt) (typ := typ) (att := att) (rea := rea) (got := got) (oth := oth) R hk (show 0 < 2 by omega) (fun _ => Or.inr ⟨4 * (10 * a + b) + c, by omega, by omega, rfl⟩) (Or.inr ⟨4 * (10 * a + b) + c, by omega, rfl⟩) hrow
  rw [if_neg (z_m1 (by omega))] at hS
  obtain ⟨r, p', l', x', q', lo', ov', orr', nv', nr', qk', qv', qr', wr', wa', wc', wk', ss', row', oth', e1, e2, hR, hz⟩ := hS
  refine ⟨r, p', l', x', q', lo', ov', orr', nv', nr', qk', qv', qr', wr', wa', wc', wk', ss', row', oth', ?_, ?_, hR, hz⟩
  · simp (disch := omega) only [gl_0, gl_1, gl_2, gl_3, gl_4, gl_5, gl_6, gl_7, gl_8, gl_9, gl_10, gl_11, gl_12, gl_13, gl_14, gl_15, gl_16, gl_17, gl_18, gl_19, gl_20, gl_21, gl_22, gl_23, gl_24, gl_25, gl_26, gl_27, gl_28, gl_29, gl_30, gl_31, gl_32, gl_44, gl_48, gl_49, gl_57, gl_59, gl_60, gl_63, gl_70, gl_98, gl_99, gl_100, gl_101, gl_107, gl_109, gl_110, gl_111, gl_116, gl_120, gl_126, gl_155, gl_411, gl_999, gl_1000, gl_1233, gl_1644, gl_100000, gl_m1, nI_eq, nI_leI, nI_ltI, nI_add, nI_clamp, pk_mul, pk_sub, z_in, z_gt, z_bs, z_us, z_un, if_pos, if_neg, if_true, if_false, and_true, true_and, and_self, not_true_eq_false, not_false_eq_true, C_isBelow_nI, C_ofOld, e1]
  · simp (disch := omega) only [gl_0, gl_1, gl_2, gl_3, gl_4, gl_5, gl_6, gl_7, gl_8, gl_9, gl_10, gl_11, gl_12, gl_13, gl_14, gl_15, gl_16, gl_17, gl_18, gl_19, gl_20, gl_21, gl_22, gl_23, gl_24, gl_25, gl_26, gl_27, gl_28, gl_29, gl_30, gl_31, gl_32, gl_44, gl_48, gl_49, gl_57, gl_59, gl_60, gl_63, gl_70, gl_98, gl_99, gl_100, gl_101, gl_107, gl_109, gl_110, gl_111, gl_116, gl_120, gl_126, gl_155, gl_411, gl_999, gl_1000, gl_1233, gl_1644, gl_100000, gl_m1, nI_eq, nI_leI, nI_ltI, nI_add, nI_clamp, pk_mul, pk_sub, z_in, z_gt, z_bs, z_us, z_un, if_pos, if_neg, if_true, if_false, and_true, true_and, and_self, not_true_eq_false, not_false_eq_true, zkey_in hk, zin_in, fX6_writes, e2]
theorem S_writesNew (R : RT ss p l x lo ov orr nv nr q qk qv qr wr wa wc wk) (y a b : Int32) : OpOK was beg asi sta txt typ att rea got (nI p, nI l, nI x, lo, ov, orr, nv, nr, nI q, qk, qv, qr, wr, wa, wc, wk) (fX4_putNew y a b (nI p) (nI l) (nI x) lo ov orr nv nr (nI q) qk qv qr wr wa wc wk) (fX6_writesNew y a b ss was beg asi sta txt typ att rea got row oth) := by
  unfold fX4_putNew fX6_writesNew
  have hy := pk_ix y (n := 31) (by omega)
  rw [← or_assoc] at hy
  rcases hy with hy | ⟨k, hk, rfl, -⟩
  · exact S_bad (row := row) (oth := oth) R (by simp only [gl_0, gl_1, gl_2, gl_3, gl_4, gl_5, gl_6, gl_7, gl_8, gl_9, gl_10, gl_11, gl_12, gl_13, gl_14, gl_15, gl_16, gl_17, gl_18, gl_19, gl_20, gl_21, gl_22, gl_23, gl_24, gl_25, gl_26, gl_27, gl_28, gl_29, gl_30, gl_31, gl_32, gl_44, gl_48, gl_49, gl_57, gl_59, gl_60, gl_63, gl_70, gl_98, gl_99, gl_100, gl_101, gl_107, gl_109, gl_110, gl_111, gl_116, gl_120, gl_126, gl_155, gl_411, gl_999, gl_1000, gl_1233, gl_1644, gl_100000, gl_m1, zb_out hy, z_bs, if_true]) (by simp only [gl_0, gl_1, gl_2, gl_3, gl_4, gl_5, gl_6, gl_7, gl_8, gl_9, gl_10, gl_11, gl_12, gl_13, gl_14, gl_15, gl_16, gl_17, gl_18, gl_19, gl_20, gl_21, gl_22, gl_23, gl_24, gl_25, gl_26, gl_27, gl_28, gl_29, gl_30, gl_31, gl_32, gl_44, gl_48, gl_49, gl_57, gl_59, gl_60, gl_63, gl_70, gl_98, gl_99, gl_100, gl_101, gl_107, gl_109, gl_110, gl_111, gl_116, gl_120, gl_126, gl_155, gl_411, gl_999, gl_1000, gl_1233, gl_1644, gl_100000, gl_m1, zkey_out hy, z_bs, if_true])
  have ha := pk_ix a (n := 1000) (by omega)
  rw [← or_assoc] at ha
  rcases ha with ha | ⟨a, ha, rfl, -⟩
  · exact S_bad (row := row) (oth := oth) R (by simp (disch := omega) only [gl_0, gl_1, gl_2, gl_3, gl_4, gl_5, gl_6, gl_7, gl_8, gl_9, gl_10, gl_11, gl_12, gl_13, gl_14, gl_15, gl_16, gl_17, gl_18, gl_19, gl_20, gl_21, gl_22, gl_23, gl_24, gl_25, gl_26, gl_27, gl_28, gl_29, gl_30, gl_31, gl_32, gl_44, gl_48, gl_49, gl_57, gl_59, gl_60, gl_63, gl_70, gl_98, gl_99, gl_100, gl_101, gl_107, gl_109, gl_110, gl_111, gl_116, gl_120, gl_126, gl_155, gl_411, gl_999, gl_1000, gl_1233, gl_1644, gl_100000, gl_m1, nI_eq, nI_leI, nI_ltI, nI_add, nI_clamp, pk_mul, pk_sub, z_in, z_gt, z_bs, z_us, z_un, if_pos, if_neg, if_true, if_false, and_true, true_and, and_self, not_true_eq_false, not_false_eq_true, zb_out ha, C_isBelow_nI]) (by simp (disch := omega) only [gl_0, gl_1, gl_2, gl_3, gl_4, gl_5, gl_6, gl_7, gl_8, gl_9, gl_10, gl_11, gl_12, gl_13, gl_14, gl_15, gl_16, gl_17, gl_18, gl_19, gl_20, gl_21, gl_22, gl_23, gl_24, gl_25, gl_26, gl_27, gl_28, gl_29, gl_30, gl_31, gl_32, gl_44, gl_48, gl_49, gl_57, gl_59, gl_60, gl_63, gl_70, gl_98, gl_99, gl_100, gl_101, gl_107, gl_109, gl_110, gl_111, gl_116, gl_120, gl_126, gl_155, gl_411, gl_999, gl_1000, gl_1233, gl_1644, gl_100000, gl_m1, nI_eq, nI_leI, nI_ltI, nI_add, nI_clamp, pk_mul, pk_sub, z_in, z_gt, z_bs, z_us, z_un, if_pos, if_neg, if_true, if_false, and_true, true_and, and_self, not_true_eq_false, not_false_eq_true, zkey_in hk, zin_out (show 999 + 1 < 2 ^ 31 by omega) ha])
  have hb := pk_ix b (n := 4) (by omega)
  rw [← or_assoc] at hb
  rcases hb with hb | ⟨b, hb, rfl, -⟩
  · exact S_bad (row := row) (oth := oth) R (by simp (disch := omega) only [gl_0, gl_1, gl_2, gl_3, gl_4, gl_5, gl_6, gl_7, gl_8, gl_9, gl_10, gl_11, gl_12, gl_13, gl_14, gl_15, gl_16, gl_17, gl_18, gl_19, gl_20, gl_21, gl_22, gl_23, gl_24, gl_25, gl_26, gl_27, gl_28, gl_29, gl_30, gl_31, gl_32, gl_44, gl_48, gl_49, gl_57, gl_59, gl_60, gl_63, gl_70, gl_98, gl_99, gl_100, gl_101, gl_107, gl_109, gl_110, gl_111, gl_116, gl_120, gl_126, gl_155, gl_411, gl_999, gl_1000, gl_1233, gl_1644, gl_100000, gl_m1, nI_eq, nI_leI, nI_ltI, nI_add, nI_clamp, pk_mul, pk_sub, z_in, z_gt, z_bs, z_us, z_un, if_pos, if_neg, if_true, if_false, and_true, true_and, and_self, not_true_eq_false, not_false_eq_true, zb_out hb, C_isBelow_nI]) (by simp (disch := omega) only [gl_0, gl_1, gl_2, gl_3, gl_4, gl_5, gl_6, gl_7, gl_8, gl_9, gl_10, gl_11, gl_12, gl_13, gl_14, gl_15, gl_16, gl_17, gl_18, gl_19, gl_20, gl_21, gl_22, gl_23, gl_24, gl_25, gl_26, gl_27, gl_28, gl_29, gl_30, gl_31, gl_32, gl_44, gl_48, gl_49, gl_57, gl_59, gl_60, gl_63, gl_70, gl_98, gl_99, gl_100, gl_101, gl_107, gl_109, gl_110, gl_111, gl_116, gl_120, gl_126, gl_155, gl_411, gl_999, gl_1000, gl_1233, gl_1644, gl_100000, gl_m1, nI_eq, nI_leI, nI_ltI, nI_add, nI_clamp, pk_mul, pk_sub, z_in, z_gt, z_bs, z_us, z_un, if_pos, if_neg, if_true, if_false, and_true, true_and, and_self, not_true_eq_false, not_false_eq_true, zkey_in hk, zin_in, zin_out (show 3 + 1 < 2 ^ 31 by omega) hb])
  have hrow : RowIs (upd (upd (upd (upd row 0 (nI 1)) 1 (nI a)) 2 (nI b)) 3 (nI 0)) 1 (nI (4 * a + b)) := by
    have e1 : (4 * a + b) / 4 = a := by omega
    have e2 : (4 * a + b) % 4 = b := by omega
    refine ⟨?_, ?_, ?_, ?_⟩
    · rw [zd_0 1 (by omega)]; rfl
    · rw [zd_11 (by omega), e1]; rfl
    · rw [zd_12 (by omega), e2]; rfl
    · rw [zd_13 (by omega)]; rfl
  have hS := S_put (was := was) (beg := beg) (asi := asi) (sta := sta) (txt := txt) (typ := typ) (att := att) (rea := rea) (got := got) (oth := oth) R hk (show 1 < 2 by omega) (fun h => absurd h (by omega)) (Or.inr ⟨4 * a + b, by omega, rfl⟩) hrow
  rw [if_neg (z_m1 (by omega))] at hS
  obtain ⟨r, p', l', x', q', lo', ov', orr', nv', nr', qk', qv', qr', wr', wa', wc', wk', ss', row', oth', e1, e2, hR, hz⟩ := hS
  refine ⟨r, p', l', x', q', lo', ov', orr', nv', nr', qk', qv', qr', wr', wa', wc', wk', ss', row', oth', ?_, ?_, hR, hz⟩
  · simp (disch := omega) only [gl_0, gl_1, gl_2, gl_3, gl_4, gl_5, gl_6, gl_7, gl_8, gl_9, gl_10, gl_11, gl_12, gl_13, gl_14, gl_15, gl_16, gl_17, gl_18, gl_19, gl_20, gl_21, gl_22, gl_23, gl_24, gl_25, gl_26, gl_27, gl_28, gl_29, gl_30, gl_31, gl_32, gl_44, gl_48, gl_49, gl_57, gl_59, gl_60, gl_63, gl_70, gl_98, gl_99, gl_100, gl_101, gl_107, gl_109, gl_110, gl_111, gl_116, gl_120, gl_126, gl_155, gl_411, gl_999, gl_1000, gl_1233, gl_1644, gl_100000, gl_m1, nI_eq, nI_leI, nI_ltI, nI_add, nI_clamp, pk_mul, pk_sub, z_in, z_gt, z_bs, z_us, z_un, if_pos, if_neg, if_true, if_false, and_true, true_and, and_self, not_true_eq_false, not_false_eq_true, C_isBelow_nI, C_ofNew, e1]
  · simp (disch := omega) only [gl_0, gl_1, gl_2, gl_3, gl_4, gl_5, gl_6, gl_7, gl_8, gl_9, gl_10, gl_11, gl_12, gl_13, gl_14, gl_15, gl_16, gl_17, gl_18, gl_19, gl_20, gl_21, gl_22, gl_23, gl_24, gl_25, gl_26, gl_27, gl_28, gl_29, gl_30, gl_31, gl_32, gl_44, gl_48, gl_49, gl_57, gl_59, gl_60, gl_63, gl_70, gl_98, gl_99, gl_100, gl_101, gl_107, gl_109, gl_110, gl_111, gl_116, gl_120, gl_126, gl_155, gl_411, gl_999, gl_1000, gl_1233, gl_1644, gl_100000, gl_m1, nI_eq, nI_leI, nI_ltI, nI_add, nI_clamp, pk_mul, pk_sub, z_in, z_gt, z_bs, z_us, z_un, if_pos, if_neg, if_true, if_false, and_true, true_and, and_self, not_true_eq_false, not_false_eq_true, zkey_in hk, zin_in, fX6_writes, e2]
theorem M_r28 {x1 : Int32} : ∃ n row', (∀ j, j < 4 → row' j = nI 0) ∧ fX6_removes_b28 2000 x1 (nI 0) ss was beg asi sta txt typ att rea got row oth = fX6_removes_b28 (n + 1) x1 (nI 4) ss was beg asi sta txt typ att rea got row' oth := by
  refine z_loop (fun n i (s' : Nat → Int32) => fX6_removes_b28 n x1 (nI i) ss was beg asi sta txt typ att rea got s' oth) 4 (fun i s' => ∀ j, j < i → s' j = nI 0) (fun o => ∃ n row', (∀ j, j < 4 → row' j = nI 0) ∧ o = fX6_removes_b28 (n + 1) x1 (nI 4) ss was beg asi sta txt typ att rea got row' oth) ?_ ?_ 2000 0 row (by omega) (by omega) (fun j h => absurd h (by omega))
  · rintro n i s' hi h
    refine ⟨upd s' i (nI 0), fun j hj => ?_, ?_⟩
    · by_cases hji : j = i
      · subst hji; exact z_us
      · rw [z_un hji]; exact h j (by omega)
    · rw [fX6_removes_b28]
      simp (disch := omega) only [gl_0, gl_1, gl_2, gl_3, gl_4, gl_5, gl_6, gl_7, gl_8, gl_9, gl_10, gl_11, gl_12, gl_13, gl_14, gl_15, gl_16, gl_17, gl_18, gl_19, gl_20, gl_21, gl_22, gl_23, gl_24, gl_25, gl_26, gl_27, gl_28, gl_29, gl_30, gl_31, gl_32, gl_44, gl_48, gl_49, gl_57, gl_59, gl_60, gl_63, gl_70, gl_98, gl_99, gl_100, gl_101, gl_107, gl_109, gl_110, gl_111, gl_116, gl_120, gl_126, gl_155, gl_411, gl_999, gl_1000, gl_1233, gl_1644, gl_100000, gl_m1, nI_eq, nI_leI, nI_ltI, nI_add, nI_clamp, pk_mul, pk_sub, z_in, z_gt, z_bs, z_us, z_un, if_pos, if_neg, if_true, if_false, and_true, true_and, and_self, not_true_eq_false, not_false_eq_true]
  · rintro n s' h
    exact ⟨n, s', h, rfl⟩
theorem S_removes (R : RT ss p l x lo ov orr nv nr q qk qv qr wr wa wc wk) (y : Int32) : OpOK was beg asi sta txt typ att rea got (nI p, nI l, nI x, lo, ov, orr, nv, nr, nI q, qk, qv, qr, wr, wa, wc, wk) (fX4_takeAway y (nI p) (nI l) (nI x) lo ov orr nv nr (nI q) qk qv qr wr wa wc wk) (fX6_removes y ss was beg asi sta txt typ att rea got row oth) := by
  have R0 := R
  obtain ⟨⟨hp, hq, hl, hx, hqp⟩, ⟨a0, a1, a2, a3, a4⟩, r0, r1, rq, rl, rw', rp0, rp3⟩ := R
  unfold fX4_takeAway fX6_removes
  have hy := pk_ix y (n := 31) (by omega)
  rw [← or_assoc] at hy
  rcases hy with hy | ⟨k, hk, rfl, -⟩
  · exact S_bad (row := row) (oth := oth) R0 (by simp only [gl_0, gl_1, gl_2, gl_3, gl_4, gl_5, gl_6, gl_7, gl_8, gl_9, gl_10, gl_11, gl_12, gl_13, gl_14, gl_15, gl_16, gl_17, gl_18, gl_19, gl_20, gl_21, gl_22, gl_23, gl_24, gl_25, gl_26, gl_27, gl_28, gl_29, gl_30, gl_31, gl_32, gl_44, gl_48, gl_49, gl_57, gl_59, gl_60, gl_63, gl_70, gl_98, gl_99, gl_100, gl_101, gl_107, gl_109, gl_110, gl_111, gl_116, gl_120, gl_126, gl_155, gl_411, gl_999, gl_1000, gl_1233, gl_1644, gl_100000, gl_m1, zb_out hy, z_bs, if_true]) (by simp only [gl_0, gl_1, gl_2, gl_3, gl_4, gl_5, gl_6, gl_7, gl_8, gl_9, gl_10, gl_11, gl_12, gl_13, gl_14, gl_15, gl_16, gl_17, gl_18, gl_19, gl_20, gl_21, gl_22, gl_23, gl_24, gl_25, gl_26, gl_27, gl_28, gl_29, gl_30, gl_31, gl_32, gl_44, gl_48, gl_49, gl_57, gl_59, gl_60, gl_63, gl_70, gl_98, gl_99, gl_100, gl_101, gl_107, gl_109, gl_110, gl_111, gl_116, gl_120, gl_126, gl_155, gl_411, gl_999, gl_1000, gl_1233, gl_1644, gl_100000, gl_m1, zkey_out hy, z_bs, if_true])
  have hf := zfst_lt p
  obtain ⟨_, ⟨c0, _⟩, _⟩ := r0 k hk
  obtain ⟨_, ⟨c1, _⟩, _⟩ := r1 k hk
  dsimp only at c0 c1
  rw [zd0] at c0 c1
  have hgo : ∀ rr : Int32, ss (102 + 155 * zfst p + 5 * k) = (if rr = zN then nI 0 else nI 1) → (fX4_takeAway (nI k) (nI p) (nI l) (nI x) lo ov orr nv nr (nI q) qk qv qr wr wa wc wk = if rr = zN then some (-1000002, nI p, nI l, nI x, lo, ov, orr, nv, nr, nI q, qk, qv, qr, wr, wa, wc, wk) else fX4_put (nI k) zN (nI p) (nI l) (nI x) lo ov orr nv nr (nI q) qk qv qr wr wa wc wk) → OpOK was beg asi sta txt typ att rea got (nI p, nI l, nI x, lo, ov, orr, nv, nr, nI q, qk, qv, qr, wr, wa, wc, wk) (fX4_takeAway (nI k) (nI p) (nI l) (nI x) lo ov orr nv nr (nI q) qk qv qr wr wa wc wk) (fX6_removes (nI k) ss was beg asi sta txt typ att rea got row oth) := by
    intro rr hc he
    rw [he]
    unfold fX6_removes
    have e6 : fX6_of (nI (zfst p)) (nI k) (nI 1) ss was beg asi sta txt typ att rea got row oth = some (ss (102 + 155 * zfst p + 5 * k)) := by
      rw [M_of hf hk (by omega), show 101 + 155 * zfst p + 5 * k + 1 = 102 + 155 * zfst p + 5 * k by omega]
    by_cases hr : rr = zN
    · rw [if_pos hr] at hc ⊢
      exact S_no (row' := row) (oth' := oth) R0 rfl (by simp (disch := omega) only [gl_0, gl_1, gl_2, gl_3, gl_4, gl_5, gl_6, gl_7, gl_8, gl_9, gl_10, gl_11, gl_12, gl_13, gl_14, gl_15, gl_16, gl_17, gl_18, gl_19, gl_20, gl_21, gl_22, gl_23, gl_24, gl_25, gl_26, gl_27, gl_28, gl_29, gl_30, gl_31, gl_32, gl_44, gl_48, gl_49, gl_57, gl_59, gl_60, gl_63, gl_70, gl_98, gl_99, gl_100, gl_101, gl_107, gl_109, gl_110, gl_111, gl_116, gl_120, gl_126, gl_155, gl_411, gl_999, gl_1000, gl_1233, gl_1644, gl_100000, gl_m1, nI_eq, nI_leI, nI_ltI, nI_add, nI_clamp, pk_mul, pk_sub, z_in, z_gt, z_bs, z_us, z_un, if_pos, if_neg, if_true, if_false, and_true, true_and, and_self, not_true_eq_false, not_false_eq_true, zkey_in hk, M_first hp a0, e6, hc])
    · rw [if_neg hr] at hc ⊢
      obtain ⟨n, row1, hr1, e1⟩ := M_r28 (x1 := nI k) (ss := ss) (was := was) (beg := beg) (asi := asi) (sta := sta) (txt := txt) (typ := typ) (att := att) (rea := rea) (got := got) (row := row) (oth := oth)
      have hrow : RowIs row1 (zfst p) zN := ⟨by rw [zd_N]; exact hr1 0 (by omega), by rw [zd_N]; exact hr1 1 (by omega), by rw [zd_N]; exact hr1 2 (by omega), by rw [zd_N]; exact hr1 3 (by omega)⟩
      have hS := S_put (was := was) (beg := beg) (asi := asi) (sta := sta) (txt := txt) (typ := typ) (att := att) (rea := rea) (got := got) (oth := oth) R0 hk hf (fun _ => Or.inl rfl) (Or.inl rfl) hrow
      rw [if_pos rfl] at hS
      obtain ⟨r, p', l', x', q', lo', ov', orr', nv', nr', qk', qv', qr', wr', wa', wc', wk', ss', row', oth', e3, e4, hR, hz⟩ := hS
      refine ⟨r, p', l', x', q', lo', ov', orr', nv', nr', qk', qv', qr', wr', wa', wc', wk', ss', row', oth', e3, ?_, hR, hz⟩
      simp (disch := omega) only [gl_0, gl_1, gl_2, gl_3, gl_4, gl_5, gl_6, gl_7, gl_8, gl_9, gl_10, gl_11, gl_12, gl_13, gl_14, gl_15, gl_16, gl_17, gl_18, gl_19, gl_20, gl_21, gl_22, gl_23, gl_24, gl_25, gl_26, gl_27, gl_28, gl_29, gl_30, gl_31, gl_32, gl_44, gl_48, gl_49, gl_57, gl_59, gl_60, gl_63, gl_70, gl_98, gl_99, gl_100, gl_101, gl_107, gl_109, gl_110, gl_111, gl_116, gl_120, gl_126, gl_155, gl_411, gl_999, gl_1000, gl_1233, gl_1644, gl_100000, gl_m1, nI_eq, nI_leI, nI_ltI, nI_add, nI_clamp, pk_mul, pk_sub, z_in, z_gt, z_bs, z_us, z_un, if_pos, if_neg, if_true, if_false, and_true, true_and, and_self, not_true_eq_false, not_false_eq_true, zkey_in hk, M_first hp a0, e6, hc, e1]
      rw [fX6_removes_b28]
      simp (disch := omega) only [gl_0, gl_1, gl_2, gl_3, gl_4, gl_5, gl_6, gl_7, gl_8, gl_9, gl_10, gl_11, gl_12, gl_13, gl_14, gl_15, gl_16, gl_17, gl_18, gl_19, gl_20, gl_21, gl_22, gl_23, gl_24, gl_25, gl_26, gl_27, gl_28, gl_29, gl_30, gl_31, gl_32, gl_44, gl_48, gl_49, gl_57, gl_59, gl_60, gl_63, gl_70, gl_98, gl_99, gl_100, gl_101, gl_107, gl_109, gl_110, gl_111, gl_116, gl_120, gl_126, gl_155, gl_411, gl_999, gl_1000, gl_1233, gl_1644, gl_100000, gl_m1, nI_eq, nI_leI, nI_ltI, nI_add, nI_clamp, pk_mul, pk_sub, z_in, z_gt, z_bs, z_us, z_un, if_pos, if_neg, if_true, if_false, and_true, true_and, and_self, not_true_eq_false, not_false_eq_true, M_first hp a0, e4]
  have hmod := hgo (if zfst p = 0 then orr k else nr k)
  unfold fX4_takeAway fX6_removes at hmod
  refine hmod ?_ ?_
  · rcases (show zfst p = 0 ∨ zfst p = 1 by omega) with h | h <;> rw [h]
    · exact c0
    · exact c1
  · have eta : ∀ o : Option (Int32 × Int32 × Int32 × Int32 × Int32 × (Nat → Int32) × (Nat → Int32) × (Nat → Int32) × (Nat → Int32) × Int32 × (Nat → Int32) × (Nat → Int32) × (Nat → Int32) × (Nat → Int32) × Int32 × (Nat → Int32) × (Nat → Int32)), (o.bind fun r => some r) = o := fun o => by cases o <;> rfl
    rcases (show zfst p = 0 ∨ zfst p = 1 by omega) with h | h
    · by_cases hr : orr k = zN
      · simp (disch := omega) only [gl_0, gl_1, gl_2, gl_3, gl_4, gl_5, gl_6, gl_7, gl_8, gl_9, gl_10, gl_11, gl_12, gl_13, gl_14, gl_15, gl_16, gl_17, gl_18, gl_19, gl_20, gl_21, gl_22, gl_23, gl_24, gl_25, gl_26, gl_27, gl_28, gl_29, gl_30, gl_31, gl_32, gl_44, gl_48, gl_49, gl_57, gl_59, gl_60, gl_63, gl_70, gl_98, gl_99, gl_100, gl_101, gl_107, gl_109, gl_110, gl_111, gl_116, gl_120, gl_126, gl_155, gl_411, gl_999, gl_1000, gl_1233, gl_1644, gl_100000, gl_m1, nI_eq, nI_leI, nI_ltI, nI_add, nI_clamp, pk_mul, pk_sub, z_in, z_gt, z_bs, z_us, z_un, if_pos, if_neg, if_true, if_false, and_true, true_and, and_self, not_true_eq_false, not_false_eq_true, C_isBelow_nI, C_first hp, h, C_shape (show 0 < 2 by omega), hr]
      · simp (disch := omega) only [gl_0, gl_1, gl_2, gl_3, gl_4, gl_5, gl_6, gl_7, gl_8, gl_9, gl_10, gl_11, gl_12, gl_13, gl_14, gl_15, gl_16, gl_17, gl_18, gl_19, gl_20, gl_21, gl_22, gl_23, gl_24, gl_25, gl_26, gl_27, gl_28, gl_29, gl_30, gl_31, gl_32, gl_44, gl_48, gl_49, gl_57, gl_59, gl_60, gl_63, gl_70, gl_98, gl_99, gl_100, gl_101, gl_107, gl_109, gl_110, gl_111, gl_116, gl_120, gl_126, gl_155, gl_411, gl_999, gl_1000, gl_1233, gl_1644, gl_100000, gl_m1, nI_eq, nI_leI, nI_ltI, nI_add, nI_clamp, pk_mul, pk_sub, z_in, z_gt, z_bs, z_us, z_un, if_pos, if_neg, if_true, if_false, and_true, true_and, and_self, not_true_eq_false, not_false_eq_true, C_isBelow_nI, C_first hp, h, C_shape (show 0 < 2 by omega), hr]
        exact eta _
    · by_cases hr : nr k = zN
      · simp (disch := omega) only [gl_0, gl_1, gl_2, gl_3, gl_4, gl_5, gl_6, gl_7, gl_8, gl_9, gl_10, gl_11, gl_12, gl_13, gl_14, gl_15, gl_16, gl_17, gl_18, gl_19, gl_20, gl_21, gl_22, gl_23, gl_24, gl_25, gl_26, gl_27, gl_28, gl_29, gl_30, gl_31, gl_32, gl_44, gl_48, gl_49, gl_57, gl_59, gl_60, gl_63, gl_70, gl_98, gl_99, gl_100, gl_101, gl_107, gl_109, gl_110, gl_111, gl_116, gl_120, gl_126, gl_155, gl_411, gl_999, gl_1000, gl_1233, gl_1644, gl_100000, gl_m1, nI_eq, nI_leI, nI_ltI, nI_add, nI_clamp, pk_mul, pk_sub, z_in, z_gt, z_bs, z_us, z_un, if_pos, if_neg, if_true, if_false, and_true, true_and, and_self, not_true_eq_false, not_false_eq_true, C_isBelow_nI, C_first hp, h, C_shape (show 1 < 2 by omega), hr]
      · simp (disch := omega) only [gl_0, gl_1, gl_2, gl_3, gl_4, gl_5, gl_6, gl_7, gl_8, gl_9, gl_10, gl_11, gl_12, gl_13, gl_14, gl_15, gl_16, gl_17, gl_18, gl_19, gl_20, gl_21, gl_22, gl_23, gl_24, gl_25, gl_26, gl_27, gl_28, gl_29, gl_30, gl_31, gl_32, gl_44, gl_48, gl_49, gl_57, gl_59, gl_60, gl_63, gl_70, gl_98, gl_99, gl_100, gl_101, gl_107, gl_109, gl_110, gl_111, gl_116, gl_120, gl_126, gl_155, gl_411, gl_999, gl_1000, gl_1233, gl_1644, gl_100000, gl_m1, nI_eq, nI_leI, nI_ltI, nI_add, nI_clamp, pk_mul, pk_sub, z_in, z_gt, z_bs, z_us, z_un, if_pos, if_neg, if_true, if_false, and_true, true_and, and_self, not_true_eq_false, not_false_eq_true, C_isBelow_nI, C_first hp, h, C_shape (show 1 < 2 by omega), hr]
        exact eta _
end MD10
