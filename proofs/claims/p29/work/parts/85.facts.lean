/-! what the law's acts says -/
theorem zs_zero {n : Nat} : ∀ k, (∀ i, i < k → n.testBit i = false) → zs n k = 0
  | 0, _ => rfl
  | k + 1, h => by
    have h1 := h k (by omega)
    rw [Nat.testBit_eq_decide_div_mod_eq] at h1
    have h2 := of_decide_eq_false h1
    rw [zs, zs_zero k (fun i hi => h i (by omega))]
    omega
theorem zs_pos {n i : Nat} (hb : n.testBit i = true) : ∀ k, i < k → 0 < zs n k
  | 0, h => absurd h (by omega)
  | k + 1, h => by
    rw [zs]
    by_cases hik : i = k
    · subst hik
      rw [Nat.testBit_eq_decide_div_mod_eq] at hb
      have := of_decide_eq_true hb
      omega
    · have := zs_pos hb k (by omega)
      omega
theorem z_shr {P : Nat → Bool} {k : Nat} (hk : k < 31) : (z_bits P 31 >>> (nI k &&& 31)) &&& nI 1 = (if P k = true then nI 1 else nI 0) := by
  rw [zbn_bits P 31 (by omega), pk_shrN (zbn_lt P 31) _ k (zI_shr31 k (by omega)), zI_and, Nat.and_one_is_mod]
  have h := zbn_test P k 31
  rw [decide_eq_true hk, Bool.true_and, Nat.testBit_eq_decide_div_mod_eq] at h
  by_cases hp : P k = true
  · rw [hp] at h
    rw [if_pos hp, of_decide_eq_true h]
  · rw [if_neg hp]
    have hp' : P k = false := by simpa using hp
    rw [hp'] at h
    have := of_decide_eq_false h
    rw [show zbn P 31 / 2 ^ k % 2 = 0 by omega]
theorem z_mask {P : Nat → Bool} {j : Nat} (hj : j < 31) (h : ∀ i, i < j → P i = false) : z_bits P 31 &&& ((nI 1 <<< (nI j &&& 31)) - nI 1) = nI 0 := by
  rw [zbn_bits P 31 (by omega), zI_shl (by omega), pk_sub (Nat.one_le_two_pow), zI_and]
  congr 1
  refine Nat.eq_of_testBit_eq (fun i => ?_)
  rw [Nat.testBit_and, Nat.testBit_two_pow_sub_one, zbn_test, Nat.zero_testBit]
  by_cases hij : i < j
  · rw [h i hij, Bool.and_false, Bool.false_and]
  · rw [decide_eq_false hij, Bool.and_false]
theorem z_n2 : ¬ (0 : Int32) ≤ (-1000002 : Int32) := by decide
theorem z_n1 : ¬ (0 : Int32) ≤ (-1 : Int32) := by decide
theorem z_ge {n : Nat} (h : n < 2 ^ 31) : (0 : Int32) ≤ nI n := Int32.not_lt.1 (z_ok h)
section FA
variable {S : zS} {p l x : Nat} {lo : Int32} {ov orr nv nr : Nat → Int32} {q : Nat} {qk qv qr wr : Nat → Int32} {wa : Int32} {wc wk : Nat → Int32}
set_option maxHeartbeats 4000000 in
theorem F_acts (V : Sv S p l x lo ov orr nv nr q qk qv qr wr wa wc wk) {y : Nat} (hy : y < 2 ^ 31) (hl : l < 1000) : ∃ S', fL_acts (nI y) S = some (1, S') ∧ Sx (l + 1) S' := by
  have hp := V.2.2.1.1
  have hq := V.2.2.1.2.1
  have hqp := V.2.2.1.2.2.2.2
  have hx := V.2.2.1.2.2.2.1
  have hm : nI y - nI y / 16 * 16 = nI (y % 16) := by
    rw [gl_16, pk_rem hy (by omega) (by omega)]
  have hz : nI y / 16 = nI (y / 16) := by
    rw [gl_16, pk_div hy (by omega) (by omega)]
  unfold fL_acts
  rw [hm, hz]
  have hm' : y % 16 < 16 := by omega
  have hz' : y / 16 < 2 ^ 27 := by omega
  clear hm hz
  generalize y % 16 = m at hm' ⊢
  generalize y / 16 = z at hz' ⊢
  have h7 : nI z - nI z / 7 * 7 = nI (z % 7) := by
    rw [gl_7, pk_rem (by omega) (by omega) (by omega)]
  have h4 : nI z - nI z / 4 * 4 = nI (z % 4) := by
    rw [gl_4, pk_rem (by omega) (by omega) (by omega)]
  have h31 : nI z - nI z / 31 * 31 = nI (z % 31) := by
    rw [gl_31, pk_rem (by omega) (by omega) (by omega)]
  have h3 : nI z - nI z / 3 * 3 = nI (z % 3) := by
    rw [gl_3, pk_rem (by omega) (by omega) (by omega)]
  have h2 : nI z - nI z / 2 * 2 = nI (z % 2) := by
    rw [gl_2, pk_rem (by omega) (by omega) (by omega)]
  have h8 : nI z / 8 = nI (z / 8) := by
    rw [gl_8, pk_div (by omega) (by omega) (by omega)]
  have h83 : nI (z / 8) - nI (z / 8) / 3 * 3 = nI (z / 8 % 3) := by
    rw [gl_3, pk_rem (by omega) (by omega) (by omega)]
  have hd4 : 1 + nI (z % 4) = nI (1 + z % 4) := by
    rw [gl_1, nI_add]
  have hd31 : 1 + nI (z % 31) = nI (1 + z % 31) := by
    rw [gl_1, nI_add]
  rw [h7, h4, h31, h3, h2, h8, h83, hd4, hd31]
  clear h7 h4 h31 h3 h2 h8 h83 hd4 hd31
  refine z_exb (R_count0 V) ?_
  refine z_exb (R_count3 V) ?_
  rcases (show m = 0 ∨ m = 1 ∨ m = 2 ∨ m = 3 ∨ m = 4 ∨ m = 5 ∨ m = 6 ∨ m = 7 ∨ m = 8 ∨ m = 9 ∨ m = 10 ∨ m = 11 ∨ m = 12 ∨ m = 13 ∨ m = 14 ∨ m = 15 by omega) with rfl | rfl | rfl | rfl | rfl | rfl | rfl | rfl | rfl | rfl | rfl | rfl | rfl | rfl | rfl | rfl
  · rw [if_pos (by decide)]
    obtain ⟨S', e, h⟩ := F_writes V (k := z % 7) (z := z / 8) (by omega) (by omega) hl
    refine z_exb e ?_
    exact ⟨S', rfl, h⟩
  · rw [if_neg (by decide), if_pos (by decide)]
    obtain ⟨S', e, h⟩ := F_writes V (k := z % 7) (z := z / 8) (by omega) (by omega) hl
    refine z_exb e ?_
    exact ⟨S', rfl, h⟩
  · rw [if_neg (by decide), if_neg (by decide), if_pos (by decide)]
    obtain ⟨S', e, h⟩ := F_writes V (k := z % 7) (z := z / 8) (by omega) (by omega) hl
    refine z_exb e ?_
    exact ⟨S', rfl, h⟩
  · rw [if_neg (by decide), if_neg (by decide), if_neg (by decide), if_pos (by decide)]
    obtain ⟨S', e, h⟩ := F_writes V (k := z % 7) (z := z / 8) (by omega) (by omega) hl
    refine z_exb e ?_
    exact ⟨S', rfl, h⟩
  · rw [if_neg (by decide), if_neg (by decide), if_neg (by decide), if_neg (by decide), if_pos (by decide)]
    refine z_exb (R_count1 V) ?_
    obtain ⟨r, S', e, h⟩ := L_remove V (k := z % 7) (by omega) hl
    refine z_exb e ?_
    dsimp only
    rcases h with ⟨rfl, V'⟩ | ⟨rfl, ⟨hb, hq8⟩, V'⟩ | ⟨rfl, ov', orr', nv', nr', q', qk', qv', qr', wr', wa', wc', wk', V', hP⟩
    · refine z_fin (Sx_of V' (by omega)) ?_
      rw [if_pos (by decide), if_pos rfl]
      rfl
    · refine z_fin (Sx_of V' (by omega)) ?_
      subst hq8
      rw [if_pos (by decide), if_neg (by decide), if_pos rfl, if_pos (by decide)]
      rfl
    · refine z_fin (Sx_of V' (by omega)) ?_
      obtain ⟨-, e0, e1⟩ := hP
      rw [mo_N] at e0 e1
      have e1 : zrr p q' orr' nv' nr' qk' qr' (z % 7) 1 = zN := by
        rw [e1]
        split <;> rfl
      have d0 := R_read V' (k := z % 7) (c := 0) (w := 0) (by omega) (by omega) (by omega)
      have d1 := R_read V' (k := z % 7) (c := 1) (w := 0) (by omega) (by omega) (by omega)
      rw [e0, if_pos rfl] at d0
      rw [e1, if_pos rfl] at d1
      simp (disch := omega) only [gl_0, gl_1, gl_2, gl_3, gl_4, gl_5, gl_6, gl_7, gl_8, gl_9, gl_10, gl_11, gl_12, gl_13, gl_14, gl_15, gl_16, gl_17, gl_18, gl_19, gl_20, gl_21, gl_22, gl_23, gl_24, gl_25, gl_26, gl_27, gl_28, gl_29, gl_30, gl_31, gl_32, gl_44, gl_48, gl_49, gl_57, gl_59, gl_60, gl_63, gl_70, gl_98, gl_99, gl_100, gl_101, gl_107, gl_109, gl_110, gl_111, gl_116, gl_120, gl_126, gl_155, gl_411, gl_999, gl_1000, gl_1233, gl_1644, gl_100000, gl_m1, nI_eq, nI_leI, nI_ltI, nI_add, nI_clamp, pk_mul, pk_sub, z_in, z_gt, z_bs, z_us, z_un, if_pos, if_neg, if_true, if_false, and_true, true_and, and_self, not_true_eq_false, not_false_eq_true, d0, d1]
  · rw [if_neg (by decide), if_neg (by decide), if_neg (by decide), if_neg (by decide), if_neg (by decide), if_pos (by decide)]
    obtain ⟨r, S', e, h⟩ := L_drain V (m := 1 + z % 4) (by omega) (by omega)
    refine z_exb e ?_
    dsimp only
    rcases h with ⟨hq0, rfl, V'⟩ | ⟨hq0, rfl, ov', orr', nv', nr', qk', qv', qr', wr', wa', wc', wk', V'⟩
    · refine z_fin (Sx_of V' (by omega)) ?_
      subst hq0
      rw [if_pos (by decide), if_pos rfl]
      rfl
    · refine z_fin (Sx_of V' (by omega)) ?_
      have c3 := R_count3 V'
      simp only [gl_3] at c3
      by_cases hle : q ≤ 1 + z % 4
      · have hqm : q - (1 + z % 4) = 0 := by omega
        rw [hqm] at c3 ⊢
        simp (disch := omega) only [gl_0, gl_1, gl_2, gl_3, gl_4, gl_5, gl_6, gl_7, gl_8, gl_9, gl_10, gl_11, gl_12, gl_13, gl_14, gl_15, gl_16, gl_17, gl_18, gl_19, gl_20, gl_21, gl_22, gl_23, gl_24, gl_25, gl_26, gl_27, gl_28, gl_29, gl_30, gl_31, gl_32, gl_44, gl_48, gl_49, gl_57, gl_59, gl_60, gl_63, gl_70, gl_98, gl_99, gl_100, gl_101, gl_107, gl_109, gl_110, gl_111, gl_116, gl_120, gl_126, gl_155, gl_411, gl_999, gl_1000, gl_1233, gl_1644, gl_100000, gl_m1, nI_eq, nI_leI, nI_ltI, nI_add, nI_clamp, pk_mul, pk_sub, z_in, z_gt, z_bs, z_us, z_un, if_pos, if_neg, if_true, if_false, and_true, true_and, and_self, not_true_eq_false, not_false_eq_true, c3]
      · have hqm : q - (1 + z % 4) = q - 1 - z % 4 := by omega
        rw [hqm] at c3 ⊢
        simp (disch := omega) only [gl_0, gl_1, gl_2, gl_3, gl_4, gl_5, gl_6, gl_7, gl_8, gl_9, gl_10, gl_11, gl_12, gl_13, gl_14, gl_15, gl_16, gl_17, gl_18, gl_19, gl_20, gl_21, gl_22, gl_23, gl_24, gl_25, gl_26, gl_27, gl_28, gl_29, gl_30, gl_31, gl_32, gl_44, gl_48, gl_49, gl_57, gl_59, gl_60, gl_63, gl_70, gl_98, gl_99, gl_100, gl_101, gl_107, gl_109, gl_110, gl_111, gl_116, gl_120, gl_126, gl_155, gl_411, gl_999, gl_1000, gl_1233, gl_1644, gl_100000, gl_m1, nI_eq, nI_leI, nI_ltI, nI_add, nI_clamp, pk_mul, pk_sub, z_in, z_gt, z_bs, z_us, z_un, if_pos, if_neg, if_true, if_false, and_true, true_and, and_self, not_true_eq_false, not_false_eq_true, c3]
  · rw [if_neg (by decide), if_neg (by decide), if_neg (by decide), if_neg (by decide), if_neg (by decide), if_neg (by decide), if_pos (by decide)]
    obtain ⟨r, S', e, h⟩ := L_drain V (m := 1 + z % 4) (by omega) (by omega)
    refine z_exb e ?_
    dsimp only
    rcases h with ⟨hq0, rfl, V'⟩ | ⟨hq0, rfl, ov', orr', nv', nr', qk', qv', qr', wr', wa', wc', wk', V'⟩
    · refine z_fin (Sx_of V' (by omega)) ?_
      subst hq0
      rw [if_pos (by decide), if_pos rfl]
      rfl
    · refine z_fin (Sx_of V' (by omega)) ?_
      have c3 := R_count3 V'
      simp only [gl_3] at c3
      by_cases hle : q ≤ 1 + z % 4
      · have hqm : q - (1 + z % 4) = 0 := by omega
        rw [hqm] at c3 ⊢
        simp (disch := omega) only [gl_0, gl_1, gl_2, gl_3, gl_4, gl_5, gl_6, gl_7, gl_8, gl_9, gl_10, gl_11, gl_12, gl_13, gl_14, gl_15, gl_16, gl_17, gl_18, gl_19, gl_20, gl_21, gl_22, gl_23, gl_24, gl_25, gl_26, gl_27, gl_28, gl_29, gl_30, gl_31, gl_32, gl_44, gl_48, gl_49, gl_57, gl_59, gl_60, gl_63, gl_70, gl_98, gl_99, gl_100, gl_101, gl_107, gl_109, gl_110, gl_111, gl_116, gl_120, gl_126, gl_155, gl_411, gl_999, gl_1000, gl_1233, gl_1644, gl_100000, gl_m1, nI_eq, nI_leI, nI_ltI, nI_add, nI_clamp, pk_mul, pk_sub, z_in, z_gt, z_bs, z_us, z_un, if_pos, if_neg, if_true, if_false, and_true, true_and, and_self, not_true_eq_false, not_false_eq_true, c3]
      · have hqm : q - (1 + z % 4) = q - 1 - z % 4 := by omega
        rw [hqm] at c3 ⊢
        simp (disch := omega) only [gl_0, gl_1, gl_2, gl_3, gl_4, gl_5, gl_6, gl_7, gl_8, gl_9, gl_10, gl_11, gl_12, gl_13, gl_14, gl_15, gl_16, gl_17, gl_18, gl_19, gl_20, gl_21, gl_22, gl_23, gl_24, gl_25, gl_26, gl_27, gl_28, gl_29, gl_30, gl_31, gl_32, gl_44, gl_48, gl_49, gl_57, gl_59, gl_60, gl_63, gl_70, gl_98, gl_99, gl_100, gl_101, gl_107, gl_109, gl_110, gl_111, gl_116, gl_120, gl_126, gl_155, gl_411, gl_999, gl_1000, gl_1233, gl_1644, gl_100000, gl_m1, nI_eq, nI_leI, nI_ltI, nI_add, nI_clamp, pk_mul, pk_sub, z_in, z_gt, z_bs, z_us, z_un, if_pos, if_neg, if_true, if_false, and_true, true_and, and_self, not_true_eq_false, not_false_eq_true, c3]
  · rw [if_neg (by decide), if_neg (by decide), if_neg (by decide), if_neg (by decide), if_neg (by decide), if_neg (by decide), if_neg (by decide), if_pos (by decide)]
    refine z_exb (R_count2 V) ?_
    obtain ⟨r, S', e, h⟩ := L_backfill V (m := 1 + z % 31) (by omega) (by omega)
    refine z_exb e ?_
    dsimp only
    rcases h with ⟨hc, rfl, V'⟩ | ⟨rfl, hr, ov', orr', nv', nr', qk', qv', qr', wr', wa', wc', wk', V'⟩
    · refine z_fin (Sx_of V' (by omega)) ?_
      rw [if_neg z_n2, if_pos rfl]
      by_cases h1 : p = 1
      · have hx31 : x = 31 := hc.elim (fun h => absurd h1 h) id
        subst h1 hx31
        rw [if_pos rfl]
        simp (disch := omega) only [gl_0, gl_1, gl_2, gl_3, gl_4, gl_5, gl_6, gl_7, gl_8, gl_9, gl_10, gl_11, gl_12, gl_13, gl_14, gl_15, gl_16, gl_17, gl_18, gl_19, gl_20, gl_21, gl_22, gl_23, gl_24, gl_25, gl_26, gl_27, gl_28, gl_29, gl_30, gl_31, gl_32, gl_44, gl_48, gl_49, gl_57, gl_59, gl_60, gl_63, gl_70, gl_98, gl_99, gl_100, gl_101, gl_107, gl_109, gl_110, gl_111, gl_116, gl_120, gl_126, gl_155, gl_411, gl_999, gl_1000, gl_1233, gl_1644, gl_100000, gl_m1, nI_eq, nI_leI, nI_ltI, nI_add, nI_clamp, pk_mul, pk_sub, z_in, z_gt, z_bs, z_us, z_un, if_pos, if_neg, if_true, if_false, and_true, true_and, and_self, not_true_eq_false, not_false_eq_true]
      · simp (disch := omega) only [gl_0, gl_1, gl_2, gl_3, gl_4, gl_5, gl_6, gl_7, gl_8, gl_9, gl_10, gl_11, gl_12, gl_13, gl_14, gl_15, gl_16, gl_17, gl_18, gl_19, gl_20, gl_21, gl_22, gl_23, gl_24, gl_25, gl_26, gl_27, gl_28, gl_29, gl_30, gl_31, gl_32, gl_44, gl_48, gl_49, gl_57, gl_59, gl_60, gl_63, gl_70, gl_98, gl_99, gl_100, gl_101, gl_107, gl_109, gl_110, gl_111, gl_116, gl_120, gl_126, gl_155, gl_411, gl_999, gl_1000, gl_1233, gl_1644, gl_100000, gl_m1, nI_eq, nI_leI, nI_ltI, nI_add, nI_clamp, pk_mul, pk_sub, z_in, z_gt, z_bs, z_us, z_un, if_pos, if_neg, if_true, if_false, and_true, true_and, and_self, not_true_eq_false, not_false_eq_true, h1]
    · refine z_fin (Sx_of V' (by omega)) ?_
      have c2 := R_count2 V'
      rw [if_pos rfl] at c2
      simp only [gl_2] at c2
      rw [if_pos (Int32.not_lt.1 hr), if_pos rfl]
      by_cases h31 : x + (1 + z % 31) < 31
      · rw [if_pos h31] at c2
        simp (disch := omega) only [gl_0, gl_1, gl_2, gl_3, gl_4, gl_5, gl_6, gl_7, gl_8, gl_9, gl_10, gl_11, gl_12, gl_13, gl_14, gl_15, gl_16, gl_17, gl_18, gl_19, gl_20, gl_21, gl_22, gl_23, gl_24, gl_25, gl_26, gl_27, gl_28, gl_29, gl_30, gl_31, gl_32, gl_44, gl_48, gl_49, gl_57, gl_59, gl_60, gl_63, gl_70, gl_98, gl_99, gl_100, gl_101, gl_107, gl_109, gl_110, gl_111, gl_116, gl_120, gl_126, gl_155, gl_411, gl_999, gl_1000, gl_1233, gl_1644, gl_100000, gl_m1, nI_eq, nI_leI, nI_ltI, nI_add, nI_clamp, pk_mul, pk_sub, z_in, z_gt, z_bs, z_us, z_un, if_pos, if_neg, if_true, if_false, and_true, true_and, and_self, not_true_eq_false, not_false_eq_true, c2]
      · rw [if_neg h31] at c2
        by_cases h32 : x + 1 + z % 31 = 31
        · simp (disch := omega) only [gl_0, gl_1, gl_2, gl_3, gl_4, gl_5, gl_6, gl_7, gl_8, gl_9, gl_10, gl_11, gl_12, gl_13, gl_14, gl_15, gl_16, gl_17, gl_18, gl_19, gl_20, gl_21, gl_22, gl_23, gl_24, gl_25, gl_26, gl_27, gl_28, gl_29, gl_30, gl_31, gl_32, gl_44, gl_48, gl_49, gl_57, gl_59, gl_60, gl_63, gl_70, gl_98, gl_99, gl_100, gl_101, gl_107, gl_109, gl_110, gl_111, gl_116, gl_120, gl_126, gl_155, gl_411, gl_999, gl_1000, gl_1233, gl_1644, gl_100000, gl_m1, nI_eq, nI_leI, nI_ltI, nI_add, nI_clamp, pk_mul, pk_sub, z_in, z_gt, z_bs, z_us, z_un, if_pos, if_neg, if_true, if_false, and_true, true_and, and_self, not_true_eq_false, not_false_eq_true, c2, h32]
        · simp (disch := omega) only [gl_0, gl_1, gl_2, gl_3, gl_4, gl_5, gl_6, gl_7, gl_8, gl_9, gl_10, gl_11, gl_12, gl_13, gl_14, gl_15, gl_16, gl_17, gl_18, gl_19, gl_20, gl_21, gl_22, gl_23, gl_24, gl_25, gl_26, gl_27, gl_28, gl_29, gl_30, gl_31, gl_32, gl_44, gl_48, gl_49, gl_57, gl_59, gl_60, gl_63, gl_70, gl_98, gl_99, gl_100, gl_101, gl_107, gl_109, gl_110, gl_111, gl_116, gl_120, gl_126, gl_155, gl_411, gl_999, gl_1000, gl_1233, gl_1644, gl_100000, gl_m1, nI_eq, nI_leI, nI_ltI, nI_add, nI_clamp, pk_mul, pk_sub, z_in, z_gt, z_bs, z_us, z_un, if_pos, if_neg, if_true, if_false, and_true, true_and, and_self, not_true_eq_false, not_false_eq_true, c2]
  · rw [if_neg (by decide), if_neg (by decide), if_neg (by decide), if_neg (by decide), if_neg (by decide), if_neg (by decide), if_neg (by decide), if_neg (by decide), if_pos (by decide)]
    refine z_exb (R_count2 V) ?_
    obtain ⟨r, S', e, h⟩ := L_backfill V (m := 1 + z % 31) (by omega) (by omega)
    refine z_exb e ?_
    dsimp only
    rcases h with ⟨hc, rfl, V'⟩ | ⟨rfl, hr, ov', orr', nv', nr', qk', qv', qr', wr', wa', wc', wk', V'⟩
    · refine z_fin (Sx_of V' (by omega)) ?_
      rw [if_neg z_n2, if_pos rfl]
      by_cases h1 : p = 1
      · have hx31 : x = 31 := hc.elim (fun h => absurd h1 h) id
        subst h1 hx31
        rw [if_pos rfl]
        simp (disch := omega) only [gl_0, gl_1, gl_2, gl_3, gl_4, gl_5, gl_6, gl_7, gl_8, gl_9, gl_10, gl_11, gl_12, gl_13, gl_14, gl_15, gl_16, gl_17, gl_18, gl_19, gl_20, gl_21, gl_22, gl_23, gl_24, gl_25, gl_26, gl_27, gl_28, gl_29, gl_30, gl_31, gl_32, gl_44, gl_48, gl_49, gl_57, gl_59, gl_60, gl_63, gl_70, gl_98, gl_99, gl_100, gl_101, gl_107, gl_109, gl_110, gl_111, gl_116, gl_120, gl_126, gl_155, gl_411, gl_999, gl_1000, gl_1233, gl_1644, gl_100000, gl_m1, nI_eq, nI_leI, nI_ltI, nI_add, nI_clamp, pk_mul, pk_sub, z_in, z_gt, z_bs, z_us, z_un, if_pos, if_neg, if_true, if_false, and_true, true_and, and_self, not_true_eq_false, not_false_eq_true]
      · simp (disch := omega) only [gl_0, gl_1, gl_2, gl_3, gl_4, gl_5, gl_6, gl_7, gl_8, gl_9, gl_10, gl_11, gl_12, gl_13, gl_14, gl_15, gl_16, gl_17, gl_18, gl_19, gl_20, gl_21, gl_22, gl_23, gl_24, gl_25, gl_26, gl_27, gl_28, gl_29, gl_30, gl_31, gl_32, gl_44, gl_48, gl_49, gl_57, gl_59, gl_60, gl_63, gl_70, gl_98, gl_99, gl_100, gl_101, gl_107, gl_109, gl_110, gl_111, gl_116, gl_120, gl_126, gl_155, gl_411, gl_999, gl_1000, gl_1233, gl_1644, gl_100000, gl_m1, nI_eq, nI_leI, nI_ltI, nI_add, nI_clamp, pk_mul, pk_sub, z_in, z_gt, z_bs, z_us, z_un, if_pos, if_neg, if_true, if_false, and_true, true_and, and_self, not_true_eq_false, not_false_eq_true, h1]
    · refine z_fin (Sx_of V' (by omega)) ?_
      have c2 := R_count2 V'
      rw [if_pos rfl] at c2
      simp only [gl_2] at c2
      rw [if_pos (Int32.not_lt.1 hr), if_pos rfl]
      by_cases h31 : x + (1 + z % 31) < 31
      · rw [if_pos h31] at c2
        simp (disch := omega) only [gl_0, gl_1, gl_2, gl_3, gl_4, gl_5, gl_6, gl_7, gl_8, gl_9, gl_10, gl_11, gl_12, gl_13, gl_14, gl_15, gl_16, gl_17, gl_18, gl_19, gl_20, gl_21, gl_22, gl_23, gl_24, gl_25, gl_26, gl_27, gl_28, gl_29, gl_30, gl_31, gl_32, gl_44, gl_48, gl_49, gl_57, gl_59, gl_60, gl_63, gl_70, gl_98, gl_99, gl_100, gl_101, gl_107, gl_109, gl_110, gl_111, gl_116, gl_120, gl_126, gl_155, gl_411, gl_999, gl_1000, gl_1233, gl_1644, gl_100000, gl_m1, nI_eq, nI_leI, nI_ltI, nI_add, nI_clamp, pk_mul, pk_sub, z_in, z_gt, z_bs, z_us, z_un, if_pos, if_neg, if_true, if_false, and_true, true_and, and_self, not_true_eq_false, not_false_eq_true, c2]
      · rw [if_neg h31] at c2
        by_cases h32 : x + 1 + z % 31 = 31
        · simp (disch := omega) only [gl_0, gl_1, gl_2, gl_3, gl_4, gl_5, gl_6, gl_7, gl_8, gl_9, gl_10, gl_11, gl_12, gl_13, gl_14, gl_15, gl_16, gl_17, gl_18, gl_19, gl_20, gl_21, gl_22, gl_23, gl_24, gl_25, gl_26, gl_27, gl_28, gl_29, gl_30, gl_31, gl_32, gl_44, gl_48, gl_49, gl_57, gl_59, gl_60, gl_63, gl_70, gl_98, gl_99, gl_100, gl_101, gl_107, gl_109, gl_110, gl_111, gl_116, gl_120, gl_126, gl_155, gl_411, gl_999, gl_1000, gl_1233, gl_1644, gl_100000, gl_m1, nI_eq, nI_leI, nI_ltI, nI_add, nI_clamp, pk_mul, pk_sub, z_in, z_gt, z_bs, z_us, z_un, if_pos, if_neg, if_true, if_false, and_true, true_and, and_self, not_true_eq_false, not_false_eq_true, c2, h32]
        · simp (disch := omega) only [gl_0, gl_1, gl_2, gl_3, gl_4, gl_5, gl_6, gl_7, gl_8, gl_9, gl_10, gl_11, gl_12, gl_13, gl_14, gl_15, gl_16, gl_17, gl_18, gl_19, gl_20, gl_21, gl_22, gl_23, gl_24, gl_25, gl_26, gl_27, gl_28, gl_29, gl_30, gl_31, gl_32, gl_44, gl_48, gl_49, gl_57, gl_59, gl_60, gl_63, gl_70, gl_98, gl_99, gl_100, gl_101, gl_107, gl_109, gl_110, gl_111, gl_116, gl_120, gl_126, gl_155, gl_411, gl_999, gl_1000, gl_1233, gl_1644, gl_100000, gl_m1, nI_eq, nI_leI, nI_ltI, nI_add, nI_clamp, pk_mul, pk_sub, z_in, z_gt, z_bs, z_us, z_un, if_pos, if_neg, if_true, if_false, and_true, true_and, and_self, not_true_eq_false, not_false_eq_true, c2]
  · rw [if_neg (by decide), if_neg (by decide), if_neg (by decide), if_neg (by decide), if_neg (by decide), if_neg (by decide), if_neg (by decide), if_neg (by decide), if_neg (by decide), if_pos (by decide)]
    obtain ⟨r, S', e, h⟩ := L_begin V
    refine z_exb e ?_
    dsimp only
    rcases h with ⟨rfl, h1, V'⟩ | ⟨h1, ov', orr', nv', nr', qk', qv', qr', wr', wa', wc', wk', rfl, V', h2⟩
    · refine z_fin (Sx_of V' (by omega)) ?_
      rw [if_neg z_n2, if_pos rfl]
      simp (disch := omega) only [gl_0, gl_1, gl_2, gl_3, gl_4, gl_5, gl_6, gl_7, gl_8, gl_9, gl_10, gl_11, gl_12, gl_13, gl_14, gl_15, gl_16, gl_17, gl_18, gl_19, gl_20, gl_21, gl_22, gl_23, gl_24, gl_25, gl_26, gl_27, gl_28, gl_29, gl_30, gl_31, gl_32, gl_44, gl_48, gl_49, gl_57, gl_59, gl_60, gl_63, gl_70, gl_98, gl_99, gl_100, gl_101, gl_107, gl_109, gl_110, gl_111, gl_116, gl_120, gl_126, gl_155, gl_411, gl_999, gl_1000, gl_1233, gl_1644, gl_100000, gl_m1, nI_eq, nI_leI, nI_ltI, nI_add, nI_clamp, pk_mul, pk_sub, z_in, z_gt, z_bs, z_us, z_un, if_pos, if_neg, if_true, if_false, and_true, true_and, and_self, not_true_eq_false, not_false_eq_true]
    · refine z_fin (Sx_of V' (by omega)) ?_
      have hc := z_cnt_le (zP orr') 31
      have c0 := R_count0 V'
      have c2 := R_count2 V'
      have c4 := R_count4 V'
      have c7 := R_count7 V'
      rw [if_pos rfl] at c2
      rw [h2] at c7
      simp only [gl_0, gl_1, gl_2, gl_3, gl_4, gl_5, gl_6, gl_7, gl_8, gl_9, gl_10, gl_11, gl_12, gl_13, gl_14, gl_15, gl_16, gl_17, gl_18, gl_19, gl_20, gl_21, gl_22, gl_23, gl_24, gl_25, gl_26, gl_27, gl_28, gl_29, gl_30, gl_31, gl_32, gl_44, gl_48, gl_49, gl_57, gl_59, gl_60, gl_63, gl_70, gl_98, gl_99, gl_100, gl_101, gl_107, gl_109, gl_110, gl_111, gl_116, gl_120, gl_126, gl_155, gl_411, gl_999, gl_1000, gl_1233, gl_1644, gl_100000, gl_m1] at c0 c2 c4 c7
      rw [if_pos (z_ge (by omega))]
      subst h1
      simp (disch := omega) only [gl_0, gl_1, gl_2, gl_3, gl_4, gl_5, gl_6, gl_7, gl_8, gl_9, gl_10, gl_11, gl_12, gl_13, gl_14, gl_15, gl_16, gl_17, gl_18, gl_19, gl_20, gl_21, gl_22, gl_23, gl_24, gl_25, gl_26, gl_27, gl_28, gl_29, gl_30, gl_31, gl_32, gl_44, gl_48, gl_49, gl_57, gl_59, gl_60, gl_63, gl_70, gl_98, gl_99, gl_100, gl_101, gl_107, gl_109, gl_110, gl_111, gl_116, gl_120, gl_126, gl_155, gl_411, gl_999, gl_1000, gl_1233, gl_1644, gl_100000, gl_m1, nI_eq, nI_leI, nI_ltI, nI_add, nI_clamp, pk_mul, pk_sub, z_in, z_gt, z_bs, z_us, z_un, if_pos, if_neg, if_true, if_false, and_true, true_and, and_self, not_true_eq_false, not_false_eq_true, c0, c2, c4, c7]
  · rw [if_neg (by decide), if_neg (by decide), if_neg (by decide), if_neg (by decide), if_neg (by decide), if_neg (by decide), if_neg (by decide), if_neg (by decide), if_neg (by decide), if_neg (by decide), if_pos (by decide)]
    refine z_exb (R_count8 V) ?_
    obtain ⟨r, S', e, h⟩ := L_turn V
    refine z_exb e ?_
    dsimp only
    rcases h with ⟨rfl, h1, V'⟩ | ⟨h1, ov', orr', nv', nr', qk', qv', qr', wr', wa', wc', wk', rfl, V', h2⟩
    · refine z_fin (Sx_of V' (by omega)) ?_
      rw [if_neg z_n2, if_neg h1]
      simp (disch := omega) only [gl_0, gl_1, gl_2, gl_3, gl_4, gl_5, gl_6, gl_7, gl_8, gl_9, gl_10, gl_11, gl_12, gl_13, gl_14, gl_15, gl_16, gl_17, gl_18, gl_19, gl_20, gl_21, gl_22, gl_23, gl_24, gl_25, gl_26, gl_27, gl_28, gl_29, gl_30, gl_31, gl_32, gl_44, gl_48, gl_49, gl_57, gl_59, gl_60, gl_63, gl_70, gl_98, gl_99, gl_100, gl_101, gl_107, gl_109, gl_110, gl_111, gl_116, gl_120, gl_126, gl_155, gl_411, gl_999, gl_1000, gl_1233, gl_1644, gl_100000, gl_m1, nI_eq, nI_leI, nI_ltI, nI_add, nI_clamp, pk_mul, pk_sub, z_in, z_gt, z_bs, z_us, z_un, if_pos, if_neg, if_true, if_false, and_true, true_and, and_self, not_true_eq_false, not_false_eq_true]
    · refine z_fin (Sx_of V' (by omega)) ?_
      have hc := z_cnt_le (zP nr') 31
      have c0 := R_count0 V'
      have c5 := R_count5 V'
      have ck := R_check V'
      rw [if_pos (Or.inr rfl), h2] at ck
      simp only [gl_0, gl_1, gl_2, gl_3, gl_4, gl_5, gl_6, gl_7, gl_8, gl_9, gl_10, gl_11, gl_12, gl_13, gl_14, gl_15, gl_16, gl_17, gl_18, gl_19, gl_20, gl_21, gl_22, gl_23, gl_24, gl_25, gl_26, gl_27, gl_28, gl_29, gl_30, gl_31, gl_32, gl_44, gl_48, gl_49, gl_57, gl_59, gl_60, gl_63, gl_70, gl_98, gl_99, gl_100, gl_101, gl_107, gl_109, gl_110, gl_111, gl_116, gl_120, gl_126, gl_155, gl_411, gl_999, gl_1000, gl_1233, gl_1644, gl_100000, gl_m1] at c0 c5
      rw [if_pos (z_ge (by omega)), if_pos h1]
      simp (disch := omega) only [gl_0, gl_1, gl_2, gl_3, gl_4, gl_5, gl_6, gl_7, gl_8, gl_9, gl_10, gl_11, gl_12, gl_13, gl_14, gl_15, gl_16, gl_17, gl_18, gl_19, gl_20, gl_21, gl_22, gl_23, gl_24, gl_25, gl_26, gl_27, gl_28, gl_29, gl_30, gl_31, gl_32, gl_44, gl_48, gl_49, gl_57, gl_59, gl_60, gl_63, gl_70, gl_98, gl_99, gl_100, gl_101, gl_107, gl_109, gl_110, gl_111, gl_116, gl_120, gl_126, gl_155, gl_411, gl_999, gl_1000, gl_1233, gl_1644, gl_100000, gl_m1, nI_eq, nI_leI, nI_ltI, nI_add, nI_clamp, pk_mul, pk_sub, z_in, z_gt, z_bs, z_us, z_un, if_pos, if_neg, if_true, if_false, and_true, true_and, and_self, not_true_eq_false, not_false_eq_true, c0, c5, ck]
  · rw [if_neg (by decide), if_neg (by decide), if_neg (by decide), if_neg (by decide), if_neg (by decide), if_neg (by decide), if_neg (by decide), if_neg (by decide), if_neg (by decide), if_neg (by decide), if_neg (by decide), if_pos (by decide)]
    obtain ⟨r, S', e, h⟩ := L_back V
    refine z_exb e ?_
    dsimp only
    rcases h with ⟨rfl, V'⟩ | ⟨rfl, p', x', ov', orr', nv', nr', qk', qv', qr', wr', wa', wc', wk', rfl, rfl, V'⟩
    · refine z_fin (Sx_of V' (by omega)) ?_
      rw [if_neg z_n2, if_pos rfl]
      rfl
    · refine z_fin (Sx_of V' (by omega)) ?_
      have c0 := R_count0 V'
      simp only [gl_0, gl_1, gl_2, gl_3, gl_4, gl_5, gl_6, gl_7, gl_8, gl_9, gl_10, gl_11, gl_12, gl_13, gl_14, gl_15, gl_16, gl_17, gl_18, gl_19, gl_20, gl_21, gl_22, gl_23, gl_24, gl_25, gl_26, gl_27, gl_28, gl_29, gl_30, gl_31, gl_32, gl_44, gl_48, gl_49, gl_57, gl_59, gl_60, gl_63, gl_70, gl_98, gl_99, gl_100, gl_101, gl_107, gl_109, gl_110, gl_111, gl_116, gl_120, gl_126, gl_155, gl_411, gl_999, gl_1000, gl_1233, gl_1644, gl_100000, gl_m1] at c0
      rw [if_pos (z_ge (by omega))]
      simp (disch := omega) only [gl_0, gl_1, gl_2, gl_3, gl_4, gl_5, gl_6, gl_7, gl_8, gl_9, gl_10, gl_11, gl_12, gl_13, gl_14, gl_15, gl_16, gl_17, gl_18, gl_19, gl_20, gl_21, gl_22, gl_23, gl_24, gl_25, gl_26, gl_27, gl_28, gl_29, gl_30, gl_31, gl_32, gl_44, gl_48, gl_49, gl_57, gl_59, gl_60, gl_63, gl_70, gl_98, gl_99, gl_100, gl_101, gl_107, gl_109, gl_110, gl_111, gl_116, gl_120, gl_126, gl_155, gl_411, gl_999, gl_1000, gl_1233, gl_1644, gl_100000, gl_m1, nI_eq, nI_leI, nI_ltI, nI_add, nI_clamp, pk_mul, pk_sub, z_in, z_gt, z_bs, z_us, z_un, if_pos, if_neg, if_true, if_false, and_true, true_and, and_self, not_true_eq_false, not_false_eq_true, c0, Nat.add_sub_cancel]
  · rw [if_neg (by decide), if_neg (by decide), if_neg (by decide), if_neg (by decide), if_neg (by decide), if_neg (by decide), if_neg (by decide), if_neg (by decide), if_neg (by decide), if_neg (by decide), if_neg (by decide), if_neg (by decide), if_pos (by decide)]
    by_cases hz3 : z % 3 = 0
    · rw [hz3, if_pos (by decide)]
      refine z_exb (R_count9 V) ?_
      obtain ⟨r, S', e, h⟩ := L_crash V
      refine z_exb e ?_
      dsimp only
      rcases h with ⟨h1, rfl, V'⟩ | ⟨h1, rfl, ov', orr', nv', nr', qk', qv', qr', wr', wa', wc', wk', V'⟩
      · refine z_fin (Sx_of V' (by omega)) ?_
        subst h1
        rw [if_pos (by decide), if_pos rfl]
        rfl
      · refine z_fin (Sx_of V' (by omega)) ?_
        have c9 := R_count9 V'
        have c3 := R_count3 V'
        simp only [gl_0, gl_1, gl_2, gl_3, gl_4, gl_5, gl_6, gl_7, gl_8, gl_9, gl_10, gl_11, gl_12, gl_13, gl_14, gl_15, gl_16, gl_17, gl_18, gl_19, gl_20, gl_21, gl_22, gl_23, gl_24, gl_25, gl_26, gl_27, gl_28, gl_29, gl_30, gl_31, gl_32, gl_44, gl_48, gl_49, gl_57, gl_59, gl_60, gl_63, gl_70, gl_98, gl_99, gl_100, gl_101, gl_107, gl_109, gl_110, gl_111, gl_116, gl_120, gl_126, gl_155, gl_411, gl_999, gl_1000, gl_1233, gl_1644, gl_100000, gl_m1] at c9 c3
        simp (disch := omega) only [gl_0, gl_1, gl_2, gl_3, gl_4, gl_5, gl_6, gl_7, gl_8, gl_9, gl_10, gl_11, gl_12, gl_13, gl_14, gl_15, gl_16, gl_17, gl_18, gl_19, gl_20, gl_21, gl_22, gl_23, gl_24, gl_25, gl_26, gl_27, gl_28, gl_29, gl_30, gl_31, gl_32, gl_44, gl_48, gl_49, gl_57, gl_59, gl_60, gl_63, gl_70, gl_98, gl_99, gl_100, gl_101, gl_107, gl_109, gl_110, gl_111, gl_116, gl_120, gl_126, gl_155, gl_411, gl_999, gl_1000, gl_1233, gl_1644, gl_100000, gl_m1, nI_eq, nI_leI, nI_ltI, nI_add, nI_clamp, pk_mul, pk_sub, z_in, z_gt, z_bs, z_us, z_un, if_pos, if_neg, if_true, if_false, and_true, true_and, and_self, not_true_eq_false, not_false_eq_true, c9, c3]
    · rw [if_neg (by rw [gl_0, nI_leI (by omega) (by omega)]; omega)]
      exact ⟨S, rfl, Sx_of V (by omega)⟩
  · rw [if_neg (by decide), if_neg (by decide), if_neg (by decide), if_neg (by decide), if_neg (by decide), if_neg (by decide), if_neg (by decide), if_neg (by decide), if_neg (by decide), if_neg (by decide), if_neg (by decide), if_neg (by decide), if_neg (by decide), if_pos (by decide)]
    refine z_exb (R_count6 V) ?_
    by_cases hz4 : z % 4 = 0
    · obtain ⟨r, S', e, h⟩ := L_drop V
      refine z_exb (a := (r, S')) (by rw [hz4, if_pos (by decide), e]; rfl) ?_
      dsimp only
      rcases h with ⟨rfl, V'⟩ | ⟨rfl, rfl, ov', orr', nv', nr', qk', qv', qr', wr', wa', wc', wk', V', h2⟩
      · refine z_fin (Sx_of V' (by omega)) ?_
        have c0 := R_count0 V'
        simp only [gl_0, gl_1, gl_2, gl_3, gl_4, gl_5, gl_6, gl_7, gl_8, gl_9, gl_10, gl_11, gl_12, gl_13, gl_14, gl_15, gl_16, gl_17, gl_18, gl_19, gl_20, gl_21, gl_22, gl_23, gl_24, gl_25, gl_26, gl_27, gl_28, gl_29, gl_30, gl_31, gl_32, gl_44, gl_48, gl_49, gl_57, gl_59, gl_60, gl_63, gl_70, gl_98, gl_99, gl_100, gl_101, gl_107, gl_109, gl_110, gl_111, gl_116, gl_120, gl_126, gl_155, gl_411, gl_999, gl_1000, gl_1233, gl_1644, gl_100000, gl_m1] at c0
        rw [if_neg z_n2]
        simp (disch := omega) only [gl_0, gl_1, gl_2, gl_3, gl_4, gl_5, gl_6, gl_7, gl_8, gl_9, gl_10, gl_11, gl_12, gl_13, gl_14, gl_15, gl_16, gl_17, gl_18, gl_19, gl_20, gl_21, gl_22, gl_23, gl_24, gl_25, gl_26, gl_27, gl_28, gl_29, gl_30, gl_31, gl_32, gl_44, gl_48, gl_49, gl_57, gl_59, gl_60, gl_63, gl_70, gl_98, gl_99, gl_100, gl_101, gl_107, gl_109, gl_110, gl_111, gl_116, gl_120, gl_126, gl_155, gl_411, gl_999, gl_1000, gl_1233, gl_1644, gl_100000, gl_m1, nI_eq, nI_leI, nI_ltI, nI_add, nI_clamp, pk_mul, pk_sub, z_in, z_gt, z_bs, z_us, z_un, if_pos, if_neg, if_true, if_false, and_true, true_and, and_self, not_true_eq_false, not_false_eq_true, c0]
      · refine z_fin (Sx_of V' (by omega)) ?_
        have hc := z_cnt_le (zst nr) 31
        have c0 := R_count0 V'
        have c4 := R_count4 V'
        rw [h2] at c4
        simp only [gl_0, gl_1, gl_2, gl_3, gl_4, gl_5, gl_6, gl_7, gl_8, gl_9, gl_10, gl_11, gl_12, gl_13, gl_14, gl_15, gl_16, gl_17, gl_18, gl_19, gl_20, gl_21, gl_22, gl_23, gl_24, gl_25, gl_26, gl_27, gl_28, gl_29, gl_30, gl_31, gl_32, gl_44, gl_48, gl_49, gl_57, gl_59, gl_60, gl_63, gl_70, gl_98, gl_99, gl_100, gl_101, gl_107, gl_109, gl_110, gl_111, gl_116, gl_120, gl_126, gl_155, gl_411, gl_999, gl_1000, gl_1233, gl_1644, gl_100000, gl_m1] at c0 c4
        rw [if_pos (z_ge (by omega))]
        simp (disch := omega) only [gl_0, gl_1, gl_2, gl_3, gl_4, gl_5, gl_6, gl_7, gl_8, gl_9, gl_10, gl_11, gl_12, gl_13, gl_14, gl_15, gl_16, gl_17, gl_18, gl_19, gl_20, gl_21, gl_22, gl_23, gl_24, gl_25, gl_26, gl_27, gl_28, gl_29, gl_30, gl_31, gl_32, gl_44, gl_48, gl_49, gl_57, gl_59, gl_60, gl_63, gl_70, gl_98, gl_99, gl_100, gl_101, gl_107, gl_109, gl_110, gl_111, gl_116, gl_120, gl_126, gl_155, gl_411, gl_999, gl_1000, gl_1233, gl_1644, gl_100000, gl_m1, nI_eq, nI_leI, nI_ltI, nI_add, nI_clamp, pk_mul, pk_sub, z_in, z_gt, z_bs, z_us, z_un, if_pos, if_neg, if_true, if_false, and_true, true_and, and_self, not_true_eq_false, not_false_eq_true, c0, c4]
    · refine z_exb (a := ((-1 : Int32), S)) (by rw [if_neg (by rw [gl_0, nI_leI (by omega) (by omega)]; omega)]) ?_
      dsimp only
      refine z_fin (Sx_of V (by omega)) ?_
      have c0 := R_count0 V
      simp only [gl_0] at c0
      rw [if_neg z_n1]
      simp (disch := omega) only [gl_0, gl_1, gl_2, gl_3, gl_4, gl_5, gl_6, gl_7, gl_8, gl_9, gl_10, gl_11, gl_12, gl_13, gl_14, gl_15, gl_16, gl_17, gl_18, gl_19, gl_20, gl_21, gl_22, gl_23, gl_24, gl_25, gl_26, gl_27, gl_28, gl_29, gl_30, gl_31, gl_32, gl_44, gl_48, gl_49, gl_57, gl_59, gl_60, gl_63, gl_70, gl_98, gl_99, gl_100, gl_101, gl_107, gl_109, gl_110, gl_111, gl_116, gl_120, gl_126, gl_155, gl_411, gl_999, gl_1000, gl_1233, gl_1644, gl_100000, gl_m1, nI_eq, nI_leI, nI_ltI, nI_add, nI_clamp, pk_mul, pk_sub, z_in, z_gt, z_bs, z_us, z_un, if_pos, if_neg, if_true, if_false, and_true, true_and, and_self, not_true_eq_false, not_false_eq_true, c0]
  · rw [if_neg (by decide), if_neg (by decide), if_neg (by decide), if_neg (by decide), if_neg (by decide), if_neg (by decide), if_neg (by decide), if_neg (by decide), if_neg (by decide), if_neg (by decide), if_neg (by decide), if_neg (by decide), if_neg (by decide), if_neg (by decide), if_pos (by decide)]
    refine z_exb (R_check V) ?_
    obtain ⟨r, S', e, h⟩ := L_mend V (k := z % 7) (by omega)
    refine z_exb e ?_
    dsimp only
    rcases h with ⟨rfl, V'⟩ | ⟨hb, rfl, ov', orr', nv', nr', qk', qv', qr', wr', wa', wc', wk', V', h2⟩
    · refine z_fin (Sx_of V' (by omega)) ?_
      rw [if_neg z_n2, if_pos rfl]
      rfl
    · refine z_fin (Sx_of V' (by omega)) ?_
      have ck := R_check V'
      have hs1 := z_shr (P := zdf ov orr nv nr) (k := z % 7) (by omega)
      have hs2 := z_shr (P := zdf ov' orr' nv' nr') (k := z % 7) (by omega)
      rw [h2, if_neg (by decide)] at hs2
      rw [if_pos hb] at ck
      rw [← gl_1] at hs1 hs2
      rw [if_pos (by split <;> decide), if_pos hb, hs1, if_pos (by rw [gl_1]), ck, z_bs, hs2, if_pos (by decide)]
      rfl
  · rw [if_neg (by decide), if_neg (by decide), if_neg (by decide), if_neg (by decide), if_neg (by decide), if_neg (by decide), if_neg (by decide), if_neg (by decide), if_neg (by decide), if_neg (by decide), if_neg (by decide), if_neg (by decide), if_neg (by decide), if_neg (by decide), if_neg (by decide)]
    obtain ⟨S1, e1, -, -, W, ov1, orr1, nv1, nr1, qk1, qv1, qr1, wr1, wa1, wc1, wk1, hW, hbit, hwa, hwc, hwk, V1, hz1⟩ := L_walk V (w := z / 8 % 3) (c := z % 2) (by omega) (by omega)
    refine z_exb e1 ?_
    dsimp only
    obtain ⟨j, S2, e2, hj, hne, ov2, orr2, nv2, nr2, qk2, qv2, qr2, wr2, wa2, wc2, wk2, hlt, hz2, V2⟩ := L_step V1 (w := z / 8 % 3) (c := z % 2) (W := W) (by omega) (by omega) hW hwa hbit hwc hwk
    refine z_exb e2 ?_
    dsimp only
    refine z_fin (Sx_of V2 (by omega)) ?_
    have hK := zs_le (zbn (zkr p q orr nv nr qk qr (z % 2)) 31) 31
    have hk := R_keys V2 (c := z % 2) (by omega)
    have hf : ∀ i, i < j → zkr p q orr2 nv2 nr2 qk2 qr2 (z % 2) i = false := fun i hi => by
      unfold zkr
      rw [hlt i hi]
      exact decide_eq_false (fun e => e rfl)
    have hff : ∀ i, i < j → zkr p q orr nv nr qk qr (z % 2) i = false := fun i hi => by
      have h := hf i hi
      unfold zkr at h ⊢
      rw [hz2 i (by omega), hz1 i (by omega)] at h
      exact h
    rcases Nat.lt_or_ge j 31 with hj' | hj'
    · have hP : zkr p q orr nv nr qk qr (z % 2) j = true := by
        have h := hne hj'
        rw [hz1 j hj'] at h
        exact decide_eq_true h
      have hb : (zbn (zkr p q orr nv nr qk qr (z % 2)) 31).testBit j = true := by
        rw [zbn_test, hP, decide_eq_true hj']
        rfl
      have hpos := zs_pos hb 31 hj'
      have hmk := z_mask (P := zkr p q orr2 nv2 nr2 qk2 qr2 (z % 2)) hj' hf
      generalize zs (zbn (zkr p q orr nv nr qk qr (z % 2)) 31) 31 = K at hK hpos ⊢
      rw [gl_31] at hmk
      simp (disch := omega) only [gl_0, gl_1, gl_2, gl_3, gl_4, gl_5, gl_6, gl_7, gl_8, gl_9, gl_10, gl_11, gl_12, gl_13, gl_14, gl_15, gl_16, gl_17, gl_18, gl_19, gl_20, gl_21, gl_22, gl_23, gl_24, gl_25, gl_26, gl_27, gl_28, gl_29, gl_30, gl_31, gl_32, gl_44, gl_48, gl_49, gl_57, gl_59, gl_60, gl_63, gl_70, gl_98, gl_99, gl_100, gl_101, gl_107, gl_109, gl_110, gl_111, gl_116, gl_120, gl_126, gl_155, gl_411, gl_999, gl_1000, gl_1233, gl_1644, gl_100000, gl_m1, nI_eq, nI_leI, nI_ltI, nI_add, nI_clamp, pk_mul, pk_sub, z_in, z_gt, z_bs, z_us, z_un, if_pos, if_neg, if_true, if_false, and_true, true_and, and_self, not_true_eq_false, not_false_eq_true, hk, hmk]
    · have hj'' : j = 31 := by omega
      subst hj''
      have hzero : zs (zbn (zkr p q orr nv nr qk qr (z % 2)) 31) 31 = 0 := zs_zero 31 (fun i hi => by
        rw [zbn_test, hff i hi, Bool.and_false])
      rw [hzero]
      simp (disch := omega) only [gl_0, gl_1, gl_2, gl_3, gl_4, gl_5, gl_6, gl_7, gl_8, gl_9, gl_10, gl_11, gl_12, gl_13, gl_14, gl_15, gl_16, gl_17, gl_18, gl_19, gl_20, gl_21, gl_22, gl_23, gl_24, gl_25, gl_26, gl_27, gl_28, gl_29, gl_30, gl_31, gl_32, gl_44, gl_48, gl_49, gl_57, gl_59, gl_60, gl_63, gl_70, gl_98, gl_99, gl_100, gl_101, gl_107, gl_109, gl_110, gl_111, gl_116, gl_120, gl_126, gl_155, gl_411, gl_999, gl_1000, gl_1233, gl_1644, gl_100000, gl_m1, nI_eq, nI_leI, nI_ltI, nI_add, nI_clamp, pk_mul, pk_sub, z_in, z_gt, z_bs, z_us, z_un, if_pos, if_neg, if_true, if_false, and_true, true_and, and_self, not_true_eq_false, not_false_eq_true]
end FA
