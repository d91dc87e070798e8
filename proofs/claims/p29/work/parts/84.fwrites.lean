/-! what the law's writes says -/
theorem z_exb {α β : Type} {o : Option α} {a : α} {f : α → Option (Int32 × β)} {P : β → Prop} (h : o = some a) (hk : ∃ S', f a = some ((1 : Int32), S') ∧ P S') : ∃ S', o.bind f = some ((1 : Int32), S') ∧ P S' := by
  subst h
  rw [z_bs]
  exact hk
theorem Sx_of {L : Nat} {S : zS} {p l x : Nat} {lo : Int32} {ov orr nv nr : Nat → Int32} {q : Nat} {qk qv qr wr : Nat → Int32} {wa : Int32} {wc wk : Nat → Int32} (V : Sv S p l x lo ov orr nv nr q qk qv qr wr wa wc wk) (h : l ≤ L) : Sx L S := ⟨p, l, x, lo, ov, orr, nv, nr, q, qk, qv, qr, wr, wa, wc, wk, h, V⟩
theorem zmo_4 {U v : Nat} (hv : v < 4) : zmo (4 * U + v) = 4 * U + (if v = 0 then 0 else 1) := by
  unfold zmo
  rcases (show v = 0 ∨ v = 1 ∨ v = 2 ∨ v = 3 by omega) with rfl | rfl | rfl | rfl <;> simp <;> omega
theorem PutP.nums {p q k U v : Nat} {orr' nv' nr' : Nat → Int32} {q' : Nat} {qk' qr' : Nat → Int32} (h : PutP p q k (nI (4 * U + v)) orr' nv' nr' q' qk' qr') (hU : U < 1000) (hv : v < 4) : q' = (if p = 1 ∨ p = 2 then q + 1 else 0) ∧ zrr p q' orr' nv' nr' qk' qr' k 0 = nI (4 * U + (if v = 0 then 0 else 1)) ∧ zrr p q' orr' nv' nr' qk' qr' k 1 = nI (4 * U + (if p = 0 then (if v = 0 then 0 else 1) else v)) := by
  obtain ⟨h1, h2, h3⟩ := h
  rw [mo_0 (by omega), zmo_4 hv] at h2 h3
  refine ⟨h1, h2, ?_⟩
  rw [h3]
  by_cases hp : p = 0
  · rw [if_pos hp, if_pos hp]
  · rw [if_neg hp, if_neg hp]
section FW
variable {S : zS} {p l x : Nat} {lo : Int32} {ov orr nv nr : Nat → Int32} {q : Nat} {qk qv qr wr : Nat → Int32} {wa : Int32} {wc wk : Nat → Int32}
theorem R_rd0 (V : Sv S p l x lo ov orr nv nr q qk qv qr wr wa wc wk) {k U c : Nat} (hk : k < 31) (hU : U < 1000) (hc : c < 4) (e : zrr p q orr nv nr qk qr k 0 = nI (4 * U + c)) : K_read (nI k) (nI 0) (nI 0) S = some (nI (U / 10)) ∧ K_read (nI k) (nI 0) (nI 1) S = some (nI (U % 10)) ∧ K_read (nI k) (nI 0) (nI 2) S = some (nI c) := by
  have hn : ¬ nI (4 * U + c) = zN := z_m1 (by omega)
  refine ⟨?_, ?_, ?_⟩
  · rw [R_read V hk (by omega) (show 0 < 3 - 0 by omega), e, if_neg hn, znu_0 (by omega) (by omega), if_pos rfl, show (4 * U + c) / 4 / 10 = U / 10 by omega]
  · rw [R_read V hk (by omega) (show 1 < 3 - 0 by omega), e, if_neg hn, znu_0 (by omega) (by omega), if_neg (by omega), if_pos rfl, show (4 * U + c) / 4 - (4 * U + c) / 4 / 10 * 10 = U % 10 by omega]
  · rw [R_read V hk (by omega) (show 2 < 3 - 0 by omega), e, if_neg hn, znu_0 (by omega) (by omega), if_neg (by omega), if_neg (by omega), show 4 * U + c - (4 * U + c) / 4 * 4 = c by omega]
theorem R_rd1 (V : Sv S p l x lo ov orr nv nr q qk qv qr wr wa wc wk) {k U c : Nat} (hk : k < 31) (hU : U < 1000) (hc : c < 4) (e : zrr p q orr nv nr qk qr k 1 = nI (4 * U + c)) : K_read (nI k) (nI 1) (nI 0) S = some (nI U) ∧ K_read (nI k) (nI 1) (nI 1) S = some (nI c) := by
  have hn : ¬ nI (4 * U + c) = zN := z_m1 (by omega)
  refine ⟨?_, ?_⟩
  · rw [R_read V hk (by omega) (show 0 < 3 - 1 by omega), e, if_neg hn, znu_1 (by omega) (by omega), if_pos rfl, show (4 * U + c) / 4 = U by omega]
  · rw [R_read V hk (by omega) (show 1 < 3 - 1 by omega), e, if_neg hn, znu_1 (by omega) (by omega), if_neg (by omega), show 4 * U + c - (4 * U + c) / 4 * 4 = c by omega]
theorem z_n3 : ¬ nI 0 ≤ (-1000003 : Int32) := by decide
theorem z_n3' : ¬ (0 : Int32) ≤ (-1000003 : Int32) := by decide
set_option maxHeartbeats 4000000 in
theorem F_writes (V : Sv S p l x lo ov orr nv nr q qk qv qr wr wa wc wk) {k z : Nat} (hk : k < 31) (hz : z < 2 ^ 31) (hl : l < 1000) : ∃ S', fL_writes (nI k) (nI z) S = some (1, S') ∧ Sx (l + 1) S' := by
  have hp := V.2.2.1.1
  have hq := V.2.2.1.2.1
  have hqp := V.2.2.1.2.2.2.2
  have g2048 : (2048 : Int32) = nI 2048 := by decide
  have hU : nI z / 2 - nI z / 2 / 1000 * 1000 = nI (z / 2 % 1000) := by
    rw [gl_2, gl_1000, pk_div hz (by omega) (by omega), pk_rem (by omega) (by omega) (by omega)]
  have hs : nI z - nI z / 2 * 2 = nI (z % 2) := by
    rw [gl_2, pk_rem hz (by omega) (by omega)]
  have hv : nI z / 2048 - nI z / 2048 / 4 * 4 = nI (z / 2048 % 4) := by
    rw [g2048, gl_4, pk_div hz (by omega) (by omega), pk_rem (by omega) (by omega) (by omega)]
  unfold fL_writes
  rw [hU, hs, hv]
  have hU' : z / 2 % 1000 < 1000 := by omega
  have hs' : z % 2 < 2 := by omega
  have hv' : z / 2048 % 4 < 4 := by omega
  clear hU hs hv
  generalize z / 2 % 1000 = U at hU' ⊢
  generalize z % 2 = sg at hs' ⊢
  generalize z / 2048 % 4 = v at hv' ⊢
  have hUT : nI U - nI U / 10 * 10 = nI (U % 10) := by
    rw [gl_10, pk_rem (by omega) (by omega) (by omega)]
  have hUD : nI U / 10 = nI (U / 10) := by
    rw [gl_10, pk_div (by omega) (by omega) (by omega)]
  have hVT : nI v - nI v / 2 * 2 = nI (v % 2) := by
    rw [gl_2, pk_rem (by omega) (by omega) (by omega)]
  rw [hUT, hUD, hVT]
  clear hUT hUD hVT
  have c0 := R_count0 V
  refine z_exb (R_count1 V) ?_
  refine z_exb (R_count3 V) ?_
  refine z_exb (R_count0 V) ?_
  refine z_exb (a := nI (if p = 1 ∨ p = 2 then 1 else 0)) ?_ ?_
  · simp only [gl_0] at c0
    rcases (show p = 0 ∨ p = 1 ∨ p = 2 ∨ p = 3 by omega) with rfl | rfl | rfl | rfl <;> simp (disch := omega) only [gl_0, gl_1, gl_2, gl_3, gl_4, gl_5, gl_6, gl_7, gl_8, gl_9, gl_10, gl_11, gl_12, gl_13, gl_14, gl_15, gl_16, gl_17, gl_18, gl_19, gl_20, gl_21, gl_22, gl_23, gl_24, gl_25, gl_26, gl_27, gl_28, gl_29, gl_30, gl_31, gl_32, gl_44, gl_48, gl_49, gl_57, gl_59, gl_60, gl_63, gl_70, gl_98, gl_99, gl_100, gl_101, gl_107, gl_109, gl_110, gl_111, gl_116, gl_120, gl_126, gl_155, gl_411, gl_999, gl_1000, gl_1233, gl_1644, gl_100000, gl_m1, nI_eq, nI_leI, nI_ltI, nI_add, nI_clamp, pk_mul, pk_sub, z_in, z_gt, z_bs, z_us, z_un, if_pos, if_neg, if_true, if_false, and_true, true_and, and_self, not_true_eq_false, not_false_eq_true, c0, true_or, or_true] <;> rfl
  refine z_exb (a := nI sg) ?_ ?_
  · rcases (show sg = 0 ∨ sg = 1 by omega) with rfl | rfl <;> simp (disch := omega) only [gl_0, gl_1, gl_2, gl_3, gl_4, gl_5, gl_6, gl_7, gl_8, gl_9, gl_10, gl_11, gl_12, gl_13, gl_14, gl_15, gl_16, gl_17, gl_18, gl_19, gl_20, gl_21, gl_22, gl_23, gl_24, gl_25, gl_26, gl_27, gl_28, gl_29, gl_30, gl_31, gl_32, gl_44, gl_48, gl_49, gl_57, gl_59, gl_60, gl_63, gl_70, gl_98, gl_99, gl_100, gl_101, gl_107, gl_109, gl_110, gl_111, gl_116, gl_120, gl_126, gl_155, gl_411, gl_999, gl_1000, gl_1233, gl_1644, gl_100000, gl_m1, nI_eq, nI_leI, nI_ltI, nI_add, nI_clamp, pk_mul, pk_sub, z_in, z_gt, z_bs, z_us, z_un, if_pos, if_neg, if_true, if_false, and_true, true_and, and_self, not_true_eq_false, not_false_eq_true]
  generalize ht : (if p = 1 ∨ p = 2 then 1 else 0) = two
  have ht2 : two < 2 := by rw [← ht]; split <;> omega
  rcases (show sg = 0 ∨ sg = 1 by omega) with rfl | rfl
  · obtain ⟨r, S', e, h⟩ := L_writeOld V hk (a := U / 10) (b := U % 10) (c := v % 2) (by omega) (by omega) (by omega) hl
    refine z_exb (a := (r, S')) (by rw [if_pos (by decide), e]; rfl) ?_
    dsimp only
    rcases h with ⟨rfl, ⟨hb, hq8⟩, V'⟩ | ⟨rfl, ov', orr', nv', nr', q', qk', qv', qr', wr', wa', wc', wk', V', hP⟩
    · rw [if_neg z_n3']
      refine z_fin (Sx_of V' (by omega)) ?_
      have c1 := R_count1 V'
      simp only [gl_1] at c1
      rw [if_pos hb] at ht
      subst ht hq8
      simp (disch := omega) only [gl_0, gl_1, gl_2, gl_3, gl_4, gl_5, gl_6, gl_7, gl_8, gl_9, gl_10, gl_11, gl_12, gl_13, gl_14, gl_15, gl_16, gl_17, gl_18, gl_19, gl_20, gl_21, gl_22, gl_23, gl_24, gl_25, gl_26, gl_27, gl_28, gl_29, gl_30, gl_31, gl_32, gl_44, gl_48, gl_49, gl_57, gl_59, gl_60, gl_63, gl_70, gl_98, gl_99, gl_100, gl_101, gl_107, gl_109, gl_110, gl_111, gl_116, gl_120, gl_126, gl_155, gl_411, gl_999, gl_1000, gl_1233, gl_1644, gl_100000, gl_m1, nI_eq, nI_leI, nI_ltI, nI_add, nI_clamp, pk_mul, pk_sub, z_in, z_gt, z_bs, z_us, z_un, if_pos, if_neg, if_true, if_false, and_true, true_and, and_self, not_true_eq_false, not_false_eq_true, c1]
    · rw [if_pos (Int32.not_lt.1 (z_ok (show l + 1 < 2 ^ 31 by omega)))]
      rw [show 4 * (10 * (U / 10) + U % 10) + v % 2 = 4 * U + v % 2 by omega] at hP
      obtain ⟨hq', e0, e1⟩ := hP.nums hU' (by omega)
      have c3 := R_count3 V'
      obtain ⟨d0, d1, d2⟩ := R_rd0 V' hk hU' (by split <;> omega) e0
      obtain ⟨d3, d4⟩ := R_rd1 V' hk hU' (by split <;> (try split) <;> omega) e1
      simp only [gl_3] at c3
      have hcc : (if v % 2 = 0 then 0 else 1) = v % 2 := by split <;> omega
      have hcd : (if p = 0 then v % 2 else v % 2) = v % 2 := by split <;> rfl
      rw [hcc] at d2 d4
      rw [hcd] at d4
      refine z_exb (a := nI 1) ?_ ?_
      · by_cases hb : p = 1 ∨ p = 2
        · rw [if_pos hb] at ht hq'
          subst ht hq'
          simp (disch := omega) only [gl_0, gl_1, gl_2, gl_3, gl_4, gl_5, gl_6, gl_7, gl_8, gl_9, gl_10, gl_11, gl_12, gl_13, gl_14, gl_15, gl_16, gl_17, gl_18, gl_19, gl_20, gl_21, gl_22, gl_23, gl_24, gl_25, gl_26, gl_27, gl_28, gl_29, gl_30, gl_31, gl_32, gl_44, gl_48, gl_49, gl_57, gl_59, gl_60, gl_63, gl_70, gl_98, gl_99, gl_100, gl_101, gl_107, gl_109, gl_110, gl_111, gl_116, gl_120, gl_126, gl_155, gl_411, gl_999, gl_1000, gl_1233, gl_1644, gl_100000, gl_m1, nI_eq, nI_leI, nI_ltI, nI_add, nI_clamp, pk_mul, pk_sub, z_in, z_gt, z_bs, z_us, z_un, if_pos, if_neg, if_true, if_false, and_true, true_and, and_self, not_true_eq_false, not_false_eq_true, c3]
        · rw [if_neg hb] at ht hq'
          subst ht hq'
          simp (disch := omega) only [gl_0, gl_1, gl_2, gl_3, gl_4, gl_5, gl_6, gl_7, gl_8, gl_9, gl_10, gl_11, gl_12, gl_13, gl_14, gl_15, gl_16, gl_17, gl_18, gl_19, gl_20, gl_21, gl_22, gl_23, gl_24, gl_25, gl_26, gl_27, gl_28, gl_29, gl_30, gl_31, gl_32, gl_44, gl_48, gl_49, gl_57, gl_59, gl_60, gl_63, gl_70, gl_98, gl_99, gl_100, gl_101, gl_107, gl_109, gl_110, gl_111, gl_116, gl_120, gl_126, gl_155, gl_411, gl_999, gl_1000, gl_1233, gl_1644, gl_100000, gl_m1, nI_eq, nI_leI, nI_ltI, nI_add, nI_clamp, pk_mul, pk_sub, z_in, z_gt, z_bs, z_us, z_un, if_pos, if_neg, if_true, if_false, and_true, true_and, and_self, not_true_eq_false, not_false_eq_true, c3]
      refine z_exb (a := nI 1) (by simp (disch := omega) only [gl_0, gl_1, gl_2, gl_3, gl_4, gl_5, gl_6, gl_7, gl_8, gl_9, gl_10, gl_11, gl_12, gl_13, gl_14, gl_15, gl_16, gl_17, gl_18, gl_19, gl_20, gl_21, gl_22, gl_23, gl_24, gl_25, gl_26, gl_27, gl_28, gl_29, gl_30, gl_31, gl_32, gl_44, gl_48, gl_49, gl_57, gl_59, gl_60, gl_63, gl_70, gl_98, gl_99, gl_100, gl_101, gl_107, gl_109, gl_110, gl_111, gl_116, gl_120, gl_126, gl_155, gl_411, gl_999, gl_1000, gl_1233, gl_1644, gl_100000, gl_m1, nI_eq, nI_leI, nI_ltI, nI_add, nI_clamp, pk_mul, pk_sub, z_in, z_gt, z_bs, z_us, z_un, if_pos, if_neg, if_true, if_false, and_true, true_and, and_self, not_true_eq_false, not_false_eq_true, d0, d1, d3]) ?_
      refine z_exb (a := nI (v % 2)) (by simp (disch := omega) only [gl_0, gl_1, gl_2, gl_3, gl_4, gl_5, gl_6, gl_7, gl_8, gl_9, gl_10, gl_11, gl_12, gl_13, gl_14, gl_15, gl_16, gl_17, gl_18, gl_19, gl_20, gl_21, gl_22, gl_23, gl_24, gl_25, gl_26, gl_27, gl_28, gl_29, gl_30, gl_31, gl_32, gl_44, gl_48, gl_49, gl_57, gl_59, gl_60, gl_63, gl_70, gl_98, gl_99, gl_100, gl_101, gl_107, gl_109, gl_110, gl_111, gl_116, gl_120, gl_126, gl_155, gl_411, gl_999, gl_1000, gl_1233, gl_1644, gl_100000, gl_m1, nI_eq, nI_leI, nI_ltI, nI_add, nI_clamp, pk_mul, pk_sub, z_in, z_gt, z_bs, z_us, z_un, if_pos, if_neg, if_true, if_false, and_true, true_and, and_self, not_true_eq_false, not_false_eq_true]) ?_
      refine z_exb (a := nI 1) (by simp (disch := omega) only [gl_0, gl_1, gl_2, gl_3, gl_4, gl_5, gl_6, gl_7, gl_8, gl_9, gl_10, gl_11, gl_12, gl_13, gl_14, gl_15, gl_16, gl_17, gl_18, gl_19, gl_20, gl_21, gl_22, gl_23, gl_24, gl_25, gl_26, gl_27, gl_28, gl_29, gl_30, gl_31, gl_32, gl_44, gl_48, gl_49, gl_57, gl_59, gl_60, gl_63, gl_70, gl_98, gl_99, gl_100, gl_101, gl_107, gl_109, gl_110, gl_111, gl_116, gl_120, gl_126, gl_155, gl_411, gl_999, gl_1000, gl_1233, gl_1644, gl_100000, gl_m1, nI_eq, nI_leI, nI_ltI, nI_add, nI_clamp, pk_mul, pk_sub, z_in, z_gt, z_bs, z_us, z_un, if_pos, if_neg, if_true, if_false, and_true, true_and, and_self, not_true_eq_false, not_false_eq_true]) ?_
      refine z_fin (Sx_of V' (by omega)) ?_
      simp (disch := omega) only [gl_0, gl_1, gl_2, gl_3, gl_4, gl_5, gl_6, gl_7, gl_8, gl_9, gl_10, gl_11, gl_12, gl_13, gl_14, gl_15, gl_16, gl_17, gl_18, gl_19, gl_20, gl_21, gl_22, gl_23, gl_24, gl_25, gl_26, gl_27, gl_28, gl_29, gl_30, gl_31, gl_32, gl_44, gl_48, gl_49, gl_57, gl_59, gl_60, gl_63, gl_70, gl_98, gl_99, gl_100, gl_101, gl_107, gl_109, gl_110, gl_111, gl_116, gl_120, gl_126, gl_155, gl_411, gl_999, gl_1000, gl_1233, gl_1644, gl_100000, gl_m1, nI_eq, nI_leI, nI_ltI, nI_add, nI_clamp, pk_mul, pk_sub, z_in, z_gt, z_bs, z_us, z_un, if_pos, if_neg, if_true, if_false, and_true, true_and, and_self, not_true_eq_false, not_false_eq_true, d2, d4]
  · obtain ⟨r, S', e, h⟩ := L_writeNew V hk (u := U) (v := v) hU' hv' hl
    refine z_exb (a := (r, S')) (by rw [if_neg (by decide), e]; rfl) ?_
    dsimp only
    rcases h with ⟨rfl, ⟨hb, hq8⟩, V'⟩ | ⟨rfl, ov', orr', nv', nr', q', qk', qv', qr', wr', wa', wc', wk', V', hP⟩
    · rw [if_neg z_n3']
      refine z_fin (Sx_of V' (by omega)) ?_
      have c1 := R_count1 V'
      simp only [gl_1] at c1
      rw [if_pos hb] at ht
      subst ht hq8
      simp (disch := omega) only [gl_0, gl_1, gl_2, gl_3, gl_4, gl_5, gl_6, gl_7, gl_8, gl_9, gl_10, gl_11, gl_12, gl_13, gl_14, gl_15, gl_16, gl_17, gl_18, gl_19, gl_20, gl_21, gl_22, gl_23, gl_24, gl_25, gl_26, gl_27, gl_28, gl_29, gl_30, gl_31, gl_32, gl_44, gl_48, gl_49, gl_57, gl_59, gl_60, gl_63, gl_70, gl_98, gl_99, gl_100, gl_101, gl_107, gl_109, gl_110, gl_111, gl_116, gl_120, gl_126, gl_155, gl_411, gl_999, gl_1000, gl_1233, gl_1644, gl_100000, gl_m1, nI_eq, nI_leI, nI_ltI, nI_add, nI_clamp, pk_mul, pk_sub, z_in, z_gt, z_bs, z_us, z_un, if_pos, if_neg, if_true, if_false, and_true, true_and, and_self, not_true_eq_false, not_false_eq_true, c1]
    · rw [if_pos (Int32.not_lt.1 (z_ok (show l + 1 < 2 ^ 31 by omega)))]
      obtain ⟨hq', e0, e1⟩ := hP.nums hU' hv'
      have c3 := R_count3 V'
      have c0' := R_count0 V'
      have hcb : (if v = 0 then 0 else 1) < 2 := by split <;> omega
      obtain ⟨d0, d1, d2⟩ := R_rd0 V' hk hU' (by omega) e0
      obtain ⟨d3, d4⟩ := R_rd1 V' hk hU' (by split <;> omega) e1
      simp only [gl_3] at c3
      simp only [gl_0] at c0'
      refine z_exb (a := nI 1) ?_ ?_
      · by_cases hb : p = 1 ∨ p = 2
        · rw [if_pos hb] at ht hq'
          subst ht hq'
          simp (disch := omega) only [gl_0, gl_1, gl_2, gl_3, gl_4, gl_5, gl_6, gl_7, gl_8, gl_9, gl_10, gl_11, gl_12, gl_13, gl_14, gl_15, gl_16, gl_17, gl_18, gl_19, gl_20, gl_21, gl_22, gl_23, gl_24, gl_25, gl_26, gl_27, gl_28, gl_29, gl_30, gl_31, gl_32, gl_44, gl_48, gl_49, gl_57, gl_59, gl_60, gl_63, gl_70, gl_98, gl_99, gl_100, gl_101, gl_107, gl_109, gl_110, gl_111, gl_116, gl_120, gl_126, gl_155, gl_411, gl_999, gl_1000, gl_1233, gl_1644, gl_100000, gl_m1, nI_eq, nI_leI, nI_ltI, nI_add, nI_clamp, pk_mul, pk_sub, z_in, z_gt, z_bs, z_us, z_un, if_pos, if_neg, if_true, if_false, and_true, true_and, and_self, not_true_eq_false, not_false_eq_true, c3]
        · rw [if_neg hb] at ht hq'
          subst ht hq'
          simp (disch := omega) only [gl_0, gl_1, gl_2, gl_3, gl_4, gl_5, gl_6, gl_7, gl_8, gl_9, gl_10, gl_11, gl_12, gl_13, gl_14, gl_15, gl_16, gl_17, gl_18, gl_19, gl_20, gl_21, gl_22, gl_23, gl_24, gl_25, gl_26, gl_27, gl_28, gl_29, gl_30, gl_31, gl_32, gl_44, gl_48, gl_49, gl_57, gl_59, gl_60, gl_63, gl_70, gl_98, gl_99, gl_100, gl_101, gl_107, gl_109, gl_110, gl_111, gl_116, gl_120, gl_126, gl_155, gl_411, gl_999, gl_1000, gl_1233, gl_1644, gl_100000, gl_m1, nI_eq, nI_leI, nI_ltI, nI_add, nI_clamp, pk_mul, pk_sub, z_in, z_gt, z_bs, z_us, z_un, if_pos, if_neg, if_true, if_false, and_true, true_and, and_self, not_true_eq_false, not_false_eq_true, c3]
      refine z_exb (a := nI 1) (by simp (disch := omega) only [gl_0, gl_1, gl_2, gl_3, gl_4, gl_5, gl_6, gl_7, gl_8, gl_9, gl_10, gl_11, gl_12, gl_13, gl_14, gl_15, gl_16, gl_17, gl_18, gl_19, gl_20, gl_21, gl_22, gl_23, gl_24, gl_25, gl_26, gl_27, gl_28, gl_29, gl_30, gl_31, gl_32, gl_44, gl_48, gl_49, gl_57, gl_59, gl_60, gl_63, gl_70, gl_98, gl_99, gl_100, gl_101, gl_107, gl_109, gl_110, gl_111, gl_116, gl_120, gl_126, gl_155, gl_411, gl_999, gl_1000, gl_1233, gl_1644, gl_100000, gl_m1, nI_eq, nI_leI, nI_ltI, nI_add, nI_clamp, pk_mul, pk_sub, z_in, z_gt, z_bs, z_us, z_un, if_pos, if_neg, if_true, if_false, and_true, true_and, and_self, not_true_eq_false, not_false_eq_true, d0, d1, d3]) ?_
      refine z_exb (a := nI (if v = 0 then 0 else 1)) ?_ ?_
      · by_cases h0 : v = 0
        · subst h0
          simp (disch := omega) only [gl_0, gl_1, gl_2, gl_3, gl_4, gl_5, gl_6, gl_7, gl_8, gl_9, gl_10, gl_11, gl_12, gl_13, gl_14, gl_15, gl_16, gl_17, gl_18, gl_19, gl_20, gl_21, gl_22, gl_23, gl_24, gl_25, gl_26, gl_27, gl_28, gl_29, gl_30, gl_31, gl_32, gl_44, gl_48, gl_49, gl_57, gl_59, gl_60, gl_63, gl_70, gl_98, gl_99, gl_100, gl_101, gl_107, gl_109, gl_110, gl_111, gl_116, gl_120, gl_126, gl_155, gl_411, gl_999, gl_1000, gl_1233, gl_1644, gl_100000, gl_m1, nI_eq, nI_leI, nI_ltI, nI_add, nI_clamp, pk_mul, pk_sub, z_in, z_gt, z_bs, z_us, z_un, if_pos, if_neg, if_true, if_false, and_true, true_and, and_self, not_true_eq_false, not_false_eq_true]
        · rw [if_neg h0]
          simp (disch := omega) only [gl_0, gl_1, gl_2, gl_3, gl_4, gl_5, gl_6, gl_7, gl_8, gl_9, gl_10, gl_11, gl_12, gl_13, gl_14, gl_15, gl_16, gl_17, gl_18, gl_19, gl_20, gl_21, gl_22, gl_23, gl_24, gl_25, gl_26, gl_27, gl_28, gl_29, gl_30, gl_31, gl_32, gl_44, gl_48, gl_49, gl_57, gl_59, gl_60, gl_63, gl_70, gl_98, gl_99, gl_100, gl_101, gl_107, gl_109, gl_110, gl_111, gl_116, gl_120, gl_126, gl_155, gl_411, gl_999, gl_1000, gl_1233, gl_1644, gl_100000, gl_m1, nI_eq, nI_leI, nI_ltI, nI_add, nI_clamp, pk_mul, pk_sub, z_in, z_gt, z_bs, z_us, z_un, if_pos, if_neg, if_true, if_false, and_true, true_and, and_self, not_true_eq_false, not_false_eq_true]
      generalize (if v = 0 then 0 else 1) = cc at d2 d4 hcb ⊢
      refine z_exb (a := nI (if p = 0 then 0 else 1)) ?_ ?_
      · rcases (show p = 0 ∨ p = 1 ∨ p = 2 ∨ p = 3 by omega) with rfl | rfl | rfl | rfl
        · rw [if_neg (by omega)] at ht
          subst ht
          simp (disch := omega) only [gl_0, gl_1, gl_2, gl_3, gl_4, gl_5, gl_6, gl_7, gl_8, gl_9, gl_10, gl_11, gl_12, gl_13, gl_14, gl_15, gl_16, gl_17, gl_18, gl_19, gl_20, gl_21, gl_22, gl_23, gl_24, gl_25, gl_26, gl_27, gl_28, gl_29, gl_30, gl_31, gl_32, gl_44, gl_48, gl_49, gl_57, gl_59, gl_60, gl_63, gl_70, gl_98, gl_99, gl_100, gl_101, gl_107, gl_109, gl_110, gl_111, gl_116, gl_120, gl_126, gl_155, gl_411, gl_999, gl_1000, gl_1233, gl_1644, gl_100000, gl_m1, nI_eq, nI_leI, nI_ltI, nI_add, nI_clamp, pk_mul, pk_sub, z_in, z_gt, z_bs, z_us, z_un, if_pos, if_neg, if_true, if_false, and_true, true_and, and_self, not_true_eq_false, not_false_eq_true, c0']
        · rw [if_pos (by omega)] at ht
          subst ht
          simp (disch := omega) only [gl_0, gl_1, gl_2, gl_3, gl_4, gl_5, gl_6, gl_7, gl_8, gl_9, gl_10, gl_11, gl_12, gl_13, gl_14, gl_15, gl_16, gl_17, gl_18, gl_19, gl_20, gl_21, gl_22, gl_23, gl_24, gl_25, gl_26, gl_27, gl_28, gl_29, gl_30, gl_31, gl_32, gl_44, gl_48, gl_49, gl_57, gl_59, gl_60, gl_63, gl_70, gl_98, gl_99, gl_100, gl_101, gl_107, gl_109, gl_110, gl_111, gl_116, gl_120, gl_126, gl_155, gl_411, gl_999, gl_1000, gl_1233, gl_1644, gl_100000, gl_m1, nI_eq, nI_leI, nI_ltI, nI_add, nI_clamp, pk_mul, pk_sub, z_in, z_gt, z_bs, z_us, z_un, if_pos, if_neg, if_true, if_false, and_true, true_and, and_self, not_true_eq_false, not_false_eq_true]
        · rw [if_pos (by omega)] at ht
          subst ht
          simp (disch := omega) only [gl_0, gl_1, gl_2, gl_3, gl_4, gl_5, gl_6, gl_7, gl_8, gl_9, gl_10, gl_11, gl_12, gl_13, gl_14, gl_15, gl_16, gl_17, gl_18, gl_19, gl_20, gl_21, gl_22, gl_23, gl_24, gl_25, gl_26, gl_27, gl_28, gl_29, gl_30, gl_31, gl_32, gl_44, gl_48, gl_49, gl_57, gl_59, gl_60, gl_63, gl_70, gl_98, gl_99, gl_100, gl_101, gl_107, gl_109, gl_110, gl_111, gl_116, gl_120, gl_126, gl_155, gl_411, gl_999, gl_1000, gl_1233, gl_1644, gl_100000, gl_m1, nI_eq, nI_leI, nI_ltI, nI_add, nI_clamp, pk_mul, pk_sub, z_in, z_gt, z_bs, z_us, z_un, if_pos, if_neg, if_true, if_false, and_true, true_and, and_self, not_true_eq_false, not_false_eq_true]
        · rw [if_neg (by omega)] at ht
          subst ht
          simp (disch := omega) only [gl_0, gl_1, gl_2, gl_3, gl_4, gl_5, gl_6, gl_7, gl_8, gl_9, gl_10, gl_11, gl_12, gl_13, gl_14, gl_15, gl_16, gl_17, gl_18, gl_19, gl_20, gl_21, gl_22, gl_23, gl_24, gl_25, gl_26, gl_27, gl_28, gl_29, gl_30, gl_31, gl_32, gl_44, gl_48, gl_49, gl_57, gl_59, gl_60, gl_63, gl_70, gl_98, gl_99, gl_100, gl_101, gl_107, gl_109, gl_110, gl_111, gl_116, gl_120, gl_126, gl_155, gl_411, gl_999, gl_1000, gl_1233, gl_1644, gl_100000, gl_m1, nI_eq, nI_leI, nI_ltI, nI_add, nI_clamp, pk_mul, pk_sub, z_in, z_gt, z_bs, z_us, z_un, if_pos, if_neg, if_true, if_false, and_true, true_and, and_self, not_true_eq_false, not_false_eq_true, c0']
      refine z_fin (Sx_of V' (by omega)) ?_
      by_cases h0 : p = 0
      · rw [if_pos h0] at d4 ⊢
        simp (disch := omega) only [gl_0, gl_1, gl_2, gl_3, gl_4, gl_5, gl_6, gl_7, gl_8, gl_9, gl_10, gl_11, gl_12, gl_13, gl_14, gl_15, gl_16, gl_17, gl_18, gl_19, gl_20, gl_21, gl_22, gl_23, gl_24, gl_25, gl_26, gl_27, gl_28, gl_29, gl_30, gl_31, gl_32, gl_44, gl_48, gl_49, gl_57, gl_59, gl_60, gl_63, gl_70, gl_98, gl_99, gl_100, gl_101, gl_107, gl_109, gl_110, gl_111, gl_116, gl_120, gl_126, gl_155, gl_411, gl_999, gl_1000, gl_1233, gl_1644, gl_100000, gl_m1, nI_eq, nI_leI, nI_ltI, nI_add, nI_clamp, pk_mul, pk_sub, z_in, z_gt, z_bs, z_us, z_un, if_pos, if_neg, if_true, if_false, and_true, true_and, and_self, not_true_eq_false, not_false_eq_true, d2, d4]
      · rw [if_neg h0] at d4 ⊢
        simp (disch := omega) only [gl_0, gl_1, gl_2, gl_3, gl_4, gl_5, gl_6, gl_7, gl_8, gl_9, gl_10, gl_11, gl_12, gl_13, gl_14, gl_15, gl_16, gl_17, gl_18, gl_19, gl_20, gl_21, gl_22, gl_23, gl_24, gl_25, gl_26, gl_27, gl_28, gl_29, gl_30, gl_31, gl_32, gl_44, gl_48, gl_49, gl_57, gl_59, gl_60, gl_63, gl_70, gl_98, gl_99, gl_100, gl_101, gl_107, gl_109, gl_110, gl_111, gl_116, gl_120, gl_126, gl_155, gl_411, gl_999, gl_1000, gl_1233, gl_1644, gl_100000, gl_m1, nI_eq, nI_leI, nI_ltI, nI_add, nI_clamp, pk_mul, pk_sub, z_in, z_gt, z_bs, z_us, z_un, if_pos, if_neg, if_true, if_false, and_true, true_and, and_self, not_true_eq_false, not_false_eq_true, d2, d4]
end FW
