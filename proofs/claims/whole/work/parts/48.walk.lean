/-! walks -/
theorem zw_or : ∀ W, W < 8 → ∀ w, w < 3 → nI W ||| (nI 1 <<< (nI w &&& nI 31)) = nI (W ||| 2 ^ w) ∧ W ||| 2 ^ w < 8 ∧ ∀ i, i < 3 → (W ||| 2 ^ w).testBit i = (W.testBit i || decide (i = w)) := by decide +kernel
theorem zw_cl : ∀ W, W < 8 → ∀ w, w < 3 → nI W &&& ((nI 1 <<< (nI w &&& nI 31)) ^^^ zN) = nI (W &&& (7 - 2 ^ w)) ∧ W &&& (7 - 2 ^ w) < 8 ∧ ∀ i, i < 3 → (W &&& (7 - 2 ^ w)).testBit i = (W.testBit i && decide (i ≠ w)) := by decide +kernel
theorem zw_t : ∀ W, W < 8 → ∀ w, w < 3 → ((nI W &&& (nI 1 <<< (nI w &&& nI 31)) = nI 0) ↔ W.testBit w = false) := by decide +kernel
theorem z_next (P : Nat → Prop) [DecidablePred P] : ∀ d k, k + d = 31 → ∃ j, k ≤ j ∧ j ≤ 31 ∧ (∀ i, k ≤ i → i < j → ¬ P i) ∧ (j < 31 → P j)
  | 0, k, h => ⟨k, Nat.le_refl k, by omega, fun i h1 h2 => absurd h2 (by omega), fun h' => absurd h' (by omega)⟩
  | d + 1, k, h => by
    by_cases hk : P k
    · exact ⟨k, Nat.le_refl k, by omega, fun i h1 h2 => absurd h2 (by omega), fun _ => hk⟩
    · obtain ⟨j, h1, h2, h3, h4⟩ := z_next P d (k + 1) (by omega)
      refine ⟨j, by omega, h2, fun i i1 i2 => ?_, h4⟩
      rcases Nat.eq_or_lt_of_le i1 with e | e
      · rw [← e]; exact hk
      · exact h3 i e i2
section MD17
variable {ss was beg asi : Nat → Int32} {s : Nat} {txt : Nat → Int32} {typ att rea : Int32} {got row oth : Nat → Int32}
variable {p l x : Nat} {lo : Int32} {ov orr nv nr : Nat → Int32} {q : Nat} {qk qv qr wr : Nat → Int32} {wa : Int32} {wc wk : Nat → Int32}
theorem RT_w {ss' : Nat → Int32} {wa' : Int32} {wc' wk' : Nat → Int32} (R : RT ss p l x lo ov orr nv nr q qk qv qr wr wa wc wk) (hs : ∀ i, (i < 5 ∨ 14 ≤ i) → ss' i = ss i) (h : RTw ss' wa' wc' wk') : RT ss' p l x lo ov orr nv nr q qk qv qr wr wa' wc' wk' := by
  obtain ⟨⟨hp, hq, hl, hx, hqp⟩, ⟨a0, a1, a2, a3, a4⟩, r0, r1, rq, rl, rw', rp0, rp3⟩ := R
  exact ⟨⟨hp, hq, hl, hx, hqp⟩, ⟨by rw [hs _ (by omega)]; exact a0, by rw [hs _ (by omega)]; exact a1, fun h => by rw [hs _ (by omega)]; exact a2 h, by rw [hs _ (by omega)]; exact a3, by rw [hs _ (by omega)]; exact a4⟩, RTs_congr r0 (fun i _ _ => hs i (by omega)), RTs_congr r1 (fun i _ _ => hs i (by omega)), RTq_congr rq hq (fun i _ _ => hs i (by omega)), fun k hk => by rw [hs _ (by omega)]; exact rl k hk, h, rp0, rp3⟩
theorem P_walk (R : RT ss p l x lo ov orr nv nr q qk qv qr wr wa wc wk) (hs : s ≤ 4) (y z : Int32) : ChOK ss was s txt typ (nI p, nI l, nI x, lo, ov, orr, nv, nr, nI q, qk, qv, qr, wr, wa, wc, wk) (fX4_startWalk y z (nI p) (nI l) (nI x) lo ov orr nv nr (nI q) qk qv qr wr wa wc wk) (fX6_walk y z ss was beg asi (nI s) txt typ att rea got row oth) := by
  have R0 := R
  obtain ⟨⟨hp, hq, hl, hx, hqp⟩, ⟨a0, a1, a2, a3, a4⟩, r0, r1, rq, rl, ⟨W, hW, hwa, rw'⟩, rp0, rp3⟩ := R
  unfold fX4_startWalk fX6_walk
  have hy := pk_ix y (n := 3) (by omega)
  rw [← or_assoc] at hy
  rcases hy with hy | ⟨w, hw, rfl, -⟩
  · exact P_no (beg := beg) (asi := asi) (att := att) (rea := rea) (got := got) (row' := row) (oth' := oth) R0 (Or.inl rfl) (by simp only [gl_0, gl_1, gl_2, gl_3, gl_4, gl_5, gl_6, gl_7, gl_8, gl_9, gl_10, gl_11, gl_12, gl_13, gl_14, gl_15, gl_16, gl_17, gl_18, gl_19, gl_20, gl_21, gl_22, gl_23, gl_24, gl_25, gl_26, gl_27, gl_28, gl_29, gl_30, gl_31, gl_32, gl_44, gl_48, gl_49, gl_57, gl_59, gl_60, gl_63, gl_70, gl_98, gl_99, gl_100, gl_101, gl_107, gl_109, gl_110, gl_111, gl_116, gl_120, gl_126, gl_155, gl_411, gl_999, gl_1000, gl_1233, gl_1644, gl_100000, gl_m1, zb_out hy, z_bs, if_true]) (by simp only [gl_0, gl_1, gl_2, gl_3, gl_4, gl_5, gl_6, gl_7, gl_8, gl_9, gl_10, gl_11, gl_12, gl_13, gl_14, gl_15, gl_16, gl_17, gl_18, gl_19, gl_20, gl_21, gl_22, gl_23, gl_24, gl_25, gl_26, gl_27, gl_28, gl_29, gl_30, gl_31, gl_32, gl_44, gl_48, gl_49, gl_57, gl_59, gl_60, gl_63, gl_70, gl_98, gl_99, gl_100, gl_101, gl_107, gl_109, gl_110, gl_111, gl_116, gl_120, gl_126, gl_155, gl_411, gl_999, gl_1000, gl_1233, gl_1644, gl_100000, gl_m1]; rw [zin_out (show 2 + 1 < 2 ^ 31 by omega) hy, z_bs, if_pos rfl])
  have hz := pk_ix z (n := 2) (by omega)
  rw [← or_assoc] at hz
  rcases hz with hz | ⟨c, hc, rfl, -⟩
  · exact P_no (beg := beg) (asi := asi) (att := att) (rea := rea) (got := got) (row' := row) (oth' := oth) R0 (Or.inl rfl) (by simp (disch := omega) only [gl_0, gl_1, gl_2, gl_3, gl_4, gl_5, gl_6, gl_7, gl_8, gl_9, gl_10, gl_11, gl_12, gl_13, gl_14, gl_15, gl_16, gl_17, gl_18, gl_19, gl_20, gl_21, gl_22, gl_23, gl_24, gl_25, gl_26, gl_27, gl_28, gl_29, gl_30, gl_31, gl_32, gl_44, gl_48, gl_49, gl_57, gl_59, gl_60, gl_63, gl_70, gl_98, gl_99, gl_100, gl_101, gl_107, gl_109, gl_110, gl_111, gl_116, gl_120, gl_126, gl_155, gl_411, gl_999, gl_1000, gl_1233, gl_1644, gl_100000, gl_m1, nI_eq, nI_leI, nI_ltI, nI_add, nI_clamp, pk_mul, pk_sub, z_in, z_gt, z_bs, z_us, z_un, if_pos, if_neg, if_true, if_false, and_true, true_and, and_self, not_true_eq_false, not_false_eq_true, zb_out hz, C_isBelow_nI]) (by simp (disch := omega) only [gl_0, gl_1, gl_2, gl_3, gl_4, gl_5, gl_6, gl_7, gl_8, gl_9, gl_10, gl_11, gl_12, gl_13, gl_14, gl_15, gl_16, gl_17, gl_18, gl_19, gl_20, gl_21, gl_22, gl_23, gl_24, gl_25, gl_26, gl_27, gl_28, gl_29, gl_30, gl_31, gl_32, gl_44, gl_48, gl_49, gl_57, gl_59, gl_60, gl_63, gl_70, gl_98, gl_99, gl_100, gl_101, gl_107, gl_109, gl_110, gl_111, gl_116, gl_120, gl_126, gl_155, gl_411, gl_999, gl_1000, gl_1233, gl_1644, gl_100000, gl_m1, nI_eq, nI_leI, nI_ltI, nI_add, nI_clamp, pk_mul, pk_sub, z_in, z_gt, z_bs, z_us, z_un, if_pos, if_neg, if_true, if_false, and_true, true_and, and_self, not_true_eq_false, not_false_eq_true, zin_in, zin_out (show 1 + 1 < 2 ^ 31 by omega) hz])
  obtain ⟨o1, o2, o3⟩ := zw_or W hW w hw
  obtain ⟨beg', ek, hb⟩ := M_keeps (ss := ss) (beg := beg) (sta := nI s) (row := row) (was := was) (asi := asi) (txt := txt) (typ := typ) (att := att) (rea := rea) (got := got) (oth := oth)
  have hR : RT (upd (upd (upd ss (5 + 3 * w) (nI 1)) (5 + 3 * w + 1) (nI c)) (5 + 3 * w + 2) zN) p l x lo ov orr nv nr q qk qv qr wr (nI (W ||| 2 ^ w)) (upd wc w (nI c)) (upd wk w zN) := by
    refine RT_w R0 (fun i hi => by rw [z_un (by omega), z_un (by omega), z_un (by omega)]) ⟨W ||| 2 ^ w, o2, rfl, fun i hi => ?_⟩
    rw [o3 i hi]
    by_cases hiw : i = w
    · subst hiw
      simp only [decide_true, Bool.or_true, if_true]
      refine ⟨by rw [z_un (by omega), z_un (by omega), z_us], fun _ => ⟨?_, ?_⟩, ?_, ?_⟩
      · rw [z_un (by omega), z_us, show 6 + 3 * i = 5 + 3 * i + 1 by omega, z_us]
      · rw [show 7 + 3 * i = 5 + 3 * i + 2 by omega, z_us, z_us]
      · rw [z_us]
        rcases (show c = 0 ∨ c = 1 by omega) with rfl | rfl
        · exact Or.inl rfl
        · exact Or.inr rfl
      · rw [z_us]; exact Or.inl rfl
    · rw [decide_eq_false hiw, Bool.or_false, z_un hiw, z_un hiw]
      obtain ⟨g1, g2, g3, g4⟩ := rw' i hi
      refine ⟨by rw [z_un (by omega), z_un (by omega), z_un (by omega)]; exact g1, fun hbit => ⟨?_, ?_⟩, g3, g4⟩
      · rw [z_un (by omega), z_un (by omega), z_un (by omega)]; exact (g2 hbit).1
      · rw [z_un (by omega), z_un (by omega), z_un (by omega)]; exact (g2 hbit).2
  obtain ⟨row1, er⟩ := M_readable (s := c) (beg := beg') (sta := nI s) (row := row) (was := was) (asi := asi) (txt := txt) (typ := typ) (att := att) (rea := rea) (got := got) (oth := oth) (by omega) hp hq hR.2.1.1 hR.2.1.2.2.2.1 hl hR.2.2.1 hR.2.2.2.1 hR.2.2.2.2.1
  have hlt := zbn_lt (zkr p q orr nv nr qk qr c) 31
  have hans : zans (nI (zs (zbn (zkr p q orr nv nr qk qr c) 31) 31)) := zans_n (by have := zs_le (zbn (zkr p q orr nv nr qk qr c) 31) 31; omega)
  rw [zbn_bits _ 31 (by omega)] at er
  obtain ⟨was', s', ea, hA⟩ := M_acted (r := nI (zs (zbn (zkr p q orr nv nr qk qr c) 31) 31)) (ss := upd (upd (upd ss (5 + 3 * w) (nI 1)) (5 + 3 * w + 1) (nI c)) (5 + 3 * w + 2) zN) (row := row1) (oth := oth) (asi := asi) (txt := txt) (typ := typ) (att := att) (rea := rea) (got := got) (was := was) hans hs hb
  refine ⟨_, p, l, x, q, lo, ov, orr, nv, nr, qk, qv, qr, wr, nI (W ||| 2 ^ w), upd wc w (nI c), upd wk w zN, _, was', beg', asi, s', att, rea, got, row1, oth, ?_, ?_, hR, Or.inr ⟨hans, hA⟩⟩
  · simp (disch := omega) only [gl_0, gl_1, gl_2, gl_3, gl_4, gl_5, gl_6, gl_7, gl_8, gl_9, gl_10, gl_11, gl_12, gl_13, gl_14, gl_15, gl_16, gl_17, gl_18, gl_19, gl_20, gl_21, gl_22, gl_23, gl_24, gl_25, gl_26, gl_27, gl_28, gl_29, gl_30, gl_31, gl_32, gl_44, gl_48, gl_49, gl_57, gl_59, gl_60, gl_63, gl_70, gl_98, gl_99, gl_100, gl_101, gl_107, gl_109, gl_110, gl_111, gl_116, gl_120, gl_126, gl_155, gl_411, gl_999, gl_1000, gl_1233, gl_1644, gl_100000, gl_m1, nI_eq, nI_leI, nI_ltI, nI_add, nI_clamp, pk_mul, pk_sub, z_in, z_gt, z_bs, z_us, z_un, if_pos, if_neg, if_true, if_false, and_true, true_and, and_self, not_true_eq_false, not_false_eq_true, C_isBelow_nI, C_keysRead hp hq (show c < 2 by omega), zbn_bits _ 31 (show 31 ≤ 32 by omega), J_bitCount hlt, hwa, o1]
  · simp (disch := omega) only [gl_0, gl_1, gl_2, gl_3, gl_4, gl_5, gl_6, gl_7, gl_8, gl_9, gl_10, gl_11, gl_12, gl_13, gl_14, gl_15, gl_16, gl_17, gl_18, gl_19, gl_20, gl_21, gl_22, gl_23, gl_24, gl_25, gl_26, gl_27, gl_28, gl_29, gl_30, gl_31, gl_32, gl_44, gl_48, gl_49, gl_57, gl_59, gl_60, gl_63, gl_70, gl_98, gl_99, gl_100, gl_101, gl_107, gl_109, gl_110, gl_111, gl_116, gl_120, gl_126, gl_155, gl_411, gl_999, gl_1000, gl_1233, gl_1644, gl_100000, gl_m1, nI_eq, nI_leI, nI_ltI, nI_add, nI_clamp, pk_mul, pk_sub, z_in, z_gt, z_bs, z_us, z_un, if_pos, if_neg, if_true, if_false, and_true, true_and, and_self, not_true_eq_false, not_false_eq_true, zin_in, ek, er, M_ones hlt, ea]
theorem P_step (R : RT ss p l x lo ov orr nv nr q qk qv qr wr wa wc wk) (hs : s ≤ 4) (y : Int32) : ChOK ss was s txt typ (nI p, nI l, nI x, lo, ov, orr, nv, nr, nI q, qk, qv, qr, wr, wa, wc, wk) (fX4_goOn y (nI p) (nI l) (nI x) lo ov orr nv nr (nI q) qk qv qr wr wa wc wk) (fX6_step y ss was beg asi (nI s) txt typ att rea got row oth) := by
  have R0 := R
  obtain ⟨⟨hp, hq, hl, hx, hqp⟩, ⟨a0, a1, a2, a3, a4⟩, r0, r1, rq, rl, ⟨W, hW, hwa, rw'⟩, rp0, rp3⟩ := R
  unfold fX4_goOn fX6_step
  have hy := pk_ix y (n := 3) (by omega)
  rw [← or_assoc] at hy
  rcases hy with hy | ⟨w, hw, rfl, -⟩
  · exact P_no (beg := beg) (asi := asi) (att := att) (rea := rea) (got := got) (row' := row) (oth' := oth) R0 (Or.inl rfl) (by simp only [gl_0, gl_1, gl_2, gl_3, gl_4, gl_5, gl_6, gl_7, gl_8, gl_9, gl_10, gl_11, gl_12, gl_13, gl_14, gl_15, gl_16, gl_17, gl_18, gl_19, gl_20, gl_21, gl_22, gl_23, gl_24, gl_25, gl_26, gl_27, gl_28, gl_29, gl_30, gl_31, gl_32, gl_44, gl_48, gl_49, gl_57, gl_59, gl_60, gl_63, gl_70, gl_98, gl_99, gl_100, gl_101, gl_107, gl_109, gl_110, gl_111, gl_116, gl_120, gl_126, gl_155, gl_411, gl_999, gl_1000, gl_1233, gl_1644, gl_100000, gl_m1, zb_out hy, z_bs, if_true]) (by simp only [gl_0, gl_1, gl_2, gl_3, gl_4, gl_5, gl_6, gl_7, gl_8, gl_9, gl_10, gl_11, gl_12, gl_13, gl_14, gl_15, gl_16, gl_17, gl_18, gl_19, gl_20, gl_21, gl_22, gl_23, gl_24, gl_25, gl_26, gl_27, gl_28, gl_29, gl_30, gl_31, gl_32, gl_44, gl_48, gl_49, gl_57, gl_59, gl_60, gl_63, gl_70, gl_98, gl_99, gl_100, gl_101, gl_107, gl_109, gl_110, gl_111, gl_116, gl_120, gl_126, gl_155, gl_411, gl_999, gl_1000, gl_1233, gl_1644, gl_100000, gl_m1]; rw [zin_out (show 2 + 1 < 2 ^ 31 by omega) hy, z_bs, if_pos rfl])
  obtain ⟨g1, g2, g3, g4⟩ := rw' w hw
  have ht := zw_t W hW w hw
  rw [← hwa] at ht
  cases hbit : W.testBit w
  · have h0 := ht.2 hbit
    rw [hbit] at g1
    simp only [Bool.false_eq_true, if_false] at g1
    exact P_no (beg := beg) (asi := asi) (att := att) (rea := rea) (got := got) (row' := row) (oth' := oth) R0 (Or.inr (Or.inl rfl)) (by simp (disch := omega) only [gl_0, gl_1, gl_2, gl_3, gl_4, gl_5, gl_6, gl_7, gl_8, gl_9, gl_10, gl_11, gl_12, gl_13, gl_14, gl_15, gl_16, gl_17, gl_18, gl_19, gl_20, gl_21, gl_22, gl_23, gl_24, gl_25, gl_26, gl_27, gl_28, gl_29, gl_30, gl_31, gl_32, gl_44, gl_48, gl_49, gl_57, gl_59, gl_60, gl_63, gl_70, gl_98, gl_99, gl_100, gl_101, gl_107, gl_109, gl_110, gl_111, gl_116, gl_120, gl_126, gl_155, gl_411, gl_999, gl_1000, gl_1233, gl_1644, gl_100000, gl_m1, nI_eq, nI_leI, nI_ltI, nI_add, nI_clamp, pk_mul, pk_sub, z_in, z_gt, z_bs, z_us, z_un, if_pos, if_neg, if_true, if_false, and_true, true_and, and_self, not_true_eq_false, not_false_eq_true, C_isBelow_nI, h0]) (by simp (disch := omega) only [gl_0, gl_1, gl_2, gl_3, gl_4, gl_5, gl_6, gl_7, gl_8, gl_9, gl_10, gl_11, gl_12, gl_13, gl_14, gl_15, gl_16, gl_17, gl_18, gl_19, gl_20, gl_21, gl_22, gl_23, gl_24, gl_25, gl_26, gl_27, gl_28, gl_29, gl_30, gl_31, gl_32, gl_44, gl_48, gl_49, gl_57, gl_59, gl_60, gl_63, gl_70, gl_98, gl_99, gl_100, gl_101, gl_107, gl_109, gl_110, gl_111, gl_116, gl_120, gl_126, gl_155, gl_411, gl_999, gl_1000, gl_1233, gl_1644, gl_100000, gl_m1, nI_eq, nI_leI, nI_ltI, nI_add, nI_clamp, pk_mul, pk_sub, z_in, z_gt, z_bs, z_us, z_un, if_pos, if_neg, if_true, if_false, and_true, true_and, and_self, not_true_eq_false, not_false_eq_true, zin_in, g1])
  have h0 : ¬ (wa &&& (nI 1 <<< (nI w &&& nI 31)) = nI 0) := fun h => by rw [ht.1 h] at hbit; exact absurd hbit (by decide)
  rw [hbit, if_pos rfl] at g1
  obtain ⟨g5, g6⟩ := g2 hbit
  obtain ⟨beg', ek, hb⟩ := M_keeps (ss := ss) (beg := beg) (sta := nI s) (row := row) (was := was) (asi := asi) (txt := txt) (typ := typ) (att := att) (rea := rea) (got := got) (oth := oth)
  obtain ⟨k0, hk0, ek0⟩ : ∃ k0, k0 ≤ 31 ∧ wk w + nI 1 = nI k0 := by
    rcases g4 with h | ⟨k, hk, h⟩
    · exact ⟨0, by omega, by rw [h]; decide⟩
    · exact ⟨k + 1, by omega, by rw [h, nI_add]⟩
  obtain ⟨c, hc, ec⟩ : ∃ c, c < 2 ∧ wc w = nI c := by
    rcases g3 with h | h
    · exact ⟨0, by omega, h⟩
    · exact ⟨1, by omega, h⟩
  obtain ⟨j, j1, j2, j3, j4⟩ := z_next (fun k => ¬ zrr p q orr nv nr qk qr k c = zN) (31 - k0) k0 (by omega)
  have j3 : ∀ i, k0 ≤ i → i < j → zrr p q orr nv nr qk qr i c = zN := fun i i1 i2 => Decidable.not_not.1 (j3 i i1 i2)
  have hC : ∃ n, fX4_goOn_b34 2000 (nI w) (nI k0) (nI p) (nI l) (nI x) lo ov orr nv nr (nI q) qk qv qr wr wa wc wk = fX4_goOn_b34 (n + 1) (nI w) (nI j) (nI p) (nI l) (nI x) lo ov orr nv nr (nI q) qk qv qr wr wa wc wk := by
    refine z_loop (fun n i (_ : Unit) => fX4_goOn_b34 n (nI w) (nI i) (nI p) (nI l) (nI x) lo ov orr nv nr (nI q) qk qv qr wr wa wc wk) j (fun i _ => k0 ≤ i) (fun o => ∃ n, o = fX4_goOn_b34 (n + 1) (nI w) (nI j) (nI p) (nI l) (nI x) lo ov orr nv nr (nI q) qk qv qr wr wa wc wk) ?_ ?_ 2000 k0 () j1 (by omega) (Nat.le_refl k0)
    · intro n i _ hi hki
      refine ⟨(), by omega, ?_⟩
      rw [fX4_goOn_b34]
      simp (disch := omega) only [gl_0, gl_1, gl_2, gl_3, gl_4, gl_5, gl_6, gl_7, gl_8, gl_9, gl_10, gl_11, gl_12, gl_13, gl_14, gl_15, gl_16, gl_17, gl_18, gl_19, gl_20, gl_21, gl_22, gl_23, gl_24, gl_25, gl_26, gl_27, gl_28, gl_29, gl_30, gl_31, gl_32, gl_44, gl_48, gl_49, gl_57, gl_59, gl_60, gl_63, gl_70, gl_98, gl_99, gl_100, gl_101, gl_107, gl_109, gl_110, gl_111, gl_116, gl_120, gl_126, gl_155, gl_411, gl_999, gl_1000, gl_1233, gl_1644, gl_100000, gl_m1, nI_eq, nI_leI, nI_ltI, nI_add, nI_clamp, pk_mul, pk_sub, z_in, z_gt, z_bs, z_us, z_un, if_pos, if_neg, if_true, if_false, and_true, true_and, and_self, not_true_eq_false, not_false_eq_true, ec, C_rowRead hp hq (show i < 31 by omega) hc, j3 i hki hi]
    · intro n _ _
      exact ⟨n, rfl⟩
  have hM : ∃ n row', fX6_step_b45 2000 (nI (5 + 3 * w)) (nI k0) ss was beg' asi (nI s) txt typ att rea got row oth = fX6_step_b45 (n + 1) (nI (5 + 3 * w)) (nI j) ss was beg' asi (nI s) txt typ att rea got row' oth := by
    refine z_loop (fun n i (s' : Nat → Int32) => fX6_step_b45 n (nI (5 + 3 * w)) (nI i) ss was beg' asi (nI s) txt typ att rea got s' oth) j (fun i _ => k0 ≤ i) (fun o => ∃ n row', o = fX6_step_b45 (n + 1) (nI (5 + 3 * w)) (nI j) ss was beg' asi (nI s) txt typ att rea got row' oth) ?_ ?_ 2000 k0 row j1 (by omega) (Nat.le_refl k0)
    · intro n i s' hi hki
      obtain ⟨row', er, _⟩ := M_reads (k := i) (s := c) (beg := beg') (sta := nI s) (row := s') (was := was) (asi := asi) (txt := txt) (typ := typ) (att := att) (rea := rea) (got := got) (oth := oth) (by omega) hc hp hq a0 a3 hl r0 r1 rq
      rw [j3 i hki hi, if_pos rfl] at er
      refine ⟨row', by omega, ?_⟩
      rw [fX6_step_b45]
      have g5' : ss (5 + 3 * w + 1) = nI c := by rw [show 5 + 3 * w + 1 = 6 + 3 * w by omega, g5, ec]
      simp (disch := omega) only [gl_0, gl_1, gl_2, gl_3, gl_4, gl_5, gl_6, gl_7, gl_8, gl_9, gl_10, gl_11, gl_12, gl_13, gl_14, gl_15, gl_16, gl_17, gl_18, gl_19, gl_20, gl_21, gl_22, gl_23, gl_24, gl_25, gl_26, gl_27, gl_28, gl_29, gl_30, gl_31, gl_32, gl_44, gl_48, gl_49, gl_57, gl_59, gl_60, gl_63, gl_70, gl_98, gl_99, gl_100, gl_101, gl_107, gl_109, gl_110, gl_111, gl_116, gl_120, gl_126, gl_155, gl_411, gl_999, gl_1000, gl_1233, gl_1644, gl_100000, gl_m1, nI_eq, nI_leI, nI_ltI, nI_add, nI_clamp, pk_mul, pk_sub, z_in, z_gt, z_bs, z_us, z_un, if_pos, if_neg, if_true, if_false, and_true, true_and, and_self, not_true_eq_false, not_false_eq_true, g5', er]
    · intro n s' _
      exact ⟨n, s', rfl⟩
  obtain ⟨n1, hC⟩ := hC
  obtain ⟨n2, row2, hM⟩ := hM
  have g5' : ss (5 + 3 * w + 1) = nI c := by rw [show 5 + 3 * w + 1 = 6 + 3 * w by omega, g5, ec]
  have g6' : ss (5 + 3 * w + 2) = wk w := by rw [show 5 + 3 * w + 2 = 7 + 3 * w by omega, g6]
  rcases Nat.lt_or_ge j 31 with hj | hj
  · have hne := j4 hj
    obtain ⟨row3, er, _⟩ := M_reads (k := j) (s := c) (beg := beg') (sta := nI s) (row := row2) (was := was) (asi := asi) (txt := txt) (typ := typ) (att := att) (rea := rea) (got := got) (oth := oth) (by omega) hc hp hq a0 a3 hl r0 r1 rq
    rw [if_neg hne] at er
    have hR : RT (upd (upd ss (5 + 3 * w) (nI 1)) (5 + 3 * w + 2) (nI j)) p l x lo ov orr nv nr q qk qv qr wr wa wc (upd wk w (nI j)) := by
      refine RT_w R0 (fun i hi => by rw [z_un (by omega), z_un (by omega)]) ⟨W, hW, hwa, fun i hi => ?_⟩
      by_cases hiw : i = w
      · subst hiw
        rw [hbit, if_pos rfl]
        refine ⟨by rw [z_un (by omega), z_us], fun _ => ⟨by rw [z_un (by omega), z_un (by omega)]; exact g5, by rw [show 7 + 3 * i = 5 + 3 * i + 2 by omega, z_us, z_us]⟩, g3, Or.inr ⟨j, hj, z_us⟩⟩
      · obtain ⟨x1, x2, x3, x4⟩ := rw' i hi
        rw [z_un hiw]
        exact ⟨by rw [z_un (by omega), z_un (by omega)]; exact x1, fun hbit => ⟨by rw [z_un (by omega), z_un (by omega)]; exact (x2 hbit).1, by rw [z_un (by omega), z_un (by omega)]; exact (x2 hbit).2⟩, x3, x4⟩
    obtain ⟨was', s', ea, hA⟩ := M_acted (r := nI j) (ss := upd (upd ss (5 + 3 * w) (nI 1)) (5 + 3 * w + 2) (nI j)) (row := row3) (oth := oth) (asi := asi) (txt := txt) (typ := typ) (att := att) (rea := rea) (got := got) (was := was) (zans_n (by omega)) hs hb
    refine ⟨nI j, p, l, x, q, lo, ov, orr, nv, nr, qk, qv, qr, wr, wa, wc, upd wk w (nI j), _, was', beg', asi, s', att, rea, got, row3, oth, ?_, ?_, hR, Or.inr ⟨zans_n (by omega), hA⟩⟩
    · simp (disch := omega) only [gl_0, gl_1, gl_2, gl_3, gl_4, gl_5, gl_6, gl_7, gl_8, gl_9, gl_10, gl_11, gl_12, gl_13, gl_14, gl_15, gl_16, gl_17, gl_18, gl_19, gl_20, gl_21, gl_22, gl_23, gl_24, gl_25, gl_26, gl_27, gl_28, gl_29, gl_30, gl_31, gl_32, gl_44, gl_48, gl_49, gl_57, gl_59, gl_60, gl_63, gl_70, gl_98, gl_99, gl_100, gl_101, gl_107, gl_109, gl_110, gl_111, gl_116, gl_120, gl_126, gl_155, gl_411, gl_999, gl_1000, gl_1233, gl_1644, gl_100000, gl_m1, nI_eq, nI_leI, nI_ltI, nI_add, nI_clamp, pk_mul, pk_sub, z_in, z_gt, z_bs, z_us, z_un, if_pos, if_neg, if_true, if_false, and_true, true_and, and_self, not_true_eq_false, not_false_eq_true, C_isBelow_nI, h0, ek0, hC]
      rw [fX4_goOn_b34]
      simp (disch := omega) only [gl_0, gl_1, gl_2, gl_3, gl_4, gl_5, gl_6, gl_7, gl_8, gl_9, gl_10, gl_11, gl_12, gl_13, gl_14, gl_15, gl_16, gl_17, gl_18, gl_19, gl_20, gl_21, gl_22, gl_23, gl_24, gl_25, gl_26, gl_27, gl_28, gl_29, gl_30, gl_31, gl_32, gl_44, gl_48, gl_49, gl_57, gl_59, gl_60, gl_63, gl_70, gl_98, gl_99, gl_100, gl_101, gl_107, gl_109, gl_110, gl_111, gl_116, gl_120, gl_126, gl_155, gl_411, gl_999, gl_1000, gl_1233, gl_1644, gl_100000, gl_m1, nI_eq, nI_leI, nI_ltI, nI_add, nI_clamp, pk_mul, pk_sub, z_in, z_gt, z_bs, z_us, z_un, if_pos, if_neg, if_true, if_false, and_true, true_and, and_self, not_true_eq_false, not_false_eq_true, ec, C_rowRead hp hq hj hc, hne]
    · simp (disch := omega) only [gl_0, gl_1, gl_2, gl_3, gl_4, gl_5, gl_6, gl_7, gl_8, gl_9, gl_10, gl_11, gl_12, gl_13, gl_14, gl_15, gl_16, gl_17, gl_18, gl_19, gl_20, gl_21, gl_22, gl_23, gl_24, gl_25, gl_26, gl_27, gl_28, gl_29, gl_30, gl_31, gl_32, gl_44, gl_48, gl_49, gl_57, gl_59, gl_60, gl_63, gl_70, gl_98, gl_99, gl_100, gl_101, gl_107, gl_109, gl_110, gl_111, gl_116, gl_120, gl_126, gl_155, gl_411, gl_999, gl_1000, gl_1233, gl_1644, gl_100000, gl_m1, nI_eq, nI_leI, nI_ltI, nI_add, nI_clamp, pk_mul, pk_sub, z_in, z_gt, z_bs, z_us, z_un, if_pos, if_neg, if_true, if_false, and_true, true_and, and_self, not_true_eq_false, not_false_eq_true, zin_in, g1, ek, g6', ek0, hM]
      rw [fX6_step_b45]
      simp (disch := omega) only [gl_0, gl_1, gl_2, gl_3, gl_4, gl_5, gl_6, gl_7, gl_8, gl_9, gl_10, gl_11, gl_12, gl_13, gl_14, gl_15, gl_16, gl_17, gl_18, gl_19, gl_20, gl_21, gl_22, gl_23, gl_24, gl_25, gl_26, gl_27, gl_28, gl_29, gl_30, gl_31, gl_32, gl_44, gl_48, gl_49, gl_57, gl_59, gl_60, gl_63, gl_70, gl_98, gl_99, gl_100, gl_101, gl_107, gl_109, gl_110, gl_111, gl_116, gl_120, gl_126, gl_155, gl_411, gl_999, gl_1000, gl_1233, gl_1644, gl_100000, gl_m1, nI_eq, nI_leI, nI_ltI, nI_add, nI_clamp, pk_mul, pk_sub, z_in, z_gt, z_bs, z_us, z_un, if_pos, if_neg, if_true, if_false, and_true, true_and, and_self, not_true_eq_false, not_false_eq_true, g5', er, fX6_step_b73, fX6_step_b89, ea]
  · have hj : j = 31 := by omega
    subst hj
    obtain ⟨o1, o2, o3⟩ := zw_cl W hW w hw
    have hR : RT (upd (upd ss (5 + 3 * w) (nI 0)) (5 + 3 * w + 2) (nI 31)) p l x lo ov orr nv nr q qk qv qr wr (nI (W &&& (7 - 2 ^ w))) wc wk := by
      refine RT_w R0 (fun i hi => by rw [z_un (by omega), z_un (by omega)]) ⟨W &&& (7 - 2 ^ w), o2, rfl, fun i hi => ?_⟩
      rw [o3 i hi]
      by_cases hiw : i = w
      · subst hiw
        simp only [ne_eq, not_true_eq_false, decide_false, Bool.and_false, Bool.false_eq_true, if_false]
        exact ⟨by rw [z_un (by omega), z_us], fun h => absurd h id, g3, g4⟩
      · obtain ⟨x1, x2, x3, x4⟩ := rw' i hi
        rw [decide_eq_true hiw, Bool.and_true]
        exact ⟨by rw [z_un (by omega), z_un (by omega)]; exact x1, fun hbit => ⟨by rw [z_un (by omega), z_un (by omega)]; exact (x2 hbit).1, by rw [z_un (by omega), z_un (by omega)]; exact (x2 hbit).2⟩, x3, x4⟩
    obtain ⟨was', s', ea, hA⟩ := M_acted (r := nI 31) (ss := upd (upd ss (5 + 3 * w) (nI 0)) (5 + 3 * w + 2) (nI 31)) (row := row2) (oth := oth) (asi := asi) (txt := txt) (typ := typ) (att := att) (rea := rea) (got := got) (was := was) (zans_n (by omega)) hs hb
    refine ⟨nI 31, p, l, x, q, lo, ov, orr, nv, nr, qk, qv, qr, wr, nI (W &&& (7 - 2 ^ w)), wc, wk, _, was', beg', asi, s', att, rea, got, row2, oth, ?_, ?_, hR, Or.inr ⟨zans_n (by omega), hA⟩⟩
    · simp (disch := omega) only [gl_0, gl_1, gl_2, gl_3, gl_4, gl_5, gl_6, gl_7, gl_8, gl_9, gl_10, gl_11, gl_12, gl_13, gl_14, gl_15, gl_16, gl_17, gl_18, gl_19, gl_20, gl_21, gl_22, gl_23, gl_24, gl_25, gl_26, gl_27, gl_28, gl_29, gl_30, gl_31, gl_32, gl_44, gl_48, gl_49, gl_57, gl_59, gl_60, gl_63, gl_70, gl_98, gl_99, gl_100, gl_101, gl_107, gl_109, gl_110, gl_111, gl_116, gl_120, gl_126, gl_155, gl_411, gl_999, gl_1000, gl_1233, gl_1644, gl_100000, gl_m1, nI_eq, nI_leI, nI_ltI, nI_add, nI_clamp, pk_mul, pk_sub, z_in, z_gt, z_bs, z_us, z_un, if_pos, if_neg, if_true, if_false, and_true, true_and, and_self, not_true_eq_false, not_false_eq_true, C_isBelow_nI, h0, ek0, hC]
      rw [fX4_goOn_b34]
      simp (disch := omega) only [gl_0, gl_1, gl_2, gl_3, gl_4, gl_5, gl_6, gl_7, gl_8, gl_9, gl_10, gl_11, gl_12, gl_13, gl_14, gl_15, gl_16, gl_17, gl_18, gl_19, gl_20, gl_21, gl_22, gl_23, gl_24, gl_25, gl_26, gl_27, gl_28, gl_29, gl_30, gl_31, gl_32, gl_44, gl_48, gl_49, gl_57, gl_59, gl_60, gl_63, gl_70, gl_98, gl_99, gl_100, gl_101, gl_107, gl_109, gl_110, gl_111, gl_116, gl_120, gl_126, gl_155, gl_411, gl_999, gl_1000, gl_1233, gl_1644, gl_100000, gl_m1, nI_eq, nI_leI, nI_ltI, nI_add, nI_clamp, pk_mul, pk_sub, z_in, z_gt, z_bs, z_us, z_un, if_pos, if_neg, if_true, if_false, and_true, true_and, and_self, not_true_eq_false, not_false_eq_true, hwa, o1]
    · simp (disch := omega) only [gl_0, gl_1, gl_2, gl_3, gl_4, gl_5, gl_6, gl_7, gl_8, gl_9, gl_10, gl_11, gl_12, gl_13, gl_14, gl_15, gl_16, gl_17, gl_18, gl_19, gl_20, gl_21, gl_22, gl_23, gl_24, gl_25, gl_26, gl_27, gl_28, gl_29, gl_30, gl_31, gl_32, gl_44, gl_48, gl_49, gl_57, gl_59, gl_60, gl_63, gl_70, gl_98, gl_99, gl_100, gl_101, gl_107, gl_109, gl_110, gl_111, gl_116, gl_120, gl_126, gl_155, gl_411, gl_999, gl_1000, gl_1233, gl_1644, gl_100000, gl_m1, nI_eq, nI_leI, nI_ltI, nI_add, nI_clamp, pk_mul, pk_sub, z_in, z_gt, z_bs, z_us, z_un, if_pos, if_neg, if_true, if_false, and_true, true_and, and_self, not_true_eq_false, not_false_eq_true, zin_in, g1, ek, g6', ek0, hM]
      rw [fX6_step_b45]
      simp (disch := omega) only [gl_0, gl_1, gl_2, gl_3, gl_4, gl_5, gl_6, gl_7, gl_8, gl_9, gl_10, gl_11, gl_12, gl_13, gl_14, gl_15, gl_16, gl_17, gl_18, gl_19, gl_20, gl_21, gl_22, gl_23, gl_24, gl_25, gl_26, gl_27, gl_28, gl_29, gl_30, gl_31, gl_32, gl_44, gl_48, gl_49, gl_57, gl_59, gl_60, gl_63, gl_70, gl_98, gl_99, gl_100, gl_101, gl_107, gl_109, gl_110, gl_111, gl_116, gl_120, gl_126, gl_155, gl_411, gl_999, gl_1000, gl_1233, gl_1644, gl_100000, gl_m1, nI_eq, nI_leI, nI_ltI, nI_add, nI_clamp, pk_mul, pk_sub, z_in, z_gt, z_bs, z_us, z_un, if_pos, if_neg, if_true, if_false, and_true, true_and, and_self, not_true_eq_false, not_false_eq_true, fX6_step_b73, fX6_step_b89, ea]
end MD17
