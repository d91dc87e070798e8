/-! changes: writing and removing -/
theorem PutM.o {ss ss' : Nat → Int32} {p l x k : Nat} {r : Int32} {lo : Int32} {ov orr nv nr : Nat → Int32} {q : Nat} {qk qv qr wr : Nat → Int32} {wa : Int32} {wc wk : Nat → Int32} (R : RT ss p l x lo ov orr nv nr q qk qv qr wr wa wc wk) (hk : k < 31) (hr : zok r) (hl : l < 100000) (hq8 : (p = 1 ∨ p = 2) → q < 8) (P : PutM ss ss' p l q k r) :
    (p = 0 → RT ss' 0 (l + 1) x lo (upd ov k (nI (l + 1))) (upd orr k (mo r (nI 0))) nv nr q qk qv qr (upd wr k (nI (l + 1))) wa wc wk) ∧
    (p = 1 → RT ss' 1 (l + 1) x lo (upd ov k (nI (l + 1))) (upd orr k (mo r (nI 0))) nv nr (q + 1) (upd qk q (nI k)) (upd qv q (nI (l + 1))) (upd qr q r) (upd wr k (nI (l + 1))) wa wc wk) ∧
    (p = 2 → RT ss' 2 (l + 1) x lo ov orr (upd nv k (nI (l + 1))) (upd nr k (mo r (nI 1))) (q + 1) (upd qk q (nI k)) (upd qv q (nI (l + 1))) (upd qr q r) (upd wr k (nI (l + 1))) wa wc wk) ∧
    (p = 3 → RT ss' 3 (l + 1) x lo ov orr (upd nv k (nI (l + 1))) (upd nr k (mo r (nI 1))) q qk qv qr (upd wr k (nI (l + 1))) wa wc wk) := by
  obtain ⟨⟨hp, hq, hl', hx, hqp⟩, ⟨a0, a1, a2, a3, a4⟩, r0, r1, rq, rl, rw', rp0, rp3⟩ := R
  obtain ⟨e, e1, e7, er, ew, eb, en⟩ := P
  have hw : ∀ i, i < 31 → ss' (70 + i) = upd wr k (nI (l + 1)) i := fun i hi => by
    by_cases hik : i = k
    · subst hik; rw [z_us]; exact e7
    · rw [z_un hik, ← rl i hi]
      by_cases hqq : q < 8
      · exact e _ (by omega) (by omega) (by omega) (by omega) (by omega) (by omega)
      · exact absurd (hq8 (hqp (by omega))) hqq
  refine ⟨fun h => ?_, fun h => ?_, fun h => ?_, fun h => ?_⟩ <;> subst h
  · have hq0 : q = 0 := by
      rcases Nat.eq_zero_or_pos q with h | h
      · exact h
      · exact absurd (hqp (by omega)) (by omega)
    subst hq0
    have z0 : zfst 0 = 0 := rfl
    rw [z0] at e er ew
    exact ⟨⟨hp, hq, hl, hx, hqp⟩, ⟨by rw [e 0 (by omega) (by omega) (by omega) (by omega) (by omega) (by omega)]; exact a0, e1, fun h => absurd h (by omega), en (by omega), by rw [e 4 (by omega) (by omega) (by omega) (by omega) (by omega) (by omega)]; exact a4⟩, RTs_put (by omega) r0 hr (fun i h1 h2 h3 => e i (by omega) (by omega) (by omega) (by omega) (by omega) (by omega)) er ew, RTs_mono (RTs_congr r1 fun i h1 h2 => e i (by omega) (by omega) (by omega) (by omega) (by omega) (by omega)) (by omega), fun i hi => absurd hi (by omega), hw, RTw_congr rw' fun i h1 h2 => e i (by omega) (by omega) (by omega) (by omega) (by omega) (by omega), rp0, fun h => absurd h (by omega)⟩
  · have hq := hq8 (by omega)
    obtain ⟨b3, bk, bv, bs, bd, bf⟩ := eb (by omega)
    have z0 : zfst 1 = 0 := rfl
    rw [z0] at e er ew
    exact ⟨⟨hp, by omega, hl, hx, fun _ => by omega⟩, ⟨by rw [e 0 (by omega) (by omega) (by omega) (by omega) (by omega) (by omega)]; exact a0, e1, fun h => by rw [e 2 (by omega) (by omega) (by omega) (by omega) (by omega) (by omega)]; exact a2 h, b3, by rw [e 4 (by omega) (by omega) (by omega) (by omega) (by omega) (by omega)]; exact a4⟩, RTs_put (by omega) r0 hr (fun i h1 h2 h3 => e i (by omega) (by omega) (by omega) (by omega) (by omega) (by omega)) er ew, RTs_mono (RTs_congr r1 fun i h1 h2 => e i (by omega) (by omega) (by omega) (by omega) (by omega) (by omega)) (by omega), RTq_put hq hk hr rq (fun i h1 h2 => e i (by omega) (by omega) (by omega) (by omega) (by omega) (by omega)) bk bv bs bd bf, hw, RTw_congr rw' fun i h1 h2 => e i (by omega) (by omega) (by omega) (by omega) (by omega) (by omega), fun h => absurd h (by omega), fun h => absurd h (by omega)⟩
  · have hq := hq8 (by omega)
    obtain ⟨b3, bk, bv, bs, bd, bf⟩ := eb (by omega)
    have z0 : zfst 2 = 1 := rfl
    rw [z0] at e er ew
    exact ⟨⟨hp, by omega, hl, hx, fun _ => by omega⟩, ⟨by rw [e 0 (by omega) (by omega) (by omega) (by omega) (by omega) (by omega)]; exact a0, e1, fun h => absurd h (by omega), b3, by rw [e 4 (by omega) (by omega) (by omega) (by omega) (by omega) (by omega)]; exact a4⟩, RTs_mono (RTs_congr r0 fun i h1 h2 => e i (by omega) (by omega) (by omega) (by omega) (by omega) (by omega)) (by omega), RTs_put (by omega) r1 hr (fun i h1 h2 h3 => e i (by omega) (by omega) (by omega) (by omega) (by omega) (by omega)) er ew, RTq_put hq hk hr rq (fun i h1 h2 => e i (by omega) (by omega) (by omega) (by omega) (by omega) (by omega)) bk bv bs bd bf, hw, RTw_congr rw' fun i h1 h2 => e i (by omega) (by omega) (by omega) (by omega) (by omega) (by omega), fun h => absurd h (by omega), fun h => absurd h (by omega)⟩
  · have hq0 : q = 0 := by
      rcases Nat.eq_zero_or_pos q with h | h
      · exact h
      · exact absurd (hqp (by omega)) (by omega)
    subst hq0
    have z0 : zfst 3 = 1 := rfl
    rw [z0] at e er ew
    exact ⟨⟨hp, hq, hl, hx, hqp⟩, ⟨by rw [e 0 (by omega) (by omega) (by omega) (by omega) (by omega) (by omega)]; exact a0, e1, fun h => absurd h (by omega), en (by omega), by rw [e 4 (by omega) (by omega) (by omega) (by omega) (by omega) (by omega)]; exact a4⟩, RTs_mono (RTs_congr r0 fun i h1 h2 => e i (by omega) (by omega) (by omega) (by omega) (by omega) (by omega)) (by omega), RTs_put (by omega) r1 hr (fun i h1 h2 h3 => e i (by omega) (by omega) (by omega) (by omega) (by omega) (by omega)) er ew, fun i hi => absurd hi (by omega), hw, RTw_congr rw' fun i h1 h2 => e i (by omega) (by omega) (by omega) (by omega) (by omega) (by omega), fun h => absurd h (by omega), rp3⟩
section MD9
variable {ss was beg asi : Nat → Int32} {sta : Int32} {txt : Nat → Int32} {typ att rea : Int32} {got row oth : Nat → Int32}
variable {p l x : Nat} {lo : Int32} {ov orr nv nr : Nat → Int32} {q : Nat} {qk qv qr wr : Nat → Int32} {wa : Int32} {wc wk : Nat → Int32}
theorem OpOK_no {r : Int32} {row' oth' : Nat → Int32} (R : RT ss p l x lo ov orr nv nr q qk qv qr wr wa wc wk) (h : zerr r) : OpOK was beg asi sta txt typ att rea got (nI p, nI l, nI x, lo, ov, orr, nv, nr, nI q, qk, qv, qr, wr, wa, wc, wk) (some (r, nI p, nI l, nI x, lo, ov, orr, nv, nr, nI q, qk, qv, qr, wr, wa, wc, wk)) (some (r, ss, was, beg, asi, sta, txt, typ, att, rea, got, row', oth')) := ⟨r, p, l, x, q, lo, ov, orr, nv, nr, qk, qv, qr, wr, wa, wc, wk, ss, row', oth', rfl, rfl, R, Or.inr ⟨h, rfl⟩⟩
theorem S_put {k sh : Nat} {r : Int32} (R : RT ss p l x lo ov orr nv nr q qk qv qr wr wa wc wk) (hk : k < 31) (hs : sh < 2) (hr0 : sh = 0 → zoo r) (hr1 : zok r) (hrow : RowIs row sh r) : OpOK was beg asi sta txt typ att rea got (nI p, nI l, nI x, lo, ov, orr, nv, nr, nI q, qk, qv, qr, wr, wa, wc, wk) (fX4_put (nI k) r (nI p) (nI l) (nI x) lo ov orr nv nr (nI q) qk qv qr wr wa wc wk) (fX6_comes (nI k) (nI sh) (if r = zN then nI 1 else nI 0) ss was beg asi sta txt typ att rea got row oth) := by
  have R0 := R
  obtain ⟨⟨hp, hq, hl, hx, hqp⟩, ⟨a0, a1, a2, a3, a4⟩, r0, r1, rq, rl, rw', rp0, rp3⟩ := R
  by_cases hfull : (p = 1 ∨ p = 2) ∧ q = 8
  · obtain ⟨hb, rfl⟩ := hfull
    unfold fX4_put fX6_comes
    rw [C_hasBoth hp, M_areBoth hp a0, z_bs, z_bs]
    rw [if_pos hb]
    simp (disch := omega) only [gl_0, gl_1, gl_2, gl_3, gl_4, gl_5, gl_6, gl_7, gl_8, gl_9, gl_10, gl_11, gl_12, gl_13, gl_14, gl_15, gl_16, gl_17, gl_18, gl_19, gl_20, gl_21, gl_22, gl_23, gl_24, gl_25, gl_26, gl_27, gl_28, gl_29, gl_30, gl_31, gl_32, gl_44, gl_48, gl_49, gl_57, gl_59, gl_60, gl_63, gl_70, gl_98, gl_99, gl_100, gl_101, gl_107, gl_109, gl_110, gl_111, gl_116, gl_120, gl_126, gl_155, gl_411, gl_999, gl_1000, gl_1233, gl_1644, gl_100000, gl_m1, nI_eq, nI_leI, nI_ltI, nI_add, nI_clamp, pk_mul, pk_sub, z_in, z_gt, z_bs, z_us, z_un, if_pos, if_neg, if_true, if_false, and_true, true_and, and_self, not_true_eq_false, not_false_eq_true, a3, fX4_put_b24]
    exact OpOK_no R0 (Or.inr (Or.inr (Or.inl rfl)))
  by_cases hlim : l = 100000
  · subst hlim
    have e1 : fX4_put (nI k) r (nI p) (nI 100000) (nI x) lo ov orr nv nr (nI q) qk qv qr wr wa wc wk = some (-1000003, nI p, nI 100000, nI x, lo, ov, orr, nv, nr, nI q, qk, qv, qr, wr, wa, wc, wk) := by
      unfold fX4_put
      rw [C_hasBoth hp, z_bs]
      by_cases hb : p = 1 ∨ p = 2
      · rw [if_pos hb]
        simp (disch := omega) only [gl_0, gl_1, gl_2, gl_3, gl_4, gl_5, gl_6, gl_7, gl_8, gl_9, gl_10, gl_11, gl_12, gl_13, gl_14, gl_15, gl_16, gl_17, gl_18, gl_19, gl_20, gl_21, gl_22, gl_23, gl_24, gl_25, gl_26, gl_27, gl_28, gl_29, gl_30, gl_31, gl_32, gl_44, gl_48, gl_49, gl_57, gl_59, gl_60, gl_63, gl_70, gl_98, gl_99, gl_100, gl_101, gl_107, gl_109, gl_110, gl_111, gl_116, gl_120, gl_126, gl_155, gl_411, gl_999, gl_1000, gl_1233, gl_1644, gl_100000, gl_m1, nI_eq, nI_leI, nI_ltI, nI_add, nI_clamp, pk_mul, pk_sub, z_in, z_gt, z_bs, z_us, z_un, if_pos, if_neg, if_true, if_false, and_true, true_and, and_self, not_true_eq_false, not_false_eq_true, fX4_put_b24, fX4_put_b23]
      · rw [if_neg hb]
        simp (disch := omega) only [gl_0, gl_1, gl_2, gl_3, gl_4, gl_5, gl_6, gl_7, gl_8, gl_9, gl_10, gl_11, gl_12, gl_13, gl_14, gl_15, gl_16, gl_17, gl_18, gl_19, gl_20, gl_21, gl_22, gl_23, gl_24, gl_25, gl_26, gl_27, gl_28, gl_29, gl_30, gl_31, gl_32, gl_44, gl_48, gl_49, gl_57, gl_59, gl_60, gl_63, gl_70, gl_98, gl_99, gl_100, gl_101, gl_107, gl_109, gl_110, gl_111, gl_116, gl_120, gl_126, gl_155, gl_411, gl_999, gl_1000, gl_1233, gl_1644, gl_100000, gl_m1, nI_eq, nI_leI, nI_ltI, nI_add, nI_clamp, pk_mul, pk_sub, z_in, z_gt, z_bs, z_us, z_un, if_pos, if_neg, if_true, if_false, and_true, true_and, and_self, not_true_eq_false, not_false_eq_true, fX4_put_b24, fX4_put_b23]
    have e2 : fX6_comes (nI k) (nI sh) (if r = zN then nI 1 else nI 0) ss was beg asi sta txt typ att rea got row oth = some (-1000003, ss, was, beg, asi, sta, txt, typ, att, rea, got, row, oth) := by
      unfold fX6_comes
      rw [M_areBoth hp a0, z_bs]
      by_cases hb : p = 1 ∨ p = 2
      · rw [if_pos hb]
        simp (disch := omega) only [gl_0, gl_1, gl_2, gl_3, gl_4, gl_5, gl_6, gl_7, gl_8, gl_9, gl_10, gl_11, gl_12, gl_13, gl_14, gl_15, gl_16, gl_17, gl_18, gl_19, gl_20, gl_21, gl_22, gl_23, gl_24, gl_25, gl_26, gl_27, gl_28, gl_29, gl_30, gl_31, gl_32, gl_44, gl_48, gl_49, gl_57, gl_59, gl_60, gl_63, gl_70, gl_98, gl_99, gl_100, gl_101, gl_107, gl_109, gl_110, gl_111, gl_116, gl_120, gl_126, gl_155, gl_411, gl_999, gl_1000, gl_1233, gl_1644, gl_100000, gl_m1, nI_eq, nI_leI, nI_ltI, nI_add, nI_clamp, pk_mul, pk_sub, z_in, z_gt, z_bs, z_us, z_un, if_pos, if_neg, if_true, if_false, and_true, true_and, and_self, not_true_eq_false, not_false_eq_true, a3, a1, fX6_comes_b18]
      · rw [if_neg hb]
        simp (disch := omega) only [gl_0, gl_1, gl_2, gl_3, gl_4, gl_5, gl_6, gl_7, gl_8, gl_9, gl_10, gl_11, gl_12, gl_13, gl_14, gl_15, gl_16, gl_17, gl_18, gl_19, gl_20, gl_21, gl_22, gl_23, gl_24, gl_25, gl_26, gl_27, gl_28, gl_29, gl_30, gl_31, gl_32, gl_44, gl_48, gl_49, gl_57, gl_59, gl_60, gl_63, gl_70, gl_98, gl_99, gl_100, gl_101, gl_107, gl_109, gl_110, gl_111, gl_116, gl_120, gl_126, gl_155, gl_411, gl_999, gl_1000, gl_1233, gl_1644, gl_100000, gl_m1, nI_eq, nI_leI, nI_ltI, nI_add, nI_clamp, pk_mul, pk_sub, z_in, z_gt, z_bs, z_us, z_un, if_pos, if_neg, if_true, if_false, and_true, true_and, and_self, not_true_eq_false, not_false_eq_true, a3, a1, fX6_comes_b18]
    rw [e1, e2]
    exact OpOK_no R0 (Or.inr (Or.inr (Or.inl rfl)))
  have hl' : l < 100000 := by omega
  have hq8 : (p = 1 ∨ p = 2) → q < 8 := fun h => by
    rcases Nat.lt_or_ge q 8 with h' | h'
    · exact h'
    · exact absurd ⟨h, by omega⟩ hfull
  obtain ⟨ss', row', oth', em, P⟩ := M_comes (was := was) (beg := beg) (asi := asi) (sta := sta) (txt := txt) (typ := typ) (att := att) (rea := rea) (got := got) (oth := oth) hp hq8 hk hs hl' hr0 hr1 hrow a0 a1 a3
  rw [em]
  obtain ⟨P0, P1, P2, P3⟩ := PutM.o R0 hk hr1 hl' hq8 P
  have ha : zans (nI (l + 1)) := zans_n (by omega)
  obtain ⟨_, _, _, v0, v0l, v0e⟩ := r0 k hk
  obtain ⟨_, _, _, v1, v1l, v1e⟩ := r1 k hk
  rcases (show p = 0 ∨ p = 1 ∨ p = 2 ∨ p = 3 by omega) with rfl | rfl | rfl | rfl
  · unfold fX4_put
    have z0 : zfst 0 = 0 := rfl
    have ec := C_take (row := orr) (r := r) (sh := 0) (w := l + 1) hk v0e (by omega) (by omega)
    simp (disch := omega) only [gl_0, gl_1, gl_2, gl_3, gl_4, gl_5, gl_6, gl_7, gl_8, gl_9, gl_10, gl_11, gl_12, gl_13, gl_14, gl_15, gl_16, gl_17, gl_18, gl_19, gl_20, gl_21, gl_22, gl_23, gl_24, gl_25, gl_26, gl_27, gl_28, gl_29, gl_30, gl_31, gl_32, gl_44, gl_48, gl_49, gl_57, gl_59, gl_60, gl_63, gl_70, gl_98, gl_99, gl_100, gl_101, gl_107, gl_109, gl_110, gl_111, gl_116, gl_120, gl_126, gl_155, gl_411, gl_999, gl_1000, gl_1233, gl_1644, gl_100000, gl_m1, nI_eq, nI_leI, nI_ltI, nI_add, nI_clamp, pk_mul, pk_sub, z_in, z_gt, z_bs, z_us, z_un, if_pos, if_neg, if_true, if_false, and_true, true_and, and_self, not_true_eq_false, not_false_eq_true, C_hasBoth (show 0 ≤ 3 by omega), C_first (show 0 ≤ 3 by omega), z0, C_shape (show 0 < 2 by omega), fX4_put_b23, fX4_put_b24, ec]
    exact ⟨_, 0, l + 1, x, q, lo, _, _, nv, nr, qk, qv, qr, _, wa, wc, wk, ss', row', oth', rfl, rfl, P0 rfl, Or.inl ha⟩
  · unfold fX4_put
    have hq' := hq8 (by omega)
    have z0 : zfst 1 = 0 := rfl
    have ec := C_take (row := orr) (r := r) (sh := 0) (w := l + 1) hk v0e (by omega) (by omega)
    simp (disch := omega) only [gl_0, gl_1, gl_2, gl_3, gl_4, gl_5, gl_6, gl_7, gl_8, gl_9, gl_10, gl_11, gl_12, gl_13, gl_14, gl_15, gl_16, gl_17, gl_18, gl_19, gl_20, gl_21, gl_22, gl_23, gl_24, gl_25, gl_26, gl_27, gl_28, gl_29, gl_30, gl_31, gl_32, gl_44, gl_48, gl_49, gl_57, gl_59, gl_60, gl_63, gl_70, gl_98, gl_99, gl_100, gl_101, gl_107, gl_109, gl_110, gl_111, gl_116, gl_120, gl_126, gl_155, gl_411, gl_999, gl_1000, gl_1233, gl_1644, gl_100000, gl_m1, nI_eq, nI_leI, nI_ltI, nI_add, nI_clamp, pk_mul, pk_sub, z_in, z_gt, z_bs, z_us, z_un, if_pos, if_neg, if_true, if_false, and_true, true_and, and_self, not_true_eq_false, not_false_eq_true, C_hasBoth (show 1 ≤ 3 by omega), C_first (show 1 ≤ 3 by omega), z0, C_shape (show 0 < 2 by omega), fX4_put_b23, fX4_put_b24, ec, C_append hq']
    exact ⟨_, 1, l + 1, x, q + 1, lo, _, _, nv, nr, _, _, _, _, wa, wc, wk, ss', row', oth', rfl, rfl, P1 rfl, Or.inl ha⟩
  · unfold fX4_put
    have hq' := hq8 (by omega)
    have z0 : zfst 2 = 1 := rfl
    have ec := C_take (row := nr) (r := r) (sh := 1) (w := l + 1) hk v1e (by omega) (by omega)
    simp (disch := omega) only [gl_0, gl_1, gl_2, gl_3, gl_4, gl_5, gl_6, gl_7, gl_8, gl_9, gl_10, gl_11, gl_12, gl_13, gl_14, gl_15, gl_16, gl_17, gl_18, gl_19, gl_20, gl_21, gl_22, gl_23, gl_24, gl_25, gl_26, gl_27, gl_28, gl_29, gl_30, gl_31, gl_32, gl_44, gl_48, gl_49, gl_57, gl_59, gl_60, gl_63, gl_70, gl_98, gl_99, gl_100, gl_101, gl_107, gl_109, gl_110, gl_111, gl_116, gl_120, gl_126, gl_155, gl_411, gl_999, gl_1000, gl_1233, gl_1644, gl_100000, gl_m1, nI_eq, nI_leI, nI_ltI, nI_add, nI_clamp, pk_mul, pk_sub, z_in, z_gt, z_bs, z_us, z_un, if_pos, if_neg, if_true, if_false, and_true, true_and, and_self, not_true_eq_false, not_false_eq_true, C_hasBoth (show 2 ≤ 3 by omega), C_first (show 2 ≤ 3 by omega), z0, C_shape (show 1 < 2 by omega), fX4_put_b23, fX4_put_b24, ec, C_append hq']
    exact ⟨_, 2, l + 1, x, q + 1, lo, ov, orr, _, _, _, _, _, _, wa, wc, wk, ss', row', oth', rfl, rfl, P2 rfl, Or.inl ha⟩
  · unfold fX4_put
    have z0 : zfst 3 = 1 := rfl
    have ec := C_take (row := nr) (r := r) (sh := 1) (w := l + 1) hk v1e (by omega) (by omega)
    simp (disch := omega) only [gl_0, gl_1, gl_2, gl_3, gl_4, gl_5, gl_6, gl_7, gl_8, gl_9, gl_10, gl_11, gl_12, gl_13, gl_14, gl_15, gl_16, gl_17, gl_18, gl_19, gl_20, gl_21, gl_22, gl_23, gl_24, gl_25, gl_26, gl_27, gl_28, gl_29, gl_30, gl_31, gl_32, gl_44, gl_48, gl_49, gl_57, gl_59, gl_60, gl_63, gl_70, gl_98, gl_99, gl_100, gl_101, gl_107, gl_109, gl_110, gl_111, gl_116, gl_120, gl_126, gl_155, gl_411, gl_999, gl_1000, gl_1233, gl_1644, gl_100000, gl_m1, nI_eq, nI_leI, nI_ltI, nI_add, nI_clamp, pk_mul, pk_sub, z_in, z_gt, z_bs, z_us, z_un, if_pos, if_neg, if_true, if_false, and_true, true_and, and_self, not_true_eq_false, not_false_eq_true, C_hasBoth (show 3 ≤ 3 by omega), C_first (show 3 ≤ 3 by omega), z0, C_shape (show 1 < 2 by omega), fX4_put_b23, fX4_put_b24, ec]
    exact ⟨_, 3, l + 1, x, q, lo, ov, orr, _, _, qk, qv, qr, _, wa, wc, wk, ss', row', oth', rfl, rfl, P3 rfl, Or.inl ha⟩
end MD9
