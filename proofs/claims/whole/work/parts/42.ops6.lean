/-! changes: drain, to the end -/
section MD12
variable {ss was beg asi : Nat → Int32} {sta : Int32} {txt : Nat → Int32} {typ att rea : Int32} {got row oth : Nat → Int32}
variable {p l x : Nat} {lo : Int32} {ov orr nv nr : Nat → Int32} {q : Nat} {qk qv qr wr : Nat → Int32} {wa : Int32} {wc wk : Nat → Int32}
theorem RT_q {qk' qv' qr' : Nat → Int32} (R : RT ss p l x lo ov orr nv nr q qk qv qr wr wa wc wk) (h : ∀ j, j < q → qk' j = qk j ∧ qv' j = qv j ∧ qr' j = qr j) : RT ss p l x lo ov orr nv nr q qk' qv' qr' wr wa wc wk := by
  obtain ⟨h1, h2, r0, r1, rq, hr⟩ := R
  refine ⟨h1, h2, r0, r1, fun i hi => ?_, hr⟩
  obtain ⟨g1, g2, g3⟩ := h i hi
  rw [g1, g2, g3]
  exact rq i hi
theorem C_dr1 {ph la po : Int32} {d : Nat} (hd : d ≤ q) (hq : q ≤ 8) (hk : ∀ i, i < q → ∃ k, k < 31 ∧ qk i = nI k) : ∃ qk' qv' qr', fX4_drainQueue_b51_1 2000 (nI d) (nI 0) ph la po lo ov orr nv nr (nI q) qk qv qr wr wa wc wk = some (nI (q - d), ph, la, po, lo, ov, orr, (zdr 1 qk qv qr d (nv, nr)).1, (zdr 1 qk qv qr d (nv, nr)).2, nI (q - d), qk', qv', qr', wr, wa, wc, wk) ∧ ∀ j, j < q - d → qk' j = qk (d + j) ∧ qv' j = qv (d + j) ∧ qr' j = qr (d + j) := by
  refine z_loop (fun n i (s : (Nat → Int32) × (Nat → Int32)) => fX4_drainQueue_b51_1 n (nI d) (nI i) ph la po lo ov orr s.1 s.2 (nI q) qk qv qr wr wa wc wk) d (fun i s => s = zdr 1 qk qv qr i (nv, nr)) (fun o => ∃ qk' qv' qr', o = some (nI (q - d), ph, la, po, lo, ov, orr, (zdr 1 qk qv qr d (nv, nr)).1, (zdr 1 qk qv qr d (nv, nr)).2, nI (q - d), qk', qv', qr', wr, wa, wc, wk) ∧ ∀ j, j < q - d → qk' j = qk (d + j) ∧ qv' j = qv (d + j) ∧ qr' j = qr (d + j)) ?_ ?_ 2000 0 (nv, nr) (by omega) (by omega) rfl
  · rintro n i s hi rfl
    obtain ⟨k, hk1, hk2⟩ := hk i (by omega)
    refine ⟨_, rfl, ?_⟩
    rw [fX4_drainQueue_b51_1]
    simp (disch := omega) only [gl_0, gl_1, gl_2, gl_3, gl_4, gl_5, gl_6, gl_7, gl_8, gl_9, gl_10, gl_11, gl_12, gl_13, gl_14, gl_15, gl_16, gl_17, gl_18, gl_19, gl_20, gl_21, gl_22, gl_23, gl_24, gl_25, gl_26, gl_27, gl_28, gl_29, gl_30, gl_31, gl_32, gl_44, gl_48, gl_49, gl_57, gl_59, gl_60, gl_63, gl_70, gl_98, gl_99, gl_100, gl_101, gl_107, gl_109, gl_110, gl_111, gl_116, gl_120, gl_126, gl_155, gl_411, gl_999, gl_1000, gl_1233, gl_1644, gl_100000, gl_m1, nI_eq, nI_leI, nI_ltI, nI_add, nI_clamp, pk_mul, pk_sub, z_in, z_gt, z_bs, z_us, z_un, if_pos, if_neg, if_true, if_false, and_true, true_and, and_self, not_true_eq_false, not_false_eq_true, hk2, gl_1]
    have e := C_take2 (ver := (zdr 1 qk qv qr i (nv, nr)).1) (row := (zdr 1 qk qv qr i (nv, nr)).2) (sh := 1) (v := qv i) (r := qr i) hk1
    rw [e, z_bs, zdr, hk2]
  · rintro n s rfl
    obtain ⟨qk', qv', qr', e, h⟩ := C_shorten (qk := qk) (qv := qv) (qr := qr) hd hq
    refine ⟨qk', qv', qr', ?_, h⟩
    rw [fX4_drainQueue_b51_1]
    simp (disch := omega) only [gl_0, gl_1, gl_2, gl_3, gl_4, gl_5, gl_6, gl_7, gl_8, gl_9, gl_10, gl_11, gl_12, gl_13, gl_14, gl_15, gl_16, gl_17, gl_18, gl_19, gl_20, gl_21, gl_22, gl_23, gl_24, gl_25, gl_26, gl_27, gl_28, gl_29, gl_30, gl_31, gl_32, gl_44, gl_48, gl_49, gl_57, gl_59, gl_60, gl_63, gl_70, gl_98, gl_99, gl_100, gl_101, gl_107, gl_109, gl_110, gl_111, gl_116, gl_120, gl_126, gl_155, gl_411, gl_999, gl_1000, gl_1233, gl_1644, gl_100000, gl_m1, nI_eq, nI_leI, nI_ltI, nI_add, nI_clamp, pk_mul, pk_sub, z_in, z_gt, z_bs, z_us, z_un, if_pos, if_neg, if_true, if_false, and_true, true_and, and_self, not_true_eq_false, not_false_eq_true, e]
theorem M_dr1 (R : RT ss 1 l x lo ov orr nv nr q qk qv qr wr wa wc wk) {m d : Nat} (hm : m ≤ 8) (hd : d = if q < m then q else m) : ∃ ss' row', fX6_drains_b27 2000 (nI m) (nI 0) ss was beg asi sta txt typ att rea got row oth = some (nI (q - d), ss', was, beg, asi, sta, txt, typ, att, rea, got, row', oth) ∧ RT ss' 1 l x lo ov orr (zdr 1 qk qv qr d (nv, nr)).1 (zdr 1 qk qv qr d (nv, nr)).2 (q - d) (fun j => qk (d + j)) (fun j => qv (d + j)) (fun j => qr (d + j)) wr wa wc wk := by
  have hq8 := R.1.2.1
  have hdq : d ≤ q := by rw [hd]; split <;> omega
  have hdm : d ≤ m := by rw [hd]; split <;> omega
  have hdd : m ≤ d ∨ q - d = 0 := by rw [hd]; split <;> omega
  refine z_loop (fun n i (s : (Nat → Int32) × (Nat → Int32)) => fX6_drains_b27 n (nI m) (nI i) s.1 was beg asi sta txt typ att rea got s.2 oth) d (fun d s => RT s.1 1 l x lo ov orr (zdr 1 qk qv qr d (nv, nr)).1 (zdr 1 qk qv qr d (nv, nr)).2 (q - d) (fun j => qk (d + j)) (fun j => qv (d + j)) (fun j => qr (d + j)) wr wa wc wk) (fun o => ∃ ss' row', o = some (nI (q - d), ss', was, beg, asi, sta, txt, typ, att, rea, got, row', oth) ∧ RT ss' 1 l x lo ov orr (zdr 1 qk qv qr d (nv, nr)).1 (zdr 1 qk qv qr d (nv, nr)).2 (q - d) (fun j => qk (d + j)) (fun j => qv (d + j)) (fun j => qr (d + j)) wr wa wc wk) ?_ ?_ 2000 0 (ss, row) (by omega) (by omega) (RT_q R (fun j _ => ⟨by rw [Nat.zero_add], by rw [Nat.zero_add], by rw [Nat.zero_add]⟩))
  · rintro n i ⟨s1, s2⟩ hi h
    dsimp only at h
    have h3 : s1 3 = nI (q - i) := h.2.1.2.2.2.1
    have e1 : q - i = (q - (i + 1)) + 1 := by omega
    rw [e1] at h
    obtain ⟨ss', row', e, b1, b2⟩ := S_drainsOne (was := was) (beg := beg) (asi := asi) (sta := sta) (txt := txt) (typ := typ) (att := att) (rea := rea) (got := got) (row := s2) (oth := oth) h
    refine ⟨(ss', row'), RT_q (b1 rfl) (fun j _ => ⟨by rw [Nat.add_assoc, Nat.add_comm 1 j], by rw [Nat.add_assoc, Nat.add_comm 1 j], by rw [Nat.add_assoc, Nat.add_comm 1 j]⟩), ?_⟩
    rw [fX6_drains_b27]
    simp (disch := omega) only [gl_0, gl_1, gl_2, gl_3, gl_4, gl_5, gl_6, gl_7, gl_8, gl_9, gl_10, gl_11, gl_12, gl_13, gl_14, gl_15, gl_16, gl_17, gl_18, gl_19, gl_20, gl_21, gl_22, gl_23, gl_24, gl_25, gl_26, gl_27, gl_28, gl_29, gl_30, gl_31, gl_32, gl_44, gl_48, gl_49, gl_57, gl_59, gl_60, gl_63, gl_70, gl_98, gl_99, gl_100, gl_101, gl_107, gl_109, gl_110, gl_111, gl_116, gl_120, gl_126, gl_155, gl_411, gl_999, gl_1000, gl_1233, gl_1644, gl_100000, gl_m1, nI_eq, nI_leI, nI_ltI, nI_add, nI_clamp, pk_mul, pk_sub, z_in, z_gt, z_bs, z_us, z_un, if_pos, if_neg, if_true, if_false, and_true, true_and, and_self, not_true_eq_false, not_false_eq_true, h3, e]
  · rintro n ⟨s1, s2⟩ h
    dsimp only at h
    have h3 : s1 3 = nI (q - d) := h.2.1.2.2.2.1
    refine ⟨s1, s2, ?_, h⟩
    rw [fX6_drains_b27]
    rcases hdd with hh | hh
    · simp (disch := omega) only [gl_0, gl_1, gl_2, gl_3, gl_4, gl_5, gl_6, gl_7, gl_8, gl_9, gl_10, gl_11, gl_12, gl_13, gl_14, gl_15, gl_16, gl_17, gl_18, gl_19, gl_20, gl_21, gl_22, gl_23, gl_24, gl_25, gl_26, gl_27, gl_28, gl_29, gl_30, gl_31, gl_32, gl_44, gl_48, gl_49, gl_57, gl_59, gl_60, gl_63, gl_70, gl_98, gl_99, gl_100, gl_101, gl_107, gl_109, gl_110, gl_111, gl_116, gl_120, gl_126, gl_155, gl_411, gl_999, gl_1000, gl_1233, gl_1644, gl_100000, gl_m1, nI_eq, nI_leI, nI_ltI, nI_add, nI_clamp, pk_mul, pk_sub, z_in, z_gt, z_bs, z_us, z_un, if_pos, if_neg, if_true, if_false, and_true, true_and, and_self, not_true_eq_false, not_false_eq_true, h3]
    · by_cases h5 : m ≤ d
      · simp (disch := omega) only [gl_0, gl_1, gl_2, gl_3, gl_4, gl_5, gl_6, gl_7, gl_8, gl_9, gl_10, gl_11, gl_12, gl_13, gl_14, gl_15, gl_16, gl_17, gl_18, gl_19, gl_20, gl_21, gl_22, gl_23, gl_24, gl_25, gl_26, gl_27, gl_28, gl_29, gl_30, gl_31, gl_32, gl_44, gl_48, gl_49, gl_57, gl_59, gl_60, gl_63, gl_70, gl_98, gl_99, gl_100, gl_101, gl_107, gl_109, gl_110, gl_111, gl_116, gl_120, gl_126, gl_155, gl_411, gl_999, gl_1000, gl_1233, gl_1644, gl_100000, gl_m1, nI_eq, nI_leI, nI_ltI, nI_add, nI_clamp, pk_mul, pk_sub, z_in, z_gt, z_bs, z_us, z_un, if_pos, if_neg, if_true, if_false, and_true, true_and, and_self, not_true_eq_false, not_false_eq_true, h3]
      · simp (disch := omega) only [gl_0, gl_1, gl_2, gl_3, gl_4, gl_5, gl_6, gl_7, gl_8, gl_9, gl_10, gl_11, gl_12, gl_13, gl_14, gl_15, gl_16, gl_17, gl_18, gl_19, gl_20, gl_21, gl_22, gl_23, gl_24, gl_25, gl_26, gl_27, gl_28, gl_29, gl_30, gl_31, gl_32, gl_44, gl_48, gl_49, gl_57, gl_59, gl_60, gl_63, gl_70, gl_98, gl_99, gl_100, gl_101, gl_107, gl_109, gl_110, gl_111, gl_116, gl_120, gl_126, gl_155, gl_411, gl_999, gl_1000, gl_1233, gl_1644, gl_100000, gl_m1, nI_eq, nI_leI, nI_ltI, nI_add, nI_clamp, pk_mul, pk_sub, z_in, z_gt, z_bs, z_us, z_un, if_pos, if_neg, if_true, if_false, and_true, true_and, and_self, not_true_eq_false, not_false_eq_true, h3]
theorem C_dr0 {ph la po : Int32} {d : Nat} (hd : d ≤ q) (hq : q ≤ 8) (hk : ∀ i, i < q → ∃ k, k < 31 ∧ qk i = nI k) : ∃ qk' qv' qr', fX4_drainQueue_b51 2000 (nI d) (nI 0) ph la po lo ov orr nv nr (nI q) qk qv qr wr wa wc wk = some (nI (q - d), ph, la, po, lo, (zdr 0 qk qv qr d (ov, orr)).1, (zdr 0 qk qv qr d (ov, orr)).2, nv, nr, nI (q - d), qk', qv', qr', wr, wa, wc, wk) ∧ ∀ j, j < q - d → qk' j = qk (d + j) ∧ qv' j = qv (d + j) ∧ qr' j = qr (d + j) := by
  refine z_loop (fun n i (s : (Nat → Int32) × (Nat → Int32)) => fX4_drainQueue_b51 n (nI d) (nI i) ph la po lo s.1 s.2 nv nr (nI q) qk qv qr wr wa wc wk) d (fun i s => s = zdr 0 qk qv qr i (ov, orr)) (fun o => ∃ qk' qv' qr', o = some (nI (q - d), ph, la, po, lo, (zdr 0 qk qv qr d (ov, orr)).1, (zdr 0 qk qv qr d (ov, orr)).2, nv, nr, nI (q - d), qk', qv', qr', wr, wa, wc, wk) ∧ ∀ j, j < q - d → qk' j = qk (d + j) ∧ qv' j = qv (d + j) ∧ qr' j = qr (d + j)) ?_ ?_ 2000 0 (ov, orr) (by omega) (by omega) rfl
  · rintro n i s hi rfl
    obtain ⟨k, hk1, hk2⟩ := hk i (by omega)
    refine ⟨_, rfl, ?_⟩
    rw [fX4_drainQueue_b51]
    simp (disch := omega) only [gl_0, gl_1, gl_2, gl_3, gl_4, gl_5, gl_6, gl_7, gl_8, gl_9, gl_10, gl_11, gl_12, gl_13, gl_14, gl_15, gl_16, gl_17, gl_18, gl_19, gl_20, gl_21, gl_22, gl_23, gl_24, gl_25, gl_26, gl_27, gl_28, gl_29, gl_30, gl_31, gl_32, gl_44, gl_48, gl_49, gl_57, gl_59, gl_60, gl_63, gl_70, gl_98, gl_99, gl_100, gl_101, gl_107, gl_109, gl_110, gl_111, gl_116, gl_120, gl_126, gl_155, gl_411, gl_999, gl_1000, gl_1233, gl_1644, gl_100000, gl_m1, nI_eq, nI_leI, nI_ltI, nI_add, nI_clamp, pk_mul, pk_sub, z_in, z_gt, z_bs, z_us, z_un, if_pos, if_neg, if_true, if_false, and_true, true_and, and_self, not_true_eq_false, not_false_eq_true, hk2, gl_0]
    have e := C_take2 (ver := (zdr 0 qk qv qr i (ov, orr)).1) (row := (zdr 0 qk qv qr i (ov, orr)).2) (sh := 0) (v := qv i) (r := qr i) hk1
    rw [e, z_bs, zdr, hk2]
  · rintro n s rfl
    obtain ⟨qk', qv', qr', e, h⟩ := C_shorten (qk := qk) (qv := qv) (qr := qr) hd hq
    refine ⟨qk', qv', qr', ?_, h⟩
    rw [fX4_drainQueue_b51]
    simp (disch := omega) only [gl_0, gl_1, gl_2, gl_3, gl_4, gl_5, gl_6, gl_7, gl_8, gl_9, gl_10, gl_11, gl_12, gl_13, gl_14, gl_15, gl_16, gl_17, gl_18, gl_19, gl_20, gl_21, gl_22, gl_23, gl_24, gl_25, gl_26, gl_27, gl_28, gl_29, gl_30, gl_31, gl_32, gl_44, gl_48, gl_49, gl_57, gl_59, gl_60, gl_63, gl_70, gl_98, gl_99, gl_100, gl_101, gl_107, gl_109, gl_110, gl_111, gl_116, gl_120, gl_126, gl_155, gl_411, gl_999, gl_1000, gl_1233, gl_1644, gl_100000, gl_m1, nI_eq, nI_leI, nI_ltI, nI_add, nI_clamp, pk_mul, pk_sub, z_in, z_gt, z_bs, z_us, z_un, if_pos, if_neg, if_true, if_false, and_true, true_and, and_self, not_true_eq_false, not_false_eq_true, e]
theorem M_dr0 (R : RT ss 2 l x lo ov orr nv nr q qk qv qr wr wa wc wk) {m d : Nat} (hm : m ≤ 8) (hd : d = if q < m then q else m) : ∃ ss' row', fX6_drains_b27 2000 (nI m) (nI 0) ss was beg asi sta txt typ att rea got row oth = some (nI (q - d), ss', was, beg, asi, sta, txt, typ, att, rea, got, row', oth) ∧ RT ss' 2 l x lo (zdr 0 qk qv qr d (ov, orr)).1 (zdr 0 qk qv qr d (ov, orr)).2 nv nr (q - d) (fun j => qk (d + j)) (fun j => qv (d + j)) (fun j => qr (d + j)) wr wa wc wk := by
  have hq8 := R.1.2.1
  have hdq : d ≤ q := by rw [hd]; split <;> omega
  have hdm : d ≤ m := by rw [hd]; split <;> omega
  have hdd : m ≤ d ∨ q - d = 0 := by rw [hd]; split <;> omega
  refine z_loop (fun n i (s : (Nat → Int32) × (Nat → Int32)) => fX6_drains_b27 n (nI m) (nI i) s.1 was beg asi sta txt typ att rea got s.2 oth) d (fun d s => RT s.1 2 l x lo (zdr 0 qk qv qr d (ov, orr)).1 (zdr 0 qk qv qr d (ov, orr)).2 nv nr (q - d) (fun j => qk (d + j)) (fun j => qv (d + j)) (fun j => qr (d + j)) wr wa wc wk) (fun o => ∃ ss' row', o = some (nI (q - d), ss', was, beg, asi, sta, txt, typ, att, rea, got, row', oth) ∧ RT ss' 2 l x lo (zdr 0 qk qv qr d (ov, orr)).1 (zdr 0 qk qv qr d (ov, orr)).2 nv nr (q - d) (fun j => qk (d + j)) (fun j => qv (d + j)) (fun j => qr (d + j)) wr wa wc wk) ?_ ?_ 2000 0 (ss, row) (by omega) (by omega) (RT_q R (fun j _ => ⟨by rw [Nat.zero_add], by rw [Nat.zero_add], by rw [Nat.zero_add]⟩))
  · rintro n i ⟨s1, s2⟩ hi h
    dsimp only at h
    have h3 : s1 3 = nI (q - i) := h.2.1.2.2.2.1
    have e1 : q - i = (q - (i + 1)) + 1 := by omega
    rw [e1] at h
    obtain ⟨ss', row', e, b1, b2⟩ := S_drainsOne (was := was) (beg := beg) (asi := asi) (sta := sta) (txt := txt) (typ := typ) (att := att) (rea := rea) (got := got) (row := s2) (oth := oth) h
    refine ⟨(ss', row'), RT_q (b2 rfl) (fun j _ => ⟨by rw [Nat.add_assoc, Nat.add_comm 1 j], by rw [Nat.add_assoc, Nat.add_comm 1 j], by rw [Nat.add_assoc, Nat.add_comm 1 j]⟩), ?_⟩
    rw [fX6_drains_b27]
    simp (disch := omega) only [gl_0, gl_1, gl_2, gl_3, gl_4, gl_5, gl_6, gl_7, gl_8, gl_9, gl_10, gl_11, gl_12, gl_13, gl_14, gl_15, gl_16, gl_17, gl_18, gl_19, gl_20, gl_21, gl_22, gl_23, gl_24, gl_25, gl_26, gl_27, gl_28, gl_29, gl_30, gl_31, gl_32, gl_44, gl_48, gl_49, gl_57, gl_59, gl_60, gl_63, gl_70, gl_98, gl_99, gl_100, gl_101, gl_107, gl_109, gl_110, gl_111, gl_116, gl_120, gl_126, gl_155, gl_411, gl_999, gl_1000, gl_1233, gl_1644, gl_100000, gl_m1, nI_eq, nI_leI, nI_ltI, nI_add, nI_clamp, pk_mul, pk_sub, z_in, z_gt, z_bs, z_us, z_un, if_pos, if_neg, if_true, if_false, and_true, true_and, and_self, not_true_eq_false, not_false_eq_true, h3, e]
  · rintro n ⟨s1, s2⟩ h
    dsimp only at h
    have h3 : s1 3 = nI (q - d) := h.2.1.2.2.2.1
    refine ⟨s1, s2, ?_, h⟩
    rw [fX6_drains_b27]
    rcases hdd with hh | hh
    · simp (disch := omega) only [gl_0, gl_1, gl_2, gl_3, gl_4, gl_5, gl_6, gl_7, gl_8, gl_9, gl_10, gl_11, gl_12, gl_13, gl_14, gl_15, gl_16, gl_17, gl_18, gl_19, gl_20, gl_21, gl_22, gl_23, gl_24, gl_25, gl_26, gl_27, gl_28, gl_29, gl_30, gl_31, gl_32, gl_44, gl_48, gl_49, gl_57, gl_59, gl_60, gl_63, gl_70, gl_98, gl_99, gl_100, gl_101, gl_107, gl_109, gl_110, gl_111, gl_116, gl_120, gl_126, gl_155, gl_411, gl_999, gl_1000, gl_1233, gl_1644, gl_100000, gl_m1, nI_eq, nI_leI, nI_ltI, nI_add, nI_clamp, pk_mul, pk_sub, z_in, z_gt, z_bs, z_us, z_un, if_pos, if_neg, if_true, if_false, and_true, true_and, and_self, not_true_eq_false, not_false_eq_true, h3]
    · by_cases h5 : m ≤ d
      · simp (disch := omega) only [gl_0, gl_1, gl_2, gl_3, gl_4, gl_5, gl_6, gl_7, gl_8, gl_9, gl_10, gl_11, gl_12, gl_13, gl_14, gl_15, gl_16, gl_17, gl_18, gl_19, gl_20, gl_21, gl_22, gl_23, gl_24, gl_25, gl_26, gl_27, gl_28, gl_29, gl_30, gl_31, gl_32, gl_44, gl_48, gl_49, gl_57, gl_59, gl_60, gl_63, gl_70, gl_98, gl_99, gl_100, gl_101, gl_107, gl_109, gl_110, gl_111, gl_116, gl_120, gl_126, gl_155, gl_411, gl_999, gl_1000, gl_1233, gl_1644, gl_100000, gl_m1, nI_eq, nI_leI, nI_ltI, nI_add, nI_clamp, pk_mul, pk_sub, z_in, z_gt, z_bs, z_us, z_un, if_pos, if_neg, if_true, if_false, and_true, true_and, and_self, not_true_eq_false, not_false_eq_true, h3]
      · simp (disch := omega) only [gl_0, gl_1, gl_2, gl_3, gl_4, gl_5, gl_6, gl_7, gl_8, gl_9, gl_10, gl_11, gl_12, gl_13, gl_14, gl_15, gl_16, gl_17, gl_18, gl_19, gl_20, gl_21, gl_22, gl_23, gl_24, gl_25, gl_26, gl_27, gl_28, gl_29, gl_30, gl_31, gl_32, gl_44, gl_48, gl_49, gl_57, gl_59, gl_60, gl_63, gl_70, gl_98, gl_99, gl_100, gl_101, gl_107, gl_109, gl_110, gl_111, gl_116, gl_120, gl_126, gl_155, gl_411, gl_999, gl_1000, gl_1233, gl_1644, gl_100000, gl_m1, nI_eq, nI_leI, nI_ltI, nI_add, nI_clamp, pk_mul, pk_sub, z_in, z_gt, z_bs, z_us, z_un, if_pos, if_neg, if_true, if_false, and_true, true_and, and_self, not_true_eq_false, not_false_eq_true, h3]
theorem RT_keys (R : RT ss p l x lo ov orr nv nr q qk qv qr wr wa wc wk) : ∀ i, i < q → ∃ k, k < 31 ∧ qk i = nI k := fun i hi => (R.2.2.2.2.1 i hi).2.2.2.2.2.2.1
theorem S_drains (R : RT ss p l x lo ov orr nv nr q qk qv qr wr wa wc wk) (y : Int32) : OpOK was beg asi sta txt typ att rea got (nI p, nI l, nI x, lo, ov, orr, nv, nr, nI q, qk, qv, qr, wr, wa, wc, wk) (fX4_drainQueue y (nI p) (nI l) (nI x) lo ov orr nv nr (nI q) qk qv qr wr wa wc wk) (fX6_drains y ss was beg asi sta txt typ att rea got row oth) := by
  have hp := R.1.1
  have hq := R.1.2.1
  have hqp := R.1.2.2.2.2
  have h3 : ss 3 = nI q := R.2.1.2.2.2.1
  unfold fX4_drainQueue fX6_drains
  by_cases hy : y < nI 1 ∨ nI (8 + 1) ≤ y
  · refine S_bad (row := row) (oth := oth) R ?_ (by simp only [gl_0, gl_1, gl_2, gl_3, gl_4, gl_5, gl_6, gl_7, gl_8, gl_9, gl_10, gl_11, gl_12, gl_13, gl_14, gl_15, gl_16, gl_17, gl_18, gl_19, gl_20, gl_21, gl_22, gl_23, gl_24, gl_25, gl_26, gl_27, gl_28, gl_29, gl_30, gl_31, gl_32, gl_44, gl_48, gl_49, gl_57, gl_59, gl_60, gl_63, gl_70, gl_98, gl_99, gl_100, gl_101, gl_107, gl_109, gl_110, gl_111, gl_116, gl_120, gl_126, gl_155, gl_411, gl_999, gl_1000, gl_1233, gl_1644, gl_100000, gl_m1]; rw [zin1_out (by omega) hy, z_bs, if_pos rfl])
    simp only [gl_0, gl_1, gl_2, gl_3, gl_4, gl_5, gl_6, gl_7, gl_8, gl_9, gl_10, gl_11, gl_12, gl_13, gl_14, gl_15, gl_16, gl_17, gl_18, gl_19, gl_20, gl_21, gl_22, gl_23, gl_24, gl_25, gl_26, gl_27, gl_28, gl_29, gl_30, gl_31, gl_32, gl_44, gl_48, gl_49, gl_57, gl_59, gl_60, gl_63, gl_70, gl_98, gl_99, gl_100, gl_101, gl_107, gl_109, gl_110, gl_111, gl_116, gl_120, gl_126, gl_155, gl_411, gl_999, gl_1000, gl_1233, gl_1644, gl_100000, gl_m1]
    rcases hy with hy | hy
    · rw [if_pos hy]
    · by_cases h0 : y < nI 1
      · rw [if_pos h0]
      · rw [if_neg h0, if_neg (Int32.not_le.2 (zlt_of (by omega) hy))]
  have hm : ∃ m, 1 ≤ m ∧ m ≤ 8 ∧ y = nI m := by
    have hy2 := pk_ix y (n := 9) (by omega)
    rcases hy2 with h | h | ⟨m, h, rfl, -⟩
    · exact absurd (Or.inl (Int32.lt_trans h (by decide))) hy
    · exact absurd (Or.inr h) hy
    · refine ⟨m, ?_, by omega, rfl⟩
      rcases Nat.eq_zero_or_pos m with h0 | h0
      · subst h0; exact absurd (Or.inl (by decide)) hy
      · exact h0
  obtain ⟨m, hm1, hm8, rfl⟩ := hm
  by_cases hq0 : q = 0
  · subst hq0
    exact S_no (row' := row) (oth' := oth) R (by simp (disch := omega) only [gl_0, gl_1, gl_2, gl_3, gl_4, gl_5, gl_6, gl_7, gl_8, gl_9, gl_10, gl_11, gl_12, gl_13, gl_14, gl_15, gl_16, gl_17, gl_18, gl_19, gl_20, gl_21, gl_22, gl_23, gl_24, gl_25, gl_26, gl_27, gl_28, gl_29, gl_30, gl_31, gl_32, gl_44, gl_48, gl_49, gl_57, gl_59, gl_60, gl_63, gl_70, gl_98, gl_99, gl_100, gl_101, gl_107, gl_109, gl_110, gl_111, gl_116, gl_120, gl_126, gl_155, gl_411, gl_999, gl_1000, gl_1233, gl_1644, gl_100000, gl_m1, nI_eq, nI_leI, nI_ltI, nI_add, nI_clamp, pk_mul, pk_sub, z_in, z_gt, z_bs, z_us, z_un, if_pos, if_neg, if_true, if_false, and_true, true_and, and_self, not_true_eq_false, not_false_eq_true]) (by simp only [gl_0, gl_1, gl_2, gl_3, gl_4, gl_5, gl_6, gl_7, gl_8, gl_9, gl_10, gl_11, gl_12, gl_13, gl_14, gl_15, gl_16, gl_17, gl_18, gl_19, gl_20, gl_21, gl_22, gl_23, gl_24, gl_25, gl_26, gl_27, gl_28, gl_29, gl_30, gl_31, gl_32, gl_44, gl_48, gl_49, gl_57, gl_59, gl_60, gl_63, gl_70, gl_98, gl_99, gl_100, gl_101, gl_107, gl_109, gl_110, gl_111, gl_116, gl_120, gl_126, gl_155, gl_411, gl_999, gl_1000, gl_1233, gl_1644, gl_100000, gl_m1]; rw [zin1_in hm1 hm8 (by omega)]; simp (disch := omega) only [gl_0, gl_1, gl_2, gl_3, gl_4, gl_5, gl_6, gl_7, gl_8, gl_9, gl_10, gl_11, gl_12, gl_13, gl_14, gl_15, gl_16, gl_17, gl_18, gl_19, gl_20, gl_21, gl_22, gl_23, gl_24, gl_25, gl_26, gl_27, gl_28, gl_29, gl_30, gl_31, gl_32, gl_44, gl_48, gl_49, gl_57, gl_59, gl_60, gl_63, gl_70, gl_98, gl_99, gl_100, gl_101, gl_107, gl_109, gl_110, gl_111, gl_116, gl_120, gl_126, gl_155, gl_411, gl_999, gl_1000, gl_1233, gl_1644, gl_100000, gl_m1, nI_eq, nI_leI, nI_ltI, nI_add, nI_clamp, pk_mul, pk_sub, z_in, z_gt, z_bs, z_us, z_un, if_pos, if_neg, if_true, if_false, and_true, true_and, and_self, not_true_eq_false, not_false_eq_true, h3])
  have hmin : (if nI q < nI m then nI q else nI m : Int32) = nI (if q < m then q else m) := by
    by_cases h : q < m
    · rw [if_pos h, if_pos ((nI_ltI (by omega) (by omega)).2 h)]
    · rw [if_neg h, if_neg (fun h' => h ((nI_ltI (by omega) (by omega)).1 h'))]
  have hdq : (if q < m then q else m) ≤ q := by split <;> omega
  have ha : zans (nI (q - if q < m then q else m)) := zans_n (by omega)
  rcases hqp hq0 with rfl | rfl
  · obtain ⟨qk', qv', qr', ec, hc⟩ := C_dr1 (ph := nI 1) (la := nI l) (po := nI x) (lo := lo) (ov := ov) (orr := orr) (nv := nv) (nr := nr) (qv := qv) (qr := qr) (wr := wr) (wa := wa) (wc := wc) (wk := wk) hdq hq (RT_keys R)
    obtain ⟨ss', row', em, hR⟩ := M_dr1 (was := was) (beg := beg) (asi := asi) (sta := sta) (txt := txt) (typ := typ) (att := att) (rea := rea) (got := got) (row := row) (oth := oth) R hm8 rfl
    refine ⟨nI (q - if q < m then q else m), 1, l, x, _, lo, ov, orr, _, _, qk', qv', qr', wr, wa, wc, wk, ss', row', oth, ?_, ?_, RT_q hR (fun j hj => hc j hj), Or.inl ha⟩
    · have z0 : zsec 1 = 1 := rfl
      simp only [gl_0, gl_1, gl_2, gl_3, gl_4, gl_5, gl_6, gl_7, gl_8, gl_9, gl_10, gl_11, gl_12, gl_13, gl_14, gl_15, gl_16, gl_17, gl_18, gl_19, gl_20, gl_21, gl_22, gl_23, gl_24, gl_25, gl_26, gl_27, gl_28, gl_29, gl_30, gl_31, gl_32, gl_44, gl_48, gl_49, gl_57, gl_59, gl_60, gl_63, gl_70, gl_98, gl_99, gl_100, gl_101, gl_107, gl_109, gl_110, gl_111, gl_116, gl_120, gl_126, gl_155, gl_411, gl_999, gl_1000, gl_1233, gl_1644, gl_100000, gl_m1]
      rw [hmin]
      simp (disch := omega) only [gl_0, gl_1, gl_2, gl_3, gl_4, gl_5, gl_6, gl_7, gl_8, gl_9, gl_10, gl_11, gl_12, gl_13, gl_14, gl_15, gl_16, gl_17, gl_18, gl_19, gl_20, gl_21, gl_22, gl_23, gl_24, gl_25, gl_26, gl_27, gl_28, gl_29, gl_30, gl_31, gl_32, gl_44, gl_48, gl_49, gl_57, gl_59, gl_60, gl_63, gl_70, gl_98, gl_99, gl_100, gl_101, gl_107, gl_109, gl_110, gl_111, gl_116, gl_120, gl_126, gl_155, gl_411, gl_999, gl_1000, gl_1233, gl_1644, gl_100000, gl_m1, nI_eq, nI_leI, nI_ltI, C_second (show 1 ≤ 3 by omega), z0, C_shape (show 1 < 2 by omega), z_bs, if_neg, if_pos]
      exact ec
    · simp only [gl_0, gl_1, gl_2, gl_3, gl_4, gl_5, gl_6, gl_7, gl_8, gl_9, gl_10, gl_11, gl_12, gl_13, gl_14, gl_15, gl_16, gl_17, gl_18, gl_19, gl_20, gl_21, gl_22, gl_23, gl_24, gl_25, gl_26, gl_27, gl_28, gl_29, gl_30, gl_31, gl_32, gl_44, gl_48, gl_49, gl_57, gl_59, gl_60, gl_63, gl_70, gl_98, gl_99, gl_100, gl_101, gl_107, gl_109, gl_110, gl_111, gl_116, gl_120, gl_126, gl_155, gl_411, gl_999, gl_1000, gl_1233, gl_1644, gl_100000, gl_m1]
      rw [zin1_in hm1 hm8 (by omega)]
      simp (disch := omega) only [gl_0, gl_1, gl_2, gl_3, gl_4, gl_5, gl_6, gl_7, gl_8, gl_9, gl_10, gl_11, gl_12, gl_13, gl_14, gl_15, gl_16, gl_17, gl_18, gl_19, gl_20, gl_21, gl_22, gl_23, gl_24, gl_25, gl_26, gl_27, gl_28, gl_29, gl_30, gl_31, gl_32, gl_44, gl_48, gl_49, gl_57, gl_59, gl_60, gl_63, gl_70, gl_98, gl_99, gl_100, gl_101, gl_107, gl_109, gl_110, gl_111, gl_116, gl_120, gl_126, gl_155, gl_411, gl_999, gl_1000, gl_1233, gl_1644, gl_100000, gl_m1, nI_eq, nI_leI, nI_ltI, nI_add, nI_clamp, pk_mul, pk_sub, z_in, z_gt, z_bs, z_us, z_un, if_pos, if_neg, if_true, if_false, and_true, true_and, and_self, not_true_eq_false, not_false_eq_true, h3]
      exact em
  · obtain ⟨qk', qv', qr', ec, hc⟩ := C_dr0 (ph := nI 2) (la := nI l) (po := nI x) (lo := lo) (ov := ov) (orr := orr) (nv := nv) (nr := nr) (qv := qv) (qr := qr) (wr := wr) (wa := wa) (wc := wc) (wk := wk) hdq hq (RT_keys R)
    obtain ⟨ss', row', em, hR⟩ := M_dr0 (was := was) (beg := beg) (asi := asi) (sta := sta) (txt := txt) (typ := typ) (att := att) (rea := rea) (got := got) (row := row) (oth := oth) R hm8 rfl
    refine ⟨nI (q - if q < m then q else m), 2, l, x, _, lo, _, _, nv, nr, qk', qv', qr', wr, wa, wc, wk, ss', row', oth, ?_, ?_, RT_q hR (fun j hj => hc j hj), Or.inl ha⟩
    · have z0 : zsec 2 = 0 := rfl
      simp only [gl_0, gl_1, gl_2, gl_3, gl_4, gl_5, gl_6, gl_7, gl_8, gl_9, gl_10, gl_11, gl_12, gl_13, gl_14, gl_15, gl_16, gl_17, gl_18, gl_19, gl_20, gl_21, gl_22, gl_23, gl_24, gl_25, gl_26, gl_27, gl_28, gl_29, gl_30, gl_31, gl_32, gl_44, gl_48, gl_49, gl_57, gl_59, gl_60, gl_63, gl_70, gl_98, gl_99, gl_100, gl_101, gl_107, gl_109, gl_110, gl_111, gl_116, gl_120, gl_126, gl_155, gl_411, gl_999, gl_1000, gl_1233, gl_1644, gl_100000, gl_m1]
      rw [hmin]
      simp (disch := omega) only [gl_0, gl_1, gl_2, gl_3, gl_4, gl_5, gl_6, gl_7, gl_8, gl_9, gl_10, gl_11, gl_12, gl_13, gl_14, gl_15, gl_16, gl_17, gl_18, gl_19, gl_20, gl_21, gl_22, gl_23, gl_24, gl_25, gl_26, gl_27, gl_28, gl_29, gl_30, gl_31, gl_32, gl_44, gl_48, gl_49, gl_57, gl_59, gl_60, gl_63, gl_70, gl_98, gl_99, gl_100, gl_101, gl_107, gl_109, gl_110, gl_111, gl_116, gl_120, gl_126, gl_155, gl_411, gl_999, gl_1000, gl_1233, gl_1644, gl_100000, gl_m1, nI_eq, nI_leI, nI_ltI, C_second (show 2 ≤ 3 by omega), z0, C_shape (show 0 < 2 by omega), z_bs, if_neg, if_pos]
      exact ec
    · simp only [gl_0, gl_1, gl_2, gl_3, gl_4, gl_5, gl_6, gl_7, gl_8, gl_9, gl_10, gl_11, gl_12, gl_13, gl_14, gl_15, gl_16, gl_17, gl_18, gl_19, gl_20, gl_21, gl_22, gl_23, gl_24, gl_25, gl_26, gl_27, gl_28, gl_29, gl_30, gl_31, gl_32, gl_44, gl_48, gl_49, gl_57, gl_59, gl_60, gl_63, gl_70, gl_98, gl_99, gl_100, gl_101, gl_107, gl_109, gl_110, gl_111, gl_116, gl_120, gl_126, gl_155, gl_411, gl_999, gl_1000, gl_1233, gl_1644, gl_100000, gl_m1]
      rw [zin1_in hm1 hm8 (by omega)]
      simp (disch := omega) only [gl_0, gl_1, gl_2, gl_3, gl_4, gl_5, gl_6, gl_7, gl_8, gl_9, gl_10, gl_11, gl_12, gl_13, gl_14, gl_15, gl_16, gl_17, gl_18, gl_19, gl_20, gl_21, gl_22, gl_23, gl_24, gl_25, gl_26, gl_27, gl_28, gl_29, gl_30, gl_31, gl_32, gl_44, gl_48, gl_49, gl_57, gl_59, gl_60, gl_63, gl_70, gl_98, gl_99, gl_100, gl_101, gl_107, gl_109, gl_110, gl_111, gl_116, gl_120, gl_126, gl_155, gl_411, gl_999, gl_1000, gl_1233, gl_1644, gl_100000, gl_m1, nI_eq, nI_leI, nI_ltI, nI_add, nI_clamp, pk_mul, pk_sub, z_in, z_gt, z_bs, z_us, z_un, if_pos, if_neg, if_true, if_false, and_true, true_and, and_self, not_true_eq_false, not_false_eq_true, h3]
      exact em
end MD12
