/-! changes: what was before, and the states recorded -/
def Acted (s0 was : Nat → Int32) (s : Nat) (was' : Nat → Int32) (s' : Nat) : Prop := (s < 4 ∧ s' = s + 1 ∧ (∀ i, i < 411 → was' (411 * s + i) = s0 i) ∧ ∀ j, j < 411 * s → was' j = was j) ∨ (s = 4 ∧ s' = 4 ∧ (∀ i, i < 411 → was' (1233 + i) = s0 i) ∧ ∀ j, j < 1233 → was' j = was (j + 411))
theorem Acted_le {s0 was was' : Nat → Int32} {s s' : Nat} (h : Acted s0 was s was' s') : s' ≤ 4 := by
  rcases h with ⟨h1, h2, _⟩ | ⟨h1, h2, _⟩ <;> omega
theorem zerr_le {r : Int32} (h : zerr r) : r ≤ -1000001 := by
  rcases h with rfl | rfl | rfl | rfl <;> decide
theorem zerr_lt {r : Int32} (h : zerr r) : r < 0 := by
  rcases h with rfl | rfl | rfl | rfl <;> decide
theorem zans_gt {r : Int32} (h : zans r) : ¬ r ≤ -1000001 := by
  obtain ⟨n, hn, rfl⟩ := h
  rw [Int32.le_iff_toInt_le, nI_toInt (by omega), show (-1000001 : Int32).toInt = -1000001 by decide]
  omega
theorem zans_ge {r : Int32} (h : zans r) : ¬ r < 0 := by
  obtain ⟨n, hn, rfl⟩ := h
  exact nI_pos (by omega)
section MD15
variable {ss was beg asi : Nat → Int32} {sta : Int32} {txt : Nat → Int32} {typ att rea : Int32} {got row oth : Nat → Int32}
theorem M_keeps : ∃ beg', fX6_keeps ss was beg asi sta txt typ att rea got row oth = some (ss, was, beg', asi, sta, txt, typ, att, rea, got, row, oth) ∧ ∀ i, i < 411 → beg' i = ss i := by
  unfold fX6_keeps
  rw [show (0 : Int32) = nI 0 from gl_0]
  refine z_loop (fun n i (s' : Nat → Int32) => fX6_keeps_b2 n (nI i) ss was s' asi sta txt typ att rea got row oth) 411 (fun i s' => ∀ j, j < i → s' j = ss j) (fun o => ∃ beg', o = some (ss, was, beg', asi, sta, txt, typ, att, rea, got, row, oth) ∧ ∀ i, i < 411 → beg' i = ss i) ?_ ?_ 2000 0 beg (by omega) (by omega) (fun j h => absurd h (by omega))
  · rintro n i s' hi h
    refine ⟨upd s' i (ss i), fun j hj => ?_, ?_⟩
    · by_cases hji : j = i
      · subst hji; exact z_us
      · rw [z_un hji]; exact h j (by omega)
    · rw [fX6_keeps_b2]
      simp (disch := omega) only [gl_0, gl_1, gl_2, gl_3, gl_4, gl_5, gl_6, gl_7, gl_8, gl_9, gl_10, gl_11, gl_12, gl_13, gl_14, gl_15, gl_16, gl_17, gl_18, gl_19, gl_20, gl_21, gl_22, gl_23, gl_24, gl_25, gl_26, gl_27, gl_28, gl_29, gl_30, gl_31, gl_32, gl_44, gl_48, gl_49, gl_57, gl_59, gl_60, gl_63, gl_70, gl_98, gl_99, gl_100, gl_101, gl_107, gl_109, gl_110, gl_111, gl_116, gl_120, gl_126, gl_155, gl_411, gl_999, gl_1000, gl_1233, gl_1644, gl_100000, gl_m1, nI_eq, nI_leI, nI_ltI, nI_add, nI_clamp, pk_mul, pk_sub, z_in, z_gt, z_bs, z_us, z_un, if_pos, if_neg, if_true, if_false, and_true, true_and, and_self, not_true_eq_false, not_false_eq_true]
  · rintro n s' h
    refine ⟨s', ?_, h⟩
    rw [fX6_keeps_b2]
    simp (disch := omega) only [gl_0, gl_1, gl_2, gl_3, gl_4, gl_5, gl_6, gl_7, gl_8, gl_9, gl_10, gl_11, gl_12, gl_13, gl_14, gl_15, gl_16, gl_17, gl_18, gl_19, gl_20, gl_21, gl_22, gl_23, gl_24, gl_25, gl_26, gl_27, gl_28, gl_29, gl_30, gl_31, gl_32, gl_44, gl_48, gl_49, gl_57, gl_59, gl_60, gl_63, gl_70, gl_98, gl_99, gl_100, gl_101, gl_107, gl_109, gl_110, gl_111, gl_116, gl_120, gl_126, gl_155, gl_411, gl_999, gl_1000, gl_1233, gl_1644, gl_100000, gl_m1, nI_eq, nI_leI, nI_ltI, nI_add, nI_clamp, pk_mul, pk_sub, z_in, z_gt, z_bs, z_us, z_un, if_pos, if_neg, if_true, if_false, and_true, true_and, and_self, not_true_eq_false, not_false_eq_true]
theorem M_restores : ∃ ss', fX6_restores ss was beg asi sta txt typ att rea got row oth = some (ss', was, beg, asi, sta, txt, typ, att, rea, got, row, oth) ∧ ∀ i, i < 411 → ss' i = asi i := by
  unfold fX6_restores
  rw [show (0 : Int32) = nI 0 from gl_0]
  refine z_loop (fun n i (s' : Nat → Int32) => fX6_restores_b2 n (nI i) s' was beg asi sta txt typ att rea got row oth) 411 (fun i s' => ∀ j, j < i → s' j = asi j) (fun o => ∃ ss', o = some (ss', was, beg, asi, sta, txt, typ, att, rea, got, row, oth) ∧ ∀ i, i < 411 → ss' i = asi i) ?_ ?_ 2000 0 ss (by omega) (by omega) (fun j h => absurd h (by omega))
  · rintro n i s' hi h
    refine ⟨upd s' i (asi i), fun j hj => ?_, ?_⟩
    · by_cases hji : j = i
      · subst hji; exact z_us
      · rw [z_un hji]; exact h j (by omega)
    · rw [fX6_restores_b2]
      simp (disch := omega) only [gl_0, gl_1, gl_2, gl_3, gl_4, gl_5, gl_6, gl_7, gl_8, gl_9, gl_10, gl_11, gl_12, gl_13, gl_14, gl_15, gl_16, gl_17, gl_18, gl_19, gl_20, gl_21, gl_22, gl_23, gl_24, gl_25, gl_26, gl_27, gl_28, gl_29, gl_30, gl_31, gl_32, gl_44, gl_48, gl_49, gl_57, gl_59, gl_60, gl_63, gl_70, gl_98, gl_99, gl_100, gl_101, gl_107, gl_109, gl_110, gl_111, gl_116, gl_120, gl_126, gl_155, gl_411, gl_999, gl_1000, gl_1233, gl_1644, gl_100000, gl_m1, nI_eq, nI_leI, nI_ltI, nI_add, nI_clamp, pk_mul, pk_sub, z_in, z_gt, z_bs, z_us, z_un, if_pos, if_neg, if_true, if_false, and_true, true_and, and_self, not_true_eq_false, not_false_eq_true]
  · rintro n s' h
    refine ⟨s', ?_, h⟩
    rw [fX6_restores_b2]
    simp (disch := omega) only [gl_0, gl_1, gl_2, gl_3, gl_4, gl_5, gl_6, gl_7, gl_8, gl_9, gl_10, gl_11, gl_12, gl_13, gl_14, gl_15, gl_16, gl_17, gl_18, gl_19, gl_20, gl_21, gl_22, gl_23, gl_24, gl_25, gl_26, gl_27, gl_28, gl_29, gl_30, gl_31, gl_32, gl_44, gl_48, gl_49, gl_57, gl_59, gl_60, gl_63, gl_70, gl_98, gl_99, gl_100, gl_101, gl_107, gl_109, gl_110, gl_111, gl_116, gl_120, gl_126, gl_155, gl_411, gl_999, gl_1000, gl_1233, gl_1644, gl_100000, gl_m1, nI_eq, nI_leI, nI_ltI, nI_add, nI_clamp, pk_mul, pk_sub, z_in, z_gt, z_bs, z_us, z_un, if_pos, if_neg, if_true, if_false, and_true, true_and, and_self, not_true_eq_false, not_false_eq_true]
theorem M_a57 {r : Int32} {s : Nat} (hs : s < 4) : ∃ was', fX6_acted_b57 2000 r (nI 0) ss was beg asi (nI s) txt typ att rea got row oth = some (r, ss, was', beg, asi, nI (s + 1), txt, typ, att, rea, got, row, oth) ∧ (∀ i, i < 411 → was' (411 * s + i) = beg i) ∧ ∀ j, (j < 411 * s ∨ 411 * s + 411 ≤ j) → was' j = was j := by
  refine z_loop (fun n i (s' : Nat → Int32) => fX6_acted_b57 n r (nI i) ss s' beg asi (nI s) txt typ att rea got row oth) 411 (fun i s' => (∀ j, j < i → s' (411 * s + j) = beg j) ∧ ∀ j, (j < 411 * s ∨ 411 * s + i ≤ j) → s' j = was j) (fun o => ∃ was', o = some (r, ss, was', beg, asi, nI (s + 1), txt, typ, att, rea, got, row, oth) ∧ (∀ i, i < 411 → was' (411 * s + i) = beg i) ∧ ∀ j, (j < 411 * s ∨ 411 * s + 411 ≤ j) → was' j = was j) ?_ ?_ 2000 0 was (by omega) (by omega) ⟨fun j h => absurd h (by omega), fun j _ => rfl⟩
  · rintro n i s' hi ⟨h, h2⟩
    refine ⟨upd s' (411 * s + i) (beg i), ⟨fun j hj => ?_, fun j hj => by rw [z_un (by omega)]; exact h2 j (by omega)⟩, ?_⟩
    · by_cases hji : j = i
      · subst hji; exact z_us
      · rw [z_un (by omega)]; exact h j (by omega)
    · rw [fX6_acted_b57]
      simp (disch := omega) only [gl_0, gl_1, gl_2, gl_3, gl_4, gl_5, gl_6, gl_7, gl_8, gl_9, gl_10, gl_11, gl_12, gl_13, gl_14, gl_15, gl_16, gl_17, gl_18, gl_19, gl_20, gl_21, gl_22, gl_23, gl_24, gl_25, gl_26, gl_27, gl_28, gl_29, gl_30, gl_31, gl_32, gl_44, gl_48, gl_49, gl_57, gl_59, gl_60, gl_63, gl_70, gl_98, gl_99, gl_100, gl_101, gl_107, gl_109, gl_110, gl_111, gl_116, gl_120, gl_126, gl_155, gl_411, gl_999, gl_1000, gl_1233, gl_1644, gl_100000, gl_m1, nI_eq, nI_leI, nI_ltI, nI_add, nI_clamp, pk_mul, pk_sub, z_in, z_gt, z_bs, z_us, z_un, if_pos, if_neg, if_true, if_false, and_true, true_and, and_self, not_true_eq_false, not_false_eq_true]
  · rintro n s' ⟨h, h2⟩
    refine ⟨s', ?_, h, h2⟩
    rw [fX6_acted_b57]
    simp (disch := omega) only [gl_0, gl_1, gl_2, gl_3, gl_4, gl_5, gl_6, gl_7, gl_8, gl_9, gl_10, gl_11, gl_12, gl_13, gl_14, gl_15, gl_16, gl_17, gl_18, gl_19, gl_20, gl_21, gl_22, gl_23, gl_24, gl_25, gl_26, gl_27, gl_28, gl_29, gl_30, gl_31, gl_32, gl_44, gl_48, gl_49, gl_57, gl_59, gl_60, gl_63, gl_70, gl_98, gl_99, gl_100, gl_101, gl_107, gl_109, gl_110, gl_111, gl_116, gl_120, gl_126, gl_155, gl_411, gl_999, gl_1000, gl_1233, gl_1644, gl_100000, gl_m1, nI_eq, nI_leI, nI_ltI, nI_add, nI_clamp, pk_mul, pk_sub, z_in, z_gt, z_bs, z_us, z_un, if_pos, if_neg, if_true, if_false, and_true, true_and, and_self, not_true_eq_false, not_false_eq_true]
theorem M_a16 {r : Int32} : ∃ n was', fX6_acted_b16 2000 r (nI 0) ss was beg asi (nI 4) txt typ att rea got row oth = fX6_acted_b16 (n + 1) r (nI 1233) ss was' beg asi (nI 4) txt typ att rea got row oth ∧ ∀ j, j < 1233 → was' j = was (j + 411) := by
  refine z_loop (fun n i (s' : Nat → Int32) => fX6_acted_b16 n r (nI i) ss s' beg asi (nI 4) txt typ att rea got row oth) 1233 (fun i s' => (∀ j, j < i → s' j = was (j + 411)) ∧ ∀ j, i ≤ j → s' j = was j) (fun o => ∃ n was', o = fX6_acted_b16 (n + 1) r (nI 1233) ss was' beg asi (nI 4) txt typ att rea got row oth ∧ ∀ j, j < 1233 → was' j = was (j + 411)) ?_ ?_ 2000 0 was (by omega) (by omega) ⟨fun j h => absurd h (by omega), fun j _ => rfl⟩
  · rintro n i s' hi ⟨h, h2⟩
    have h3 := h2 (i + 411) (by omega)
    refine ⟨upd s' i (was (i + 411)), ⟨fun j hj => ?_, fun j hj => by rw [z_un (by omega)]; exact h2 j (by omega)⟩, ?_⟩
    · by_cases hji : j = i
      · subst hji; exact z_us
      · rw [z_un (by omega)]; exact h j (by omega)
    · rw [fX6_acted_b16]
      simp (disch := omega) only [gl_0, gl_1, gl_2, gl_3, gl_4, gl_5, gl_6, gl_7, gl_8, gl_9, gl_10, gl_11, gl_12, gl_13, gl_14, gl_15, gl_16, gl_17, gl_18, gl_19, gl_20, gl_21, gl_22, gl_23, gl_24, gl_25, gl_26, gl_27, gl_28, gl_29, gl_30, gl_31, gl_32, gl_44, gl_48, gl_49, gl_57, gl_59, gl_60, gl_63, gl_70, gl_98, gl_99, gl_100, gl_101, gl_107, gl_109, gl_110, gl_111, gl_116, gl_120, gl_126, gl_155, gl_411, gl_999, gl_1000, gl_1233, gl_1644, gl_100000, gl_m1, nI_eq, nI_leI, nI_ltI, nI_add, nI_clamp, pk_mul, pk_sub, z_in, z_gt, z_bs, z_us, z_un, if_pos, if_neg, if_true, if_false, and_true, true_and, and_self, not_true_eq_false, not_false_eq_true, h3]
  · rintro n s' ⟨h, h2⟩
    exact ⟨n, s', rfl, h⟩
theorem M_acted_err {r : Int32} (h : zerr r) : fX6_acted r ss was beg asi sta txt typ att rea got row oth = some (r, ss, was, beg, asi, sta, txt, typ, att, rea, got, row, oth) := by
  unfold fX6_acted
  rw [if_pos (zerr_le h)]
theorem M_acted {r : Int32} {s : Nat} {s0 : Nat → Int32} (h : zans r) (hs : s ≤ 4) (hb : ∀ i, i < 411 → beg i = s0 i) : ∃ was' s', fX6_acted r ss was beg asi (nI s) txt typ att rea got row oth = some (r, ss, was', beg, asi, nI s', txt, typ, att, rea, got, row, oth) ∧ Acted s0 was s was' s' := by
  unfold fX6_acted
  rw [if_neg (zans_gt h)]
  rcases Nat.lt_or_ge s 4 with h4 | h4
  · obtain ⟨was', e, h1, h2⟩ := M_a57 (ss := ss) (was := was) (beg := beg) (asi := asi) (txt := txt) (typ := typ) (att := att) (rea := rea) (got := got) (row := row) (oth := oth) (r := r) h4
    refine ⟨was', s + 1, ?_, Or.inl ⟨h4, rfl, fun i hi => by rw [h1 i hi, hb i hi], fun j hj => h2 j (Or.inl hj)⟩⟩
    simp (disch := omega) only [gl_0, gl_1, gl_2, gl_3, gl_4, gl_5, gl_6, gl_7, gl_8, gl_9, gl_10, gl_11, gl_12, gl_13, gl_14, gl_15, gl_16, gl_17, gl_18, gl_19, gl_20, gl_21, gl_22, gl_23, gl_24, gl_25, gl_26, gl_27, gl_28, gl_29, gl_30, gl_31, gl_32, gl_44, gl_48, gl_49, gl_57, gl_59, gl_60, gl_63, gl_70, gl_98, gl_99, gl_100, gl_101, gl_107, gl_109, gl_110, gl_111, gl_116, gl_120, gl_126, gl_155, gl_411, gl_999, gl_1000, gl_1233, gl_1644, gl_100000, gl_m1, nI_eq, nI_leI, nI_ltI, nI_add, nI_clamp, pk_mul, pk_sub, z_in, z_gt, z_bs, z_us, z_un, if_pos, if_neg, if_true, if_false, and_true, true_and, and_self, not_true_eq_false, not_false_eq_true]
    exact e
  · have : s = 4 := by omega
    subst this
    obtain ⟨n, was1, e1, h3⟩ := M_a16 (ss := ss) (was := was) (beg := beg) (asi := asi) (txt := txt) (typ := typ) (att := att) (rea := rea) (got := got) (row := row) (oth := oth) (r := r)
    obtain ⟨was', e, h1, h2⟩ := M_a57 (ss := ss) (was := was1) (beg := beg) (asi := asi) (txt := txt) (typ := typ) (att := att) (rea := rea) (got := got) (row := row) (oth := oth) (r := r) (s := 3) (by omega)
    refine ⟨was', 4, ?_, Or.inr ⟨rfl, rfl, fun i hi => by have := h1 i hi; rw [hb i hi] at this; exact this, fun j hj => by rw [h2 j (Or.inl (by omega)), h3 j hj]⟩⟩
    simp (disch := omega) only [gl_0, gl_1, gl_2, gl_3, gl_4, gl_5, gl_6, gl_7, gl_8, gl_9, gl_10, gl_11, gl_12, gl_13, gl_14, gl_15, gl_16, gl_17, gl_18, gl_19, gl_20, gl_21, gl_22, gl_23, gl_24, gl_25, gl_26, gl_27, gl_28, gl_29, gl_30, gl_31, gl_32, gl_44, gl_48, gl_49, gl_57, gl_59, gl_60, gl_63, gl_70, gl_98, gl_99, gl_100, gl_101, gl_107, gl_109, gl_110, gl_111, gl_116, gl_120, gl_126, gl_155, gl_411, gl_999, gl_1000, gl_1233, gl_1644, gl_100000, gl_m1, nI_eq, nI_leI, nI_ltI, nI_add, nI_clamp, pk_mul, pk_sub, z_in, z_gt, z_bs, z_us, z_un, if_pos, if_neg, if_true, if_false, and_true, true_and, and_self, not_true_eq_false, not_false_eq_true]
    rw [e1, fX6_acted_b16]
    simp (disch := omega) only [gl_0, gl_1, gl_2, gl_3, gl_4, gl_5, gl_6, gl_7, gl_8, gl_9, gl_10, gl_11, gl_12, gl_13, gl_14, gl_15, gl_16, gl_17, gl_18, gl_19, gl_20, gl_21, gl_22, gl_23, gl_24, gl_25, gl_26, gl_27, gl_28, gl_29, gl_30, gl_31, gl_32, gl_44, gl_48, gl_49, gl_57, gl_59, gl_60, gl_63, gl_70, gl_98, gl_99, gl_100, gl_101, gl_107, gl_109, gl_110, gl_111, gl_116, gl_120, gl_126, gl_155, gl_411, gl_999, gl_1000, gl_1233, gl_1644, gl_100000, gl_m1, nI_eq, nI_leI, nI_ltI, nI_add, nI_clamp, pk_mul, pk_sub, z_in, z_gt, z_bs, z_us, z_un, if_pos, if_neg, if_true, if_false, and_true, true_and, and_self, not_true_eq_false, not_false_eq_true, e]
end MD15
section EXT
variable {ss : Nat → Int32} {p l x : Nat} {lo : Int32} {ov orr nv nr : Nat → Int32} {q : Nat} {qk qv qr wr : Nat → Int32} {wa : Int32} {wc wk : Nat → Int32}
theorem RTs_ext {l sh : Nat} {ver rw0 ver' rw' : Nat → Int32} (h : RTs ss l sh ver rw0) (hv : ∀ k, k < 31 → ver' k = ver k ∧ rw' k = rw0 k) : RTs ss l sh ver' rw' := fun k hk => by
  obtain ⟨h1, h2⟩ := hv k hk
  rw [h1, h2]
  exact h k hk
theorem RT_ext {ov' orr' nv' nr' qk' qv' qr' wr' wc' wk' : Nat → Int32} (R : RT ss p l x lo ov orr nv nr q qk qv qr wr wa wc wk) (h31 : ∀ k, k < 31 → ov' k = ov k ∧ orr' k = orr k ∧ nv' k = nv k ∧ nr' k = nr k ∧ wr' k = wr k) (h8 : ∀ k, k < 8 → qk' k = qk k ∧ qv' k = qv k ∧ qr' k = qr k) (h3 : ∀ k, k < 3 → wc' k = wc k ∧ wk' k = wk k) : RT ss p l x lo ov' orr' nv' nr' q qk' qv' qr' wr' wa wc' wk' := by
  obtain ⟨⟨hp, hq, hl, hx, hqp⟩, ha, r0, r1, rq, rl, ⟨w, hw, hwa, rw'⟩, rp0, rp3⟩ := R
  refine ⟨⟨hp, hq, hl, hx, hqp⟩, ha, RTs_ext r0 (fun k hk => ⟨(h31 k hk).1, (h31 k hk).2.1⟩), RTs_ext r1 (fun k hk => ⟨(h31 k hk).2.2.1, (h31 k hk).2.2.2.1⟩), fun i hi => ?_, fun k hk => by rw [(h31 k hk).2.2.2.2]; exact rl k hk, ⟨w, hw, hwa, fun i hi => ?_⟩, fun h k hk => by rw [(h31 k hk).2.2.1, (h31 k hk).2.2.2.1]; exact rp0 h k hk, fun h k hk => by rw [(h31 k hk).1, (h31 k hk).2.1]; exact rp3 h k hk⟩
  · obtain ⟨g1, g2, g3⟩ := h8 i (by omega)
    rw [g1, g2, g3]
    exact rq i hi
  · obtain ⟨g1, g2⟩ := h3 i hi
    rw [g1, g2]
    exact rw' i hi
end EXT
