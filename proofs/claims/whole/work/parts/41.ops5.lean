/-! changes: drain -/
def zta (sh : Nat) (k v r : Int32) (s : (Nat → Int32) × (Nat → Int32)) : (Nat → Int32) × (Nat → Int32) := if v < s.1 k.toNatClampNeg then s else (upd s.1 k.toNatClampNeg v, upd s.2 k.toNatClampNeg (mo r (nI sh)))
def zdr (sh : Nat) (qk qv qr : Nat → Int32) : Nat → (Nat → Int32) × (Nat → Int32) → (Nat → Int32) × (Nat → Int32)
  | 0, s => s
  | n + 1, s => zta sh (qk n) (qv n) (qr n) (zdr sh qk qv qr n s)
theorem C_take2 {ver row : Nat → Int32} {k sh : Nat} {v r : Int32} (hk : k < 31) : fX3_take (nI k) v r (nI sh) ver row = some (zta sh (nI k) v r (ver, row)) := by
  unfold fX3_take zta
  by_cases h : v < ver k
  · simp (disch := omega) only [gl_0, gl_1, gl_2, gl_3, gl_4, gl_5, gl_6, gl_7, gl_8, gl_9, gl_10, gl_11, gl_12, gl_13, gl_14, gl_15, gl_16, gl_17, gl_18, gl_19, gl_20, gl_21, gl_22, gl_23, gl_24, gl_25, gl_26, gl_27, gl_28, gl_29, gl_30, gl_31, gl_32, gl_44, gl_48, gl_49, gl_57, gl_59, gl_60, gl_63, gl_70, gl_98, gl_99, gl_100, gl_101, gl_107, gl_109, gl_110, gl_111, gl_116, gl_120, gl_126, gl_155, gl_411, gl_999, gl_1000, gl_1233, gl_1644, gl_100000, gl_m1, nI_eq, nI_leI, nI_ltI, nI_add, nI_clamp, pk_mul, pk_sub, z_in, z_gt, z_bs, z_us, z_un, if_pos, if_neg, if_true, if_false, and_true, true_and, and_self, not_true_eq_false, not_false_eq_true, C_madeOver, h]
  · simp (disch := omega) only [gl_0, gl_1, gl_2, gl_3, gl_4, gl_5, gl_6, gl_7, gl_8, gl_9, gl_10, gl_11, gl_12, gl_13, gl_14, gl_15, gl_16, gl_17, gl_18, gl_19, gl_20, gl_21, gl_22, gl_23, gl_24, gl_25, gl_26, gl_27, gl_28, gl_29, gl_30, gl_31, gl_32, gl_44, gl_48, gl_49, gl_57, gl_59, gl_60, gl_63, gl_70, gl_98, gl_99, gl_100, gl_101, gl_107, gl_109, gl_110, gl_111, gl_116, gl_120, gl_126, gl_155, gl_411, gl_999, gl_1000, gl_1233, gl_1644, gl_100000, gl_m1, nI_eq, nI_leI, nI_ltI, nI_add, nI_clamp, pk_mul, pk_sub, z_in, z_gt, z_bs, z_us, z_un, if_pos, if_neg, if_true, if_false, and_true, true_and, and_self, not_true_eq_false, not_false_eq_true, C_madeOver, h]
theorem RTs_set {ss ss' : Nat → Int32} {l sh k v : Nat} {r : Int32} {ver row : Nat → Int32} (h : RTs ss l sh ver row) (hr : zv sh r) (hv : v ≤ l) (h0 : ∀ i, 101 + 155 * sh ≤ i → i < 256 + 155 * sh → (i < 101 + 155 * sh + 5 * k ∨ 106 + 155 * sh + 5 * k ≤ i) → ss' i = ss i) (h1 : ss' (101 + 155 * sh + 5 * k) = nI v) (h2 : RowIs (fun j => ss' (102 + 155 * sh + 5 * k + j)) sh r) : RTs ss' l sh (upd ver k (nI v)) (upd row k r) := fun i hi => by
  by_cases hki : i = k
  · subst hki
    rw [z_us, z_us]
    exact ⟨h1, h2, hr, v, hv, rfl⟩
  · rw [z_un hki, z_un hki]
    obtain ⟨g1, ⟨g2, g3, g4, g5⟩, g6, v, g7, g8⟩ := h i hi
    exact ⟨by rw [h0 _ (by omega) (by omega) (by omega)]; exact g1, ⟨by dsimp only at g2 ⊢; rw [h0 _ (by omega) (by omega) (by omega)]; exact g2, by dsimp only at g3 ⊢; rw [h0 _ (by omega) (by omega) (by omega)]; exact g3, by dsimp only at g4 ⊢; rw [h0 _ (by omega) (by omega) (by omega)]; exact g4, by dsimp only at g5 ⊢; rw [h0 _ (by omega) (by omega) (by omega)]; exact g5⟩, g6, v, by omega, g8⟩
theorem C_shorten {d q : Nat} {qk qv qr : Nat → Int32} (hd : d ≤ q) (hq : q ≤ 8) : ∃ qk' qv' qr', fX1_shorten (nI d) (nI q) qk qv qr = some (nI (q - d), qk', qv', qr') ∧ ∀ j, j < q - d → qk' j = qk (d + j) ∧ qv' j = qv (d + j) ∧ qr' j = qr (d + j) := by
  unfold fX1_shorten
  have e : (if (0 : Int32) < nI q - nI d then nI q - nI d else (0 : Int32)) = nI (q - d) := by
    rw [pk_sub hd, gl_0]
    rcases Nat.eq_zero_or_pos (q - d) with h | h
    · rw [h, if_neg (by rw [nI_ltI (by omega) (by omega)]; omega)]
    · rw [if_pos (by rw [nI_ltI (by omega) (by omega)]; omega)]
  rw [e, gl_0]
  refine z_loop (fun n i (s : (Nat → Int32) × (Nat → Int32) × (Nat → Int32)) => fX1_shorten_b13 n (nI d) (nI (q - d)) (nI i) (nI q) s.1 s.2.1 s.2.2) (q - d) (fun i s => (∀ j, j < i → s.1 j = qk (d + j) ∧ s.2.1 j = qv (d + j) ∧ s.2.2 j = qr (d + j)) ∧ ∀ j, i ≤ j → s.1 j = qk j ∧ s.2.1 j = qv j ∧ s.2.2 j = qr j) (fun o => ∃ qk' qv' qr', o = some (nI (q - d), qk', qv', qr') ∧ ∀ j, j < q - d → qk' j = qk (d + j) ∧ qv' j = qv (d + j) ∧ qr' j = qr (d + j)) ?_ ?_ 2000 0 (qk, qv, qr) (by omega) (by omega) ⟨fun j h => absurd h (by omega), fun j _ => ⟨rfl, rfl, rfl⟩⟩
  · rintro n i ⟨a, b, c⟩ hi ⟨h1, h2⟩
    obtain ⟨x1, x2, x3⟩ := h2 (i + d) (by omega)
    dsimp only at x1 x2 x3
    refine ⟨(upd a i (qk (i + d)), upd b i (qv (i + d)), upd c i (qr (i + d))), ⟨fun j hj => ?_, fun j hj => ?_⟩, ?_⟩
    · dsimp only
      by_cases hji : j = i
      · subst hji; rw [z_us, z_us, z_us, Nat.add_comm]; exact ⟨rfl, rfl, rfl⟩
      · rw [z_un hji, z_un hji, z_un hji]; exact h1 j (by omega)
    · dsimp only
      rw [z_un (by omega), z_un (by omega), z_un (by omega)]
      exact h2 j (by omega)
    · dsimp only
      rw [fX1_shorten_b13]
      simp (disch := omega) only [gl_0, gl_1, gl_2, gl_3, gl_4, gl_5, gl_6, gl_7, gl_8, gl_9, gl_10, gl_11, gl_12, gl_13, gl_14, gl_15, gl_16, gl_17, gl_18, gl_19, gl_20, gl_21, gl_22, gl_23, gl_24, gl_25, gl_26, gl_27, gl_28, gl_29, gl_30, gl_31, gl_32, gl_44, gl_48, gl_49, gl_57, gl_59, gl_60, gl_63, gl_70, gl_98, gl_99, gl_100, gl_101, gl_107, gl_109, gl_110, gl_111, gl_116, gl_120, gl_126, gl_155, gl_411, gl_999, gl_1000, gl_1233, gl_1644, gl_100000, gl_m1, nI_eq, nI_leI, nI_ltI, nI_add, nI_clamp, pk_mul, pk_sub, z_in, z_gt, z_bs, z_us, z_un, if_pos, if_neg, if_true, if_false, and_true, true_and, and_self, not_true_eq_false, not_false_eq_true, x1, x2, x3]
  · rintro n ⟨a, b, c⟩ ⟨h1, h2⟩
    refine ⟨a, b, c, ?_, h1⟩
    dsimp only
    rw [fX1_shorten_b13]
    simp (disch := omega) only [gl_0, gl_1, gl_2, gl_3, gl_4, gl_5, gl_6, gl_7, gl_8, gl_9, gl_10, gl_11, gl_12, gl_13, gl_14, gl_15, gl_16, gl_17, gl_18, gl_19, gl_20, gl_21, gl_22, gl_23, gl_24, gl_25, gl_26, gl_27, gl_28, gl_29, gl_30, gl_31, gl_32, gl_44, gl_48, gl_49, gl_57, gl_59, gl_60, gl_63, gl_70, gl_98, gl_99, gl_100, gl_101, gl_107, gl_109, gl_110, gl_111, gl_116, gl_120, gl_126, gl_155, gl_411, gl_999, gl_1000, gl_1233, gl_1644, gl_100000, gl_m1, nI_eq, nI_leI, nI_ltI, nI_add, nI_clamp, pk_mul, pk_sub, z_in, z_gt, z_bs, z_us, z_un, if_pos, if_neg, if_true, if_false, and_true, true_and, and_self, not_true_eq_false, not_false_eq_true]
section MD11
variable {ss was beg asi : Nat → Int32} {sta : Int32} {txt : Nat → Int32} {typ att rea : Int32} {got row oth : Nat → Int32}
variable {p l x : Nat} {lo : Int32} {ov orr nv nr : Nat → Int32} {q : Nat} {qk qv qr wr : Nat → Int32} {wa : Int32} {wc wk : Nat → Int32}
theorem M_d42 {x1 x2 x3 : Int32} : ∃ n row', row' 0 = row 0 ∧ (∀ j, 0 < j → j < 4 → row' j = ss (17 + j)) ∧ fX6_drainsOne_b42 2000 x1 x2 x3 (nI 1) ss was beg asi sta txt typ att rea got row oth = fX6_drainsOne_b42 (n + 1) x1 x2 x3 (nI 4) ss was beg asi sta txt typ att rea got row' oth := by
  refine z_loop (fun n i (s' : Nat → Int32) => fX6_drainsOne_b42 n x1 x2 x3 (nI i) ss was beg asi sta txt typ att rea got s' oth) 4 (fun i s' => 0 < i ∧ s' 0 = row 0 ∧ ∀ j, 0 < j → j < i → s' j = ss (17 + j)) (fun o => ∃ n row', row' 0 = row 0 ∧ (∀ j, 0 < j → j < 4 → row' j = ss (17 + j)) ∧ o = fX6_drainsOne_b42 (n + 1) x1 x2 x3 (nI 4) ss was beg asi sta txt typ att rea got row' oth) ?_ ?_ 2000 1 row (by omega) (by omega) ⟨by omega, rfl, fun j _ h => absurd h (by omega)⟩
  · rintro n i s' hi ⟨h0, h1, h⟩
    refine ⟨upd s' i (ss (17 + i)), ⟨by omega, by rw [z_un (by omega)]; exact h1, fun j hj0 hj => ?_⟩, ?_⟩
    · by_cases hji : j = i
      · subst hji; exact z_us
      · rw [z_un hji]; exact h j hj0 (by omega)
    · rw [fX6_drainsOne_b42]
      simp (disch := omega) only [gl_0, gl_1, gl_2, gl_3, gl_4, gl_5, gl_6, gl_7, gl_8, gl_9, gl_10, gl_11, gl_12, gl_13, gl_14, gl_15, gl_16, gl_17, gl_18, gl_19, gl_20, gl_21, gl_22, gl_23, gl_24, gl_25, gl_26, gl_27, gl_28, gl_29, gl_30, gl_31, gl_32, gl_44, gl_48, gl_49, gl_57, gl_59, gl_60, gl_63, gl_70, gl_98, gl_99, gl_100, gl_101, gl_107, gl_109, gl_110, gl_111, gl_116, gl_120, gl_126, gl_155, gl_411, gl_999, gl_1000, gl_1233, gl_1644, gl_100000, gl_m1, nI_eq, nI_leI, nI_ltI, nI_add, nI_clamp, pk_mul, pk_sub, z_in, z_gt, z_bs, z_us, z_un, if_pos, if_neg, if_true, if_false, and_true, true_and, and_self, not_true_eq_false, not_false_eq_true]
  · rintro n s' ⟨h0, h1, h⟩
    exact ⟨n, s', h1, h, rfl⟩
theorem M_d92 (h3 : ss 3 = nI (q + 1)) : ∃ ss', fX6_drainsOne_b92 2000 (nI 0) ss was beg asi sta txt typ att rea got row oth = some (ss', was, beg, asi, sta, txt, typ, att, rea, got, row, oth) ∧ ss' 3 = nI q ∧ (∀ i, 14 ≤ i → i < 63 → ss' i = ss (i + 7)) ∧ ∀ i, i ≠ 3 → (i < 14 ∨ 63 ≤ i) → ss' i = ss i := by
  refine z_loop (fun n i (s' : Nat → Int32) => fX6_drainsOne_b92 n (nI i) s' was beg asi sta txt typ att rea got row oth) 49 (fun i s' => (∀ j, 14 ≤ j → j < 14 + i → s' j = ss (j + 7)) ∧ ∀ j, (j < 14 ∨ 14 + i ≤ j) → s' j = ss j) (fun o => ∃ ss', o = some (ss', was, beg, asi, sta, txt, typ, att, rea, got, row, oth) ∧ ss' 3 = nI q ∧ (∀ i, 14 ≤ i → i < 63 → ss' i = ss (i + 7)) ∧ ∀ i, i ≠ 3 → (i < 14 ∨ 63 ≤ i) → ss' i = ss i) ?_ ?_ 2000 0 ss (by omega) (by omega) ⟨fun j _ h => absurd h (by omega), fun j _ => rfl⟩
  · rintro n i s' hi ⟨h1, h⟩
    refine ⟨upd s' (14 + i) (ss (14 + i + 7)), ⟨fun j hj0 hj => ?_, fun j hj => by rw [z_un (by omega)]; exact h j (by omega)⟩, ?_⟩
    · by_cases hji : j = 14 + i
      · subst hji; exact z_us
      · rw [z_un hji]; exact h1 j hj0 (by omega)
    · rw [fX6_drainsOne_b92]
      have := h (14 + i + 7) (by omega)
      simp (disch := omega) only [gl_0, gl_1, gl_2, gl_3, gl_4, gl_5, gl_6, gl_7, gl_8, gl_9, gl_10, gl_11, gl_12, gl_13, gl_14, gl_15, gl_16, gl_17, gl_18, gl_19, gl_20, gl_21, gl_22, gl_23, gl_24, gl_25, gl_26, gl_27, gl_28, gl_29, gl_30, gl_31, gl_32, gl_44, gl_48, gl_49, gl_57, gl_59, gl_60, gl_63, gl_70, gl_98, gl_99, gl_100, gl_101, gl_107, gl_109, gl_110, gl_111, gl_116, gl_120, gl_126, gl_155, gl_411, gl_999, gl_1000, gl_1233, gl_1644, gl_100000, gl_m1, nI_eq, nI_leI, nI_ltI, nI_add, nI_clamp, pk_mul, pk_sub, z_in, z_gt, z_bs, z_us, z_un, if_pos, if_neg, if_true, if_false, and_true, true_and, and_self, not_true_eq_false, not_false_eq_true, this]
  · rintro n s' ⟨h1, h⟩
    have h3' : s' 3 = nI (q + 1) := by rw [h 3 (by omega)]; exact h3
    refine ⟨upd s' 3 (nI q), ?_, z_us, fun i i1 i2 => by rw [z_un (by omega)]; exact h1 i i1 (by omega), fun i i1 i2 => by rw [z_un (by omega)]; exact h i (by omega)⟩
    rw [fX6_drainsOne_b92]
    simp (disch := omega) only [gl_0, gl_1, gl_2, gl_3, gl_4, gl_5, gl_6, gl_7, gl_8, gl_9, gl_10, gl_11, gl_12, gl_13, gl_14, gl_15, gl_16, gl_17, gl_18, gl_19, gl_20, gl_21, gl_22, gl_23, gl_24, gl_25, gl_26, gl_27, gl_28, gl_29, gl_30, gl_31, gl_32, gl_44, gl_48, gl_49, gl_57, gl_59, gl_60, gl_63, gl_70, gl_98, gl_99, gl_100, gl_101, gl_107, gl_109, gl_110, gl_111, gl_116, gl_120, gl_126, gl_155, gl_411, gl_999, gl_1000, gl_1233, gl_1644, gl_100000, gl_m1, nI_eq, nI_leI, nI_ltI, nI_add, nI_clamp, pk_mul, pk_sub, z_in, z_gt, z_bs, z_us, z_un, if_pos, if_neg, if_true, if_false, and_true, true_and, and_self, not_true_eq_false, not_false_eq_true, h3']
    rw [show q + 1 - 1 = q by omega]
theorem M_drainsOne {k v : Nat} {ver rw0 : Nat → Int32} (hk : k < 31) (hv : v ≤ l) (hl : l ≤ 100000) (h3 : ss 3 = nI (q + 1)) (h14 : ss 14 = nI k) (h15 : ss 15 = nI v) (h16 : ss 16 = nI (zsec p)) (h17 : ss 17 = (if qr 0 = zN then nI 1 else nI 0)) (h18 : ∀ j, 0 < j → j < 4 → ss (17 + j) = zd (zsec p) j (mo (qr 0) (nI (zsec p)))) (hr : zok (qr 0)) (hs : RTs ss l (zsec p) ver rw0) : ∃ ss' row', fX6_drainsOne ss was beg asi sta txt typ att rea got row oth = some (ss', was, beg, asi, sta, txt, typ, att, rea, got, row', oth) ∧ ss' 3 = nI q ∧ (∀ i, 14 ≤ i → i < 63 → ss' i = ss (i + 7)) ∧ (∀ i, i ≠ 3 → (i < 14 ∨ 70 ≤ i) → (i < 101 + 155 * zsec p ∨ 256 + 155 * zsec p ≤ i) → ss' i = ss i) ∧ RTs ss' l (zsec p) (zta (zsec p) (nI k) (nI v) (qr 0) (ver, rw0)).1 (zta (zsec p) (nI k) (nI v) (qr 0) (ver, rw0)).2 := by
  have hg := zsec_lt p
  obtain ⟨n1, row1, r1, r2, e1⟩ := M_d42 (x1 := nI k) (x2 := nI v) (x3 := nI (zsec p)) (ss := ss) (was := was) (beg := beg) (asi := asi) (sta := sta) (txt := txt) (typ := typ) (att := att) (rea := rea) (got := got) (row := upd row 0 (nI 1 - ss 17)) (oth := oth)
  rw [z_us, h17] at r1
  have hrow : RowIs row1 (zsec p) (mo (qr 0) (nI (zsec p))) := by
    refine ⟨?_, by rw [r2 1 (by omega) (by omega)]; exact h18 1 (by omega) (by omega), by rw [r2 2 (by omega) (by omega)]; exact h18 2 (by omega) (by omega), by rw [r2 3 (by omega) (by omega)]; exact h18 3 (by omega) (by omega)⟩
    rw [r1, zd0]
    by_cases hz : qr 0 = zN
    · rw [if_pos hz, if_pos ((mo_eqN hg hr).2 hz)]; decide
    · rw [if_neg hz, if_neg (fun h => hz ((mo_eqN hg hr).1 h))]; decide
  obtain ⟨_, _, _, w, hw, hwe⟩ := hs k hk
  have e0 : fX6_of (nI (zsec p)) (nI k) (nI 0) ss was beg asi sta txt typ att rea got row1 oth = some (nI w) := by
    rw [M_of hg hk (by omega), Nat.add_zero, (hs k hk).1, hwe]
  unfold fX6_drainsOne
  simp (disch := omega) only [gl_0, gl_1, gl_2, gl_3, gl_4, gl_5, gl_6, gl_7, gl_8, gl_9, gl_10, gl_11, gl_12, gl_13, gl_14, gl_15, gl_16, gl_17, gl_18, gl_19, gl_20, gl_21, gl_22, gl_23, gl_24, gl_25, gl_26, gl_27, gl_28, gl_29, gl_30, gl_31, gl_32, gl_44, gl_48, gl_49, gl_57, gl_59, gl_60, gl_63, gl_70, gl_98, gl_99, gl_100, gl_101, gl_107, gl_109, gl_110, gl_111, gl_116, gl_120, gl_126, gl_155, gl_411, gl_999, gl_1000, gl_1233, gl_1644, gl_100000, gl_m1, nI_eq, nI_leI, nI_ltI, nI_add, nI_clamp, pk_mul, pk_sub, z_in, z_gt, z_bs, z_us, z_un, if_pos, if_neg, if_true, if_false, and_true, true_and, and_self, not_true_eq_false, not_false_eq_true, h14, h15, h16, e1]
  rw [fX6_drainsOne_b42]
  by_cases hlt : v < w
  · simp (disch := omega) only [gl_0, gl_1, gl_2, gl_3, gl_4, gl_5, gl_6, gl_7, gl_8, gl_9, gl_10, gl_11, gl_12, gl_13, gl_14, gl_15, gl_16, gl_17, gl_18, gl_19, gl_20, gl_21, gl_22, gl_23, gl_24, gl_25, gl_26, gl_27, gl_28, gl_29, gl_30, gl_31, gl_32, gl_44, gl_48, gl_49, gl_57, gl_59, gl_60, gl_63, gl_70, gl_98, gl_99, gl_100, gl_101, gl_107, gl_109, gl_110, gl_111, gl_116, gl_120, gl_126, gl_155, gl_411, gl_999, gl_1000, gl_1233, gl_1644, gl_100000, gl_m1, nI_eq, nI_leI, nI_ltI, nI_add, nI_clamp, pk_mul, pk_sub, z_in, z_gt, z_bs, z_us, z_un, if_pos, if_neg, if_true, if_false, and_true, true_and, and_self, not_true_eq_false, not_false_eq_true, e0]
    obtain ⟨ss', e2, q1, q2, q3⟩ := M_d92 (ss := ss) (was := was) (beg := beg) (asi := asi) (sta := sta) (txt := txt) (typ := typ) (att := att) (rea := rea) (got := got) (row := row1) (oth := oth) h3
    refine ⟨ss', row1, e2, q1, q2, fun i i1 i2 i3 => q3 i i1 (by omega), ?_⟩
    have hz : zta (zsec p) (nI k) (nI v) (qr 0) (ver, rw0) = (ver, rw0) := if_pos (by dsimp only; rw [nI_clamp (by omega), hwe]; exact (nI_ltI (by omega) (by omega)).2 hlt)
    rw [hz]
    exact RTs_congr hs (fun i i1 i2 => q3 i (by omega) (by omega))
  · obtain ⟨ss1, e3, q1, q2, q3⟩ := M_lays (sh := zsec p) (k := k) (v := nI v) (ss := ss) (was := was) (beg := beg) (asi := asi) (sta := sta) (txt := txt) (typ := typ) (att := att) (rea := rea) (got := got) (row := row1) (oth := oth) hg hk (mo_zok hg hr) hrow
    obtain ⟨ss', e2, p1, p2, p3⟩ := M_d92 (ss := ss1) (was := was) (beg := beg) (asi := asi) (sta := sta) (txt := txt) (typ := typ) (att := att) (rea := rea) (got := got) (row := row1) (oth := oth) (by rw [q3 3 (by omega)]; exact h3)
    simp (disch := omega) only [gl_0, gl_1, gl_2, gl_3, gl_4, gl_5, gl_6, gl_7, gl_8, gl_9, gl_10, gl_11, gl_12, gl_13, gl_14, gl_15, gl_16, gl_17, gl_18, gl_19, gl_20, gl_21, gl_22, gl_23, gl_24, gl_25, gl_26, gl_27, gl_28, gl_29, gl_30, gl_31, gl_32, gl_44, gl_48, gl_49, gl_57, gl_59, gl_60, gl_63, gl_70, gl_98, gl_99, gl_100, gl_101, gl_107, gl_109, gl_110, gl_111, gl_116, gl_120, gl_126, gl_155, gl_411, gl_999, gl_1000, gl_1233, gl_1644, gl_100000, gl_m1, nI_eq, nI_leI, nI_ltI, nI_add, nI_clamp, pk_mul, pk_sub, z_in, z_gt, z_bs, z_us, z_un, if_pos, if_neg, if_true, if_false, and_true, true_and, and_self, not_true_eq_false, not_false_eq_true, e0, e3, e2]
    refine ⟨ss', row1, rfl, p1, fun i i1 i2 => by rw [p2 i i1 i2, q3 _ (by omega)], fun i i1 i2 i3 => by rw [p3 i i1 (by omega), q3 i (by omega)], ?_⟩
    have hz : zta (zsec p) (nI k) (nI v) (qr 0) (ver, rw0) = (upd ver k (nI v), upd rw0 k (mo (qr 0) (nI (zsec p)))) := by
      unfold zta
      have hn : ¬ nI v < ver k := by rw [hwe, nI_ltI (by omega) (by omega)]; exact hlt
      simp (disch := omega) only [gl_0, gl_1, gl_2, gl_3, gl_4, gl_5, gl_6, gl_7, gl_8, gl_9, gl_10, gl_11, gl_12, gl_13, gl_14, gl_15, gl_16, gl_17, gl_18, gl_19, gl_20, gl_21, gl_22, gl_23, gl_24, gl_25, gl_26, gl_27, gl_28, gl_29, gl_30, gl_31, gl_32, gl_44, gl_48, gl_49, gl_57, gl_59, gl_60, gl_63, gl_70, gl_98, gl_99, gl_100, gl_101, gl_107, gl_109, gl_110, gl_111, gl_116, gl_120, gl_126, gl_155, gl_411, gl_999, gl_1000, gl_1233, gl_1644, gl_100000, gl_m1, nI_eq, nI_leI, nI_ltI, nI_add, nI_clamp, pk_mul, pk_sub, z_in, z_gt, z_bs, z_us, z_un, if_pos, if_neg, if_true, if_false, and_true, true_and, and_self, not_true_eq_false, not_false_eq_true, hn]
    rw [hz]
    obtain ⟨w0, w1, w2, w3⟩ := q2
    dsimp only at w0 w1 w2 w3
    exact RTs_set hs (zv_mo hg hr) hv (fun i i1 i2 i3 => by rw [p3 i (by omega) (by omega), q3 i (by omega)]) (by rw [p3 _ (by omega) (by omega)]; exact q1) ⟨by dsimp only; rw [p3 _ (by omega) (by omega)]; exact w0, by dsimp only; rw [p3 _ (by omega) (by omega)]; exact w1, by dsimp only; rw [p3 _ (by omega) (by omega)]; exact w2, by dsimp only; rw [p3 _ (by omega) (by omega)]; exact w3⟩
theorem RTq_shift {ss ss' : Nat → Int32} (hq : q + 1 ≤ 8) (h : RTq ss p l (q + 1) qk qv qr) (hs : ∀ i, 14 ≤ i → i < 63 → ss' i = ss (i + 7)) : RTq ss' p l q (fun j => qk (j + 1)) (fun j => qv (j + 1)) (fun j => qr (j + 1)) := fun i hi => by
  obtain ⟨g1, g2, g3, g4, g5, g6, g7, g8⟩ := h (i + 1) (by omega)
  have e : ∀ c j : Nat, c + 7 * i + j + 7 = c + 7 * (i + 1) + j := fun c j => by omega
  exact ⟨by rw [hs _ (by omega) (by omega), e 14 0]; exact g1, by rw [hs _ (by omega) (by omega), e 15 0]; exact g2, by rw [hs _ (by omega) (by omega), e 16 0]; exact g3, by rw [hs _ (by omega) (by omega), e 17 0]; exact g4, fun j j0 j4 => by rw [hs _ (by omega) (by omega), e 17 j]; exact g5 j j0 j4, g6, g7, g8⟩
/-- one drained, with the relation -/
theorem S_drainsOne (R : RT ss p l x lo ov orr nv nr (q + 1) qk qv qr wr wa wc wk) : ∃ ss' row', fX6_drainsOne ss was beg asi sta txt typ att rea got row oth = some (ss', was, beg, asi, sta, txt, typ, att, rea, got, row', oth) ∧ (p = 1 → RT ss' p l x lo ov orr (zta 1 (qk 0) (qv 0) (qr 0) (nv, nr)).1 (zta 1 (qk 0) (qv 0) (qr 0) (nv, nr)).2 q (fun j => qk (j + 1)) (fun j => qv (j + 1)) (fun j => qr (j + 1)) wr wa wc wk) ∧ (p = 2 → RT ss' p l x lo (zta 0 (qk 0) (qv 0) (qr 0) (ov, orr)).1 (zta 0 (qk 0) (qv 0) (qr 0) (ov, orr)).2 nv nr q (fun j => qk (j + 1)) (fun j => qv (j + 1)) (fun j => qr (j + 1)) wr wa wc wk) := by
  obtain ⟨⟨hp, hq, hl, hx, hqp⟩, ⟨a0, a1, a2, a3, a4⟩, r0, r1, rq, rl, rw', rp0, rp3⟩ := R
  have hb := hqp (by omega)
  obtain ⟨g1, g2, g3, g4, g5, g6, ⟨k, hk, g7⟩, v, hv, g8⟩ := rq 0 (by omega)
  rw [g7, g8]
  rcases hb with rfl | rfl
  · obtain ⟨ss', row', e, b1, b2, b3, b4⟩ := M_drainsOne (p := 1) (was := was) (beg := beg) (asi := asi) (sta := sta) (txt := txt) (typ := typ) (att := att) (rea := rea) (got := got) (row := row) (oth := oth) hk hv hl a3 (by rw [← g7]; exact g1) (by rw [← g8]; exact g2) g3 g4 g5 g6 r1
    refine ⟨ss', row', e, fun _ => ?_, fun h => absurd h (by omega)⟩
    have zs : zsec 1 = 1 := rfl
    rw [zs] at b3 b4
    exact ⟨⟨hp, by omega, hl, hx, fun _ => by omega⟩, ⟨by rw [b3 0 (by omega) (by omega) (by omega)]; exact a0, by rw [b3 1 (by omega) (by omega) (by omega)]; exact a1, fun h => by rw [b3 2 (by omega) (by omega) (by omega)]; exact a2 h, b1, by rw [b3 4 (by omega) (by omega) (by omega)]; exact a4⟩, RTs_congr r0 (fun i i1 i2 => b3 i (by omega) (by omega) (by omega)), b4, RTq_shift hq rq b2, fun k hk => by rw [b3 _ (by omega) (by omega) (by omega)]; exact rl k hk, RTw_congr rw' (fun i i1 i2 => b3 i (by omega) (by omega) (by omega)), fun h => absurd h (by omega), fun h => absurd h (by omega)⟩
  · obtain ⟨ss', row', e, b1, b2, b3, b4⟩ := M_drainsOne (p := 2) (was := was) (beg := beg) (asi := asi) (sta := sta) (txt := txt) (typ := typ) (att := att) (rea := rea) (got := got) (row := row) (oth := oth) hk hv hl a3 (by rw [← g7]; exact g1) (by rw [← g8]; exact g2) g3 g4 g5 g6 r0
    refine ⟨ss', row', e, fun h => absurd h (by omega), fun _ => ?_⟩
    have zs : zsec 2 = 0 := rfl
    rw [zs] at b3 b4
    exact ⟨⟨hp, by omega, hl, hx, fun _ => by omega⟩, ⟨by rw [b3 0 (by omega) (by omega) (by omega)]; exact a0, by rw [b3 1 (by omega) (by omega) (by omega)]; exact a1, fun h => absurd h (by omega), b1, by rw [b3 4 (by omega) (by omega) (by omega)]; exact a4⟩, b4, RTs_congr r1 (fun i i1 i2 => b3 i (by omega) (by omega) (by omega)), RTq_shift hq rq b2, fun k hk => by rw [b3 _ (by omega) (by omega) (by omega)]; exact rl k hk, RTw_congr rw' (fun i i1 i2 => b3 i (by omega) (by omega) (by omega)), fun h => absurd h (by omega), fun h => absurd h (by omega)⟩
end MD11
