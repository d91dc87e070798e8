/-! changes: a row comes -/
theorem C_take {ver row : Nat → Int32} {k v w sh : Nat} {r : Int32} (hk : k < 31) (h : ver k = nI v) (hv : v ≤ w) (hw : w < 2 ^ 31) : fX3_take (nI k) (nI w) r (nI sh) ver row = some (upd ver k (nI w), upd row k (mo r (nI sh))) := by
  unfold fX3_take
  simp (disch := omega) only [gl_0, gl_1, gl_2, gl_3, gl_4, gl_5, gl_6, gl_7, gl_8, gl_9, gl_10, gl_11, gl_12, gl_13, gl_14, gl_15, gl_16, gl_17, gl_18, gl_19, gl_20, gl_21, gl_22, gl_23, gl_24, gl_25, gl_26, gl_27, gl_28, gl_29, gl_30, gl_31, gl_32, gl_44, gl_48, gl_49, gl_57, gl_59, gl_60, gl_63, gl_70, gl_98, gl_99, gl_100, gl_101, gl_107, gl_109, gl_110, gl_111, gl_116, gl_120, gl_126, gl_155, gl_411, gl_999, gl_1000, gl_1233, gl_1644, gl_100000, gl_m1, nI_eq, nI_leI, nI_ltI, nI_add, nI_clamp, pk_mul, pk_sub, z_in, z_gt, z_bs, z_us, z_un, if_pos, if_neg, if_true, if_false, and_true, true_and, and_self, not_true_eq_false, not_false_eq_true, h, C_madeOver]
theorem C_takeNot {ver row : Nat → Int32} {k v w sh : Nat} {r : Int32} (hk : k < 31) (h : ver k = nI v) (hv : w < v) (hw : v < 2 ^ 31) : fX3_take (nI k) (nI w) r (nI sh) ver row = some (ver, row) := by
  unfold fX3_take
  simp (disch := omega) only [gl_0, gl_1, gl_2, gl_3, gl_4, gl_5, gl_6, gl_7, gl_8, gl_9, gl_10, gl_11, gl_12, gl_13, gl_14, gl_15, gl_16, gl_17, gl_18, gl_19, gl_20, gl_21, gl_22, gl_23, gl_24, gl_25, gl_26, gl_27, gl_28, gl_29, gl_30, gl_31, gl_32, gl_44, gl_48, gl_49, gl_57, gl_59, gl_60, gl_63, gl_70, gl_98, gl_99, gl_100, gl_101, gl_107, gl_109, gl_110, gl_111, gl_116, gl_120, gl_126, gl_155, gl_411, gl_999, gl_1000, gl_1233, gl_1644, gl_100000, gl_m1, nI_eq, nI_leI, nI_ltI, nI_add, nI_clamp, pk_mul, pk_sub, z_in, z_gt, z_bs, z_us, z_un, if_pos, if_neg, if_true, if_false, and_true, true_and, and_self, not_true_eq_false, not_false_eq_true, h, C_madeOver]
theorem C_append {qk qv qr : Nat → Int32} {q : Nat} {a b c : Int32} (hq : q < 8) : fX1_append a b c (nI q) qk qv qr = some (nI (q + 1), upd qk q a, upd qv q b, upd qr q c) := by
  unfold fX1_append
  simp (disch := omega) only [gl_0, gl_1, gl_2, gl_3, gl_4, gl_5, gl_6, gl_7, gl_8, gl_9, gl_10, gl_11, gl_12, gl_13, gl_14, gl_15, gl_16, gl_17, gl_18, gl_19, gl_20, gl_21, gl_22, gl_23, gl_24, gl_25, gl_26, gl_27, gl_28, gl_29, gl_30, gl_31, gl_32, gl_44, gl_48, gl_49, gl_57, gl_59, gl_60, gl_63, gl_70, gl_98, gl_99, gl_100, gl_101, gl_107, gl_109, gl_110, gl_111, gl_116, gl_120, gl_126, gl_155, gl_411, gl_999, gl_1000, gl_1233, gl_1644, gl_100000, gl_m1, nI_eq, nI_leI, nI_ltI, nI_add, nI_clamp, pk_mul, pk_sub, z_in, z_gt, z_bs, z_us, z_un, if_pos, if_neg, if_true, if_false, and_true, true_and, and_self, not_true_eq_false, not_false_eq_true]
def PutM (ss ss' : Nat → Int32) (p l q k : Nat) (r : Int32) : Prop :=
  (∀ i, i < 411 → i ≠ 1 → i ≠ 3 → i ≠ 70 + k → (i < 14 + 7 * q ∨ 21 + 7 * q ≤ i) → (i < 101 + 155 * zfst p + 5 * k ∨ 106 + 155 * zfst p + 5 * k ≤ i) → ss' i = ss i) ∧ ss' 1 = nI (l + 1) ∧ ss' (70 + k) = nI (l + 1) ∧ ss' (101 + 155 * zfst p + 5 * k) = nI (l + 1) ∧ RowIs (fun j => ss' (102 + 155 * zfst p + 5 * k + j)) (zfst p) (mo r (nI (zfst p))) ∧ ((p = 1 ∨ p = 2) → ss' 3 = nI (q + 1) ∧ ss' (14 + 7 * q) = nI k ∧ ss' (15 + 7 * q) = nI (l + 1) ∧ ss' (16 + 7 * q) = nI (zsec p) ∧ ss' (17 + 7 * q) = (if r = zN then nI 1 else nI 0) ∧ ∀ j, 0 < j → j < 4 → ss' (17 + 7 * q + j) = zd (zsec p) j (mo r (nI (zsec p)))) ∧ (¬ (p = 1 ∨ p = 2) → ss' 3 = nI q)
theorem RTs_put {ss ss' : Nat → Int32} {l sh k : Nat} {r : Int32} {ver row : Nat → Int32} (hs : sh < 2) (h : RTs ss l sh ver row) (hr : zok r) (h0 : ∀ i, 101 + 155 * sh ≤ i → i < 256 + 155 * sh → (i < 101 + 155 * sh + 5 * k ∨ 106 + 155 * sh + 5 * k ≤ i) → ss' i = ss i) (h1 : ss' (101 + 155 * sh + 5 * k) = nI (l + 1)) (h2 : RowIs (fun j => ss' (102 + 155 * sh + 5 * k + j)) sh (mo r (nI sh))) : RTs ss' (l + 1) sh (upd ver k (nI (l + 1))) (upd row k (mo r (nI sh))) := fun i hi => by
  by_cases hki : i = k
  · subst hki
    rw [z_us, z_us]
    exact ⟨h1, h2, zv_mo hs hr, l + 1, by omega, rfl⟩
  · rw [z_un hki, z_un hki]
    obtain ⟨g1, ⟨g2, g3, g4, g5⟩, g6, v, g7, g8⟩ := h i hi
    exact ⟨by rw [h0 _ (by omega) (by omega) (by omega)]; exact g1, ⟨by dsimp only at g2 ⊢; rw [h0 _ (by omega) (by omega) (by omega)]; exact g2, by dsimp only at g3 ⊢; rw [h0 _ (by omega) (by omega) (by omega)]; exact g3, by dsimp only at g4 ⊢; rw [h0 _ (by omega) (by omega) (by omega)]; exact g4, by dsimp only at g5 ⊢; rw [h0 _ (by omega) (by omega) (by omega)]; exact g5⟩, g6, v, by omega, g8⟩
theorem RTq_put {ss ss' : Nat → Int32} {p l q k : Nat} {r : Int32} {qk qv qr : Nat → Int32} (hq : q < 8) (hk : k < 31) (hr : zok r) (h : RTq ss p l q qk qv qr) (h0 : ∀ i, 14 ≤ i → i < 14 + 7 * q → ss' i = ss i) (h1 : ss' (14 + 7 * q) = nI k) (h2 : ss' (15 + 7 * q) = nI (l + 1)) (h3 : ss' (16 + 7 * q) = nI (zsec p)) (h4 : ss' (17 + 7 * q) = (if r = zN then nI 1 else nI 0)) (h5 : ∀ j, 0 < j → j < 4 → ss' (17 + 7 * q + j) = zd (zsec p) j (mo r (nI (zsec p)))) : RTq ss' p (l + 1) (q + 1) (upd qk q (nI k)) (upd qv q (nI (l + 1))) (upd qr q r) := fun i hi => by
  by_cases hiq : i = q
  · subst hiq
    rw [z_us, z_us, z_us]
    exact ⟨h1, h2, h3, h4, h5, hr, ⟨k, hk, rfl⟩, l + 1, by omega, rfl⟩
  · rw [z_un hiq, z_un hiq, z_un hiq]
    obtain ⟨g1, g2, g3, g4, g5, g6, g7, v, g8, g9⟩ := h i (by omega)
    exact ⟨by rw [h0 _ (by omega) (by omega)]; exact g1, by rw [h0 _ (by omega) (by omega)]; exact g2, by rw [h0 _ (by omega) (by omega)]; exact g3, by rw [h0 _ (by omega) (by omega)]; exact g4, fun j j0 j4 => by rw [h0 _ (by omega) (by omega)]; exact g5 j j0 j4, g6, g7, v, by omega, g9⟩
section MD8
variable {ss was beg asi : Nat → Int32} {sta : Int32} {txt : Nat → Int32} {typ att rea : Int32} {got row oth : Nat → Int32}
theorem M_c60 {x1 x2 x3 : Int32} : ∃ n oth', (∀ j, j < 4 → oth' j = row j) ∧ fX6_comes_b60 2000 x1 x2 x3 (nI 0) ss was beg asi sta txt typ att rea got row oth = fX6_comes_b60 (n + 1) x1 x2 x3 (nI 4) ss was beg asi sta txt typ att rea got row oth' := by
  refine z_loop (fun n i (s' : Nat → Int32) => fX6_comes_b60 n x1 x2 x3 (nI i) ss was beg asi sta txt typ att rea got row s') 4 (fun i s' => ∀ j, j < i → s' j = row j) (fun o => ∃ n oth', (∀ j, j < 4 → oth' j = row j) ∧ o = fX6_comes_b60 (n + 1) x1 x2 x3 (nI 4) ss was beg asi sta txt typ att rea got row oth') ?_ ?_ 2000 0 oth (by omega) (by omega) (fun j h => absurd h (by omega))
  · rintro n i s' hi h
    refine ⟨upd s' i (row i), fun j hj => ?_, ?_⟩
    · by_cases hji : j = i
      · subst hji; exact z_us
      · rw [z_un hji]; exact h j (by omega)
    · rw [fX6_comes_b60]
      simp (disch := omega) only [gl_0, gl_1, gl_2, gl_3, gl_4, gl_5, gl_6, gl_7, gl_8, gl_9, gl_10, gl_11, gl_12, gl_13, gl_14, gl_15, gl_16, gl_17, gl_18, gl_19, gl_20, gl_21, gl_22, gl_23, gl_24, gl_25, gl_26, gl_27, gl_28, gl_29, gl_30, gl_31, gl_32, gl_44, gl_48, gl_49, gl_57, gl_59, gl_60, gl_63, gl_70, gl_98, gl_99, gl_100, gl_101, gl_107, gl_109, gl_110, gl_111, gl_116, gl_120, gl_126, gl_155, gl_411, gl_999, gl_1000, gl_1233, gl_1644, gl_100000, gl_m1, nI_eq, nI_leI, nI_ltI, nI_add, nI_clamp, pk_mul, pk_sub, z_in, z_gt, z_bs, z_us, z_un, if_pos, if_neg, if_true, if_false, and_true, true_and, and_self, not_true_eq_false, not_false_eq_true]
  · rintro n s' h
    exact ⟨n, s', h, rfl⟩
theorem M_c120 {x1 x2 x3 : Int32} : ∃ n row', (∀ j, j < 4 → row' j = oth j) ∧ fX6_comes_b120 2000 x1 x2 x3 (nI 0) ss was beg asi sta txt typ att rea got row oth = fX6_comes_b120 (n + 1) x1 x2 x3 (nI 4) ss was beg asi sta txt typ att rea got row' oth := by
  refine z_loop (fun n i (s' : Nat → Int32) => fX6_comes_b120 n x1 x2 x3 (nI i) ss was beg asi sta txt typ att rea got s' oth) 4 (fun i s' => ∀ j, j < i → s' j = oth j) (fun o => ∃ n row', (∀ j, j < 4 → row' j = oth j) ∧ o = fX6_comes_b120 (n + 1) x1 x2 x3 (nI 4) ss was beg asi sta txt typ att rea got row' oth) ?_ ?_ 2000 0 row (by omega) (by omega) (fun j h => absurd h (by omega))
  · rintro n i s' hi h
    refine ⟨upd s' i (oth i), fun j hj => ?_, ?_⟩
    · by_cases hji : j = i
      · subst hji; exact z_us
      · rw [z_un hji]; exact h j (by omega)
    · rw [fX6_comes_b120]
      simp (disch := omega) only [gl_0, gl_1, gl_2, gl_3, gl_4, gl_5, gl_6, gl_7, gl_8, gl_9, gl_10, gl_11, gl_12, gl_13, gl_14, gl_15, gl_16, gl_17, gl_18, gl_19, gl_20, gl_21, gl_22, gl_23, gl_24, gl_25, gl_26, gl_27, gl_28, gl_29, gl_30, gl_31, gl_32, gl_44, gl_48, gl_49, gl_57, gl_59, gl_60, gl_63, gl_70, gl_98, gl_99, gl_100, gl_101, gl_107, gl_109, gl_110, gl_111, gl_116, gl_120, gl_126, gl_155, gl_411, gl_999, gl_1000, gl_1233, gl_1644, gl_100000, gl_m1, nI_eq, nI_leI, nI_ltI, nI_add, nI_clamp, pk_mul, pk_sub, z_in, z_gt, z_bs, z_us, z_un, if_pos, if_neg, if_true, if_false, and_true, true_and, and_self, not_true_eq_false, not_false_eq_true]
  · rintro n s' h
    exact ⟨n, s', h, rfl⟩
theorem M_c230 {b : Nat} (hb : b < 100) : ∃ n ss', (∀ j, 0 < j → j < 4 → ss' (b + 3 + j) = row j) ∧ (∀ i, (i < b + 4 ∨ b + 7 ≤ i) → ss' i = ss i) ∧ fX6_comes_b230 2000 (nI b) (nI 1) ss was beg asi sta txt typ att rea got row oth = fX6_comes_b230 (n + 1) (nI b) (nI 4) ss' was beg asi sta txt typ att rea got row oth := by
  refine z_loop (fun n i (s' : Nat → Int32) => fX6_comes_b230 n (nI b) (nI i) s' was beg asi sta txt typ att rea got row oth) 4 (fun i s' => 0 < i ∧ (∀ j, 0 < j → j < i → s' (b + 3 + j) = row j) ∧ ∀ j, (j < b + 4 ∨ b + 3 + i ≤ j) → s' j = ss j) (fun o => ∃ n ss', (∀ j, 0 < j → j < 4 → ss' (b + 3 + j) = row j) ∧ (∀ i, (i < b + 4 ∨ b + 7 ≤ i) → ss' i = ss i) ∧ o = fX6_comes_b230 (n + 1) (nI b) (nI 4) ss' was beg asi sta txt typ att rea got row oth) ?_ ?_ 2000 1 ss (by omega) (by omega) ⟨by omega, fun j _ h => absurd h (by omega), fun j _ => rfl⟩
  · rintro n i s' hi ⟨h0, h1, h2⟩
    refine ⟨upd s' (b + 3 + i) (row i), ⟨by omega, fun j hj0 hj => ?_, fun j hj => by rw [z_un (by omega)]; exact h2 j (by omega)⟩, ?_⟩
    · by_cases hji : j = i
      · subst hji; exact z_us
      · rw [z_un (by omega)]; exact h1 j hj0 (by omega)
    · rw [fX6_comes_b230]
      simp (disch := omega) only [gl_0, gl_1, gl_2, gl_3, gl_4, gl_5, gl_6, gl_7, gl_8, gl_9, gl_10, gl_11, gl_12, gl_13, gl_14, gl_15, gl_16, gl_17, gl_18, gl_19, gl_20, gl_21, gl_22, gl_23, gl_24, gl_25, gl_26, gl_27, gl_28, gl_29, gl_30, gl_31, gl_32, gl_44, gl_48, gl_49, gl_57, gl_59, gl_60, gl_63, gl_70, gl_98, gl_99, gl_100, gl_101, gl_107, gl_109, gl_110, gl_111, gl_116, gl_120, gl_126, gl_155, gl_411, gl_999, gl_1000, gl_1233, gl_1644, gl_100000, gl_m1, nI_eq, nI_leI, nI_ltI, nI_add, nI_clamp, pk_mul, pk_sub, z_in, z_gt, z_bs, z_us, z_un, if_pos, if_neg, if_true, if_false, and_true, true_and, and_self, not_true_eq_false, not_false_eq_true]
  · rintro n s' ⟨h0, h1, h2⟩
    exact ⟨n, s', h1, h2, rfl⟩
theorem M_comes {p l q k sh : Nat} {r : Int32} (hp : p ≤ 3) (hq : (p = 1 ∨ p = 2) → q < 8) (hk : k < 31) (hs : sh < 2) (hl : l < 100000) (hr0 : sh = 0 → zoo r) (hr1 : zok r) (hrow : RowIs row sh r) (h0 : ss 0 = nI p) (h1 : ss 1 = nI l) (h3 : ss 3 = nI q) : ∃ ss' row' oth', fX6_comes (nI k) (nI sh) (if r = zN then nI 1 else nI 0) ss was beg asi sta txt typ att rea got row oth = some (nI (l + 1), ss', was, beg, asi, sta, txt, typ, att, rea, got, row', oth') ∧ PutM ss ss' p l q k r := by
  have hf := zfst_lt p
  unfold fX6_comes
  have hb18 : fX6_comes (nI k) (nI sh) (if r = zN then nI 1 else nI 0) ss was beg asi sta txt typ att rea got row oth = fX6_comes_b18 (nI k) (nI sh) (if r = zN then nI 1 else nI 0) ss was beg asi sta txt typ att rea got row oth := by
    unfold fX6_comes
    rw [M_areBoth hp h0, z_bs]
    by_cases hb : p = 1 ∨ p = 2
    · have := hq hb
      rw [if_pos hb]
      simp (disch := omega) only [gl_0, gl_1, gl_2, gl_3, gl_4, gl_5, gl_6, gl_7, gl_8, gl_9, gl_10, gl_11, gl_12, gl_13, gl_14, gl_15, gl_16, gl_17, gl_18, gl_19, gl_20, gl_21, gl_22, gl_23, gl_24, gl_25, gl_26, gl_27, gl_28, gl_29, gl_30, gl_31, gl_32, gl_44, gl_48, gl_49, gl_57, gl_59, gl_60, gl_63, gl_70, gl_98, gl_99, gl_100, gl_101, gl_107, gl_109, gl_110, gl_111, gl_116, gl_120, gl_126, gl_155, gl_411, gl_999, gl_1000, gl_1233, gl_1644, gl_100000, gl_m1, nI_eq, nI_leI, nI_ltI, nI_add, nI_clamp, pk_mul, pk_sub, z_in, z_gt, z_bs, z_us, z_un, if_pos, if_neg, if_true, if_false, and_true, true_and, and_self, not_true_eq_false, not_false_eq_true, h3]
    · rw [if_neg hb]
      simp (disch := omega) only [gl_0, gl_1, gl_2, gl_3, gl_4, gl_5, gl_6, gl_7, gl_8, gl_9, gl_10, gl_11, gl_12, gl_13, gl_14, gl_15, gl_16, gl_17, gl_18, gl_19, gl_20, gl_21, gl_22, gl_23, gl_24, gl_25, gl_26, gl_27, gl_28, gl_29, gl_30, gl_31, gl_32, gl_44, gl_48, gl_49, gl_57, gl_59, gl_60, gl_63, gl_70, gl_98, gl_99, gl_100, gl_101, gl_107, gl_109, gl_110, gl_111, gl_116, gl_120, gl_126, gl_155, gl_411, gl_999, gl_1000, gl_1233, gl_1644, gl_100000, gl_m1, nI_eq, nI_leI, nI_ltI, nI_add, nI_clamp, pk_mul, pk_sub, z_in, z_gt, z_bs, z_us, z_un, if_pos, if_neg, if_true, if_false, and_true, true_and, and_self, not_true_eq_false, not_false_eq_true]
  unfold fX6_comes at hb18
  rw [hb18]
  unfold fX6_comes_b18
  simp (disch := omega) only [gl_0, gl_1, gl_2, gl_3, gl_4, gl_5, gl_6, gl_7, gl_8, gl_9, gl_10, gl_11, gl_12, gl_13, gl_14, gl_15, gl_16, gl_17, gl_18, gl_19, gl_20, gl_21, gl_22, gl_23, gl_24, gl_25, gl_26, gl_27, gl_28, gl_29, gl_30, gl_31, gl_32, gl_44, gl_48, gl_49, gl_57, gl_59, gl_60, gl_63, gl_70, gl_98, gl_99, gl_100, gl_101, gl_107, gl_109, gl_110, gl_111, gl_116, gl_120, gl_126, gl_155, gl_411, gl_999, gl_1000, gl_1233, gl_1644, gl_100000, gl_m1, nI_eq, nI_leI, nI_ltI, nI_add, nI_clamp, pk_mul, pk_sub, z_in, z_gt, z_bs, z_us, z_un, if_pos, if_neg, if_true, if_false, and_true, true_and, and_self, not_true_eq_false, not_false_eq_true, h1]
  obtain ⟨n1, oth1, ho1, e1⟩ := M_c60 (x1 := nI k) (x2 := nI sh) (x3 := if r = zN then nI 1 else nI 0) (ss := upd (upd ss 1 (nI (l + 1))) (70 + k) (nI (l + 1))) (was := was) (beg := beg) (asi := asi) (sta := sta) (txt := txt) (typ := typ) (att := att) (rea := rea) (got := got) (row := row) (oth := oth)
  rw [e1]
  clear e1 hb18
  have g0 : (upd (upd ss 1 (nI (l + 1))) (70 + k) (nI (l + 1))) 0 = nI p := by rw [z_un (by omega), z_un (by omega)]; exact h0
  have g1 : (upd (upd ss 1 (nI (l + 1))) (70 + k) (nI (l + 1))) 1 = nI (l + 1) := by rw [z_un (by omega), z_us]
  obtain ⟨row1, e2, hr2⟩ := M_makes (f := sh) (t := zfst p) (r := r) (ss := upd (upd ss 1 (nI (l + 1))) (70 + k) (nI (l + 1))) (was := was) (beg := beg) (asi := asi) (sta := sta) (txt := txt) (typ := typ) (att := att) (rea := rea) (got := got) (row := row) (oth := oth1) hs hf hr0 hr1 hrow
  obtain ⟨ss2, e3, q1, q2, q3⟩ := M_lays (sh := zfst p) (k := k) (v := nI (l + 1)) (ss := upd (upd ss 1 (nI (l + 1))) (70 + k) (nI (l + 1))) (was := was) (beg := beg) (asi := asi) (sta := sta) (txt := txt) (typ := typ) (att := att) (rea := rea) (got := got) (row := row1) (oth := oth1) hf hk (mo_zok hf hr1) hr2
  have s0 : ss2 0 = nI p := by rw [q3 0 (by omega), g0]
  have s1 : ss2 1 = nI (l + 1) := by rw [q3 1 (by omega), g1]
  have s3 : ss2 3 = nI q := by rw [q3 3 (by omega), z_un (by omega), z_un (by omega), h3]
  have s70 : ss2 (70 + k) = nI (l + 1) := by rw [q3 _ (by omega), z_us]
  rw [fX6_comes_b60]
  simp (disch := omega) only [gl_0, gl_1, gl_2, gl_3, gl_4, gl_5, gl_6, gl_7, gl_8, gl_9, gl_10, gl_11, gl_12, gl_13, gl_14, gl_15, gl_16, gl_17, gl_18, gl_19, gl_20, gl_21, gl_22, gl_23, gl_24, gl_25, gl_26, gl_27, gl_28, gl_29, gl_30, gl_31, gl_32, gl_44, gl_48, gl_49, gl_57, gl_59, gl_60, gl_63, gl_70, gl_98, gl_99, gl_100, gl_101, gl_107, gl_109, gl_110, gl_111, gl_116, gl_120, gl_126, gl_155, gl_411, gl_999, gl_1000, gl_1233, gl_1644, gl_100000, gl_m1, nI_eq, nI_leI, nI_ltI, nI_add, nI_clamp, pk_mul, pk_sub, z_in, z_gt, z_bs, z_us, z_un, if_pos, if_neg, if_true, if_false, and_true, true_and, and_self, not_true_eq_false, not_false_eq_true, M_first hp g0, e2, g1, e3, M_areBoth hp s0]
  by_cases hb : p = 1 ∨ p = 2
  · have hq8 := hq hb
    rw [if_pos hb]
    simp (disch := omega) only [gl_0, gl_1, gl_2, gl_3, gl_4, gl_5, gl_6, gl_7, gl_8, gl_9, gl_10, gl_11, gl_12, gl_13, gl_14, gl_15, gl_16, gl_17, gl_18, gl_19, gl_20, gl_21, gl_22, gl_23, gl_24, gl_25, gl_26, gl_27, gl_28, gl_29, gl_30, gl_31, gl_32, gl_44, gl_48, gl_49, gl_57, gl_59, gl_60, gl_63, gl_70, gl_98, gl_99, gl_100, gl_101, gl_107, gl_109, gl_110, gl_111, gl_116, gl_120, gl_126, gl_155, gl_411, gl_999, gl_1000, gl_1233, gl_1644, gl_100000, gl_m1, nI_eq, nI_leI, nI_ltI, nI_add, nI_clamp, pk_mul, pk_sub, z_in, z_gt, z_bs, z_us, z_un, if_pos, if_neg, if_true, if_false, and_true, true_and, and_self, not_true_eq_false, not_false_eq_true]
    obtain ⟨n2, row2, ho2, e4⟩ := M_c120 (x1 := nI k) (x2 := nI sh) (x3 := if r = zN then nI 1 else nI 0) (ss := ss2) (was := was) (beg := beg) (asi := asi) (sta := sta) (txt := txt) (typ := typ) (att := att) (rea := rea) (got := got) (row := row1) (oth := oth1)
    rw [e4]
    clear e4
    have hrow2 : RowIs row2 sh r := ⟨by rw [ho2 0 (by omega), ho1 0 (by omega)]; exact hrow.1, by rw [ho2 1 (by omega), ho1 1 (by omega)]; exact hrow.2.1, by rw [ho2 2 (by omega), ho1 2 (by omega)]; exact hrow.2.2.1, by rw [ho2 3 (by omega), ho1 3 (by omega)]; exact hrow.2.2.2⟩
    have hg := zsec_lt p
    have e1f : (nI 1 - nI (zfst p) : Int32) = nI (zsec p) := by rw [zsec_fst, pk_sub (by omega)]
    obtain ⟨row3, e5, hr3⟩ := M_makes (f := sh) (t := zsec p) (r := r) (ss := ss2) (was := was) (beg := beg) (asi := asi) (sta := sta) (txt := txt) (typ := typ) (att := att) (rea := rea) (got := got) (row := row2) (oth := oth1) hs hg hr0 hr1 hrow2
    have t0 : (upd (upd ss2 (14 + 7 * q) (nI k)) (14 + 7 * q + 1) (nI (l + 1))) 0 = nI p := by rw [z_un (by omega), z_un (by omega)]; exact s0
    rw [fX6_comes_b120]
    simp (disch := omega) only [gl_0, gl_1, gl_2, gl_3, gl_4, gl_5, gl_6, gl_7, gl_8, gl_9, gl_10, gl_11, gl_12, gl_13, gl_14, gl_15, gl_16, gl_17, gl_18, gl_19, gl_20, gl_21, gl_22, gl_23, gl_24, gl_25, gl_26, gl_27, gl_28, gl_29, gl_30, gl_31, gl_32, gl_44, gl_48, gl_49, gl_57, gl_59, gl_60, gl_63, gl_70, gl_98, gl_99, gl_100, gl_101, gl_107, gl_109, gl_110, gl_111, gl_116, gl_120, gl_126, gl_155, gl_411, gl_999, gl_1000, gl_1233, gl_1644, gl_100000, gl_m1, nI_leI, if_pos, M_first hp s0, z_bs, e1f, e5, s3, pk_mul, nI_add, z_in, z_gt, nI_clamp, z_un, s1, M_first hp t0]
    have key : ∀ d : Int32, (∀ (X : Int32), True) → ∃ ss' row' oth', fX6_comes_b230 2000 (nI (14 + 7 * q)) (nI 1) (upd (upd (upd (upd ss2 (14 + 7 * q) (nI k)) (14 + 7 * q + 1) (nI (l + 1))) (14 + 7 * q + 2) (nI (zsec p))) (14 + 7 * q + 3) d) was beg asi sta txt typ att rea got row3 oth1 = some (nI (l + 1), ss', was, beg, asi, sta, txt, typ, att, rea, got, row', oth') ∧ (d = (if r = zN then nI 1 else nI 0) → PutM ss ss' p l q k r) := by
      intro d _
      obtain ⟨n3, ss3, k1, k2, e6⟩ := M_c230 (b := 14 + 7 * q) (ss := upd (upd (upd (upd ss2 (14 + 7 * q) (nI k)) (14 + 7 * q + 1) (nI (l + 1))) (14 + 7 * q + 2) (nI (zsec p))) (14 + 7 * q + 3) d) (was := was) (beg := beg) (asi := asi) (sta := sta) (txt := txt) (typ := typ) (att := att) (rea := rea) (got := got) (row := row3) (oth := oth1) (by omega)
      rw [e6]
      rw [fX6_comes_b230]
      have u3 : ss3 3 = nI q := by rw [k2 3 (by omega), z_un (by omega), z_un (by omega), z_un (by omega), z_un (by omega)]; exact s3
      have u1 : ss3 1 = nI (l + 1) := by rw [k2 1 (by omega), z_un (by omega), z_un (by omega), z_un (by omega), z_un (by omega)]; exact s1
      simp (disch := omega) only [gl_0, gl_1, gl_2, gl_3, gl_4, gl_5, gl_6, gl_7, gl_8, gl_9, gl_10, gl_11, gl_12, gl_13, gl_14, gl_15, gl_16, gl_17, gl_18, gl_19, gl_20, gl_21, gl_22, gl_23, gl_24, gl_25, gl_26, gl_27, gl_28, gl_29, gl_30, gl_31, gl_32, gl_44, gl_48, gl_49, gl_57, gl_59, gl_60, gl_63, gl_70, gl_98, gl_99, gl_100, gl_101, gl_107, gl_109, gl_110, gl_111, gl_116, gl_120, gl_126, gl_155, gl_411, gl_999, gl_1000, gl_1233, gl_1644, gl_100000, gl_m1, nI_eq, nI_leI, nI_ltI, nI_add, nI_clamp, pk_mul, pk_sub, z_in, z_gt, z_bs, z_us, z_un, if_pos, if_neg, if_true, if_false, and_true, true_and, and_self, not_true_eq_false, not_false_eq_true, u3, u1]
      refine ⟨_, _, _, rfl, fun hd => ⟨?_, ?_, ?_, ?_, ?_, fun _ => ⟨z_us, ?_, ?_, ?_, ?_, ?_⟩, fun h => absurd hb h⟩⟩
      · intro i i0 i1 i3 i7 iq ik
        rw [z_un (by omega), k2 i (by omega), z_un (by omega), z_un (by omega), z_un (by omega), z_un (by omega), q3 i (by omega), z_un (by omega), z_un (by omega)]
      · rw [z_un (by omega)]; exact u1
      · rw [z_un (by omega), k2 _ (by omega), z_un (by omega), z_un (by omega), z_un (by omega), z_un (by omega)]; exact s70
      · rw [z_un (by omega), k2 _ (by omega), z_un (by omega), z_un (by omega), z_un (by omega), z_un (by omega)]; exact q1
      · obtain ⟨w0, w1, w2, w3⟩ := q2
        dsimp only at w0 w1 w2 w3
        refine ⟨?_, ?_, ?_, ?_⟩ <;> dsimp only <;> rw [z_un (by omega), k2 _ (by omega), z_un (by omega), z_un (by omega), z_un (by omega), z_un (by omega)]
        · exact w0
        · exact w1
        · exact w2
        · exact w3
      · rw [z_un (by omega), k2 _ (by omega), z_un (by omega), z_un (by omega), z_un (by omega), z_us]
      · rw [z_un (by omega), k2 _ (by omega), z_un (by omega), z_un (by omega), show 15 + 7 * q = 14 + 7 * q + 1 by omega, z_us]
      · rw [z_un (by omega), k2 _ (by omega), z_un (by omega), show 16 + 7 * q = 14 + 7 * q + 2 by omega, z_us]
      · rw [z_un (by omega), k2 _ (by omega), show 17 + 7 * q = 14 + 7 * q + 3 by omega, z_us]; exact hd
      · intro j j0 j4
        rw [z_un (by omega), show 17 + 7 * q + j = 14 + 7 * q + 3 + j by omega, k1 j j0 j4]
        obtain ⟨w0, w1, w2, w3⟩ := hr3
        rcases (show j = 1 ∨ j = 2 ∨ j = 3 by omega) with rfl | rfl | rfl
        · exact w1
        · exact w2
        · exact w3
    by_cases hrn : r = zN
    · obtain ⟨a, b, c, e, hput⟩ := key (nI 1) (fun _ => trivial)
      refine ⟨a, b, c, ?_, hput (by rw [if_pos hrn])⟩
      rw [if_pos hrn]
      simp (disch := omega) only [gl_0, gl_1, gl_2, gl_3, gl_4, gl_5, gl_6, gl_7, gl_8, gl_9, gl_10, gl_11, gl_12, gl_13, gl_14, gl_15, gl_16, gl_17, gl_18, gl_19, gl_20, gl_21, gl_22, gl_23, gl_24, gl_25, gl_26, gl_27, gl_28, gl_29, gl_30, gl_31, gl_32, gl_44, gl_48, gl_49, gl_57, gl_59, gl_60, gl_63, gl_70, gl_98, gl_99, gl_100, gl_101, gl_107, gl_109, gl_110, gl_111, gl_116, gl_120, gl_126, gl_155, gl_411, gl_999, gl_1000, gl_1233, gl_1644, gl_100000, gl_m1, nI_eq, nI_leI, nI_ltI, nI_add, nI_clamp, pk_mul, pk_sub, z_in, z_gt, z_bs, z_us, z_un, if_pos, if_neg, if_true, if_false, and_true, true_and, and_self, not_true_eq_false, not_false_eq_true, e]
    · obtain ⟨a, b, c, e, hput⟩ := key (nI 0) (fun _ => trivial)
      refine ⟨a, b, c, ?_, hput (by rw [if_neg hrn])⟩
      rw [if_neg hrn]
      simp (disch := omega) only [gl_0, gl_1, gl_2, gl_3, gl_4, gl_5, gl_6, gl_7, gl_8, gl_9, gl_10, gl_11, gl_12, gl_13, gl_14, gl_15, gl_16, gl_17, gl_18, gl_19, gl_20, gl_21, gl_22, gl_23, gl_24, gl_25, gl_26, gl_27, gl_28, gl_29, gl_30, gl_31, gl_32, gl_44, gl_48, gl_49, gl_57, gl_59, gl_60, gl_63, gl_70, gl_98, gl_99, gl_100, gl_101, gl_107, gl_109, gl_110, gl_111, gl_116, gl_120, gl_126, gl_155, gl_411, gl_999, gl_1000, gl_1233, gl_1644, gl_100000, gl_m1, nI_eq, nI_leI, nI_ltI, nI_add, nI_clamp, pk_mul, pk_sub, z_in, z_gt, z_bs, z_us, z_un, if_pos, if_neg, if_true, if_false, and_true, true_and, and_self, not_true_eq_false, not_false_eq_true, e]
  · rw [if_neg hb]
    simp (disch := omega) only [gl_0, gl_1, gl_2, gl_3, gl_4, gl_5, gl_6, gl_7, gl_8, gl_9, gl_10, gl_11, gl_12, gl_13, gl_14, gl_15, gl_16, gl_17, gl_18, gl_19, gl_20, gl_21, gl_22, gl_23, gl_24, gl_25, gl_26, gl_27, gl_28, gl_29, gl_30, gl_31, gl_32, gl_44, gl_48, gl_49, gl_57, gl_59, gl_60, gl_63, gl_70, gl_98, gl_99, gl_100, gl_101, gl_107, gl_109, gl_110, gl_111, gl_116, gl_120, gl_126, gl_155, gl_411, gl_999, gl_1000, gl_1233, gl_1644, gl_100000, gl_m1, nI_eq, nI_leI, nI_ltI, nI_add, nI_clamp, pk_mul, pk_sub, z_in, z_gt, z_bs, z_us, z_un, if_pos, if_neg, if_true, if_false, and_true, true_and, and_self, not_true_eq_false, not_false_eq_true, s1]
    refine ⟨_, _, _, rfl, ?_, s1, s70, q1, q2, fun h => absurd h hb, fun _ => s3⟩
    intro i i0 i1 i3 i7 iq ik
    rw [q3 i (by omega), z_un (by omega), z_un (by omega)]
end MD8
