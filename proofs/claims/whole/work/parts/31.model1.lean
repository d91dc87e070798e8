/-! the model's small methods -/
/-- what the model keeps of a row: whether there is one, and its numbers, in a shape -/
def zd (sh j : Nat) (r : Int32) : Int32 := if r = zN then nI 0 else match j with
  | 0 => nI 1
  | 1 => if sh = 0 then nI (r.toNatClampNeg / 4 / 10) else nI (r.toNatClampNeg / 4)
  | 2 => if sh = 0 then nI (r.toNatClampNeg / 4 % 10) else nI (r.toNatClampNeg % 4)
  | _ => if sh = 0 then nI (r.toNatClampNeg % 4) else nI 0
def RowIs (row : Nat → Int32) (sh : Nat) (r : Int32) : Prop := row 0 = zd sh 0 r ∧ row 1 = zd sh 1 r ∧ row 2 = zd sh 2 r ∧ row 3 = zd sh 3 r
def zok (r : Int32) : Prop := r = zN ∨ ∃ n, n < 4000 ∧ r = nI n
def zoo (r : Int32) : Prop := r = zN ∨ ∃ n, n < 4000 ∧ n % 4 ≤ 1 ∧ r = nI n
theorem zoo.ok {r : Int32} (h : zoo r) : zok r := by
  rcases h with h | ⟨n, h1, -, h2⟩
  · exact Or.inl h
  · exact Or.inr ⟨n, h1, h2⟩
theorem zd_N (sh j : Nat) : zd sh j zN = nI 0 := if_pos rfl
theorem zd_0 {n : Nat} (sh : Nat) (h : n < 2 ^ 31) : zd sh 0 (nI n) = nI 1 := if_neg (z_m1 h)
theorem zd_01 {n : Nat} (h : n < 2 ^ 31) : zd 0 1 (nI n) = nI (n / 4 / 10) := by
  unfold zd
  rw [if_neg (z_m1 h), nI_clamp h]
  rfl
theorem zd_02 {n : Nat} (h : n < 2 ^ 31) : zd 0 2 (nI n) = nI (n / 4 % 10) := by
  unfold zd
  rw [if_neg (z_m1 h), nI_clamp h]
  rfl
theorem zd_03 {n : Nat} (h : n < 2 ^ 31) : zd 0 3 (nI n) = nI (n % 4) := by
  unfold zd
  rw [if_neg (z_m1 h), nI_clamp h]
  rfl
theorem zd_11 {n : Nat} (h : n < 2 ^ 31) : zd 1 1 (nI n) = nI (n / 4) := by
  unfold zd
  rw [if_neg (z_m1 h), nI_clamp h]
  rfl
theorem zd_12 {n : Nat} (h : n < 2 ^ 31) : zd 1 2 (nI n) = nI (n % 4) := by
  unfold zd
  rw [if_neg (z_m1 h), nI_clamp h]
  rfl
theorem zd_13 {n : Nat} (h : n < 2 ^ 31) : zd 1 3 (nI n) = nI 0 := by
  unfold zd
  rw [if_neg (z_m1 h)]
  rfl
def zmo (n : Nat) : Nat := if n % 4 ≤ 1 then n else n - n % 4 + 1
theorem mo_N (sh : Int32) : mo zN sh = zN := by
  unfold mo
  by_cases h : sh = nI 1
  · rw [if_pos h]
  · rw [if_neg h, if_pos rfl]
theorem mo_1 (r : Int32) : mo r (nI 1) = r := if_pos rfl
theorem mo_0 {n : Nat} (h : n < 4000) : mo (nI n) (nI 0) = nI (zmo n) := by
  unfold mo zmo
  rw [if_neg (by decide), if_neg (z_m1 (by omega)), pk_rem (by omega) (by omega) (by omega)]
  by_cases h1 : n % 4 ≤ 1
  · rw [if_pos ((nI_leI (by omega) (by omega)).mpr h1), if_pos h1]
  · rw [if_neg (fun q => h1 ((nI_leI (by omega) (by omega)).mp q)), if_neg h1, pk_sub (by omega), nI_add]
theorem zmo_lt {n : Nat} (h : n < 4000) : zmo n < 4000 := by
  unfold zmo
  split <;> omega
theorem zmo_old {n : Nat} : zmo n % 4 ≤ 1 := by
  unfold zmo
  split <;> omega
theorem mo_zoo {r : Int32} (h : zok r) : zoo (mo r (nI 0)) := by
  rcases h with rfl | ⟨n, h1, rfl⟩
  · exact Or.inl (mo_N _)
  · exact Or.inr ⟨zmo n, zmo_lt h1, zmo_old, mo_0 h1⟩
theorem mo_old {r : Int32} (h : zoo r) : mo r (nI 0) = r := by
  rcases h with rfl | ⟨n, h1, h2, rfl⟩
  · exact mo_N _
  · rw [mo_0 h1]
    unfold zmo
    rw [if_pos h2]
theorem mo_zok {r : Int32} {sh : Nat} (hs : sh < 2) (h : zok r) : zok (mo r (nI sh)) := by
  rcases (show sh = 0 ∨ sh = 1 by omega) with rfl | rfl
  · exact (mo_zoo h).ok
  · rw [mo_1]
    exact h
section MD
variable {ss was beg asi : Nat → Int32} {sta : Int32} {txt : Nat → Int32} {typ att rea : Int32} {got row oth : Nat → Int32}
theorem M_of {sh k w : Nat} (hs : sh < 2) (hk : k < 31) (hw : w < 5) : fX6_of (nI sh) (nI k) (nI w) ss was beg asi sta txt typ att rea got row oth = some (ss (101 + 155 * sh + 5 * k + w)) := by
  simp (disch := omega) only [fX6_of, fX6_place, z_bs, gl_0, gl_1, gl_2, gl_3, gl_4, gl_5, gl_6, gl_7, gl_8, gl_9, gl_10, gl_11, gl_12, gl_13, gl_14, gl_15, gl_16, gl_17, gl_18, gl_19, gl_20, gl_21, gl_22, gl_23, gl_24, gl_25, gl_26, gl_27, gl_28, gl_29, gl_30, gl_31, gl_32, gl_44, gl_48, gl_49, gl_57, gl_59, gl_60, gl_63, gl_70, gl_98, gl_99, gl_100, gl_101, gl_107, gl_109, gl_110, gl_111, gl_116, gl_120, gl_126, gl_155, gl_411, gl_999, gl_1000, gl_1233, gl_1644, gl_100000, gl_m1, nI_add, pk_mul, z_in, z_gt, nI_clamp]
theorem M_isKey {x : Int32} : fX6_isKey x = some (if x < nI 0 then nI 0 else if nI 30 < x then nI 0 else nI 1) := by
  simp only [fX6_isKey, fX6_in, gl_0, gl_1, gl_2, gl_3, gl_4, gl_5, gl_6, gl_7, gl_8, gl_9, gl_10, gl_11, gl_12, gl_13, gl_14, gl_15, gl_16, gl_17, gl_18, gl_19, gl_20, gl_21, gl_22, gl_23, gl_24, gl_25, gl_26, gl_27, gl_28, gl_29, gl_30, gl_31, gl_32, gl_44, gl_48, gl_49, gl_57, gl_59, gl_60, gl_63, gl_70, gl_98, gl_99, gl_100, gl_101, gl_107, gl_109, gl_110, gl_111, gl_116, gl_120, gl_126, gl_155, gl_411, gl_999, gl_1000, gl_1233, gl_1644, gl_100000, gl_m1]
  by_cases h : x < nI 0
  · rw [if_pos h, if_pos h]
    rfl
  · rw [if_neg h, if_neg h]
    by_cases h2 : nI 30 < x
    · rw [if_pos h2, if_pos h2]
      rfl
    · rw [if_neg h2, if_neg h2]
      rfl
theorem M_takes {sh k : Nat} (hs : sh < 2) (hk : k < 31) : ∃ row', fX6_takes (nI sh) (nI k) ss was beg asi sta txt typ att rea got row oth = some (ss, was, beg, asi, sta, txt, typ, att, rea, got, row', oth) ∧ ∀ j, j < 4 → row' j = ss (102 + 155 * sh + 5 * k + j) := by
  unfold fX6_takes
  refine z_loop (fun n i (row : Nat → Int32) => fX6_takes_b2 n (nI sh) (nI k) (nI i) ss was beg asi sta txt typ att rea got row oth) 4 (fun i row => ∀ j, j < i → row j = ss (102 + 155 * sh + 5 * k + j)) (fun o => ∃ row', o = some (ss, was, beg, asi, sta, txt, typ, att, rea, got, row', oth) ∧ ∀ j, j < 4 → row' j = ss (102 + 155 * sh + 5 * k + j)) ?_ ?_ 2000 0 row (by omega) (by omega) (fun j hj => absurd hj (by omega))
  · intro n i row hi hrow
    refine ⟨upd row i (ss (102 + 155 * sh + 5 * k + i)), fun j hj => ?_, ?_⟩
    · by_cases h : j = i
      · subst h; exact z_us
      · rw [z_un h]; exact hrow j (by omega)
    · simp (disch := omega) only [fX6_takes_b2, gl_0, gl_1, gl_2, gl_3, gl_4, gl_5, gl_6, gl_7, gl_8, gl_9, gl_10, gl_11, gl_12, gl_13, gl_14, gl_15, gl_16, gl_17, gl_18, gl_19, gl_20, gl_21, gl_22, gl_23, gl_24, gl_25, gl_26, gl_27, gl_28, gl_29, gl_30, gl_31, gl_32, gl_44, gl_48, gl_49, gl_57, gl_59, gl_60, gl_63, gl_70, gl_98, gl_99, gl_100, gl_101, gl_107, gl_109, gl_110, gl_111, gl_116, gl_120, gl_126, gl_155, gl_411, gl_999, gl_1000, gl_1233, gl_1644, gl_100000, gl_m1, nI_add, nI_leI, M_of, z_bs, z_in, z_gt, nI_clamp]
      rw [if_neg (by omega), show 101 + 155 * sh + 5 * k + (1 + i) = 102 + 155 * sh + 5 * k + i by omega]
  · intro n row hrow
    refine ⟨row, ?_, hrow⟩
    simp (disch := omega) only [fX6_takes_b2, gl_0, gl_1, gl_2, gl_3, gl_4, gl_5, gl_6, gl_7, gl_8, gl_9, gl_10, gl_11, gl_12, gl_13, gl_14, gl_15, gl_16, gl_17, gl_18, gl_19, gl_20, gl_21, gl_22, gl_23, gl_24, gl_25, gl_26, gl_27, gl_28, gl_29, gl_30, gl_31, gl_32, gl_44, gl_48, gl_49, gl_57, gl_59, gl_60, gl_63, gl_70, gl_98, gl_99, gl_100, gl_101, gl_107, gl_109, gl_110, gl_111, gl_116, gl_120, gl_126, gl_155, gl_411, gl_999, gl_1000, gl_1233, gl_1644, gl_100000, gl_m1, nI_leI]
    rw [if_pos (by omega)]
theorem M_takesIs {sh k : Nat} (hs : sh < 2) (hk : k < 31) {r : Int32} (h : RowIs (fun j => ss (102 + 155 * sh + 5 * k + j)) sh r) : ∃ row', fX6_takes (nI sh) (nI k) ss was beg asi sta txt typ att rea got row oth = some (ss, was, beg, asi, sta, txt, typ, att, rea, got, row', oth) ∧ RowIs row' sh r := by
  obtain ⟨row', h1, h2⟩ := M_takes (ss := ss) (was := was) (beg := beg) (asi := asi) (sta := sta) (txt := txt) (typ := typ) (att := att) (rea := rea) (got := got) (row := row) (oth := oth) hs hk
  exact ⟨row', h1, by rw [h2 0 (by omega)]; exact h.1, by rw [h2 1 (by omega)]; exact h.2.1, by rw [h2 2 (by omega)]; exact h.2.2.1, by rw [h2 3 (by omega)]; exact h.2.2.2⟩
theorem M_makes {f t : Nat} (hf : f < 2) (ht : t < 2) {r : Int32} (hr : f = 0 → zoo r) (hr1 : zok r) (h : RowIs row f r) : ∃ row', fX6_makes (nI f) (nI t) ss was beg asi sta txt typ att rea got row oth = some (ss, was, beg, asi, sta, txt, typ, att, rea, got, row', oth) ∧ RowIs row' t (mo r (nI t)) := by
  obtain ⟨h0, h1, h2, h3⟩ := h
  rcases (show f = 0 ∨ f = 1 by omega) with rfl | rfl <;> rcases (show t = 0 ∨ t = 1 by omega) with rfl | rfl
  · refine ⟨row, ?_, ?_⟩
    · simp (disch := omega) only [fX6_makes, fX6_makes_b56, gl_0, gl_1, gl_2, gl_3, gl_4, gl_5, gl_6, gl_7, gl_8, gl_9, gl_10, gl_11, gl_12, gl_13, gl_14, gl_15, gl_16, gl_17, gl_18, gl_19, gl_20, gl_21, gl_22, gl_23, gl_24, gl_25, gl_26, gl_27, gl_28, gl_29, gl_30, gl_31, gl_32, gl_44, gl_48, gl_49, gl_57, gl_59, gl_60, gl_63, gl_70, gl_98, gl_99, gl_100, gl_101, gl_107, gl_109, gl_110, gl_111, gl_116, gl_120, gl_126, gl_155, gl_411, gl_999, gl_1000, gl_1233, gl_1644, gl_100000, gl_m1, z_in, z_gt, nI_clamp, nI_eq]
      simp
    · rw [mo_old (hr rfl)]
      exact ⟨h0, h1, h2, h3⟩
  · refine ⟨upd (upd (upd row 1 (nI 10 * row 1 + row 2)) 2 (row 3)) 3 (nI 0), ?_, ?_⟩
    · simp (disch := omega) only [fX6_makes, fX6_makes_b56, gl_0, gl_1, gl_2, gl_3, gl_4, gl_5, gl_6, gl_7, gl_8, gl_9, gl_10, gl_11, gl_12, gl_13, gl_14, gl_15, gl_16, gl_17, gl_18, gl_19, gl_20, gl_21, gl_22, gl_23, gl_24, gl_25, gl_26, gl_27, gl_28, gl_29, gl_30, gl_31, gl_32, gl_44, gl_48, gl_49, gl_57, gl_59, gl_60, gl_63, gl_70, gl_98, gl_99, gl_100, gl_101, gl_107, gl_109, gl_110, gl_111, gl_116, gl_120, gl_126, gl_155, gl_411, gl_999, gl_1000, gl_1233, gl_1644, gl_100000, gl_m1, z_in, z_gt, nI_clamp, nI_eq]
      simp [z_up]
    · rw [mo_1]
      rcases hr rfl with rfl | ⟨n, g1, g2, rfl⟩
      · simp only [zd_N] at h0 h1 h2 h3
        refine ⟨?_, ?_, ?_, ?_⟩ <;> simp [z_up, zd_N, h0, h1, h2, h3]
        decide
      · rw [zd_0 _ (by omega)] at h0
        rw [zd_01 (by omega)] at h1
        rw [zd_02 (by omega)] at h2
        rw [zd_03 (by omega)] at h3
        refine ⟨?_, ?_, ?_, ?_⟩
        · simp [z_up, zd_0 _ (show n < 2 ^ 31 by omega), h0]
        · simp only [z_up, zd_11 (show n < 2 ^ 31 by omega), h1, h2]
          simp [pk_mul, nI_add]
          congr 1
          omega
        · simp [z_up, zd_12 (show n < 2 ^ 31 by omega), h3]
        · simp [z_up, zd_13 (show n < 2 ^ 31 by omega)]
  · rcases hr1 with rfl | ⟨n, g1, rfl⟩
    · simp only [zd_N] at h0 h1 h2 h3
      refine ⟨upd (upd (upd row 1 (nI 0)) 2 (nI 0)) 3 (nI 0), ?_, ?_⟩
      · simp (disch := omega) only [fX6_makes, fX6_makes_b56, gl_0, gl_1, gl_2, gl_3, gl_4, gl_5, gl_6, gl_7, gl_8, gl_9, gl_10, gl_11, gl_12, gl_13, gl_14, gl_15, gl_16, gl_17, gl_18, gl_19, gl_20, gl_21, gl_22, gl_23, gl_24, gl_25, gl_26, gl_27, gl_28, gl_29, gl_30, gl_31, gl_32, gl_44, gl_48, gl_49, gl_57, gl_59, gl_60, gl_63, gl_70, gl_98, gl_99, gl_100, gl_101, gl_107, gl_109, gl_110, gl_111, gl_116, gl_120, gl_126, gl_155, gl_411, gl_999, gl_1000, gl_1233, gl_1644, gl_100000, gl_m1, z_in, z_gt, nI_clamp, nI_eq, h1, h2]
        simp
        simp only [show nI 0 / nI 10 = nI 0 by decide, show nI 0 - nI 0 * nI 10 = nI 0 by decide]
      · rw [mo_N]
        refine ⟨?_, ?_, ?_, ?_⟩ <;> simp [z_up, zd_N, h0]
    · rw [zd_0 _ (by omega)] at h0
      rw [zd_11 (by omega)] at h1
      rw [zd_12 (by omega)] at h2
      rw [zd_13 (by omega)] at h3
      have e2 := pk_rem (a := n / 4) (d := 10) (by omega) (by omega) (by omega)
      rw [pk_div (by omega) (by omega) (by omega)] at e2
      refine ⟨upd (upd (upd row 1 (nI (n / 4 / 10))) 2 (nI (n / 4 % 10))) 3 (if n % 4 = 0 then nI 0 else nI 1), ?_, ?_⟩
      · simp (disch := omega) only [fX6_makes, fX6_makes_b56, gl_0, gl_1, gl_2, gl_3, gl_4, gl_5, gl_6, gl_7, gl_8, gl_9, gl_10, gl_11, gl_12, gl_13, gl_14, gl_15, gl_16, gl_17, gl_18, gl_19, gl_20, gl_21, gl_22, gl_23, gl_24, gl_25, gl_26, gl_27, gl_28, gl_29, gl_30, gl_31, gl_32, gl_44, gl_48, gl_49, gl_57, gl_59, gl_60, gl_63, gl_70, gl_98, gl_99, gl_100, gl_101, gl_107, gl_109, gl_110, gl_111, gl_116, gl_120, gl_126, gl_155, gl_411, gl_999, gl_1000, gl_1233, gl_1644, gl_100000, gl_m1, z_in, z_gt, nI_clamp, nI_eq, h1, h2, pk_div, e2]
        by_cases hz : n % 4 = 0
        · simp [hz]
        · simp [hz]
      · rw [mo_0 g1]
        have hb := zmo_lt g1
        refine ⟨?_, ?_, ?_, ?_⟩
        · simp [z_up, zd_0 _ (show zmo n < 2 ^ 31 by omega), h0]
        · simp only [z_up, zd_01 (show zmo n < 2 ^ 31 by omega)]
          simp
          congr 1
          unfold zmo
          split <;> omega
        · simp only [z_up, zd_02 (show zmo n < 2 ^ 31 by omega)]
          simp
          congr 1
          unfold zmo
          split <;> omega
        · simp only [z_up, zd_03 (show zmo n < 2 ^ 31 by omega)]
          simp
          unfold zmo
          by_cases hz : n % 4 = 0
          · rw [if_pos hz, if_pos (by omega), hz]
          · rw [if_neg hz]
            congr 1
            split <;> omega
  · refine ⟨row, ?_, ?_⟩
    · simp (disch := omega) only [fX6_makes, fX6_makes_b56, gl_0, gl_1, gl_2, gl_3, gl_4, gl_5, gl_6, gl_7, gl_8, gl_9, gl_10, gl_11, gl_12, gl_13, gl_14, gl_15, gl_16, gl_17, gl_18, gl_19, gl_20, gl_21, gl_22, gl_23, gl_24, gl_25, gl_26, gl_27, gl_28, gl_29, gl_30, gl_31, gl_32, gl_44, gl_48, gl_49, gl_57, gl_59, gl_60, gl_63, gl_70, gl_98, gl_99, gl_100, gl_101, gl_107, gl_109, gl_110, gl_111, gl_116, gl_120, gl_126, gl_155, gl_411, gl_999, gl_1000, gl_1233, gl_1644, gl_100000, gl_m1, z_in, z_gt, nI_clamp, nI_eq]
      simp
    · rw [mo_1]
      exact ⟨h0, h1, h2, h3⟩
theorem M_lays {sh k : Nat} (hs : sh < 2) (hk : k < 31) {r v : Int32} (hr : zok r) (h : RowIs row sh r) : ∃ ss', fX6_lays (nI sh) (nI k) v ss was beg asi sta txt typ att rea got row oth = some (ss', was, beg, asi, sta, txt, typ, att, rea, got, row, oth) ∧ ss' (101 + 155 * sh + 5 * k) = v ∧ RowIs (fun j => ss' (102 + 155 * sh + 5 * k + j)) sh r ∧ ∀ i, (i < 101 + 155 * sh + 5 * k ∨ 106 + 155 * sh + 5 * k ≤ i) → ss' i = ss i := by
  obtain ⟨h0, h1, h2, h3⟩ := h
  have hrow : ∀ j, j < 4 → row j = zd sh j r := fun j hj => by
    rcases (show j = 0 ∨ j = 1 ∨ j = 2 ∨ j = 3 by omega) with rfl | rfl | rfl | rfl <;> assumption
  have hst : fX6_lays (nI sh) (nI k) v ss was beg asi sta txt typ att rea got row oth = fX6_lays_b20 2000 (nI (101 + 155 * sh + 5 * k)) (nI 0) (upd ss (101 + 155 * sh + 5 * k) v) was beg asi sta txt typ att rea got row oth := by
    simp (disch := omega) only [fX6_lays, fX6_place, z_bs, gl_0, gl_1, gl_2, gl_3, gl_4, gl_5, gl_6, gl_7, gl_8, gl_9, gl_10, gl_11, gl_12, gl_13, gl_14, gl_15, gl_16, gl_17, gl_18, gl_19, gl_20, gl_21, gl_22, gl_23, gl_24, gl_25, gl_26, gl_27, gl_28, gl_29, gl_30, gl_31, gl_32, gl_44, gl_48, gl_49, gl_57, gl_59, gl_60, gl_63, gl_70, gl_98, gl_99, gl_100, gl_101, gl_107, gl_109, gl_110, gl_111, gl_116, gl_120, gl_126, gl_155, gl_411, gl_999, gl_1000, gl_1233, gl_1644, gl_100000, gl_m1, nI_add, pk_mul, z_in, z_gt, nI_clamp, Nat.add_zero]
  rw [hst]
  refine z_loop (fun n i (ss : Nat → Int32) => fX6_lays_b20 n (nI (101 + 155 * sh + 5 * k)) (nI i) ss was beg asi sta txt typ att rea got row oth) 4 (fun i s' => s' (101 + 155 * sh + 5 * k) = v ∧ (∀ j, j < i → s' (102 + 155 * sh + 5 * k + j) = zd sh j r) ∧ ∀ i, (i < 101 + 155 * sh + 5 * k ∨ 106 + 155 * sh + 5 * k ≤ i) → s' i = ss i) (fun o => ∃ ss', o = some (ss', was, beg, asi, sta, txt, typ, att, rea, got, row, oth) ∧ ss' (101 + 155 * sh + 5 * k) = v ∧ RowIs (fun j => ss' (102 + 155 * sh + 5 * k + j)) sh r ∧ ∀ i, (i < 101 + 155 * sh + 5 * k ∨ 106 + 155 * sh + 5 * k ≤ i) → ss' i = ss i) ?_ ?_ 2000 0 _ (by omega) (by omega) ⟨z_us, fun j hj => absurd hj (by omega), fun i hi => z_un (by omega)⟩
  · intro n i s' hi ⟨g0, g1, g2⟩
    refine ⟨upd s' (102 + 155 * sh + 5 * k + i) (zd sh i r), ⟨by rw [z_un (by omega)]; exact g0, fun j hj => ?_, fun m hm => by rw [z_un (by omega)]; exact g2 m hm⟩, ?_⟩
    · by_cases hj2 : j = i
      · subst hj2; exact z_us
      · rw [z_un (by omega)]; exact g1 j (by omega)
    · simp (disch := omega) only [fX6_lays_b20, gl_0, gl_1, gl_2, gl_3, gl_4, gl_5, gl_6, gl_7, gl_8, gl_9, gl_10, gl_11, gl_12, gl_13, gl_14, gl_15, gl_16, gl_17, gl_18, gl_19, gl_20, gl_21, gl_22, gl_23, gl_24, gl_25, gl_26, gl_27, gl_28, gl_29, gl_30, gl_31, gl_32, gl_44, gl_48, gl_49, gl_57, gl_59, gl_60, gl_63, gl_70, gl_98, gl_99, gl_100, gl_101, gl_107, gl_109, gl_110, gl_111, gl_116, gl_120, gl_126, gl_155, gl_411, gl_999, gl_1000, gl_1233, gl_1644, gl_100000, gl_m1, nI_add, nI_leI, z_in, z_gt, nI_clamp, h0, hrow]
      rw [if_neg (by omega), show 101 + 155 * sh + 5 * k + 1 + i = 102 + 155 * sh + 5 * k + i by omega]
      rcases hr with rfl | ⟨q, q1, rfl⟩
      · rw [zd_N, if_pos rfl, zd_N]
      · rw [zd_0 _ (by omega), if_neg (by decide)]
  · intro n s' ⟨g0, g1, g2⟩
    refine ⟨s', ?_, g0, ⟨g1 0 (by omega), g1 1 (by omega), g1 2 (by omega), g1 3 (by omega)⟩, g2⟩
    simp (disch := omega) only [fX6_lays_b20, gl_0, gl_1, gl_2, gl_3, gl_4, gl_5, gl_6, gl_7, gl_8, gl_9, gl_10, gl_11, gl_12, gl_13, gl_14, gl_15, gl_16, gl_17, gl_18, gl_19, gl_20, gl_21, gl_22, gl_23, gl_24, gl_25, gl_26, gl_27, gl_28, gl_29, gl_30, gl_31, gl_32, gl_44, gl_48, gl_49, gl_57, gl_59, gl_60, gl_63, gl_70, gl_98, gl_99, gl_100, gl_101, gl_107, gl_109, gl_110, gl_111, gl_116, gl_120, gl_126, gl_155, gl_411, gl_999, gl_1000, gl_1233, gl_1644, gl_100000, gl_m1, nI_leI]
    rw [if_pos (by omega)]
end MD
