/-! texts: the form of an order -/
section T3
variable {ss was beg asi : Nat → Int32} {sta : Int32} {txt : Nat → Int32} {att rea : Int32} {row oth : Nat → Int32} {L : Nat} {tx : Nat → Int32} {gi pl re ki : Int32}
theorem M_is0 {x2 x4 typ : Int32} {got : Nat → Int32} (n : Nat) : fX6_readsForm_b79 (n + 1) x2 (nI 0) x4 ss was beg asi sta txt typ att rea got row oth = some (nI 0, ss, was, beg, asi, sta, txt, typ, att, rea, got, row, oth) := by
  have e : fX6_readsForm_b124 (nI 0) ss was beg asi sta txt typ att rea got row oth = some (nI 0, ss, was, beg, asi, sta, txt, typ, att, rea, got, row, oth) := by
    unfold fX6_readsForm_b124
    simp (disch := omega) only [gl_0, gl_1, gl_2, gl_3, gl_4, gl_5, gl_6, gl_7, gl_8, gl_9, gl_10, gl_11, gl_12, gl_13, gl_14, gl_15, gl_16, gl_17, gl_18, gl_19, gl_20, gl_21, gl_22, gl_23, gl_24, gl_25, gl_26, gl_27, gl_28, gl_29, gl_30, gl_31, gl_32, gl_44, gl_48, gl_49, gl_57, gl_59, gl_60, gl_63, gl_70, gl_98, gl_99, gl_100, gl_101, gl_107, gl_109, gl_110, gl_111, gl_116, gl_120, gl_126, gl_155, gl_411, gl_999, gl_1000, gl_1233, gl_1644, gl_100000, gl_m1, nI_eq, nI_leI, nI_ltI, nI_add, nI_clamp, pk_mul, pk_sub, z_in, z_gt, z_bs, z_us, z_un, if_pos, if_neg, if_true, if_false, and_true, true_and, and_self, not_true_eq_false, not_false_eq_true]
  rw [fX6_readsForm_b79, e]
  by_cases h : x2 ≤ x4
  · rw [if_pos h]
  · rw [if_neg h, if_pos gl_0.symm]
theorem S_digits {k b : Nat} {got : Nat → Int32} (hL : L ≤ 60) (ht : ∀ i, i < L → tx i = txt i) (hk : k < 4) (hb : b ≤ L) : ∃ e, b ≤ e ∧ e ≤ L ∧ (∀ nu : Nat → Int32, fX0_digitsEnd (nI b) (nI L) tx gi pl re ki nu = some (nI e) ∧ fX0_valueOf (nI b) (nI e) (nI L) tx gi pl re ki nu = some (zval txt b (e - b))) ∧ ∃ got', fX6_number (nI k) ss was beg asi sta txt (nI L) (nI b) rea got row oth = some (if e ≤ b then nI 0 else nI 1, ss, was, beg, asi, sta, txt, nI L, nI e, rea, got', row, oth) ∧ got' k = zval txt b (e - b) ∧ ∀ i, i ≠ k → got' i = got i := by
  obtain ⟨e, h1, h2, h3, h4⟩ := z_nextB (fun i => ¬ (i < L ∧ zdig (txt i))) (b + 3) 3 b rfl
  have h3 : ∀ i, b ≤ i → i < e → i < L ∧ zdig (txt i) := fun i i1 i2 => Decidable.not_not.1 (h3 i i1 i2)
  have heL : e ≤ L := by
    rcases Nat.eq_or_lt_of_le h1 with h | h
    · omega
    · have := (h3 (e - 1) (by omega) (by omega)).1
      omega
  have h3' : ∀ i, b ≤ i → i < e → i < L ∧ zdig (tx i) := fun i i1 i2 => by
    have := h3 i i1 i2
    rw [ht i this.1]
    exact this
  have h4' : e < b + 3 → ¬ (e < L ∧ zdig (tx e)) := fun h hh => h4 h (by rw [← ht e hh.1]; exact hh)
  refine ⟨e, h1, heL, fun nu => ⟨C_digitsEnd hL (by omega) h1 h2 h3' h4', ?_⟩, M_number hL hk (by omega) h1 h2 h3 h4⟩
  rw [C_valueOf hL (by omega) h1 h2 (fun i i1 i2 => (h3 i i1 i2).1), zval_congr (e - b) (fun i i1 i2 => ht i (by omega))]
theorem S_form {m : Nat} (hL : L ≤ 60) (ht : ∀ i, i < L → tx i = txt i) (hm : m ≤ 4) : ∀ (d k b : Nat) (nu got : Nat → Int32), k + d = m → b ≤ L → (∀ i, i < k → nu i = got i) → ∀ n n', ((∃ nu', fX0_readOrder_b31 (n + d + 1) (nI m) (nI b) (nI k) (nI L) tx gi pl re ki nu = some (zN, nI L, tx, gi, pl, re, ki, nu')) ∧ ∃ att' got', fX6_readsForm_b79 (n' + d + 1) (nI m) (nI 1) (nI k) ss was beg asi sta txt (nI L) (nI b) rea got row oth = some (nI 0, ss, was, beg, asi, sta, txt, nI L, att', rea, got', row, oth)) ∨ (∃ e nu' got', b < e ∧ e ≤ L ∧ fX0_readOrder_b31 (n + d + 1) (nI m) (nI b) (nI k) (nI L) tx gi pl re ki nu = some (nI e, nI L, tx, gi, pl, re, ki, nu') ∧ fX6_readsForm_b79 (n' + d + 1) (nI m) (nI 1) (nI k) ss was beg asi sta txt (nI L) (nI b) rea got row oth = some (nI 1, ss, was, beg, asi, sta, txt, nI L, nI e, rea, got', row, oth) ∧ ∀ i, i < m → nu' i = got' i) := by
  intro d
  induction d with
  | zero =>
    intro k b nu got hk hb hnu n n'
    have hkm : k = m := by omega
    subst hkm
    rw [fX0_readOrder_b31, fX6_readsForm_b79]
    by_cases hc : b < L ∧ txt b = nI 59
    · refine Or.inr ⟨b + 1, nu, got, by omega, by omega, ?_, ?_, hnu⟩
      · have h1 := ht b hc.1
        rw [hc.2] at h1
        have hc1 := hc.1
        simp (disch := omega) only [gl_0, gl_1, gl_2, gl_3, gl_4, gl_5, gl_6, gl_7, gl_8, gl_9, gl_10, gl_11, gl_12, gl_13, gl_14, gl_15, gl_16, gl_17, gl_18, gl_19, gl_20, gl_21, gl_22, gl_23, gl_24, gl_25, gl_26, gl_27, gl_28, gl_29, gl_30, gl_31, gl_32, gl_44, gl_48, gl_49, gl_57, gl_59, gl_60, gl_63, gl_70, gl_98, gl_99, gl_100, gl_101, gl_107, gl_109, gl_110, gl_111, gl_116, gl_120, gl_126, gl_155, gl_411, gl_999, gl_1000, gl_1233, gl_1644, gl_100000, gl_m1, nI_eq, nI_leI, nI_ltI, nI_add, nI_clamp, pk_mul, pk_sub, z_in, z_gt, z_bs, z_us, z_un, if_pos, if_neg, if_true, if_false, and_true, true_and, and_self, not_true_eq_false, not_false_eq_true, C_signAt hL (show b < 1000 by omega), h1]
      · simp (disch := omega) only [gl_0, gl_1, gl_2, gl_3, gl_4, gl_5, gl_6, gl_7, gl_8, gl_9, gl_10, gl_11, gl_12, gl_13, gl_14, gl_15, gl_16, gl_17, gl_18, gl_19, gl_20, gl_21, gl_22, gl_23, gl_24, gl_25, gl_26, gl_27, gl_28, gl_29, gl_30, gl_31, gl_32, gl_44, gl_48, gl_49, gl_57, gl_59, gl_60, gl_63, gl_70, gl_98, gl_99, gl_100, gl_101, gl_107, gl_109, gl_110, gl_111, gl_116, gl_120, gl_126, gl_155, gl_411, gl_999, gl_1000, gl_1233, gl_1644, gl_100000, gl_m1, nI_eq, nI_leI, nI_ltI, nI_add, nI_clamp, pk_mul, pk_sub, z_in, z_gt, z_bs, z_us, z_un, if_pos, if_neg, if_true, if_false, and_true, true_and, and_self, not_true_eq_false, not_false_eq_true, fX6_readsForm_b124, M_has_y hL hc.1 hc.2]
    · refine Or.inl ⟨⟨nu, ?_⟩, nI b, got, ?_⟩
      · have hz : ¬ zN = nI 59 := by decide
        by_cases hbL : b < L
        · have h1 : ¬ tx b = nI 59 := fun h => hc ⟨hbL, by rw [← ht b hbL]; exact h⟩
          simp (disch := omega) only [gl_0, gl_1, gl_2, gl_3, gl_4, gl_5, gl_6, gl_7, gl_8, gl_9, gl_10, gl_11, gl_12, gl_13, gl_14, gl_15, gl_16, gl_17, gl_18, gl_19, gl_20, gl_21, gl_22, gl_23, gl_24, gl_25, gl_26, gl_27, gl_28, gl_29, gl_30, gl_31, gl_32, gl_44, gl_48, gl_49, gl_57, gl_59, gl_60, gl_63, gl_70, gl_98, gl_99, gl_100, gl_101, gl_107, gl_109, gl_110, gl_111, gl_116, gl_120, gl_126, gl_155, gl_411, gl_999, gl_1000, gl_1233, gl_1644, gl_100000, gl_m1, nI_eq, nI_leI, nI_ltI, nI_add, nI_clamp, pk_mul, pk_sub, z_in, z_gt, z_bs, z_us, z_un, if_pos, if_neg, if_true, if_false, and_true, true_and, and_self, not_true_eq_false, not_false_eq_true, C_signAt hL (show b < 1000 by omega), h1]
        · simp (disch := omega) only [gl_0, gl_1, gl_2, gl_3, gl_4, gl_5, gl_6, gl_7, gl_8, gl_9, gl_10, gl_11, gl_12, gl_13, gl_14, gl_15, gl_16, gl_17, gl_18, gl_19, gl_20, gl_21, gl_22, gl_23, gl_24, gl_25, gl_26, gl_27, gl_28, gl_29, gl_30, gl_31, gl_32, gl_44, gl_48, gl_49, gl_57, gl_59, gl_60, gl_63, gl_70, gl_98, gl_99, gl_100, gl_101, gl_107, gl_109, gl_110, gl_111, gl_116, gl_120, gl_126, gl_155, gl_411, gl_999, gl_1000, gl_1233, gl_1644, gl_100000, gl_m1, nI_eq, nI_leI, nI_ltI, nI_add, nI_clamp, pk_mul, pk_sub, z_in, z_gt, z_bs, z_us, z_un, if_pos, if_neg, if_true, if_false, and_true, true_and, and_self, not_true_eq_false, not_false_eq_true, C_signAt hL (show b < 1000 by omega), hz]
      · simp (disch := omega) only [gl_0, gl_1, gl_2, gl_3, gl_4, gl_5, gl_6, gl_7, gl_8, gl_9, gl_10, gl_11, gl_12, gl_13, gl_14, gl_15, gl_16, gl_17, gl_18, gl_19, gl_20, gl_21, gl_22, gl_23, gl_24, gl_25, gl_26, gl_27, gl_28, gl_29, gl_30, gl_31, gl_32, gl_44, gl_48, gl_49, gl_57, gl_59, gl_60, gl_63, gl_70, gl_98, gl_99, gl_100, gl_101, gl_107, gl_109, gl_110, gl_111, gl_116, gl_120, gl_126, gl_155, gl_411, gl_999, gl_1000, gl_1233, gl_1644, gl_100000, gl_m1, nI_eq, nI_leI, nI_ltI, nI_add, nI_clamp, pk_mul, pk_sub, z_in, z_gt, z_bs, z_us, z_un, if_pos, if_neg, if_true, if_false, and_true, true_and, and_self, not_true_eq_false, not_false_eq_true, fX6_readsForm_b124, M_has_n hL (show b < 100 by omega) hc]
  | succ d ih =>
    intro k b nu got hk hb hnu n n'
    have hD : ∀ b', b ≤ b' → b' ≤ L → ∀ oC oM, (∀ e v, b' ≤ e → e ≤ L → fX0_digitsEnd (nI b') (nI L) tx gi pl re ki nu = some (nI e) → fX0_valueOf (nI b') (nI e) (nI L) tx gi pl re ki nu = some v → oC = if e = b' then some (zN, nI L, tx, gi, pl, re, ki, nu) else fX0_readOrder_b31 (n + d + 1) (nI m) (nI e) (nI (k + 1)) (nI L) tx gi pl re ki (upd nu k v)) → (∀ e got', fX6_number (nI k) ss was beg asi sta txt (nI L) (nI b') rea got row oth = some (if e ≤ b' then nI 0 else nI 1, ss, was, beg, asi, sta, txt, nI L, nI e, rea, got', row, oth) → oM = fX6_readsForm_b79 (n' + d + 1) (nI m) (if e ≤ b' then nI 0 else nI 1) (nI (k + 1)) ss was beg asi sta txt (nI L) (nI e) rea got' row oth) → ((∃ nu', oC = some (zN, nI L, tx, gi, pl, re, ki, nu')) ∧ ∃ att' got', oM = some (nI 0, ss, was, beg, asi, sta, txt, nI L, att', rea, got', row, oth)) ∨ (∃ e nu' got', b < e ∧ e ≤ L ∧ oC = some (nI e, nI L, tx, gi, pl, re, ki, nu') ∧ oM = some (nI 1, ss, was, beg, asi, sta, txt, nI L, nI e, rea, got', row, oth) ∧ ∀ i, i < m → nu' i = got' i) := by
      intro b' hbb hbL oC oM hC hM
      obtain ⟨e, h1, h2, hnum, got', hm2, hg1, hg2⟩ := S_digits (k := k) (b := b') (ss := ss) (was := was) (beg := beg) (asi := asi) (sta := sta) (rea := rea) (row := row) (oth := oth) (got := got) (gi := gi) (pl := pl) (re := re) (ki := ki) hL ht (by omega) hbL
      rw [hC e _ h1 h2 (hnum nu).1 (hnum nu).2, hM e got' hm2]
      by_cases he : e = b'
      · rw [if_pos he, if_pos (show e ≤ b' by omega), M_is0]
        exact Or.inl ⟨⟨nu, rfl⟩, _, _, rfl⟩
      · rw [if_neg he, if_neg (show ¬ e ≤ b' by omega)]
        rcases ih (k + 1) e (upd nu k (zval txt b' (e - b'))) got' (by omega) h2 (fun i hi => by
          by_cases hik : i = k
          · subst hik; rw [z_us, hg1]
          · rw [z_un hik, hg2 i hik]; exact hnu i (by omega)) n n' with h | ⟨e', nu', got'', x1, x2, x3⟩
        · exact Or.inl h
        · exact Or.inr ⟨e', nu', got'', by omega, x2, x3⟩
    by_cases hk0 : k = 0
    · subst hk0
      refine hD b (Nat.le_refl b) hb _ _ (fun e v he heL h1 h2 => ?_) (fun e got' h => ?_)
      · rw [show n + (d + 1) + 1 = (n + d + 1) + 1 by omega, fX0_readOrder_b31]
        by_cases heb : e = b
        · simp (disch := omega) only [gl_0, gl_1, gl_2, gl_3, gl_4, gl_5, gl_6, gl_7, gl_8, gl_9, gl_10, gl_11, gl_12, gl_13, gl_14, gl_15, gl_16, gl_17, gl_18, gl_19, gl_20, gl_21, gl_22, gl_23, gl_24, gl_25, gl_26, gl_27, gl_28, gl_29, gl_30, gl_31, gl_32, gl_44, gl_48, gl_49, gl_57, gl_59, gl_60, gl_63, gl_70, gl_98, gl_99, gl_100, gl_101, gl_107, gl_109, gl_110, gl_111, gl_116, gl_120, gl_126, gl_155, gl_411, gl_999, gl_1000, gl_1233, gl_1644, gl_100000, gl_m1, nI_eq, nI_leI, nI_ltI, nI_add, nI_clamp, pk_mul, pk_sub, z_in, z_gt, z_bs, z_us, z_un, if_pos, if_neg, if_true, if_false, and_true, true_and, and_self, not_true_eq_false, not_false_eq_true, h1, heb]
        · simp (disch := omega) only [gl_0, gl_1, gl_2, gl_3, gl_4, gl_5, gl_6, gl_7, gl_8, gl_9, gl_10, gl_11, gl_12, gl_13, gl_14, gl_15, gl_16, gl_17, gl_18, gl_19, gl_20, gl_21, gl_22, gl_23, gl_24, gl_25, gl_26, gl_27, gl_28, gl_29, gl_30, gl_31, gl_32, gl_44, gl_48, gl_49, gl_57, gl_59, gl_60, gl_63, gl_70, gl_98, gl_99, gl_100, gl_101, gl_107, gl_109, gl_110, gl_111, gl_116, gl_120, gl_126, gl_155, gl_411, gl_999, gl_1000, gl_1233, gl_1644, gl_100000, gl_m1, nI_eq, nI_leI, nI_ltI, nI_add, nI_clamp, pk_mul, pk_sub, z_in, z_gt, z_bs, z_us, z_un, if_pos, if_neg, if_true, if_false, and_true, true_and, and_self, not_true_eq_false, not_false_eq_true, h1, h2]
      · rw [show n' + (d + 1) + 1 = (n' + d + 1) + 1 by omega, fX6_readsForm_b79]
        by_cases heb : e ≤ b
        · rw [if_pos heb] at h
          simp (disch := omega) only [gl_0, gl_1, gl_2, gl_3, gl_4, gl_5, gl_6, gl_7, gl_8, gl_9, gl_10, gl_11, gl_12, gl_13, gl_14, gl_15, gl_16, gl_17, gl_18, gl_19, gl_20, gl_21, gl_22, gl_23, gl_24, gl_25, gl_26, gl_27, gl_28, gl_29, gl_30, gl_31, gl_32, gl_44, gl_48, gl_49, gl_57, gl_59, gl_60, gl_63, gl_70, gl_98, gl_99, gl_100, gl_101, gl_107, gl_109, gl_110, gl_111, gl_116, gl_120, gl_126, gl_155, gl_411, gl_999, gl_1000, gl_1233, gl_1644, gl_100000, gl_m1, nI_eq, nI_leI, nI_ltI, nI_add, nI_clamp, pk_mul, pk_sub, z_in, z_gt, z_bs, z_us, z_un, if_pos, if_neg, if_true, if_false, and_true, true_and, and_self, not_true_eq_false, not_false_eq_true, h]
        · rw [if_neg heb] at h
          simp (disch := omega) only [gl_0, gl_1, gl_2, gl_3, gl_4, gl_5, gl_6, gl_7, gl_8, gl_9, gl_10, gl_11, gl_12, gl_13, gl_14, gl_15, gl_16, gl_17, gl_18, gl_19, gl_20, gl_21, gl_22, gl_23, gl_24, gl_25, gl_26, gl_27, gl_28, gl_29, gl_30, gl_31, gl_32, gl_44, gl_48, gl_49, gl_57, gl_59, gl_60, gl_63, gl_70, gl_98, gl_99, gl_100, gl_101, gl_107, gl_109, gl_110, gl_111, gl_116, gl_120, gl_126, gl_155, gl_411, gl_999, gl_1000, gl_1233, gl_1644, gl_100000, gl_m1, nI_eq, nI_leI, nI_ltI, nI_add, nI_clamp, pk_mul, pk_sub, z_in, z_gt, z_bs, z_us, z_un, if_pos, if_neg, if_true, if_false, and_true, true_and, and_self, not_true_eq_false, not_false_eq_true, h]
    · by_cases hc : b < L ∧ txt b = nI 44
      · have hc1 := hc.1
        have hc2 := ht b hc.1
        rw [hc.2] at hc2
        refine hD (b + 1) (by omega) (by omega) _ _ (fun e v he heL h1 h2 => ?_) (fun e got' h => ?_)
        · rw [show n + (d + 1) + 1 = (n + d + 1) + 1 by omega, fX0_readOrder_b31]
          by_cases heb : e = b + 1
          · rw [heb] at h1
            simp (disch := omega) only [gl_0, gl_1, gl_2, gl_3, gl_4, gl_5, gl_6, gl_7, gl_8, gl_9, gl_10, gl_11, gl_12, gl_13, gl_14, gl_15, gl_16, gl_17, gl_18, gl_19, gl_20, gl_21, gl_22, gl_23, gl_24, gl_25, gl_26, gl_27, gl_28, gl_29, gl_30, gl_31, gl_32, gl_44, gl_48, gl_49, gl_57, gl_59, gl_60, gl_63, gl_70, gl_98, gl_99, gl_100, gl_101, gl_107, gl_109, gl_110, gl_111, gl_116, gl_120, gl_126, gl_155, gl_411, gl_999, gl_1000, gl_1233, gl_1644, gl_100000, gl_m1, nI_eq, nI_leI, nI_ltI, nI_add, nI_clamp, pk_mul, pk_sub, z_in, z_gt, z_bs, z_us, z_un, if_pos, if_neg, if_true, if_false, and_true, true_and, and_self, not_true_eq_false, not_false_eq_true, C_signAt hL (show b < 1000 by omega), hc2, h1, heb]
          · simp (disch := omega) only [gl_0, gl_1, gl_2, gl_3, gl_4, gl_5, gl_6, gl_7, gl_8, gl_9, gl_10, gl_11, gl_12, gl_13, gl_14, gl_15, gl_16, gl_17, gl_18, gl_19, gl_20, gl_21, gl_22, gl_23, gl_24, gl_25, gl_26, gl_27, gl_28, gl_29, gl_30, gl_31, gl_32, gl_44, gl_48, gl_49, gl_57, gl_59, gl_60, gl_63, gl_70, gl_98, gl_99, gl_100, gl_101, gl_107, gl_109, gl_110, gl_111, gl_116, gl_120, gl_126, gl_155, gl_411, gl_999, gl_1000, gl_1233, gl_1644, gl_100000, gl_m1, nI_eq, nI_leI, nI_ltI, nI_add, nI_clamp, pk_mul, pk_sub, z_in, z_gt, z_bs, z_us, z_un, if_pos, if_neg, if_true, if_false, and_true, true_and, and_self, not_true_eq_false, not_false_eq_true, C_signAt hL (show b < 1000 by omega), hc2, h1, h2]
        · rw [show n' + (d + 1) + 1 = (n' + d + 1) + 1 by omega, fX6_readsForm_b79]
          have hy := M_has_y (ss := ss) (was := was) (beg := beg) (asi := asi) (sta := sta) (rea := rea) (row := row) (oth := oth) (got := got) hL hc.1 hc.2
          by_cases heb : e ≤ b + 1
          · rw [if_pos heb] at h
            simp (disch := omega) only [gl_0, gl_1, gl_2, gl_3, gl_4, gl_5, gl_6, gl_7, gl_8, gl_9, gl_10, gl_11, gl_12, gl_13, gl_14, gl_15, gl_16, gl_17, gl_18, gl_19, gl_20, gl_21, gl_22, gl_23, gl_24, gl_25, gl_26, gl_27, gl_28, gl_29, gl_30, gl_31, gl_32, gl_44, gl_48, gl_49, gl_57, gl_59, gl_60, gl_63, gl_70, gl_98, gl_99, gl_100, gl_101, gl_107, gl_109, gl_110, gl_111, gl_116, gl_120, gl_126, gl_155, gl_411, gl_999, gl_1000, gl_1233, gl_1644, gl_100000, gl_m1, nI_eq, nI_leI, nI_ltI, nI_add, nI_clamp, pk_mul, pk_sub, z_in, z_gt, z_bs, z_us, z_un, if_pos, if_neg, if_true, if_false, and_true, true_and, and_self, not_true_eq_false, not_false_eq_true, hy, h]
          · rw [if_neg heb] at h
            simp (disch := omega) only [gl_0, gl_1, gl_2, gl_3, gl_4, gl_5, gl_6, gl_7, gl_8, gl_9, gl_10, gl_11, gl_12, gl_13, gl_14, gl_15, gl_16, gl_17, gl_18, gl_19, gl_20, gl_21, gl_22, gl_23, gl_24, gl_25, gl_26, gl_27, gl_28, gl_29, gl_30, gl_31, gl_32, gl_44, gl_48, gl_49, gl_57, gl_59, gl_60, gl_63, gl_70, gl_98, gl_99, gl_100, gl_101, gl_107, gl_109, gl_110, gl_111, gl_116, gl_120, gl_126, gl_155, gl_411, gl_999, gl_1000, gl_1233, gl_1644, gl_100000, gl_m1, nI_eq, nI_leI, nI_ltI, nI_add, nI_clamp, pk_mul, pk_sub, z_in, z_gt, z_bs, z_us, z_un, if_pos, if_neg, if_true, if_false, and_true, true_and, and_self, not_true_eq_false, not_false_eq_true, hy, h]
      · refine Or.inl ⟨⟨nu, ?_⟩, nI b, got, ?_⟩
        · rw [show n + (d + 1) + 1 = (n + d + 1) + 1 by omega, fX0_readOrder_b31]
          have hz : ¬ zN = nI 44 := by decide
          by_cases hbL : b < L
          · have h1 : ¬ tx b = nI 44 := fun h => hc ⟨hbL, by rw [← ht b hbL]; exact h⟩
            simp (disch := omega) only [gl_0, gl_1, gl_2, gl_3, gl_4, gl_5, gl_6, gl_7, gl_8, gl_9, gl_10, gl_11, gl_12, gl_13, gl_14, gl_15, gl_16, gl_17, gl_18, gl_19, gl_20, gl_21, gl_22, gl_23, gl_24, gl_25, gl_26, gl_27, gl_28, gl_29, gl_30, gl_31, gl_32, gl_44, gl_48, gl_49, gl_57, gl_59, gl_60, gl_63, gl_70, gl_98, gl_99, gl_100, gl_101, gl_107, gl_109, gl_110, gl_111, gl_116, gl_120, gl_126, gl_155, gl_411, gl_999, gl_1000, gl_1233, gl_1644, gl_100000, gl_m1, nI_eq, nI_leI, nI_ltI, nI_add, nI_clamp, pk_mul, pk_sub, z_in, z_gt, z_bs, z_us, z_un, if_pos, if_neg, if_true, if_false, and_true, true_and, and_self, not_true_eq_false, not_false_eq_true, C_signAt hL (show b < 1000 by omega), h1]
          · simp (disch := omega) only [gl_0, gl_1, gl_2, gl_3, gl_4, gl_5, gl_6, gl_7, gl_8, gl_9, gl_10, gl_11, gl_12, gl_13, gl_14, gl_15, gl_16, gl_17, gl_18, gl_19, gl_20, gl_21, gl_22, gl_23, gl_24, gl_25, gl_26, gl_27, gl_28, gl_29, gl_30, gl_31, gl_32, gl_44, gl_48, gl_49, gl_57, gl_59, gl_60, gl_63, gl_70, gl_98, gl_99, gl_100, gl_101, gl_107, gl_109, gl_110, gl_111, gl_116, gl_120, gl_126, gl_155, gl_411, gl_999, gl_1000, gl_1233, gl_1644, gl_100000, gl_m1, nI_eq, nI_leI, nI_ltI, nI_add, nI_clamp, pk_mul, pk_sub, z_in, z_gt, z_bs, z_us, z_un, if_pos, if_neg, if_true, if_false, and_true, true_and, and_self, not_true_eq_false, not_false_eq_true, C_signAt hL (show b < 1000 by omega), hz]
        · rw [show n' + (d + 1) + 1 = (n' + d + 1) + 1 by omega, fX6_readsForm_b79]
          simp (disch := omega) only [gl_0, gl_1, gl_2, gl_3, gl_4, gl_5, gl_6, gl_7, gl_8, gl_9, gl_10, gl_11, gl_12, gl_13, gl_14, gl_15, gl_16, gl_17, gl_18, gl_19, gl_20, gl_21, gl_22, gl_23, gl_24, gl_25, gl_26, gl_27, gl_28, gl_29, gl_30, gl_31, gl_32, gl_44, gl_48, gl_49, gl_57, gl_59, gl_60, gl_63, gl_70, gl_98, gl_99, gl_100, gl_101, gl_107, gl_109, gl_110, gl_111, gl_116, gl_120, gl_126, gl_155, gl_411, gl_999, gl_1000, gl_1233, gl_1644, gl_100000, gl_m1, nI_eq, nI_leI, nI_ltI, nI_add, nI_clamp, pk_mul, pk_sub, z_in, z_gt, z_bs, z_us, z_un, if_pos, if_neg, if_true, if_false, and_true, true_and, and_self, not_true_eq_false, not_false_eq_true, M_has_n hL (show b < 100 by omega) hc, M_is0]
end T3
