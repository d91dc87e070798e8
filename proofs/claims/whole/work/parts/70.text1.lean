/-! texts: signs, digits, numbers -/
theorem z_nextB (P : Nat → Prop) [DecidablePred P] (B : Nat) : ∀ d k, k + d = B → ∃ j, k ≤ j ∧ j ≤ B ∧ (∀ i, k ≤ i → i < j → ¬ P i) ∧ (j < B → P j)
  | 0, k, h => ⟨k, Nat.le_refl k, by omega, fun i h1 h2 => absurd h2 (by omega), fun h' => absurd h' (by omega)⟩
  | d + 1, k, h => by
    by_cases hk : P k
    · exact ⟨k, Nat.le_refl k, by omega, fun i h1 h2 => absurd h2 (by omega), fun _ => hk⟩
    · obtain ⟨j, h1, h2, h3, h4⟩ := z_nextB P B d (k + 1) (by omega)
      refine ⟨j, by omega, h2, fun i i1 i2 => ?_, h4⟩
      rcases Nat.eq_or_lt_of_le i1 with e | e
      · rw [← e]; exact hk
      · exact h3 i e i2
abbrev zdig (c : Int32) : Prop := ¬ c < nI 48 ∧ ¬ nI 57 < c
def zval (tx : Nat → Int32) (b : Nat) : Nat → Int32
  | 0 => nI 0
  | n + 1 => nI 10 * zval tx b n + tx (b + n) - nI 48
theorem zval_congr {tx tx' : Nat → Int32} {b : Nat} : ∀ n, (∀ i, b ≤ i → i < b + n → tx i = tx' i) → zval tx b n = zval tx' b n
  | 0, _ => rfl
  | n + 1, h => by rw [zval, zval, zval_congr n (fun i h1 h2 => h i h1 (by omega)), h (b + n) (by omega) (by omega)]
section T1
variable {L : Nat} {tx : Nat → Int32} {gi pl re ki : Int32} {nu : Nat → Int32}
theorem C_signAt {i : Nat} (hL : L ≤ 60) (hi : i < 1000) : fX0_signAt (nI i) (nI L) tx gi pl re ki nu = some (if i < L then tx i else zN) := by
  unfold fX0_signAt
  by_cases h : i < L
  · simp (disch := omega) only [gl_0, gl_1, gl_2, gl_3, gl_4, gl_5, gl_6, gl_7, gl_8, gl_9, gl_10, gl_11, gl_12, gl_13, gl_14, gl_15, gl_16, gl_17, gl_18, gl_19, gl_20, gl_21, gl_22, gl_23, gl_24, gl_25, gl_26, gl_27, gl_28, gl_29, gl_30, gl_31, gl_32, gl_44, gl_48, gl_49, gl_57, gl_59, gl_60, gl_63, gl_70, gl_98, gl_99, gl_100, gl_101, gl_107, gl_109, gl_110, gl_111, gl_116, gl_120, gl_126, gl_155, gl_411, gl_999, gl_1000, gl_1233, gl_1644, gl_100000, gl_m1, nI_eq, nI_leI, nI_ltI, nI_add, nI_clamp, pk_mul, pk_sub, z_in, z_gt, z_bs, z_us, z_un, if_pos, if_neg, if_true, if_false, and_true, true_and, and_self, not_true_eq_false, not_false_eq_true, C_isBelow_nI]
  · rw [if_neg h, zb_out (Or.inr (nI_le (by omega) (by omega)))]
    simp (disch := omega) only [gl_0, gl_1, gl_2, gl_3, gl_4, gl_5, gl_6, gl_7, gl_8, gl_9, gl_10, gl_11, gl_12, gl_13, gl_14, gl_15, gl_16, gl_17, gl_18, gl_19, gl_20, gl_21, gl_22, gl_23, gl_24, gl_25, gl_26, gl_27, gl_28, gl_29, gl_30, gl_31, gl_32, gl_44, gl_48, gl_49, gl_57, gl_59, gl_60, gl_63, gl_70, gl_98, gl_99, gl_100, gl_101, gl_107, gl_109, gl_110, gl_111, gl_116, gl_120, gl_126, gl_155, gl_411, gl_999, gl_1000, gl_1233, gl_1644, gl_100000, gl_m1, nI_eq, nI_leI, nI_ltI, nI_add, nI_clamp, pk_mul, pk_sub, z_in, z_gt, z_bs, z_us, z_un, if_pos, if_neg, if_true, if_false, and_true, true_and, and_self, not_true_eq_false, not_false_eq_true]
theorem C_digitsEnd {b e : Nat} (hL : L ≤ 60) (hb : b < 100) (h1 : b ≤ e) (h2 : e ≤ b + 3) (h3 : ∀ i, b ≤ i → i < e → i < L ∧ zdig (tx i)) (h4 : e < b + 3 → ¬ (e < L ∧ zdig (tx e))) : fX0_digitsEnd (nI b) (nI L) tx gi pl re ki nu = some (nI e) := by
  unfold fX0_digitsEnd
  refine z_loop (fun n i (_ : Unit) => fX0_digitsEnd_b2 n (nI b) (nI i) (nI L) tx gi pl re ki nu) e (fun i _ => b ≤ i) (fun o => o = some (nI e)) ?_ ?_ 2000 b () h1 (by omega) (Nat.le_refl b)
  · intro n i _ hi hbi
    obtain ⟨g1, g2, g3⟩ := h3 i hbi hi
    refine ⟨(), by omega, ?_⟩
    rw [fX0_digitsEnd_b2]
    simp (disch := omega) only [gl_0, gl_1, gl_2, gl_3, gl_4, gl_5, gl_6, gl_7, gl_8, gl_9, gl_10, gl_11, gl_12, gl_13, gl_14, gl_15, gl_16, gl_17, gl_18, gl_19, gl_20, gl_21, gl_22, gl_23, gl_24, gl_25, gl_26, gl_27, gl_28, gl_29, gl_30, gl_31, gl_32, gl_44, gl_48, gl_49, gl_57, gl_59, gl_60, gl_63, gl_70, gl_98, gl_99, gl_100, gl_101, gl_107, gl_109, gl_110, gl_111, gl_116, gl_120, gl_126, gl_155, gl_411, gl_999, gl_1000, gl_1233, gl_1644, gl_100000, gl_m1, nI_eq, nI_leI, nI_ltI, nI_add, nI_clamp, pk_mul, pk_sub, z_in, z_gt, z_bs, z_us, z_un, if_pos, if_neg, if_true, if_false, and_true, true_and, and_self, not_true_eq_false, not_false_eq_true, C_signAt hL (show i < 1000 by omega), g2, g3]
  · intro n _ _
    rw [fX0_digitsEnd_b2]
    by_cases hlt : b + 3 ≤ e
    · simp (disch := omega) only [gl_0, gl_1, gl_2, gl_3, gl_4, gl_5, gl_6, gl_7, gl_8, gl_9, gl_10, gl_11, gl_12, gl_13, gl_14, gl_15, gl_16, gl_17, gl_18, gl_19, gl_20, gl_21, gl_22, gl_23, gl_24, gl_25, gl_26, gl_27, gl_28, gl_29, gl_30, gl_31, gl_32, gl_44, gl_48, gl_49, gl_57, gl_59, gl_60, gl_63, gl_70, gl_98, gl_99, gl_100, gl_101, gl_107, gl_109, gl_110, gl_111, gl_116, gl_120, gl_126, gl_155, gl_411, gl_999, gl_1000, gl_1233, gl_1644, gl_100000, gl_m1, nI_eq, nI_leI, nI_ltI, nI_add, nI_clamp, pk_mul, pk_sub, z_in, z_gt, z_bs, z_us, z_un, if_pos, if_neg, if_true, if_false, and_true, true_and, and_self, not_true_eq_false, not_false_eq_true]
    · have hn := h4 (by omega)
      by_cases heL : e < L
      · by_cases h48 : tx e < nI 48
        · simp (disch := omega) only [gl_0, gl_1, gl_2, gl_3, gl_4, gl_5, gl_6, gl_7, gl_8, gl_9, gl_10, gl_11, gl_12, gl_13, gl_14, gl_15, gl_16, gl_17, gl_18, gl_19, gl_20, gl_21, gl_22, gl_23, gl_24, gl_25, gl_26, gl_27, gl_28, gl_29, gl_30, gl_31, gl_32, gl_44, gl_48, gl_49, gl_57, gl_59, gl_60, gl_63, gl_70, gl_98, gl_99, gl_100, gl_101, gl_107, gl_109, gl_110, gl_111, gl_116, gl_120, gl_126, gl_155, gl_411, gl_999, gl_1000, gl_1233, gl_1644, gl_100000, gl_m1, nI_eq, nI_leI, nI_ltI, nI_add, nI_clamp, pk_mul, pk_sub, z_in, z_gt, z_bs, z_us, z_un, if_pos, if_neg, if_true, if_false, and_true, true_and, and_self, not_true_eq_false, not_false_eq_true, C_signAt hL (show e < 1000 by omega), h48]
        · have h57 : nI 57 < tx e := Decidable.byContradiction fun h => hn ⟨heL, h48, h⟩
          simp (disch := omega) only [gl_0, gl_1, gl_2, gl_3, gl_4, gl_5, gl_6, gl_7, gl_8, gl_9, gl_10, gl_11, gl_12, gl_13, gl_14, gl_15, gl_16, gl_17, gl_18, gl_19, gl_20, gl_21, gl_22, gl_23, gl_24, gl_25, gl_26, gl_27, gl_28, gl_29, gl_30, gl_31, gl_32, gl_44, gl_48, gl_49, gl_57, gl_59, gl_60, gl_63, gl_70, gl_98, gl_99, gl_100, gl_101, gl_107, gl_109, gl_110, gl_111, gl_116, gl_120, gl_126, gl_155, gl_411, gl_999, gl_1000, gl_1233, gl_1644, gl_100000, gl_m1, nI_eq, nI_leI, nI_ltI, nI_add, nI_clamp, pk_mul, pk_sub, z_in, z_gt, z_bs, z_us, z_un, if_pos, if_neg, if_true, if_false, and_true, true_and, and_self, not_true_eq_false, not_false_eq_true, C_signAt hL (show e < 1000 by omega), h48, h57]
      · have hz : zN < nI 48 := by decide
        simp (disch := omega) only [gl_0, gl_1, gl_2, gl_3, gl_4, gl_5, gl_6, gl_7, gl_8, gl_9, gl_10, gl_11, gl_12, gl_13, gl_14, gl_15, gl_16, gl_17, gl_18, gl_19, gl_20, gl_21, gl_22, gl_23, gl_24, gl_25, gl_26, gl_27, gl_28, gl_29, gl_30, gl_31, gl_32, gl_44, gl_48, gl_49, gl_57, gl_59, gl_60, gl_63, gl_70, gl_98, gl_99, gl_100, gl_101, gl_107, gl_109, gl_110, gl_111, gl_116, gl_120, gl_126, gl_155, gl_411, gl_999, gl_1000, gl_1233, gl_1644, gl_100000, gl_m1, nI_eq, nI_leI, nI_ltI, nI_add, nI_clamp, pk_mul, pk_sub, z_in, z_gt, z_bs, z_us, z_un, if_pos, if_neg, if_true, if_false, and_true, true_and, and_self, not_true_eq_false, not_false_eq_true, C_signAt hL (show e < 1000 by omega), hz]
theorem C_valueOf {b e : Nat} (hL : L ≤ 60) (hb : b < 100) (h1 : b ≤ e) (h2 : e ≤ b + 3) (h3 : ∀ i, b ≤ i → i < e → i < L) : fX0_valueOf (nI b) (nI e) (nI L) tx gi pl re ki nu = some (zval tx b (e - b)) := by
  unfold fX0_valueOf
  rw [show (0 : Int32) = nI 0 from gl_0]
  refine z_loop (fun n i (v : Int32) => fX0_valueOf_b5 n (nI e) v (nI i) (nI L) tx gi pl re ki nu) e (fun i v => b ≤ i ∧ v = zval tx b (i - b)) (fun o => o = some (zval tx b (e - b))) ?_ ?_ 2000 b (nI 0) h1 (by omega) ⟨Nat.le_refl b, by rw [Nat.sub_self]; rfl⟩
  · rintro n i v hi ⟨hbi, rfl⟩
    have g1 := h3 i hbi hi
    refine ⟨_, ⟨by omega, rfl⟩, ?_⟩
    rw [fX0_valueOf_b5, show i + 1 - b = (i - b) + 1 by omega, zval, show b + (i - b) = i by omega]
    simp (disch := omega) only [gl_0, gl_1, gl_2, gl_3, gl_4, gl_5, gl_6, gl_7, gl_8, gl_9, gl_10, gl_11, gl_12, gl_13, gl_14, gl_15, gl_16, gl_17, gl_18, gl_19, gl_20, gl_21, gl_22, gl_23, gl_24, gl_25, gl_26, gl_27, gl_28, gl_29, gl_30, gl_31, gl_32, gl_44, gl_48, gl_49, gl_57, gl_59, gl_60, gl_63, gl_70, gl_98, gl_99, gl_100, gl_101, gl_107, gl_109, gl_110, gl_111, gl_116, gl_120, gl_126, gl_155, gl_411, gl_999, gl_1000, gl_1233, gl_1644, gl_100000, gl_m1, nI_eq, nI_leI, nI_ltI, nI_add, nI_clamp, pk_mul, pk_sub, z_in, z_gt, z_bs, z_us, z_un, if_pos, if_neg, if_true, if_false, and_true, true_and, and_self, not_true_eq_false, not_false_eq_true, C_signAt hL (show i < 1000 by omega)]
  · rintro n v ⟨hbi, rfl⟩
    rw [fX0_valueOf_b5]
    simp (disch := omega) only [gl_0, gl_1, gl_2, gl_3, gl_4, gl_5, gl_6, gl_7, gl_8, gl_9, gl_10, gl_11, gl_12, gl_13, gl_14, gl_15, gl_16, gl_17, gl_18, gl_19, gl_20, gl_21, gl_22, gl_23, gl_24, gl_25, gl_26, gl_27, gl_28, gl_29, gl_30, gl_31, gl_32, gl_44, gl_48, gl_49, gl_57, gl_59, gl_60, gl_63, gl_70, gl_98, gl_99, gl_100, gl_101, gl_107, gl_109, gl_110, gl_111, gl_116, gl_120, gl_126, gl_155, gl_411, gl_999, gl_1000, gl_1233, gl_1644, gl_100000, gl_m1, nI_eq, nI_leI, nI_ltI, nI_add, nI_clamp, pk_mul, pk_sub, z_in, z_gt, z_bs, z_us, z_un, if_pos, if_neg, if_true, if_false, and_true, true_and, and_self, not_true_eq_false, not_false_eq_true]
end T1
section T2
variable {ss was beg asi : Nat → Int32} {sta : Int32} {txt : Nat → Int32} {att rea : Int32} {got row oth : Nat → Int32} {L : Nat}
theorem M_inD (c : Int32) : fX6_in c (nI 48) (nI 57) = some (if zdig c then nI 1 else nI 0) := by
  unfold fX6_in zdig
  simp only [gl_0, gl_1, gl_2, gl_3, gl_4, gl_5, gl_6, gl_7, gl_8, gl_9, gl_10, gl_11, gl_12, gl_13, gl_14, gl_15, gl_16, gl_17, gl_18, gl_19, gl_20, gl_21, gl_22, gl_23, gl_24, gl_25, gl_26, gl_27, gl_28, gl_29, gl_30, gl_31, gl_32, gl_44, gl_48, gl_49, gl_57, gl_59, gl_60, gl_63, gl_70, gl_98, gl_99, gl_100, gl_101, gl_107, gl_109, gl_110, gl_111, gl_116, gl_120, gl_126, gl_155, gl_411, gl_999, gl_1000, gl_1233, gl_1644, gl_100000, gl_m1]
  by_cases h1 : c < nI 48
  · rw [if_pos h1, if_neg (fun h => h.1 h1)]
  · rw [if_neg h1]
    by_cases h2 : nI 57 < c
    · rw [if_pos h2, if_neg (fun h => h.2 h2)]
    · rw [if_neg h2, if_pos ⟨h1, h2⟩]
theorem M_number {k b e : Nat} (hL : L ≤ 60) (hk : k < 4) (hb : b < 100) (h1 : b ≤ e) (h2 : e ≤ b + 3) (h3 : ∀ i, b ≤ i → i < e → i < L ∧ zdig (txt i)) (h4 : e < b + 3 → ¬ (e < L ∧ zdig (txt e))) : ∃ got', fX6_number (nI k) ss was beg asi sta txt (nI L) (nI b) rea got row oth = some (if e ≤ b then nI 0 else nI 1, ss, was, beg, asi, sta, txt, nI L, nI e, rea, got', row, oth) ∧ got' k = zval txt b (e - b) ∧ ∀ i, i ≠ k → got' i = got i := by
  unfold fX6_number
  have hz : fX6_number_b93 (nI b) ss was beg asi sta txt (nI L) (nI e) rea got row oth = some (if e ≤ b then nI 0 else nI 1, ss, was, beg, asi, sta, txt, nI L, nI e, rea, got, row, oth) := by
    unfold fX6_number_b93
    by_cases h : e ≤ b
    · simp (disch := omega) only [gl_0, gl_1, gl_2, gl_3, gl_4, gl_5, gl_6, gl_7, gl_8, gl_9, gl_10, gl_11, gl_12, gl_13, gl_14, gl_15, gl_16, gl_17, gl_18, gl_19, gl_20, gl_21, gl_22, gl_23, gl_24, gl_25, gl_26, gl_27, gl_28, gl_29, gl_30, gl_31, gl_32, gl_44, gl_48, gl_49, gl_57, gl_59, gl_60, gl_63, gl_70, gl_98, gl_99, gl_100, gl_101, gl_107, gl_109, gl_110, gl_111, gl_116, gl_120, gl_126, gl_155, gl_411, gl_999, gl_1000, gl_1233, gl_1644, gl_100000, gl_m1, nI_eq, nI_leI, nI_ltI, nI_add, nI_clamp, pk_mul, pk_sub, z_in, z_gt, z_bs, z_us, z_un, if_pos, if_neg, if_true, if_false, and_true, true_and, and_self, not_true_eq_false, not_false_eq_true]
    · simp (disch := omega) only [gl_0, gl_1, gl_2, gl_3, gl_4, gl_5, gl_6, gl_7, gl_8, gl_9, gl_10, gl_11, gl_12, gl_13, gl_14, gl_15, gl_16, gl_17, gl_18, gl_19, gl_20, gl_21, gl_22, gl_23, gl_24, gl_25, gl_26, gl_27, gl_28, gl_29, gl_30, gl_31, gl_32, gl_44, gl_48, gl_49, gl_57, gl_59, gl_60, gl_63, gl_70, gl_98, gl_99, gl_100, gl_101, gl_107, gl_109, gl_110, gl_111, gl_116, gl_120, gl_126, gl_155, gl_411, gl_999, gl_1000, gl_1233, gl_1644, gl_100000, gl_m1, nI_eq, nI_leI, nI_ltI, nI_add, nI_clamp, pk_mul, pk_sub, z_in, z_gt, z_bs, z_us, z_un, if_pos, if_neg, if_true, if_false, and_true, true_and, and_self, not_true_eq_false, not_false_eq_true]
  simp (disch := omega) only [gl_0, gl_1, gl_2, gl_3, gl_4, gl_5, gl_6, gl_7, gl_8, gl_9, gl_10, gl_11, gl_12, gl_13, gl_14, gl_15, gl_16, gl_17, gl_18, gl_19, gl_20, gl_21, gl_22, gl_23, gl_24, gl_25, gl_26, gl_27, gl_28, gl_29, gl_30, gl_31, gl_32, gl_44, gl_48, gl_49, gl_57, gl_59, gl_60, gl_63, gl_70, gl_98, gl_99, gl_100, gl_101, gl_107, gl_109, gl_110, gl_111, gl_116, gl_120, gl_126, gl_155, gl_411, gl_999, gl_1000, gl_1233, gl_1644, gl_100000, gl_m1, nI_eq, nI_leI, nI_ltI, nI_add, nI_clamp, pk_mul, pk_sub, z_in, z_gt, z_bs, z_us, z_un, if_pos, if_neg, if_true, if_false, and_true, true_and, and_self, not_true_eq_false, not_false_eq_true]
  refine z_loop (fun n i (g : Nat → Int32) => fX6_number_b12 n (nI k) (nI b) ss was beg asi sta txt (nI L) (nI i) rea g row oth) e (fun i g => b ≤ i ∧ g k = zval txt b (i - b) ∧ ∀ i, i ≠ k → g i = got i) (fun o => ∃ got', o = some (if e ≤ b then nI 0 else nI 1, ss, was, beg, asi, sta, txt, nI L, nI e, rea, got', row, oth) ∧ got' k = zval txt b (e - b) ∧ ∀ i, i ≠ k → got' i = got i) ?_ ?_ 2000 b (upd got k (nI 0)) h1 (by omega) ⟨Nat.le_refl b, by rw [Nat.sub_self, z_us]; rfl, fun i hi => z_un hi⟩
  · rintro n i g hi ⟨hbi, hg, hg2⟩
    obtain ⟨g1, g2⟩ := h3 i hbi hi
    refine ⟨upd g k (nI 10 * g k + txt i - nI 48), ⟨by omega, ?_, fun i hi => by rw [z_un hi]; exact hg2 i hi⟩, ?_⟩
    · rw [show i + 1 - b = (i - b) + 1 by omega, zval, show b + (i - b) = i by omega, z_us, hg]
    · rw [fX6_number_b12]
      simp (disch := omega) only [gl_0, gl_1, gl_2, gl_3, gl_4, gl_5, gl_6, gl_7, gl_8, gl_9, gl_10, gl_11, gl_12, gl_13, gl_14, gl_15, gl_16, gl_17, gl_18, gl_19, gl_20, gl_21, gl_22, gl_23, gl_24, gl_25, gl_26, gl_27, gl_28, gl_29, gl_30, gl_31, gl_32, gl_44, gl_48, gl_49, gl_57, gl_59, gl_60, gl_63, gl_70, gl_98, gl_99, gl_100, gl_101, gl_107, gl_109, gl_110, gl_111, gl_116, gl_120, gl_126, gl_155, gl_411, gl_999, gl_1000, gl_1233, gl_1644, gl_100000, gl_m1, nI_eq, nI_leI, nI_ltI, nI_add, nI_clamp, pk_mul, pk_sub, z_in, z_gt, z_bs, z_us, z_un, if_pos, if_neg, if_true, if_false, and_true, true_and, and_self, not_true_eq_false, not_false_eq_true, M_inD, g2]
  · rintro n g ⟨hbi, hg, hg2⟩
    refine ⟨g, ?_, hg, hg2⟩
    have hz : fX6_number_b93 (nI b) ss was beg asi sta txt (nI L) (nI e) rea g row oth = some (if e ≤ b then nI 0 else nI 1, ss, was, beg, asi, sta, txt, nI L, nI e, rea, g, row, oth) := by
      unfold fX6_number_b93
      by_cases h : e ≤ b
      · simp (disch := omega) only [gl_0, gl_1, gl_2, gl_3, gl_4, gl_5, gl_6, gl_7, gl_8, gl_9, gl_10, gl_11, gl_12, gl_13, gl_14, gl_15, gl_16, gl_17, gl_18, gl_19, gl_20, gl_21, gl_22, gl_23, gl_24, gl_25, gl_26, gl_27, gl_28, gl_29, gl_30, gl_31, gl_32, gl_44, gl_48, gl_49, gl_57, gl_59, gl_60, gl_63, gl_70, gl_98, gl_99, gl_100, gl_101, gl_107, gl_109, gl_110, gl_111, gl_116, gl_120, gl_126, gl_155, gl_411, gl_999, gl_1000, gl_1233, gl_1644, gl_100000, gl_m1, nI_eq, nI_leI, nI_ltI, nI_add, nI_clamp, pk_mul, pk_sub, z_in, z_gt, z_bs, z_us, z_un, if_pos, if_neg, if_true, if_false, and_true, true_and, and_self, not_true_eq_false, not_false_eq_true]
      · simp (disch := omega) only [gl_0, gl_1, gl_2, gl_3, gl_4, gl_5, gl_6, gl_7, gl_8, gl_9, gl_10, gl_11, gl_12, gl_13, gl_14, gl_15, gl_16, gl_17, gl_18, gl_19, gl_20, gl_21, gl_22, gl_23, gl_24, gl_25, gl_26, gl_27, gl_28, gl_29, gl_30, gl_31, gl_32, gl_44, gl_48, gl_49, gl_57, gl_59, gl_60, gl_63, gl_70, gl_98, gl_99, gl_100, gl_101, gl_107, gl_109, gl_110, gl_111, gl_116, gl_120, gl_126, gl_155, gl_411, gl_999, gl_1000, gl_1233, gl_1644, gl_100000, gl_m1, nI_eq, nI_leI, nI_ltI, nI_add, nI_clamp, pk_mul, pk_sub, z_in, z_gt, z_bs, z_us, z_un, if_pos, if_neg, if_true, if_false, and_true, true_and, and_self, not_true_eq_false, not_false_eq_true]
    rw [fX6_number_b12, hz]
    by_cases heL : e < L
    · by_cases h5 : b + 3 ≤ e
      · simp (disch := omega) only [gl_0, gl_1, gl_2, gl_3, gl_4, gl_5, gl_6, gl_7, gl_8, gl_9, gl_10, gl_11, gl_12, gl_13, gl_14, gl_15, gl_16, gl_17, gl_18, gl_19, gl_20, gl_21, gl_22, gl_23, gl_24, gl_25, gl_26, gl_27, gl_28, gl_29, gl_30, gl_31, gl_32, gl_44, gl_48, gl_49, gl_57, gl_59, gl_60, gl_63, gl_70, gl_98, gl_99, gl_100, gl_101, gl_107, gl_109, gl_110, gl_111, gl_116, gl_120, gl_126, gl_155, gl_411, gl_999, gl_1000, gl_1233, gl_1644, gl_100000, gl_m1, nI_add, nI_leI, if_pos, if_neg]
      · have hn : ¬ zdig (txt e) := fun h => h4 (by omega) ⟨heL, h⟩
        simp (disch := omega) only [gl_0, gl_1, gl_2, gl_3, gl_4, gl_5, gl_6, gl_7, gl_8, gl_9, gl_10, gl_11, gl_12, gl_13, gl_14, gl_15, gl_16, gl_17, gl_18, gl_19, gl_20, gl_21, gl_22, gl_23, gl_24, gl_25, gl_26, gl_27, gl_28, gl_29, gl_30, gl_31, gl_32, gl_44, gl_48, gl_49, gl_57, gl_59, gl_60, gl_63, gl_70, gl_98, gl_99, gl_100, gl_101, gl_107, gl_109, gl_110, gl_111, gl_116, gl_120, gl_126, gl_155, gl_411, gl_999, gl_1000, gl_1233, gl_1644, gl_100000, gl_m1, nI_add, nI_leI, if_neg (show ¬ L ≤ e by omega), if_neg h5, z_in, z_gt, nI_clamp, M_inD, if_neg hn, z_bs, if_true]
    · simp (disch := omega) only [gl_0, gl_1, gl_2, gl_3, gl_4, gl_5, gl_6, gl_7, gl_8, gl_9, gl_10, gl_11, gl_12, gl_13, gl_14, gl_15, gl_16, gl_17, gl_18, gl_19, gl_20, gl_21, gl_22, gl_23, gl_24, gl_25, gl_26, gl_27, gl_28, gl_29, gl_30, gl_31, gl_32, gl_44, gl_48, gl_49, gl_57, gl_59, gl_60, gl_63, gl_70, gl_98, gl_99, gl_100, gl_101, gl_107, gl_109, gl_110, gl_111, gl_116, gl_120, gl_126, gl_155, gl_411, gl_999, gl_1000, gl_1233, gl_1644, gl_100000, gl_m1, nI_add, nI_leI, if_pos (show L ≤ e by omega)]
theorem M_has_y {c : Int32} {i : Nat} (hL : L ≤ 60) (h : i < L) (hc : txt i = c) : fX6_has c ss was beg asi sta txt (nI L) (nI i) rea got row oth = some (nI 1, ss, was, beg, asi, sta, txt, nI L, nI (i + 1), rea, got, row, oth) := by
  unfold fX6_has
  simp (disch := first | omega | decide) only [gl_0, gl_1, gl_2, gl_3, gl_4, gl_5, gl_6, gl_7, gl_8, gl_9, gl_10, gl_11, gl_12, gl_13, gl_14, gl_15, gl_16, gl_17, gl_18, gl_19, gl_20, gl_21, gl_22, gl_23, gl_24, gl_25, gl_26, gl_27, gl_28, gl_29, gl_30, gl_31, gl_32, gl_44, gl_48, gl_49, gl_57, gl_59, gl_60, gl_63, gl_70, gl_98, gl_99, gl_100, gl_101, gl_107, gl_109, gl_110, gl_111, gl_116, gl_120, gl_126, gl_155, gl_411, gl_999, gl_1000, gl_1233, gl_1644, gl_100000, gl_m1, nI_add, nI_leI, nI_eq, if_neg (show ¬ L ≤ i by omega), z_in, z_gt, nI_clamp, hc, if_true, fX6_has_b29, zo1 (Or.inr rfl), if_neg]
theorem M_has_n {c : Int32} {i : Nat} (hL : L ≤ 60) (hi : i < 100) (h : ¬ (i < L ∧ txt i = c)) : fX6_has c ss was beg asi sta txt (nI L) (nI i) rea got row oth = some (nI 0, ss, was, beg, asi, sta, txt, nI L, nI i, rea, got, row, oth) := by
  unfold fX6_has
  by_cases hl : i < L
  · have hc : ¬ txt i = c := fun h' => h ⟨hl, h'⟩
    simp (disch := first | omega | decide) only [gl_0, gl_1, gl_2, gl_3, gl_4, gl_5, gl_6, gl_7, gl_8, gl_9, gl_10, gl_11, gl_12, gl_13, gl_14, gl_15, gl_16, gl_17, gl_18, gl_19, gl_20, gl_21, gl_22, gl_23, gl_24, gl_25, gl_26, gl_27, gl_28, gl_29, gl_30, gl_31, gl_32, gl_44, gl_48, gl_49, gl_57, gl_59, gl_60, gl_63, gl_70, gl_98, gl_99, gl_100, gl_101, gl_107, gl_109, gl_110, gl_111, gl_116, gl_120, gl_126, gl_155, gl_411, gl_999, gl_1000, gl_1233, gl_1644, gl_100000, gl_m1, nI_add, nI_leI, nI_eq, if_neg (show ¬ L ≤ i by omega), z_in, z_gt, nI_clamp, hc, if_false, fX6_has_b28, fX6_has_b29, zo1 (Or.inl rfl), if_true, Nat.add_zero]
  · have hl' : L ≤ i := by omega
    simp (disch := first | omega | decide) only [gl_0, gl_1, gl_2, gl_3, gl_4, gl_5, gl_6, gl_7, gl_8, gl_9, gl_10, gl_11, gl_12, gl_13, gl_14, gl_15, gl_16, gl_17, gl_18, gl_19, gl_20, gl_21, gl_22, gl_23, gl_24, gl_25, gl_26, gl_27, gl_28, gl_29, gl_30, gl_31, gl_32, gl_44, gl_48, gl_49, gl_57, gl_59, gl_60, gl_63, gl_70, gl_98, gl_99, gl_100, gl_101, gl_107, gl_109, gl_110, gl_111, gl_116, gl_120, gl_126, gl_155, gl_411, gl_999, gl_1000, gl_1233, gl_1644, gl_100000, gl_m1, nI_add, nI_leI, nI_eq, hl', fX6_has_b28, fX6_has_b29, zo1 (Or.inl rfl), z_gt, if_true, Nat.add_zero]
end T2
