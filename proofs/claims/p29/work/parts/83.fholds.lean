/-! what the law's holds says of a state that keeps the invariant -/
def Sx (L : Nat) (S : zS) : Prop := ∃ (p l x : Nat) (lo : Int32) (ov orr nv nr : Nat → Int32) (q : Nat) (qk qv qr wr : Nat → Int32) (wa : Int32) (wc wk : Nat → Int32), l ≤ L ∧ Sv S p l x lo ov orr nv nr q qk qv qr wr wa wc wk
theorem z_ret {S : zS} : g_gd (g_bl (nI 1)) (some ((nI 1, S) : Int32 × zS)) = some ((1 : Int32), S) := rfl
theorem z_fin {L : Nat} {S : zS} {o : Option Int32} (h : Sx L S) (ho : o = some (nI 1)) : ∃ S', (o.bind fun v => g_gd (g_bl v) (some (v, S))) = some ((1 : Int32), S') ∧ Sx L S' := by
  subst ho
  exact ⟨S, z_ret, h⟩
theorem z_bits_ge (P : Nat → Bool) : ¬ z_bits P 31 < nI 0 := by
  rw [zbn_bits P 31 (by omega)]
  exact z_neg (zbn_lt P 31)
theorem z_bits_zero {P : Nat → Bool} : z_bits P 31 = nI 0 ↔ ∀ k, k < 31 → P k = false := by
  constructor
  · intro h k hk
    refine (z_bitAt hk).1 ?_
    rw [h]
    have := zI_bit (a := 0) (k := k) (by omega) hk
    exact this.2 (Nat.zero_testBit k)
  · intro h
    rw [z_bits_congr (Q := fun _ => false) h]
    decide
theorem z_n4 : ¬ (-1000004 : Int32) = nI 31 := by decide
theorem z_lt4 : (-1000004 : Int32) < nI 0 := by decide
theorem z_lt2 : (-1000002 : Int32) < nI 0 := by decide
theorem z_lt3 : (-1000003 : Int32) < nI 0 := by decide
theorem zP_t {row : Nat → Int32} {i n : Nat} (h : row i = nI n) (hn : n < 4000) : zP row i = true := by
  unfold zP
  rw [h]
  exact decide_eq_true (z_m1 (by omega))
theorem zP_f {row : Nat → Int32} {i : Nat} (h : row i = zN) : zP row i = false := by
  unfold zP
  rw [h]
  exact decide_eq_false (fun e => e rfl)
theorem zst_f {row : Nat → Int32} {i : Nat} (h : row i = zN) : zst row i = false := by
  unfold zst
  rw [h]
  exact decide_eq_false (fun e => e.1 rfl)
theorem zst_n {row : Nat → Int32} {i n : Nat} (h : row i = nI n) (hn : n < 4000) : zst row i = decide (¬ n - n / 4 * 4 ≤ 1) := by
  have h1 : ¬ nI n = zN := z_m1 (by omega)
  unfold zst
  rw [h]
  simp (disch := omega) only [pk_div, pk_mul, pk_sub, nI_leI, h1, not_false_eq_true, true_and]
theorem zkn_n {ver : Nat → Int32} {i v : Nat} (h : ver i = nI v) (hv : v < 2 ^ 31) : zkn ver i = decide (¬ v = 0) := by
  unfold zkn
  rw [h]
  simp (disch := omega) only [nI_eq]
theorem znu_0 {n w : Nat} (hn : n < 4000) (hw : w < 3) : znu (nI n) 0 w = nI (if w = 0 then n / 4 / 10 else if w = 1 then n / 4 - n / 4 / 10 * 10 else n - n / 4 * 4) := by
  unfold znu
  rcases (show w = 0 ∨ w = 1 ∨ w = 2 by omega) with rfl | rfl | rfl <;> simp (disch := omega) [pk_div, pk_mul, pk_sub]
theorem znu_1 {n w : Nat} (hn : n < 4000) (hw : w < 2) : znu (nI n) 1 w = nI (if w = 0 then n / 4 else n - n / 4 * 4) := by
  unfold znu
  rcases (show w = 0 ∨ w = 1 by omega) with rfl | rfl <;> simp (disch := omega) [pk_div, pk_mul, pk_sub]
theorem zqu_ready {x l : Nat} {ov orr nv nr qk qv qr : Nat → Int32} {wa : Int32} (R : IT 1 l x ov orr nv nr 0 qk qv qr wa) (h : z_bits (zdf ov orr nv nr) 31 = nI 0) : z_bits (zqu 1 0 orr nv nr qk qr) 31 = nI 0 := by
  rw [z_bits_zero] at h ⊢
  intro k hk
  have hd := h k hk
  obtain ⟨z0, -⟩ := R.2.1 k hk
  have z0 : zoo (orr k) := z0
  have hz : zsec 1 = 1 := rfl
  have e0 : zrr 1 0 orr nv nr qk qr k 0 = orr k := by
    simp [zrr, zlat_none, mo_old z0]
  have hm : orr k = mo (nr k) (nI 0) := by
    unfold zdf at hd
    have := of_decide_eq_false hd
    exact (Decidable.not_not.1 this).2
  have e1 : mo (zrr 1 0 orr nv nr qk qr k 1) (nI 0) = orr k := by
    by_cases hv : nv k = nI 0
    · simp [zrr, zlat_none, hv, mo_1, mo_old z0]
    · simp [zrr, zlat_none, hv, mo_1, ← hm]
  unfold zqu
  rw [e0, e1]
  exact decide_eq_false (fun e => e rfl)
section FH
variable {S : zS} {p l x : Nat} {lo : Int32} {ov orr nv nr : Nat → Int32} {q : Nat} {qk qv qr wr : Nat → Int32} {wa : Int32} {wc wk : Nat → Int32}
theorem F_holds_end (V : Sv S p l x lo ov orr nv nr q qk qv qr wr wa wc wk) : fL_holds_b453 (nI p) (nI (z_cnt (zP orr) 31)) (nI (z_cnt (zP nr) 31)) (nI (z_cnt (zst nr) 31)) (nI (z_cnt (zkn nv) 31)) (nI 1) S = some (nI 1) := by
  have R := V.2.2
  have hp := R.1.1
  have hq := R.1.2.1
  have hx := R.1.2.2.2.1
  have a1 := z_cnt_le (zP orr) 31
  have a2 := z_cnt_le (zP nr) 31
  have a3 := z_cnt_le (zst nr) 31
  have a4 := z_cnt_le (zkn nv) 31
  have hg : g_gd (g_bl (nI 1)) (some (nI 1)) = some (nI 1) := rfl
  have c2 := R_count2 V
  have c3 := R_count3 V
  have c4 := R_count4 V
  have c5 := R_count5 V
  have c6 := R_count6 V
  have c7 := R_count7 V
  have c8 := R_count8 V
  have ck := R_check V
  have cq := R_quarrel V
  simp only [gl_0, gl_1, gl_2, gl_3, gl_4, gl_5, gl_6, gl_7, gl_8, gl_9, gl_10, gl_11, gl_12, gl_13, gl_14, gl_15, gl_16, gl_17, gl_18, gl_19, gl_20, gl_21, gl_22, gl_23, gl_24, gl_25, gl_26, gl_27, gl_28, gl_29, gl_30, gl_31, gl_32, gl_44, gl_48, gl_49, gl_57, gl_59, gl_60, gl_63, gl_70, gl_98, gl_99, gl_100, gl_101, gl_107, gl_109, gl_110, gl_111, gl_116, gl_120, gl_126, gl_155, gl_411, gl_999, gl_1000, gl_1233, gl_1644, gl_100000, gl_m1] at c2 c3 c4 c5 c6 c7 c8
  unfold fL_holds_b453
  by_cases hr : p = 1 ∧ x = 31 ∧ q = 0 ∧ z_bits (zdf ov orr nv nr) 31 = nI 0
  · rw [if_pos hr] at c8
    obtain ⟨rfl, rfl, rfl, hd⟩ := hr
    have hb : (1 = 1 ∨ 1 = 2) := Or.inl rfl
    rw [if_pos rfl] at c2
    rw [if_pos hb, hd] at ck
    rw [zqu_ready R hd] at cq
    simp (disch := omega) only [gl_0, gl_1, gl_2, gl_3, gl_4, gl_5, gl_6, gl_7, gl_8, gl_9, gl_10, gl_11, gl_12, gl_13, gl_14, gl_15, gl_16, gl_17, gl_18, gl_19, gl_20, gl_21, gl_22, gl_23, gl_24, gl_25, gl_26, gl_27, gl_28, gl_29, gl_30, gl_31, gl_32, gl_44, gl_48, gl_49, gl_57, gl_59, gl_60, gl_63, gl_70, gl_98, gl_99, gl_100, gl_101, gl_107, gl_109, gl_110, gl_111, gl_116, gl_120, gl_126, gl_155, gl_411, gl_999, gl_1000, gl_1233, gl_1644, gl_100000, gl_m1, nI_eq, nI_leI, nI_ltI, nI_add, nI_clamp, pk_mul, pk_sub, z_in, z_gt, z_bs, z_us, z_un, if_pos, if_neg, if_true, if_false, and_true, true_and, and_self, not_true_eq_false, not_false_eq_true, c2, c3, c4, c5, c6, c7, c8, ck, cq, hg]
  · rw [if_neg hr] at c8
    have e51 : (if nI p = nI 1 then ((K_count (nI 2) S).bind fun r54 => (if r54 = nI 31 then ((K_count (nI 3) S).bind fun r59 => (if r59 = nI 0 then ((K_check S).bind fun r64 => (if r64 = nI 0 then some (nI 1) else some (nI 0))) else some (nI 0))) else some (nI 0))) else some (nI 0) : Option Int32) = some (nI 0) := by
      by_cases h1 : p = 1
      · subst h1
        have hb : (1 = 1 ∨ 1 = 2) := Or.inl rfl
        rw [if_pos rfl] at c2
        rw [if_pos hb] at ck
        by_cases h2 : x = 31
        · by_cases h3 : q = 0
          · have h4 : ¬ z_bits (zdf ov orr nv nr) 31 = nI 0 := fun h => hr ⟨rfl, h2, h3, h⟩
            simp (disch := omega) only [gl_0, gl_1, gl_2, gl_3, gl_4, gl_5, gl_6, gl_7, gl_8, gl_9, gl_10, gl_11, gl_12, gl_13, gl_14, gl_15, gl_16, gl_17, gl_18, gl_19, gl_20, gl_21, gl_22, gl_23, gl_24, gl_25, gl_26, gl_27, gl_28, gl_29, gl_30, gl_31, gl_32, gl_44, gl_48, gl_49, gl_57, gl_59, gl_60, gl_63, gl_70, gl_98, gl_99, gl_100, gl_101, gl_107, gl_109, gl_110, gl_111, gl_116, gl_120, gl_126, gl_155, gl_411, gl_999, gl_1000, gl_1233, gl_1644, gl_100000, gl_m1, nI_eq, nI_leI, nI_ltI, nI_add, nI_clamp, pk_mul, pk_sub, z_in, z_gt, z_bs, z_us, z_un, if_pos, if_neg, if_true, if_false, and_true, true_and, and_self, not_true_eq_false, not_false_eq_true, c2, c3, ck, h2, h3, h4]
          · simp (disch := omega) only [gl_0, gl_1, gl_2, gl_3, gl_4, gl_5, gl_6, gl_7, gl_8, gl_9, gl_10, gl_11, gl_12, gl_13, gl_14, gl_15, gl_16, gl_17, gl_18, gl_19, gl_20, gl_21, gl_22, gl_23, gl_24, gl_25, gl_26, gl_27, gl_28, gl_29, gl_30, gl_31, gl_32, gl_44, gl_48, gl_49, gl_57, gl_59, gl_60, gl_63, gl_70, gl_98, gl_99, gl_100, gl_101, gl_107, gl_109, gl_110, gl_111, gl_116, gl_120, gl_126, gl_155, gl_411, gl_999, gl_1000, gl_1233, gl_1644, gl_100000, gl_m1, nI_eq, nI_leI, nI_ltI, nI_add, nI_clamp, pk_mul, pk_sub, z_in, z_gt, z_bs, z_us, z_un, if_pos, if_neg, if_true, if_false, and_true, true_and, and_self, not_true_eq_false, not_false_eq_true, c2, c3, h2, h3]
        · simp (disch := omega) only [gl_0, gl_1, gl_2, gl_3, gl_4, gl_5, gl_6, gl_7, gl_8, gl_9, gl_10, gl_11, gl_12, gl_13, gl_14, gl_15, gl_16, gl_17, gl_18, gl_19, gl_20, gl_21, gl_22, gl_23, gl_24, gl_25, gl_26, gl_27, gl_28, gl_29, gl_30, gl_31, gl_32, gl_44, gl_48, gl_49, gl_57, gl_59, gl_60, gl_63, gl_70, gl_98, gl_99, gl_100, gl_101, gl_107, gl_109, gl_110, gl_111, gl_116, gl_120, gl_126, gl_155, gl_411, gl_999, gl_1000, gl_1233, gl_1644, gl_100000, gl_m1, nI_eq, nI_leI, nI_ltI, nI_add, nI_clamp, pk_mul, pk_sub, z_in, z_gt, z_bs, z_us, z_un, if_pos, if_neg, if_true, if_false, and_true, true_and, and_self, not_true_eq_false, not_false_eq_true, c2, h2]
      · simp (disch := omega) only [gl_0, gl_1, gl_2, gl_3, gl_4, gl_5, gl_6, gl_7, gl_8, gl_9, gl_10, gl_11, gl_12, gl_13, gl_14, gl_15, gl_16, gl_17, gl_18, gl_19, gl_20, gl_21, gl_22, gl_23, gl_24, gl_25, gl_26, gl_27, gl_28, gl_29, gl_30, gl_31, gl_32, gl_44, gl_48, gl_49, gl_57, gl_59, gl_60, gl_63, gl_70, gl_98, gl_99, gl_100, gl_101, gl_107, gl_109, gl_110, gl_111, gl_116, gl_120, gl_126, gl_155, gl_411, gl_999, gl_1000, gl_1233, gl_1644, gl_100000, gl_m1, nI_eq, nI_leI, nI_ltI, nI_add, nI_clamp, pk_mul, pk_sub, z_in, z_gt, z_bs, z_us, z_un, if_pos, if_neg, if_true, if_false, and_true, true_and, and_self, not_true_eq_false, not_false_eq_true, h1]
    simp only [gl_0, gl_1, gl_2, gl_3, gl_4, gl_5, gl_6, gl_7, gl_8, gl_9, gl_10, gl_11, gl_12, gl_13, gl_14, gl_15, gl_16, gl_17, gl_18, gl_19, gl_20, gl_21, gl_22, gl_23, gl_24, gl_25, gl_26, gl_27, gl_28, gl_29, gl_30, gl_31, gl_32, gl_44, gl_48, gl_49, gl_57, gl_59, gl_60, gl_63, gl_70, gl_98, gl_99, gl_100, gl_101, gl_107, gl_109, gl_110, gl_111, gl_116, gl_120, gl_126, gl_155, gl_411, gl_999, gl_1000, gl_1233, gl_1644, gl_100000, gl_m1]
    rw [e51]
    simp (disch := omega) only [gl_0, gl_1, gl_2, gl_3, gl_4, gl_5, gl_6, gl_7, gl_8, gl_9, gl_10, gl_11, gl_12, gl_13, gl_14, gl_15, gl_16, gl_17, gl_18, gl_19, gl_20, gl_21, gl_22, gl_23, gl_24, gl_25, gl_26, gl_27, gl_28, gl_29, gl_30, gl_31, gl_32, gl_44, gl_48, gl_49, gl_57, gl_59, gl_60, gl_63, gl_70, gl_98, gl_99, gl_100, gl_101, gl_107, gl_109, gl_110, gl_111, gl_116, gl_120, gl_126, gl_155, gl_411, gl_999, gl_1000, gl_1233, gl_1644, gl_100000, gl_m1, nI_eq, nI_leI, nI_ltI, nI_add, nI_clamp, pk_mul, pk_sub, z_in, z_gt, z_bs, z_us, z_un, if_pos, if_neg, if_true, if_false, and_true, true_and, and_self, not_true_eq_false, not_false_eq_true, c4, c5, c6, c7, c8, hg]
theorem z_eb {α β : Type} {o : Option α} {a : α} {f : α → Option β} (h : o = some a) : o.bind f = f a := by
  subst h
  exact z_bs a f
theorem z_nlt2 {n : Nat} (h : n < 2 ^ 31) : ¬ nI n < -1000002 := fun e => by
  have := Int32.lt_iff_toInt_lt.1 e
  rw [nI_toInt h] at this
  have h2 : (-1000002 : Int32).toInt = -1000002 := by decide
  omega
/-- what the old shape tells of a key -/
theorem R_old (V : Sv S p l x lo ov orr nv nr q qk qv qr wr wa wc wk) (hp3 : ¬ p = 3) {i : Nat} (hi : i < 31) : ∃ v, v ≤ l ∧ K_shapeOf (nI i) (nI 0) (nI 0) S = some (nI v) ∧ ((zP orr i = false ∧ K_shapeOf (nI i) (nI 0) (nI 1) S = some (nI 0) ∧ K_shapeOf (nI i) (nI 0) (nI 2) S = some (-1000004)) ∨ (zP orr i = true ∧ 0 < v ∧ K_shapeOf (nI i) (nI 0) (nI 1) S = some (nI 1) ∧ ∃ a b c : Nat, a < 1000 ∧ b ≤ 9 ∧ c ≤ 1 ∧ K_shapeOf (nI i) (nI 0) (nI 2) S = some (nI a) ∧ K_shapeOf (nI i) (nI 0) (nI 3) S = some (nI b) ∧ K_shapeOf (nI i) (nI 0) (nI 4) S = some (nI c))) := by
  obtain ⟨z0, v0, v0l, v0e, v0n⟩ := V.2.2.2.1 i hi
  have z0 : zoo (orr i) := z0
  have s00 := R_shape0 V hi (w := 0) (by omega)
  have s01 := R_shape0 V hi (w := 1) (by omega)
  have s02 := R_shape0 V hi (w := 2) (by omega)
  have s03 := R_shape0 V hi (w := 3) (by omega)
  have s04 := R_shape0 V hi (w := 4) (by omega)
  rw [if_neg hp3, if_pos rfl, v0e] at s00
  rw [if_neg hp3, if_neg (by omega), if_pos rfl] at s01
  rw [if_neg hp3, if_neg (by omega), if_neg (by omega)] at s02 s03 s04
  refine ⟨v0, v0l, s00, ?_⟩
  rcases z0 with hb | ⟨m0, b1, b2, b3⟩
  · rw [if_pos hb] at s01 s02
    exact Or.inl ⟨zP_f hb, s01, s02⟩
  · have hne : ¬ orr i = zN := by rw [b3]; exact z_m1 (by omega)
    rw [if_neg hne] at s01 s02 s03 s04
    rw [b3, znu_0 b1 (by omega)] at s02 s03 s04
    refine Or.inr ⟨zP_t b3 b1, Nat.pos_of_ne_zero fun h => hne (v0n h), s01, _, _, _, ?_, ?_, ?_, s02, s03, s04⟩
    · rw [if_pos rfl]; omega
    · rw [if_neg (by omega), if_pos rfl]; omega
    · rw [if_neg (by omega), if_neg (by omega)]; omega
/-- what the new shape tells of a key -/
theorem R_new (V : Sv S p l x lo ov orr nv nr q qk qv qr wr wa wc wk) (hp0 : ¬ p = 0) {i : Nat} (hi : i < 31) : ∃ v, v ≤ l ∧ K_shapeOf (nI i) (nI 1) (nI 0) S = some (nI v) ∧ zkn nv i = decide (¬ v = 0) ∧ K_shapeOf (nI i) (nI 1) (nI 4) S = some (-1000004) ∧ ((zP nr i = false ∧ zst nr i = false ∧ K_shapeOf (nI i) (nI 1) (nI 1) S = some (nI 0) ∧ K_shapeOf (nI i) (nI 1) (nI 2) S = some (-1000004)) ∨ (zP nr i = true ∧ 0 < v ∧ K_shapeOf (nI i) (nI 1) (nI 1) S = some (nI 1) ∧ ∃ a b : Nat, a < 1000 ∧ b < 4 ∧ zst nr i = decide (¬ b ≤ 1) ∧ K_shapeOf (nI i) (nI 1) (nI 2) S = some (nI a) ∧ K_shapeOf (nI i) (nI 1) (nI 3) S = some (nI b))) := by
  obtain ⟨z1, v1, v1l, v1e, v1n⟩ := V.2.2.2.2.1 i hi
  have hl0 := V.2.2.1.2.2.1
  have z1 : zok (nr i) := z1
  have s10 := R_shape1 V hi (w := 0) (by omega)
  have s11 := R_shape1 V hi (w := 1) (by omega)
  have s12 := R_shape1 V hi (w := 2) (by omega)
  have s13 := R_shape1 V hi (w := 3) (by omega)
  have s14 := R_shape1 V hi (w := 4) (by omega)
  have hkn := zkn_n v1e (by omega)
  rw [if_neg hp0, if_pos rfl, v1e] at s10
  rw [if_neg hp0, if_neg (by omega), if_pos rfl] at s11
  rw [if_neg hp0, if_neg (by omega), if_neg (by omega)] at s12 s13 s14
  rw [if_pos (Or.inr rfl)] at s14
  refine ⟨v1, v1l, s10, hkn, s14, ?_⟩
  rcases z1 with hb | ⟨m1, b1, b2⟩
  · rw [if_pos hb] at s11
    rw [if_pos (Or.inl hb)] at s12
    exact Or.inl ⟨zP_f hb, zst_f hb, s11, s12⟩
  · have hne : ¬ nr i = zN := by rw [b2]; exact z_m1 (by omega)
    rw [if_neg hne] at s11
    rw [if_neg (fun h => h.elim hne (by omega)), b2, znu_1 b1 (by omega), if_pos rfl] at s12
    rw [if_neg (fun h => h.elim hne (by omega)), b2, znu_1 b1 (by omega), if_neg (by omega)] at s13
    exact Or.inr ⟨zP_t b2 b1, Nat.pos_of_ne_zero fun h => hne (v1n h), s11, _, _, by omega, by omega, zst_n b2 b1, s12, s13⟩
theorem F_holds_step (V : Sv S p l x lo ov orr nv nr q qk qv qr wr wa wc wk) {n i c1 c2 c3 c4 : Nat} (hi : i < 31) : fL_holds_b111 (n + 1) (nI p) (nI c1) (nI c2) (nI c3) (nI c4) (nI 1) (nI i) S = fL_holds_b111 n (nI p) (nI (c1 + if zP orr i = true then 1 else 0)) (nI (c2 + if zP nr i = true then 1 else 0)) (nI (c3 + if zst nr i = true then 1 else 0)) (nI (c4 + if zkn nv i = true then 1 else 0)) (nI 1) (nI (i + 1)) S := by
  have R := V.2.2
  obtain ⟨⟨hp, hq, hl0, hx, hqp⟩, r0, r1, rq, rw', rp0, rp3⟩ := R
  have k1 := R_count1 V
  simp only [gl_0, gl_1, gl_2, gl_3, gl_4, gl_5, gl_6, gl_7, gl_8, gl_9, gl_10, gl_11, gl_12, gl_13, gl_14, gl_15, gl_16, gl_17, gl_18, gl_19, gl_20, gl_21, gl_22, gl_23, gl_24, gl_25, gl_26, gl_27, gl_28, gl_29, gl_30, gl_31, gl_32, gl_44, gl_48, gl_49, gl_57, gl_59, gl_60, gl_63, gl_70, gl_98, gl_99, gl_100, gl_101, gl_107, gl_109, gl_110, gl_111, gl_116, gl_120, gl_126, gl_155, gl_411, gl_999, gl_1000, gl_1233, gl_1644, gl_100000, gl_m1] at k1
  have hl2 : ¬ nI l < -1000002 := z_nlt2 (by omega)
  rw [fL_holds_b111, if_neg (by rw [gl_31, nI_leI (by omega) (by omega)]; omega), if_neg (by decide)]
  simp only [gl_0, gl_1, gl_2, gl_3, gl_4]
  by_cases hp3 : p = 3
  · subst hp3
    have ho := (rp3 rfl i hi).2
    have s00 := R_shape0 V hi (w := 0) (by omega)
    rw [if_pos rfl] at s00
    obtain ⟨v1, v1l, s10, hkn, s14, hN⟩ := R_new V (by omega) hi
    refine (z_eb s00).trans ?_
    refine (z_eb s10).trans ?_
    refine (z_eb (a := nI 0) (by simp (disch := omega) only [gl_0, gl_1, gl_2, gl_3, gl_4, gl_5, gl_6, gl_7, gl_8, gl_9, gl_10, gl_11, gl_12, gl_13, gl_14, gl_15, gl_16, gl_17, gl_18, gl_19, gl_20, gl_21, gl_22, gl_23, gl_24, gl_25, gl_26, gl_27, gl_28, gl_29, gl_30, gl_31, gl_32, gl_44, gl_48, gl_49, gl_57, gl_59, gl_60, gl_63, gl_70, gl_98, gl_99, gl_100, gl_101, gl_107, gl_109, gl_110, gl_111, gl_116, gl_120, gl_126, gl_155, gl_411, gl_999, gl_1000, gl_1233, gl_1644, gl_100000, gl_m1, nI_eq, nI_leI, nI_ltI, nI_add, nI_clamp, pk_mul, pk_sub, z_in, z_gt, z_bs, z_us, z_un, if_pos, if_neg, if_true, if_false, and_true, true_and, and_self, not_true_eq_false, not_false_eq_true, z_lt2])).trans ?_
    refine (z_eb (a := nI 0) (by simp (disch := omega) only [gl_0, gl_1, gl_2, gl_3, gl_4, gl_5, gl_6, gl_7, gl_8, gl_9, gl_10, gl_11, gl_12, gl_13, gl_14, gl_15, gl_16, gl_17, gl_18, gl_19, gl_20, gl_21, gl_22, gl_23, gl_24, gl_25, gl_26, gl_27, gl_28, gl_29, gl_30, gl_31, gl_32, gl_44, gl_48, gl_49, gl_57, gl_59, gl_60, gl_63, gl_70, gl_98, gl_99, gl_100, gl_101, gl_107, gl_109, gl_110, gl_111, gl_116, gl_120, gl_126, gl_155, gl_411, gl_999, gl_1000, gl_1233, gl_1644, gl_100000, gl_m1, nI_eq, nI_leI, nI_ltI, nI_add, nI_clamp, pk_mul, pk_sub, z_in, z_gt, z_bs, z_us, z_un, if_pos, if_neg, if_true, if_false, and_true, true_and, and_self, not_true_eq_false, not_false_eq_true])).trans ?_
    refine (z_eb (a := nI 1) (by simp (disch := omega) only [gl_0, gl_1, gl_2, gl_3, gl_4, gl_5, gl_6, gl_7, gl_8, gl_9, gl_10, gl_11, gl_12, gl_13, gl_14, gl_15, gl_16, gl_17, gl_18, gl_19, gl_20, gl_21, gl_22, gl_23, gl_24, gl_25, gl_26, gl_27, gl_28, gl_29, gl_30, gl_31, gl_32, gl_44, gl_48, gl_49, gl_57, gl_59, gl_60, gl_63, gl_70, gl_98, gl_99, gl_100, gl_101, gl_107, gl_109, gl_110, gl_111, gl_116, gl_120, gl_126, gl_155, gl_411, gl_999, gl_1000, gl_1233, gl_1644, gl_100000, gl_m1, nI_eq, nI_leI, nI_ltI, nI_add, nI_clamp, pk_mul, pk_sub, z_in, z_gt, z_bs, z_us, z_un, if_pos, if_neg, if_true, if_false, and_true, true_and, and_self, not_true_eq_false, not_false_eq_true, k1, hl2, z_lt2])).trans ?_
    refine (z_eb (a := (nI (c1 + if zP orr i = true then 1 else 0), nI 1)) (by rw [zP_f ho]; simp (disch := omega) only [gl_0, gl_1, gl_2, gl_3, gl_4, gl_5, gl_6, gl_7, gl_8, gl_9, gl_10, gl_11, gl_12, gl_13, gl_14, gl_15, gl_16, gl_17, gl_18, gl_19, gl_20, gl_21, gl_22, gl_23, gl_24, gl_25, gl_26, gl_27, gl_28, gl_29, gl_30, gl_31, gl_32, gl_44, gl_48, gl_49, gl_57, gl_59, gl_60, gl_63, gl_70, gl_98, gl_99, gl_100, gl_101, gl_107, gl_109, gl_110, gl_111, gl_116, gl_120, gl_126, gl_155, gl_411, gl_999, gl_1000, gl_1233, gl_1644, gl_100000, gl_m1, nI_eq, nI_leI, nI_ltI, nI_add, nI_clamp, pk_mul, pk_sub, z_in, z_gt, z_bs, z_us, z_un, if_pos, if_neg, if_true, if_false, and_true, true_and, and_self, not_true_eq_false, not_false_eq_true, z_lt2, Bool.false_eq_true, Nat.add_zero])).trans ?_
    refine (z_eb (a := (nI (c2 + if zP nr i = true then 1 else 0), nI (c3 + if zst nr i = true then 1 else 0), nI (c4 + if zkn nv i = true then 1 else 0), nI 1)) ?_).trans ?_
    · rcases hN with ⟨g1, g2, g3, g4⟩ | ⟨g1, g2, g3, a, b, ha, hb, g4, g5, g6⟩
      · rw [g1, g2, hkn]
        by_cases hv1 : v1 = 0
        · simp (disch := omega) only [gl_0, gl_1, gl_2, gl_3, gl_4, gl_5, gl_6, gl_7, gl_8, gl_9, gl_10, gl_11, gl_12, gl_13, gl_14, gl_15, gl_16, gl_17, gl_18, gl_19, gl_20, gl_21, gl_22, gl_23, gl_24, gl_25, gl_26, gl_27, gl_28, gl_29, gl_30, gl_31, gl_32, gl_44, gl_48, gl_49, gl_57, gl_59, gl_60, gl_63, gl_70, gl_98, gl_99, gl_100, gl_101, gl_107, gl_109, gl_110, gl_111, gl_116, gl_120, gl_126, gl_155, gl_411, gl_999, gl_1000, gl_1233, gl_1644, gl_100000, gl_m1, nI_eq, nI_leI, nI_ltI, nI_add, nI_clamp, pk_mul, pk_sub, z_in, z_gt, z_bs, z_us, z_un, if_pos, if_neg, if_true, if_false, and_true, true_and, and_self, not_true_eq_false, not_false_eq_true, g3, g4, s14, hv1, decide_true, decide_false, z_lt4, Bool.false_eq_true, Nat.add_zero]
        · simp (disch := omega) only [gl_0, gl_1, gl_2, gl_3, gl_4, gl_5, gl_6, gl_7, gl_8, gl_9, gl_10, gl_11, gl_12, gl_13, gl_14, gl_15, gl_16, gl_17, gl_18, gl_19, gl_20, gl_21, gl_22, gl_23, gl_24, gl_25, gl_26, gl_27, gl_28, gl_29, gl_30, gl_31, gl_32, gl_44, gl_48, gl_49, gl_57, gl_59, gl_60, gl_63, gl_70, gl_98, gl_99, gl_100, gl_101, gl_107, gl_109, gl_110, gl_111, gl_116, gl_120, gl_126, gl_155, gl_411, gl_999, gl_1000, gl_1233, gl_1644, gl_100000, gl_m1, nI_eq, nI_leI, nI_ltI, nI_add, nI_clamp, pk_mul, pk_sub, z_in, z_gt, z_bs, z_us, z_un, if_pos, if_neg, if_true, if_false, and_true, true_and, and_self, not_true_eq_false, not_false_eq_true, g3, g4, s14, hv1, decide_true, decide_false, z_lt4, Bool.false_eq_true, Nat.add_zero]
      · rw [g1, g4, hkn]
        have hv1 : ¬ v1 = 0 := by omega
        by_cases hm : b ≤ 1
        · simp (disch := omega) only [gl_0, gl_1, gl_2, gl_3, gl_4, gl_5, gl_6, gl_7, gl_8, gl_9, gl_10, gl_11, gl_12, gl_13, gl_14, gl_15, gl_16, gl_17, gl_18, gl_19, gl_20, gl_21, gl_22, gl_23, gl_24, gl_25, gl_26, gl_27, gl_28, gl_29, gl_30, gl_31, gl_32, gl_44, gl_48, gl_49, gl_57, gl_59, gl_60, gl_63, gl_70, gl_98, gl_99, gl_100, gl_101, gl_107, gl_109, gl_110, gl_111, gl_116, gl_120, gl_126, gl_155, gl_411, gl_999, gl_1000, gl_1233, gl_1644, gl_100000, gl_m1, nI_eq, nI_leI, nI_ltI, nI_add, nI_clamp, pk_mul, pk_sub, z_in, z_gt, z_bs, z_us, z_un, if_pos, if_neg, if_true, if_false, and_true, true_and, and_self, not_true_eq_false, not_false_eq_true, g3, g5, g6, s14, hv1, hm, decide_true, decide_false, z_lt4, Bool.false_eq_true, Nat.add_zero]
        · simp (disch := omega) only [gl_0, gl_1, gl_2, gl_3, gl_4, gl_5, gl_6, gl_7, gl_8, gl_9, gl_10, gl_11, gl_12, gl_13, gl_14, gl_15, gl_16, gl_17, gl_18, gl_19, gl_20, gl_21, gl_22, gl_23, gl_24, gl_25, gl_26, gl_27, gl_28, gl_29, gl_30, gl_31, gl_32, gl_44, gl_48, gl_49, gl_57, gl_59, gl_60, gl_63, gl_70, gl_98, gl_99, gl_100, gl_101, gl_107, gl_109, gl_110, gl_111, gl_116, gl_120, gl_126, gl_155, gl_411, gl_999, gl_1000, gl_1233, gl_1644, gl_100000, gl_m1, nI_eq, nI_leI, nI_ltI, nI_add, nI_clamp, pk_mul, pk_sub, z_in, z_gt, z_bs, z_us, z_un, if_pos, if_neg, if_true, if_false, and_true, true_and, and_self, not_true_eq_false, not_false_eq_true, g3, g5, g6, s14, hv1, hm, decide_true, decide_false, z_lt4, Bool.false_eq_true, Nat.add_zero]
    rw [nI_add]
  obtain ⟨v0, v0l, s00, hO⟩ := R_old V hp3 hi
  by_cases hp0 : p = 0
  · subst hp0
    have ho := (rp0 rfl i hi).2
    have hv := (rp0 rfl i hi).1
    have s10 := R_shape1 V hi (w := 0) (by omega)
    rw [if_pos rfl] at s10
    have hkn : zkn nv i = false := by
      unfold zkn
      rw [hv]
      exact decide_eq_false (fun e => e rfl)
    refine (z_eb s00).trans ?_
    refine (z_eb s10).trans ?_
    refine (z_eb (a := nI 1) (by simp (disch := omega) only [gl_0, gl_1, gl_2, gl_3, gl_4, gl_5, gl_6, gl_7, gl_8, gl_9, gl_10, gl_11, gl_12, gl_13, gl_14, gl_15, gl_16, gl_17, gl_18, gl_19, gl_20, gl_21, gl_22, gl_23, gl_24, gl_25, gl_26, gl_27, gl_28, gl_29, gl_30, gl_31, gl_32, gl_44, gl_48, gl_49, gl_57, gl_59, gl_60, gl_63, gl_70, gl_98, gl_99, gl_100, gl_101, gl_107, gl_109, gl_110, gl_111, gl_116, gl_120, gl_126, gl_155, gl_411, gl_999, gl_1000, gl_1233, gl_1644, gl_100000, gl_m1, nI_eq, nI_leI, nI_ltI, nI_add, nI_clamp, pk_mul, pk_sub, z_in, z_gt, z_bs, z_us, z_un, if_pos, if_neg, if_true, if_false, and_true, true_and, and_self, not_true_eq_false, not_false_eq_true, z_lt2])).trans ?_
    refine (z_eb (a := nI 1) (by simp (disch := omega) only [gl_0, gl_1, gl_2, gl_3, gl_4, gl_5, gl_6, gl_7, gl_8, gl_9, gl_10, gl_11, gl_12, gl_13, gl_14, gl_15, gl_16, gl_17, gl_18, gl_19, gl_20, gl_21, gl_22, gl_23, gl_24, gl_25, gl_26, gl_27, gl_28, gl_29, gl_30, gl_31, gl_32, gl_44, gl_48, gl_49, gl_57, gl_59, gl_60, gl_63, gl_70, gl_98, gl_99, gl_100, gl_101, gl_107, gl_109, gl_110, gl_111, gl_116, gl_120, gl_126, gl_155, gl_411, gl_999, gl_1000, gl_1233, gl_1644, gl_100000, gl_m1, nI_eq, nI_leI, nI_ltI, nI_add, nI_clamp, pk_mul, pk_sub, z_in, z_gt, z_bs, z_us, z_un, if_pos, if_neg, if_true, if_false, and_true, true_and, and_self, not_true_eq_false, not_false_eq_true])).trans ?_
    refine (z_eb (a := nI 1) (by simp (disch := omega) only [gl_0, gl_1, gl_2, gl_3, gl_4, gl_5, gl_6, gl_7, gl_8, gl_9, gl_10, gl_11, gl_12, gl_13, gl_14, gl_15, gl_16, gl_17, gl_18, gl_19, gl_20, gl_21, gl_22, gl_23, gl_24, gl_25, gl_26, gl_27, gl_28, gl_29, gl_30, gl_31, gl_32, gl_44, gl_48, gl_49, gl_57, gl_59, gl_60, gl_63, gl_70, gl_98, gl_99, gl_100, gl_101, gl_107, gl_109, gl_110, gl_111, gl_116, gl_120, gl_126, gl_155, gl_411, gl_999, gl_1000, gl_1233, gl_1644, gl_100000, gl_m1, nI_eq, nI_leI, nI_ltI, nI_add, nI_clamp, pk_mul, pk_sub, z_in, z_gt, z_bs, z_us, z_un, if_pos, if_neg, if_true, if_false, and_true, true_and, and_self, not_true_eq_false, not_false_eq_true, k1, hl2, z_lt2])).trans ?_
    refine (z_eb (a := (nI (c1 + if zP orr i = true then 1 else 0), nI 1)) ?_).trans ?_
    · rcases hO with ⟨g1, g3, g4⟩ | ⟨g1, g2, g3, a, b, c, ha, hb, hc, g4, g5, g6⟩
      · rw [g1]
        simp (disch := omega) only [gl_0, gl_1, gl_2, gl_3, gl_4, gl_5, gl_6, gl_7, gl_8, gl_9, gl_10, gl_11, gl_12, gl_13, gl_14, gl_15, gl_16, gl_17, gl_18, gl_19, gl_20, gl_21, gl_22, gl_23, gl_24, gl_25, gl_26, gl_27, gl_28, gl_29, gl_30, gl_31, gl_32, gl_44, gl_48, gl_49, gl_57, gl_59, gl_60, gl_63, gl_70, gl_98, gl_99, gl_100, gl_101, gl_107, gl_109, gl_110, gl_111, gl_116, gl_120, gl_126, gl_155, gl_411, gl_999, gl_1000, gl_1233, gl_1644, gl_100000, gl_m1, nI_eq, nI_leI, nI_ltI, nI_add, nI_clamp, pk_mul, pk_sub, z_in, z_gt, z_bs, z_us, z_un, if_pos, if_neg, if_true, if_false, and_true, true_and, and_self, not_true_eq_false, not_false_eq_true, g3, g4, z_lt4, Bool.false_eq_true, Nat.add_zero]
      · rw [g1]
        simp (disch := omega) only [gl_0, gl_1, gl_2, gl_3, gl_4, gl_5, gl_6, gl_7, gl_8, gl_9, gl_10, gl_11, gl_12, gl_13, gl_14, gl_15, gl_16, gl_17, gl_18, gl_19, gl_20, gl_21, gl_22, gl_23, gl_24, gl_25, gl_26, gl_27, gl_28, gl_29, gl_30, gl_31, gl_32, gl_44, gl_48, gl_49, gl_57, gl_59, gl_60, gl_63, gl_70, gl_98, gl_99, gl_100, gl_101, gl_107, gl_109, gl_110, gl_111, gl_116, gl_120, gl_126, gl_155, gl_411, gl_999, gl_1000, gl_1233, gl_1644, gl_100000, gl_m1, nI_eq, nI_leI, nI_ltI, nI_add, nI_clamp, pk_mul, pk_sub, z_in, z_gt, z_bs, z_us, z_un, if_pos, if_neg, if_true, if_false, and_true, true_and, and_self, not_true_eq_false, not_false_eq_true, g3, g4, g5, g6]
    refine (z_eb (a := (nI (c2 + if zP nr i = true then 1 else 0), nI (c3 + if zst nr i = true then 1 else 0), nI (c4 + if zkn nv i = true then 1 else 0), nI 1)) (by rw [zP_f ho, zst_f ho, hkn]; simp (disch := omega) only [gl_0, gl_1, gl_2, gl_3, gl_4, gl_5, gl_6, gl_7, gl_8, gl_9, gl_10, gl_11, gl_12, gl_13, gl_14, gl_15, gl_16, gl_17, gl_18, gl_19, gl_20, gl_21, gl_22, gl_23, gl_24, gl_25, gl_26, gl_27, gl_28, gl_29, gl_30, gl_31, gl_32, gl_44, gl_48, gl_49, gl_57, gl_59, gl_60, gl_63, gl_70, gl_98, gl_99, gl_100, gl_101, gl_107, gl_109, gl_110, gl_111, gl_116, gl_120, gl_126, gl_155, gl_411, gl_999, gl_1000, gl_1233, gl_1644, gl_100000, gl_m1, nI_eq, nI_leI, nI_ltI, nI_add, nI_clamp, pk_mul, pk_sub, z_in, z_gt, z_bs, z_us, z_un, if_pos, if_neg, if_true, if_false, and_true, true_and, and_self, not_true_eq_false, not_false_eq_true, z_lt2, Bool.false_eq_true, Nat.add_zero])).trans ?_
    rw [nI_add]
  · obtain ⟨v1, v1l, s10, hkn, s14, hN⟩ := R_new V hp0 hi
    refine (z_eb s00).trans ?_
    refine (z_eb s10).trans ?_
    refine (z_eb (a := nI 1) (by simp (disch := omega) only [gl_0, gl_1, gl_2, gl_3, gl_4, gl_5, gl_6, gl_7, gl_8, gl_9, gl_10, gl_11, gl_12, gl_13, gl_14, gl_15, gl_16, gl_17, gl_18, gl_19, gl_20, gl_21, gl_22, gl_23, gl_24, gl_25, gl_26, gl_27, gl_28, gl_29, gl_30, gl_31, gl_32, gl_44, gl_48, gl_49, gl_57, gl_59, gl_60, gl_63, gl_70, gl_98, gl_99, gl_100, gl_101, gl_107, gl_109, gl_110, gl_111, gl_116, gl_120, gl_126, gl_155, gl_411, gl_999, gl_1000, gl_1233, gl_1644, gl_100000, gl_m1, nI_eq, nI_leI, nI_ltI, nI_add, nI_clamp, pk_mul, pk_sub, z_in, z_gt, z_bs, z_us, z_un, if_pos, if_neg, if_true, if_false, and_true, true_and, and_self, not_true_eq_false, not_false_eq_true, z_lt2])).trans ?_
    refine (z_eb (a := nI 1) (by simp (disch := omega) only [gl_0, gl_1, gl_2, gl_3, gl_4, gl_5, gl_6, gl_7, gl_8, gl_9, gl_10, gl_11, gl_12, gl_13, gl_14, gl_15, gl_16, gl_17, gl_18, gl_19, gl_20, gl_21, gl_22, gl_23, gl_24, gl_25, gl_26, gl_27, gl_28, gl_29, gl_30, gl_31, gl_32, gl_44, gl_48, gl_49, gl_57, gl_59, gl_60, gl_63, gl_70, gl_98, gl_99, gl_100, gl_101, gl_107, gl_109, gl_110, gl_111, gl_116, gl_120, gl_126, gl_155, gl_411, gl_999, gl_1000, gl_1233, gl_1644, gl_100000, gl_m1, nI_eq, nI_leI, nI_ltI, nI_add, nI_clamp, pk_mul, pk_sub, z_in, z_gt, z_bs, z_us, z_un, if_pos, if_neg, if_true, if_false, and_true, true_and, and_self, not_true_eq_false, not_false_eq_true])).trans ?_
    refine (z_eb (a := nI 1) (by simp (disch := omega) only [gl_0, gl_1, gl_2, gl_3, gl_4, gl_5, gl_6, gl_7, gl_8, gl_9, gl_10, gl_11, gl_12, gl_13, gl_14, gl_15, gl_16, gl_17, gl_18, gl_19, gl_20, gl_21, gl_22, gl_23, gl_24, gl_25, gl_26, gl_27, gl_28, gl_29, gl_30, gl_31, gl_32, gl_44, gl_48, gl_49, gl_57, gl_59, gl_60, gl_63, gl_70, gl_98, gl_99, gl_100, gl_101, gl_107, gl_109, gl_110, gl_111, gl_116, gl_120, gl_126, gl_155, gl_411, gl_999, gl_1000, gl_1233, gl_1644, gl_100000, gl_m1, nI_eq, nI_leI, nI_ltI, nI_add, nI_clamp, pk_mul, pk_sub, z_in, z_gt, z_bs, z_us, z_un, if_pos, if_neg, if_true, if_false, and_true, true_and, and_self, not_true_eq_false, not_false_eq_true, k1, hl2, z_lt2])).trans ?_
    refine (z_eb (a := (nI (c1 + if zP orr i = true then 1 else 0), nI 1)) ?_).trans ?_
    · rcases hO with ⟨g1, g3, g4⟩ | ⟨g1, g2, g3, a, b, c, ha, hb, hc, g4, g5, g6⟩
      · rw [g1]
        simp (disch := omega) only [gl_0, gl_1, gl_2, gl_3, gl_4, gl_5, gl_6, gl_7, gl_8, gl_9, gl_10, gl_11, gl_12, gl_13, gl_14, gl_15, gl_16, gl_17, gl_18, gl_19, gl_20, gl_21, gl_22, gl_23, gl_24, gl_25, gl_26, gl_27, gl_28, gl_29, gl_30, gl_31, gl_32, gl_44, gl_48, gl_49, gl_57, gl_59, gl_60, gl_63, gl_70, gl_98, gl_99, gl_100, gl_101, gl_107, gl_109, gl_110, gl_111, gl_116, gl_120, gl_126, gl_155, gl_411, gl_999, gl_1000, gl_1233, gl_1644, gl_100000, gl_m1, nI_eq, nI_leI, nI_ltI, nI_add, nI_clamp, pk_mul, pk_sub, z_in, z_gt, z_bs, z_us, z_un, if_pos, if_neg, if_true, if_false, and_true, true_and, and_self, not_true_eq_false, not_false_eq_true, g3, g4, z_lt4, Bool.false_eq_true, Nat.add_zero]
      · rw [g1]
        simp (disch := omega) only [gl_0, gl_1, gl_2, gl_3, gl_4, gl_5, gl_6, gl_7, gl_8, gl_9, gl_10, gl_11, gl_12, gl_13, gl_14, gl_15, gl_16, gl_17, gl_18, gl_19, gl_20, gl_21, gl_22, gl_23, gl_24, gl_25, gl_26, gl_27, gl_28, gl_29, gl_30, gl_31, gl_32, gl_44, gl_48, gl_49, gl_57, gl_59, gl_60, gl_63, gl_70, gl_98, gl_99, gl_100, gl_101, gl_107, gl_109, gl_110, gl_111, gl_116, gl_120, gl_126, gl_155, gl_411, gl_999, gl_1000, gl_1233, gl_1644, gl_100000, gl_m1, nI_eq, nI_leI, nI_ltI, nI_add, nI_clamp, pk_mul, pk_sub, z_in, z_gt, z_bs, z_us, z_un, if_pos, if_neg, if_true, if_false, and_true, true_and, and_self, not_true_eq_false, not_false_eq_true, g3, g4, g5, g6]
    refine (z_eb (a := (nI (c2 + if zP nr i = true then 1 else 0), nI (c3 + if zst nr i = true then 1 else 0), nI (c4 + if zkn nv i = true then 1 else 0), nI 1)) ?_).trans ?_
    · rcases hN with ⟨g1, g2, g3, g4⟩ | ⟨g1, g2, g3, a, b, ha, hb, g4, g5, g6⟩
      · rw [g1, g2, hkn]
        by_cases hv1 : v1 = 0
        · simp (disch := omega) only [gl_0, gl_1, gl_2, gl_3, gl_4, gl_5, gl_6, gl_7, gl_8, gl_9, gl_10, gl_11, gl_12, gl_13, gl_14, gl_15, gl_16, gl_17, gl_18, gl_19, gl_20, gl_21, gl_22, gl_23, gl_24, gl_25, gl_26, gl_27, gl_28, gl_29, gl_30, gl_31, gl_32, gl_44, gl_48, gl_49, gl_57, gl_59, gl_60, gl_63, gl_70, gl_98, gl_99, gl_100, gl_101, gl_107, gl_109, gl_110, gl_111, gl_116, gl_120, gl_126, gl_155, gl_411, gl_999, gl_1000, gl_1233, gl_1644, gl_100000, gl_m1, nI_eq, nI_leI, nI_ltI, nI_add, nI_clamp, pk_mul, pk_sub, z_in, z_gt, z_bs, z_us, z_un, if_pos, if_neg, if_true, if_false, and_true, true_and, and_self, not_true_eq_false, not_false_eq_true, g3, g4, s14, hv1, decide_true, decide_false, z_lt4, Bool.false_eq_true, Nat.add_zero]
        · simp (disch := omega) only [gl_0, gl_1, gl_2, gl_3, gl_4, gl_5, gl_6, gl_7, gl_8, gl_9, gl_10, gl_11, gl_12, gl_13, gl_14, gl_15, gl_16, gl_17, gl_18, gl_19, gl_20, gl_21, gl_22, gl_23, gl_24, gl_25, gl_26, gl_27, gl_28, gl_29, gl_30, gl_31, gl_32, gl_44, gl_48, gl_49, gl_57, gl_59, gl_60, gl_63, gl_70, gl_98, gl_99, gl_100, gl_101, gl_107, gl_109, gl_110, gl_111, gl_116, gl_120, gl_126, gl_155, gl_411, gl_999, gl_1000, gl_1233, gl_1644, gl_100000, gl_m1, nI_eq, nI_leI, nI_ltI, nI_add, nI_clamp, pk_mul, pk_sub, z_in, z_gt, z_bs, z_us, z_un, if_pos, if_neg, if_true, if_false, and_true, true_and, and_self, not_true_eq_false, not_false_eq_true, g3, g4, s14, hv1, decide_true, decide_false, z_lt4, Bool.false_eq_true, Nat.add_zero]
      · rw [g1, g4, hkn]
        have hv1 : ¬ v1 = 0 := by omega
        by_cases hm : b ≤ 1
        · simp (disch := omega) only [gl_0, gl_1, gl_2, gl_3, gl_4, gl_5, gl_6, gl_7, gl_8, gl_9, gl_10, gl_11, gl_12, gl_13, gl_14, gl_15, gl_16, gl_17, gl_18, gl_19, gl_20, gl_21, gl_22, gl_23, gl_24, gl_25, gl_26, gl_27, gl_28, gl_29, gl_30, gl_31, gl_32, gl_44, gl_48, gl_49, gl_57, gl_59, gl_60, gl_63, gl_70, gl_98, gl_99, gl_100, gl_101, gl_107, gl_109, gl_110, gl_111, gl_116, gl_120, gl_126, gl_155, gl_411, gl_999, gl_1000, gl_1233, gl_1644, gl_100000, gl_m1, nI_eq, nI_leI, nI_ltI, nI_add, nI_clamp, pk_mul, pk_sub, z_in, z_gt, z_bs, z_us, z_un, if_pos, if_neg, if_true, if_false, and_true, true_and, and_self, not_true_eq_false, not_false_eq_true, g3, g5, g6, s14, hv1, hm, decide_true, decide_false, z_lt4, Bool.false_eq_true, Nat.add_zero]
        · simp (disch := omega) only [gl_0, gl_1, gl_2, gl_3, gl_4, gl_5, gl_6, gl_7, gl_8, gl_9, gl_10, gl_11, gl_12, gl_13, gl_14, gl_15, gl_16, gl_17, gl_18, gl_19, gl_20, gl_21, gl_22, gl_23, gl_24, gl_25, gl_26, gl_27, gl_28, gl_29, gl_30, gl_31, gl_32, gl_44, gl_48, gl_49, gl_57, gl_59, gl_60, gl_63, gl_70, gl_98, gl_99, gl_100, gl_101, gl_107, gl_109, gl_110, gl_111, gl_116, gl_120, gl_126, gl_155, gl_411, gl_999, gl_1000, gl_1233, gl_1644, gl_100000, gl_m1, nI_eq, nI_leI, nI_ltI, nI_add, nI_clamp, pk_mul, pk_sub, z_in, z_gt, z_bs, z_us, z_un, if_pos, if_neg, if_true, if_false, and_true, true_and, and_self, not_true_eq_false, not_false_eq_true, g3, g5, g6, s14, hv1, hm, decide_true, decide_false, z_lt4, Bool.false_eq_true, Nat.add_zero]
    rw [nI_add]
theorem F_holds_loop (V : Sv S p l x lo ov orr nv nr q qk qv qr wr wa wc wk) : fL_holds_b111 2000 (nI p) (nI 0) (nI 0) (nI 0) (nI 0) (nI 1) (nI 0) S = some (nI 1) := by
  refine z_loop (fun n i (s : Int32 × Int32 × Int32 × Int32) => fL_holds_b111 n (nI p) s.1 s.2.1 s.2.2.1 s.2.2.2 (nI 1) (nI i) S) 31 (fun i s => s = (nI (z_cnt (zP orr) i), nI (z_cnt (zP nr) i), nI (z_cnt (zst nr) i), nI (z_cnt (zkn nv) i))) (fun o => o = some (nI 1)) ?_ ?_ 2000 0 (nI 0, nI 0, nI 0, nI 0) (by omega) (by omega) rfl
  · rintro n i s hi rfl
    refine ⟨_, rfl, ?_⟩
    simp only [z_cnt_succ]
    exact F_holds_step V hi
  · rintro n s rfl
    dsimp only
    rw [fL_holds_b111, if_pos (by decide)]
    exact F_holds_end V
theorem F_holds (V : Sv S p l x lo ov orr nv nr q qk qv qr wr wa wc wk) : fL_holds S = some 1 := by
  have hp := V.2.2.1.1
  have hq := V.2.2.1.2.1
  have hx := V.2.2.1.2.2.2.1
  have hqp := V.2.2.1.2.2.2.2
  have c0 := R_count0 V
  have c2 := R_count2 V
  have c3 := R_count3 V
  have ck := R_check V
  simp only [gl_0, gl_1, gl_2, gl_3, gl_4, gl_5, gl_6, gl_7, gl_8, gl_9, gl_10, gl_11, gl_12, gl_13, gl_14, gl_15, gl_16, gl_17, gl_18, gl_19, gl_20, gl_21, gl_22, gl_23, gl_24, gl_25, gl_26, gl_27, gl_28, gl_29, gl_30, gl_31, gl_32, gl_44, gl_48, gl_49, gl_57, gl_59, gl_60, gl_63, gl_70, gl_98, gl_99, gl_100, gl_101, gl_107, gl_109, gl_110, gl_111, gl_116, gl_120, gl_126, gl_155, gl_411, gl_999, gl_1000, gl_1233, gl_1644, gl_100000, gl_m1] at c0 c2 c3
  have hge := z_bits_ge (zdf ov orr nv nr)
  have hL := F_holds_loop V
  have hz : (8 : Nat) < 2 ^ 31 := by omega
  unfold fL_holds
  rcases (show p = 0 ∨ p = 1 ∨ p = 2 ∨ p = 3 by omega) with rfl | rfl | rfl | rfl
  · have hq0 : q = 0 := Decidable.byContradiction fun h => by
      have := hqp h
      omega
    subst hq0
    rw [if_neg (by omega)] at c2 ck
    simp (disch := omega) only [gl_0, gl_1, gl_2, gl_3, gl_4, gl_5, gl_6, gl_7, gl_8, gl_9, gl_10, gl_11, gl_12, gl_13, gl_14, gl_15, gl_16, gl_17, gl_18, gl_19, gl_20, gl_21, gl_22, gl_23, gl_24, gl_25, gl_26, gl_27, gl_28, gl_29, gl_30, gl_31, gl_32, gl_44, gl_48, gl_49, gl_57, gl_59, gl_60, gl_63, gl_70, gl_98, gl_99, gl_100, gl_101, gl_107, gl_109, gl_110, gl_111, gl_116, gl_120, gl_126, gl_155, gl_411, gl_999, gl_1000, gl_1233, gl_1644, gl_100000, gl_m1, nI_eq, nI_leI, nI_ltI, nI_add, nI_clamp, pk_mul, pk_sub, z_in, z_gt, z_bs, z_us, z_un, if_pos, if_neg, if_true, if_false, and_true, true_and, and_self, not_true_eq_false, not_false_eq_true, c0, c2, c3, ck, z_lt2, z_lt4, hL]
  · rw [if_pos rfl] at c2
    rw [if_pos (Or.inl rfl)] at ck
    simp (disch := omega) only [gl_0, gl_1, gl_2, gl_3, gl_4, gl_5, gl_6, gl_7, gl_8, gl_9, gl_10, gl_11, gl_12, gl_13, gl_14, gl_15, gl_16, gl_17, gl_18, gl_19, gl_20, gl_21, gl_22, gl_23, gl_24, gl_25, gl_26, gl_27, gl_28, gl_29, gl_30, gl_31, gl_32, gl_44, gl_48, gl_49, gl_57, gl_59, gl_60, gl_63, gl_70, gl_98, gl_99, gl_100, gl_101, gl_107, gl_109, gl_110, gl_111, gl_116, gl_120, gl_126, gl_155, gl_411, gl_999, gl_1000, gl_1233, gl_1644, gl_100000, gl_m1, nI_eq, nI_leI, nI_ltI, nI_add, nI_clamp, pk_mul, pk_sub, z_in, z_gt, z_bs, z_us, z_un, if_pos, if_neg, if_true, if_false, and_true, true_and, and_self, not_true_eq_false, not_false_eq_true, c0, c2, c3, ck, hge, hL]
  · rw [if_neg (by omega)] at c2
    rw [if_pos (Or.inr rfl)] at ck
    simp (disch := omega) only [gl_0, gl_1, gl_2, gl_3, gl_4, gl_5, gl_6, gl_7, gl_8, gl_9, gl_10, gl_11, gl_12, gl_13, gl_14, gl_15, gl_16, gl_17, gl_18, gl_19, gl_20, gl_21, gl_22, gl_23, gl_24, gl_25, gl_26, gl_27, gl_28, gl_29, gl_30, gl_31, gl_32, gl_44, gl_48, gl_49, gl_57, gl_59, gl_60, gl_63, gl_70, gl_98, gl_99, gl_100, gl_101, gl_107, gl_109, gl_110, gl_111, gl_116, gl_120, gl_126, gl_155, gl_411, gl_999, gl_1000, gl_1233, gl_1644, gl_100000, gl_m1, nI_eq, nI_leI, nI_ltI, nI_add, nI_clamp, pk_mul, pk_sub, z_in, z_gt, z_bs, z_us, z_un, if_pos, if_neg, if_true, if_false, and_true, true_and, and_self, not_true_eq_false, not_false_eq_true, c0, c2, c3, ck, z_lt4, hge, hL]
  · have hq0 : q = 0 := Decidable.byContradiction fun h => by
      have := hqp h
      omega
    subst hq0
    rw [if_neg (by omega)] at c2 ck
    simp (disch := omega) only [gl_0, gl_1, gl_2, gl_3, gl_4, gl_5, gl_6, gl_7, gl_8, gl_9, gl_10, gl_11, gl_12, gl_13, gl_14, gl_15, gl_16, gl_17, gl_18, gl_19, gl_20, gl_21, gl_22, gl_23, gl_24, gl_25, gl_26, gl_27, gl_28, gl_29, gl_30, gl_31, gl_32, gl_44, gl_48, gl_49, gl_57, gl_59, gl_60, gl_63, gl_70, gl_98, gl_99, gl_100, gl_101, gl_107, gl_109, gl_110, gl_111, gl_116, gl_120, gl_126, gl_155, gl_411, gl_999, gl_1000, gl_1233, gl_1644, gl_100000, gl_m1, nI_eq, nI_leI, nI_ltI, nI_add, nI_clamp, pk_mul, pk_sub, z_in, z_gt, z_bs, z_us, z_un, if_pos, if_neg, if_true, if_false, and_true, true_and, and_self, not_true_eq_false, not_false_eq_true, c0, c2, c3, ck, z_lt2, z_lt4, hL]
end FH
