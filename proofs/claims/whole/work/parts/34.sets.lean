/-! sets and counts, on both sides -/
theorem zd_inj {a b : Int32} (ha : zoo a) (hb : zoo b) (h0 : zd 0 0 a = zd 0 0 b) (h : zd 0 0 a = nI 1 → zd 0 1 a = zd 0 1 b ∧ zd 0 2 a = zd 0 2 b ∧ zd 0 3 a = zd 0 3 b) : a = b := by
  rcases ha with rfl | ⟨n, n1, n2, rfl⟩
  · rcases hb with rfl | ⟨m, m1, m2, rfl⟩
    · rfl
    · rw [zd_N, zd_0 _ (by omega)] at h0
      exact absurd h0 (by decide)
  · rcases hb with rfl | ⟨m, m1, m2, rfl⟩
    · rw [zd_N, zd_0 _ (by omega)] at h0
      exact absurd h0 (by decide)
    · obtain ⟨h1, h2, h3⟩ := h (zd_0 _ (by omega))
      rw [zd_01 (by omega), zd_01 (by omega), nI_eq (by omega) (by omega)] at h1
      rw [zd_02 (by omega), zd_02 (by omega), nI_eq (by omega) (by omega)] at h2
      rw [zd_03 (by omega), zd_03 (by omega), nI_eq (by omega) (by omega)] at h3
      congr 1
      omega
theorem zo1 {x : Int32} (h : x = nI 0 ∨ x = nI 1) : g_bl x = true := by
  rcases h with rfl | rfl <;> decide
theorem z_or0 (x : Int32) : x ||| nI 0 = x := by rw [nI_0]; exact Int32.or_zero
theorem z_cnt_succ (P : Nat → Bool) (n : Nat) : z_cnt P (n + 1) = z_cnt P n + (if P n = true then 1 else 0) := rfl
theorem z_bits_succ (P : Nat → Bool) (n : Nat) : z_bits P (n + 1) = if P n = true then z_bits P n ||| (nI 1 <<< (nI n &&& 31)) else z_bits P n := rfl
def zdf (ov orr nv nr : Nat → Int32) (k : Nat) : Bool := decide (¬ (ov k = nv k ∧ orr k = mo (nr k) (nI 0)))
def zst (row : Nat → Int32) (k : Nat) : Bool := decide (¬ row k = zN ∧ ¬ (row k - row k / nI 4 * nI 4) ≤ nI 1)
def zkn (ver : Nat → Int32) (k : Nat) : Bool := decide (¬ ver k = nI 0)
def zkr (p q : Nat) (orr nv nr qk qr : Nat → Int32) (s k : Nat) : Bool := decide (¬ zrr p q orr nv nr qk qr k s = zN)
def zqu (p q : Nat) (orr nv nr qk qr : Nat → Int32) (k : Nat) : Bool := decide (¬ zrr p q orr nv nr qk qr k 0 = mo (zrr p q orr nv nr qk qr k 1) (nI 0))
def zri (ov wr : Nat → Int32) (k : Nat) : Bool := decide (¬ ov k = wr k)
/-- a loop over the keys that gathers bits -/
theorem z_gather {σ β : Type} (F : Nat → Nat → Int32 → σ → Option β) (P : Nat → Bool) (J : σ → Prop) (Qf : Option β → Prop)
    (step : ∀ n i x s, i < 31 → J s → ∃ s', J s' ∧ F (n + 1) i x s = F n (i + 1) (if P i = true then x ||| (nI 1 <<< (nI i &&& 31)) else x) s') (fin : ∀ n s, J s → Qf (F (n + 1) 31 (z_bits P 31) s)) (s : σ) (hJ : J s) (N : Nat) (hN : 31 < N) : Qf (F N 0 (nI 0) s) := by
  refine z_loop (fun n i (q : Int32 × σ) => F n i q.1 q.2) 31 (fun i q => q.1 = z_bits P i ∧ J q.2) Qf ?_ ?_ N 0 (nI 0, s) (by omega) (by omega) ⟨rfl, hJ⟩
  · rintro n i ⟨x, s⟩ hi ⟨hx, hJ⟩
    obtain ⟨s', h1, h2⟩ := step n i x s hi hJ
    refine ⟨(if P i = true then x ||| (nI 1 <<< (nI i &&& 31)) else x, s'), ⟨?_, h1⟩, h2⟩
    dsimp only at hx ⊢
    rw [z_bits_succ, hx]
  · rintro n ⟨x, s⟩ ⟨hx, hJ⟩
    dsimp only at hx ⊢
    rw [hx]
    exact fin n s hJ
/-- a loop over the keys that counts -/
theorem z_tally {β : Type} (F : Nat → Nat → Int32 → Option β) (P : Nat → Bool) (Qf : Option β → Prop)
    (step : ∀ n i c, i < 31 → F (n + 1) i (nI c) = F n (i + 1) (nI (c + (if P i = true then 1 else 0)))) (fin : ∀ n, Qf (F (n + 1) 31 (nI (z_cnt P 31)))) (N : Nat) (hN : 31 < N) : Qf (F N 0 (nI 0)) := by
  refine z_loop (fun n i (x : Int32) => F n i x) 31 (fun i x => x = nI (z_cnt P i)) Qf ?_ ?_ N 0 (nI 0) (by omega) (by omega) rfl
  · rintro n i x hi hx
    subst hx
    exact ⟨_, rfl, step n i _ hi⟩
  · rintro n x hx
    subst hx
    exact fin n
section CD4
variable {ph la po lo : Int32} {ov orr nv nr : Nat → Int32} {ql : Int32} {qk qv qr wr : Nat → Int32} {wa : Int32} {wc wk : Nat → Int32}
theorem C_strangeRows (nu : Int32) (ver row : Nat → Int32) : fX3_strangeRows nu ver row = some (nI (z_cnt (zst row) 31)) := by
  unfold fX3_strangeRows
  simp only [gl_0, gl_1, gl_2, gl_3, gl_4, gl_5, gl_6, gl_7, gl_8, gl_9, gl_10, gl_11, gl_12, gl_13, gl_14, gl_15, gl_16, gl_17, gl_18, gl_19, gl_20, gl_21, gl_22, gl_23, gl_24, gl_25, gl_26, gl_27, gl_28, gl_29, gl_30, gl_31, gl_32, gl_44, gl_48, gl_49, gl_57, gl_59, gl_60, gl_63, gl_70, gl_98, gl_99, gl_100, gl_101, gl_107, gl_109, gl_110, gl_111, gl_116, gl_120, gl_126, gl_155, gl_411, gl_999, gl_1000, gl_1233, gl_1644, gl_100000, gl_m1]
  refine z_tally (fun n i x => fX3_strangeRows_b4 n nu x (nI i) ver row) (zst row) (fun o => o = some (nI (z_cnt (zst row) 31))) ?_ ?_ 2000 (by omega)
  · intro n i c hi
    simp (disch := omega) only [fX3_strangeRows_b4, fX2_isStrange, gl_0, gl_1, gl_2, gl_3, gl_4, gl_5, gl_6, gl_7, gl_8, gl_9, gl_10, gl_11, gl_12, gl_13, gl_14, gl_15, gl_16, gl_17, gl_18, gl_19, gl_20, gl_21, gl_22, gl_23, gl_24, gl_25, gl_26, gl_27, gl_28, gl_29, gl_30, gl_31, gl_32, gl_44, gl_48, gl_49, gl_57, gl_59, gl_60, gl_63, gl_70, gl_98, gl_99, gl_100, gl_101, gl_107, gl_109, gl_110, gl_111, gl_116, gl_120, gl_126, gl_155, gl_411, gl_999, gl_1000, gl_1233, gl_1644, gl_100000, gl_m1, nI_leI, z_in, z_gt, nI_clamp, nI_add]
    rw [if_neg (by omega)]
    by_cases h1 : row i = zN
    · rw [if_pos h1, z_bs, if_pos rfl]
      simp [zst, h1]
    · rw [if_neg h1]
      by_cases h2 : (row i - row i / nI 4 * nI 4) ≤ nI 1
      · rw [if_pos h2, z_bs, if_pos rfl]
        simp [zst, h2]
      · rw [if_neg h2, z_bs, if_neg (by decide)]
        simp [zst, h1, h2]
  · intro n
    simp (disch := omega) only [fX3_strangeRows_b4, gl_0, gl_1, gl_2, gl_3, gl_4, gl_5, gl_6, gl_7, gl_8, gl_9, gl_10, gl_11, gl_12, gl_13, gl_14, gl_15, gl_16, gl_17, gl_18, gl_19, gl_20, gl_21, gl_22, gl_23, gl_24, gl_25, gl_26, gl_27, gl_28, gl_29, gl_30, gl_31, gl_32, gl_44, gl_48, gl_49, gl_57, gl_59, gl_60, gl_63, gl_70, gl_98, gl_99, gl_100, gl_101, gl_107, gl_109, gl_110, gl_111, gl_116, gl_120, gl_126, gl_155, gl_411, gl_999, gl_1000, gl_1233, gl_1644, gl_100000, gl_m1, nI_leI]
    rw [if_pos (by omega)]
theorem C_known (nu : Int32) (ver row : Nat → Int32) : fX3_known nu ver row = some (nI (z_cnt (zkn ver) 31)) := by
  unfold fX3_known
  simp only [gl_0, gl_1, gl_2, gl_3, gl_4, gl_5, gl_6, gl_7, gl_8, gl_9, gl_10, gl_11, gl_12, gl_13, gl_14, gl_15, gl_16, gl_17, gl_18, gl_19, gl_20, gl_21, gl_22, gl_23, gl_24, gl_25, gl_26, gl_27, gl_28, gl_29, gl_30, gl_31, gl_32, gl_44, gl_48, gl_49, gl_57, gl_59, gl_60, gl_63, gl_70, gl_98, gl_99, gl_100, gl_101, gl_107, gl_109, gl_110, gl_111, gl_116, gl_120, gl_126, gl_155, gl_411, gl_999, gl_1000, gl_1233, gl_1644, gl_100000, gl_m1]
  refine z_tally (fun n i x => fX3_known_b4 n nu x (nI i) ver row) (zkn ver) (fun o => o = some (nI (z_cnt (zkn ver) 31))) ?_ ?_ 2000 (by omega)
  · intro n i c hi
    simp (disch := omega) only [fX3_known_b4, gl_0, gl_1, gl_2, gl_3, gl_4, gl_5, gl_6, gl_7, gl_8, gl_9, gl_10, gl_11, gl_12, gl_13, gl_14, gl_15, gl_16, gl_17, gl_18, gl_19, gl_20, gl_21, gl_22, gl_23, gl_24, gl_25, gl_26, gl_27, gl_28, gl_29, gl_30, gl_31, gl_32, gl_44, gl_48, gl_49, gl_57, gl_59, gl_60, gl_63, gl_70, gl_98, gl_99, gl_100, gl_101, gl_107, gl_109, gl_110, gl_111, gl_116, gl_120, gl_126, gl_155, gl_411, gl_999, gl_1000, gl_1233, gl_1644, gl_100000, gl_m1, nI_leI, z_in, z_gt, nI_clamp, nI_add]
    rw [if_neg (by omega)]
    by_cases h1 : ver i = nI 0
    · rw [if_pos h1]
      simp [zkn, h1]
    · rw [if_neg h1]
      simp [zkn, h1]
  · intro n
    simp (disch := omega) only [fX3_known_b4, gl_0, gl_1, gl_2, gl_3, gl_4, gl_5, gl_6, gl_7, gl_8, gl_9, gl_10, gl_11, gl_12, gl_13, gl_14, gl_15, gl_16, gl_17, gl_18, gl_19, gl_20, gl_21, gl_22, gl_23, gl_24, gl_25, gl_26, gl_27, gl_28, gl_29, gl_30, gl_31, gl_32, gl_44, gl_48, gl_49, gl_57, gl_59, gl_60, gl_63, gl_70, gl_98, gl_99, gl_100, gl_101, gl_107, gl_109, gl_110, gl_111, gl_116, gl_120, gl_126, gl_155, gl_411, gl_999, gl_1000, gl_1233, gl_1644, gl_100000, gl_m1, nI_leI]
    rw [if_pos (by omega)]
theorem C_differing : fX4_differing ph la po lo ov orr nv nr ql qk qv qr wr wa wc wk = some (z_bits (zdf ov orr nv nr) 31) := by
  unfold fX4_differing
  rw [show (0 : Int32) = nI 0 from gl_0]
  refine z_gather (fun n i x (_ : Unit) => fX4_differing_b4 n x (nI i) ph la po lo ov orr nv nr ql qk qv qr wr wa wc wk) (zdf ov orr nv nr) (fun _ => True) (fun o => o = some (z_bits (zdf ov orr nv nr) 31)) ?_ ?_ () trivial 2000 (by omega)
  · intro n i x s hi _
    refine ⟨(), trivial, ?_⟩
    simp (disch := omega) only [fX4_differing_b4, gl_31, gl_1, gl_0, nI_leI, z_in, z_gt, nI_clamp, nI_add, C_madeOver, z_bs]
    rw [if_neg (by omega)]
    by_cases h1 : ov i = nv i
    · rw [if_pos h1]
      by_cases h2 : orr i = mo (nr i) (nI 0)
      · rw [if_pos h2, if_neg (by simp [zdf, h1, ← h2])]
      · rw [if_neg h2, if_pos (by simp [zdf, h2])]
    · rw [if_neg h1, if_pos (by simp [zdf, h1])]
  · intro n s _
    simp (disch := omega) only [fX4_differing_b4, gl_31, nI_leI]
    rw [if_pos (by omega)]
theorem C_risky : fX4_risky ph la po lo ov orr nv nr ql qk qv qr wr wa wc wk = some (z_bits (zri ov wr) 31) := by
  unfold fX4_risky
  rw [show (0 : Int32) = nI 0 from gl_0]
  refine z_gather (fun n i x (_ : Unit) => fX4_risky_b4 n x (nI i) ph la po lo ov orr nv nr ql qk qv qr wr wa wc wk) (zri ov wr) (fun _ => True) (fun o => o = some (z_bits (zri ov wr) 31)) ?_ ?_ () trivial 2000 (by omega)
  · intro n i x s hi _
    refine ⟨(), trivial, ?_⟩
    simp (disch := omega) only [fX4_risky_b4, gl_31, gl_1, gl_0, nI_leI, z_in, z_gt, nI_clamp, nI_add]
    rw [if_neg (by omega)]
    by_cases h1 : ov i = wr i
    · rw [if_pos h1, if_neg (by simp [zri, h1])]
    · rw [if_neg h1, if_pos (by simp [zri, h1])]
  · intro n s _
    simp (disch := omega) only [fX4_risky_b4, gl_31, nI_leI]
    rw [if_pos (by omega)]
theorem C_keysRead {p q s : Nat} (hp : p ≤ 3) (hq : q ≤ 8) (hs : s < 2) : fX4_keysRead (nI s) (nI p) la po lo ov orr nv nr (nI q) qk qv qr wr wa wc wk = some (z_bits (zkr p q orr nv nr qk qr s) 31) := by
  unfold fX4_keysRead
  rw [show (0 : Int32) = nI 0 from gl_0]
  refine z_gather (fun n i x (_ : Unit) => fX4_keysRead_b4 n (nI s) x (nI i) (nI p) la po lo ov orr nv nr (nI q) qk qv qr wr wa wc wk) (zkr p q orr nv nr qk qr s) (fun _ => True) (fun o => o = some (z_bits (zkr p q orr nv nr qk qr s) 31)) ?_ ?_ () trivial 2000 (by omega)
  · intro n i x u hi _
    refine ⟨(), trivial, ?_⟩
    simp (disch := omega) only [fX4_keysRead_b4, gl_31, gl_1, gl_0, gl_m1, nI_leI, nI_add, C_rowRead, z_bs]
    rw [if_neg (by omega)]
    by_cases h1 : zrr p q orr nv nr qk qr i s = zN
    · rw [if_pos h1, if_neg (by simp [zkr, h1])]
    · rw [if_neg h1, if_pos (by simp [zkr, h1])]
  · intro n s _
    simp (disch := omega) only [fX4_keysRead_b4, gl_31, nI_leI]
    rw [if_pos (by omega)]
theorem C_quarrelling {p q : Nat} (hp : p ≤ 3) (hq : q ≤ 8) : fX4_quarrelling (nI p) la po lo ov orr nv nr (nI q) qk qv qr wr wa wc wk = some (z_bits (zqu p q orr nv nr qk qr) 31) := by
  unfold fX4_quarrelling
  rw [show (0 : Int32) = nI 0 from gl_0]
  refine z_gather (fun n i x (_ : Unit) => fX4_quarrelling_b4 n x (nI i) (nI p) la po lo ov orr nv nr (nI q) qk qv qr wr wa wc wk) (zqu p q orr nv nr qk qr) (fun _ => True) (fun o => o = some (z_bits (zqu p q orr nv nr qk qr) 31)) ?_ ?_ () trivial 2000 (by omega)
  · intro n i x u hi _
    refine ⟨(), trivial, ?_⟩
    simp (disch := omega) only [fX4_quarrelling_b4, gl_31, gl_1, gl_0, nI_leI, nI_add, C_rowRead, C_madeOver, z_bs]
    rw [if_neg (by omega)]
    by_cases h1 : zrr p q orr nv nr qk qr i 0 = mo (zrr p q orr nv nr qk qr i 1) (nI 0)
    · rw [if_pos h1, if_neg (by simp [zqu, ← h1])]
    · rw [if_neg h1, if_pos (by simp [zqu, h1])]
  · intro n s _
    simp (disch := omega) only [fX4_quarrelling_b4, gl_31, nI_leI]
    rw [if_pos (by omega)]
end CD4
section MD4
variable {ss was beg asi : Nat → Int32} {sta : Int32} {txt : Nat → Int32} {typ att rea : Int32} {got row oth : Nat → Int32}
theorem M_rows {sh l : Nat} {ver rw0 : Nat → Int32} (hs : sh < 2) (h : RTs ss l sh ver rw0) : fX6_rows (nI sh) ss was beg asi sta txt typ att rea got row oth = some (nI (z_cnt (zP rw0) 31)) := by
  unfold fX6_rows
  simp only [gl_0]
  refine z_tally (fun n i x => fX6_rows_b4 n (nI sh) x (nI i) ss was beg asi sta txt typ att rea got row oth) (zP rw0) (fun o => o = some (nI (z_cnt (zP rw0) 31))) ?_ ?_ 2000 (by omega)
  · intro n i c hi
    have hr := (h i hi).2.1.1
    dsimp only at hr
    simp (disch := omega) only [fX6_rows_b4, gl_31, gl_1, nI_leI, M_of, z_bs, nI_add]
    rw [if_neg (by omega), show 101 + 155 * sh + 5 * i + 1 = 102 + 155 * sh + 5 * i + 0 by omega, hr, zd0]
    by_cases h1 : rw0 i = zN
    · rw [if_pos h1, nI_add]
      simp [zP, h1]
    · rw [if_neg h1, nI_add]
      simp [zP, h1]
  · intro n
    simp (disch := omega) only [fX6_rows_b4, gl_31, nI_leI]
    rw [if_pos (by omega)]
theorem M_strange {l : Nat} {ver rw0 : Nat → Int32} (h : RTs ss l 1 ver rw0) : fX6_strange ss was beg asi sta txt typ att rea got row oth = some (nI (z_cnt (zst rw0) 31)) := by
  unfold fX6_strange
  simp only [gl_0]
  refine z_tally (fun n i x => fX6_strange_b4 n x (nI i) ss was beg asi sta txt typ att rea got row oth) (zst rw0) (fun o => o = some (nI (z_cnt (zst rw0) 31))) ?_ ?_ 2000 (by omega)
  · intro n i c hi
    obtain ⟨-, ⟨r0, -, r2, -⟩, hz, -⟩ := h i hi
    dsimp only at r0 r2
    simp (disch := omega) only [fX6_strange_b4, gl_31, gl_1, gl_0, gl_3, nI_leI, M_of, z_bs, nI_add, show 101 + 155 * 1 + 5 * i + 1 = 102 + 155 * 1 + 5 * i + 0 by omega, show 101 + 155 * 1 + 5 * i + 3 = 102 + 155 * 1 + 5 * i + 2 by omega, r0, r2]
    rw [if_neg (by omega)]
    rcases hz.ok with hN | ⟨m, hm, hm2⟩
    · simp [zst, hN, zd_N, zd0]
      intro h9
      exact absurd h9 (by decide)
    · have e1 : ¬ rw0 i = zN := by rw [hm2]; exact z_m1 (by omega)
      rw [hm2, zd_0 _ (by omega), zd_12 (by omega), if_pos rfl]
      simp (disch := omega) only [nI_leI]
      by_cases h2 : m % 4 ≤ 1
      · rw [if_pos h2]
        have : zst rw0 i = false := by
          simp only [zst, decide_eq_false_iff_not]
          rintro ⟨-, h9⟩
          rw [hm2, pk_rem (by omega) (by omega) (by omega)] at h9
          exact h9 ((nI_leI (by omega) (by omega)).mpr h2)
        simp [this]
      · rw [if_neg h2]
        have : zst rw0 i = true := by
          simp only [zst, decide_eq_true_eq]
          refine ⟨e1, ?_⟩
          rw [hm2, pk_rem (by omega) (by omega) (by omega)]
          exact fun h9 => h2 ((nI_leI (by omega) (by omega)).mp h9)
        simp [this]
  · intro n
    simp (disch := omega) only [fX6_strange_b4, gl_31, nI_leI]
    rw [if_pos (by omega)]
theorem M_known {l : Nat} {ver rw0 : Nat → Int32} (hl : l ≤ 100000) (h : RTs ss l 1 ver rw0) : fX6_known ss was beg asi sta txt typ att rea got row oth = some (nI (z_cnt (zkn ver) 31)) := by
  unfold fX6_known
  simp only [gl_0]
  refine z_tally (fun n i x => fX6_known_b4 n x (nI i) ss was beg asi sta txt typ att rea got row oth) (zkn ver) (fun o => o = some (nI (z_cnt (zkn ver) 31))) ?_ ?_ 2000 (by omega)
  · intro n i c hi
    obtain ⟨hv, -, -, v, hvl, hv2⟩ := h i hi
    simp (disch := omega) only [fX6_known_b4, gl_31, gl_1, gl_0, nI_leI, M_of, z_bs, nI_add, Nat.add_zero, hv, hv2]
    rw [if_neg (by omega)]
    by_cases h1 : v ≤ 0
    · rw [if_pos h1]
      have : zkn ver i = false := by
        simp only [zkn, decide_eq_false_iff_not, hv2]
        have : v = 0 := by omega
        subst this
        simp
      simp [this]
    · rw [if_neg h1]
      have : zkn ver i = true := by
        simp only [zkn, decide_eq_true_eq, hv2]
        exact fun e => h1 (by have := (nI_eq (by omega) (by omega)).mp e; omega)
      simp [this]
  · intro n
    simp (disch := omega) only [fX6_known_b4, gl_31, nI_leI]
    rw [if_pos (by omega)]
theorem M_atRisk {l p : Nat} {ver rw0 wr : Nat → Int32} (hp : p ≤ 3) (h0 : ss 0 = nI p) (h : RTs ss l 0 ver rw0) (hw : ∀ k, k < 31 → ss (70 + k) = wr k) : fX6_atRisk ss was beg asi sta txt typ att rea got row oth = some (if p = 3 then -1000002 else z_bits (zri ver wr) 31) := by
  unfold fX6_atRisk
  simp (disch := omega) only [gl_0, gl_3, z_in, z_gt, nI_clamp, h0, nI_eq]
  by_cases h3 : p = 3
  · rw [if_pos h3, if_pos h3]
  · rw [if_neg h3, if_neg h3]
    refine z_gather (fun n i x (_ : Unit) => fX6_atRisk_b17 n x (nI i) ss was beg asi sta txt typ att rea got row oth) (zri ver wr) (fun _ => True) (fun o => o = some (z_bits (zri ver wr) 31)) ?_ ?_ () trivial 2000 (by omega)
    · intro n i x u hi _
      refine ⟨(), trivial, ?_⟩
      simp (disch := omega) only [fX6_atRisk_b17, gl_31, gl_1, gl_0, gl_155, nI_leI, nI_add, show (70 : Int32) = nI 70 by decide, z_bs, z_in, z_gt, nI_clamp]
      rw [if_neg (by omega)]
      rw [show fX6_of (nI 0) (nI i) (nI 0) ss was beg asi sta txt typ att rea got row oth = some (ver i) by rw [M_of (by omega) hi (by omega)]; exact congrArg some (h i hi).1, z_bs]
      simp (disch := omega) only [z_in, z_gt, nI_clamp, hw, z_or0]
      by_cases h1 : ver i = wr i
      · rw [if_pos h1, if_neg (by simp [zri, h1])]
      · rw [if_neg h1, if_pos (by simp [zri, h1])]
    · intro n s _
      simp (disch := omega) only [fX6_atRisk_b17, gl_31, nI_leI]
      rw [if_pos (by omega)]
end MD4
