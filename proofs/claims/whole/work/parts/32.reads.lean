/-! what both sides read: the relation between the class's table and the model's row of numbers; the small readings -/
def zfst (p : Nat) : Nat := if p ≤ 1 then 0 else 1
def zsec (p : Nat) : Nat := if p ≤ 1 then 1 else 0
theorem zfst_lt (p : Nat) : zfst p < 2 := by unfold zfst; split <;> omega
theorem zsec_lt (p : Nat) : zsec p < 2 := by unfold zsec; split <;> omega
theorem zsec_fst (p : Nat) : zsec p = 1 - zfst p := by unfold zfst zsec; split <;> rfl
def zv (sh : Nat) (r : Int32) : Prop := if sh = 0 then zoo r else zok r
theorem zv.ok {sh : Nat} {r : Int32} (h : zv sh r) : zok r := by
  unfold zv at h
  split at h
  · exact h.ok
  · exact h
theorem zv.old {r : Int32} (h : zv 0 r) : zoo r := h
theorem zv_mo {sh : Nat} {r : Int32} (hs : sh < 2) (h : zok r) : zv sh (mo r (nI sh)) := by
  rcases (show sh = 0 ∨ sh = 1 by omega) with rfl | rfl
  · exact mo_zoo h
  · rw [mo_1]; exact h
theorem zv_N (sh : Nat) : zv sh zN := by
  unfold zv
  split
  · exact Or.inl rfl
  · exact Or.inl rfl
def RTs (ss : Nat → Int32) (l sh : Nat) (ver row : Nat → Int32) : Prop := ∀ k, k < 31 → ss (101 + 155 * sh + 5 * k) = ver k ∧ RowIs (fun j => ss (102 + 155 * sh + 5 * k + j)) sh (row k) ∧ zv sh (row k) ∧ ∃ v, v ≤ l ∧ ver k = nI v
def RTq (ss : Nat → Int32) (p l q : Nat) (qk qv qr : Nat → Int32) : Prop := ∀ i, i < q → ss (14 + 7 * i) = qk i ∧ ss (15 + 7 * i) = qv i ∧ ss (16 + 7 * i) = nI (zsec p) ∧ ss (17 + 7 * i) = (if qr i = zN then nI 1 else nI 0) ∧ (∀ j, 0 < j → j < 4 → ss (17 + 7 * i + j) = zd (zsec p) j (mo (qr i) (nI (zsec p)))) ∧ zok (qr i) ∧ (∃ k, k < 31 ∧ qk i = nI k) ∧ ∃ v, v ≤ l ∧ qv i = nI v
def RTw (ss : Nat → Int32) (wa : Int32) (wc wk : Nat → Int32) : Prop := ∃ w, w < 8 ∧ wa = nI w ∧ ∀ i, i < 3 → ss (5 + 3 * i) = (if w.testBit i = true then nI 1 else nI 0) ∧ (w.testBit i = true → ss (6 + 3 * i) = wc i ∧ ss (7 + 3 * i) = wk i) ∧ (wc i = nI 0 ∨ wc i = nI 1) ∧ (wk i = zN ∨ ∃ k, k < 31 ∧ wk i = nI k)
def RT (ss : Nat → Int32) (p l x : Nat) (lo : Int32) (ov orr nv nr : Nat → Int32) (q : Nat) (qk qv qr wr : Nat → Int32) (wa : Int32) (wc wk : Nat → Int32) : Prop :=
  (p ≤ 3 ∧ q ≤ 8 ∧ l ≤ 100000 ∧ x ≤ 31 ∧ (q ≠ 0 → p = 1 ∨ p = 2)) ∧ (ss 0 = nI p ∧ ss 1 = nI l ∧ (p = 1 → ss 2 = nI x) ∧ ss 3 = nI q ∧ ss 4 = lo) ∧ RTs ss l 0 ov orr ∧ RTs ss l 1 nv nr ∧ RTq ss p l q qk qv qr ∧ (∀ k, k < 31 → ss (70 + k) = wr k) ∧ RTw ss wa wc wk ∧ (p = 0 → ∀ k, k < 31 → nv k = nI 0 ∧ nr k = zN) ∧ (p = 3 → ∀ k, k < 31 → ov k = nI 0 ∧ orr k = zN)
section CD
variable {la po lo : Int32} {ov orr nv nr : Nat → Int32} {ql : Int32} {qk qv qr wr : Nat → Int32} {wa : Int32} {wc wk : Nat → Int32}
theorem C_first {p : Nat} (hp : p ≤ 3) : fX4_first (nI p) la po lo ov orr nv nr ql qk qv qr wr wa wc wk = some (nI (zfst p)) := by
  rcases (show p = 0 ∨ p = 1 ∨ p = 2 ∨ p = 3 by omega) with rfl | rfl | rfl | rfl <;> simp (disch := omega) only [fX4_first, gl_0, gl_1, gl_2, gl_3, gl_4, gl_5, gl_6, gl_7, gl_8, gl_9, gl_10, gl_11, gl_12, gl_13, gl_14, gl_15, gl_16, gl_17, gl_18, gl_19, gl_20, gl_21, gl_22, gl_23, gl_24, gl_25, gl_26, gl_27, gl_28, gl_29, gl_30, gl_31, gl_32, gl_44, gl_48, gl_49, gl_57, gl_59, gl_60, gl_63, gl_70, gl_98, gl_99, gl_100, gl_101, gl_107, gl_109, gl_110, gl_111, gl_116, gl_120, gl_126, gl_155, gl_411, gl_999, gl_1000, gl_1233, gl_1644, gl_100000, gl_m1, nI_eq, zfst] <;> simp
theorem C_hasBoth {p : Nat} (hp : p ≤ 3) : fX4_hasBoth (nI p) la po lo ov orr nv nr ql qk qv qr wr wa wc wk = some (if p = 1 ∨ p = 2 then nI 1 else nI 0) := by
  rcases (show p = 0 ∨ p = 1 ∨ p = 2 ∨ p = 3 by omega) with rfl | rfl | rfl | rfl <;> simp (disch := omega) only [fX4_hasBoth, gl_0, gl_1, gl_2, gl_3, gl_4, gl_5, gl_6, gl_7, gl_8, gl_9, gl_10, gl_11, gl_12, gl_13, gl_14, gl_15, gl_16, gl_17, gl_18, gl_19, gl_20, gl_21, gl_22, gl_23, gl_24, gl_25, gl_26, gl_27, gl_28, gl_29, gl_30, gl_31, gl_32, gl_44, gl_48, gl_49, gl_57, gl_59, gl_60, gl_63, gl_70, gl_98, gl_99, gl_100, gl_101, gl_107, gl_109, gl_110, gl_111, gl_116, gl_120, gl_126, gl_155, gl_411, gl_999, gl_1000, gl_1233, gl_1644, gl_100000, gl_m1, nI_eq] <;> simp
theorem C_other {s : Nat} {ph : Int32} (hs : s < 2) : fX4_other (nI s) ph la po lo ov orr nv nr ql qk qv qr wr wa wc wk = some (nI (1 - s)) := by
  rcases (show s = 0 ∨ s = 1 by omega) with rfl | rfl <;> simp (disch := omega) only [fX4_other, gl_0, gl_1, gl_2, gl_3, gl_4, gl_5, gl_6, gl_7, gl_8, gl_9, gl_10, gl_11, gl_12, gl_13, gl_14, gl_15, gl_16, gl_17, gl_18, gl_19, gl_20, gl_21, gl_22, gl_23, gl_24, gl_25, gl_26, gl_27, gl_28, gl_29, gl_30, gl_31, gl_32, gl_44, gl_48, gl_49, gl_57, gl_59, gl_60, gl_63, gl_70, gl_98, gl_99, gl_100, gl_101, gl_107, gl_109, gl_110, gl_111, gl_116, gl_120, gl_126, gl_155, gl_411, gl_999, gl_1000, gl_1233, gl_1644, gl_100000, gl_m1, nI_eq] <;> simp
theorem C_second {p : Nat} (hp : p ≤ 3) : fX4_second (nI p) la po lo ov orr nv nr ql qk qv qr wr wa wc wk = some (nI (zsec p)) := by
  unfold fX4_second
  rw [C_first hp, z_bs, C_other (zfst_lt p), z_bs, zsec_fst]
theorem C_shape {s : Nat} {ph : Int32} (hs : s < 2) : fX4_shape (nI s) ph la po lo ov orr nv nr ql qk qv qr wr wa wc wk = some (if s = 0 then 1 else 4) := by
  rcases (show s = 0 ∨ s = 1 by omega) with rfl | rfl <;> simp (disch := omega) only [fX4_shape, gl_0, gl_1, gl_2, gl_3, gl_4, gl_5, gl_6, gl_7, gl_8, gl_9, gl_10, gl_11, gl_12, gl_13, gl_14, gl_15, gl_16, gl_17, gl_18, gl_19, gl_20, gl_21, gl_22, gl_23, gl_24, gl_25, gl_26, gl_27, gl_28, gl_29, gl_30, gl_31, gl_32, gl_44, gl_48, gl_49, gl_57, gl_59, gl_60, gl_63, gl_70, gl_98, gl_99, gl_100, gl_101, gl_107, gl_109, gl_110, gl_111, gl_116, gl_120, gl_126, gl_155, gl_411, gl_999, gl_1000, gl_1233, gl_1644, gl_100000, gl_m1, nI_eq] <;> simp
theorem C_isThere {p s : Nat} (hp : p ≤ 3) (hs : s < 2) : fX4_isThere (nI s) (nI p) la po lo ov orr nv nr ql qk qv qr wr wa wc wk = some (if (s = 0 ∧ p = 3) ∨ (s = 1 ∧ p = 0) then nI 0 else nI 1) := by
  rcases (show p = 0 ∨ p = 1 ∨ p = 2 ∨ p = 3 by omega) with rfl | rfl | rfl | rfl <;> rcases (show s = 0 ∨ s = 1 by omega) with rfl | rfl <;> simp (disch := omega) only [fX4_isThere, gl_0, gl_1, gl_2, gl_3, gl_4, gl_5, gl_6, gl_7, gl_8, gl_9, gl_10, gl_11, gl_12, gl_13, gl_14, gl_15, gl_16, gl_17, gl_18, gl_19, gl_20, gl_21, gl_22, gl_23, gl_24, gl_25, gl_26, gl_27, gl_28, gl_29, gl_30, gl_31, gl_32, gl_44, gl_48, gl_49, gl_57, gl_59, gl_60, gl_63, gl_70, gl_98, gl_99, gl_100, gl_101, gl_107, gl_109, gl_110, gl_111, gl_116, gl_120, gl_126, gl_155, gl_411, gl_999, gl_1000, gl_1233, gl_1644, gl_100000, gl_m1, nI_eq] <;> simp
/-- the latest write of a key in the queue -/
def zlat (qk : Nat → Int32) (k : Int32) : Nat → Int32
  | 0 => zN
  | n + 1 => if qk n = k then nI n else zlat qk k n
theorem zlat_or (qk : Nat → Int32) (k : Int32) : ∀ q, zlat qk k q = zN ∨ ∃ i, i < q ∧ zlat qk k q = nI i ∧ qk i = k
  | 0 => Or.inl rfl
  | n + 1 => by
    unfold zlat
    by_cases h : qk n = k
    · rw [if_pos h]; exact Or.inr ⟨n, by omega, rfl, h⟩
    · rw [if_neg h]
      rcases zlat_or qk k n with h1 | ⟨i, h1, h2, h3⟩
      · exact Or.inl h1
      · exact Or.inr ⟨i, by omega, h2, h3⟩
theorem zN_neg : zN < nI 0 := by decide
def zpr : Nat → Int32
  | 0 => zN
  | n + 1 => nI n
theorem zpr_add (n : Nat) : nI n + zN = zpr n := by
  cases n with
  | zero => decide
  | succ n => exact pk_m1 n
theorem zpr_sub (n : Nat) : nI n - nI 1 = zpr n := by
  cases n with
  | zero => decide
  | succ n => exact pk_sub (by omega)
theorem C_latest {k : Int32} : ∀ (i n : Nat), i ≤ 8 → i < n → fX1_latestOf_b7 n k (zpr i) ql qk qv qr = some (zlat qk k i) := by
  intro i
  induction i with
  | zero =>
    intro n _ hn
    obtain ⟨n, rfl⟩ : ∃ m, n = m + 1 := ⟨n - 1, by omega⟩
    simp only [fX1_latestOf_b7, gl_0, gl_1, gl_2, gl_3, gl_4, gl_5, gl_6, gl_7, gl_8, gl_9, gl_10, gl_11, gl_12, gl_13, gl_14, gl_15, gl_16, gl_17, gl_18, gl_19, gl_20, gl_21, gl_22, gl_23, gl_24, gl_25, gl_26, gl_27, gl_28, gl_29, gl_30, gl_31, gl_32, gl_44, gl_48, gl_49, gl_57, gl_59, gl_60, gl_63, gl_70, gl_98, gl_99, gl_100, gl_101, gl_107, gl_109, gl_110, gl_111, gl_116, gl_120, gl_126, gl_155, gl_411, gl_999, gl_1000, gl_1233, gl_1644, gl_100000, gl_m1, zpr]
    rw [if_pos zN_neg]
    rfl
  | succ i ih =>
    intro n hi hn
    obtain ⟨n, rfl⟩ : ∃ m, n = m + 1 := ⟨n - 1, by omega⟩
    simp (disch := omega) only [fX1_latestOf_b7, gl_0, gl_1, gl_2, gl_3, gl_4, gl_5, gl_6, gl_7, gl_8, gl_9, gl_10, gl_11, gl_12, gl_13, gl_14, gl_15, gl_16, gl_17, gl_18, gl_19, gl_20, gl_21, gl_22, gl_23, gl_24, gl_25, gl_26, gl_27, gl_28, gl_29, gl_30, gl_31, gl_32, gl_44, gl_48, gl_49, gl_57, gl_59, gl_60, gl_63, gl_70, gl_98, gl_99, gl_100, gl_101, gl_107, gl_109, gl_110, gl_111, gl_116, gl_120, gl_126, gl_155, gl_411, gl_999, gl_1000, gl_1233, gl_1644, gl_100000, gl_m1, zpr, z_in, z_gt, nI_clamp, zpr_add]
    rw [if_neg (z_neg (by omega))]
    unfold zlat
    by_cases h : qk i = k
    · rw [if_pos h, if_pos h]
    · rw [if_neg h, if_neg h]
      exact ih n (by omega) (by omega)
theorem C_latestOf {k : Int32} {q : Nat} (hq : q ≤ 8) : fX1_latestOf k (nI q) qk qv qr = some (zlat qk k q) := by
  unfold fX1_latestOf
  simp only [gl_0, gl_1, gl_2, gl_3, gl_4, gl_5, gl_6, gl_7, gl_8, gl_9, gl_10, gl_11, gl_12, gl_13, gl_14, gl_15, gl_16, gl_17, gl_18, gl_19, gl_20, gl_21, gl_22, gl_23, gl_24, gl_25, gl_26, gl_27, gl_28, gl_29, gl_30, gl_31, gl_32, gl_44, gl_48, gl_49, gl_57, gl_59, gl_60, gl_63, gl_70, gl_98, gl_99, gl_100, gl_101, gl_107, gl_109, gl_110, gl_111, gl_116, gl_120, gl_126, gl_155, gl_411, gl_999, gl_1000, gl_1233, gl_1644, gl_100000, gl_m1, zpr_sub]
  exact C_latest q 2000 hq (by omega)
/-- the row that a reader in a costume reads -/
def zrr (p q : Nat) (orr nv nr qk qr : Nat → Int32) (k s : Nat) : Int32 :=
  if ¬ zlat qk (nI k) q = zN ∧ s = zsec p then mo (qr (zlat qk (nI k) q).toNatClampNeg) (nI s)
  else if (p = 1 ∧ s = 1 ∧ nv k = nI 0) ∨ (s = 0 ∧ p = 3) ∨ (s = 1 ∧ p = 0) then mo (if s = 0 then nr k else orr k) (nI s) else mo (if s = 0 then orr k else nr k) (nI s)
theorem C_rr36 {p k s : Nat} (hp : p ≤ 3) (hk : k < 31) (hs : s < 2) : fX4_rowRead_b36 (nI k) (nI s) (nI p) la po lo ov orr nv nr ql qk qv qr wr wa wc wk = some (if (p = 1 ∧ s = 1 ∧ nv k = nI 0) ∨ (s = 0 ∧ p = 3) ∨ (s = 1 ∧ p = 0) then mo (if s = 0 then nr k else orr k) (nI s) else mo (if s = 0 then orr k else nr k) (nI s)) := by
  have h0 : nI 0 = nI 0 := rfl
  by_cases hv : nv k = nI 0 <;> rcases (show p = 0 ∨ p = 1 ∨ p = 2 ∨ p = 3 by omega) with rfl | rfl | rfl | rfl <;> rcases (show s = 0 ∨ s = 1 by omega) with rfl | rfl <;>
    simp (disch := omega) [fX4_rowRead_b36, fX4_rowRead_b65, fX4_rowRead_b66, fX4_rowRead_b81, fX4_rowRead_b90, gl_0, gl_1, gl_2, gl_3, gl_4, gl_5, gl_6, gl_7, gl_8, gl_9, gl_10, gl_11, gl_12, gl_13, gl_14, gl_15, gl_16, gl_17, gl_18, gl_19, gl_20, gl_21, gl_22, gl_23, gl_24, gl_25, gl_26, gl_27, gl_28, gl_29, gl_30, gl_31, gl_32, gl_44, gl_48, gl_49, gl_57, gl_59, gl_60, gl_63, gl_70, gl_98, gl_99, gl_100, gl_101, gl_107, gl_109, gl_110, gl_111, gl_116, gl_120, gl_126, gl_155, gl_411, gl_999, gl_1000, gl_1233, gl_1644, gl_100000, gl_m1, nI_eq, z_in, z_gt, z_bs, nI_clamp, C_isThere, C_other, C_shape, C_madeOver, hv]
theorem C_rowRead {p q k s : Nat} (hp : p ≤ 3) (hq : q ≤ 8) (hk : k < 31) (hs : s < 2) : fX4_rowRead (nI k) (nI s) (nI p) la po lo ov orr nv nr (nI q) qk qv qr wr wa wc wk = some (zrr p q orr nv nr qk qr k s) := by
  unfold fX4_rowRead zrr
  rw [C_latestOf hq, z_bs]
  simp only [gl_0, gl_1, gl_2, gl_3, gl_4, gl_5, gl_6, gl_7, gl_8, gl_9, gl_10, gl_11, gl_12, gl_13, gl_14, gl_15, gl_16, gl_17, gl_18, gl_19, gl_20, gl_21, gl_22, gl_23, gl_24, gl_25, gl_26, gl_27, gl_28, gl_29, gl_30, gl_31, gl_32, gl_44, gl_48, gl_49, gl_57, gl_59, gl_60, gl_63, gl_70, gl_98, gl_99, gl_100, gl_101, gl_107, gl_109, gl_110, gl_111, gl_116, gl_120, gl_126, gl_155, gl_411, gl_999, gl_1000, gl_1233, gl_1644, gl_100000, gl_m1]
  rcases zlat_or qk (nI k) q with h | ⟨i, hi, h, -⟩
  · rw [h, if_pos rfl, if_neg (by simp), C_rr36 hp hk hs]
  · rw [h, if_neg (z_m1 (by omega)), C_second hp, z_bs]
    by_cases hsec : s = zsec p
    · rw [if_pos ((nI_eq (by omega) (by have := zsec_lt p; omega)).mpr hsec), if_pos ⟨z_m1 (by omega), hsec⟩]
      simp (disch := omega) only [z_in, z_gt, nI_clamp, C_madeOver, z_bs]
    · rw [if_neg (fun e => hsec ((nI_eq (by omega) (by have := zsec_lt p; omega)).mp e)), if_neg (fun e => hsec e.2), C_rr36 hp hk hs]
end CD
section MD2
variable {ss was beg asi : Nat → Int32} {sta : Int32} {txt : Nat → Int32} {typ att rea : Int32} {got row oth : Nat → Int32}
theorem M_first {p : Nat} (hp : p ≤ 3) (h0 : ss 0 = nI p) : fX6_first ss was beg asi sta txt typ att rea got row oth = some (nI (zfst p)) := by
  rcases (show p = 0 ∨ p = 1 ∨ p = 2 ∨ p = 3 by omega) with rfl | rfl | rfl | rfl <;> simp (disch := omega) only [fX6_first, gl_0, gl_1, gl_2, gl_3, gl_4, gl_5, gl_6, gl_7, gl_8, gl_9, gl_10, gl_11, gl_12, gl_13, gl_14, gl_15, gl_16, gl_17, gl_18, gl_19, gl_20, gl_21, gl_22, gl_23, gl_24, gl_25, gl_26, gl_27, gl_28, gl_29, gl_30, gl_31, gl_32, gl_44, gl_48, gl_49, gl_57, gl_59, gl_60, gl_63, gl_70, gl_98, gl_99, gl_100, gl_101, gl_107, gl_109, gl_110, gl_111, gl_116, gl_120, gl_126, gl_155, gl_411, gl_999, gl_1000, gl_1233, gl_1644, gl_100000, gl_m1, z_in, z_gt, nI_clamp, h0, nI_leI, zfst] <;> simp
theorem M_areBoth {p : Nat} (hp : p ≤ 3) (h0 : ss 0 = nI p) : fX6_areBoth ss was beg asi sta txt typ att rea got row oth = some (if p = 1 ∨ p = 2 then nI 1 else nI 0) := by
  rcases (show p = 0 ∨ p = 1 ∨ p = 2 ∨ p = 3 by omega) with rfl | rfl | rfl | rfl <;> simp (disch := omega) only [fX6_areBoth, gl_0, gl_1, gl_2, gl_3, gl_4, gl_5, gl_6, gl_7, gl_8, gl_9, gl_10, gl_11, gl_12, gl_13, gl_14, gl_15, gl_16, gl_17, gl_18, gl_19, gl_20, gl_21, gl_22, gl_23, gl_24, gl_25, gl_26, gl_27, gl_28, gl_29, gl_30, gl_31, gl_32, gl_44, gl_48, gl_49, gl_57, gl_59, gl_60, gl_63, gl_70, gl_98, gl_99, gl_100, gl_101, gl_107, gl_109, gl_110, gl_111, gl_116, gl_120, gl_126, gl_155, gl_411, gl_999, gl_1000, gl_1233, gl_1644, gl_100000, gl_m1, z_in, z_gt, nI_clamp, h0, nI_eq] <;> simp
theorem M_isThere {p s : Nat} (hp : p ≤ 3) (hs : s < 2) (h0 : ss 0 = nI p) : fX6_isThere (nI s) ss was beg asi sta txt typ att rea got row oth = some (if (s = 0 ∧ p = 3) ∨ (s = 1 ∧ p = 0) then nI 0 else nI 1) := by
  rcases (show p = 0 ∨ p = 1 ∨ p = 2 ∨ p = 3 by omega) with rfl | rfl | rfl | rfl <;> rcases (show s = 0 ∨ s = 1 by omega) with rfl | rfl <;> simp (disch := omega) only [fX6_isThere, gl_0, gl_1, gl_2, gl_3, gl_4, gl_5, gl_6, gl_7, gl_8, gl_9, gl_10, gl_11, gl_12, gl_13, gl_14, gl_15, gl_16, gl_17, gl_18, gl_19, gl_20, gl_21, gl_22, gl_23, gl_24, gl_25, gl_26, gl_27, gl_28, gl_29, gl_30, gl_31, gl_32, gl_44, gl_48, gl_49, gl_57, gl_59, gl_60, gl_63, gl_70, gl_98, gl_99, gl_100, gl_101, gl_107, gl_109, gl_110, gl_111, gl_116, gl_120, gl_126, gl_155, gl_411, gl_999, gl_1000, gl_1233, gl_1644, gl_100000, gl_m1, z_in, z_gt, nI_clamp, h0, nI_eq, nI_leI] <;> simp
theorem M_latest {q : Nat} {k : Int32} {qk : Nat → Int32} (hq : q ≤ 8) (h3 : ss 3 = nI q) (hqk : ∀ i, i < q → ss (14 + 7 * i) = qk i) : fX6_latest k ss was beg asi sta txt typ att rea got row oth = some (zlat qk k q) := by
  unfold fX6_latest
  simp only [gl_0, gl_1, gl_2, gl_3, gl_4, gl_5, gl_6, gl_7, gl_8, gl_9, gl_10, gl_11, gl_12, gl_13, gl_14, gl_15, gl_16, gl_17, gl_18, gl_19, gl_20, gl_21, gl_22, gl_23, gl_24, gl_25, gl_26, gl_27, gl_28, gl_29, gl_30, gl_31, gl_32, gl_44, gl_48, gl_49, gl_57, gl_59, gl_60, gl_63, gl_70, gl_98, gl_99, gl_100, gl_101, gl_107, gl_109, gl_110, gl_111, gl_116, gl_120, gl_126, gl_155, gl_411, gl_999, gl_1000, gl_1233, gl_1644, gl_100000, gl_m1]
  refine z_loop (fun n i (x : Int32) => fX6_latest_b4 n k x (nI i) ss was beg asi sta txt typ att rea got row oth) q (fun i x => x = zlat qk k i) (fun o => o = some (zlat qk k q)) ?_ ?_ 2000 0 zN (by omega) (by omega) rfl
  · intro n i x hi hx
    subst hx
    refine ⟨zlat qk k (i + 1), rfl, ?_⟩
    simp (disch := omega) only [fX6_latest_b4, gl_0, gl_1, gl_2, gl_3, gl_4, gl_5, gl_6, gl_7, gl_8, gl_9, gl_10, gl_11, gl_12, gl_13, gl_14, gl_15, gl_16, gl_17, gl_18, gl_19, gl_20, gl_21, gl_22, gl_23, gl_24, gl_25, gl_26, gl_27, gl_28, gl_29, gl_30, gl_31, gl_32, gl_44, gl_48, gl_49, gl_57, gl_59, gl_60, gl_63, gl_70, gl_98, gl_99, gl_100, gl_101, gl_107, gl_109, gl_110, gl_111, gl_116, gl_120, gl_126, gl_155, gl_411, gl_999, gl_1000, gl_1233, gl_1644, gl_100000, gl_m1, nI_add, pk_mul, z_in, z_gt, nI_clamp, h3, nI_leI, hqk]
    rw [if_neg (by omega)]
    unfold zlat
    by_cases h : qk i = k
    · rw [if_pos h, if_pos h]
    · rw [if_neg h, if_neg h]
      cases i <;> rfl
  · intro n x hx
    subst hx
    simp (disch := omega) only [fX6_latest_b4, gl_0, gl_1, gl_2, gl_3, gl_4, gl_5, gl_6, gl_7, gl_8, gl_9, gl_10, gl_11, gl_12, gl_13, gl_14, gl_15, gl_16, gl_17, gl_18, gl_19, gl_20, gl_21, gl_22, gl_23, gl_24, gl_25, gl_26, gl_27, gl_28, gl_29, gl_30, gl_31, gl_32, gl_44, gl_48, gl_49, gl_57, gl_59, gl_60, gl_63, gl_70, gl_98, gl_99, gl_100, gl_101, gl_107, gl_109, gl_110, gl_111, gl_116, gl_120, gl_126, gl_155, gl_411, gl_999, gl_1000, gl_1233, gl_1644, gl_100000, gl_m1, z_in, z_gt, nI_clamp, h3, nI_leI]
    rw [if_pos (by omega)]
end MD2
