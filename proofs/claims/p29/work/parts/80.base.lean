theorem z_in {k n : Nat} (h : k < n) (hn : n < 2 ^ 31) : g_in (nI k) n = true := decide_eq_true (show ¬ (nI k < 0 ∨ n ≤ (nI k).toNatClampNeg) from vp_in_nI h hn)
theorem z_gt {α : Type} (x : Option α) : g_gd true x = x := by
  cases x with
  | none => rfl
  | some a => rfl
theorem z_bs {α β : Type} (a : α) (f : α → Option β) : (some a).bind f = f a := by
  cases h : f a with
  | none => exact h
  | some b => exact h
theorem z_up {f : Nat → Int32} {k : Nat} {x : Int32} {j : Nat} : upd f k x j = if j = k then x else f j := rfl
theorem z_us {f : Nat → Int32} {k : Nat} {x : Int32} : upd f k x k = x := if_pos rfl
theorem z_un {f : Nat → Int32} {k j : Nat} {x : Int32} (h : j ≠ k) : upd f k x j = f j := if_neg h
theorem z_add1 (a : Nat) : nI a + nI 1 = nI (a + 1) := nI_add a 1
theorem z_neg {k : Nat} (h : k < 2 ^ 31) : ¬ nI k < nI 0 := by rw [nI_0]; exact nI_pos h
/-- a loop that counts up to N: its step, its end, what it keeps -/
theorem z_loop {σ β : Type} (F : Nat → Nat → σ → Option β) (N : Nat) (I : Nat → σ → Prop) (Qf : Option β → Prop)
    (step : ∀ n i s, i < N → I i s → ∃ s', I (i + 1) s' ∧ F (n + 1) i s = F n (i + 1) s') (fin : ∀ n s, I N s → Qf (F (n + 1) N s)) :
    ∀ n i s, i ≤ N → N < n + i → I i s → Qf (F n i s) := by
  intro n
  induction n with
  | zero =>
    intro i s h1 h2
    exact absurd h2 (by omega)
  | succ n ih =>
    intro i s h1 h2 hI
    rcases Nat.lt_or_ge i N with h | h
    · obtain ⟨s', hI', he⟩ := step n i s h hI
      rw [he]
      exact ih (i + 1) s' h (by omega) hI'
    · have : i = N := by omega
      subst this
      exact fin n s hI
/-- the same, where a step may also end the loop -/
theorem z_loopE {σ β : Type} (F : Nat → Nat → σ → Option β) (N : Nat) (I : Nat → σ → Prop) (Qf : Option β → Prop)
    (step : ∀ n i s, i < N → I i s → Qf (F (n + 1) i s) ∨ ∃ s', I (i + 1) s' ∧ F (n + 1) i s = F n (i + 1) s') (fin : ∀ n s, I N s → Qf (F (n + 1) N s)) :
    ∀ n i s, i ≤ N → N < n + i → I i s → Qf (F n i s) := by
  intro n
  induction n with
  | zero =>
    intro i s h1 h2
    exact absurd h2 (by omega)
  | succ n ih =>
    intro i s h1 h2 hI
    rcases Nat.lt_or_ge i N with h | h
    · rcases step n i s h hI with hq | ⟨s', hI', he⟩
      · exact hq
      · rw [he]
        exact ih (i + 1) s' h (by omega) hI'
    · have : i = N := by omega
      subst this
      exact fin n s hI
def z_cnt (P : Nat → Bool) : Nat → Nat
  | 0 => 0
  | n + 1 => z_cnt P n + (if P n = true then 1 else 0)
theorem z_cnt_le (P : Nat → Bool) : ∀ n, z_cnt P n ≤ n
  | 0 => Nat.le_refl 0
  | n + 1 => by
    have := z_cnt_le P n
    unfold z_cnt
    split <;> omega
theorem z_cnt_congr {P Q : Nat → Bool} : ∀ {n : Nat}, (∀ k, k < n → P k = Q k) → z_cnt P n = z_cnt Q n := by
  intro n
  induction n with
  | zero => intro _; rfl
  | succ n ih =>
    intro h
    unfold z_cnt
    rw [ih (fun k hk => h k (by omega)), h n (by omega)]
def z_bits (P : Nat → Bool) : Nat → Int32
  | 0 => nI 0
  | n + 1 => if P n = true then z_bits P n ||| (nI 1 <<< (nI n &&& 31)) else z_bits P n
theorem z_bits_congr {P Q : Nat → Bool} : ∀ {n : Nat}, (∀ k, k < n → P k = Q k) → z_bits P n = z_bits Q n := by
  intro n
  induction n with
  | zero => intro _; rfl
  | succ n ih =>
    intro h
    unfold z_bits
    rw [ih (fun k hk => h k (by omega)), h n (by omega)]
def zN : Int32 := -1
theorem z_m1 {k : Nat} (h : k < 2 ^ 31) : ¬ nI k = zN := by
  intro e
  have := congrArg Int32.toInt e
  rw [nI_toInt h] at this
  have h2 : zN.toInt = -1 := by decide
  omega
/-- a row made over, as the class does it -/
def mo (r sh : Int32) : Int32 := if sh = nI 1 then r else if r = zN then r else if (r - r / nI 4 * nI 4) ≤ nI 1 then r else (r - (r - r / nI 4 * nI 4)) + nI 1
theorem gl_0 : (0 : Int32) = nI 0 := by decide
theorem gl_1 : (1 : Int32) = nI 1 := by decide
theorem gl_2 : (2 : Int32) = nI 2 := by decide
theorem gl_3 : (3 : Int32) = nI 3 := by decide
theorem gl_4 : (4 : Int32) = nI 4 := by decide
theorem gl_5 : (5 : Int32) = nI 5 := by decide
theorem gl_6 : (6 : Int32) = nI 6 := by decide
theorem gl_7 : (7 : Int32) = nI 7 := by decide
theorem gl_8 : (8 : Int32) = nI 8 := by decide
theorem gl_9 : (9 : Int32) = nI 9 := by decide
theorem gl_10 : (10 : Int32) = nI 10 := by decide
theorem gl_11 : (11 : Int32) = nI 11 := by decide
theorem gl_12 : (12 : Int32) = nI 12 := by decide
theorem gl_13 : (13 : Int32) = nI 13 := by decide
theorem gl_14 : (14 : Int32) = nI 14 := by decide
theorem gl_15 : (15 : Int32) = nI 15 := by decide
theorem gl_16 : (16 : Int32) = nI 16 := by decide
theorem gl_17 : (17 : Int32) = nI 17 := by decide
theorem gl_18 : (18 : Int32) = nI 18 := by decide
theorem gl_19 : (19 : Int32) = nI 19 := by decide
theorem gl_20 : (20 : Int32) = nI 20 := by decide
theorem gl_21 : (21 : Int32) = nI 21 := by decide
theorem gl_22 : (22 : Int32) = nI 22 := by decide
theorem gl_23 : (23 : Int32) = nI 23 := by decide
theorem gl_24 : (24 : Int32) = nI 24 := by decide
theorem gl_25 : (25 : Int32) = nI 25 := by decide
theorem gl_26 : (26 : Int32) = nI 26 := by decide
theorem gl_27 : (27 : Int32) = nI 27 := by decide
theorem gl_28 : (28 : Int32) = nI 28 := by decide
theorem gl_29 : (29 : Int32) = nI 29 := by decide
theorem gl_30 : (30 : Int32) = nI 30 := by decide
theorem gl_31 : (31 : Int32) = nI 31 := by decide
theorem gl_32 : (32 : Int32) = nI 32 := by decide
theorem gl_44 : (44 : Int32) = nI 44 := by decide
theorem gl_48 : (48 : Int32) = nI 48 := by decide
theorem gl_49 : (49 : Int32) = nI 49 := by decide
theorem gl_57 : (57 : Int32) = nI 57 := by decide
theorem gl_59 : (59 : Int32) = nI 59 := by decide
theorem gl_60 : (60 : Int32) = nI 60 := by decide
theorem gl_63 : (63 : Int32) = nI 63 := by decide
theorem gl_70 : (70 : Int32) = nI 70 := by decide
theorem gl_98 : (98 : Int32) = nI 98 := by decide
theorem gl_99 : (99 : Int32) = nI 99 := by decide
theorem gl_100 : (100 : Int32) = nI 100 := by decide
theorem gl_101 : (101 : Int32) = nI 101 := by decide
theorem gl_107 : (107 : Int32) = nI 107 := by decide
theorem gl_109 : (109 : Int32) = nI 109 := by decide
theorem gl_110 : (110 : Int32) = nI 110 := by decide
theorem gl_111 : (111 : Int32) = nI 111 := by decide
theorem gl_116 : (116 : Int32) = nI 116 := by decide
theorem gl_120 : (120 : Int32) = nI 120 := by decide
theorem gl_126 : (126 : Int32) = nI 126 := by decide
theorem gl_155 : (155 : Int32) = nI 155 := by decide
theorem gl_411 : (411 : Int32) = nI 411 := by decide
theorem gl_999 : (999 : Int32) = nI 999 := by decide
theorem gl_1000 : (1000 : Int32) = nI 1000 := by decide
theorem gl_1233 : (1233 : Int32) = nI 1233 := by decide
theorem gl_1644 : (1644 : Int32) = nI 1644 := by decide
theorem gl_100000 : (100000 : Int32) = nI 100000 := by decide
theorem gl_m1 : -nI 1 = zN := by decide
theorem C_madeOver (r sh : Int32) : fX2_madeOver r sh = some (mo r sh) := by
  simp only [fX2_madeOver, mo, gl_0, gl_1, gl_2, gl_3, gl_4, gl_5, gl_6, gl_7, gl_8, gl_9, gl_10, gl_11, gl_12, gl_13, gl_14, gl_15, gl_16, gl_17, gl_18, gl_19, gl_20, gl_21, gl_22, gl_23, gl_24, gl_25, gl_26, gl_27, gl_28, gl_29, gl_30, gl_31, gl_32, gl_44, gl_48, gl_49, gl_57, gl_59, gl_60, gl_63, gl_70, gl_98, gl_99, gl_100, gl_101, gl_107, gl_109, gl_110, gl_111, gl_116, gl_120, gl_126, gl_155, gl_411, gl_999, gl_1000, gl_1233, gl_1644, gl_100000, gl_m1]
  by_cases h1 : sh = nI 1
  · rw [if_pos h1, if_pos h1]
  · rw [if_neg h1, if_neg h1]
    by_cases h2 : r = zN
    · rw [if_pos h2, if_pos h2]
    · rw [if_neg h2, if_neg h2]
      by_cases h3 : (r - r / nI 4 * nI 4) ≤ nI 1
      · rw [if_pos h3, if_pos h3]
      · rw [if_neg h3, if_neg h3]
theorem C_isBelow (x y : Int32) : fX5_isBelow x y = some (if x < nI 0 then nI 0 else if y ≤ x then nI 0 else nI 1) := by
  simp only [fX5_isBelow, gl_0, gl_1, gl_2, gl_3, gl_4, gl_5, gl_6, gl_7, gl_8, gl_9, gl_10, gl_11, gl_12, gl_13, gl_14, gl_15, gl_16, gl_17, gl_18, gl_19, gl_20, gl_21, gl_22, gl_23, gl_24, gl_25, gl_26, gl_27, gl_28, gl_29, gl_30, gl_31, gl_32, gl_44, gl_48, gl_49, gl_57, gl_59, gl_60, gl_63, gl_70, gl_98, gl_99, gl_100, gl_101, gl_107, gl_109, gl_110, gl_111, gl_116, gl_120, gl_126, gl_155, gl_411, gl_999, gl_1000, gl_1233, gl_1644, gl_100000, gl_m1]
  by_cases h1 : x < nI 0
  · rw [if_pos h1, if_pos h1]
  · rw [if_neg h1, if_neg h1]
    by_cases h2 : y ≤ x
    · rw [if_pos h2, if_pos h2]
    · rw [if_neg h2, if_neg h2]
theorem C_isBelow_nI {k n : Nat} (h : k < n) (hn : n < 2 ^ 31) : fX5_isBelow (nI k) (nI n) = some (nI 1) := by
  simp (disch := omega) only [C_isBelow, nI_ltI, nI_leI]
  rw [if_neg (by omega), if_neg (by omega)]
def zP (row : Nat → Int32) (k : Nat) : Bool := decide (¬ row k = zN)
theorem C_rows (nu : Int32) (ver row : Nat → Int32) : fX3_rows nu ver row = some (nI (z_cnt (zP row) 31)) := by
  unfold fX3_rows
  refine z_loop (fun n i (x : Int32) => fX3_rows_b4 n nu x (nI i) ver row) 31 (fun i x => x = nI (z_cnt (zP row) i)) (fun o => o = some (nI (z_cnt (zP row) 31))) ?_ ?_ 2000 0 (0 : Int32) (by omega) (by omega) rfl
  · intro n i x hi hx
    subst hx
    by_cases hr : row i = zN
    · refine ⟨_, ?_, by simp (disch := omega) only [fX3_rows_b4, gl_0, gl_1, gl_2, gl_3, gl_4, gl_5, gl_6, gl_7, gl_8, gl_9, gl_10, gl_11, gl_12, gl_13, gl_14, gl_15, gl_16, gl_17, gl_18, gl_19, gl_20, gl_21, gl_22, gl_23, gl_24, gl_25, gl_26, gl_27, gl_28, gl_29, gl_30, gl_31, gl_32, gl_44, gl_48, gl_49, gl_57, gl_59, gl_60, gl_63, gl_70, gl_98, gl_99, gl_100, gl_101, gl_107, gl_109, gl_110, gl_111, gl_116, gl_120, gl_126, gl_155, gl_411, gl_999, gl_1000, gl_1233, gl_1644, gl_100000, gl_m1, nI_leI, z_in, z_gt, nI_clamp, nI_add]; rw [if_neg (by omega), if_pos hr]⟩
      simp [z_cnt, zP, hr]
    · refine ⟨_, ?_, by simp (disch := omega) only [fX3_rows_b4, gl_0, gl_1, gl_2, gl_3, gl_4, gl_5, gl_6, gl_7, gl_8, gl_9, gl_10, gl_11, gl_12, gl_13, gl_14, gl_15, gl_16, gl_17, gl_18, gl_19, gl_20, gl_21, gl_22, gl_23, gl_24, gl_25, gl_26, gl_27, gl_28, gl_29, gl_30, gl_31, gl_32, gl_44, gl_48, gl_49, gl_57, gl_59, gl_60, gl_63, gl_70, gl_98, gl_99, gl_100, gl_101, gl_107, gl_109, gl_110, gl_111, gl_116, gl_120, gl_126, gl_155, gl_411, gl_999, gl_1000, gl_1233, gl_1644, gl_100000, gl_m1, nI_leI, z_in, z_gt, nI_clamp, nI_add]; rw [if_neg (by omega), if_neg hr]⟩
      simp [z_cnt, zP, hr]
  · intro n x hx
    subst hx
    simp (disch := omega) only [fX3_rows_b4, gl_0, gl_1, gl_2, gl_3, gl_4, gl_5, gl_6, gl_7, gl_8, gl_9, gl_10, gl_11, gl_12, gl_13, gl_14, gl_15, gl_16, gl_17, gl_18, gl_19, gl_20, gl_21, gl_22, gl_23, gl_24, gl_25, gl_26, gl_27, gl_28, gl_29, gl_30, gl_31, gl_32, gl_44, gl_48, gl_49, gl_57, gl_59, gl_60, gl_63, gl_70, gl_98, gl_99, gl_100, gl_101, gl_107, gl_109, gl_110, gl_111, gl_116, gl_120, gl_126, gl_155, gl_411, gl_999, gl_1000, gl_1233, gl_1644, gl_100000, gl_m1, nI_leI]
    rw [if_pos (by omega)]

def zok (r : Int32) : Prop := r = zN ∨ ∃ n, n < 4000 ∧ r = nI n
def zoo (r : Int32) : Prop := r = zN ∨ ∃ n, n < 4000 ∧ n % 4 ≤ 1 ∧ r = nI n
theorem zoo.ok {r : Int32} (h : zoo r) : zok r := by
  rcases h with h | ⟨n, h1, -, h2⟩
  · exact Or.inl h
  · exact Or.inr ⟨n, h1, h2⟩
def zmo (n : Nat) : Nat := if n % 4 ≤ 1 then n else n - n % 4 + 1
theorem mo_N (sh : Int32) : mo zN sh = zN := by
  unfold mo
  by_cases h : sh = nI 1
  · rw [if_pos h]
  · rw [if_neg h, if_pos rfl]
theorem mo_1 (r : Int32) : mo r (nI 1) = r := if_pos rfl
theorem mo_0 {n : Nat} (h : n < 4000) : mo (nI n) (nI 0) = nI (zmo n) := by
  unfold mo zmo
  rw [if_neg (by decide), if_neg (z_m1 (by omega)), pk_rem (by omega) (by omega) (by omega)]
  by_cases h1 : n % 4 ≤ 1
  · rw [if_pos ((nI_leI (by omega) (by omega)).mpr h1), if_pos h1]
  · rw [if_neg (fun q => h1 ((nI_leI (by omega) (by omega)).mp q)), if_neg h1, pk_sub (by omega), nI_add]
theorem zmo_lt {n : Nat} (h : n < 4000) : zmo n < 4000 := by
  unfold zmo
  split <;> omega
theorem zmo_old {n : Nat} : zmo n % 4 ≤ 1 := by
  unfold zmo
  split <;> omega
theorem mo_zoo {r : Int32} (h : zok r) : zoo (mo r (nI 0)) := by
  rcases h with rfl | ⟨n, h1, rfl⟩
  · exact Or.inl (mo_N _)
  · exact Or.inr ⟨zmo n, zmo_lt h1, zmo_old, mo_0 h1⟩
theorem mo_old {r : Int32} (h : zoo r) : mo r (nI 0) = r := by
  rcases h with rfl | ⟨n, h1, h2, rfl⟩
  · exact mo_N _
  · rw [mo_0 h1]
    unfold zmo
    rw [if_pos h2]
theorem mo_zok {r : Int32} {sh : Nat} (hs : sh < 2) (h : zok r) : zok (mo r (nI sh)) := by
  rcases (show sh = 0 ∨ sh = 1 by omega) with rfl | rfl
  · exact (mo_zoo h).ok
  · rw [mo_1]
    exact h

def zfst (p : Nat) : Nat := if p ≤ 1 then 0 else 1
def zsec (p : Nat) : Nat := if p ≤ 1 then 1 else 0
theorem zfst_lt (p : Nat) : zfst p < 2 := by unfold zfst; split <;> omega
theorem zsec_lt (p : Nat) : zsec p < 2 := by unfold zsec; split <;> omega
theorem zsec_fst (p : Nat) : zsec p = 1 - zfst p := by unfold zfst zsec; split <;> rfl
def zv (sh : Nat) (r : Int32) : Prop := if sh = 0 then zoo r else zok r
theorem zv.ok {sh : Nat} {r : Int32} (h : zv sh r) : zok r := by
  unfold zv at h
  split at h
  · exact h.ok
  · exact h
theorem zv.old {r : Int32} (h : zv 0 r) : zoo r := h
theorem zv_mo {sh : Nat} {r : Int32} (hs : sh < 2) (h : zok r) : zv sh (mo r (nI sh)) := by
  rcases (show sh = 0 ∨ sh = 1 by omega) with rfl | rfl
  · exact mo_zoo h
  · rw [mo_1]; exact h
theorem zv_N (sh : Nat) : zv sh zN := by
  unfold zv
  split
  · exact Or.inl rfl
  · exact Or.inl rfl
section CD
variable {la po lo : Int32} {ov orr nv nr : Nat → Int32} {ql : Int32} {qk qv qr wr : Nat → Int32} {wa : Int32} {wc wk : Nat → Int32}
theorem C_first {p : Nat} (hp : p ≤ 3) : fX4_first (nI p) la po lo ov orr nv nr ql qk qv qr wr wa wc wk = some (nI (zfst p)) := by
  rcases (show p = 0 ∨ p = 1 ∨ p = 2 ∨ p = 3 by omega) with rfl | rfl | rfl | rfl <;> simp (disch := omega) only [fX4_first, gl_0, gl_1, gl_2, gl_3, gl_4, gl_5, gl_6, gl_7, gl_8, gl_9, gl_10, gl_11, gl_12, gl_13, gl_14, gl_15, gl_16, gl_17, gl_18, gl_19, gl_20, gl_21, gl_22, gl_23, gl_24, gl_25, gl_26, gl_27, gl_28, gl_29, gl_30, gl_31, gl_32, gl_44, gl_48, gl_49, gl_57, gl_59, gl_60, gl_63, gl_70, gl_98, gl_99, gl_100, gl_101, gl_107, gl_109, gl_110, gl_111, gl_116, gl_120, gl_126, gl_155, gl_411, gl_999, gl_1000, gl_1233, gl_1644, gl_100000, gl_m1, nI_eq, zfst] <;> simp
theorem C_hasBoth {p : Nat} (hp : p ≤ 3) : fX4_hasBoth (nI p) la po lo ov orr nv nr ql qk qv qr wr wa wc wk = some (if p = 1 ∨ p = 2 then nI 1 else nI 0) := by
  rcases (show p = 0 ∨ p = 1 ∨ p = 2 ∨ p = 3 by omega) with rfl | rfl | rfl | rfl <;> simp (disch := omega) only [fX4_hasBoth, gl_0, gl_1, gl_2, gl_3, gl_4, gl_5, gl_6, gl_7, gl_8, gl_9, gl_10, gl_11, gl_12, gl_13, gl_14, gl_15, gl_16, gl_17, gl_18, gl_19, gl_20, gl_21, gl_22, gl_23, gl_24, gl_25, gl_26, gl_27, gl_28, gl_29, gl_30, gl_31, gl_32, gl_44, gl_48, gl_49, gl_57, gl_59, gl_60, gl_63, gl_70, gl_98, gl_99, gl_100, gl_101, gl_107, gl_109, gl_110, gl_111, gl_116, gl_120, gl_126, gl_155, gl_411, gl_999, gl_1000, gl_1233, gl_1644, gl_100000, gl_m1, nI_eq] <;> simp
theorem C_other {s : Nat} {ph : Int32} (hs : s < 2) : fX4_other (nI s) ph la po lo ov orr nv nr ql qk qv qr wr wa wc wk = some (nI (1 - s)) := by
  rcases (show s = 0 ∨ s = 1 by omega) with rfl | rfl <;> simp (disch := omega) only [fX4_other, gl_0, gl_1, gl_2, gl_3, gl_4, gl_5, gl_6, gl_7, gl_8, gl_9, gl_10, gl_11, gl_12, gl_13, gl_14, gl_15, gl_16, gl_17, gl_18, gl_19, gl_20, gl_21, gl_22, gl_23, gl_24, gl_25, gl_26, gl_27, gl_28, gl_29, gl_30, gl_31, gl_32, gl_44, gl_48, gl_49, gl_57, gl_59, gl_60, gl_63, gl_70, gl_98, gl_99, gl_100, gl_101, gl_107, gl_109, gl_110, gl_111, gl_116, gl_120, gl_126, gl_155, gl_411, gl_999, gl_1000, gl_1233, gl_1644, gl_100000, gl_m1, nI_eq] <;> simp
theorem C_second {p : Nat} (hp : p ≤ 3) : fX4_second (nI p) la po lo ov orr nv nr ql qk qv qr wr wa wc wk = some (nI (zsec p)) := by
  unfold fX4_second
  rw [C_first hp, z_bs, C_other (zfst_lt p), z_bs, zsec_fst]
theorem C_shape {s : Nat} {ph : Int32} (hs : s < 2) : fX4_shape (nI s) ph la po lo ov orr nv nr ql qk qv qr wr wa wc wk = some (if s = 0 then 1 else 4) := by
  rcases (show s = 0 ∨ s = 1 by omega) with rfl | rfl <;> simp (disch := omega) only [fX4_shape, gl_0, gl_1, gl_2, gl_3, gl_4, gl_5, gl_6, gl_7, gl_8, gl_9, gl_10, gl_11, gl_12, gl_13, gl_14, gl_15, gl_16, gl_17, gl_18, gl_19, gl_20, gl_21, gl_22, gl_23, gl_24, gl_25, gl_26, gl_27, gl_28, gl_29, gl_30, gl_31, gl_32, gl_44, gl_48, gl_49, gl_57, gl_59, gl_60, gl_63, gl_70, gl_98, gl_99, gl_100, gl_101, gl_107, gl_109, gl_110, gl_111, gl_116, gl_120, gl_126, gl_155, gl_411, gl_999, gl_1000, gl_1233, gl_1644, gl_100000, gl_m1, nI_eq] <;> simp
theorem C_isThere {p s : Nat} (hp : p ≤ 3) (hs : s < 2) : fX4_isThere (nI s) (nI p) la po lo ov orr nv nr ql qk qv qr wr wa wc wk = some (if (s = 0 ∧ p = 3) ∨ (s = 1 ∧ p = 0) then nI 0 else nI 1) := by
  rcases (show p = 0 ∨ p = 1 ∨ p = 2 ∨ p = 3 by omega) with rfl | rfl | rfl | rfl <;> rcases (show s = 0 ∨ s = 1 by omega) with rfl | rfl <;> simp (disch := omega) only [fX4_isThere, gl_0, gl_1, gl_2, gl_3, gl_4, gl_5, gl_6, gl_7, gl_8, gl_9, gl_10, gl_11, gl_12, gl_13, gl_14, gl_15, gl_16, gl_17, gl_18, gl_19, gl_20, gl_21, gl_22, gl_23, gl_24, gl_25, gl_26, gl_27, gl_28, gl_29, gl_30, gl_31, gl_32, gl_44, gl_48, gl_49, gl_57, gl_59, gl_60, gl_63, gl_70, gl_98, gl_99, gl_100, gl_101, gl_107, gl_109, gl_110, gl_111, gl_116, gl_120, gl_126, gl_155, gl_411, gl_999, gl_1000, gl_1233, gl_1644, gl_100000, gl_m1, nI_eq] <;> simp
/-- the latest write of a key in the queue -/
def zlat (qk : Nat → Int32) (k : Int32) : Nat → Int32
  | 0 => zN
  | n + 1 => if qk n = k then nI n else zlat qk k n
theorem zlat_or (qk : Nat → Int32) (k : Int32) : ∀ q, zlat qk k q = zN ∨ ∃ i, i < q ∧ zlat qk k q = nI i ∧ qk i = k
  | 0 => Or.inl rfl
  | n + 1 => by
    unfold zlat
    by_cases h : qk n = k
    · rw [if_pos h]; exact Or.inr ⟨n, by omega, rfl, h⟩
    · rw [if_neg h]
      rcases zlat_or qk k n with h1 | ⟨i, h1, h2, h3⟩
      · exact Or.inl h1
      · exact Or.inr ⟨i, by omega, h2, h3⟩
theorem zN_neg : zN < nI 0 := by decide
def zpr : Nat → Int32
  | 0 => zN
  | n + 1 => nI n
theorem zpr_add (n : Nat) : nI n + zN = zpr n := by
  cases n with
  | zero => decide
  | succ n => exact pk_m1 n
theorem zpr_sub (n : Nat) : nI n - nI 1 = zpr n := by
  cases n with
  | zero => decide
  | succ n => exact pk_sub (by omega)
theorem C_latest {k : Int32} : ∀ (i n : Nat), i ≤ 8 → i < n → fX1_latestOf_b7 n k (zpr i) ql qk qv qr = some (zlat qk k i) := by
  intro i
  induction i with
  | zero =>
    intro n _ hn
    obtain ⟨n, rfl⟩ : ∃ m, n = m + 1 := ⟨n - 1, by omega⟩
    simp only [fX1_latestOf_b7, gl_0, gl_1, gl_2, gl_3, gl_4, gl_5, gl_6, gl_7, gl_8, gl_9, gl_10, gl_11, gl_12, gl_13, gl_14, gl_15, gl_16, gl_17, gl_18, gl_19, gl_20, gl_21, gl_22, gl_23, gl_24, gl_25, gl_26, gl_27, gl_28, gl_29, gl_30, gl_31, gl_32, gl_44, gl_48, gl_49, gl_57, gl_59, gl_60, gl_63, gl_70, gl_98, gl_99, gl_100, gl_101, gl_107, gl_109, gl_110, gl_111, gl_116, gl_120, gl_126, gl_155, gl_411, gl_999, gl_1000, gl_1233, gl_1644, gl_100000, gl_m1, zpr]
    rw [if_pos zN_neg]
    rfl
  | succ i ih =>
    intro n hi hn
    obtain ⟨n, rfl⟩ : ∃ m, n = m + 1 := ⟨n - 1, by omega⟩
    simp (disch := omega) only [fX1_latestOf_b7, gl_0, gl_1, gl_2, gl_3, gl_4, gl_5, gl_6, gl_7, gl_8, gl_9, gl_10, gl_11, gl_12, gl_13, gl_14, gl_15, gl_16, gl_17, gl_18, gl_19, gl_20, gl_21, gl_22, gl_23, gl_24, gl_25, gl_26, gl_27, gl_28, gl_29, gl_30, gl_31, gl_32, gl_44, gl_48, gl_49, gl_57, gl_59, gl_60, gl_63, gl_70, gl_98, gl_99, gl_100, gl_101, gl_107, gl_109, gl_110, gl_111, gl_116, gl_120, gl_126, gl_155, gl_411, gl_999, gl_1000, gl_1233, gl_1644, gl_100000, gl_m1, zpr, z_in, z_gt, nI_clamp, zpr_add]
    rw [if_neg (z_neg (by omega))]
    unfold zlat
    by_cases h : qk i = k
    · rw [if_pos h, if_pos h]
    · rw [if_neg h, if_neg h]
      exact ih n (by omega) (by omega)
theorem C_latestOf {k : Int32} {q : Nat} (hq : q ≤ 8) : fX1_latestOf k (nI q) qk qv qr = some (zlat qk k q) := by
  unfold fX1_latestOf
  simp only [gl_0, gl_1, gl_2, gl_3, gl_4, gl_5, gl_6, gl_7, gl_8, gl_9, gl_10, gl_11, gl_12, gl_13, gl_14, gl_15, gl_16, gl_17, gl_18, gl_19, gl_20, gl_21, gl_22, gl_23, gl_24, gl_25, gl_26, gl_27, gl_28, gl_29, gl_30, gl_31, gl_32, gl_44, gl_48, gl_49, gl_57, gl_59, gl_60, gl_63, gl_70, gl_98, gl_99, gl_100, gl_101, gl_107, gl_109, gl_110, gl_111, gl_116, gl_120, gl_126, gl_155, gl_411, gl_999, gl_1000, gl_1233, gl_1644, gl_100000, gl_m1, zpr_sub]
  exact C_latest q 2000 hq (by omega)
/-- the row that a reader in a costume reads -/
def zrr (p q : Nat) (orr nv nr qk qr : Nat → Int32) (k s : Nat) : Int32 :=
  if ¬ zlat qk (nI k) q = zN ∧ s = zsec p then mo (qr (zlat qk (nI k) q).toNatClampNeg) (nI s)
  else if (p = 1 ∧ s = 1 ∧ nv k = nI 0) ∨ (s = 0 ∧ p = 3) ∨ (s = 1 ∧ p = 0) then mo (if s = 0 then nr k else orr k) (nI s) else mo (if s = 0 then orr k else nr k) (nI s)
theorem C_rr36 {p k s : Nat} (hp : p ≤ 3) (hk : k < 31) (hs : s < 2) : fX4_rowRead_b36 (nI k) (nI s) (nI p) la po lo ov orr nv nr ql qk qv qr wr wa wc wk = some (if (p = 1 ∧ s = 1 ∧ nv k = nI 0) ∨ (s = 0 ∧ p = 3) ∨ (s = 1 ∧ p = 0) then mo (if s = 0 then nr k else orr k) (nI s) else mo (if s = 0 then orr k else nr k) (nI s)) := by
  have h0 : nI 0 = nI 0 := rfl
  by_cases hv : nv k = nI 0 <;> rcases (show p = 0 ∨ p = 1 ∨ p = 2 ∨ p = 3 by omega) with rfl | rfl | rfl | rfl <;> rcases (show s = 0 ∨ s = 1 by omega) with rfl | rfl <;>
    simp (disch := omega) [fX4_rowRead_b36, fX4_rowRead_b65, fX4_rowRead_b66, fX4_rowRead_b81, fX4_rowRead_b90, gl_0, gl_1, gl_2, gl_3, gl_4, gl_5, gl_6, gl_7, gl_8, gl_9, gl_10, gl_11, gl_12, gl_13, gl_14, gl_15, gl_16, gl_17, gl_18, gl_19, gl_20, gl_21, gl_22, gl_23, gl_24, gl_25, gl_26, gl_27, gl_28, gl_29, gl_30, gl_31, gl_32, gl_44, gl_48, gl_49, gl_57, gl_59, gl_60, gl_63, gl_70, gl_98, gl_99, gl_100, gl_101, gl_107, gl_109, gl_110, gl_111, gl_116, gl_120, gl_126, gl_155, gl_411, gl_999, gl_1000, gl_1233, gl_1644, gl_100000, gl_m1, nI_eq, z_in, z_gt, z_bs, nI_clamp, C_isThere, C_other, C_shape, C_madeOver, hv]
theorem C_rowRead {p q k s : Nat} (hp : p ≤ 3) (hq : q ≤ 8) (hk : k < 31) (hs : s < 2) : fX4_rowRead (nI k) (nI s) (nI p) la po lo ov orr nv nr (nI q) qk qv qr wr wa wc wk = some (zrr p q orr nv nr qk qr k s) := by
  unfold fX4_rowRead zrr
  rw [C_latestOf hq, z_bs]
  simp only [gl_0, gl_1, gl_2, gl_3, gl_4, gl_5, gl_6, gl_7, gl_8, gl_9, gl_10, gl_11, gl_12, gl_13, gl_14, gl_15, gl_16, gl_17, gl_18, gl_19, gl_20, gl_21, gl_22, gl_23, gl_24, gl_25, gl_26, gl_27, gl_28, gl_29, gl_30, gl_31, gl_32, gl_44, gl_48, gl_49, gl_57, gl_59, gl_60, gl_63, gl_70, gl_98, gl_99, gl_100, gl_101, gl_107, gl_109, gl_110, gl_111, gl_116, gl_120, gl_126, gl_155, gl_411, gl_999, gl_1000, gl_1233, gl_1644, gl_100000, gl_m1]
  rcases zlat_or qk (nI k) q with h | ⟨i, hi, h, -⟩
  · rw [h, if_pos rfl, if_neg (by simp), C_rr36 hp hk hs]
  · rw [h, if_neg (z_m1 (by omega)), C_second hp, z_bs]
    by_cases hsec : s = zsec p
    · rw [if_pos ((nI_eq (by omega) (by have := zsec_lt p; omega)).mpr hsec), if_pos ⟨z_m1 (by omega), hsec⟩]
      simp (disch := omega) only [z_in, z_gt, nI_clamp, C_madeOver, z_bs]
    · rw [if_neg (fun e => hsec ((nI_eq (by omega) (by have := zsec_lt p; omega)).mp e)), if_neg (fun e => hsec e.2), C_rr36 hp hk hs]
end CD

theorem mo_eqN {r : Int32} {s : Nat} (hs : s < 2) (h : zok r) : mo r (nI s) = zN ↔ r = zN := by
  rcases h with rfl | ⟨n, hn, rfl⟩
  · simp [mo_N]
  · rcases (show s = 0 ∨ s = 1 by omega) with rfl | rfl
    · rw [mo_0 hn]
      have := zmo_lt hn
      exact ⟨fun e => (z_m1 (by omega) e).elim, fun e => (z_m1 (by omega) e).elim⟩
    · rw [mo_1]

theorem zo1 {x : Int32} (h : x = nI 0 ∨ x = nI 1) : g_bl x = true := by
  rcases h with rfl | rfl <;> decide
theorem z_or0 (x : Int32) : x ||| nI 0 = x := by rw [nI_0]; exact Int32.or_zero
theorem z_cnt_succ (P : Nat → Bool) (n : Nat) : z_cnt P (n + 1) = z_cnt P n + (if P n = true then 1 else 0) := rfl
theorem z_bits_succ (P : Nat → Bool) (n : Nat) : z_bits P (n + 1) = if P n = true then z_bits P n ||| (nI 1 <<< (nI n &&& 31)) else z_bits P n := rfl
def zdf (ov orr nv nr : Nat → Int32) (k : Nat) : Bool := decide (¬ (ov k = nv k ∧ orr k = mo (nr k) (nI 0)))
def zst (row : Nat → Int32) (k : Nat) : Bool := decide (¬ row k = zN ∧ ¬ (row k - row k / nI 4 * nI 4) ≤ nI 1)
def zkn (ver : Nat → Int32) (k : Nat) : Bool := decide (¬ ver k = nI 0)
def zkr (p q : Nat) (orr nv nr qk qr : Nat → Int32) (s k : Nat) : Bool := decide (¬ zrr p q orr nv nr qk qr k s = zN)
def zqu (p q : Nat) (orr nv nr qk qr : Nat → Int32) (k : Nat) : Bool := decide (¬ zrr p q orr nv nr qk qr k 0 = mo (zrr p q orr nv nr qk qr k 1) (nI 0))
/-- a loop over the keys that gathers bits -/
theorem z_gather {σ β : Type} (F : Nat → Nat → Int32 → σ → Option β) (P : Nat → Bool) (J : σ → Prop) (Qf : Option β → Prop)
    (step : ∀ n i x s, i < 31 → J s → ∃ s', J s' ∧ F (n + 1) i x s = F n (i + 1) (if P i = true then x ||| (nI 1 <<< (nI i &&& 31)) else x) s') (fin : ∀ n s, J s → Qf (F (n + 1) 31 (z_bits P 31) s)) (s : σ) (hJ : J s) (N : Nat) (hN : 31 < N) : Qf (F N 0 (nI 0) s) := by
  refine z_loop (fun n i (q : Int32 × σ) => F n i q.1 q.2) 31 (fun i q => q.1 = z_bits P i ∧ J q.2) Qf ?_ ?_ N 0 (nI 0, s) (by omega) (by omega) ⟨rfl, hJ⟩
  · rintro n i ⟨x, s⟩ hi ⟨hx, hJ⟩
    obtain ⟨s', h1, h2⟩ := step n i x s hi hJ
    refine ⟨(if P i = true then x ||| (nI 1 <<< (nI i &&& 31)) else x, s'), ⟨?_, h1⟩, h2⟩
    dsimp only at hx ⊢
    rw [z_bits_succ, hx]
  · rintro n ⟨x, s⟩ ⟨hx, hJ⟩
    dsimp only at hx ⊢
    rw [hx]
    exact fin n s hJ
/-- a loop over the keys that counts -/
theorem z_tally {β : Type} (F : Nat → Nat → Int32 → Option β) (P : Nat → Bool) (Qf : Option β → Prop)
    (step : ∀ n i c, i < 31 → F (n + 1) i (nI c) = F n (i + 1) (nI (c + (if P i = true then 1 else 0)))) (fin : ∀ n, Qf (F (n + 1) 31 (nI (z_cnt P 31)))) (N : Nat) (hN : 31 < N) : Qf (F N 0 (nI 0)) := by
  refine z_loop (fun n i (x : Int32) => F n i x) 31 (fun i x => x = nI (z_cnt P i)) Qf ?_ ?_ N 0 (nI 0) (by omega) (by omega) rfl
  · rintro n i x hi hx
    subst hx
    exact ⟨_, rfl, step n i _ hi⟩
  · rintro n x hx
    subst hx
    exact fin n
section CD4
variable {ph la po lo : Int32} {ov orr nv nr : Nat → Int32} {ql : Int32} {qk qv qr wr : Nat → Int32} {wa : Int32} {wc wk : Nat → Int32}
theorem C_strangeRows (nu : Int32) (ver row : Nat → Int32) : fX3_strangeRows nu ver row = some (nI (z_cnt (zst row) 31)) := by
  unfold fX3_strangeRows
  simp only [gl_0, gl_1, gl_2, gl_3, gl_4, gl_5, gl_6, gl_7, gl_8, gl_9, gl_10, gl_11, gl_12, gl_13, gl_14, gl_15, gl_16, gl_17, gl_18, gl_19, gl_20, gl_21, gl_22, gl_23, gl_24, gl_25, gl_26, gl_27, gl_28, gl_29, gl_30, gl_31, gl_32, gl_44, gl_48, gl_49, gl_57, gl_59, gl_60, gl_63, gl_70, gl_98, gl_99, gl_100, gl_101, gl_107, gl_109, gl_110, gl_111, gl_116, gl_120, gl_126, gl_155, gl_411, gl_999, gl_1000, gl_1233, gl_1644, gl_100000, gl_m1]
  refine z_tally (fun n i x => fX3_strangeRows_b4 n nu x (nI i) ver row) (zst row) (fun o => o = some (nI (z_cnt (zst row) 31))) ?_ ?_ 2000 (by omega)
  · intro n i c hi
    simp (disch := omega) only [fX3_strangeRows_b4, fX2_isStrange, gl_0, gl_1, gl_2, gl_3, gl_4, gl_5, gl_6, gl_7, gl_8, gl_9, gl_10, gl_11, gl_12, gl_13, gl_14, gl_15, gl_16, gl_17, gl_18, gl_19, gl_20, gl_21, gl_22, gl_23, gl_24, gl_25, gl_26, gl_27, gl_28, gl_29, gl_30, gl_31, gl_32, gl_44, gl_48, gl_49, gl_57, gl_59, gl_60, gl_63, gl_70, gl_98, gl_99, gl_100, gl_101, gl_107, gl_109, gl_110, gl_111, gl_116, gl_120, gl_126, gl_155, gl_411, gl_999, gl_1000, gl_1233, gl_1644, gl_100000, gl_m1, nI_leI, z_in, z_gt, nI_clamp, nI_add]
    rw [if_neg (by omega)]
    by_cases h1 : row i = zN
    · rw [if_pos h1, z_bs, if_pos rfl]
      simp [zst, h1]
    · rw [if_neg h1]
      by_cases h2 : (row i - row i / nI 4 * nI 4) ≤ nI 1
      · rw [if_pos h2, z_bs, if_pos rfl]
        simp [zst, h2]
      · rw [if_neg h2, z_bs, if_neg (by decide)]
        simp [zst, h1, h2]
  · intro n
    simp (disch := omega) only [fX3_strangeRows_b4, gl_0, gl_1, gl_2, gl_3, gl_4, gl_5, gl_6, gl_7, gl_8, gl_9, gl_10, gl_11, gl_12, gl_13, gl_14, gl_15, gl_16, gl_17, gl_18, gl_19, gl_20, gl_21, gl_22, gl_23, gl_24, gl_25, gl_26, gl_27, gl_28, gl_29, gl_30, gl_31, gl_32, gl_44, gl_48, gl_49, gl_57, gl_59, gl_60, gl_63, gl_70, gl_98, gl_99, gl_100, gl_101, gl_107, gl_109, gl_110, gl_111, gl_116, gl_120, gl_126, gl_155, gl_411, gl_999, gl_1000, gl_1233, gl_1644, gl_100000, gl_m1, nI_leI]
    rw [if_pos (by omega)]
theorem C_known (nu : Int32) (ver row : Nat → Int32) : fX3_known nu ver row = some (nI (z_cnt (zkn ver) 31)) := by
  unfold fX3_known
  simp only [gl_0, gl_1, gl_2, gl_3, gl_4, gl_5, gl_6, gl_7, gl_8, gl_9, gl_10, gl_11, gl_12, gl_13, gl_14, gl_15, gl_16, gl_17, gl_18, gl_19, gl_20, gl_21, gl_22, gl_23, gl_24, gl_25, gl_26, gl_27, gl_28, gl_29, gl_30, gl_31, gl_32, gl_44, gl_48, gl_49, gl_57, gl_59, gl_60, gl_63, gl_70, gl_98, gl_99, gl_100, gl_101, gl_107, gl_109, gl_110, gl_111, gl_116, gl_120, gl_126, gl_155, gl_411, gl_999, gl_1000, gl_1233, gl_1644, gl_100000, gl_m1]
  refine z_tally (fun n i x => fX3_known_b4 n nu x (nI i) ver row) (zkn ver) (fun o => o = some (nI (z_cnt (zkn ver) 31))) ?_ ?_ 2000 (by omega)
  · intro n i c hi
    simp (disch := omega) only [fX3_known_b4, gl_0, gl_1, gl_2, gl_3, gl_4, gl_5, gl_6, gl_7, gl_8, gl_9, gl_10, gl_11, gl_12, gl_13, gl_14, gl_15, gl_16, gl_17, gl_18, gl_19, gl_20, gl_21, gl_22, gl_23, gl_24, gl_25, gl_26, gl_27, gl_28, gl_29, gl_30, gl_31, gl_32, gl_44, gl_48, gl_49, gl_57, gl_59, gl_60, gl_63, gl_70, gl_98, gl_99, gl_100, gl_101, gl_107, gl_109, gl_110, gl_111, gl_116, gl_120, gl_126, gl_155, gl_411, gl_999, gl_1000, gl_1233, gl_1644, gl_100000, gl_m1, nI_leI, z_in, z_gt, nI_clamp, nI_add]
    rw [if_neg (by omega)]
    by_cases h1 : ver i = nI 0
    · rw [if_pos h1]
      simp [zkn, h1]
    · rw [if_neg h1]
      simp [zkn, h1]
  · intro n
    simp (disch := omega) only [fX3_known_b4, gl_0, gl_1, gl_2, gl_3, gl_4, gl_5, gl_6, gl_7, gl_8, gl_9, gl_10, gl_11, gl_12, gl_13, gl_14, gl_15, gl_16, gl_17, gl_18, gl_19, gl_20, gl_21, gl_22, gl_23, gl_24, gl_25, gl_26, gl_27, gl_28, gl_29, gl_30, gl_31, gl_32, gl_44, gl_48, gl_49, gl_57, gl_59, gl_60, gl_63, gl_70, gl_98, gl_99, gl_100, gl_101, gl_107, gl_109, gl_110, gl_111, gl_116, gl_120, gl_126, gl_155, gl_411, gl_999, gl_1000, gl_1233, gl_1644, gl_100000, gl_m1, nI_leI]
    rw [if_pos (by omega)]
theorem C_differing : fX4_differing ph la po lo ov orr nv nr ql qk qv qr wr wa wc wk = some (z_bits (zdf ov orr nv nr) 31) := by
  unfold fX4_differing
  rw [show (0 : Int32) = nI 0 from gl_0]
  refine z_gather (fun n i x (_ : Unit) => fX4_differing_b4 n x (nI i) ph la po lo ov orr nv nr ql qk qv qr wr wa wc wk) (zdf ov orr nv nr) (fun _ => True) (fun o => o = some (z_bits (zdf ov orr nv nr) 31)) ?_ ?_ () trivial 2000 (by omega)
  · intro n i x s hi _
    refine ⟨(), trivial, ?_⟩
    simp (disch := omega) only [fX4_differing_b4, gl_31, gl_1, gl_0, nI_leI, z_in, z_gt, nI_clamp, nI_add, C_madeOver, z_bs]
    rw [if_neg (by omega)]
    by_cases h1 : ov i = nv i
    · rw [if_pos h1]
      by_cases h2 : orr i = mo (nr i) (nI 0)
      · rw [if_pos h2, if_neg (by simp [zdf, h1, ← h2])]
      · rw [if_neg h2, if_pos (by simp [zdf, h2])]
    · rw [if_neg h1, if_pos (by simp [zdf, h1])]
  · intro n s _
    simp (disch := omega) only [fX4_differing_b4, gl_31, nI_leI]
    rw [if_pos (by omega)]
theorem C_keysRead {p q s : Nat} (hp : p ≤ 3) (hq : q ≤ 8) (hs : s < 2) : fX4_keysRead (nI s) (nI p) la po lo ov orr nv nr (nI q) qk qv qr wr wa wc wk = some (z_bits (zkr p q orr nv nr qk qr s) 31) := by
  unfold fX4_keysRead
  rw [show (0 : Int32) = nI 0 from gl_0]
  refine z_gather (fun n i x (_ : Unit) => fX4_keysRead_b4 n (nI s) x (nI i) (nI p) la po lo ov orr nv nr (nI q) qk qv qr wr wa wc wk) (zkr p q orr nv nr qk qr s) (fun _ => True) (fun o => o = some (z_bits (zkr p q orr nv nr qk qr s) 31)) ?_ ?_ () trivial 2000 (by omega)
  · intro n i x u hi _
    refine ⟨(), trivial, ?_⟩
    simp (disch := omega) only [fX4_keysRead_b4, gl_31, gl_1, gl_0, gl_m1, nI_leI, nI_add, C_rowRead, z_bs]
    rw [if_neg (by omega)]
    by_cases h1 : zrr p q orr nv nr qk qr i s = zN
    · rw [if_pos h1, if_neg (by simp [zkr, h1])]
    · rw [if_neg h1, if_pos (by simp [zkr, h1])]
  · intro n s _
    simp (disch := omega) only [fX4_keysRead_b4, gl_31, nI_leI]
    rw [if_pos (by omega)]
theorem C_quarrelling {p q : Nat} (hp : p ≤ 3) (hq : q ≤ 8) : fX4_quarrelling (nI p) la po lo ov orr nv nr (nI q) qk qv qr wr wa wc wk = some (z_bits (zqu p q orr nv nr qk qr) 31) := by
  unfold fX4_quarrelling
  rw [show (0 : Int32) = nI 0 from gl_0]
  refine z_gather (fun n i x (_ : Unit) => fX4_quarrelling_b4 n x (nI i) (nI p) la po lo ov orr nv nr (nI q) qk qv qr wr wa wc wk) (zqu p q orr nv nr qk qr) (fun _ => True) (fun o => o = some (z_bits (zqu p q orr nv nr qk qr) 31)) ?_ ?_ () trivial 2000 (by omega)
  · intro n i x u hi _
    refine ⟨(), trivial, ?_⟩
    simp (disch := omega) only [fX4_quarrelling_b4, gl_31, gl_1, gl_0, nI_leI, nI_add, C_rowRead, C_madeOver, z_bs]
    rw [if_neg (by omega)]
    by_cases h1 : zrr p q orr nv nr qk qr i 0 = mo (zrr p q orr nv nr qk qr i 1) (nI 0)
    · rw [if_pos h1, if_neg (by simp [zqu, ← h1])]
    · rw [if_neg h1, if_pos (by simp [zqu, h1])]
  · intro n s _
    simp (disch := omega) only [fX4_quarrelling_b4, gl_31, nI_leI]
    rw [if_pos (by omega)]
end CD4

section CD5
variable {la lo : Int32} {ov orr nv nr : Nat → Int32} {qk qv qr wr : Nat → Int32} {wa : Int32} {wc wk : Nat → Int32}
theorem C_isReady {p q x : Nat} (hp : p ≤ 3) (hq8 : q ≤ 8) (hx : x ≤ 31) : fX4_isReady (nI p) la (nI x) lo ov orr nv nr (nI q) qk qv qr wr wa wc wk = some (if p = 1 ∧ x = 31 ∧ q = 0 ∧ z_bits (zdf ov orr nv nr) 31 = nI 0 then nI 1 else nI 0) := by
  unfold fX4_isReady
  simp (disch := omega) only [gl_0, gl_1, gl_31, nI_eq, C_differing, z_bs]
  by_cases hp1 : p = 1 <;> by_cases hx1 : x = 31 <;> by_cases hq1 : q = 0 <;> by_cases hd : z_bits (zdf ov orr nv nr) 31 = nI 0 <;> simp [hp1, hx1, hq1, hd]
end CD5

def zans (r : Int32) : Prop := ∃ n, n < 1000000 ∧ r = nI n
def zerr (r : Int32) : Prop := r = -1000001 ∨ r = -1000002 ∨ r = -1000003 ∨ r = -1000004
theorem zans_n {n : Nat} (h : n < 1000000) : zans (nI n) := ⟨n, h, rfl⟩
theorem C_clear (nu : Int32) (ver row : Nat → Int32) : ∃ ver' row', fX3_clear nu ver row = some (ver', row') ∧ ∀ k, k < 31 → ver' k = nI 0 ∧ row' k = zN := by
  unfold fX3_clear
  rw [show (0 : Int32) = nI 0 from gl_0]
  refine z_loop (fun n i (q : (Nat → Int32) × (Nat → Int32)) => fX3_clear_b2 n nu (nI i) q.1 q.2) 31 (fun i q => ∀ k, k < i → q.1 k = nI 0 ∧ q.2 k = zN) (fun o => ∃ ver' row', o = some (ver', row') ∧ ∀ k, k < 31 → ver' k = nI 0 ∧ row' k = zN) ?_ ?_ 2000 0 (ver, row) (by omega) (by omega) (fun k hk => absurd hk (by omega))
  · rintro n i ⟨ver, row⟩ hi h
    refine ⟨(upd ver i (nI 0), upd row i zN), fun k hk => ?_, ?_⟩
    · dsimp only
      by_cases hki : k = i
      · subst hki; exact ⟨z_us, z_us⟩
      · rw [z_un hki, z_un hki]; exact h k (by omega)
    · dsimp only
      simp (disch := omega) only [fX3_clear_b2, gl_31, gl_1, gl_0, gl_m1, nI_leI, z_in, z_gt, nI_clamp, nI_add]
      rw [if_neg (by omega)]
  · rintro n ⟨ver, row⟩ h
    refine ⟨ver, row, ?_, h⟩
    simp (disch := omega) only [fX3_clear_b2, gl_31, nI_leI]
    rw [if_pos (by omega)]

theorem C_take {ver row : Nat → Int32} {k v w sh : Nat} {r : Int32} (hk : k < 31) (h : ver k = nI v) (hv : v ≤ w) (hw : w < 2 ^ 31) : fX3_take (nI k) (nI w) r (nI sh) ver row = some (upd ver k (nI w), upd row k (mo r (nI sh))) := by
  unfold fX3_take
  simp (disch := omega) only [gl_0, gl_1, gl_2, gl_3, gl_4, gl_5, gl_6, gl_7, gl_8, gl_9, gl_10, gl_11, gl_12, gl_13, gl_14, gl_15, gl_16, gl_17, gl_18, gl_19, gl_20, gl_21, gl_22, gl_23, gl_24, gl_25, gl_26, gl_27, gl_28, gl_29, gl_30, gl_31, gl_32, gl_44, gl_48, gl_49, gl_57, gl_59, gl_60, gl_63, gl_70, gl_98, gl_99, gl_100, gl_101, gl_107, gl_109, gl_110, gl_111, gl_116, gl_120, gl_126, gl_155, gl_411, gl_999, gl_1000, gl_1233, gl_1644, gl_100000, gl_m1, nI_eq, nI_leI, nI_ltI, nI_add, nI_clamp, pk_mul, pk_sub, z_in, z_gt, z_bs, z_us, z_un, if_pos, if_neg, if_true, if_false, and_true, true_and, and_self, not_true_eq_false, not_false_eq_true, h, C_madeOver]
theorem C_takeNot {ver row : Nat → Int32} {k v w sh : Nat} {r : Int32} (hk : k < 31) (h : ver k = nI v) (hv : w < v) (hw : v < 2 ^ 31) : fX3_take (nI k) (nI w) r (nI sh) ver row = some (ver, row) := by
  unfold fX3_take
  simp (disch := omega) only [gl_0, gl_1, gl_2, gl_3, gl_4, gl_5, gl_6, gl_7, gl_8, gl_9, gl_10, gl_11, gl_12, gl_13, gl_14, gl_15, gl_16, gl_17, gl_18, gl_19, gl_20, gl_21, gl_22, gl_23, gl_24, gl_25, gl_26, gl_27, gl_28, gl_29, gl_30, gl_31, gl_32, gl_44, gl_48, gl_49, gl_57, gl_59, gl_60, gl_63, gl_70, gl_98, gl_99, gl_100, gl_101, gl_107, gl_109, gl_110, gl_111, gl_116, gl_120, gl_126, gl_155, gl_411, gl_999, gl_1000, gl_1233, gl_1644, gl_100000, gl_m1, nI_eq, nI_leI, nI_ltI, nI_add, nI_clamp, pk_mul, pk_sub, z_in, z_gt, z_bs, z_us, z_un, if_pos, if_neg, if_true, if_false, and_true, true_and, and_self, not_true_eq_false, not_false_eq_true, h, C_madeOver]
theorem C_append {qk qv qr : Nat → Int32} {q : Nat} {a b c : Int32} (hq : q < 8) : fX1_append a b c (nI q) qk qv qr = some (nI (q + 1), upd qk q a, upd qv q b, upd qr q c) := by
  unfold fX1_append
  simp (disch := omega) only [gl_0, gl_1, gl_2, gl_3, gl_4, gl_5, gl_6, gl_7, gl_8, gl_9, gl_10, gl_11, gl_12, gl_13, gl_14, gl_15, gl_16, gl_17, gl_18, gl_19, gl_20, gl_21, gl_22, gl_23, gl_24, gl_25, gl_26, gl_27, gl_28, gl_29, gl_30, gl_31, gl_32, gl_44, gl_48, gl_49, gl_57, gl_59, gl_60, gl_63, gl_70, gl_98, gl_99, gl_100, gl_101, gl_107, gl_109, gl_110, gl_111, gl_116, gl_120, gl_126, gl_155, gl_411, gl_999, gl_1000, gl_1233, gl_1644, gl_100000, gl_m1, nI_eq, nI_leI, nI_ltI, nI_add, nI_clamp, pk_mul, pk_sub, z_in, z_gt, z_bs, z_us, z_un, if_pos, if_neg, if_true, if_false, and_true, true_and, and_self, not_true_eq_false, not_false_eq_true]

theorem zb_out {x : Int32} {n : Nat} (h : x < 0 ∨ nI n ≤ x) : fX5_isBelow x (nI n) = some (nI 0) := by
  rw [C_isBelow]
  rcases h with h | h
  · rw [if_pos (by rw [nI_0]; exact h)]
  · by_cases h0 : x < nI 0
    · rw [if_pos h0]
    · rw [if_neg h0, if_pos h]
theorem zlt_of {x : Int32} {n : Nat} (hn : n + 1 < 2 ^ 31) (h : nI (n + 1) ≤ x) : nI n < x := by
  rw [Int32.lt_iff_toInt_lt, nI_toInt (by omega)]
  rw [Int32.le_iff_toInt_le, nI_toInt hn] at h
  omega
theorem C_ofOld {a b c : Nat} : fX2_ofOld (nI a) (nI b) (nI c) = some (nI (4 * (10 * a + b) + c)) := by
  unfold fX2_ofOld fX2_ofNew
  simp (disch := omega) only [gl_0, gl_1, gl_2, gl_3, gl_4, gl_5, gl_6, gl_7, gl_8, gl_9, gl_10, gl_11, gl_12, gl_13, gl_14, gl_15, gl_16, gl_17, gl_18, gl_19, gl_20, gl_21, gl_22, gl_23, gl_24, gl_25, gl_26, gl_27, gl_28, gl_29, gl_30, gl_31, gl_32, gl_44, gl_48, gl_49, gl_57, gl_59, gl_60, gl_63, gl_70, gl_98, gl_99, gl_100, gl_101, gl_107, gl_109, gl_110, gl_111, gl_116, gl_120, gl_126, gl_155, gl_411, gl_999, gl_1000, gl_1233, gl_1644, gl_100000, gl_m1, nI_eq, nI_leI, nI_ltI, nI_add, nI_clamp, pk_mul, pk_sub, z_in, z_gt, z_bs, z_us, z_un, if_pos, if_neg, if_true, if_false, and_true, true_and, and_self, not_true_eq_false, not_false_eq_true]
theorem C_ofNew {u v : Nat} : fX2_ofNew (nI u) (nI v) = some (nI (4 * u + v)) := by
  unfold fX2_ofNew
  simp (disch := omega) only [gl_0, gl_1, gl_2, gl_3, gl_4, gl_5, gl_6, gl_7, gl_8, gl_9, gl_10, gl_11, gl_12, gl_13, gl_14, gl_15, gl_16, gl_17, gl_18, gl_19, gl_20, gl_21, gl_22, gl_23, gl_24, gl_25, gl_26, gl_27, gl_28, gl_29, gl_30, gl_31, gl_32, gl_44, gl_48, gl_49, gl_57, gl_59, gl_60, gl_63, gl_70, gl_98, gl_99, gl_100, gl_101, gl_107, gl_109, gl_110, gl_111, gl_116, gl_120, gl_126, gl_155, gl_411, gl_999, gl_1000, gl_1233, gl_1644, gl_100000, gl_m1, nI_eq, nI_leI, nI_ltI, nI_add, nI_clamp, pk_mul, pk_sub, z_in, z_gt, z_bs, z_us, z_un, if_pos, if_neg, if_true, if_false, and_true, true_and, and_self, not_true_eq_false, not_false_eq_true]

def zta (sh : Nat) (k v r : Int32) (s : (Nat → Int32) × (Nat → Int32)) : (Nat → Int32) × (Nat → Int32) := if v < s.1 k.toNatClampNeg then s else (upd s.1 k.toNatClampNeg v, upd s.2 k.toNatClampNeg (mo r (nI sh)))
def zdr (sh : Nat) (qk qv qr : Nat → Int32) : Nat → (Nat → Int32) × (Nat → Int32) → (Nat → Int32) × (Nat → Int32)
  | 0, s => s
  | n + 1, s => zta sh (qk n) (qv n) (qr n) (zdr sh qk qv qr n s)
theorem C_take2 {ver row : Nat → Int32} {k sh : Nat} {v r : Int32} (hk : k < 31) : fX3_take (nI k) v r (nI sh) ver row = some (zta sh (nI k) v r (ver, row)) := by
  unfold fX3_take zta
  by_cases h : v < ver k
  · simp (disch := omega) only [gl_0, gl_1, gl_2, gl_3, gl_4, gl_5, gl_6, gl_7, gl_8, gl_9, gl_10, gl_11, gl_12, gl_13, gl_14, gl_15, gl_16, gl_17, gl_18, gl_19, gl_20, gl_21, gl_22, gl_23, gl_24, gl_25, gl_26, gl_27, gl_28, gl_29, gl_30, gl_31, gl_32, gl_44, gl_48, gl_49, gl_57, gl_59, gl_60, gl_63, gl_70, gl_98, gl_99, gl_100, gl_101, gl_107, gl_109, gl_110, gl_111, gl_116, gl_120, gl_126, gl_155, gl_411, gl_999, gl_1000, gl_1233, gl_1644, gl_100000, gl_m1, nI_eq, nI_leI, nI_ltI, nI_add, nI_clamp, pk_mul, pk_sub, z_in, z_gt, z_bs, z_us, z_un, if_pos, if_neg, if_true, if_false, and_true, true_and, and_self, not_true_eq_false, not_false_eq_true, C_madeOver, h]
  · simp (disch := omega) only [gl_0, gl_1, gl_2, gl_3, gl_4, gl_5, gl_6, gl_7, gl_8, gl_9, gl_10, gl_11, gl_12, gl_13, gl_14, gl_15, gl_16, gl_17, gl_18, gl_19, gl_20, gl_21, gl_22, gl_23, gl_24, gl_25, gl_26, gl_27, gl_28, gl_29, gl_30, gl_31, gl_32, gl_44, gl_48, gl_49, gl_57, gl_59, gl_60, gl_63, gl_70, gl_98, gl_99, gl_100, gl_101, gl_107, gl_109, gl_110, gl_111, gl_116, gl_120, gl_126, gl_155, gl_411, gl_999, gl_1000, gl_1233, gl_1644, gl_100000, gl_m1, nI_eq, nI_leI, nI_ltI, nI_add, nI_clamp, pk_mul, pk_sub, z_in, z_gt, z_bs, z_us, z_un, if_pos, if_neg, if_true, if_false, and_true, true_and, and_self, not_true_eq_false, not_false_eq_true, C_madeOver, h]
theorem C_shorten {d q : Nat} {qk qv qr : Nat → Int32} (hd : d ≤ q) (hq : q ≤ 8) : ∃ qk' qv' qr', fX1_shorten (nI d) (nI q) qk qv qr = some (nI (q - d), qk', qv', qr') ∧ ∀ j, j < q - d → qk' j = qk (d + j) ∧ qv' j = qv (d + j) ∧ qr' j = qr (d + j) := by
  unfold fX1_shorten
  have e : (if (0 : Int32) < nI q - nI d then nI q - nI d else (0 : Int32)) = nI (q - d) := by
    rw [pk_sub hd, gl_0]
    rcases Nat.eq_zero_or_pos (q - d) with h | h
    · rw [h, if_neg (by rw [nI_ltI (by omega) (by omega)]; omega)]
    · rw [if_pos (by rw [nI_ltI (by omega) (by omega)]; omega)]
  rw [e, gl_0]
  refine z_loop (fun n i (s : (Nat → Int32) × (Nat → Int32) × (Nat → Int32)) => fX1_shorten_b13 n (nI d) (nI (q - d)) (nI i) (nI q) s.1 s.2.1 s.2.2) (q - d) (fun i s => (∀ j, j < i → s.1 j = qk (d + j) ∧ s.2.1 j = qv (d + j) ∧ s.2.2 j = qr (d + j)) ∧ ∀ j, i ≤ j → s.1 j = qk j ∧ s.2.1 j = qv j ∧ s.2.2 j = qr j) (fun o => ∃ qk' qv' qr', o = some (nI (q - d), qk', qv', qr') ∧ ∀ j, j < q - d → qk' j = qk (d + j) ∧ qv' j = qv (d + j) ∧ qr' j = qr (d + j)) ?_ ?_ 2000 0 (qk, qv, qr) (by omega) (by omega) ⟨fun j h => absurd h (by omega), fun j _ => ⟨rfl, rfl, rfl⟩⟩
  · rintro n i ⟨a, b, c⟩ hi ⟨h1, h2⟩
    obtain ⟨x1, x2, x3⟩ := h2 (i + d) (by omega)
    dsimp only at x1 x2 x3
    refine ⟨(upd a i (qk (i + d)), upd b i (qv (i + d)), upd c i (qr (i + d))), ⟨fun j hj => ?_, fun j hj => ?_⟩, ?_⟩
    · dsimp only
      by_cases hji : j = i
      · subst hji; rw [z_us, z_us, z_us, Nat.add_comm]; exact ⟨rfl, rfl, rfl⟩
      · rw [z_un hji, z_un hji, z_un hji]; exact h1 j (by omega)
    · dsimp only
      rw [z_un (by omega), z_un (by omega), z_un (by omega)]
      exact h2 j (by omega)
    · dsimp only
      rw [fX1_shorten_b13]
      simp (disch := omega) only [gl_0, gl_1, gl_2, gl_3, gl_4, gl_5, gl_6, gl_7, gl_8, gl_9, gl_10, gl_11, gl_12, gl_13, gl_14, gl_15, gl_16, gl_17, gl_18, gl_19, gl_20, gl_21, gl_22, gl_23, gl_24, gl_25, gl_26, gl_27, gl_28, gl_29, gl_30, gl_31, gl_32, gl_44, gl_48, gl_49, gl_57, gl_59, gl_60, gl_63, gl_70, gl_98, gl_99, gl_100, gl_101, gl_107, gl_109, gl_110, gl_111, gl_116, gl_120, gl_126, gl_155, gl_411, gl_999, gl_1000, gl_1233, gl_1644, gl_100000, gl_m1, nI_eq, nI_leI, nI_ltI, nI_add, nI_clamp, pk_mul, pk_sub, z_in, z_gt, z_bs, z_us, z_un, if_pos, if_neg, if_true, if_false, and_true, true_and, and_self, not_true_eq_false, not_false_eq_true, x1, x2, x3]
  · rintro n ⟨a, b, c⟩ ⟨h1, h2⟩
    refine ⟨a, b, c, ?_, h1⟩
    dsimp only
    rw [fX1_shorten_b13]
    simp (disch := omega) only [gl_0, gl_1, gl_2, gl_3, gl_4, gl_5, gl_6, gl_7, gl_8, gl_9, gl_10, gl_11, gl_12, gl_13, gl_14, gl_15, gl_16, gl_17, gl_18, gl_19, gl_20, gl_21, gl_22, gl_23, gl_24, gl_25, gl_26, gl_27, gl_28, gl_29, gl_30, gl_31, gl_32, gl_44, gl_48, gl_49, gl_57, gl_59, gl_60, gl_63, gl_70, gl_98, gl_99, gl_100, gl_101, gl_107, gl_109, gl_110, gl_111, gl_116, gl_120, gl_126, gl_155, gl_411, gl_999, gl_1000, gl_1233, gl_1644, gl_100000, gl_m1, nI_eq, nI_leI, nI_ltI, nI_add, nI_clamp, pk_mul, pk_sub, z_in, z_gt, z_bs, z_us, z_un, if_pos, if_neg, if_true, if_false, and_true, true_and, and_self, not_true_eq_false, not_false_eq_true]

section MD12
variable {ss was beg asi : Nat → Int32} {sta : Int32} {txt : Nat → Int32} {typ att rea : Int32} {got row oth : Nat → Int32}
variable {p l x : Nat} {lo : Int32} {ov orr nv nr : Nat → Int32} {q : Nat} {qk qv qr wr : Nat → Int32} {wa : Int32} {wc wk : Nat → Int32}
theorem C_dr1 {ph la po : Int32} {d : Nat} (hd : d ≤ q) (hq : q ≤ 8) (hk : ∀ i, i < q → ∃ k, k < 31 ∧ qk i = nI k) : ∃ qk' qv' qr', fX4_drainQueue_b51_1 2000 (nI d) (nI 0) ph la po lo ov orr nv nr (nI q) qk qv qr wr wa wc wk = some (nI (q - d), ph, la, po, lo, ov, orr, (zdr 1 qk qv qr d (nv, nr)).1, (zdr 1 qk qv qr d (nv, nr)).2, nI (q - d), qk', qv', qr', wr, wa, wc, wk) ∧ ∀ j, j < q - d → qk' j = qk (d + j) ∧ qv' j = qv (d + j) ∧ qr' j = qr (d + j) := by
  refine z_loop (fun n i (s : (Nat → Int32) × (Nat → Int32)) => fX4_drainQueue_b51_1 n (nI d) (nI i) ph la po lo ov orr s.1 s.2 (nI q) qk qv qr wr wa wc wk) d (fun i s => s = zdr 1 qk qv qr i (nv, nr)) (fun o => ∃ qk' qv' qr', o = some (nI (q - d), ph, la, po, lo, ov, orr, (zdr 1 qk qv qr d (nv, nr)).1, (zdr 1 qk qv qr d (nv, nr)).2, nI (q - d), qk', qv', qr', wr, wa, wc, wk) ∧ ∀ j, j < q - d → qk' j = qk (d + j) ∧ qv' j = qv (d + j) ∧ qr' j = qr (d + j)) ?_ ?_ 2000 0 (nv, nr) (by omega) (by omega) rfl
  · rintro n i s hi rfl
    obtain ⟨k, hk1, hk2⟩ := hk i (by omega)
    refine ⟨_, rfl, ?_⟩
    rw [fX4_drainQueue_b51_1]
    simp (disch := omega) only [gl_0, gl_1, gl_2, gl_3, gl_4, gl_5, gl_6, gl_7, gl_8, gl_9, gl_10, gl_11, gl_12, gl_13, gl_14, gl_15, gl_16, gl_17, gl_18, gl_19, gl_20, gl_21, gl_22, gl_23, gl_24, gl_25, gl_26, gl_27, gl_28, gl_29, gl_30, gl_31, gl_32, gl_44, gl_48, gl_49, gl_57, gl_59, gl_60, gl_63, gl_70, gl_98, gl_99, gl_100, gl_101, gl_107, gl_109, gl_110, gl_111, gl_116, gl_120, gl_126, gl_155, gl_411, gl_999, gl_1000, gl_1233, gl_1644, gl_100000, gl_m1, nI_eq, nI_leI, nI_ltI, nI_add, nI_clamp, pk_mul, pk_sub, z_in, z_gt, z_bs, z_us, z_un, if_pos, if_neg, if_true, if_false, and_true, true_and, and_self, not_true_eq_false, not_false_eq_true, hk2, gl_1]
    have e := C_take2 (ver := (zdr 1 qk qv qr i (nv, nr)).1) (row := (zdr 1 qk qv qr i (nv, nr)).2) (sh := 1) (v := qv i) (r := qr i) hk1
    rw [e, z_bs, zdr, hk2]
  · rintro n s rfl
    obtain ⟨qk', qv', qr', e, h⟩ := C_shorten (qk := qk) (qv := qv) (qr := qr) hd hq
    refine ⟨qk', qv', qr', ?_, h⟩
    rw [fX4_drainQueue_b51_1]
    simp (disch := omega) only [gl_0, gl_1, gl_2, gl_3, gl_4, gl_5, gl_6, gl_7, gl_8, gl_9, gl_10, gl_11, gl_12, gl_13, gl_14, gl_15, gl_16, gl_17, gl_18, gl_19, gl_20, gl_21, gl_22, gl_23, gl_24, gl_25, gl_26, gl_27, gl_28, gl_29, gl_30, gl_31, gl_32, gl_44, gl_48, gl_49, gl_57, gl_59, gl_60, gl_63, gl_70, gl_98, gl_99, gl_100, gl_101, gl_107, gl_109, gl_110, gl_111, gl_116, gl_120, gl_126, gl_155, gl_411, gl_999, gl_1000, gl_1233, gl_1644, gl_100000, gl_m1, nI_eq, nI_leI, nI_ltI, nI_add, nI_clamp, pk_mul, pk_sub, z_in, z_gt, z_bs, z_us, z_un, if_pos, if_neg, if_true, if_false, and_true, true_and, and_self, not_true_eq_false, not_false_eq_true, e]
theorem C_dr0 {ph la po : Int32} {d : Nat} (hd : d ≤ q) (hq : q ≤ 8) (hk : ∀ i, i < q → ∃ k, k < 31 ∧ qk i = nI k) : ∃ qk' qv' qr', fX4_drainQueue_b51 2000 (nI d) (nI 0) ph la po lo ov orr nv nr (nI q) qk qv qr wr wa wc wk = some (nI (q - d), ph, la, po, lo, (zdr 0 qk qv qr d (ov, orr)).1, (zdr 0 qk qv qr d (ov, orr)).2, nv, nr, nI (q - d), qk', qv', qr', wr, wa, wc, wk) ∧ ∀ j, j < q - d → qk' j = qk (d + j) ∧ qv' j = qv (d + j) ∧ qr' j = qr (d + j) := by
  refine z_loop (fun n i (s : (Nat → Int32) × (Nat → Int32)) => fX4_drainQueue_b51 n (nI d) (nI i) ph la po lo s.1 s.2 nv nr (nI q) qk qv qr wr wa wc wk) d (fun i s => s = zdr 0 qk qv qr i (ov, orr)) (fun o => ∃ qk' qv' qr', o = some (nI (q - d), ph, la, po, lo, (zdr 0 qk qv qr d (ov, orr)).1, (zdr 0 qk qv qr d (ov, orr)).2, nv, nr, nI (q - d), qk', qv', qr', wr, wa, wc, wk) ∧ ∀ j, j < q - d → qk' j = qk (d + j) ∧ qv' j = qv (d + j) ∧ qr' j = qr (d + j)) ?_ ?_ 2000 0 (ov, orr) (by omega) (by omega) rfl
  · rintro n i s hi rfl
    obtain ⟨k, hk1, hk2⟩ := hk i (by omega)
    refine ⟨_, rfl, ?_⟩
    rw [fX4_drainQueue_b51]
    simp (disch := omega) only [gl_0, gl_1, gl_2, gl_3, gl_4, gl_5, gl_6, gl_7, gl_8, gl_9, gl_10, gl_11, gl_12, gl_13, gl_14, gl_15, gl_16, gl_17, gl_18, gl_19, gl_20, gl_21, gl_22, gl_23, gl_24, gl_25, gl_26, gl_27, gl_28, gl_29, gl_30, gl_31, gl_32, gl_44, gl_48, gl_49, gl_57, gl_59, gl_60, gl_63, gl_70, gl_98, gl_99, gl_100, gl_101, gl_107, gl_109, gl_110, gl_111, gl_116, gl_120, gl_126, gl_155, gl_411, gl_999, gl_1000, gl_1233, gl_1644, gl_100000, gl_m1, nI_eq, nI_leI, nI_ltI, nI_add, nI_clamp, pk_mul, pk_sub, z_in, z_gt, z_bs, z_us, z_un, if_pos, if_neg, if_true, if_false, and_true, true_and, and_self, not_true_eq_false, not_false_eq_true, hk2, gl_0]
    have e := C_take2 (ver := (zdr 0 qk qv qr i (ov, orr)).1) (row := (zdr 0 qk qv qr i (ov, orr)).2) (sh := 0) (v := qv i) (r := qr i) hk1
    rw [e, z_bs, zdr, hk2]
  · rintro n s rfl
    obtain ⟨qk', qv', qr', e, h⟩ := C_shorten (qk := qk) (qv := qv) (qr := qr) hd hq
    refine ⟨qk', qv', qr', ?_, h⟩
    rw [fX4_drainQueue_b51]
    simp (disch := omega) only [gl_0, gl_1, gl_2, gl_3, gl_4, gl_5, gl_6, gl_7, gl_8, gl_9, gl_10, gl_11, gl_12, gl_13, gl_14, gl_15, gl_16, gl_17, gl_18, gl_19, gl_20, gl_21, gl_22, gl_23, gl_24, gl_25, gl_26, gl_27, gl_28, gl_29, gl_30, gl_31, gl_32, gl_44, gl_48, gl_49, gl_57, gl_59, gl_60, gl_63, gl_70, gl_98, gl_99, gl_100, gl_101, gl_107, gl_109, gl_110, gl_111, gl_116, gl_120, gl_126, gl_155, gl_411, gl_999, gl_1000, gl_1233, gl_1644, gl_100000, gl_m1, nI_eq, nI_leI, nI_ltI, nI_add, nI_clamp, pk_mul, pk_sub, z_in, z_gt, z_bs, z_us, z_un, if_pos, if_neg, if_true, if_false, and_true, true_and, and_self, not_true_eq_false, not_false_eq_true, e]
end MD12

theorem zI_and (a b : Nat) : nI a &&& nI b = nI (a &&& b) := Int32.toBitVec_inj.1 (BitVec.ofNat_and).symm
theorem zI_or (a b : Nat) : nI a ||| nI b = nI (a ||| b) := Int32.toBitVec_inj.1 (BitVec.ofNat_or).symm
theorem zI_shl {k : Nat} (h : k < 32) : nI 1 <<< (nI k &&& 31) = nI (2 ^ k) := (show ∀ k, k < 32 → nI 1 <<< (nI k &&& 31) = nI (2 ^ k) by decide +kernel) k h
def zbn (P : Nat → Bool) : Nat → Nat
  | 0 => 0
  | n + 1 => if P n = true then zbn P n ||| 2 ^ n else zbn P n
theorem zbn_bits (P : Nat → Bool) : ∀ n, n ≤ 32 → z_bits P n = nI (zbn P n)
  | 0, _ => rfl
  | n + 1, h => by
    rw [z_bits_succ, zbn_bits P n (by omega), zbn, zI_shl (by omega)]
    by_cases hP : P n = true
    · rw [if_pos hP, if_pos hP, zI_or]
    · rw [if_neg hP, if_neg hP]
theorem zbn_lt (P : Nat → Bool) : ∀ n, zbn P n < 2 ^ n
  | 0 => Nat.one_pos
  | n + 1 => by
    have h := zbn_lt P n
    rw [zbn]
    have h2 : 2 ^ n < 2 ^ (n + 1) := Nat.pow_lt_pow_right (by omega) (by omega)
    split
    · exact Nat.or_lt_two_pow (by omega) h2
    · omega
theorem zbn_test (P : Nat → Bool) (k : Nat) : ∀ n, (zbn P n).testBit k = (decide (k < n) && P k)
  | 0 => by rw [zbn, Nat.zero_testBit]; rfl
  | n + 1 => by
    rw [zbn]
    by_cases hP : P n = true
    · rw [if_pos hP, Nat.testBit_or, zbn_test P k n, Nat.testBit_two_pow]
      by_cases hk : n = k
      · subst hk; simp [hP]
      · have : (decide (k < n + 1)) = decide (k < n) := decide_eq_decide.2 (by omega)
        rw [this]; simp [hk]
    · rw [if_neg hP, zbn_test P k n]
      by_cases hk : n = k
      · subst hk
        have hf : P n = false := by simpa using hP
        simp [hf]
      · have : (decide (k < n + 1)) = decide (k < n) := decide_eq_decide.2 (by omega)
        rw [this]
theorem zI_bit {a k : Nat} (ha : a < 2 ^ 31) (hk : k < 31) : (nI a &&& (nI 1 <<< (nI k &&& 31)) = nI 0) ↔ a.testBit k = false := by
  have hl : a &&& 2 ^ k ≤ a := Nat.and_le_left
  rw [zI_shl (by omega), zI_and, nI_eq (by omega) (by omega)]
  have hb : (a &&& 2 ^ k).testBit k = a.testBit k := by
    rw [Nat.testBit_and, Nat.testBit_two_pow]; simp
  constructor
  · intro h
    rw [h, Nat.zero_testBit] at hb
    exact hb.symm
  · intro h
    refine Nat.eq_of_testBit_eq fun i => ?_
    rw [Nat.testBit_and, Nat.testBit_two_pow, Nat.zero_testBit]
    by_cases hi : k = i
    · subst hi; rw [h]; rfl
    · rw [decide_eq_false hi, Bool.and_false]
theorem z_bitAt {P : Nat → Bool} {k : Nat} (hk : k < 31) : (z_bits P 31 &&& (nI 1 <<< (nI k &&& 31)) = nI 0) ↔ P k = false := by
  rw [zbn_bits P 31 (by omega), zI_bit (zbn_lt P 31) hk, zbn_test, decide_eq_true hk, Bool.true_and]
def zfi (ov orr : Nat → Int32) (x : Nat) : Nat → Nat × (Nat → Int32) × (Nat → Int32) → Nat × (Nat → Int32) × (Nat → Int32)
  | 0, s => s
  | i + 1, s => if ov (x + i) ≤ (zfi ov orr x i s).2.1 (x + i) then zfi ov orr x i s else ((zfi ov orr x i s).1 + 1, upd (zfi ov orr x i s).2.1 (x + i) (ov (x + i)), upd (zfi ov orr x i s).2.2 (x + i) (mo (orr (x + i)) (nI 1)))
theorem zfi_le (ov orr : Nat → Int32) (x : Nat) (s : Nat × (Nat → Int32) × (Nat → Int32)) : ∀ i, (zfi ov orr x i s).1 ≤ s.1 + i
  | 0 => Nat.le_refl _
  | i + 1 => by
    have := zfi_le ov orr x s i
    rw [zfi]
    split
    · omega
    · dsimp only; omega
theorem C_takeFrom {a b c d : Nat → Int32} {k sh n : Nat} {nu : Int32} (hk : k < 31) (h : ¬ c k < a k) : fX3_takeFrom (nI k) (nI sh) nu a b c d = some (upd a k (c k), upd b k (mo (d k) (nI sh))) := by
  unfold fX3_takeFrom
  have e := C_take2 (ver := a) (row := b) (sh := sh) (v := c k) (r := d k) hk
  simp (disch := omega) only [gl_0, gl_1, gl_2, gl_3, gl_4, gl_5, gl_6, gl_7, gl_8, gl_9, gl_10, gl_11, gl_12, gl_13, gl_14, gl_15, gl_16, gl_17, gl_18, gl_19, gl_20, gl_21, gl_22, gl_23, gl_24, gl_25, gl_26, gl_27, gl_28, gl_29, gl_30, gl_31, gl_32, gl_44, gl_48, gl_49, gl_57, gl_59, gl_60, gl_63, gl_70, gl_98, gl_99, gl_100, gl_101, gl_107, gl_109, gl_110, gl_111, gl_116, gl_120, gl_126, gl_155, gl_411, gl_999, gl_1000, gl_1233, gl_1644, gl_100000, gl_m1, nI_eq, nI_leI, nI_ltI, nI_add, nI_clamp, pk_mul, pk_sub, z_in, z_gt, z_bs, z_us, z_un, if_pos, if_neg, if_true, if_false, and_true, true_and, and_self, not_true_eq_false, not_false_eq_true, e, zta, h]
section MD13
variable {ss was beg asi : Nat → Int32} {sta : Int32} {txt : Nat → Int32} {typ att rea : Int32} {got row oth : Nat → Int32}
variable {p l x : Nat} {lo : Int32} {ov orr nv nr : Nat → Int32} {q : Nat} {qk qv qr wr : Nat → Int32} {wa : Int32} {wc wk : Nat → Int32}
theorem C_fi {d : Nat} {la : Int32} (h : x + d ≤ 31) : fX4_fillKeys_b54 2000 (nI 0) (nI (x + d)) (nI x) (nI 1) la (nI x) lo ov orr nv nr (nI q) qk qv qr wr wa wc wk = some (nI (zfi ov orr x d (0, nv, nr)).1, nI 1, la, nI (x + d), lo, ov, orr, (zfi ov orr x d (0, nv, nr)).2.1, (zfi ov orr x d (0, nv, nr)).2.2, nI q, qk, qv, qr, wr, wa, wc, wk) := by
  refine z_loop (fun n i (s : Nat × (Nat → Int32) × (Nat → Int32)) => fX4_fillKeys_b54 n (nI s.1) (nI (x + d)) (nI i) (nI 1) la (nI x) lo ov orr s.2.1 s.2.2 (nI q) qk qv qr wr wa wc wk) (x + d) (fun i s => x ≤ i ∧ s = zfi ov orr x (i - x) (0, nv, nr)) (fun o => o = some (nI (zfi ov orr x d (0, nv, nr)).1, nI 1, la, nI (x + d), lo, ov, orr, (zfi ov orr x d (0, nv, nr)).2.1, (zfi ov orr x d (0, nv, nr)).2.2, nI q, qk, qv, qr, wr, wa, wc, wk)) ?_ ?_ 2000 x (0, nv, nr) (by omega) (by omega) ⟨by omega, by rw [Nat.sub_self]; rfl⟩
  · rintro n i s hi ⟨hx, hs⟩
    refine ⟨_, ⟨by omega, rfl⟩, ?_⟩
    rw [show i + 1 - x = (i - x) + 1 by omega, zfi, ← hs, show x + (i - x) = i by omega]
    have hb := zfi_le ov orr x (0, nv, nr) (i - x)
    rw [← hs] at hb
    dsimp only at hb
    rw [fX4_fillKeys_b54]
    by_cases hv : ov i ≤ s.2.1 i
    · simp (disch := omega) only [gl_0, gl_1, gl_2, gl_3, gl_4, gl_5, gl_6, gl_7, gl_8, gl_9, gl_10, gl_11, gl_12, gl_13, gl_14, gl_15, gl_16, gl_17, gl_18, gl_19, gl_20, gl_21, gl_22, gl_23, gl_24, gl_25, gl_26, gl_27, gl_28, gl_29, gl_30, gl_31, gl_32, gl_44, gl_48, gl_49, gl_57, gl_59, gl_60, gl_63, gl_70, gl_98, gl_99, gl_100, gl_101, gl_107, gl_109, gl_110, gl_111, gl_116, gl_120, gl_126, gl_155, gl_411, gl_999, gl_1000, gl_1233, gl_1644, gl_100000, gl_m1, nI_eq, nI_leI, nI_ltI, nI_add, nI_clamp, pk_mul, pk_sub, z_in, z_gt, z_bs, z_us, z_un, if_pos, if_neg, if_true, if_false, and_true, true_and, and_self, not_true_eq_false, not_false_eq_true, hv]
    · have e := C_takeFrom (a := s.2.1) (b := s.2.2) (c := ov) (d := orr) (k := i) (sh := 1) (n := 0) (nu := nI 0) (by omega) (fun h => hv (Int32.le_of_lt h))
      simp (disch := omega) only [gl_0, gl_1, gl_2, gl_3, gl_4, gl_5, gl_6, gl_7, gl_8, gl_9, gl_10, gl_11, gl_12, gl_13, gl_14, gl_15, gl_16, gl_17, gl_18, gl_19, gl_20, gl_21, gl_22, gl_23, gl_24, gl_25, gl_26, gl_27, gl_28, gl_29, gl_30, gl_31, gl_32, gl_44, gl_48, gl_49, gl_57, gl_59, gl_60, gl_63, gl_70, gl_98, gl_99, gl_100, gl_101, gl_107, gl_109, gl_110, gl_111, gl_116, gl_120, gl_126, gl_155, gl_411, gl_999, gl_1000, gl_1233, gl_1644, gl_100000, gl_m1, nI_eq, nI_leI, nI_ltI, nI_add, nI_clamp, pk_mul, pk_sub, z_in, z_gt, z_bs, z_us, z_un, if_pos, if_neg, if_true, if_false, and_true, true_and, and_self, not_true_eq_false, not_false_eq_true, hv, e]
  · rintro n s ⟨hx, hs⟩
    rw [show x + d - x = d by omega] at hs
    subst hs
    rw [fX4_fillKeys_b54]
    simp (disch := omega) only [gl_0, gl_1, gl_2, gl_3, gl_4, gl_5, gl_6, gl_7, gl_8, gl_9, gl_10, gl_11, gl_12, gl_13, gl_14, gl_15, gl_16, gl_17, gl_18, gl_19, gl_20, gl_21, gl_22, gl_23, gl_24, gl_25, gl_26, gl_27, gl_28, gl_29, gl_30, gl_31, gl_32, gl_44, gl_48, gl_49, gl_57, gl_59, gl_60, gl_63, gl_70, gl_98, gl_99, gl_100, gl_101, gl_107, gl_109, gl_110, gl_111, gl_116, gl_120, gl_126, gl_155, gl_411, gl_999, gl_1000, gl_1233, gl_1644, gl_100000, gl_m1, nI_eq, nI_leI, nI_ltI, nI_add, nI_clamp, pk_mul, pk_sub, z_in, z_gt, z_bs, z_us, z_un, if_pos, if_neg, if_true, if_false, and_true, true_and, and_self, not_true_eq_false, not_false_eq_true]
end MD13

theorem zerr_le {r : Int32} (h : zerr r) : r ≤ -1000001 := by
  rcases h with rfl | rfl | rfl | rfl <;> decide
theorem zerr_lt {r : Int32} (h : zerr r) : r < 0 := by
  rcases h with rfl | rfl | rfl | rfl <;> decide
theorem zans_gt {r : Int32} (h : zans r) : ¬ r ≤ -1000001 := by
  obtain ⟨n, hn, rfl⟩ := h
  rw [Int32.le_iff_toInt_le, nI_toInt (by omega), show (-1000001 : Int32).toInt = -1000001 by decide]
  omega
theorem zans_ge {r : Int32} (h : zans r) : ¬ r < 0 := by
  obtain ⟨n, hn, rfl⟩ := h
  exact nI_pos (by omega)

def zs (n : Nat) : Nat → Nat
  | 0 => 0
  | k + 1 => zs n k + n / 2 ^ k % 2
theorem zs_le (n : Nat) : ∀ k, zs n k ≤ k
  | 0 => Nat.le_refl 0
  | k + 1 => by
    have := zs_le n k
    unfold zs
    omega
theorem zs_8 {a b : Nat} (ha : a < 256) : zs (256 * b + a) 8 = zs a 8 := by
  simp only [zs, Nat.reducePow]
  omega
theorem zs_split {a b : Nat} (ha : a < 256) : ∀ k, zs (256 * b + a) (8 + k) = zs a 8 + zs b k
  | 0 => by rw [Nat.add_zero, zs_8 ha]; rfl
  | k + 1 => by
    have e : (256 * b + a) / 2 ^ (8 + k) = b / 2 ^ k := by
      rw [Nat.pow_add, ← Nat.div_div_eq_div_mul]
      congr 1
      omega
    have h := zs_split (b := b) ha k
    show zs (256 * b + a) (8 + k) + (256 * b + a) / 2 ^ (8 + k) % 2 = zs a 8 + (zs b k + b / 2 ^ k % 2)
    rw [h, e, Nat.add_assoc]
theorem zand8 {a b c d : Nat} (ha : a < 256) (hc : c < 256) : (256 * b + a) &&& (256 * d + c) = 256 * (b &&& d) + (a &&& c) := by
  have h1 : a &&& c < 2 ^ 8 := Nat.lt_of_le_of_lt Nat.and_le_left ha
  refine Nat.eq_of_testBit_eq fun j => ?_
  rw [Nat.testBit_and, show 256 = 2 ^ 8 from rfl, Nat.testBit_two_pow_mul_add _ ha, Nat.testBit_two_pow_mul_add _ hc, Nat.testBit_two_pow_mul_add _ h1]
  by_cases hj : j < 8
  · rw [if_pos hj, if_pos hj, if_pos hj, Nat.testBit_and]
  · rw [if_neg hj, if_neg hj, if_neg hj, Nat.testBit_and]
theorem zand32 {a b c d m : Nat} (ha : a < 256) (hb : b < 256) (hc : c < 256) (hd : d < 256) (hm : m < 256) : (256 * (256 * (256 * d + c) + b) + a) &&& (256 * (256 * (256 * m + m) + m) + m) = 256 * (256 * (256 * (d &&& m) + (c &&& m)) + (b &&& m)) + (a &&& m) := by
  rw [zand8 ha hm, zand8 hb hm, zand8 hc hm]
def zy (x : Nat) : Nat := x - ((x / 2) &&& 85)
def zz (x : Nat) : Nat := (zy x &&& 51) + ((zy x / 4) &&& 51)
theorem zp1 : ∀ x, x < 256 → ∀ b, b < 2 → (x / 2 + 128 * b) &&& 85 = (x / 2) &&& 85 := by decide +kernel
theorem zp2 : ∀ x, x < 256 → (x / 2) &&& 85 ≤ x := by decide +kernel
theorem zp3 : ∀ x, x < 256 → ∀ b, b < 4 → (x / 4 + 64 * b) &&& 51 = (x / 4) &&& 51 := by decide +kernel
theorem zp4 : ∀ x, x < 256 → zz x % 16 ≤ 4 ∧ zz x / 16 ≤ 4 ∧ zz x % 16 + zz x / 16 = zs x 8 := by decide +kernel
theorem zfold {a b c d : Nat} (ha : a ≤ 8) (hb : b ≤ 8) (hc : c ≤ 8) (hd : d ≤ 8) : (256 * (256 * (256 * d + c) + b) + a + (256 * (256 * (256 * d + c) + b) + a) / 256 + (256 * (256 * (256 * d + c) + b) + a + (256 * (256 * (256 * d + c) + b) + a) / 256) / 65536) % 64 = a + b + c + d := by
  rw [show (256 * (256 * (256 * d + c) + b) + a) / 256 = 256 * (256 * d + c) + b by omega, show (256 * (256 * (256 * d + c) + b) + a + (256 * (256 * d + c) + b)) / 65536 = 256 * d + (c + d) by omega]
  omega
def zpop (n : Nat) : Nat :=
  let y := n - ((n / 2) &&& 1431655765)
  let z := (y &&& 858993459) + ((y / 4) &&& 858993459)
  let w := (z + z / 16) &&& 252645135
  let v := w + w / 256
  (v + v / 65536) &&& 63
theorem zpop_bytes {a b c d : Nat} (ha : a < 256) (hb : b < 256) (hc : c < 256) (hd : d < 256) : zpop (256 * (256 * (256 * d + c) + b) + a) = zs a 8 + zs b 8 + zs c 8 + zs d 8 := by
  have h1 : (256 * (256 * (256 * d + c) + b) + a) / 2 &&& 1431655765 = 256 * (256 * (256 * ((d / 2) &&& 85) + ((c / 2) &&& 85)) + ((b / 2) &&& 85)) + ((a / 2) &&& 85) := by
    rw [show (256 * (256 * (256 * d + c) + b) + a) / 2 = 256 * (256 * (256 * (d / 2 + 128 * 0) + (c / 2 + 128 * (d % 2))) + (b / 2 + 128 * (c % 2))) + (a / 2 + 128 * (b % 2)) by omega, show 1431655765 = 256 * (256 * (256 * 85 + 85) + 85) + 85 from rfl, zand32 (by omega) (by omega) (by omega) (by omega) (by omega), zp1 a ha _ (by omega), zp1 b hb _ (by omega), zp1 c hc _ (by omega), zp1 d hd _ (by omega)]
  have l1 := zp2 a ha
  have l2 := zp2 b hb
  have l3 := zp2 c hc
  have l4 := zp2 d hd
  have h2 : 256 * (256 * (256 * d + c) + b) + a - ((256 * (256 * (256 * d + c) + b) + a) / 2 &&& 1431655765) = 256 * (256 * (256 * zy d + zy c) + zy b) + zy a := by
    rw [h1]
    unfold zy
    omega
  have y1 : zy a < 256 := by unfold zy; omega
  have y2 : zy b < 256 := by unfold zy; omega
  have y3 : zy c < 256 := by unfold zy; omega
  have y4 : zy d < 256 := by unfold zy; omega
  have h3 : (256 * (256 * (256 * zy d + zy c) + zy b) + zy a) &&& 858993459 = 256 * (256 * (256 * (zy d &&& 51) + (zy c &&& 51)) + (zy b &&& 51)) + (zy a &&& 51) := by
    rw [show 858993459 = 256 * (256 * (256 * 51 + 51) + 51) + 51 from rfl, zand32 y1 y2 y3 y4 (by omega)]
  have h4 : (256 * (256 * (256 * zy d + zy c) + zy b) + zy a) / 4 &&& 858993459 = 256 * (256 * (256 * ((zy d / 4) &&& 51) + ((zy c / 4) &&& 51)) + ((zy b / 4) &&& 51)) + ((zy a / 4) &&& 51) := by
    rw [show (256 * (256 * (256 * zy d + zy c) + zy b) + zy a) / 4 = 256 * (256 * (256 * (zy d / 4 + 64 * 0) + (zy c / 4 + 64 * (zy d % 4))) + (zy b / 4 + 64 * (zy c % 4))) + (zy a / 4 + 64 * (zy b % 4)) by omega, show 858993459 = 256 * (256 * (256 * 51 + 51) + 51) + 51 from rfl, zand32 (by omega) (by omega) (by omega) (by omega) (by omega), zp3 _ y1 _ (by omega), zp3 _ y2 _ (by omega), zp3 _ y3 _ (by omega), zp3 _ y4 _ (by omega)]
  have h5 : (256 * (256 * (256 * (zy d &&& 51) + (zy c &&& 51)) + (zy b &&& 51)) + (zy a &&& 51)) + (256 * (256 * (256 * ((zy d / 4) &&& 51) + ((zy c / 4) &&& 51)) + ((zy b / 4) &&& 51)) + ((zy a / 4) &&& 51)) = 256 * (256 * (256 * zz d + zz c) + zz b) + zz a := by
    unfold zz
    omega
  obtain ⟨a1, a2, a3⟩ := zp4 a ha
  obtain ⟨b1, b2, b3⟩ := zp4 b hb
  obtain ⟨c1, c2, c3⟩ := zp4 c hc
  obtain ⟨d1, d2, d3⟩ := zp4 d hd
  have m16 : ∀ v : Nat, v &&& 15 = v % 16 := fun v => Nat.and_two_pow_sub_one_eq_mod v 4
  have f16 : ∀ v c : Nat, v % 16 ≤ 4 → v / 16 ≤ 4 → (v + v / 16 + 16 * c) % 16 = v % 16 + v / 16 := fun v c h1 h2 => by omega
  have f160 : ∀ v : Nat, v % 16 ≤ 4 → v / 16 ≤ 4 → (v + v / 16) % 16 = v % 16 + v / 16 := fun v h1 h2 => by omega
  have h6 : (256 * (256 * (256 * zz d + zz c) + zz b) + zz a + (256 * (256 * (256 * zz d + zz c) + zz b) + zz a) / 16) &&& 252645135 = 256 * (256 * (256 * (zz d % 16 + zz d / 16) + (zz c % 16 + zz c / 16)) + (zz b % 16 + zz b / 16)) + (zz a % 16 + zz a / 16) := by
    rw [show 256 * (256 * (256 * zz d + zz c) + zz b) + zz a + (256 * (256 * (256 * zz d + zz c) + zz b) + zz a) / 16 = 256 * (256 * (256 * (zz d + zz d / 16) + (zz c + zz c / 16 + 16 * (zz d % 16))) + (zz b + zz b / 16 + 16 * (zz c % 16))) + (zz a + zz a / 16 + 16 * (zz b % 16)) by omega, show 252645135 = 256 * (256 * (256 * 15 + 15) + 15) + 15 from rfl, zand32 (by omega) (by omega) (by omega) (by omega) (by omega), m16, m16, m16, m16, f16 _ _ a1 a2, f16 _ _ b1 b2, f16 _ _ c1 c2, f160 _ d1 d2]
  have m64 : ∀ v : Nat, v &&& 63 = v % 64 := fun v => Nat.and_two_pow_sub_one_eq_mod v 6
  unfold zpop
  simp only [h2, h3, h4, h5, h6, m64]
  rw [a3, b3, c3, d3]
  exact zfold (zs_le a 8) (zs_le b 8) (zs_le c 8) (zs_le d 8)
theorem zpop_eq {n : Nat} (h : n < 2 ^ 32) : zpop n = zs n 32 := by
  have e : n = 256 * (256 * (256 * (n / 16777216) + n / 65536 % 256) + n / 256 % 256) + n % 256 := by omega
  have h1 := zpop_bytes (a := n % 256) (b := n / 256 % 256) (c := n / 65536 % 256) (d := n / 16777216) (by omega) (by omega) (by omega) (by omega)
  rw [← e] at h1
  rw [h1]
  have e2 := zs_split (a := n % 256) (b := 256 * (256 * (n / 16777216) + n / 65536 % 256) + n / 256 % 256) (by omega) 24
  rw [← e] at e2
  have e3 := zs_split (a := n / 256 % 256) (b := 256 * (n / 16777216) + n / 65536 % 256) (by omega) 16
  have e4 := zs_split (a := n / 65536 % 256) (b := n / 16777216) (by omega) 8
  rw [e2, e3, e4]
  omega
theorem zs_31 {n : Nat} (h : n < 2 ^ 31) : zs n 32 = zs n 31 := by
  rw [zs, Nat.div_eq_of_lt h]
  rfl
theorem zI_ushr {n k : Nat} {s : Int32} (hn : n < 2 ^ 32) (hs : ((s.toUInt32 &&& Int32.toUInt32 31).toBitVec % 32).toNat = k) : ((nI n).toUInt32 >>> (s.toUInt32 &&& Int32.toUInt32 31)).toInt32 = nI (n / 2 ^ k) := pk_ushrN hn s k hs
theorem J_bitCount {n : Nat} (h : n < 2 ^ 31) : fJ6_bitCount_0f7a4 (nI n) = some (nI (zs n 31)) := by
  rw [← zs_31 h, ← zpop_eq (by omega)]
  unfold fJ6_bitCount_0f7a4 zpop
  have g1 : (1431655765 : Int32) = nI 1431655765 := by decide
  have g2 : (858993459 : Int32) = nI 858993459 := by decide
  have g3 : (252645135 : Int32) = nI 252645135 := by decide
  have g4 : (63 : Int32) = nI 63 := by decide
  have u1 : ∀ m : Nat, m < 2 ^ 32 → ((nI m).toUInt32 >>> ((1 : Int32).toUInt32 &&& Int32.toUInt32 31)).toInt32 = nI (m / 2) := fun m hm => zI_ushr (k := 1) hm (by decide)
  have u2 : ∀ m : Nat, m < 2 ^ 32 → ((nI m).toUInt32 >>> ((2 : Int32).toUInt32 &&& Int32.toUInt32 31)).toInt32 = nI (m / 4) := fun m hm => zI_ushr (k := 2) hm (by decide)
  have u4 : ∀ m : Nat, m < 2 ^ 32 → ((nI m).toUInt32 >>> ((4 : Int32).toUInt32 &&& Int32.toUInt32 31)).toInt32 = nI (m / 16) := fun m hm => zI_ushr (k := 4) hm (by decide)
  have u8 : ∀ m : Nat, m < 2 ^ 32 → ((nI m).toUInt32 >>> ((8 : Int32).toUInt32 &&& Int32.toUInt32 31)).toInt32 = nI (m / 256) := fun m hm => zI_ushr (k := 8) hm (by decide)
  have u16 : ∀ m : Nat, m < 2 ^ 32 → ((nI m).toUInt32 >>> ((16 : Int32).toUInt32 &&& Int32.toUInt32 31)).toInt32 = nI (m / 65536) := fun m hm => zI_ushr (k := 16) hm (by decide)
  rw [g1, g2, g3, g4]
  rw [u1 n (by omega), zI_and]
  have l1 : n / 2 &&& 1431655765 ≤ n := Nat.le_trans Nat.and_le_left (by omega)
  rw [pk_sub l1]
  have hy : n - (n / 2 &&& 1431655765) < 2 ^ 32 := by omega
  generalize n - (n / 2 &&& 1431655765) = y at hy ⊢
  rw [u2 y hy, zI_and, zI_and, nI_add]
  have hz : (y &&& 858993459) + (y / 4 &&& 858993459) < 2 ^ 31 := by
    have h1 : y &&& 858993459 ≤ 858993459 := Nat.and_le_right
    have h2 : y / 4 &&& 858993459 ≤ 858993459 := Nat.and_le_right
    omega
  dsimp only
  generalize (y &&& 858993459) + (y / 4 &&& 858993459) = z at hz ⊢
  rw [u4 z (by omega), nI_add, zI_and]
  have hw : (z + z / 16) &&& 252645135 ≤ 252645135 := Nat.and_le_right
  generalize (z + z / 16) &&& 252645135 = w at hw ⊢
  rw [u8 w (by omega), nI_add, u16 (w + w / 256) (by omega), nI_add, zI_and]
theorem zI_shr31 : ∀ i, i < 32 → ((nI i &&& 31).toBitVec.smod 32).toNat = i := by decide +kernel
theorem zw_or : ∀ W, W < 8 → ∀ w, w < 3 → nI W ||| (nI 1 <<< (nI w &&& nI 31)) = nI (W ||| 2 ^ w) ∧ W ||| 2 ^ w < 8 ∧ ∀ i, i < 3 → (W ||| 2 ^ w).testBit i = (W.testBit i || decide (i = w)) := by decide +kernel
theorem zw_cl : ∀ W, W < 8 → ∀ w, w < 3 → nI W &&& ((nI 1 <<< (nI w &&& nI 31)) ^^^ zN) = nI (W &&& (7 - 2 ^ w)) ∧ W &&& (7 - 2 ^ w) < 8 ∧ ∀ i, i < 3 → (W &&& (7 - 2 ^ w)).testBit i = (W.testBit i && decide (i ≠ w)) := by decide +kernel
theorem zw_t : ∀ W, W < 8 → ∀ w, w < 3 → ((nI W &&& (nI 1 <<< (nI w &&& nI 31)) = nI 0) ↔ W.testBit w = false) := by decide +kernel
theorem z_next (P : Nat → Prop) [DecidablePred P] : ∀ d k, k + d = 31 → ∃ j, k ≤ j ∧ j ≤ 31 ∧ (∀ i, k ≤ i → i < j → ¬ P i) ∧ (j < 31 → P j)
  | 0, k, h => ⟨k, Nat.le_refl k, by omega, fun i h1 h2 => absurd h2 (by omega), fun h' => absurd h' (by omega)⟩
  | d + 1, k, h => by
    by_cases hk : P k
    · exact ⟨k, Nat.le_refl k, by omega, fun i h1 h2 => absurd h2 (by omega), fun _ => hk⟩
    · obtain ⟨j, h1, h2, h3, h4⟩ := z_next P d (k + 1) (by omega)
      refine ⟨j, by omega, h2, fun i i1 i2 => ?_, h4⟩
      rcases Nat.eq_or_lt_of_le i1 with e | e
      · rw [← e]; exact hk
      · exact h3 i e i2

