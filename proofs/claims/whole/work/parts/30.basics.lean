/-! PURE PART: plain facts on the decompiled functions -/
theorem z_in {k n : Nat} (h : k < n) (hn : n < 2 ^ 31) : g_in (nI k) n = true := decide_eq_true (show ¬ (nI k < 0 ∨ n ≤ (nI k).toNatClampNeg) from vp_in_nI h hn)
theorem z_gt {α : Type} (x : Option α) : g_gd true x = x := by
  cases x with
  | none => rfl
  | some a => rfl
theorem z_bs {α β : Type} (a : α) (f : α → Option β) : (some a).bind f = f a := by
  cases h : f a with
  | none => exact h
  | some b => exact h
theorem z_up {f : Nat → Int32} {k : Nat} {x : Int32} {j : Nat} : upd f k x j = if j = k then x else f j := rfl
theorem z_us {f : Nat → Int32} {k : Nat} {x : Int32} : upd f k x k = x := if_pos rfl
theorem z_un {f : Nat → Int32} {k j : Nat} {x : Int32} (h : j ≠ k) : upd f k x j = f j := if_neg h
theorem z_add1 (a : Nat) : nI a + nI 1 = nI (a + 1) := nI_add a 1
theorem z_neg {k : Nat} (h : k < 2 ^ 31) : ¬ nI k < nI 0 := by rw [nI_0]; exact nI_pos h
/-- a loop that counts up to N: its step, its end, what it keeps -/
theorem z_loop {σ β : Type} (F : Nat → Nat → σ → Option β) (N : Nat) (I : Nat → σ → Prop) (Qf : Option β → Prop)
    (step : ∀ n i s, i < N → I i s → ∃ s', I (i + 1) s' ∧ F (n + 1) i s = F n (i + 1) s') (fin : ∀ n s, I N s → Qf (F (n + 1) N s)) :
    ∀ n i s, i ≤ N → N < n + i → I i s → Qf (F n i s) := by
  intro n
  induction n with
  | zero =>
    intro i s h1 h2
    exact absurd h2 (by omega)
  | succ n ih =>
    intro i s h1 h2 hI
    rcases Nat.lt_or_ge i N with h | h
    · obtain ⟨s', hI', he⟩ := step n i s h hI
      rw [he]
      exact ih (i + 1) s' h (by omega) hI'
    · have : i = N := by omega
      subst this
      exact fin n s hI
/-- the same, where a step may also end the loop -/
theorem z_loopE {σ β : Type} (F : Nat → Nat → σ → Option β) (N : Nat) (I : Nat → σ → Prop) (Qf : Option β → Prop)
    (step : ∀ n i s, i < N → I i s → Qf (F (n + 1) i s) ∨ ∃ s', I (i + 1) s' ∧ F (n + 1) i s = F n (i + 1) s') (fin : ∀ n s, I N s → Qf (F (n + 1) N s)) :
    ∀ n i s, i ≤ N → N < n + i → I i s → Qf (F n i s) := by
  intro n
  induction n with
  | zero =>
    intro i s h1 h2
    exact absurd h2 (by omega)
  | succ n ih =>
    intro i s h1 h2 hI
    rcases Nat.lt_or_ge i N with h | h
    · rcases step n i s h hI with hq | ⟨s', hI', he⟩
      · exact hq
      · rw [he]
        exact ih (i + 1) s' h (by omega) hI'
    · have : i = N := by omega
      subst this
      exact fin n s hI
def z_cnt (P : Nat → Bool) : Nat → Nat
  | 0 => 0
  | n + 1 => z_cnt P n + (if P n = true then 1 else 0)
theorem z_cnt_le (P : Nat → Bool) : ∀ n, z_cnt P n ≤ n
  | 0 => Nat.le_refl 0
  | n + 1 => by
    have := z_cnt_le P n
    unfold z_cnt
    split <;> omega
theorem z_cnt_congr {P Q : Nat → Bool} : ∀ {n : Nat}, (∀ k, k < n → P k = Q k) → z_cnt P n = z_cnt Q n := by
  intro n
  induction n with
  | zero => intro _; rfl
  | succ n ih =>
    intro h
    unfold z_cnt
    rw [ih (fun k hk => h k (by omega)), h n (by omega)]
def z_bits (P : Nat → Bool) : Nat → Int32
  | 0 => nI 0
  | n + 1 => if P n = true then z_bits P n ||| (nI 1 <<< (nI n &&& 31)) else z_bits P n
theorem z_bits_congr {P Q : Nat → Bool} : ∀ {n : Nat}, (∀ k, k < n → P k = Q k) → z_bits P n = z_bits Q n := by
  intro n
  induction n with
  | zero => intro _; rfl
  | succ n ih =>
    intro h
    unfold z_bits
    rw [ih (fun k hk => h k (by omega)), h n (by omega)]
/-! Row -/
def zN : Int32 := -1
theorem z_m1 {k : Nat} (h : k < 2 ^ 31) : ¬ nI k = zN := by
  intro e
  have := congrArg Int32.toInt e
  rw [nI_toInt h] at this
  have h2 : zN.toInt = -1 := by decide
  omega
/-- a row made over, as the class does it -/
def mo (r sh : Int32) : Int32 := if sh = nI 1 then r else if r = zN then r else if (r - r / nI 4 * nI 4) ≤ nI 1 then r else (r - (r - r / nI 4 * nI 4)) + nI 1
theorem gl_0 : (0 : Int32) = nI 0 := by decide
theorem gl_1 : (1 : Int32) = nI 1 := by decide
theorem gl_2 : (2 : Int32) = nI 2 := by decide
theorem gl_3 : (3 : Int32) = nI 3 := by decide
theorem gl_4 : (4 : Int32) = nI 4 := by decide
theorem gl_5 : (5 : Int32) = nI 5 := by decide
theorem gl_6 : (6 : Int32) = nI 6 := by decide
theorem gl_7 : (7 : Int32) = nI 7 := by decide
theorem gl_8 : (8 : Int32) = nI 8 := by decide
theorem gl_9 : (9 : Int32) = nI 9 := by decide
theorem gl_10 : (10 : Int32) = nI 10 := by decide
theorem gl_11 : (11 : Int32) = nI 11 := by decide
theorem gl_12 : (12 : Int32) = nI 12 := by decide
theorem gl_13 : (13 : Int32) = nI 13 := by decide
theorem gl_14 : (14 : Int32) = nI 14 := by decide
theorem gl_15 : (15 : Int32) = nI 15 := by decide
theorem gl_16 : (16 : Int32) = nI 16 := by decide
theorem gl_17 : (17 : Int32) = nI 17 := by decide
theorem gl_18 : (18 : Int32) = nI 18 := by decide
theorem gl_19 : (19 : Int32) = nI 19 := by decide
theorem gl_20 : (20 : Int32) = nI 20 := by decide
theorem gl_21 : (21 : Int32) = nI 21 := by decide
theorem gl_22 : (22 : Int32) = nI 22 := by decide
theorem gl_23 : (23 : Int32) = nI 23 := by decide
theorem gl_24 : (24 : Int32) = nI 24 := by decide
theorem gl_25 : (25 : Int32) = nI 25 := by decide
theorem gl_26 : (26 : Int32) = nI 26 := by decide
theorem gl_27 : (27 : Int32) = nI 27 := by decide
theorem gl_28 : (28 : Int32) = nI 28 := by decide
theorem gl_29 : (29 : Int32) = nI 29 := by decide
theorem gl_30 : (30 : Int32) = nI 30 := by decide
theorem gl_31 : (31 : Int32) = nI 31 := by decide
theorem gl_32 : (32 : Int32) = nI 32 := by decide
theorem gl_44 : (44 : Int32) = nI 44 := by decide
theorem gl_48 : (48 : Int32) = nI 48 := by decide
theorem gl_49 : (49 : Int32) = nI 49 := by decide
theorem gl_57 : (57 : Int32) = nI 57 := by decide
theorem gl_59 : (59 : Int32) = nI 59 := by decide
theorem gl_60 : (60 : Int32) = nI 60 := by decide
theorem gl_63 : (63 : Int32) = nI 63 := by decide
theorem gl_70 : (70 : Int32) = nI 70 := by decide
theorem gl_98 : (98 : Int32) = nI 98 := by decide
theorem gl_99 : (99 : Int32) = nI 99 := by decide
theorem gl_100 : (100 : Int32) = nI 100 := by decide
theorem gl_101 : (101 : Int32) = nI 101 := by decide
theorem gl_107 : (107 : Int32) = nI 107 := by decide
theorem gl_109 : (109 : Int32) = nI 109 := by decide
theorem gl_110 : (110 : Int32) = nI 110 := by decide
theorem gl_111 : (111 : Int32) = nI 111 := by decide
theorem gl_116 : (116 : Int32) = nI 116 := by decide
theorem gl_120 : (120 : Int32) = nI 120 := by decide
theorem gl_126 : (126 : Int32) = nI 126 := by decide
theorem gl_155 : (155 : Int32) = nI 155 := by decide
theorem gl_411 : (411 : Int32) = nI 411 := by decide
theorem gl_999 : (999 : Int32) = nI 999 := by decide
theorem gl_1000 : (1000 : Int32) = nI 1000 := by decide
theorem gl_1233 : (1233 : Int32) = nI 1233 := by decide
theorem gl_1644 : (1644 : Int32) = nI 1644 := by decide
theorem gl_100000 : (100000 : Int32) = nI 100000 := by decide
theorem gl_m1 : -nI 1 = zN := by decide
theorem C_madeOver (r sh : Int32) : fX2_madeOver r sh = some (mo r sh) := by
  simp only [fX2_madeOver, mo, gl_0, gl_1, gl_2, gl_3, gl_4, gl_5, gl_6, gl_7, gl_8, gl_9, gl_10, gl_11, gl_12, gl_13, gl_14, gl_15, gl_16, gl_17, gl_18, gl_19, gl_20, gl_21, gl_22, gl_23, gl_24, gl_25, gl_26, gl_27, gl_28, gl_29, gl_30, gl_31, gl_32, gl_44, gl_48, gl_49, gl_57, gl_59, gl_60, gl_63, gl_70, gl_98, gl_99, gl_100, gl_101, gl_107, gl_109, gl_110, gl_111, gl_116, gl_120, gl_126, gl_155, gl_411, gl_999, gl_1000, gl_1233, gl_1644, gl_100000, gl_m1]
  by_cases h1 : sh = nI 1
  · rw [if_pos h1, if_pos h1]
  · rw [if_neg h1, if_neg h1]
    by_cases h2 : r = zN
    · rw [if_pos h2, if_pos h2]
    · rw [if_neg h2, if_neg h2]
      by_cases h3 : (r - r / nI 4 * nI 4) ≤ nI 1
      · rw [if_pos h3, if_pos h3]
      · rw [if_neg h3, if_neg h3]
theorem C_isBelow (x y : Int32) : fX5_isBelow x y = some (if x < nI 0 then nI 0 else if y ≤ x then nI 0 else nI 1) := by
  simp only [fX5_isBelow, gl_0, gl_1, gl_2, gl_3, gl_4, gl_5, gl_6, gl_7, gl_8, gl_9, gl_10, gl_11, gl_12, gl_13, gl_14, gl_15, gl_16, gl_17, gl_18, gl_19, gl_20, gl_21, gl_22, gl_23, gl_24, gl_25, gl_26, gl_27, gl_28, gl_29, gl_30, gl_31, gl_32, gl_44, gl_48, gl_49, gl_57, gl_59, gl_60, gl_63, gl_70, gl_98, gl_99, gl_100, gl_101, gl_107, gl_109, gl_110, gl_111, gl_116, gl_120, gl_126, gl_155, gl_411, gl_999, gl_1000, gl_1233, gl_1644, gl_100000, gl_m1]
  by_cases h1 : x < nI 0
  · rw [if_pos h1, if_pos h1]
  · rw [if_neg h1, if_neg h1]
    by_cases h2 : y ≤ x
    · rw [if_pos h2, if_pos h2]
    · rw [if_neg h2, if_neg h2]
theorem C_isBelow_nI {k n : Nat} (h : k < n) (hn : n < 2 ^ 31) : fX5_isBelow (nI k) (nI n) = some (nI 1) := by
  simp (disch := omega) only [C_isBelow, nI_ltI, nI_leI]
  rw [if_neg (by omega), if_neg (by omega)]
def zP (row : Nat → Int32) (k : Nat) : Bool := decide (¬ row k = zN)
theorem C_rows (nu : Int32) (ver row : Nat → Int32) : fX3_rows nu ver row = some (nI (z_cnt (zP row) 31)) := by
  unfold fX3_rows
  refine z_loop (fun n i (x : Int32) => fX3_rows_b4 n nu x (nI i) ver row) 31 (fun i x => x = nI (z_cnt (zP row) i)) (fun o => o = some (nI (z_cnt (zP row) 31))) ?_ ?_ 2000 0 (0 : Int32) (by omega) (by omega) rfl
  · intro n i x hi hx
    subst hx
    by_cases hr : row i = zN
    · refine ⟨_, ?_, by simp (disch := omega) only [fX3_rows_b4, gl_0, gl_1, gl_2, gl_3, gl_4, gl_5, gl_6, gl_7, gl_8, gl_9, gl_10, gl_11, gl_12, gl_13, gl_14, gl_15, gl_16, gl_17, gl_18, gl_19, gl_20, gl_21, gl_22, gl_23, gl_24, gl_25, gl_26, gl_27, gl_28, gl_29, gl_30, gl_31, gl_32, gl_44, gl_48, gl_49, gl_57, gl_59, gl_60, gl_63, gl_70, gl_98, gl_99, gl_100, gl_101, gl_107, gl_109, gl_110, gl_111, gl_116, gl_120, gl_126, gl_155, gl_411, gl_999, gl_1000, gl_1233, gl_1644, gl_100000, gl_m1, nI_leI, z_in, z_gt, nI_clamp, nI_add]; rw [if_neg (by omega), if_pos hr]⟩
      simp [z_cnt, zP, hr]
    · refine ⟨_, ?_, by simp (disch := omega) only [fX3_rows_b4, gl_0, gl_1, gl_2, gl_3, gl_4, gl_5, gl_6, gl_7, gl_8, gl_9, gl_10, gl_11, gl_12, gl_13, gl_14, gl_15, gl_16, gl_17, gl_18, gl_19, gl_20, gl_21, gl_22, gl_23, gl_24, gl_25, gl_26, gl_27, gl_28, gl_29, gl_30, gl_31, gl_32, gl_44, gl_48, gl_49, gl_57, gl_59, gl_60, gl_63, gl_70, gl_98, gl_99, gl_100, gl_101, gl_107, gl_109, gl_110, gl_111, gl_116, gl_120, gl_126, gl_155, gl_411, gl_999, gl_1000, gl_1233, gl_1644, gl_100000, gl_m1, nI_leI, z_in, z_gt, nI_clamp, nI_add]; rw [if_neg (by omega), if_neg hr]⟩
      simp [z_cnt, zP, hr]
  · intro n x hx
    subst hx
    simp (disch := omega) only [fX3_rows_b4, gl_0, gl_1, gl_2, gl_3, gl_4, gl_5, gl_6, gl_7, gl_8, gl_9, gl_10, gl_11, gl_12, gl_13, gl_14, gl_15, gl_16, gl_17, gl_18, gl_19, gl_20, gl_21, gl_22, gl_23, gl_24, gl_25, gl_26, gl_27, gl_28, gl_29, gl_30, gl_31, gl_32, gl_44, gl_48, gl_49, gl_57, gl_59, gl_60, gl_63, gl_70, gl_98, gl_99, gl_100, gl_101, gl_107, gl_109, gl_110, gl_111, gl_116, gl_120, gl_126, gl_155, gl_411, gl_999, gl_1000, gl_1233, gl_1644, gl_100000, gl_m1, nI_leI]
    rw [if_pos (by omega)]
