/-! texts: all the orders -/
def RI (ss : Nat → Int32) (ph la po lo : Int32) (ov orr nv nr : Nat → Int32) (ql : Int32) (qk qv qr wr : Nat → Int32) (wa : Int32) (wc wk : Nat → Int32) : Prop := ∃ p l x q : Nat, ph = nI p ∧ la = nI l ∧ po = nI x ∧ ql = nI q ∧ RT ss p l x lo ov orr nv nr q qk qv qr wr wa wc wk
theorem RI_congr {ss ss' : Nat → Int32} {ph la po lo : Int32} {ov orr nv nr : Nat → Int32} {ql : Int32} {qk qv qr wr : Nat → Int32} {wa : Int32} {wc wk : Nat → Int32} (R : RI ss ph la po lo ov orr nv nr ql qk qv qr wr wa wc wk) (hs : ∀ i, i < 411 → ss' i = ss i) : RI ss' ph la po lo ov orr nv nr ql qk qv qr wr wa wc wk := by
  obtain ⟨p, l, x, q, h1, h2, h3, h4, R⟩ := R
  exact ⟨p, l, x, q, h1, h2, h3, h4, RT_congr R hs⟩
section T5
variable {txt : Nat → Int32} {L : Nat} {tx : Nat → Int32} {gi pl re ki : Int32} {nu : Nat → Int32} {ph la po lo : Int32} {ov orr nv nr : Nat → Int32} {ql : Int32} {qk qv qr wr : Nat → Int32} {wa : Int32} {wc wk : Nat → Int32}
theorem S_step1 {ss was beg asi : Nat → Int32} {sta : Int32} {att rea : Int32} {got row oth : Nat → Int32} {a : Nat} (hL : L ≤ 60) (ht : ∀ i, i < L → tx i = txt i) (ha : a < L) (R : RI ss ph la po lo ov orr nv nr ql qk qv qr wr wa wc wk) : ((∃ nu', fX0_readOrder (nI a) (nI L) tx gi pl re ki nu = some (zN, nI L, tx, gi, pl, re, txt a, nu')) ∧ ∃ ss' att' got' row' oth', fX6_doesNext ss was beg asi sta txt (nI L) (nI a) rea got row oth = some (nI 1, ss', was, beg, asi, sta, txt, nI L, att', rea, got', row', oth')) ∨ (∃ (e : Nat) (nu' : Nat → Int32) (r : Int32) (ph' la' po' lo' : Int32) (ov' orr' nv' nr' : Nat → Int32) (ql' : Int32) (qk' qv' qr' wr' : Nat → Int32) (wa' : Int32) (wc' wk' : Nat → Int32) (ss' got' row' oth' : Nat → Int32), a < e ∧ e ≤ L ∧ fX0_readOrder (nI a) (nI L) tx gi pl re ki nu = some (nI e, nI L, tx, gi, pl, re, txt a, nu') ∧ fX0_give (nI L) tx gi pl re (txt a) nu' ph la po lo ov orr nv nr ql qk qv qr wr wa wc wk = some (r, nI L, tx, gi, pl, re, txt a, nu', ph', la', po', lo', ov', orr', nv', nr', ql', qk', qv', qr', wr', wa', wc', wk') ∧ fX6_doesNext ss was beg asi sta txt (nI L) (nI a) rea got row oth = some (zrsn r, ss', was, beg, asi, sta, txt, nI L, nI e, rea, got', row', oth') ∧ RI ss' ph' la' po' lo' ov' orr' nv' nr' ql' qk' qv' qr' wr' wa' wc' wk' ∧ (zans r ∨ zerr r)) := by
  obtain ⟨p, l, x, q, rfl, rfl, rfl, rfl, R⟩ := R
  rcases S_step (was := was) (beg := beg) (asi := asi) (sta := sta) (rea := rea) (got := got) (row := row) (oth := oth) (gi := gi) (pl := pl) (re := re) (ki := ki) (nu := nu) hL ht ha R with h | ⟨e, nu', r, p', l', x', q', lo', ov', orr', nv', nr', qk', qv', qr', wr', wa', wc', wk', ss', got', row', oth', h1, h2, h3, h4, h5, h6, h7⟩
  · exact Or.inl h
  · exact Or.inr ⟨e, nu', r, _, _, _, _, _, _, _, _, _, _, _, _, _, _, _, _, ss', got', row', oth', h1, h2, h3, h4, h5, ⟨p', l', x', q', rfl, rfl, rfl, rfl, h6⟩, h7⟩
theorem S_bad2 {a : Nat} {nu0 : Nat → Int32} {k0 : Int32} (hL : L ≤ 60) (ht : ∀ i, i < L → tx i = txt i) (ha : a < L) (hC : fX0_readOrder (nI a) (nI L) tx gi pl re ki nu = some (zN, nI L, tx, gi, pl, re, k0, nu0)) (ss was beg asi : Nat → Int32) (sta : Int32) (att rea : Int32) (got row oth : Nat → Int32) (R : RI ss ph la po lo ov orr nv nr ql qk qv qr wr wa wc wk) : ∃ ss' att' got' row' oth', fX6_doesNext ss was beg asi sta txt (nI L) (nI a) rea got row oth = some (nI 1, ss', was, beg, asi, sta, txt, nI L, att', rea, got', row', oth') := by
  rcases S_step1 (was := was) (beg := beg) (asi := asi) (sta := sta) (att := att) (rea := rea) (got := got) (row := row) (oth := oth) (gi := gi) (pl := pl) (re := re) (ki := ki) (nu := nu) hL ht ha R with ⟨_, h⟩ | ⟨e, nu', r, _, _, _, _, _, _, _, _, _, _, _, _, _, _, _, _, ss', got', row', oth', h1, h2, h3, _⟩
  · exact h
  · rw [hC] at h3
    have := congrArg Prod.fst (Option.some.inj h3)
    exact absurd this.symm (z_m1 (by omega))
theorem S_ok2 {a e : Nat} {nu0 : Nat → Int32} {k0 r : Int32} {ph' la' po' lo' : Int32} {ov' orr' nv' nr' : Nat → Int32} {ql' : Int32} {qk' qv' qr' wr' : Nat → Int32} {wa' : Int32} {wc' wk' : Nat → Int32} (hL : L ≤ 60) (ht : ∀ i, i < L → tx i = txt i) (ha : a < L) (he : e ≤ L) (hC : fX0_readOrder (nI a) (nI L) tx gi pl re ki nu = some (nI e, nI L, tx, gi, pl, re, k0, nu0)) (hG : fX0_give (nI L) tx gi pl re k0 nu0 ph la po lo ov orr nv nr ql qk qv qr wr wa wc wk = some (r, nI L, tx, gi, pl, re, k0, nu0, ph', la', po', lo', ov', orr', nv', nr', ql', qk', qv', qr', wr', wa', wc', wk')) (ss was beg asi : Nat → Int32) (sta : Int32) (att rea : Int32) (got row oth : Nat → Int32) (R : RI ss ph la po lo ov orr nv nr ql qk qv qr wr wa wc wk) : ∃ ss' got' row' oth', fX6_doesNext ss was beg asi sta txt (nI L) (nI a) rea got row oth = some (zrsn r, ss', was, beg, asi, sta, txt, nI L, nI e, rea, got', row', oth') ∧ RI ss' ph' la' po' lo' ov' orr' nv' nr' ql' qk' qv' qr' wr' wa' wc' wk' := by
  rcases S_step1 (was := was) (beg := beg) (asi := asi) (sta := sta) (att := att) (rea := rea) (got := got) (row := row) (oth := oth) (gi := gi) (pl := pl) (re := re) (ki := ki) (nu := nu) hL ht ha R with ⟨⟨nu', h⟩, _⟩ | ⟨e1, nu1, r1, _, _, _, _, _, _, _, _, _, _, _, _, _, _, _, _, ss', got', row', oth', h1, h2, h3, h4, h5, h6, h7⟩
  · rw [hC] at h
    have := congrArg Prod.fst (Option.some.inj h)
    exact absurd this (z_m1 (by omega))
  · rw [hC] at h3
    simp only [Option.some.injEq, Prod.mk.injEq, true_and] at h3
    obtain ⟨g1, g2, g3⟩ := h3
    have ge : e = e1 := (nI_eq (by omega) (by omega)).1 g1
    subst ge g2 g3
    rw [hG] at h4
    simp only [Option.some.injEq, Prod.mk.injEq, true_and] at h4
    obtain ⟨c0, c1, c2, c3, c4, c5, c6, c7, c8, c9, c10, c11, c12, c13, c14, c15, c16⟩ := h4
    subst c0 c1 c2 c3 c4 c5 c6 c7 c8 c9 c10 c11 c12 c13 c14 c15 c16
    exact ⟨ss', got', row', oth', h5, h6⟩
end T5
theorem z_negk : ¬ ∃ n : Nat, n < 100 ∧ nI n = -nI 1000004 := by
  rintro ⟨n, hn, h⟩
  have := congrArg Int32.toInt h
  rw [nI_toInt (by omega), show (-nI 1000004 : Int32).toInt = -1000004 by decide] at this
  omega
section T6
variable {txt : Nat → Int32} {L : Nat} {tx : Nat → Int32}
/-- all orders from a place on -/
theorem S_run (hL : L ≤ 60) (ht : ∀ i, i < L → tx i = txt i) : ∀ (d a g : Nat) (ki : Int32) (nu : Nat → Int32) (ph la po lo : Int32) (ov orr nv nr : Nat → Int32) (ql : Int32) (qk qv qr wr : Nat → Int32) (wa : Int32) (wc wk : Nat → Int32), L - a ≤ d → a ≤ L → g ≤ a → (∃ ss, RI ss ph la po lo ov orr nv nr ql qk qv qr wr wa wc wk) → ∃ (g' a' ρ : Nat) (ki' : Int32) (nu' : Nat → Int32) (ph' la' po' lo' : Int32) (ov' orr' nv' nr' : Nat → Int32) (ql' : Int32) (qk' qv' qr' wr' : Nat → Int32) (wa' : Int32) (wc' wk' : Nat → Int32), (∀ n, d < n → fX0_giveAll_b15 n (nI L) tx (nI g) (nI a) (nI 0) ki nu ph la po lo ov orr nv nr ql qk qv qr wr wa wc wk = some (nI L, tx, nI g', nI a', nI ρ, ki', nu', ph', la', po', lo', ov', orr', nv', nr', ql', qk', qv', qr', wr', wa', wc', wk')) ∧ g ≤ g' ∧ g' ≤ L ∧ a' ≤ L ∧ ρ ≤ 3 ∧
    (∀ (ss was beg asi : Nat → Int32) (sta : Int32) (att rea : Int32) (got row oth : Nat → Int32), RI ss ph la po lo ov orr nv nr ql qk qv qr wr wa wc wk → ∀ n, d < n → ∃ ss' att' rea' got' row' oth', fX6_faulty_b35 n (-nI 1000004) ss was beg asi sta txt (nI L) (nI a) rea got row oth = some (if ρ = 0 then -nI 1000004 else nI a', ss', was, beg, asi, sta, txt, nI L, att', rea', got', row', oth') ∧ (∀ i, i < 411 → ss' i = asi i) ∧ (ρ ≠ 0 → rea' = nI ρ)) ∧
    (ρ = 0 → ∀ (ss was beg asi : Nat → Int32) (sta : Int32) (att rea : Int32) (got row oth : Nat → Int32), RI ss ph la po lo ov orr nv nr ql qk qv qr wr wa wc wk → ∀ n, d < n → ∀ c : Nat, ∃ ss' att' got' row' oth', fX6_play_b23 n (nI c) ss was beg asi sta txt (nI L) (nI a) rea got row oth = fX6_acted (nI (c + (g' - g))) ss' was beg asi sta txt (nI L) att' rea got' row' oth' ∧ RI ss' ph' la' po' lo' ov' orr' nv' nr' ql' qk' qv' qr' wr' wa' wc' wk') := by
  have e4 : (-1000004 : Int32) = -nI 1000004 := by decide
  have hF : ∀ (n : Nat) (v : Int32) (ss was beg asi : Nat → Int32) (sta : Int32) (att rea : Int32) (got row oth : Nat → Int32), (nI L ≤ att ∨ ¬ v = -nI 1000004) → ∃ ss', fX6_faulty_b35 (n + 1) v ss was beg asi sta txt (nI L) att rea got row oth = some (v, ss', was, beg, asi, sta, txt, nI L, att, rea, got, row, oth) ∧ ∀ i, i < 411 → ss' i = asi i := by
    intro n v ss was beg asi sta att rea got row oth h
    obtain ⟨ss', e, h2⟩ := M_restores (ss := ss) (was := was) (beg := beg) (asi := asi) (sta := sta) (txt := txt) (typ := nI L) (att := att) (rea := rea) (got := got) (row := row) (oth := oth)
    refine ⟨ss', ?_, h2⟩
    rw [fX6_faulty_b35, e, e4]
    by_cases h5 : nI L ≤ att
    · rw [if_pos h5]; rfl
    · rw [if_neg h5, if_neg (h.resolve_left h5)]; rfl
  intro d
  induction d with
  | zero =>
    intro a g ki nu ph la po lo ov orr nv nr ql qk qv qr wr wa wc wk hd ha hg hR
    have haL : a = L := by omega
    subst haL
    refine ⟨g, a, 0, ki, nu, ph, la, po, lo, ov, orr, nv, nr, ql, qk, qv, qr, wr, wa, wc, wk, fun n hn => ?_, Nat.le_refl g, hg, Nat.le_refl a, by omega, ?_, ?_⟩
    · obtain ⟨n, rfl⟩ : ∃ k, n = k + 1 := ⟨n - 1, by omega⟩
      rw [fX0_giveAll_b15]
      by_cases h60 : 60 ≤ g
      · simp (disch := omega) only [gl_0, gl_1, gl_2, gl_3, gl_4, gl_5, gl_6, gl_7, gl_8, gl_9, gl_10, gl_11, gl_12, gl_13, gl_14, gl_15, gl_16, gl_17, gl_18, gl_19, gl_20, gl_21, gl_22, gl_23, gl_24, gl_25, gl_26, gl_27, gl_28, gl_29, gl_30, gl_31, gl_32, gl_44, gl_48, gl_49, gl_57, gl_59, gl_60, gl_63, gl_70, gl_98, gl_99, gl_100, gl_101, gl_107, gl_109, gl_110, gl_111, gl_116, gl_120, gl_126, gl_155, gl_411, gl_999, gl_1000, gl_1233, gl_1644, gl_100000, gl_m1, nI_eq, nI_leI, nI_ltI, nI_add, nI_clamp, pk_mul, pk_sub, z_in, z_gt, z_bs, z_us, z_un, if_pos, if_neg, if_true, if_false, and_true, true_and, and_self, not_true_eq_false, not_false_eq_true]
      · simp (disch := omega) only [gl_0, gl_1, gl_2, gl_3, gl_4, gl_5, gl_6, gl_7, gl_8, gl_9, gl_10, gl_11, gl_12, gl_13, gl_14, gl_15, gl_16, gl_17, gl_18, gl_19, gl_20, gl_21, gl_22, gl_23, gl_24, gl_25, gl_26, gl_27, gl_28, gl_29, gl_30, gl_31, gl_32, gl_44, gl_48, gl_49, gl_57, gl_59, gl_60, gl_63, gl_70, gl_98, gl_99, gl_100, gl_101, gl_107, gl_109, gl_110, gl_111, gl_116, gl_120, gl_126, gl_155, gl_411, gl_999, gl_1000, gl_1233, gl_1644, gl_100000, gl_m1, nI_eq, nI_leI, nI_ltI, nI_add, nI_clamp, pk_mul, pk_sub, z_in, z_gt, z_bs, z_us, z_un, if_pos, if_neg, if_true, if_false, and_true, true_and, and_self, not_true_eq_false, not_false_eq_true]
    · intro ss was beg asi sta att rea got row oth R n hn
      obtain ⟨n, rfl⟩ : ∃ k, n = k + 1 := ⟨n - 1, by omega⟩
      obtain ⟨ss', e, h2⟩ := hF n (-nI 1000004) ss was beg asi sta (nI a) rea got row oth (Or.inl (nI_le (Nat.le_refl a) (by omega)))
      exact ⟨ss', nI a, rea, got, row, oth, by rw [e, if_pos rfl], h2, fun h => absurd rfl h⟩
    · intro _ ss was beg asi sta att rea got row oth R n hn c
      obtain ⟨n, rfl⟩ : ∃ k, n = k + 1 := ⟨n - 1, by omega⟩
      refine ⟨ss, nI a, got, row, oth, ?_, R⟩
      rw [fX6_play_b23, Nat.sub_self, Nat.add_zero]
      simp (disch := omega) only [gl_0, gl_1, gl_2, gl_3, gl_4, gl_5, gl_6, gl_7, gl_8, gl_9, gl_10, gl_11, gl_12, gl_13, gl_14, gl_15, gl_16, gl_17, gl_18, gl_19, gl_20, gl_21, gl_22, gl_23, gl_24, gl_25, gl_26, gl_27, gl_28, gl_29, gl_30, gl_31, gl_32, gl_44, gl_48, gl_49, gl_57, gl_59, gl_60, gl_63, gl_70, gl_98, gl_99, gl_100, gl_101, gl_107, gl_109, gl_110, gl_111, gl_116, gl_120, gl_126, gl_155, gl_411, gl_999, gl_1000, gl_1233, gl_1644, gl_100000, gl_m1, nI_eq, nI_leI, nI_ltI, nI_add, nI_clamp, pk_mul, pk_sub, z_in, z_gt, z_bs, z_us, z_un, if_pos, if_neg, if_true, if_false, and_true, true_and, and_self, not_true_eq_false, not_false_eq_true]
      exact zeM _
  | succ d ih =>
    intro a g ki nu ph la po lo ov orr nv nr ql qk qv qr wr wa wc wk hd ha hg hR
    by_cases haL : a = L
    · subst haL
      refine ⟨g, a, 0, ki, nu, ph, la, po, lo, ov, orr, nv, nr, ql, qk, qv, qr, wr, wa, wc, wk, fun n hn => ?_, Nat.le_refl g, hg, Nat.le_refl a, by omega, ?_, ?_⟩
      · obtain ⟨n, rfl⟩ : ∃ k, n = k + 1 := ⟨n - 1, by omega⟩
        rw [fX0_giveAll_b15]
        by_cases h60 : 60 ≤ g
        · simp (disch := omega) only [gl_0, gl_1, gl_2, gl_3, gl_4, gl_5, gl_6, gl_7, gl_8, gl_9, gl_10, gl_11, gl_12, gl_13, gl_14, gl_15, gl_16, gl_17, gl_18, gl_19, gl_20, gl_21, gl_22, gl_23, gl_24, gl_25, gl_26, gl_27, gl_28, gl_29, gl_30, gl_31, gl_32, gl_44, gl_48, gl_49, gl_57, gl_59, gl_60, gl_63, gl_70, gl_98, gl_99, gl_100, gl_101, gl_107, gl_109, gl_110, gl_111, gl_116, gl_120, gl_126, gl_155, gl_411, gl_999, gl_1000, gl_1233, gl_1644, gl_100000, gl_m1, nI_eq, nI_leI, nI_ltI, nI_add, nI_clamp, pk_mul, pk_sub, z_in, z_gt, z_bs, z_us, z_un, if_pos, if_neg, if_true, if_false, and_true, true_and, and_self, not_true_eq_false, not_false_eq_true]
        · simp (disch := omega) only [gl_0, gl_1, gl_2, gl_3, gl_4, gl_5, gl_6, gl_7, gl_8, gl_9, gl_10, gl_11, gl_12, gl_13, gl_14, gl_15, gl_16, gl_17, gl_18, gl_19, gl_20, gl_21, gl_22, gl_23, gl_24, gl_25, gl_26, gl_27, gl_28, gl_29, gl_30, gl_31, gl_32, gl_44, gl_48, gl_49, gl_57, gl_59, gl_60, gl_63, gl_70, gl_98, gl_99, gl_100, gl_101, gl_107, gl_109, gl_110, gl_111, gl_116, gl_120, gl_126, gl_155, gl_411, gl_999, gl_1000, gl_1233, gl_1644, gl_100000, gl_m1, nI_eq, nI_leI, nI_ltI, nI_add, nI_clamp, pk_mul, pk_sub, z_in, z_gt, z_bs, z_us, z_un, if_pos, if_neg, if_true, if_false, and_true, true_and, and_self, not_true_eq_false, not_false_eq_true]
      · intro ss was beg asi sta att rea got row oth R n hn
        obtain ⟨n, rfl⟩ : ∃ k, n = k + 1 := ⟨n - 1, by omega⟩
        obtain ⟨ss', e, h2⟩ := hF n (-nI 1000004) ss was beg asi sta (nI a) rea got row oth (Or.inl (nI_le (Nat.le_refl a) (by omega)))
        exact ⟨ss', nI a, rea, got, row, oth, by rw [e, if_pos rfl], h2, fun h => absurd rfl h⟩
      · intro _ ss was beg asi sta att rea got row oth R n hn c
        obtain ⟨n, rfl⟩ : ∃ k, n = k + 1 := ⟨n - 1, by omega⟩
        refine ⟨ss, nI a, got, row, oth, ?_, R⟩
        rw [fX6_play_b23, Nat.sub_self, Nat.add_zero]
        simp (disch := omega) only [gl_0, gl_1, gl_2, gl_3, gl_4, gl_5, gl_6, gl_7, gl_8, gl_9, gl_10, gl_11, gl_12, gl_13, gl_14, gl_15, gl_16, gl_17, gl_18, gl_19, gl_20, gl_21, gl_22, gl_23, gl_24, gl_25, gl_26, gl_27, gl_28, gl_29, gl_30, gl_31, gl_32, gl_44, gl_48, gl_49, gl_57, gl_59, gl_60, gl_63, gl_70, gl_98, gl_99, gl_100, gl_101, gl_107, gl_109, gl_110, gl_111, gl_116, gl_120, gl_126, gl_155, gl_411, gl_999, gl_1000, gl_1233, gl_1644, gl_100000, gl_m1, nI_eq, nI_leI, nI_ltI, nI_add, nI_clamp, pk_mul, pk_sub, z_in, z_gt, z_bs, z_us, z_un, if_pos, if_neg, if_true, if_false, and_true, true_and, and_self, not_true_eq_false, not_false_eq_true]
        exact zeM _
    have ha : a < L := by omega
    obtain ⟨ss0, R0⟩ := hR
    rcases S_step1 (was := ss0) (beg := ss0) (asi := ss0) (sta := nI 0) (att := nI 0) (rea := nI 0) (got := ss0) (row := ss0) (oth := ss0) (gi := nI g) (pl := nI a) (re := nI 0) (ki := ki) (nu := nu) hL ht ha R0 with ⟨⟨nu', hC⟩, _⟩ | ⟨e, nu', r, ph', la', po', lo', ov', orr', nv', nr', ql', qk', qv', qr', wr', wa', wc', wk', ss1, _, _, _, hae, heL, hC, hG, _, R1, hr⟩
    · -- the form is wrong
      refine ⟨g, a, 1, txt a, nu', ph, la, po, lo, ov, orr, nv, nr, ql, qk, qv, qr, wr, wa, wc, wk, fun n hn => ?_, Nat.le_refl g, by omega, by omega, by omega, ?_, fun h => absurd h (by omega)⟩
      · obtain ⟨n, rfl⟩ : ∃ k, n = k + 1 := ⟨n - 1, by omega⟩
        rw [fX0_giveAll_b15]
        simp (disch := omega) only [gl_0, gl_1, gl_2, gl_3, gl_4, gl_5, gl_6, gl_7, gl_8, gl_9, gl_10, gl_11, gl_12, gl_13, gl_14, gl_15, gl_16, gl_17, gl_18, gl_19, gl_20, gl_21, gl_22, gl_23, gl_24, gl_25, gl_26, gl_27, gl_28, gl_29, gl_30, gl_31, gl_32, gl_44, gl_48, gl_49, gl_57, gl_59, gl_60, gl_63, gl_70, gl_98, gl_99, gl_100, gl_101, gl_107, gl_109, gl_110, gl_111, gl_116, gl_120, gl_126, gl_155, gl_411, gl_999, gl_1000, gl_1233, gl_1644, gl_100000, gl_m1, nI_eq, nI_leI, nI_ltI, nI_add, nI_clamp, pk_mul, pk_sub, z_in, z_gt, z_bs, z_us, z_un, if_pos, if_neg, if_true, if_false, and_true, true_and, and_self, not_true_eq_false, not_false_eq_true, hC]
      · intro ss was beg asi sta att rea got row oth R n hn
        obtain ⟨n, rfl⟩ : ∃ k, n = k + 1 + 1 := ⟨n - 2, by omega⟩
        obtain ⟨ss', att', got', row', oth', hM⟩ := S_bad2 hL ht ha hC ss was beg asi sta att rea got row oth R
        have hne : ¬ nI a = -nI 1000004 := fun h => z_negk ⟨a, by omega, h⟩
        obtain ⟨ss2, e2, h2⟩ := hF n (nI a) ss' was beg asi sta att' (nI 1) got' row' oth' (Or.inr hne)
        refine ⟨ss2, att', nI 1, got', row', oth', ?_, h2, fun _ => rfl⟩
        rw [fX6_faulty_b35, e4]
        simp (disch := omega) only [gl_0, gl_1, gl_2, gl_3, gl_4, gl_5, gl_6, gl_7, gl_8, gl_9, gl_10, gl_11, gl_12, gl_13, gl_14, gl_15, gl_16, gl_17, gl_18, gl_19, gl_20, gl_21, gl_22, gl_23, gl_24, gl_25, gl_26, gl_27, gl_28, gl_29, gl_30, gl_31, gl_32, gl_44, gl_48, gl_49, gl_57, gl_59, gl_60, gl_63, gl_70, gl_98, gl_99, gl_100, gl_101, gl_107, gl_109, gl_110, gl_111, gl_116, gl_120, gl_126, gl_155, gl_411, gl_999, gl_1000, gl_1233, gl_1644, gl_100000, gl_m1, nI_eq, nI_leI, nI_ltI, nI_add, nI_clamp, pk_mul, pk_sub, z_in, z_gt, z_bs, z_us, z_un, if_pos, if_neg, if_true, if_false, and_true, true_and, and_self, not_true_eq_false, not_false_eq_true, hM]
        exact e2
    · have hne : ¬ nI e = zN := z_m1 (by omega)
      rcases hr with hr | hr
      · -- it is done
        obtain ⟨g', a', ρ, ki', nu'', ph'', la'', po'', lo'', ov'', orr'', nv'', nr'', ql'', qk'', qv'', qr'', wr'', wa'', wc'', wk'', hCC, hgg, hg60, haL', hρ, hFA, hPL⟩ := ih e (g + 1) (txt a) nu' ph' la' po' lo' ov' orr' nv' nr' ql' qk' qv' qr' wr' wa' wc' wk' (by omega) heL (by omega) ⟨ss1, R1⟩
        refine ⟨g', a', ρ, ki', nu'', ph'', la'', po'', lo'', ov'', orr'', nv'', nr'', ql'', qk'', qv'', qr'', wr'', wa'', wc'', wk'', fun n hn => ?_, by omega, hg60, haL', hρ, ?_, ?_⟩
        · obtain ⟨n, rfl⟩ : ∃ k, n = k + 1 := ⟨n - 1, by omega⟩
          rw [fX0_giveAll_b15]
          simp (disch := omega) only [gl_0, gl_1, gl_2, gl_3, gl_4, gl_5, gl_6, gl_7, gl_8, gl_9, gl_10, gl_11, gl_12, gl_13, gl_14, gl_15, gl_16, gl_17, gl_18, gl_19, gl_20, gl_21, gl_22, gl_23, gl_24, gl_25, gl_26, gl_27, gl_28, gl_29, gl_30, gl_31, gl_32, gl_44, gl_48, gl_49, gl_57, gl_59, gl_60, gl_63, gl_70, gl_98, gl_99, gl_100, gl_101, gl_107, gl_109, gl_110, gl_111, gl_116, gl_120, gl_126, gl_155, gl_411, gl_999, gl_1000, gl_1233, gl_1644, gl_100000, gl_m1, nI_eq, nI_leI, nI_ltI, nI_add, nI_clamp, pk_mul, pk_sub, z_in, z_gt, z_bs, z_us, z_un, if_pos, if_neg, if_true, if_false, and_true, true_and, and_self, not_true_eq_false, not_false_eq_true, hC, hne, hG, C_reasonOf, zrsn_ans hr]
          exact hCC n (by omega)
        · intro ss was beg asi sta att rea got row oth R n hn
          obtain ⟨n, rfl⟩ : ∃ k, n = k + 1 := ⟨n - 1, by omega⟩
          obtain ⟨ss', got', row', oth', hM, R'⟩ := S_ok2 hL ht ha heL hC hG ss was beg asi sta att rea got row oth R
          rw [zrsn_ans hr] at hM
          obtain ⟨ss2, att2, rea2, got2, row2, oth2, h2⟩ := hFA ss' was beg asi sta att (nI 0) got' row' oth' R' n (by omega)
          refine ⟨ss2, att2, rea2, got2, row2, oth2, ?_, h2.2⟩
          rw [fX6_faulty_b35, e4]
          simp (disch := omega) only [gl_0, gl_1, gl_2, gl_3, gl_4, gl_5, gl_6, gl_7, gl_8, gl_9, gl_10, gl_11, gl_12, gl_13, gl_14, gl_15, gl_16, gl_17, gl_18, gl_19, gl_20, gl_21, gl_22, gl_23, gl_24, gl_25, gl_26, gl_27, gl_28, gl_29, gl_30, gl_31, gl_32, gl_44, gl_48, gl_49, gl_57, gl_59, gl_60, gl_63, gl_70, gl_98, gl_99, gl_100, gl_101, gl_107, gl_109, gl_110, gl_111, gl_116, gl_120, gl_126, gl_155, gl_411, gl_999, gl_1000, gl_1233, gl_1644, gl_100000, gl_m1, nI_eq, nI_leI, nI_ltI, nI_add, nI_clamp, pk_mul, pk_sub, z_in, z_gt, z_bs, z_us, z_un, if_pos, if_neg, if_true, if_false, and_true, true_and, and_self, not_true_eq_false, not_false_eq_true, hM]
          exact h2.1
        · intro hρ0 ss was beg asi sta att rea got row oth R n hn c
          obtain ⟨n, rfl⟩ : ∃ k, n = k + 1 := ⟨n - 1, by omega⟩
          obtain ⟨ss', got', row', oth', hM, R'⟩ := S_ok2 hL ht ha heL hC hG ss was beg asi sta att rea got row oth R
          rw [zrsn_ans hr] at hM
          obtain ⟨ss2, att2, got2, row2, oth2, h2, R2⟩ := hPL hρ0 ss' was beg asi sta att rea got' row' oth' R' n (by omega) (c + 1)
          refine ⟨ss2, att2, got2, row2, oth2, ?_, R2⟩
          rw [fX6_play_b23]
          simp (disch := omega) only [gl_0, gl_1, gl_2, gl_3, gl_4, gl_5, gl_6, gl_7, gl_8, gl_9, gl_10, gl_11, gl_12, gl_13, gl_14, gl_15, gl_16, gl_17, gl_18, gl_19, gl_20, gl_21, gl_22, gl_23, gl_24, gl_25, gl_26, gl_27, gl_28, gl_29, gl_30, gl_31, gl_32, gl_44, gl_48, gl_49, gl_57, gl_59, gl_60, gl_63, gl_70, gl_98, gl_99, gl_100, gl_101, gl_107, gl_109, gl_110, gl_111, gl_116, gl_120, gl_126, gl_155, gl_411, gl_999, gl_1000, gl_1233, gl_1644, gl_100000, gl_m1, nI_eq, nI_leI, nI_ltI, nI_add, nI_clamp, pk_mul, pk_sub, z_in, z_gt, z_bs, z_us, z_un, if_pos, if_neg, if_true, if_false, and_true, true_and, and_self, not_true_eq_false, not_false_eq_true, hM]
          rw [h2, show c + 1 + (g' - (g + 1)) = c + (g' - g) by omega]
      · -- it is refused
        obtain ⟨ρ, hρ1, hρ2, hρe⟩ : ∃ ρ, 2 ≤ ρ ∧ ρ ≤ 3 ∧ zrsn r = nI ρ := by
          rcases zrsn_err hr with h | h
          · exact ⟨2, by omega, by omega, h⟩
          · exact ⟨3, by omega, by omega, h⟩
        refine ⟨g, a, ρ, txt a, nu', ph', la', po', lo', ov', orr', nv', nr', ql', qk', qv', qr', wr', wa', wc', wk', fun n hn => ?_, Nat.le_refl g, by omega, by omega, hρ2, ?_, fun h => absurd h (by omega)⟩
        · obtain ⟨n, rfl⟩ : ∃ k, n = k + 1 := ⟨n - 1, by omega⟩
          rw [fX0_giveAll_b15]
          simp (disch := omega) only [gl_0, gl_1, gl_2, gl_3, gl_4, gl_5, gl_6, gl_7, gl_8, gl_9, gl_10, gl_11, gl_12, gl_13, gl_14, gl_15, gl_16, gl_17, gl_18, gl_19, gl_20, gl_21, gl_22, gl_23, gl_24, gl_25, gl_26, gl_27, gl_28, gl_29, gl_30, gl_31, gl_32, gl_44, gl_48, gl_49, gl_57, gl_59, gl_60, gl_63, gl_70, gl_98, gl_99, gl_100, gl_101, gl_107, gl_109, gl_110, gl_111, gl_116, gl_120, gl_126, gl_155, gl_411, gl_999, gl_1000, gl_1233, gl_1644, gl_100000, gl_m1, nI_eq, nI_leI, nI_ltI, nI_add, nI_clamp, pk_mul, pk_sub, z_in, z_gt, z_bs, z_us, z_un, if_pos, if_neg, if_true, if_false, and_true, true_and, and_self, not_true_eq_false, not_false_eq_true, hC, hne, hG, C_reasonOf, hρe]
        · intro ss was beg asi sta att rea got row oth R n hn
          obtain ⟨n, rfl⟩ : ∃ k, n = k + 1 + 1 := ⟨n - 2, by omega⟩
          obtain ⟨ss', got', row', oth', hM, R'⟩ := S_ok2 hL ht ha heL hC hG ss was beg asi sta att rea got row oth R
          rw [hρe] at hM
          have hne : ¬ nI a = -nI 1000004 := fun h => z_negk ⟨a, by omega, h⟩
          obtain ⟨ss2, e2, h2⟩ := hF n (nI a) ss' was beg asi sta (nI e) (nI ρ) got' row' oth' (Or.inr hne)
          refine ⟨ss2, nI e, nI ρ, got', row', oth', ?_, h2, fun _ => rfl⟩
          rw [fX6_faulty_b35, e4]
          simp (disch := omega) only [gl_0, gl_1, gl_2, gl_3, gl_4, gl_5, gl_6, gl_7, gl_8, gl_9, gl_10, gl_11, gl_12, gl_13, gl_14, gl_15, gl_16, gl_17, gl_18, gl_19, gl_20, gl_21, gl_22, gl_23, gl_24, gl_25, gl_26, gl_27, gl_28, gl_29, gl_30, gl_31, gl_32, gl_44, gl_48, gl_49, gl_57, gl_59, gl_60, gl_63, gl_70, gl_98, gl_99, gl_100, gl_101, gl_107, gl_109, gl_110, gl_111, gl_116, gl_120, gl_126, gl_155, gl_411, gl_999, gl_1000, gl_1233, gl_1644, gl_100000, gl_m1, nI_eq, nI_leI, nI_ltI, nI_add, nI_clamp, pk_mul, pk_sub, z_in, z_gt, z_bs, z_us, z_un, if_pos, if_neg, if_true, if_false, and_true, true_and, and_self, not_true_eq_false, not_false_eq_true, hM]
          exact e2
end T6
