/-! reading a row, on the model's side; the sets and counts -/
theorem zd0 (s : Nat) (r : Int32) : zd s 0 r = if r = zN then nI 0 else nI 1 := by
  unfold zd
  by_cases h : r = zN
  · rw [if_pos h, if_pos h]
  · rw [if_neg h, if_neg h]
    rfl
theorem mo_eqN {r : Int32} {s : Nat} (hs : s < 2) (h : zok r) : mo r (nI s) = zN ↔ r = zN := by
  rcases h with rfl | ⟨n, hn, rfl⟩
  · simp [mo_N]
  · rcases (show s = 0 ∨ s = 1 by omega) with rfl | rfl
    · rw [mo_0 hn]
      have := zmo_lt hn
      exact ⟨fun e => (z_m1 (by omega) e).elim, fun e => (z_m1 (by omega) e).elim⟩
    · rw [mo_1]
theorem zrr_ok {p q k s l : Nat} {ss ov orr nv nr qk qv qr : Nat → Int32} (hs : s < 2) (hk : k < 31) (h0 : RTs ss l 0 ov orr) (h1 : RTs ss l 1 nv nr) (hq : RTq ss p l q qk qv qr) (hq8 : q ≤ 8) : zv s (zrr p q orr nv nr qk qr k s) := by
  unfold zrr
  have a0 := (h0 k hk).2.2.1.ok
  have a1 := (h1 k hk).2.2.1.ok
  split
  · rename_i h
    rcases zlat_or qk (nI k) q with e | ⟨i, hi, e, -⟩
    · exact absurd e h.1
    · rw [e, nI_clamp (by omega)]
      exact zv_mo hs (hq i hi).2.2.2.2.2.1
  · split <;> (refine zv_mo hs ?_; split <;> assumption)
section MD3
variable {ss was beg asi : Nat → Int32} {sta : Int32} {txt : Nat → Int32} {typ att rea : Int32} {got row oth : Nat → Int32}
theorem M_r156 {k s f l : Nat} {ver rw0 : Nat → Int32} (hk : k < 31) (hs : s < 2) (hf : f < 2) (h : RTs ss l f ver rw0) : ∃ row', fX6_reads_b156 (nI k) (nI s) (nI f) ss was beg asi sta txt typ att rea got row oth = some (if mo (rw0 k) (nI s) = zN then nI 0 else nI 1, ss, was, beg, asi, sta, txt, typ, att, rea, got, row', oth) ∧ RowIs row' s (mo (rw0 k) (nI s)) := by
  obtain ⟨-, hr, hv, -⟩ := h k hk
  obtain ⟨row1, e1, g1⟩ := M_takesIs (ss := ss) (was := was) (beg := beg) (asi := asi) (sta := sta) (txt := txt) (typ := typ) (att := att) (rea := rea) (got := got) (row := row) (oth := oth) hf hk hr
  obtain ⟨row2, e2, g2⟩ := M_makes (ss := ss) (was := was) (beg := beg) (asi := asi) (sta := sta) (txt := txt) (typ := typ) (att := att) (rea := rea) (got := got) (row := row1) (oth := oth) hf hs (fun e => by subst e; exact hv) hv.ok g1
  refine ⟨row2, ?_, g2⟩
  simp (disch := omega) only [fX6_reads_b156, e1, e2, z_bs, gl_0, gl_1, gl_2, gl_3, gl_4, gl_5, gl_6, gl_7, gl_8, gl_9, gl_10, gl_11, gl_12, gl_13, gl_14, gl_15, gl_16, gl_17, gl_18, gl_19, gl_20, gl_21, gl_22, gl_23, gl_24, gl_25, gl_26, gl_27, gl_28, gl_29, gl_30, gl_31, gl_32, gl_44, gl_48, gl_49, gl_57, gl_59, gl_60, gl_63, gl_70, gl_98, gl_99, gl_100, gl_101, gl_107, gl_109, gl_110, gl_111, gl_116, gl_120, gl_126, gl_155, gl_411, gl_999, gl_1000, gl_1233, gl_1644, gl_100000, gl_m1, z_in, z_gt, nI_clamp, g2.1, zd0]
  by_cases hz : mo (rw0 k) (nI s) = zN
  · simp only [if_pos hz]
    rw [if_neg (by decide)]
  · simp only [if_neg hz]
    rfl
theorem M_r126 {k s f p l : Nat} {ov orr nv nr : Nat → Int32} (hk : k < 31) (hs : s < 2) (hf : f < 2) (hp : p ≤ 3) (h0 : ss 0 = nI p) (hl : l ≤ 100000) (ho : RTs ss l 0 ov orr) (hn : RTs ss l 1 nv nr) : ∃ row', fX6_reads_b126 (nI k) (nI s) (nI f) ss was beg asi sta txt typ att rea got row oth = some (if mo (if (p = 1 ∧ s = 1 ∧ nv k = nI 0) ∨ f = 0 then orr k else nr k) (nI s) = zN then nI 0 else nI 1, ss, was, beg, asi, sta, txt, typ, att, rea, got, row', oth) ∧ RowIs row' s (mo (if (p = 1 ∧ s = 1 ∧ nv k = nI 0) ∨ f = 0 then orr k else nr k) (nI s)) := by
  have hnk : ss (101 + 155 * 1 + 5 * k + 0) = nv k := (hn k hk).1
  have key : fX6_reads_b126 (nI k) (nI s) (nI f) ss was beg asi sta txt typ att rea got row oth = fX6_reads_b156 (nI k) (nI s) (nI (if p = 1 ∧ s = 1 ∧ nv k = nI 0 then 0 else f)) ss was beg asi sta txt typ att rea got row oth := by
    simp (disch := omega) only [fX6_reads_b126, fX6_reads_b155, gl_0, gl_1, gl_2, gl_3, gl_4, gl_5, gl_6, gl_7, gl_8, gl_9, gl_10, gl_11, gl_12, gl_13, gl_14, gl_15, gl_16, gl_17, gl_18, gl_19, gl_20, gl_21, gl_22, gl_23, gl_24, gl_25, gl_26, gl_27, gl_28, gl_29, gl_30, gl_31, gl_32, gl_44, gl_48, gl_49, gl_57, gl_59, gl_60, gl_63, gl_70, gl_98, gl_99, gl_100, gl_101, gl_107, gl_109, gl_110, gl_111, gl_116, gl_120, gl_126, gl_155, gl_411, gl_999, gl_1000, gl_1233, gl_1644, gl_100000, gl_m1, z_in, z_gt, nI_clamp, h0, nI_eq, M_of, z_bs, hnk]
    by_cases h1 : p = 1
    · rw [if_pos h1]
      by_cases h2 : s = 1
      · rw [if_pos h2]
        by_cases h3 : nv k = nI 0
        · rw [if_pos h3, if_pos ⟨h1, h2, h3⟩]
        · rw [if_neg h3, if_neg (fun e => h3 e.2.2)]
      · rw [if_neg h2, if_neg (fun e => h2 e.2.1)]
    · rw [if_neg h1, if_neg (fun e => h1 e.1)]
  rw [key]
  by_cases hc : p = 1 ∧ s = 1 ∧ nv k = nI 0
  · have hA : (p = 1 ∧ s = 1 ∧ nv k = nI 0) ∨ f = 0 := Or.inl hc
    rw [if_pos hc, if_pos hA]
    exact M_r156 hk hs (by omega) ho
  · simp only [if_neg hc]
    rcases (show f = 0 ∨ f = 1 by omega) with rfl | rfl
    · have hA : (p = 1 ∧ s = 1 ∧ nv k = nI 0) ∨ 0 = 0 := Or.inr rfl
      rw [if_pos hA]
      exact M_r156 hk hs (by omega) ho
    · have hA : ¬ ((p = 1 ∧ s = 1 ∧ nv k = nI 0) ∨ 1 = 0) := by
        rintro (h | h)
        · exact hc h
        · omega
      rw [if_neg hA]
      exact M_r156 hk hs (by omega) hn
theorem M_reads {k s p l q : Nat} {ov orr nv nr qk qv qr : Nat → Int32} (hk : k < 31) (hs : s < 2) (hp : p ≤ 3) (hq8 : q ≤ 8) (h0 : ss 0 = nI p) (h3 : ss 3 = nI q) (hl : l ≤ 100000) (ho : RTs ss l 0 ov orr) (hn : RTs ss l 1 nv nr) (hq : RTq ss p l q qk qv qr) : ∃ row', fX6_reads (nI k) (nI s) ss was beg asi sta txt typ att rea got row oth = some (if zrr p q orr nv nr qk qr k s = zN then nI 0 else nI 1, ss, was, beg, asi, sta, txt, typ, att, rea, got, row', oth) ∧ RowIs row' s (zrr p q orr nv nr qk qr k s) := by
  have hf : (if (s = 0 ∧ p = 3) ∨ (s = 1 ∧ p = 0) then 1 - s else s) < 2 := by split <;> omega
  have key : fX6_reads (nI k) (nI s) ss was beg asi sta txt typ att rea got row oth = fX6_reads_b15 (nI k) (nI s) (nI (if (s = 0 ∧ p = 3) ∨ (s = 1 ∧ p = 0) then 1 - s else s)) ss was beg asi sta txt typ att rea got row oth := by
    unfold fX6_reads
    rw [M_isThere hp hs h0, z_bs]
    simp (disch := omega) only [gl_0, gl_1, gl_2, gl_3, gl_4, gl_5, gl_6, gl_7, gl_8, gl_9, gl_10, gl_11, gl_12, gl_13, gl_14, gl_15, gl_16, gl_17, gl_18, gl_19, gl_20, gl_21, gl_22, gl_23, gl_24, gl_25, gl_26, gl_27, gl_28, gl_29, gl_30, gl_31, gl_32, gl_44, gl_48, gl_49, gl_57, gl_59, gl_60, gl_63, gl_70, gl_98, gl_99, gl_100, gl_101, gl_107, gl_109, gl_110, gl_111, gl_116, gl_120, gl_126, gl_155, gl_411, gl_999, gl_1000, gl_1233, gl_1644, gl_100000, gl_m1, pk_sub]
    by_cases hc : (s = 0 ∧ p = 3) ∨ (s = 1 ∧ p = 0)
    · simp only [if_pos hc]
      rw [if_pos trivial]
    · simp only [if_neg hc]
      rw [if_neg (by decide)]
  have hin : (if (p = 1 ∧ s = 1 ∧ nv k = nI 0) ∨ (if (s = 0 ∧ p = 3) ∨ (s = 1 ∧ p = 0) then 1 - s else s) = 0 then orr k else nr k) = (if (p = 1 ∧ s = 1 ∧ nv k = nI 0) ∨ (s = 0 ∧ p = 3) ∨ (s = 1 ∧ p = 0) then (if s = 0 then nr k else orr k) else (if s = 0 then orr k else nr k)) := by
    by_cases hv : nv k = nI 0 <;> rcases (show p = 0 ∨ p = 1 ∨ p = 2 ∨ p = 3 by omega) with rfl | rfl | rfl | rfl <;> rcases (show s = 0 ∨ s = 1 by omega) with rfl | rfl <;> simp [hv]
  have h126 := M_r126 (ss := ss) (was := was) (beg := beg) (asi := asi) (sta := sta) (txt := txt) (typ := typ) (att := att) (rea := rea) (got := got) (row := row) (oth := oth) hk hs hf hp h0 hl ho hn
  rw [hin] at h126
  have hmo : mo (if (p = 1 ∧ s = 1 ∧ nv k = nI 0) ∨ (s = 0 ∧ p = 3) ∨ (s = 1 ∧ p = 0) then (if s = 0 then nr k else orr k) else (if s = 0 then orr k else nr k)) (nI s) = (if (p = 1 ∧ s = 1 ∧ nv k = nI 0) ∨ (s = 0 ∧ p = 3) ∨ (s = 1 ∧ p = 0) then mo (if s = 0 then nr k else orr k) (nI s) else mo (if s = 0 then orr k else nr k) (nI s)) := by
    split <;> rfl
  rw [hmo] at h126
  rw [key]
  unfold fX6_reads_b15
  rw [M_latest hq8 h3 (fun i hi => (hq i hi).1), z_bs]
  unfold zrr
  rcases zlat_or qk (nI k) q with h | ⟨i, hi, h, -⟩
  · have hA : ¬ (¬ zlat qk (nI k) q = zN ∧ s = zsec p) := fun e => e.1 h
    rw [if_neg hA, h]
    simp only [gl_0, gl_1, gl_2, gl_3, gl_4, gl_5, gl_6, gl_7, gl_8, gl_9, gl_10, gl_11, gl_12, gl_13, gl_14, gl_15, gl_16, gl_17, gl_18, gl_19, gl_20, gl_21, gl_22, gl_23, gl_24, gl_25, gl_26, gl_27, gl_28, gl_29, gl_30, gl_31, gl_32, gl_44, gl_48, gl_49, gl_57, gl_59, gl_60, gl_63, gl_70, gl_98, gl_99, gl_100, gl_101, gl_107, gl_109, gl_110, gl_111, gl_116, gl_120, gl_126, gl_155, gl_411, gl_999, gl_1000, gl_1233, gl_1644, gl_100000, gl_m1]
    rw [if_pos zN_neg]
    exact h126
  · obtain ⟨b0, b1, b2, b3, b4, b5, -⟩ := hq i hi
    have hzs := zsec_lt p
    have hnN : ¬ zlat qk (nI k) q = zN := by rw [h]; exact z_m1 (by omega)
    by_cases hsec : s = zsec p
    · subst hsec
      have hA : ¬ zlat qk (nI k) q = zN ∧ zsec p = zsec p := ⟨hnN, rfl⟩
      rw [if_pos hA, h, nI_clamp (by omega)]
      simp (disch := omega) only [gl_0, gl_1, gl_2, gl_3, gl_4, gl_5, gl_6, gl_7, gl_8, gl_9, gl_10, gl_11, gl_12, gl_13, gl_14, gl_15, gl_16, gl_17, gl_18, gl_19, gl_20, gl_21, gl_22, gl_23, gl_24, gl_25, gl_26, gl_27, gl_28, gl_29, gl_30, gl_31, gl_32, gl_44, gl_48, gl_49, gl_57, gl_59, gl_60, gl_63, gl_70, gl_98, gl_99, gl_100, gl_101, gl_107, gl_109, gl_110, gl_111, gl_116, gl_120, gl_126, gl_155, gl_411, gl_999, gl_1000, gl_1233, gl_1644, gl_100000, gl_m1, nI_add, pk_mul, z_in, z_gt, nI_clamp, show 14 + 7 * i + 2 = 16 + 7 * i by omega, show 14 + 7 * i + 3 = 17 + 7 * i by omega, b2, b3]
      rw [if_neg (z_neg (by omega)), if_pos trivial]
      have r0 : nI 1 - (if qr i = zN then nI 1 else nI 0) = zd (zsec p) 0 (mo (qr i) (nI (zsec p))) := by
        rw [zd0]
        by_cases hz : qr i = zN
        · rw [if_pos hz, if_pos ((mo_eqN hzs b5).mpr hz)]
          decide
        · rw [if_neg hz, if_neg (fun e => hz ((mo_eqN hzs b5).mp e))]
          decide
      rw [r0]
      generalize hN : (2000 : Nat) = N
      refine z_loop (fun n m (row : Nat → Int32) => fX6_reads_b73 n (nI i) (nI m) ss was beg asi sta txt typ att rea got row oth) 4 (fun m row => 0 < m ∧ ∀ j, j < m → row j = zd (zsec p) j (mo (qr i) (nI (zsec p)))) (fun o => ∃ row', o = some (if mo (qr i) (nI (zsec p)) = zN then nI 0 else nI 1, ss, was, beg, asi, sta, txt, typ, att, rea, got, row', oth) ∧ RowIs row' (zsec p) (mo (qr i) (nI (zsec p)))) ?_ ?_ N 1 _ (by omega) (by omega) ⟨by omega, fun j hj => by
        have : j = 0 := by omega
        subst this
        exact z_us⟩
      · intro n m row hm ⟨hm0, hrow⟩
        refine ⟨upd row m (zd (zsec p) m (mo (qr i) (nI (zsec p)))), ⟨by omega, fun j hj => ?_⟩, ?_⟩
        · by_cases hjm : j = m
          · subst hjm; exact z_us
          · rw [z_un hjm]; exact hrow j (by omega)
        · simp (disch := omega) only [fX6_reads_b73, gl_0, gl_1, gl_2, gl_3, gl_4, gl_5, gl_6, gl_7, gl_8, gl_9, gl_10, gl_11, gl_12, gl_13, gl_14, gl_15, gl_16, gl_17, gl_18, gl_19, gl_20, gl_21, gl_22, gl_23, gl_24, gl_25, gl_26, gl_27, gl_28, gl_29, gl_30, gl_31, gl_32, gl_44, gl_48, gl_49, gl_57, gl_59, gl_60, gl_63, gl_70, gl_98, gl_99, gl_100, gl_101, gl_107, gl_109, gl_110, gl_111, gl_116, gl_120, gl_126, gl_155, gl_411, gl_999, gl_1000, gl_1233, gl_1644, gl_100000, gl_m1, nI_add, pk_mul, z_in, z_gt, nI_clamp, nI_leI, show 14 + 7 * i + 3 + m = 17 + 7 * i + m by omega, b4 m hm0 hm]
          rw [if_neg (by omega)]
      · intro n row ⟨_, hrow⟩
        refine ⟨row, ?_, hrow 0 (by omega), hrow 1 (by omega), hrow 2 (by omega), hrow 3 (by omega)⟩
        simp (disch := omega) only [fX6_reads_b73, gl_0, gl_1, gl_2, gl_3, gl_4, gl_5, gl_6, gl_7, gl_8, gl_9, gl_10, gl_11, gl_12, gl_13, gl_14, gl_15, gl_16, gl_17, gl_18, gl_19, gl_20, gl_21, gl_22, gl_23, gl_24, gl_25, gl_26, gl_27, gl_28, gl_29, gl_30, gl_31, gl_32, gl_44, gl_48, gl_49, gl_57, gl_59, gl_60, gl_63, gl_70, gl_98, gl_99, gl_100, gl_101, gl_107, gl_109, gl_110, gl_111, gl_116, gl_120, gl_126, gl_155, gl_411, gl_999, gl_1000, gl_1233, gl_1644, gl_100000, gl_m1, z_in, z_gt, nI_clamp, nI_leI, hrow 0, zd0]
        rw [if_pos (by omega)]
        by_cases hz : mo (qr i) (nI (zsec p)) = zN
        · simp only [if_pos hz]
          rw [if_neg (by decide)]
        · simp only [if_neg hz]
          rfl
    · have hA : ¬ (¬ zlat qk (nI k) q = zN ∧ s = zsec p) := fun e => hsec e.2
      rw [if_neg hA, h]
      simp (disch := omega) only [gl_0, gl_1, gl_2, gl_3, gl_4, gl_5, gl_6, gl_7, gl_8, gl_9, gl_10, gl_11, gl_12, gl_13, gl_14, gl_15, gl_16, gl_17, gl_18, gl_19, gl_20, gl_21, gl_22, gl_23, gl_24, gl_25, gl_26, gl_27, gl_28, gl_29, gl_30, gl_31, gl_32, gl_44, gl_48, gl_49, gl_57, gl_59, gl_60, gl_63, gl_70, gl_98, gl_99, gl_100, gl_101, gl_107, gl_109, gl_110, gl_111, gl_116, gl_120, gl_126, gl_155, gl_411, gl_999, gl_1000, gl_1233, gl_1644, gl_100000, gl_m1, nI_add, pk_mul, z_in, z_gt, nI_clamp, show 14 + 7 * i + 2 = 16 + 7 * i by omega, b2, nI_eq]
      rw [if_neg (z_neg (by omega)), if_neg (fun e => hsec e.symm)]
      exact h126
end MD3
