/-! which keys differ, which quarrel, which are read, on the model's side -/
section MD5
variable {ss was beg asi : Nat → Int32} {sta : Int32} {txt : Nat → Int32} {typ att rea : Int32} {got row oth : Nat → Int32}
/-- whether a difference has been found among the places before i -/
def zdi (a b : Int32) (i : Nat) : Prop := ¬ zd 0 0 a = zd 0 0 b ∨ (zd 0 0 a = nI 1 ∧ ∃ j, 0 < j ∧ j < i ∧ ¬ zd 0 j a = zd 0 j b)
theorem zdi_4 {a b : Int32} (ha : zoo a) (hb : zoo b) : zdi a b 4 ↔ ¬ a = b := by
  constructor
  · rintro h rfl
    rcases h with h | ⟨-, j, -, -, h⟩
    · exact h rfl
    · exact h rfl
  · intro h
    apply Classical.byContradiction
    intro h2
    have h3 : zd 0 0 a = zd 0 0 b := Classical.byContradiction fun q => h2 (Or.inl q)
    refine h (zd_inj ha hb h3 (fun h4 => ?_))
    have h5 : ∀ j, 0 < j → j < 4 → zd 0 j a = zd 0 j b := fun j j0 j4 => Classical.byContradiction fun q => h2 (Or.inr ⟨h4, j, j0, j4, q⟩)
    exact ⟨h5 1 (by omega) (by omega), h5 2 (by omega) (by omega), h5 3 (by omega) (by omega)⟩
theorem zdi_1 (a b : Int32) : zdi a b 1 ↔ ¬ zd 0 0 a = zd 0 0 b := by
  constructor
  · rintro (h | ⟨-, j, j0, j1, -⟩)
    · exact h
    · omega
  · exact Or.inl
theorem zdi_s {a b : Int32} {i : Nat} (hi : 0 < i) : zdi a b (i + 1) ↔ zdi a b i ∨ (zd 0 0 a = nI 1 ∧ ¬ zd 0 i a = zd 0 i b) := by
  constructor
  · rintro (h | ⟨h, j, j0, j1, h2⟩)
    · exact Or.inl (Or.inl h)
    · by_cases hj : j = i
      · subst hj; exact Or.inr ⟨h, h2⟩
      · exact Or.inl (Or.inr ⟨h, j, j0, by omega, h2⟩)
  · rintro ((h | ⟨h, j, j0, j1, h2⟩) | ⟨h, h2⟩)
    · exact Or.inl h
    · exact Or.inr ⟨h, j, j0, by omega, h2⟩
    · exact Or.inr ⟨h, i, hi, by omega, h2⟩
theorem M_differs {k l : Nat} {ov orr nv nr : Nat → Int32} (hk : k < 31) (ho : RTs ss l 0 ov orr) (hn : RTs ss l 1 nv nr) : ∃ row', fX6_differs (nI k) ss was beg asi sta txt typ att rea got row oth = some (if zdf ov orr nv nr k = true then nI 1 else nI 0, ss, was, beg, asi, sta, txt, typ, att, rea, got, row', oth) := by
  obtain ⟨o1, o2, o3, -⟩ := ho k hk
  obtain ⟨n1, n2, n3, -⟩ := hn k hk
  have ofo : ∀ {row oth : Nat → Int32} (j : Nat), j < 4 → fX6_of (nI 0) (nI k) (nI (1 + j)) ss was beg asi sta txt typ att rea got row oth = some (zd 0 j (orr k)) := by
    intro row oth j hj
    rw [M_of (by omega) hk (by omega), show 101 + 155 * 0 + 5 * k + (1 + j) = 102 + 155 * 0 + 5 * k + j by omega]
    rcases (show j = 0 ∨ j = 1 ∨ j = 2 ∨ j = 3 by omega) with rfl | rfl | rfl | rfl
    · exact congrArg some o2.1
    · exact congrArg some o2.2.1
    · exact congrArg some o2.2.2.1
    · exact congrArg some o2.2.2.2
  unfold fX6_differs
  simp (disch := omega) only [gl_0, gl_1, M_of, z_bs, Nat.add_zero, o1, n1]
  by_cases hv : ov k = nv k
  · rw [if_pos hv]
    obtain ⟨row1, e1, g1⟩ := M_takesIs (ss := ss) (was := was) (beg := beg) (asi := asi) (sta := sta) (txt := txt) (typ := typ) (att := att) (rea := rea) (got := got) (row := row) (oth := oth) (show 1 < 2 by omega) hk n2
    obtain ⟨row2, e2, g2⟩ := M_makes (ss := ss) (was := was) (beg := beg) (asi := asi) (sta := sta) (txt := txt) (typ := typ) (att := att) (rea := rea) (got := got) (row := row1) (oth := oth) (show 1 < 2 by omega) (show 0 < 2 by omega) (fun e => absurd e (by omega)) n3.ok g1
    refine ⟨row2, ?_⟩
    rw [e1, z_bs, e2, z_bs]
    simp (disch := omega) only [z_in, z_gt, nI_clamp]
    have ho1 : ss (101 + 155 * 0 + 5 * k + 1) = zd 0 0 (orr k) := by
      rw [show 101 + 155 * 0 + 5 * k + 1 = 102 + 155 * 0 + 5 * k + 0 by omega]
      exact o2.1
    rw [ho1, g2.1]
    have hrow : ∀ j, j < 4 → row2 j = zd 0 j (mo (nr k) (nI 0)) := fun j hj => by
      rcases (show j = 0 ∨ j = 1 ∨ j = 2 ∨ j = 3 by omega) with rfl | rfl | rfl | rfl
      · exact g2.1
      · exact g2.2.1
      · exact g2.2.2.1
      · exact g2.2.2.2
    have hfin : (if zdf ov orr nv nr k = true then nI 1 else nI 0) = (@ite Int32 (zdi (mo (nr k) (nI 0)) (orr k) 4) (Classical.propDecidable _) (nI 1) (nI 0)) := by
      have h4 := zdi_4 (mo_zoo n3.ok) o3
      by_cases hh : orr k = mo (nr k) (nI 0)
      · have h5 : ¬ zdi (mo (nr k) (nI 0)) (orr k) 4 := fun q => h4.mp q hh.symm
        rw [if_neg h5]
        simp [zdf, hv, ← hh]
      · have h5 : zdi (mo (nr k) (nI 0)) (orr k) 4 := h4.mpr (fun q => hh q.symm)
        rw [if_pos h5]
        simp [zdf, hh]
    rw [hfin]
    have hgo : ∀ N, 4 < N → fX6_differs_b55 N (nI k) (@ite Int32 (zdi (mo (nr k) (nI 0)) (orr k) 1) (Classical.propDecidable _) (nI 1) (nI 0)) (nI 1) ss was beg asi sta txt typ att rea got row2 oth = some (@ite Int32 (zdi (mo (nr k) (nI 0)) (orr k) 4) (Classical.propDecidable _) (nI 1) (nI 0), ss, was, beg, asi, sta, txt, typ, att, rea, got, row2, oth) := by
      intro N hN
      refine z_loop (fun n i (x : Int32) => fX6_differs_b55 n (nI k) x (nI i) ss was beg asi sta txt typ att rea got row2 oth) 4 (fun i x => 0 < i ∧ x = @ite Int32 (zdi (mo (nr k) (nI 0)) (orr k) i) (Classical.propDecidable _) (nI 1) (nI 0)) (fun o => o = some (@ite Int32 (zdi (mo (nr k) (nI 0)) (orr k) 4) (Classical.propDecidable _) (nI 1) (nI 0), ss, was, beg, asi, sta, txt, typ, att, rea, got, row2, oth)) ?_ ?_ N 1 _ (by omega) (by omega) ⟨by omega, rfl⟩
      · intro n i x hi ⟨hi0, hx⟩
        subst hx
        refine ⟨_, ⟨by omega, rfl⟩, ?_⟩
        simp (disch := omega) only [fX6_differs_b55, gl_4, gl_1, gl_0, nI_leI, z_in, z_gt, nI_clamp, nI_add, hrow, ofo, z_bs]
        rw [if_neg (by omega)]
        by_cases h1 : zdi (mo (nr k) (nI 0)) (orr k) i
        · rw [if_pos h1, if_neg (by decide), if_pos ((zdi_s hi0).mpr (Or.inl h1))]
        · rw [if_neg h1, if_pos rfl]
          by_cases h2 : zd 0 0 (mo (nr k) (nI 0)) = nI 1
          · rw [if_pos h2]
            by_cases h3 : zd 0 i (mo (nr k) (nI 0)) = zd 0 i (orr k)
            · rw [if_pos h3, if_neg (fun q => by
                rcases (zdi_s hi0).mp q with q | q
                · exact h1 q
                · exact q.2 h3)]
            · rw [if_neg h3, if_pos ((zdi_s hi0).mpr (Or.inr ⟨h2, h3⟩))]
          · rw [if_neg h2, if_neg (fun q => by
              rcases (zdi_s hi0).mp q with q | q
              · exact h1 q
              · exact h2 q.1)]
      · intro n x ⟨_, hx⟩
        subst hx
        simp (disch := omega) only [fX6_differs_b55, gl_4, nI_leI]
        rw [if_pos (by omega), zo1, z_gt]
        by_cases h1 : zdi (mo (nr k) (nI 0)) (orr k) 4
        · rw [if_pos h1]; exact Or.inr rfl
        · rw [if_neg h1]; exact Or.inl rfl
    have hgo := hgo 2000 (by omega)
    by_cases h1 : zd 0 0 (mo (nr k) (nI 0)) = zd 0 0 (orr k)
    · have h2 : ¬ zdi (mo (nr k) (nI 0)) (orr k) 1 := fun q => (zdi_1 _ _).mp q h1
      rw [if_neg h2] at hgo
      rw [if_pos h1]
      exact hgo
    · have h2 : zdi (mo (nr k) (nI 0)) (orr k) 1 := (zdi_1 _ _).mpr h1
      rw [if_pos h2] at hgo
      rw [if_neg h1]
      exact hgo
  · rw [if_neg hv]
    refine ⟨row, ?_⟩
    rw [show zdf ov orr nv nr k = true by simp [zdf, hv], if_pos rfl]
theorem M_differing {l : Nat} {ov orr nv nr : Nat → Int32} (ho : RTs ss l 0 ov orr) (hn : RTs ss l 1 nv nr) : ∃ row', fX6_differing ss was beg asi sta txt typ att rea got row oth = some (z_bits (zdf ov orr nv nr) 31, ss, was, beg, asi, sta, txt, typ, att, rea, got, row', oth) := by
  unfold fX6_differing
  rw [show (0 : Int32) = nI 0 from gl_0]
  refine z_gather (fun n i x (row : Nat → Int32) => fX6_differing_b4 n x (nI i) ss was beg asi sta txt typ att rea got row oth) (zdf ov orr nv nr) (fun _ => True) (fun o => ∃ row', o = some (z_bits (zdf ov orr nv nr) 31, ss, was, beg, asi, sta, txt, typ, att, rea, got, row', oth)) ?_ ?_ row trivial 2000 (by omega)
  · intro n i x row hi _
    obtain ⟨row', e⟩ := M_differs (ss := ss) (was := was) (beg := beg) (asi := asi) (sta := sta) (txt := txt) (typ := typ) (att := att) (rea := rea) (got := got) (row := row) (oth := oth) hi ho hn
    refine ⟨row', trivial, ?_⟩
    simp (disch := omega) only [fX6_differing_b4, gl_31, gl_1, gl_0, nI_leI, nI_add, e, z_bs, z_or0]
    rw [if_neg (by omega)]
    by_cases h : zdf ov orr nv nr i = true
    · simp only [if_pos h]
      rw [if_neg (by decide)]
    · simp only [if_neg h]
      rw [if_pos trivial]
  · intro n row _
    refine ⟨row, ?_⟩
    simp (disch := omega) only [fX6_differing_b4, gl_31, nI_leI]
    rw [if_pos (by omega)]
theorem M_readable {s p l q : Nat} {ov orr nv nr qk qv qr : Nat → Int32} (hs : s < 2) (hp : p ≤ 3) (hq8 : q ≤ 8) (h0 : ss 0 = nI p) (h3 : ss 3 = nI q) (hl : l ≤ 100000) (ho : RTs ss l 0 ov orr) (hn : RTs ss l 1 nv nr) (hq : RTq ss p l q qk qv qr) : ∃ row', fX6_readable (nI s) ss was beg asi sta txt typ att rea got row oth = some (z_bits (zkr p q orr nv nr qk qr s) 31, ss, was, beg, asi, sta, txt, typ, att, rea, got, row', oth) := by
  unfold fX6_readable
  rw [show (0 : Int32) = nI 0 from gl_0]
  refine z_gather (fun n i x (row : Nat → Int32) => fX6_readable_b4 n (nI s) x (nI i) ss was beg asi sta txt typ att rea got row oth) (zkr p q orr nv nr qk qr s) (fun _ => True) (fun o => ∃ row', o = some (z_bits (zkr p q orr nv nr qk qr s) 31, ss, was, beg, asi, sta, txt, typ, att, rea, got, row', oth)) ?_ ?_ row trivial 2000 (by omega)
  · intro n i x row hi _
    obtain ⟨row', e, -⟩ := M_reads (ss := ss) (was := was) (beg := beg) (asi := asi) (sta := sta) (txt := txt) (typ := typ) (att := att) (rea := rea) (got := got) (row := row) (oth := oth) hi hs hp hq8 h0 h3 hl ho hn hq
    refine ⟨row', trivial, ?_⟩
    simp (disch := omega) only [fX6_readable_b4, gl_31, gl_1, gl_0, nI_leI, nI_add, e, z_bs, z_or0]
    rw [if_neg (by omega)]
    by_cases h : zrr p q orr nv nr qk qr i s = zN
    · simp only [if_pos h]
      rw [if_pos trivial, if_neg (by simp [zkr, h])]
    · simp only [if_neg h]
      rw [if_neg (by decide), if_pos (by simp [zkr, h])]
  · intro n row _
    refine ⟨row, ?_⟩
    simp (disch := omega) only [fX6_readable_b4, gl_31, nI_leI]
    rw [if_pos (by omega)]
theorem M_isReady {p l q x : Nat} {ov orr nv nr : Nat → Int32} (hp : p ≤ 3) (hq8 : q ≤ 8) (hx : x ≤ 31) (h0 : ss 0 = nI p) (h2 : p = 1 → ss 2 = nI x) (h3 : ss 3 = nI q) (ho : RTs ss l 0 ov orr) (hn : RTs ss l 1 nv nr) : ∃ row', fX6_isReady ss was beg asi sta txt typ att rea got row oth = some (if p = 1 ∧ x = 31 ∧ q = 0 ∧ z_bits (zdf ov orr nv nr) 31 = nI 0 then nI 1 else nI 0, ss, was, beg, asi, sta, txt, typ, att, rea, got, row', oth) := by
  unfold fX6_isReady
  simp (disch := omega) only [gl_0, gl_1, gl_2, gl_3, gl_31, z_in, z_gt, nI_clamp, h0, nI_eq, h3]
  by_cases hp1 : p = 1
  · rw [if_pos hp1, h2 hp1]
    simp (disch := omega) only [nI_eq]
    by_cases hx1 : x = 31
    · rw [if_pos hx1]
      by_cases hq1 : q = 0
      · rw [if_pos hq1]
        obtain ⟨row', e⟩ := M_differing (ss := ss) (was := was) (beg := beg) (asi := asi) (sta := sta) (txt := txt) (typ := typ) (att := att) (rea := rea) (got := got) (row := row) (oth := oth) ho hn
        refine ⟨row', ?_⟩
        rw [e, z_bs]
        by_cases hd : z_bits (zdf ov orr nv nr) 31 = nI 0
        · rw [if_pos hd, if_pos ⟨hp1, hx1, hq1, hd⟩]
        · rw [if_neg hd, if_neg (fun h => hd h.2.2.2)]
      · refine ⟨row, ?_⟩
        rw [if_neg hq1, if_neg (fun h => hq1 h.2.2.1)]
    · refine ⟨row, ?_⟩
      rw [if_neg hx1, if_neg (fun h => hx1 h.2.1)]
  · refine ⟨row, ?_⟩
    rw [if_neg hp1, if_neg (fun h => hp1 h.1)]
end MD5
section CD5
variable {la lo : Int32} {ov orr nv nr : Nat → Int32} {qk qv qr wr : Nat → Int32} {wa : Int32} {wc wk : Nat → Int32}
theorem C_isReady {p q x : Nat} (hp : p ≤ 3) (hq8 : q ≤ 8) (hx : x ≤ 31) : fX4_isReady (nI p) la (nI x) lo ov orr nv nr (nI q) qk qv qr wr wa wc wk = some (if p = 1 ∧ x = 31 ∧ q = 0 ∧ z_bits (zdf ov orr nv nr) 31 = nI 0 then nI 1 else nI 0) := by
  unfold fX4_isReady
  simp (disch := omega) only [gl_0, gl_1, gl_31, nI_eq, C_differing, z_bs]
  by_cases hp1 : p = 1 <;> by_cases hx1 : x = 31 <;> by_cases hq1 : q = 0 <;> by_cases hd : z_bits (zdf ov orr nv nr) 31 = nI 0 <;> simp [hp1, hx1, hq1, hd]
end CD5
