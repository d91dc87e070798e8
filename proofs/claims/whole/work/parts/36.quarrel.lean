section MD6
variable {ss was beg asi : Nat → Int32} {sta : Int32} {txt : Nat → Int32} {typ att rea : Int32} {got row oth : Nat → Int32}
theorem M_quarrels {k p l q : Nat} {ov orr nv nr qk qv qr : Nat → Int32} (hk : k < 31) (hp : p ≤ 3) (hq8 : q ≤ 8) (h0 : ss 0 = nI p) (h3 : ss 3 = nI q) (hl : l ≤ 100000) (ho : RTs ss l 0 ov orr) (hn : RTs ss l 1 nv nr) (hq : RTq ss p l q qk qv qr) : ∃ row' oth', fX6_quarrels (nI k) ss was beg asi sta txt typ att rea got row oth = some (if zqu p q orr nv nr qk qr k = true then nI 1 else nI 0, ss, was, beg, asi, sta, txt, typ, att, rea, got, row', oth') := by
  have ha : zoo (zrr p q orr nv nr qk qr k 0) := (zrr_ok (s := 0) (by omega) hk ho hn hq hq8).old
  have hb : zok (zrr p q orr nv nr qk qr k 1) := zrr_ok (s := 1) (by omega) hk ho hn hq hq8
  obtain ⟨row1, e1, g1⟩ := M_reads (ss := ss) (was := was) (beg := beg) (asi := asi) (sta := sta) (txt := txt) (typ := typ) (att := att) (rea := rea) (got := got) (row := row) (oth := oth) hk (show 0 < 2 by omega) hp hq8 h0 h3 hl ho hn hq
  generalize hA : zrr p q orr nv nr qk qr k 0 = a at ha e1 g1
  generalize hB : zrr p q orr nv nr qk qr k 1 = b at hb
  have hrow1 : ∀ j, j < 4 → row1 j = zd 0 j a := fun j hj => by
    rcases (show j = 0 ∨ j = 1 ∨ j = 2 ∨ j = 3 by omega) with rfl | rfl | rfl | rfl
    · exact g1.1
    · exact g1.2.1
    · exact g1.2.2.1
    · exact g1.2.2.2
  have hfin : (if zqu p q orr nv nr qk qr k = true then nI 1 else nI 0) = (@ite Int32 (zdi (mo b (nI 0)) a 4) (Classical.propDecidable _) (nI 1) (nI 0)) := by
    have h4 := zdi_4 (mo_zoo hb) ha
    by_cases hh : a = mo b (nI 0)
    · have h5 : ¬ zdi (mo b (nI 0)) a 4 := fun q => h4.mp q hh.symm
      rw [if_neg h5]
      simp [zqu, hA, hB, ← hh]
    · have h5 : zdi (mo b (nI 0)) a 4 := h4.mpr (fun q => hh q.symm)
      rw [if_pos h5]
      simp [zqu, hA, hB, hh]
  rw [hfin]
  -- the comparing loop
  have hcmp : ∀ (row2 oth2 : Nat → Int32), (∀ j, j < 4 → row2 j = zd 0 j (mo b (nI 0))) → (∀ j, j < 4 → oth2 j = zd 0 j a) → ∀ N, 4 < N → fX6_quarrels_b60 N (if a = zN then nI 0 else nI 1) (if b = zN then nI 0 else nI 1) (@ite Int32 (zdi (mo b (nI 0)) a 1) (Classical.propDecidable _) (nI 1) (nI 0)) (nI 1) ss was beg asi sta txt typ att rea got row2 oth2 = some (@ite Int32 (zdi (mo b (nI 0)) a 4) (Classical.propDecidable _) (nI 1) (nI 0), ss, was, beg, asi, sta, txt, typ, att, rea, got, row2, oth2) := by
    intro row2 oth2 hr2 ho2 N hN
    refine z_loop (fun n i (x : Int32) => fX6_quarrels_b60 n (if a = zN then nI 0 else nI 1) (if b = zN then nI 0 else nI 1) x (nI i) ss was beg asi sta txt typ att rea got row2 oth2) 4 (fun i x => 0 < i ∧ x = @ite Int32 (zdi (mo b (nI 0)) a i) (Classical.propDecidable _) (nI 1) (nI 0)) (fun o => o = some (@ite Int32 (zdi (mo b (nI 0)) a 4) (Classical.propDecidable _) (nI 1) (nI 0), ss, was, beg, asi, sta, txt, typ, att, rea, got, row2, oth2)) ?_ ?_ N 1 _ (by omega) (by omega) ⟨by omega, rfl⟩
    · intro n i x hi ⟨hi0, hx⟩
      subst hx
      refine ⟨_, ⟨by omega, rfl⟩, ?_⟩
      simp (disch := omega) only [fX6_quarrels_b60, gl_4, gl_1, gl_0, nI_leI, z_in, z_gt, nI_clamp, nI_add, hr2, ho2]
      rw [if_neg (by omega)]
      by_cases h1 : zdi (mo b (nI 0)) a i
      · rw [if_pos h1, if_neg (by decide), if_pos ((zdi_s hi0).mpr (Or.inl h1))]
      · have h00 : zd 0 0 (mo b (nI 0)) = zd 0 0 a := Classical.byContradiction fun q => h1 (Or.inl q)
        rw [if_neg h1, if_pos rfl]
        by_cases haN : a = zN
        · have hC : ¬ zdi (mo b (nI 0)) a (i + 1) := fun q => by
            rcases (zdi_s hi0).mp q with q | q
            · exact h1 q
            · have := q.1
              rw [h00, haN, zd_N] at this
              exact absurd this (by decide)
          rw [if_pos haN, if_pos rfl, if_neg hC]
        · rw [if_neg haN, if_neg (by decide)]
          have hbN : ¬ b = zN := fun q => by
            rw [zd0, zd0, if_neg haN, if_pos ((mo_eqN (s := 0) (by omega) hb).mpr q)] at h00
            exact absurd h00 (by decide)
          rw [if_neg hbN, if_neg (by decide)]
          have hc1 : zd 0 0 (mo b (nI 0)) = nI 1 := by rw [zd0, if_neg (fun q => hbN ((mo_eqN (s := 0) (by omega) hb).mp q))]
          by_cases h3 : zd 0 i (mo b (nI 0)) = zd 0 i a
          · have hC : ¬ zdi (mo b (nI 0)) a (i + 1) := fun q => by
              rcases (zdi_s hi0).mp q with q | q
              · exact h1 q
              · exact q.2 h3
            rw [if_pos h3, if_neg hC]
          · rw [if_neg h3, if_pos ((zdi_s hi0).mpr (Or.inr ⟨hc1, h3⟩))]
    · intro n x ⟨_, hx⟩
      subst hx
      simp (disch := omega) only [fX6_quarrels_b60, gl_4, nI_leI]
      rw [if_pos (by omega), zo1, z_gt]
      by_cases h1 : zdi (mo b (nI 0)) a 4
      · rw [if_pos h1]; exact Or.inr rfl
      · rw [if_neg h1]; exact Or.inl rfl
  unfold fX6_quarrels
  rw [show (0 : Int32) = nI 0 from gl_0, e1, z_bs]
  refine z_loop (fun n i (oth : Nat → Int32) => fX6_quarrels_b9 n (nI k) (if a = zN then nI 0 else nI 1) (nI i) ss was beg asi sta txt typ att rea got row1 oth) 4 (fun i oth => ∀ j, j < i → oth j = zd 0 j a) (fun o => ∃ row' oth', o = some (@ite Int32 (zdi (mo b (nI 0)) a 4) (Classical.propDecidable _) (nI 1) (nI 0), ss, was, beg, asi, sta, txt, typ, att, rea, got, row', oth')) ?_ ?_ 2000 0 oth (by omega) (by omega) (fun j hj => absurd hj (by omega))
  · intro n i oth hi hoth
    refine ⟨upd oth i (row1 i), fun j hj => ?_, ?_⟩
    · by_cases hji : j = i
      · subst hji; rw [z_us]; exact hrow1 j (by omega)
      · rw [z_un hji]; exact hoth j (by omega)
    · simp (disch := omega) only [fX6_quarrels_b9, gl_4, gl_1, nI_leI, z_in, z_gt, nI_clamp, nI_add]
      rw [if_neg (by omega)]
  · intro n oth hoth
    obtain ⟨row2, e2, g2⟩ := M_reads (ss := ss) (was := was) (beg := beg) (asi := asi) (sta := sta) (txt := txt) (typ := typ) (att := att) (rea := rea) (got := got) (row := row1) (oth := oth) hk (show 1 < 2 by omega) hp hq8 h0 h3 hl ho hn hq
    rw [hB] at e2 g2
    obtain ⟨row3, e3, g3⟩ := M_makes (ss := ss) (was := was) (beg := beg) (asi := asi) (sta := sta) (txt := txt) (typ := typ) (att := att) (rea := rea) (got := got) (row := row2) (oth := oth) (show 1 < 2 by omega) (show 0 < 2 by omega) (fun e => absurd e (by omega)) hb g2
    refine ⟨row3, oth, ?_⟩
    have hrow3 : ∀ j, j < 4 → row3 j = zd 0 j (mo b (nI 0)) := fun j hj => by
      rcases (show j = 0 ∨ j = 1 ∨ j = 2 ∨ j = 3 by omega) with rfl | rfl | rfl | rfl
      · exact g3.1
      · exact g3.2.1
      · exact g3.2.2.1
      · exact g3.2.2.2
    simp (disch := omega) only [fX6_quarrels_b9, gl_4, gl_1, gl_0, nI_leI, e2, z_bs, e3]
    rw [if_pos (by omega)]
    have hgo := hcmp row3 oth hrow3 hoth 2000 (by omega)
    have hflag : (if a = zN then nI 0 else nI 1) = (if b = zN then nI 0 else nI 1) ↔ ¬ zdi (mo b (nI 0)) a 1 := by
      have hbN := mo_eqN (s := 0) (by omega) hb
      have hz : zd 0 0 (mo b (nI 0)) = (if b = zN then nI 0 else nI 1) := by
        rw [zd0]
        by_cases h6 : b = zN
        · rw [if_pos h6, if_pos (hbN.mpr h6)]
        · rw [if_neg h6, if_neg (fun q => h6 (hbN.mp q))]
      rw [zdi_1, hz, zd0 0 a]
      exact ⟨fun h q => q h.symm, fun h => (Classical.byContradiction h).symm⟩
    by_cases h7 : zdi (mo b (nI 0)) a 1
    · rw [if_pos h7] at hgo
      rw [if_neg (fun q => hflag.mp q h7)]
      exact hgo
    · rw [if_neg h7] at hgo
      rw [if_pos (hflag.mpr h7)]
      exact hgo
theorem M_quarrel {p l q : Nat} {ov orr nv nr qk qv qr : Nat → Int32} (hp : p ≤ 3) (hq8 : q ≤ 8) (h0 : ss 0 = nI p) (h3 : ss 3 = nI q) (hl : l ≤ 100000) (ho : RTs ss l 0 ov orr) (hn : RTs ss l 1 nv nr) (hq : RTq ss p l q qk qv qr) : ∃ row' oth', fX6_quarrel ss was beg asi sta txt typ att rea got row oth = some (z_bits (zqu p q orr nv nr qk qr) 31, ss, was, beg, asi, sta, txt, typ, att, rea, got, row', oth') := by
  unfold fX6_quarrel
  rw [show (0 : Int32) = nI 0 from gl_0]
  refine z_gather (fun n i x (ro : (Nat → Int32) × (Nat → Int32)) => fX6_quarrel_b4 n x (nI i) ss was beg asi sta txt typ att rea got ro.1 ro.2) (zqu p q orr nv nr qk qr) (fun _ => True) (fun o => ∃ row' oth', o = some (z_bits (zqu p q orr nv nr qk qr) 31, ss, was, beg, asi, sta, txt, typ, att, rea, got, row', oth')) ?_ ?_ (row, oth) trivial 2000 (by omega)
  · rintro n i x ⟨row, oth⟩ hi _
    obtain ⟨row', oth', e⟩ := M_quarrels (ss := ss) (was := was) (beg := beg) (asi := asi) (sta := sta) (txt := txt) (typ := typ) (att := att) (rea := rea) (got := got) (row := row) (oth := oth) hi hp hq8 h0 h3 hl ho hn hq
    refine ⟨(row', oth'), trivial, ?_⟩
    dsimp only
    simp (disch := omega) only [fX6_quarrel_b4, gl_31, gl_1, gl_0, nI_leI, nI_add, e, z_bs, z_or0]
    rw [if_neg (by omega)]
    by_cases h : zqu p q orr nv nr qk qr i = true
    · simp only [if_pos h]
      rw [if_neg (by decide)]
    · simp only [if_neg h]
      rw [if_pos trivial]
  · rintro n ⟨row, oth⟩ _
    refine ⟨row, oth, ?_⟩
    dsimp only
    simp (disch := omega) only [fX6_quarrel_b4, gl_31, nI_leI]
    rw [if_pos (by omega)]
end MD6
