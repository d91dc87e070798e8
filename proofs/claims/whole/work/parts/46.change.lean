/-! changes: each of them with the states it records -/
def ChOK (ss0 was : Nat → Int32) (s : Nat) (txt : Nat → Int32) (typ : Int32) (t0 : Int32 × Int32 × Int32 × Int32 × (Nat → Int32) × (Nat → Int32) × (Nat → Int32) × (Nat → Int32) × Int32 × (Nat → Int32) × (Nat → Int32) × (Nat → Int32) × (Nat → Int32) × Int32 × (Nat → Int32) × (Nat → Int32)) (oC : Option (Int32 × Int32 × Int32 × Int32 × Int32 × (Nat → Int32) × (Nat → Int32) × (Nat → Int32) × (Nat → Int32) × Int32 × (Nat → Int32) × (Nat → Int32) × (Nat → Int32) × (Nat → Int32) × Int32 × (Nat → Int32) × (Nat → Int32))) (oM : Option (Int32 × (Nat → Int32) × (Nat → Int32) × (Nat → Int32) × (Nat → Int32) × Int32 × (Nat → Int32) × Int32 × Int32 × Int32 × (Nat → Int32) × (Nat → Int32) × (Nat → Int32))) : Prop :=
  ∃ (r : Int32) (p l x q : Nat) (lo : Int32) (ov orr nv nr qk qv qr wr : Nat → Int32) (wa : Int32) (wc wk ss' was' beg' asi' : Nat → Int32) (s' : Nat) (att' rea' : Int32) (got' row' oth' : Nat → Int32), oC = some (r, nI p, nI l, nI x, lo, ov, orr, nv, nr, nI q, qk, qv, qr, wr, wa, wc, wk) ∧ oM = some (r, ss', was', beg', asi', nI s', txt, typ, att', rea', got', row', oth') ∧ RT ss' p l x lo ov orr nv nr q qk qv qr wr wa wc wk ∧ ((zerr r ∧ (nI p, nI l, nI x, lo, ov, orr, nv, nr, nI q, qk, qv, qr, wr, wa, wc, wk) = t0 ∧ s' = s ∧ was' = was) ∨ (zans r ∧ Acted ss0 was s was' s'))
theorem zeM (o : Option (Int32 × (Nat → Int32) × (Nat → Int32) × (Nat → Int32) × (Nat → Int32) × Int32 × (Nat → Int32) × Int32 × Int32 × Int32 × (Nat → Int32) × (Nat → Int32) × (Nat → Int32))) : (o.bind fun r => some r) = o := by cases o <;> rfl
section MD16
variable {ss was beg asi : Nat → Int32} {s : Nat} {txt : Nat → Int32} {typ att rea : Int32} {got row oth : Nat → Int32}
theorem Ch_of {ss0 beg' : Nat → Int32} {t0 : Int32 × Int32 × Int32 × Int32 × (Nat → Int32) × (Nat → Int32) × (Nat → Int32) × (Nat → Int32) × Int32 × (Nat → Int32) × (Nat → Int32) × (Nat → Int32) × (Nat → Int32) × Int32 × (Nat → Int32) × (Nat → Int32)} {oC : Option (Int32 × Int32 × Int32 × Int32 × Int32 × (Nat → Int32) × (Nat → Int32) × (Nat → Int32) × (Nat → Int32) × Int32 × (Nat → Int32) × (Nat → Int32) × (Nat → Int32) × (Nat → Int32) × Int32 × (Nat → Int32) × (Nat → Int32))} {oM oM' : Option (Int32 × (Nat → Int32) × (Nat → Int32) × (Nat → Int32) × (Nat → Int32) × Int32 × (Nat → Int32) × Int32 × Int32 × Int32 × (Nat → Int32) × (Nat → Int32) × (Nat → Int32))} (h : OpOK was beg' asi (nI s) txt typ att rea got t0 oC oM) (hb : ∀ i, i < 411 → beg' i = ss0 i) (hs : s ≤ 4) (hM : ∀ r ss' row' oth', oM = some (r, ss', was, beg', asi, nI s, txt, typ, att, rea, got, row', oth') → oM' = fX6_acted r ss' was beg' asi (nI s) txt typ att rea got row' oth') : ChOK ss0 was s txt typ t0 oC oM' := by
  obtain ⟨r, p, l, x, q, lo, ov, orr, nv, nr, qk, qv, qr, wr, wa, wc, wk, ss', row', oth', e1, e2, hR, hz⟩ := h
  rw [hM r ss' row' oth' e2]
  rcases hz with hz | ⟨hz, ht⟩
  · obtain ⟨was', s', e3, hA⟩ := M_acted (ss := ss') (row := row') (oth := oth') (asi := asi) (txt := txt) (typ := typ) (att := att) (rea := rea) (got := got) (was := was) hz hs hb
    exact ⟨r, p, l, x, q, lo, ov, orr, nv, nr, qk, qv, qr, wr, wa, wc, wk, ss', was', beg', asi, s', att, rea, got, row', oth', e1, e3, hR, Or.inr ⟨hz, hA⟩⟩
  · exact ⟨r, p, l, x, q, lo, ov, orr, nv, nr, qk, qv, qr, wr, wa, wc, wk, ss', was, beg', asi, s, att, rea, got, row', oth', e1, M_acted_err hz, hR, Or.inl ⟨hz, ht, rfl, rfl⟩⟩
variable {p l x : Nat} {lo : Int32} {ov orr nv nr : Nat → Int32} {q : Nat} {qk qv qr wr : Nat → Int32} {wa : Int32} {wc wk : Nat → Int32}
theorem P_turn (R : RT ss p l x lo ov orr nv nr q qk qv qr wr wa wc wk) (hs : s ≤ 4) : ChOK ss was s txt typ (nI p, nI l, nI x, lo, ov, orr, nv, nr, nI q, qk, qv, qr, wr, wa, wc, wk) (fX4_turnOver  (nI p) (nI l) (nI x) lo ov orr nv nr (nI q) qk qv qr wr wa wc wk) (fX6_turn  ss was beg asi (nI s) txt typ att rea got row oth) := by
  unfold fX6_turn
  obtain ⟨beg', ek, hb⟩ := M_keeps (ss := ss) (beg := beg) (sta := nI s) (row := row) (was := was) (asi := asi) (txt := txt) (typ := typ) (att := att) (rea := rea) (got := got) (oth := oth)
  rw [ek, z_bs]
  refine Ch_of (S_turns (beg := beg') (sta := nI s) (row := row) (was := was) (asi := asi) (txt := txt) (typ := typ) (att := att) (rea := rea) (got := got) (oth := oth) R ) hb hs (fun r ss' row' oth' e => ?_)
  dsimp only
  rw [e, z_bs]
  exact zeM _
theorem P_back (R : RT ss p l x lo ov orr nv nr q qk qv qr wr wa wc wk) (hs : s ≤ 4) : ChOK ss was s txt typ (nI p, nI l, nI x, lo, ov, orr, nv, nr, nI q, qk, qv, qr, wr, wa, wc, wk) (fX4_turnBack  (nI p) (nI l) (nI x) lo ov orr nv nr (nI q) qk qv qr wr wa wc wk) (fX6_back  ss was beg asi (nI s) txt typ att rea got row oth) := by
  unfold fX6_back
  obtain ⟨beg', ek, hb⟩ := M_keeps (ss := ss) (beg := beg) (sta := nI s) (row := row) (was := was) (asi := asi) (txt := txt) (typ := typ) (att := att) (rea := rea) (got := got) (oth := oth)
  rw [ek, z_bs]
  refine Ch_of (S_turnsBack (beg := beg') (sta := nI s) (row := row) (was := was) (asi := asi) (txt := txt) (typ := typ) (att := att) (rea := rea) (got := got) (oth := oth) R ) hb hs (fun r ss' row' oth' e => ?_)
  dsimp only
  rw [e, z_bs]
  exact zeM _
theorem P_writeOld (R : RT ss p l x lo ov orr nv nr q qk qv qr wr wa wc wk) (hs : s ≤ 4) (y a b c : Int32) : ChOK ss was s txt typ (nI p, nI l, nI x, lo, ov, orr, nv, nr, nI q, qk, qv, qr, wr, wa, wc, wk) (fX4_putOld y a b c (nI p) (nI l) (nI x) lo ov orr nv nr (nI q) qk qv qr wr wa wc wk) (fX6_writeOld y a b c ss was beg asi (nI s) txt typ att rea got row oth) := by
  unfold fX6_writeOld
  obtain ⟨beg', ek, hb⟩ := M_keeps (ss := ss) (beg := beg) (sta := nI s) (row := row) (was := was) (asi := asi) (txt := txt) (typ := typ) (att := att) (rea := rea) (got := got) (oth := oth)
  rw [ek, z_bs]
  refine Ch_of (S_writesOld (beg := beg') (sta := nI s) (row := row) (was := was) (asi := asi) (txt := txt) (typ := typ) (att := att) (rea := rea) (got := got) (oth := oth) R y a b c) hb hs (fun r ss' row' oth' e => ?_)
  dsimp only
  rw [e, z_bs]
  exact zeM _
theorem P_writeNew (R : RT ss p l x lo ov orr nv nr q qk qv qr wr wa wc wk) (hs : s ≤ 4) (y a b : Int32) : ChOK ss was s txt typ (nI p, nI l, nI x, lo, ov, orr, nv, nr, nI q, qk, qv, qr, wr, wa, wc, wk) (fX4_putNew y a b (nI p) (nI l) (nI x) lo ov orr nv nr (nI q) qk qv qr wr wa wc wk) (fX6_writeNew y a b ss was beg asi (nI s) txt typ att rea got row oth) := by
  unfold fX6_writeNew
  obtain ⟨beg', ek, hb⟩ := M_keeps (ss := ss) (beg := beg) (sta := nI s) (row := row) (was := was) (asi := asi) (txt := txt) (typ := typ) (att := att) (rea := rea) (got := got) (oth := oth)
  rw [ek, z_bs]
  refine Ch_of (S_writesNew (beg := beg') (sta := nI s) (row := row) (was := was) (asi := asi) (txt := txt) (typ := typ) (att := att) (rea := rea) (got := got) (oth := oth) R y a b) hb hs (fun r ss' row' oth' e => ?_)
  dsimp only
  rw [e, z_bs]
  exact zeM _
theorem P_remove (R : RT ss p l x lo ov orr nv nr q qk qv qr wr wa wc wk) (hs : s ≤ 4) (y : Int32) : ChOK ss was s txt typ (nI p, nI l, nI x, lo, ov, orr, nv, nr, nI q, qk, qv, qr, wr, wa, wc, wk) (fX4_takeAway y (nI p) (nI l) (nI x) lo ov orr nv nr (nI q) qk qv qr wr wa wc wk) (fX6_remove y ss was beg asi (nI s) txt typ att rea got row oth) := by
  unfold fX6_remove
  obtain ⟨beg', ek, hb⟩ := M_keeps (ss := ss) (beg := beg) (sta := nI s) (row := row) (was := was) (asi := asi) (txt := txt) (typ := typ) (att := att) (rea := rea) (got := got) (oth := oth)
  rw [ek, z_bs]
  refine Ch_of (S_removes (beg := beg') (sta := nI s) (row := row) (was := was) (asi := asi) (txt := txt) (typ := typ) (att := att) (rea := rea) (got := got) (oth := oth) R y) hb hs (fun r ss' row' oth' e => ?_)
  dsimp only
  rw [e, z_bs]
  exact zeM _
theorem P_drain (R : RT ss p l x lo ov orr nv nr q qk qv qr wr wa wc wk) (hs : s ≤ 4) (y : Int32) : ChOK ss was s txt typ (nI p, nI l, nI x, lo, ov, orr, nv, nr, nI q, qk, qv, qr, wr, wa, wc, wk) (fX4_drainQueue y (nI p) (nI l) (nI x) lo ov orr nv nr (nI q) qk qv qr wr wa wc wk) (fX6_drain y ss was beg asi (nI s) txt typ att rea got row oth) := by
  unfold fX6_drain
  obtain ⟨beg', ek, hb⟩ := M_keeps (ss := ss) (beg := beg) (sta := nI s) (row := row) (was := was) (asi := asi) (txt := txt) (typ := typ) (att := att) (rea := rea) (got := got) (oth := oth)
  rw [ek, z_bs]
  refine Ch_of (S_drains (beg := beg') (sta := nI s) (row := row) (was := was) (asi := asi) (txt := txt) (typ := typ) (att := att) (rea := rea) (got := got) (oth := oth) R y) hb hs (fun r ss' row' oth' e => ?_)
  dsimp only
  rw [e, z_bs]
  exact zeM _
theorem P_backfill (R : RT ss p l x lo ov orr nv nr q qk qv qr wr wa wc wk) (hs : s ≤ 4) (y : Int32) : ChOK ss was s txt typ (nI p, nI l, nI x, lo, ov, orr, nv, nr, nI q, qk, qv, qr, wr, wa, wc, wk) (fX4_fillKeys y (nI p) (nI l) (nI x) lo ov orr nv nr (nI q) qk qv qr wr wa wc wk) (fX6_backfill y ss was beg asi (nI s) txt typ att rea got row oth) := by
  unfold fX6_backfill
  obtain ⟨beg', ek, hb⟩ := M_keeps (ss := ss) (beg := beg) (sta := nI s) (row := row) (was := was) (asi := asi) (txt := txt) (typ := typ) (att := att) (rea := rea) (got := got) (oth := oth)
  rw [ek, z_bs]
  refine Ch_of (S_fills (beg := beg') (sta := nI s) (row := row) (was := was) (asi := asi) (txt := txt) (typ := typ) (att := att) (rea := rea) (got := got) (oth := oth) R y) hb hs (fun r ss' row' oth' e => ?_)
  dsimp only
  rw [e, z_bs]
  exact zeM _
theorem P_mend (R : RT ss p l x lo ov orr nv nr q qk qv qr wr wa wc wk) (hs : s ≤ 4) (y : Int32) : ChOK ss was s txt typ (nI p, nI l, nI x, lo, ov, orr, nv, nr, nI q, qk, qv, qr, wr, wa, wc, wk) (fX4_mendKey y (nI p) (nI l) (nI x) lo ov orr nv nr (nI q) qk qv qr wr wa wc wk) (fX6_mend y ss was beg asi (nI s) txt typ att rea got row oth) := by
  unfold fX6_mend
  obtain ⟨beg', ek, hb⟩ := M_keeps (ss := ss) (beg := beg) (sta := nI s) (row := row) (was := was) (asi := asi) (txt := txt) (typ := typ) (att := att) (rea := rea) (got := got) (oth := oth)
  rw [ek, z_bs]
  refine Ch_of (S_mends (beg := beg') (sta := nI s) (row := row) (was := was) (asi := asi) (txt := txt) (typ := typ) (att := att) (rea := rea) (got := got) (oth := oth) R y) hb hs (fun r ss' row' oth' e => ?_)
  dsimp only
  rw [e, z_bs]
  exact zeM _
theorem P_no {oC : Option (Int32 × Int32 × Int32 × Int32 × Int32 × (Nat → Int32) × (Nat → Int32) × (Nat → Int32) × (Nat → Int32) × Int32 × (Nat → Int32) × (Nat → Int32) × (Nat → Int32) × (Nat → Int32) × Int32 × (Nat → Int32) × (Nat → Int32))} {oM : Option (Int32 × (Nat → Int32) × (Nat → Int32) × (Nat → Int32) × (Nat → Int32) × Int32 × (Nat → Int32) × Int32 × Int32 × Int32 × (Nat → Int32) × (Nat → Int32) × (Nat → Int32))} {row' oth' : Nat → Int32} {r : Int32} (R : RT ss p l x lo ov orr nv nr q qk qv qr wr wa wc wk) (hr : zerr r) (e1 : oC = some (r, nI p, nI l, nI x, lo, ov, orr, nv, nr, nI q, qk, qv, qr, wr, wa, wc, wk)) (e2 : oM = some (r, ss, was, beg, asi, nI s, txt, typ, att, rea, got, row', oth')) : ChOK ss was s txt typ (nI p, nI l, nI x, lo, ov, orr, nv, nr, nI q, qk, qv, qr, wr, wa, wc, wk) oC oM :=
  ⟨r, p, l, x, q, lo, ov, orr, nv, nr, qk, qv, qr, wr, wa, wc, wk, ss, was, beg, asi, s, att, rea, got, row', oth', e1, e2, R, Or.inl ⟨hr, rfl, rfl, rfl⟩⟩
theorem P_begin (R : RT ss p l x lo ov orr nv nr q qk qv qr wr wa wc wk) (hs : s ≤ 4) : ChOK ss was s txt typ (nI p, nI l, nI x, lo, ov, orr, nv, nr, nI q, qk, qv, qr, wr, wa, wc, wk) (fX4_startChange (nI p) (nI l) (nI x) lo ov orr nv nr (nI q) qk qv qr wr wa wc wk) (fX6_begin ss was beg asi (nI s) txt typ att rea got row oth) := by
  have R0 := R
  obtain ⟨⟨hp, hq, hl, hx, hqp⟩, ⟨a0, a1, a2, a3, a4⟩, r0, r1, rq, rl, rw', rp0, rp3⟩ := R
  unfold fX4_startChange fX6_begin
  by_cases hp0 : p = 0
  · subst hp0
    have hq0 : q = 0 := by
      rcases Nat.eq_zero_or_pos q with h | h
      · exact h
      · exact absurd (hqp (by omega)) (by omega)
    subst hq0
    obtain ⟨beg', ek, hb⟩ := M_keeps (ss := ss) (beg := beg) (sta := nI s) (row := row) (was := was) (asi := asi) (txt := txt) (typ := typ) (att := att) (rea := rea) (got := got) (oth := oth)
    obtain ⟨ss', em, h1, h2⟩ := M_clears (sh := 1) (ss := upd (upd ss 0 (nI 1)) 2 (nI 0)) (beg := beg') (sta := nI s) (row := row) (was := was) (asi := asi) (txt := txt) (typ := typ) (att := att) (rea := rea) (got := got) (oth := oth) (by omega)
    have r0' : RTs ss' l 0 ov orr := RTs_congr r0 (fun i i1 i2 => by rw [h2 i (by omega), z_un (by omega), z_un (by omega)])
    obtain ⟨was', s', ea, hA⟩ := M_acted (r := nI (z_cnt (zP orr) 31)) (ss := ss') (row := row) (oth := oth) (asi := asi) (txt := txt) (typ := typ) (att := att) (rea := rea) (got := got) (was := was) (zans_n (by have := z_cnt_le (zP orr) 31; omega)) hs hb
    refine ⟨nI (z_cnt (zP orr) 31), 1, l, 0, 0, lo, ov, orr, nv, nr, qk, qv, qr, wr, wa, wc, wk, ss', was', beg', asi, s', att, rea, got, row, oth, ?_, ?_, ?_, Or.inr ⟨zans_n (by have := z_cnt_le (zP orr) 31; omega), hA⟩⟩
    · simp (disch := omega) only [gl_0, gl_1, gl_2, gl_3, gl_4, gl_5, gl_6, gl_7, gl_8, gl_9, gl_10, gl_11, gl_12, gl_13, gl_14, gl_15, gl_16, gl_17, gl_18, gl_19, gl_20, gl_21, gl_22, gl_23, gl_24, gl_25, gl_26, gl_27, gl_28, gl_29, gl_30, gl_31, gl_32, gl_44, gl_48, gl_49, gl_57, gl_59, gl_60, gl_63, gl_70, gl_98, gl_99, gl_100, gl_101, gl_107, gl_109, gl_110, gl_111, gl_116, gl_120, gl_126, gl_155, gl_411, gl_999, gl_1000, gl_1233, gl_1644, gl_100000, gl_m1, nI_eq, nI_leI, nI_ltI, nI_add, nI_clamp, pk_mul, pk_sub, z_in, z_gt, z_bs, z_us, z_un, if_pos, if_neg, if_true, if_false, and_true, true_and, and_self, not_true_eq_false, not_false_eq_true, C_rows]
    · simp (disch := omega) only [gl_0, gl_1, gl_2, gl_3, gl_4, gl_5, gl_6, gl_7, gl_8, gl_9, gl_10, gl_11, gl_12, gl_13, gl_14, gl_15, gl_16, gl_17, gl_18, gl_19, gl_20, gl_21, gl_22, gl_23, gl_24, gl_25, gl_26, gl_27, gl_28, gl_29, gl_30, gl_31, gl_32, gl_44, gl_48, gl_49, gl_57, gl_59, gl_60, gl_63, gl_70, gl_98, gl_99, gl_100, gl_101, gl_107, gl_109, gl_110, gl_111, gl_116, gl_120, gl_126, gl_155, gl_411, gl_999, gl_1000, gl_1233, gl_1644, gl_100000, gl_m1, nI_eq, nI_leI, nI_ltI, nI_add, nI_clamp, pk_mul, pk_sub, z_in, z_gt, z_bs, z_us, z_un, if_pos, if_neg, if_true, if_false, and_true, true_and, and_self, not_true_eq_false, not_false_eq_true, a0, ek, em, M_rows (show 0 < 2 by omega) r0', ea]
    · refine ⟨⟨by omega, by omega, hl, by omega, fun h => absurd rfl h⟩, ⟨?_, ?_, fun _ => ?_, ?_, ?_⟩, r0', RTs_cleared h1 (rp0 rfl), fun i hi => absurd hi (by omega), ?_, ?_, fun h => absurd h (by omega), fun h => absurd h (by omega)⟩
      · rw [h2 0 (by omega), z_un (by omega), z_us]
      · rw [h2 1 (by omega), z_un (by omega), z_un (by omega)]; exact a1
      · rw [h2 2 (by omega), z_us]
      · rw [h2 3 (by omega), z_un (by omega), z_un (by omega)]; exact a3
      · rw [h2 4 (by omega), z_un (by omega), z_un (by omega)]; exact a4
      · exact fun k hk => by rw [h2 _ (by omega), z_un (by omega), z_un (by omega)]; exact rl k hk
      · exact RTw_congr rw' (fun i i1 i2 => by rw [h2 i (by omega), z_un (by omega), z_un (by omega)])
  · exact P_no (beg := beg) (asi := asi) (att := att) (rea := rea) (got := got) (row' := row) (oth' := oth) R0 (Or.inr (Or.inl rfl)) (by simp (disch := omega) only [gl_0, gl_1, gl_2, gl_3, gl_4, gl_5, gl_6, gl_7, gl_8, gl_9, gl_10, gl_11, gl_12, gl_13, gl_14, gl_15, gl_16, gl_17, gl_18, gl_19, gl_20, gl_21, gl_22, gl_23, gl_24, gl_25, gl_26, gl_27, gl_28, gl_29, gl_30, gl_31, gl_32, gl_44, gl_48, gl_49, gl_57, gl_59, gl_60, gl_63, gl_70, gl_98, gl_99, gl_100, gl_101, gl_107, gl_109, gl_110, gl_111, gl_116, gl_120, gl_126, gl_155, gl_411, gl_999, gl_1000, gl_1233, gl_1644, gl_100000, gl_m1, nI_eq, nI_leI, nI_ltI, nI_add, nI_clamp, pk_mul, pk_sub, z_in, z_gt, z_bs, z_us, z_un, if_pos, if_neg, if_true, if_false, and_true, true_and, and_self, not_true_eq_false, not_false_eq_true]) (by simp (disch := omega) only [gl_0, gl_1, gl_2, gl_3, gl_4, gl_5, gl_6, gl_7, gl_8, gl_9, gl_10, gl_11, gl_12, gl_13, gl_14, gl_15, gl_16, gl_17, gl_18, gl_19, gl_20, gl_21, gl_22, gl_23, gl_24, gl_25, gl_26, gl_27, gl_28, gl_29, gl_30, gl_31, gl_32, gl_44, gl_48, gl_49, gl_57, gl_59, gl_60, gl_63, gl_70, gl_98, gl_99, gl_100, gl_101, gl_107, gl_109, gl_110, gl_111, gl_116, gl_120, gl_126, gl_155, gl_411, gl_999, gl_1000, gl_1233, gl_1644, gl_100000, gl_m1, nI_eq, nI_leI, nI_ltI, nI_add, nI_clamp, pk_mul, pk_sub, z_in, z_gt, z_bs, z_us, z_un, if_pos, if_neg, if_true, if_false, and_true, true_and, and_self, not_true_eq_false, not_false_eq_true, a0])
theorem P_drop (R : RT ss p l x lo ov orr nv nr q qk qv qr wr wa wc wk) (hs : s ≤ 4) : ChOK ss was s txt typ (nI p, nI l, nI x, lo, ov, orr, nv, nr, nI q, qk, qv, qr, wr, wa, wc, wk) (fX4_dropOld (nI p) (nI l) (nI x) lo ov orr nv nr (nI q) qk qv qr wr wa wc wk) (fX6_drop ss was beg asi (nI s) txt typ att rea got row oth) := by
  have R0 := R
  obtain ⟨⟨hp, hq, hl, hx, hqp⟩, ⟨a0, a1, a2, a3, a4⟩, r0, r1, rq, rl, rw', rp0, rp3⟩ := R
  unfold fX4_dropOld fX6_drop
  by_cases hp2 : p = 2
  rotate_left
  · exact P_no (beg := beg) (asi := asi) (att := att) (rea := rea) (got := got) (row' := row) (oth' := oth) R0 (Or.inr (Or.inl rfl)) (by simp (disch := omega) only [gl_0, gl_1, gl_2, gl_3, gl_4, gl_5, gl_6, gl_7, gl_8, gl_9, gl_10, gl_11, gl_12, gl_13, gl_14, gl_15, gl_16, gl_17, gl_18, gl_19, gl_20, gl_21, gl_22, gl_23, gl_24, gl_25, gl_26, gl_27, gl_28, gl_29, gl_30, gl_31, gl_32, gl_44, gl_48, gl_49, gl_57, gl_59, gl_60, gl_63, gl_70, gl_98, gl_99, gl_100, gl_101, gl_107, gl_109, gl_110, gl_111, gl_116, gl_120, gl_126, gl_155, gl_411, gl_999, gl_1000, gl_1233, gl_1644, gl_100000, gl_m1, nI_eq, nI_leI, nI_ltI, nI_add, nI_clamp, pk_mul, pk_sub, z_in, z_gt, z_bs, z_us, z_un, if_pos, if_neg, if_true, if_false, and_true, true_and, and_self, not_true_eq_false, not_false_eq_true]) (by simp (disch := omega) only [gl_0, gl_1, gl_2, gl_3, gl_4, gl_5, gl_6, gl_7, gl_8, gl_9, gl_10, gl_11, gl_12, gl_13, gl_14, gl_15, gl_16, gl_17, gl_18, gl_19, gl_20, gl_21, gl_22, gl_23, gl_24, gl_25, gl_26, gl_27, gl_28, gl_29, gl_30, gl_31, gl_32, gl_44, gl_48, gl_49, gl_57, gl_59, gl_60, gl_63, gl_70, gl_98, gl_99, gl_100, gl_101, gl_107, gl_109, gl_110, gl_111, gl_116, gl_120, gl_126, gl_155, gl_411, gl_999, gl_1000, gl_1233, gl_1644, gl_100000, gl_m1, nI_eq, nI_leI, nI_ltI, nI_add, nI_clamp, pk_mul, pk_sub, z_in, z_gt, z_bs, z_us, z_un, if_pos, if_neg, if_true, if_false, and_true, true_and, and_self, not_true_eq_false, not_false_eq_true, a0])
  subst hp2
  by_cases hq0 : q = 0
  rotate_left
  · exact P_no (beg := beg) (asi := asi) (att := att) (rea := rea) (got := got) (row' := row) (oth' := oth) R0 (Or.inr (Or.inl rfl)) (by simp (disch := omega) only [gl_0, gl_1, gl_2, gl_3, gl_4, gl_5, gl_6, gl_7, gl_8, gl_9, gl_10, gl_11, gl_12, gl_13, gl_14, gl_15, gl_16, gl_17, gl_18, gl_19, gl_20, gl_21, gl_22, gl_23, gl_24, gl_25, gl_26, gl_27, gl_28, gl_29, gl_30, gl_31, gl_32, gl_44, gl_48, gl_49, gl_57, gl_59, gl_60, gl_63, gl_70, gl_98, gl_99, gl_100, gl_101, gl_107, gl_109, gl_110, gl_111, gl_116, gl_120, gl_126, gl_155, gl_411, gl_999, gl_1000, gl_1233, gl_1644, gl_100000, gl_m1, nI_eq, nI_leI, nI_ltI, nI_add, nI_clamp, pk_mul, pk_sub, z_in, z_gt, z_bs, z_us, z_un, if_pos, if_neg, if_true, if_false, and_true, true_and, and_self, not_true_eq_false, not_false_eq_true]) (by simp (disch := omega) only [gl_0, gl_1, gl_2, gl_3, gl_4, gl_5, gl_6, gl_7, gl_8, gl_9, gl_10, gl_11, gl_12, gl_13, gl_14, gl_15, gl_16, gl_17, gl_18, gl_19, gl_20, gl_21, gl_22, gl_23, gl_24, gl_25, gl_26, gl_27, gl_28, gl_29, gl_30, gl_31, gl_32, gl_44, gl_48, gl_49, gl_57, gl_59, gl_60, gl_63, gl_70, gl_98, gl_99, gl_100, gl_101, gl_107, gl_109, gl_110, gl_111, gl_116, gl_120, gl_126, gl_155, gl_411, gl_999, gl_1000, gl_1233, gl_1644, gl_100000, gl_m1, nI_eq, nI_leI, nI_ltI, nI_add, nI_clamp, pk_mul, pk_sub, z_in, z_gt, z_bs, z_us, z_un, if_pos, if_neg, if_true, if_false, and_true, true_and, and_self, not_true_eq_false, not_false_eq_true, a0, a3])
  subst hq0
  obtain ⟨row1, ed⟩ := M_differing (beg := beg) (sta := nI s) (row := row) (was := was) (asi := asi) (txt := txt) (typ := typ) (att := att) (rea := rea) (got := got) (oth := oth) r0 r1
  by_cases hd : z_bits (zdf ov orr nv nr) 31 = nI 0
  rotate_left
  · exact P_no (beg := beg) (asi := asi) (att := att) (rea := rea) (got := got) (row' := row1) (oth' := oth) R0 (Or.inr (Or.inl rfl)) (by simp (disch := omega) only [gl_0, gl_1, gl_2, gl_3, gl_4, gl_5, gl_6, gl_7, gl_8, gl_9, gl_10, gl_11, gl_12, gl_13, gl_14, gl_15, gl_16, gl_17, gl_18, gl_19, gl_20, gl_21, gl_22, gl_23, gl_24, gl_25, gl_26, gl_27, gl_28, gl_29, gl_30, gl_31, gl_32, gl_44, gl_48, gl_49, gl_57, gl_59, gl_60, gl_63, gl_70, gl_98, gl_99, gl_100, gl_101, gl_107, gl_109, gl_110, gl_111, gl_116, gl_120, gl_126, gl_155, gl_411, gl_999, gl_1000, gl_1233, gl_1644, gl_100000, gl_m1, nI_eq, nI_leI, nI_ltI, nI_add, nI_clamp, pk_mul, pk_sub, z_in, z_gt, z_bs, z_us, z_un, if_pos, if_neg, if_true, if_false, and_true, true_and, and_self, not_true_eq_false, not_false_eq_true, C_differing, hd]) (by simp (disch := omega) only [gl_0, gl_1, gl_2, gl_3, gl_4, gl_5, gl_6, gl_7, gl_8, gl_9, gl_10, gl_11, gl_12, gl_13, gl_14, gl_15, gl_16, gl_17, gl_18, gl_19, gl_20, gl_21, gl_22, gl_23, gl_24, gl_25, gl_26, gl_27, gl_28, gl_29, gl_30, gl_31, gl_32, gl_44, gl_48, gl_49, gl_57, gl_59, gl_60, gl_63, gl_70, gl_98, gl_99, gl_100, gl_101, gl_107, gl_109, gl_110, gl_111, gl_116, gl_120, gl_126, gl_155, gl_411, gl_999, gl_1000, gl_1233, gl_1644, gl_100000, gl_m1, nI_eq, nI_leI, nI_ltI, nI_add, nI_clamp, pk_mul, pk_sub, z_in, z_gt, z_bs, z_us, z_un, if_pos, if_neg, if_true, if_false, and_true, true_and, and_self, not_true_eq_false, not_false_eq_true, a0, a3, ed, hd])
  obtain ⟨beg', ek, hb⟩ := M_keeps (ss := ss) (beg := beg) (sta := nI s) (row := row1) (was := was) (asi := asi) (txt := txt) (typ := typ) (att := att) (rea := rea) (got := got) (oth := oth)
  obtain ⟨ss', em, h1, h2⟩ := M_clears (sh := 0) (ss := upd ss 0 (nI 3)) (beg := beg') (sta := nI s) (row := row1) (was := was) (asi := asi) (txt := txt) (typ := typ) (att := att) (rea := rea) (got := got) (oth := oth) (by omega)
  have r1' : RTs ss' l 1 nv nr := RTs_congr r1 (fun i i1 i2 => by rw [h2 i (by omega), z_un (by omega)])
  obtain ⟨ver', row', ec, hc⟩ := C_clear 0 ov orr
  simp only [gl_0] at ec
  obtain ⟨was', s', ea, hA⟩ := M_acted (r := nI (z_cnt (zst nr) 31)) (ss := ss') (row := row1) (oth := oth) (asi := asi) (txt := txt) (typ := typ) (att := att) (rea := rea) (got := got) (was := was) (zans_n (by have := z_cnt_le (zst nr) 31; omega)) hs hb
  refine ⟨nI (z_cnt (zst nr) 31), 3, l, x, 0, lo, ver', row', nv, nr, qk, qv, qr, wr, wa, wc, wk, ss', was', beg', asi, s', att, rea, got, row1, oth, ?_, ?_, ?_, Or.inr ⟨zans_n (by have := z_cnt_le (zst nr) 31; omega), hA⟩⟩
  · simp (disch := omega) only [gl_0, gl_1, gl_2, gl_3, gl_4, gl_5, gl_6, gl_7, gl_8, gl_9, gl_10, gl_11, gl_12, gl_13, gl_14, gl_15, gl_16, gl_17, gl_18, gl_19, gl_20, gl_21, gl_22, gl_23, gl_24, gl_25, gl_26, gl_27, gl_28, gl_29, gl_30, gl_31, gl_32, gl_44, gl_48, gl_49, gl_57, gl_59, gl_60, gl_63, gl_70, gl_98, gl_99, gl_100, gl_101, gl_107, gl_109, gl_110, gl_111, gl_116, gl_120, gl_126, gl_155, gl_411, gl_999, gl_1000, gl_1233, gl_1644, gl_100000, gl_m1, nI_eq, nI_leI, nI_ltI, nI_add, nI_clamp, pk_mul, pk_sub, z_in, z_gt, z_bs, z_us, z_un, if_pos, if_neg, if_true, if_false, and_true, true_and, and_self, not_true_eq_false, not_false_eq_true, C_differing, hd, ec, C_strangeRows]
  · simp (disch := omega) only [gl_0, gl_1, gl_2, gl_3, gl_4, gl_5, gl_6, gl_7, gl_8, gl_9, gl_10, gl_11, gl_12, gl_13, gl_14, gl_15, gl_16, gl_17, gl_18, gl_19, gl_20, gl_21, gl_22, gl_23, gl_24, gl_25, gl_26, gl_27, gl_28, gl_29, gl_30, gl_31, gl_32, gl_44, gl_48, gl_49, gl_57, gl_59, gl_60, gl_63, gl_70, gl_98, gl_99, gl_100, gl_101, gl_107, gl_109, gl_110, gl_111, gl_116, gl_120, gl_126, gl_155, gl_411, gl_999, gl_1000, gl_1233, gl_1644, gl_100000, gl_m1, nI_eq, nI_leI, nI_ltI, nI_add, nI_clamp, pk_mul, pk_sub, z_in, z_gt, z_bs, z_us, z_un, if_pos, if_neg, if_true, if_false, and_true, true_and, and_self, not_true_eq_false, not_false_eq_true, a0, a3, ed, hd, ek, em, M_strange r1', ea]
  · refine ⟨⟨by omega, by omega, hl, hx, fun h => absurd rfl h⟩, ⟨?_, ?_, fun h => absurd h (by omega), ?_, ?_⟩, RTs_cleared h1 hc, r1', fun i hi => absurd hi (by omega), ?_, ?_, fun h => absurd h (by omega), fun _ => hc⟩
    · rw [h2 0 (by omega), z_us]
    · rw [h2 1 (by omega), z_un (by omega)]; exact a1
    · rw [h2 3 (by omega), z_un (by omega)]; exact a3
    · rw [h2 4 (by omega), z_un (by omega)]; exact a4
    · exact fun k hk => by rw [h2 _ (by omega), z_un (by omega)]; exact rl k hk
    · exact RTw_congr rw' (fun i i1 i2 => by rw [h2 i (by omega), z_un (by omega)])
theorem P_crash (R : RT ss p l x lo ov orr nv nr q qk qv qr wr wa wc wk) (hs : s ≤ 4) : ChOK ss was s txt typ (nI p, nI l, nI x, lo, ov, orr, nv, nr, nI q, qk, qv, qr, wr, wa, wc, wk) (fX4_loseQueue (nI p) (nI l) (nI x) lo ov orr nv nr (nI q) qk qv qr wr wa wc wk) (fX6_crash ss was beg asi (nI s) txt typ att rea got row oth) := by
  have R0 := R
  obtain ⟨⟨hp, hq, hl, hx, hqp⟩, ⟨a0, a1, a2, a3, a4⟩, r0, r1, rq, rl, rw', rp0, rp3⟩ := R
  unfold fX4_loseQueue fX6_crash
  by_cases hq0 : q = 0
  · subst hq0
    exact P_no (beg := beg) (asi := asi) (att := att) (rea := rea) (got := got) (row' := row) (oth' := oth) R0 (Or.inr (Or.inl rfl)) (by simp (disch := omega) only [gl_0, gl_1, gl_2, gl_3, gl_4, gl_5, gl_6, gl_7, gl_8, gl_9, gl_10, gl_11, gl_12, gl_13, gl_14, gl_15, gl_16, gl_17, gl_18, gl_19, gl_20, gl_21, gl_22, gl_23, gl_24, gl_25, gl_26, gl_27, gl_28, gl_29, gl_30, gl_31, gl_32, gl_44, gl_48, gl_49, gl_57, gl_59, gl_60, gl_63, gl_70, gl_98, gl_99, gl_100, gl_101, gl_107, gl_109, gl_110, gl_111, gl_116, gl_120, gl_126, gl_155, gl_411, gl_999, gl_1000, gl_1233, gl_1644, gl_100000, gl_m1, nI_eq, nI_leI, nI_ltI, nI_add, nI_clamp, pk_mul, pk_sub, z_in, z_gt, z_bs, z_us, z_un, if_pos, if_neg, if_true, if_false, and_true, true_and, and_self, not_true_eq_false, not_false_eq_true]) (by simp (disch := omega) only [gl_0, gl_1, gl_2, gl_3, gl_4, gl_5, gl_6, gl_7, gl_8, gl_9, gl_10, gl_11, gl_12, gl_13, gl_14, gl_15, gl_16, gl_17, gl_18, gl_19, gl_20, gl_21, gl_22, gl_23, gl_24, gl_25, gl_26, gl_27, gl_28, gl_29, gl_30, gl_31, gl_32, gl_44, gl_48, gl_49, gl_57, gl_59, gl_60, gl_63, gl_70, gl_98, gl_99, gl_100, gl_101, gl_107, gl_109, gl_110, gl_111, gl_116, gl_120, gl_126, gl_155, gl_411, gl_999, gl_1000, gl_1233, gl_1644, gl_100000, gl_m1, nI_eq, nI_leI, nI_ltI, nI_add, nI_clamp, pk_mul, pk_sub, z_in, z_gt, z_bs, z_us, z_un, if_pos, if_neg, if_true, if_false, and_true, true_and, and_self, not_true_eq_false, not_false_eq_true, a3])
  obtain ⟨beg', ek, hb⟩ := M_keeps (ss := ss) (beg := beg) (sta := nI s) (row := row) (was := was) (asi := asi) (txt := txt) (typ := typ) (att := att) (rea := rea) (got := got) (oth := oth)
  obtain ⟨qk', qv', qr', ec, _⟩ := C_shorten (d := q) (qk := qk) (qv := qv) (qr := qr) (Nat.le_refl q) hq
  rw [Nat.sub_self] at ec
  obtain ⟨was', s', ea, hA⟩ := M_acted (r := nI q) (ss := upd (upd ss 4 (lo + nI q)) 3 (nI 0)) (row := row) (oth := oth) (asi := asi) (txt := txt) (typ := typ) (att := att) (rea := rea) (got := got) (was := was) (zans_n (by omega)) hs hb
  refine ⟨nI q, p, l, x, 0, lo + nI q, ov, orr, nv, nr, qk', qv', qr', wr, wa, wc, wk, upd (upd ss 4 (lo + nI q)) 3 (nI 0), was', beg', asi, s', att, rea, got, row, oth, ?_, ?_, RT_hd R0 (fun i hi _ => by rw [z_un (by omega), z_un (by omega)]) hp hx (by rw [z_un (by omega), z_un (by omega)]; exact a0) (by rw [z_un (by omega), z_un (by omega)]; exact a1) (fun h => by rw [z_un (by omega), z_un (by omega)]; exact a2 h) z_us (by rw [z_un (by omega), z_us]) rp0 rp3, Or.inr ⟨zans_n (by omega), hA⟩⟩
  · simp (disch := omega) only [gl_0, gl_1, gl_2, gl_3, gl_4, gl_5, gl_6, gl_7, gl_8, gl_9, gl_10, gl_11, gl_12, gl_13, gl_14, gl_15, gl_16, gl_17, gl_18, gl_19, gl_20, gl_21, gl_22, gl_23, gl_24, gl_25, gl_26, gl_27, gl_28, gl_29, gl_30, gl_31, gl_32, gl_44, gl_48, gl_49, gl_57, gl_59, gl_60, gl_63, gl_70, gl_98, gl_99, gl_100, gl_101, gl_107, gl_109, gl_110, gl_111, gl_116, gl_120, gl_126, gl_155, gl_411, gl_999, gl_1000, gl_1233, gl_1644, gl_100000, gl_m1, nI_eq, nI_leI, nI_ltI, nI_add, nI_clamp, pk_mul, pk_sub, z_in, z_gt, z_bs, z_us, z_un, if_pos, if_neg, if_true, if_false, and_true, true_and, and_self, not_true_eq_false, not_false_eq_true, ec]
  · simp (disch := omega) only [gl_0, gl_1, gl_2, gl_3, gl_4, gl_5, gl_6, gl_7, gl_8, gl_9, gl_10, gl_11, gl_12, gl_13, gl_14, gl_15, gl_16, gl_17, gl_18, gl_19, gl_20, gl_21, gl_22, gl_23, gl_24, gl_25, gl_26, gl_27, gl_28, gl_29, gl_30, gl_31, gl_32, gl_44, gl_48, gl_49, gl_57, gl_59, gl_60, gl_63, gl_70, gl_98, gl_99, gl_100, gl_101, gl_107, gl_109, gl_110, gl_111, gl_116, gl_120, gl_126, gl_155, gl_411, gl_999, gl_1000, gl_1233, gl_1644, gl_100000, gl_m1, nI_eq, nI_leI, nI_ltI, nI_add, nI_clamp, pk_mul, pk_sub, z_in, z_gt, z_bs, z_us, z_un, if_pos, if_neg, if_true, if_false, and_true, true_and, and_self, not_true_eq_false, not_false_eq_true, a3, a4, ek, ea]
end MD16
