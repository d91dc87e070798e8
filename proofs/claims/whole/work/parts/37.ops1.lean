/-! changes: what keeps the relation; turning over and back -/
def zans (r : Int32) : Prop := ∃ n, n < 1000000 ∧ r = nI n
def zerr (r : Int32) : Prop := r = -1000001 ∨ r = -1000002 ∨ r = -1000003 ∨ r = -1000004
theorem zans_n {n : Nat} (h : n < 1000000) : zans (nI n) := ⟨n, h, rfl⟩
theorem RTs_congr {ss ss' : Nat → Int32} {l sh : Nat} {ver row : Nat → Int32} (h : RTs ss l sh ver row) (hs : ∀ i, 101 + 155 * sh ≤ i → i < 256 + 155 * sh → ss' i = ss i) : RTs ss' l sh ver row := fun k hk => by
  obtain ⟨h1, ⟨h2, h3, h4, h5⟩, h6, h7⟩ := h k hk
  exact ⟨by rw [hs _ (by omega) (by omega)]; exact h1, ⟨by dsimp only at h2 ⊢; rw [hs _ (by omega) (by omega)]; exact h2, by dsimp only at h3 ⊢; rw [hs _ (by omega) (by omega)]; exact h3, by dsimp only at h4 ⊢; rw [hs _ (by omega) (by omega)]; exact h4, by dsimp only at h5 ⊢; rw [hs _ (by omega) (by omega)]; exact h5⟩, h6, h7⟩
theorem RTs_mono {ss : Nat → Int32} {l l' sh : Nat} {ver row : Nat → Int32} (h : RTs ss l sh ver row) (hl : l ≤ l') : RTs ss l' sh ver row := fun k hk => by
  obtain ⟨h1, h2, h6, v, h7, h8⟩ := h k hk
  exact ⟨h1, h2, h6, v, by omega, h8⟩
theorem RTq_mono {ss : Nat → Int32} {p l l' q : Nat} {qk qv qr : Nat → Int32} (h : RTq ss p l q qk qv qr) (hl : l ≤ l') : RTq ss p l' q qk qv qr := fun i hi => by
  obtain ⟨h1, h2, h3, h4, h5, h6, h7, v, h8, h9⟩ := h i hi
  exact ⟨h1, h2, h3, h4, h5, h6, h7, v, by omega, h9⟩
theorem RTq_congr {ss ss' : Nat → Int32} {p l q : Nat} {qk qv qr : Nat → Int32} (h : RTq ss p l q qk qv qr) (hq : q ≤ 8) (hs : ∀ i, 14 ≤ i → i < 70 → ss' i = ss i) : RTq ss' p l q qk qv qr := fun i hi => by
  obtain ⟨h1, h2, h3, h4, h5, h6, h7, h8⟩ := h i hi
  exact ⟨by rw [hs _ (by omega) (by omega)]; exact h1, by rw [hs _ (by omega) (by omega)]; exact h2, by rw [hs _ (by omega) (by omega)]; exact h3, by rw [hs _ (by omega) (by omega)]; exact h4, fun j j0 j4 => by rw [hs _ (by omega) (by omega)]; exact h5 j j0 j4, h6, h7, h8⟩
theorem RTw_congr {ss ss' : Nat → Int32} {wa : Int32} {wc wk : Nat → Int32} (h : RTw ss wa wc wk) (hs : ∀ i, 5 ≤ i → i < 14 → ss' i = ss i) : RTw ss' wa wc wk := by
  obtain ⟨w, hw, hwa, h⟩ := h
  refine ⟨w, hw, hwa, fun i hi => ?_⟩
  obtain ⟨h1, h2, h3, h4⟩ := h i hi
  exact ⟨by rw [hs _ (by omega) (by omega)]; exact h1, fun hb => ⟨by rw [hs _ (by omega) (by omega)]; exact (h2 hb).1, by rw [hs _ (by omega) (by omega)]; exact (h2 hb).2⟩, h3, h4⟩
theorem RT_congr {ss ss' : Nat → Int32} {p l x : Nat} {lo : Int32} {ov orr nv nr : Nat → Int32} {q : Nat} {qk qv qr wr : Nat → Int32} {wa : Int32} {wc wk : Nat → Int32} (R : RT ss p l x lo ov orr nv nr q qk qv qr wr wa wc wk) (hs : ∀ i, i < 411 → ss' i = ss i) : RT ss' p l x lo ov orr nv nr q qk qv qr wr wa wc wk := by
  obtain ⟨⟨hp, hq, hl, hx, hqp⟩, ⟨a0, a1, a2, a3, a4⟩, r0, r1, rq, rl, rw', rp0, rp3⟩ := R
  exact ⟨⟨hp, hq, hl, hx, hqp⟩, ⟨by rw [hs _ (by omega)]; exact a0, by rw [hs _ (by omega)]; exact a1, fun h => by rw [hs _ (by omega)]; exact a2 h, by rw [hs _ (by omega)]; exact a3, by rw [hs _ (by omega)]; exact a4⟩, RTs_congr r0 (fun i _ _ => hs i (by omega)), RTs_congr r1 (fun i _ _ => hs i (by omega)), RTq_congr rq hq (fun i _ _ => hs i (by omega)), fun k hk => by rw [hs _ (by omega)]; exact rl k hk, RTw_congr rw' (fun i _ _ => hs i (by omega)), rp0, rp3⟩
/-- a new head, the queue empty -/
theorem RT_hd {ss ss' : Nat → Int32} {p l x : Nat} {lo : Int32} {ov orr nv nr : Nat → Int32} {q : Nat} {qk qv qr wr : Nat → Int32} {wa : Int32} {wc wk : Nat → Int32} (R : RT ss p l x lo ov orr nv nr q qk qv qr wr wa wc wk) {p' x' : Nat} {lo' : Int32} {qk' qv' qr' : Nat → Int32} (hs : ∀ i, 5 ≤ i → i < 411 → ss' i = ss i) (hp' : p' ≤ 3) (hx' : x' ≤ 31) (h0 : ss' 0 = nI p') (h1 : ss' 1 = nI l) (h2 : p' = 1 → ss' 2 = nI x') (h3 : ss' 3 = nI 0) (h4 : ss' 4 = lo') (hp0 : p' = 0 → ∀ k, k < 31 → nv k = nI 0 ∧ nr k = zN) (hp3 : p' = 3 → ∀ k, k < 31 → ov k = nI 0 ∧ orr k = zN) : RT ss' p' l x' lo' ov orr nv nr 0 qk' qv' qr' wr wa wc wk := by
  obtain ⟨⟨hp, hq, hl, hx, hqp⟩, ⟨a0, a1, a2, a3, a4⟩, r0, r1, rq, rl, rw', rp0, rp3⟩ := R
  exact ⟨⟨hp', by omega, hl, hx', fun h => absurd rfl h⟩, ⟨h0, h1, h2, h3, h4⟩, RTs_congr r0 (fun i _ _ => hs i (by omega) (by omega)), RTs_congr r1 (fun i _ _ => hs i (by omega) (by omega)), fun i hi => absurd hi (by omega), fun k hk => by rw [hs _ (by omega) (by omega)]; exact rl k hk, RTw_congr rw' (fun i _ _ => hs i (by omega) (by omega)), hp0, hp3⟩
/-- an operation on both sides: one answer, and the relation again -/
def OpOK (was beg asi : Nat → Int32) (sta : Int32) (txt : Nat → Int32) (typ att rea : Int32) (got : Nat → Int32) (t0 : Int32 × Int32 × Int32 × Int32 × (Nat → Int32) × (Nat → Int32) × (Nat → Int32) × (Nat → Int32) × Int32 × (Nat → Int32) × (Nat → Int32) × (Nat → Int32) × (Nat → Int32) × Int32 × (Nat → Int32) × (Nat → Int32)) (oC : Option (Int32 × Int32 × Int32 × Int32 × Int32 × (Nat → Int32) × (Nat → Int32) × (Nat → Int32) × (Nat → Int32) × Int32 × (Nat → Int32) × (Nat → Int32) × (Nat → Int32) × (Nat → Int32) × Int32 × (Nat → Int32) × (Nat → Int32))) (oM : Option (Int32 × (Nat → Int32) × (Nat → Int32) × (Nat → Int32) × (Nat → Int32) × Int32 × (Nat → Int32) × Int32 × Int32 × Int32 × (Nat → Int32) × (Nat → Int32) × (Nat → Int32))) : Prop :=
  ∃ (r : Int32) (p l x q : Nat) (lo : Int32) (ov orr nv nr qk qv qr wr : Nat → Int32) (wa : Int32) (wc wk ss row oth : Nat → Int32), oC = some (r, nI p, nI l, nI x, lo, ov, orr, nv, nr, nI q, qk, qv, qr, wr, wa, wc, wk) ∧ oM = some (r, ss, was, beg, asi, sta, txt, typ, att, rea, got, row, oth) ∧ RT ss p l x lo ov orr nv nr q qk qv qr wr wa wc wk ∧ (zans r ∨ (zerr r ∧ (nI p, nI l, nI x, lo, ov, orr, nv, nr, nI q, qk, qv, qr, wr, wa, wc, wk) = t0))
theorem C_clear (nu : Int32) (ver row : Nat → Int32) : ∃ ver' row', fX3_clear nu ver row = some (ver', row') ∧ ∀ k, k < 31 → ver' k = nI 0 ∧ row' k = zN := by
  unfold fX3_clear
  rw [show (0 : Int32) = nI 0 from gl_0]
  refine z_loop (fun n i (q : (Nat → Int32) × (Nat → Int32)) => fX3_clear_b2 n nu (nI i) q.1 q.2) 31 (fun i q => ∀ k, k < i → q.1 k = nI 0 ∧ q.2 k = zN) (fun o => ∃ ver' row', o = some (ver', row') ∧ ∀ k, k < 31 → ver' k = nI 0 ∧ row' k = zN) ?_ ?_ 2000 0 (ver, row) (by omega) (by omega) (fun k hk => absurd hk (by omega))
  · rintro n i ⟨ver, row⟩ hi h
    refine ⟨(upd ver i (nI 0), upd row i zN), fun k hk => ?_, ?_⟩
    · dsimp only
      by_cases hki : k = i
      · subst hki; exact ⟨z_us, z_us⟩
      · rw [z_un hki, z_un hki]; exact h k (by omega)
    · dsimp only
      simp (disch := omega) only [fX3_clear_b2, gl_31, gl_1, gl_0, gl_m1, nI_leI, z_in, z_gt, nI_clamp, nI_add]
      rw [if_neg (by omega)]
  · rintro n ⟨ver, row⟩ h
    refine ⟨ver, row, ?_, h⟩
    simp (disch := omega) only [fX3_clear_b2, gl_31, nI_leI]
    rw [if_pos (by omega)]
section MD7
variable {ss was beg asi : Nat → Int32} {sta : Int32} {txt : Nat → Int32} {typ att rea : Int32} {got row oth : Nat → Int32}
theorem M_clears {sh : Nat} (hs : sh < 2) : ∃ ss', fX6_clears (nI sh) ss was beg asi sta txt typ att rea got row oth = some (ss', was, beg, asi, sta, txt, typ, att, rea, got, row, oth) ∧ (∀ i, 101 + 155 * sh ≤ i → i < 256 + 155 * sh → ss' i = nI 0) ∧ ∀ i, (i < 101 + 155 * sh ∨ 256 + 155 * sh ≤ i) → ss' i = ss i := by
  unfold fX6_clears
  rw [show (0 : Int32) = nI 0 from gl_0]
  refine z_loop (fun n i (s' : Nat → Int32) => fX6_clears_b2 n (nI sh) (nI i) s' was beg asi sta txt typ att rea got row oth) 155 (fun i s' => (∀ j, 101 + 155 * sh ≤ j → j < 101 + 155 * sh + i → s' j = nI 0) ∧ ∀ j, (j < 101 + 155 * sh ∨ 256 + 155 * sh ≤ j) → s' j = ss j) (fun o => ∃ ss', o = some (ss', was, beg, asi, sta, txt, typ, att, rea, got, row, oth) ∧ (∀ i, 101 + 155 * sh ≤ i → i < 256 + 155 * sh → ss' i = nI 0) ∧ ∀ i, (i < 101 + 155 * sh ∨ 256 + 155 * sh ≤ i) → ss' i = ss i) ?_ ?_ 2000 0 ss (by omega) (by omega) ⟨fun j h1 h2 => absurd h2 (by omega), fun j _ => rfl⟩
  · rintro n i s' hi ⟨h1, h2⟩
    refine ⟨upd s' (101 + 155 * sh + i) (nI 0), ⟨fun j j1 j2 => ?_, fun j hj => by rw [z_un (by omega)]; exact h2 j hj⟩, ?_⟩
    · by_cases hj : j = 101 + 155 * sh + i
      · subst hj; exact z_us
      · rw [z_un hj]; exact h1 j j1 (by omega)
    · simp (disch := omega) only [fX6_clears_b2, gl_155, gl_101, gl_1, gl_0, nI_leI, z_in, z_gt, nI_clamp, nI_add, pk_mul]
      rw [if_neg (by omega)]
  · rintro n s' ⟨h1, h2⟩
    refine ⟨s', ?_, fun i i1 i2 => h1 i i1 (by omega), h2⟩
    simp (disch := omega) only [fX6_clears_b2, gl_155, nI_leI]
    rw [if_pos (by omega)]
theorem RTs_cleared {ss : Nat → Int32} {sh l : Nat} {ver row : Nat → Int32} (h : ∀ i, 101 + 155 * sh ≤ i → i < 256 + 155 * sh → ss i = nI 0) (hv : ∀ k, k < 31 → ver k = nI 0 ∧ row k = zN) : RTs ss l sh ver row := fun k hk => by
  obtain ⟨h1, h2⟩ := hv k hk
  rw [h1, h2]
  refine ⟨h _ (by omega) (by omega), ⟨?_, ?_, ?_, ?_⟩, zv_N sh, 0, by omega, rfl⟩ <;> (dsimp only; rw [zd_N]; exact h _ (by omega) (by omega))
section S1
variable {p l x : Nat} {lo : Int32} {ov orr nv nr : Nat → Int32} {q : Nat} {qk qv qr wr : Nat → Int32} {wa : Int32} {wc wk : Nat → Int32}
theorem S_turns (R : RT ss p l x lo ov orr nv nr q qk qv qr wr wa wc wk) : OpOK was beg asi sta txt typ att rea got (nI p, nI l, nI x, lo, ov, orr, nv, nr, nI q, qk, qv, qr, wr, wa, wc, wk) (fX4_turnOver (nI p) (nI l) (nI x) lo ov orr nv nr (nI q) qk qv qr wr wa wc wk) (fX6_turns ss was beg asi sta txt typ att rea got row oth) := by
  have R0 := R
  obtain ⟨⟨hp, hq, hl, hx, hqp⟩, ⟨a0, a1, a2, a3, a4⟩, r0, r1, rq, rl, rw', rp0, rp3⟩ := R
  obtain ⟨row1, e1⟩ := M_isReady (ss := ss) (was := was) (beg := beg) (asi := asi) (sta := sta) (txt := txt) (typ := typ) (att := att) (rea := rea) (got := got) (row := row) (oth := oth) hp hq hx a0 a2 a3 r0 r1
  unfold fX4_turnOver fX6_turns
  rw [C_isReady hp hq hx, e1, z_bs, z_bs]
  by_cases hr : p = 1 ∧ x = 31 ∧ q = 0 ∧ z_bits (zdf ov orr nv nr) 31 = nI 0
  · rw [if_pos hr]
    obtain ⟨rfl, rfl, rfl, hd⟩ := hr
    have hs' : RT (upd ss 0 (nI 2)) 2 l 31 lo ov orr nv nr 0 qk qv qr wr wa wc wk := RT_hd R0 (fun i hi _ => z_un (by omega)) (by omega) (by omega) z_us (by rw [z_un (by omega)]; exact a1) (fun h => absurd h (by omega)) (by rw [z_un (by omega)]; exact a3) (by rw [z_un (by omega)]; exact a4) (fun h => absurd h (by omega)) (fun h => absurd h (by omega))
    simp (disch := omega) only [gl_0, gl_1, gl_2, gl_3, gl_4, gl_5, gl_6, gl_7, gl_8, gl_9, gl_10, gl_11, gl_12, gl_13, gl_14, gl_15, gl_16, gl_17, gl_18, gl_19, gl_20, gl_21, gl_22, gl_23, gl_24, gl_25, gl_26, gl_27, gl_28, gl_29, gl_30, gl_31, gl_32, gl_44, gl_48, gl_49, gl_57, gl_59, gl_60, gl_63, gl_70, gl_98, gl_99, gl_100, gl_101, gl_107, gl_109, gl_110, gl_111, gl_116, gl_120, gl_126, gl_155, gl_411, gl_999, gl_1000, gl_1233, gl_1644, gl_100000, gl_m1, nI_eq, nI_leI, nI_ltI, nI_add, nI_clamp, pk_mul, pk_sub, z_in, z_gt, z_bs, z_us, z_un, if_pos, if_neg, if_true, if_false, and_true, true_and, and_self, not_true_eq_false, not_false_eq_true, C_rows, M_rows (show 1 < 2 by omega) hs'.2.2.2.1]
    exact ⟨_, 2, l, 31, 0, lo, ov, orr, nv, nr, qk, qv, qr, wr, wa, wc, wk, _, row1, oth, rfl, rfl, hs', Or.inl (zans_n (by have := z_cnt_le (zP nr) 31; omega))⟩
  · rw [if_neg hr]
    simp (disch := omega) only [gl_0, gl_1, gl_2, gl_3, gl_4, gl_5, gl_6, gl_7, gl_8, gl_9, gl_10, gl_11, gl_12, gl_13, gl_14, gl_15, gl_16, gl_17, gl_18, gl_19, gl_20, gl_21, gl_22, gl_23, gl_24, gl_25, gl_26, gl_27, gl_28, gl_29, gl_30, gl_31, gl_32, gl_44, gl_48, gl_49, gl_57, gl_59, gl_60, gl_63, gl_70, gl_98, gl_99, gl_100, gl_101, gl_107, gl_109, gl_110, gl_111, gl_116, gl_120, gl_126, gl_155, gl_411, gl_999, gl_1000, gl_1233, gl_1644, gl_100000, gl_m1, nI_eq, nI_leI, nI_ltI, nI_add, nI_clamp, pk_mul, pk_sub, z_in, z_gt, z_bs, z_us, z_un, if_pos, if_neg, if_true, if_false, and_true, true_and, and_self, not_true_eq_false, not_false_eq_true]
    exact ⟨_, p, l, x, q, lo, ov, orr, nv, nr, qk, qv, qr, wr, wa, wc, wk, ss, row1, oth, rfl, rfl, R0, Or.inr ⟨Or.inr (Or.inl rfl), rfl⟩⟩
theorem S_turnsBack (R : RT ss p l x lo ov orr nv nr q qk qv qr wr wa wc wk) : OpOK was beg asi sta txt typ att rea got (nI p, nI l, nI x, lo, ov, orr, nv, nr, nI q, qk, qv, qr, wr, wa, wc, wk) (fX4_turnBack (nI p) (nI l) (nI x) lo ov orr nv nr (nI q) qk qv qr wr wa wc wk) (fX6_turnsBack ss was beg asi sta txt typ att rea got row oth) := by
  have R0 := R
  obtain ⟨⟨hp, hq, hl, hx, hqp⟩, ⟨a0, a1, a2, a3, a4⟩, r0, r1, rq, rl, rw', rp0, rp3⟩ := R
  unfold fX4_turnBack fX6_turnsBack
  rw [C_hasBoth hp, M_areBoth hp a0, z_bs, z_bs]
  by_cases hb : p = 1 ∨ p = 2
  · rw [if_pos hb]
    by_cases hq0 : q = 0
    · subst hq0
      rcases hb with rfl | rfl
      · obtain ⟨ver', row', ec, hc⟩ := C_clear 1 nv nr
        simp only [gl_1] at ec
        obtain ⟨ss', em, h1, h2⟩ := M_clears (ss := upd (upd ss 0 (nI 0)) 2 (nI 0)) (was := was) (beg := beg) (asi := asi) (sta := sta) (txt := txt) (typ := typ) (att := att) (rea := rea) (got := got) (row := row) (oth := oth) (show 1 < 2 by omega)
        have h0 : ss' 0 = nI 0 := by rw [h2 0 (by omega), z_un (by omega), z_us]
        simp (disch := omega) only [gl_0, gl_1, gl_2, gl_3, gl_4, gl_5, gl_6, gl_7, gl_8, gl_9, gl_10, gl_11, gl_12, gl_13, gl_14, gl_15, gl_16, gl_17, gl_18, gl_19, gl_20, gl_21, gl_22, gl_23, gl_24, gl_25, gl_26, gl_27, gl_28, gl_29, gl_30, gl_31, gl_32, gl_44, gl_48, gl_49, gl_57, gl_59, gl_60, gl_63, gl_70, gl_98, gl_99, gl_100, gl_101, gl_107, gl_109, gl_110, gl_111, gl_116, gl_120, gl_126, gl_155, gl_411, gl_999, gl_1000, gl_1233, gl_1644, gl_100000, gl_m1, nI_eq, nI_leI, nI_ltI, nI_add, nI_clamp, pk_mul, pk_sub, z_in, z_gt, z_bs, z_us, z_un, if_pos, if_neg, if_true, if_false, and_true, true_and, and_self, not_true_eq_false, not_false_eq_true, a3, a0, fX6_turnsBack_b50, ec, em, h0]
        refine ⟨_, 0, l, x, 0, lo, ov, orr, ver', row', qk, qv, qr, wr, wa, wc, wk, ss', row, oth, rfl, rfl, ⟨⟨by omega, by omega, hl, hx, fun h => absurd rfl h⟩, ⟨h0, ?_, fun h => absurd h (by omega), ?_, ?_⟩, ?_, RTs_cleared h1 hc, fun i hi => absurd hi (by omega), ?_, ?_, fun _ => hc, fun h => absurd h (by omega)⟩, Or.inl (zans_n (by omega))⟩
        · rw [h2 1 (by omega), z_un (by omega), z_un (by omega)]; exact a1
        · rw [h2 3 (by omega), z_un (by omega), z_un (by omega)]; exact a3
        · rw [h2 4 (by omega), z_un (by omega), z_un (by omega)]; exact a4
        · exact RTs_congr r0 (fun i i1 i2 => by rw [h2 i (by omega), z_un (by omega), z_un (by omega)])
        · exact fun k hk => by rw [h2 _ (by omega), z_un (by omega), z_un (by omega)]; exact rl k hk
        · exact RTw_congr rw' (fun i i1 i2 => by rw [h2 i (by omega), z_un (by omega), z_un (by omega)])
      · simp (disch := omega) only [gl_0, gl_1, gl_2, gl_3, gl_4, gl_5, gl_6, gl_7, gl_8, gl_9, gl_10, gl_11, gl_12, gl_13, gl_14, gl_15, gl_16, gl_17, gl_18, gl_19, gl_20, gl_21, gl_22, gl_23, gl_24, gl_25, gl_26, gl_27, gl_28, gl_29, gl_30, gl_31, gl_32, gl_44, gl_48, gl_49, gl_57, gl_59, gl_60, gl_63, gl_70, gl_98, gl_99, gl_100, gl_101, gl_107, gl_109, gl_110, gl_111, gl_116, gl_120, gl_126, gl_155, gl_411, gl_999, gl_1000, gl_1233, gl_1644, gl_100000, gl_m1, nI_eq, nI_leI, nI_ltI, nI_add, nI_clamp, pk_mul, pk_sub, z_in, z_gt, z_bs, z_us, z_un, if_pos, if_neg, if_true, if_false, and_true, true_and, and_self, not_true_eq_false, not_false_eq_true, a3, a0, fX6_turnsBack_b50]
        refine ⟨_, 1, l, 31, 0, lo, ov, orr, nv, nr, qk, qv, qr, wr, wa, wc, wk, _, row, oth, rfl, rfl, RT_hd R0 (fun i hi _ => by rw [z_un (by omega), z_un (by omega)]) (by omega) (by omega) (by rw [z_un (by omega), z_us]) (by rw [z_un (by omega), z_un (by omega)]; exact a1) (fun _ => z_us) (by rw [z_un (by omega), z_un (by omega)]; exact a3) (by rw [z_un (by omega), z_un (by omega)]; exact a4) (fun h => absurd h (by omega)) (fun h => absurd h (by omega)), Or.inl (zans_n (by omega))⟩
    · simp (disch := omega) only [gl_0, gl_1, gl_2, gl_3, gl_4, gl_5, gl_6, gl_7, gl_8, gl_9, gl_10, gl_11, gl_12, gl_13, gl_14, gl_15, gl_16, gl_17, gl_18, gl_19, gl_20, gl_21, gl_22, gl_23, gl_24, gl_25, gl_26, gl_27, gl_28, gl_29, gl_30, gl_31, gl_32, gl_44, gl_48, gl_49, gl_57, gl_59, gl_60, gl_63, gl_70, gl_98, gl_99, gl_100, gl_101, gl_107, gl_109, gl_110, gl_111, gl_116, gl_120, gl_126, gl_155, gl_411, gl_999, gl_1000, gl_1233, gl_1644, gl_100000, gl_m1, nI_eq, nI_leI, nI_ltI, nI_add, nI_clamp, pk_mul, pk_sub, z_in, z_gt, z_bs, z_us, z_un, if_pos, if_neg, if_true, if_false, and_true, true_and, and_self, not_true_eq_false, not_false_eq_true, a3]
      exact ⟨_, p, l, x, q, lo, ov, orr, nv, nr, qk, qv, qr, wr, wa, wc, wk, ss, row, oth, rfl, rfl, R0, Or.inr ⟨Or.inr (Or.inl rfl), rfl⟩⟩
  · rw [if_neg hb]
    simp (disch := omega) only [gl_0, gl_1, gl_2, gl_3, gl_4, gl_5, gl_6, gl_7, gl_8, gl_9, gl_10, gl_11, gl_12, gl_13, gl_14, gl_15, gl_16, gl_17, gl_18, gl_19, gl_20, gl_21, gl_22, gl_23, gl_24, gl_25, gl_26, gl_27, gl_28, gl_29, gl_30, gl_31, gl_32, gl_44, gl_48, gl_49, gl_57, gl_59, gl_60, gl_63, gl_70, gl_98, gl_99, gl_100, gl_101, gl_107, gl_109, gl_110, gl_111, gl_116, gl_120, gl_126, gl_155, gl_411, gl_999, gl_1000, gl_1233, gl_1644, gl_100000, gl_m1, nI_eq, nI_leI, nI_ltI, nI_add, nI_clamp, pk_mul, pk_sub, z_in, z_gt, z_bs, z_us, z_un, if_pos, if_neg, if_true, if_false, and_true, true_and, and_self, not_true_eq_false, not_false_eq_true]
    exact ⟨_, p, l, x, q, lo, ov, orr, nv, nr, qk, qv, qr, wr, wa, wc, wk, ss, row, oth, rfl, rfl, R0, Or.inr ⟨Or.inr (Or.inl rfl), rfl⟩⟩
end S1
end MD7
