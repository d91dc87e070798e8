/-! what holds of a table at every time -/
def ITs (l sh : Nat) (ver row : Nat → Int32) : Prop := ∀ k, k < 31 → zv sh (row k) ∧ ∃ v, v ≤ l ∧ ver k = nI v ∧ (v = 0 → row k = zN)
def ITq (l q : Nat) (qk qv qr : Nat → Int32) : Prop := ∀ i, i < q → zok (qr i) ∧ (∃ k, k < 31 ∧ qk i = nI k) ∧ ∃ v, 0 < v ∧ v ≤ l ∧ qv i = nI v
def IT (p l x : Nat) (ov orr nv nr : Nat → Int32) (q : Nat) (qk qv qr : Nat → Int32) (wa : Int32) : Prop :=
  (p ≤ 3 ∧ q ≤ 8 ∧ l ≤ 1000 ∧ x ≤ 31 ∧ (q ≠ 0 → p = 1 ∨ p = 2)) ∧ ITs l 0 ov orr ∧ ITs l 1 nv nr ∧ ITq l q qk qv qr ∧ (∃ W, W < 8 ∧ wa = nI W) ∧ (p = 0 → ∀ k, k < 31 → nv k = nI 0 ∧ nr k = zN) ∧ (p = 3 → ∀ k, k < 31 → ov k = nI 0 ∧ orr k = zN)
theorem ITs_mono {l l' sh : Nat} {ver row : Nat → Int32} (h : ITs l sh ver row) (hl : l ≤ l') : ITs l' sh ver row := fun k hk => by
  obtain ⟨h1, v, h2, h3, h4⟩ := h k hk
  exact ⟨h1, v, by omega, h3, h4⟩
theorem ITq_mono {l l' q : Nat} {qk qv qr : Nat → Int32} (h : ITq l q qk qv qr) (hl : l ≤ l') : ITq l' q qk qv qr := fun k hk => by
  obtain ⟨h1, h2, v, h3, h4, h5⟩ := h k hk
  exact ⟨h1, h2, v, h3, by omega, h5⟩
theorem ITs_ext {l sh : Nat} {ver rw0 ver' rw' : Nat → Int32} (h : ITs l sh ver rw0) (hv : ∀ k, k < 31 → ver' k = ver k ∧ rw' k = rw0 k) : ITs l sh ver' rw' := fun k hk => by
  obtain ⟨h1, h2⟩ := hv k hk
  rw [h1, h2]
  exact h k hk
theorem ITs_set {l sh k v : Nat} {r : Int32} {ver row : Nat → Int32} (h : ITs l sh ver row) (hr : zv sh r) (hv : v ≤ l) (h0 : v = 0 → r = zN) : ITs l sh (upd ver k (nI v)) (upd row k r) := fun j hj => by
  by_cases hjk : j = k
  · subst hjk
    rw [z_us, z_us]
    exact ⟨hr, v, hv, rfl, h0⟩
  · rw [z_un hjk, z_un hjk]
    exact h j hj
theorem ITs_cleared {l sh : Nat} {ver row : Nat → Int32} (hv : ∀ k, k < 31 → ver k = nI 0 ∧ row k = zN) : ITs l sh ver row := fun k hk => by
  obtain ⟨h1, h2⟩ := hv k hk
  rw [h1, h2]
  exact ⟨zv_N sh, 0, by omega, rfl, fun _ => rfl⟩
theorem ITs_zta {l sh k v : Nat} {r : Int32} {s : (Nat → Int32) × (Nat → Int32)} (hs : sh < 2) (h : ITs l sh s.1 s.2) (hk : k < 31) (hr : zok r) (h0 : 0 < v) (hv : v ≤ l) : ITs l sh (zta sh (nI k) (nI v) r s).1 (zta sh (nI k) (nI v) r s).2 := by
  unfold zta
  rw [nI_clamp (by omega)]
  split
  · exact h
  · exact ITs_set h (zv_mo hs hr) hv (fun e => absurd e (by omega))
theorem ITs_zdr {l sh q : Nat} {qk qv qr : Nat → Int32} {s : (Nat → Int32) × (Nat → Int32)} (hs : sh < 2) (hq : ITq l q qk qv qr) (h : ITs l sh s.1 s.2) : ∀ d, d ≤ q → ITs l sh (zdr sh qk qv qr d s).1 (zdr sh qk qv qr d s).2
  | 0, _ => h
  | d + 1, hd => by
    obtain ⟨hr, ⟨k, hk, ek⟩, v, h0, hv, ev⟩ := hq d (by omega)
    rw [zdr, ek, ev]
    exact ITs_zta hs (ITs_zdr hs hq h d (by omega)) hk hr h0 hv
theorem ITs_zfi {l x : Nat} {ov orr nv nr : Nat → Int32} (h0 : ITs l 0 ov orr) (h1 : ITs l 1 nv nr) : ∀ i, x + i ≤ 31 → ITs l 1 (zfi ov orr x i (0, nv, nr)).2.1 (zfi ov orr x i (0, nv, nr)).2.2
  | 0, _ => h1
  | i + 1, hi => by
    rw [zfi]
    split
    · exact ITs_zfi h0 h1 i (by omega)
    · obtain ⟨g1, v, g2, g3, g4⟩ := h0 (x + i) (by omega)
      dsimp only
      rw [g3]
      exact ITs_set (ITs_zfi h0 h1 i (by omega)) (zv_mo (by omega) g1.ok) g2 (fun e => by rw [g4 e, mo_N])
theorem ITq_append {l q k : Nat} {r : Int32} {qk qv qr : Nat → Int32} (h : ITq l q qk qv qr) (hk : k < 31) (hr : zok r) : ITq (l + 1) (q + 1) (upd qk q (nI k)) (upd qv q (nI (l + 1))) (upd qr q r) := fun i hi => by
  by_cases hiq : i = q
  · subst hiq
    rw [z_us, z_us, z_us]
    exact ⟨hr, ⟨k, hk, rfl⟩, l + 1, by omega, by omega, rfl⟩
  · rw [z_un hiq, z_un hiq, z_un hiq]
    exact ITq_mono h (by omega) i (by omega)
theorem ITq_drop {l q d : Nat} {qk qv qr qk' qv' qr' : Nat → Int32} (h : ITq l q qk qv qr) (hd : d ≤ q) (hj : ∀ j, j < q - d → qk' j = qk (d + j) ∧ qv' j = qv (d + j) ∧ qr' j = qr (d + j)) : ITq l (q - d) qk' qv' qr' := fun i hi => by
  obtain ⟨h1, h2, h3⟩ := hj i hi
  rw [h1, h2, h3]
  exact h (d + i) (by omega)
theorem IT_ext {p l x q : Nat} {ov orr nv nr qk qv qr ov' orr' nv' nr' qk' qv' qr' : Nat → Int32} {wa : Int32} (R : IT p l x ov orr nv nr q qk qv qr wa) (h31 : ∀ k, k < 31 → ov' k = ov k ∧ orr' k = orr k ∧ nv' k = nv k ∧ nr' k = nr k) (h8 : ∀ k, k < 8 → qk' k = qk k ∧ qv' k = qv k ∧ qr' k = qr k) : IT p l x ov' orr' nv' nr' q qk' qv' qr' wa := by
  obtain ⟨⟨hp, hq, hl, hx, hqp⟩, r0, r1, rq, rw', rp0, rp3⟩ := R
  refine ⟨⟨hp, hq, hl, hx, hqp⟩, ITs_ext r0 (fun k hk => ⟨(h31 k hk).1, (h31 k hk).2.1⟩), ITs_ext r1 (fun k hk => ⟨(h31 k hk).2.2.1, (h31 k hk).2.2.2⟩), fun i hi => ?_, rw', fun h k hk => by rw [(h31 k hk).2.2.1, (h31 k hk).2.2.2]; exact rp0 h k hk, fun h k hk => by rw [(h31 k hk).1, (h31 k hk).2.1]; exact rp3 h k hk⟩
  obtain ⟨g1, g2, g3⟩ := h8 i (by omega)
  rw [g1, g2, g3]
  exact rq i hi
/-! the latest write of a key, what is read -/
theorem zlat_none {qk : Nat → Int32} {k : Int32} : zlat qk k 0 = zN := rfl
theorem zlat_last {qk : Nat → Int32} {k : Int32} {q : Nat} : zlat (upd qk q k) k (q + 1) = nI q := by
  unfold zlat
  rw [z_us, if_pos rfl]
theorem zlat_ext {qk qk' : Nat → Int32} {k : Int32} : ∀ q, (∀ i, i < q → qk' i = qk i) → zlat qk' k q = zlat qk k q
  | 0, _ => rfl
  | n + 1, h => by
    unfold zlat
    rw [h n (by omega), zlat_ext n (fun i hi => h i (by omega))]
theorem zrr_ext {p q k s : Nat} {orr nv nr qk qr orr' nv' nr' qk' qr' : Nat → Int32} (hq : q ≤ 8) (h1 : orr' k = orr k) (h2 : nv' k = nv k) (h3 : nr' k = nr k) (h8 : ∀ i, i < 8 → qk' i = qk i ∧ qr' i = qr i) : zrr p q orr' nv' nr' qk' qr' k s = zrr p q orr nv nr qk qr k s := by
  unfold zrr
  rw [zlat_ext q (fun i hi => (h8 i (by omega)).1), h1, h2, h3]
  rcases zlat_or qk (nI k) q with h | ⟨i, hi, h, -⟩
  · have hA : ¬ (¬ zlat qk (nI k) q = zN ∧ s = zsec p) := fun e => e.1 h
    rw [if_neg hA, if_neg hA]
  · rw [h, nI_clamp (by omega), (h8 i (by omega)).2]
/-- what is read behind a write of a row at a key -/
def PutP (p q k : Nat) (r : Int32) (orr' nv' nr' : Nat → Int32) (q' : Nat) (qk' qr' : Nat → Int32) : Prop :=
  q' = (if p = 1 ∨ p = 2 then q + 1 else 0) ∧ zrr p q' orr' nv' nr' qk' qr' k 0 = mo r (nI 0) ∧ zrr p q' orr' nv' nr' qk' qr' k 1 = (if p = 0 then mo r (nI 0) else r)
/-- an operation's outcome on a table -/
def zRes (oC : Option (Int32 × zT)) (Q : Int32 → Nat → Nat → Nat → Int32 → (Nat → Int32) → (Nat → Int32) → (Nat → Int32) → (Nat → Int32) → Nat → (Nat → Int32) → (Nat → Int32) → (Nat → Int32) → (Nat → Int32) → Int32 → (Nat → Int32) → (Nat → Int32) → Prop) : Prop :=
  ∃ (r : Int32) (p l x : Nat) (lo : Int32) (ov orr nv nr : Nat → Int32) (q : Nat) (qk qv qr wr : Nat → Int32) (wa : Int32) (wc wk : Nat → Int32), oC = some (r, nI p, nI l, nI x, lo, ov, orr, nv, nr, nI q, qk, qv, qr, wr, wa, wc, wk) ∧ Q r p l x lo ov orr nv nr q qk qv qr wr wa wc wk
/-- an operation that is refused: the table is as it was -/
theorem zmo_zoo {r : Int32} (hr : zok r) : mo (mo r (nI 0)) (nI 0) = mo r (nI 0) := mo_old (mo_zoo hr)
section TO
variable {p l x : Nat} {lo : Int32} {ov orr nv nr : Nat → Int32} {q : Nat} {qk qv qr wr : Nat → Int32} {wa : Int32} {wc wk : Nat → Int32}
theorem T_put {k : Nat} {r : Int32} (R : IT p l x ov orr nv nr q qk qv qr wa) (hk : k < 31) (hr : zok r) (hl : l < 1000) : (((p = 1 ∨ p = 2) ∧ q = 8) ∧ fX4_put (nI k) r (nI p) (nI l) (nI x) lo ov orr nv nr (nI q) qk qv qr wr wa wc wk = some (-1000003, nI p, nI l, nI x, lo, ov, orr, nv, nr, nI q, qk, qv, qr, wr, wa, wc, wk)) ∨
    zRes (fX4_put (nI k) r (nI p) (nI l) (nI x) lo ov orr nv nr (nI q) qk qv qr wr wa wc wk) (fun r' p' l' x' lo' ov' orr' nv' nr' q' qk' qv' qr' _ wa' _ _ => r' = nI (l + 1) ∧ p' = p ∧ l' = l + 1 ∧ x' = x ∧ lo' = lo ∧ IT p' l' x' ov' orr' nv' nr' q' qk' qv' qr' wa' ∧ PutP p q k r orr' nv' nr' q' qk' qr') := by
  obtain ⟨⟨hp, hq, hl0, hx, hqp⟩, r0, r1, rq, rw', rp0, rp3⟩ := R
  by_cases hfull : (p = 1 ∨ p = 2) ∧ q = 8
  · refine Or.inl ⟨hfull, ?_⟩
    obtain ⟨hb, rfl⟩ := hfull
    unfold fX4_put
    rw [C_hasBoth hp, z_bs, if_pos hb]
    simp (disch := omega) only [gl_0, gl_1, gl_2, gl_3, gl_4, gl_5, gl_6, gl_7, gl_8, gl_9, gl_10, gl_11, gl_12, gl_13, gl_14, gl_15, gl_16, gl_17, gl_18, gl_19, gl_20, gl_21, gl_22, gl_23, gl_24, gl_25, gl_26, gl_27, gl_28, gl_29, gl_30, gl_31, gl_32, gl_44, gl_48, gl_49, gl_57, gl_59, gl_60, gl_63, gl_70, gl_98, gl_99, gl_100, gl_101, gl_107, gl_109, gl_110, gl_111, gl_116, gl_120, gl_126, gl_155, gl_411, gl_999, gl_1000, gl_1233, gl_1644, gl_100000, gl_m1, nI_eq, nI_leI, nI_ltI, nI_add, nI_clamp, pk_mul, pk_sub, z_in, z_gt, z_bs, z_us, z_un, if_pos, if_neg, if_true, if_false, and_true, true_and, and_self, not_true_eq_false, not_false_eq_true, fX4_put_b24]
  refine Or.inr ?_
  have hl' : l < 100000 := by omega
  have hq8 : (p = 1 ∨ p = 2) → q < 8 := fun h => by
    rcases Nat.lt_or_ge q 8 with h' | h'
    · exact h'
    · exact absurd ⟨h, by omega⟩ hfull
  obtain ⟨z0, v0, v0l, v0e, _⟩ := r0 k hk
  obtain ⟨z1, v1, v1l, v1e, _⟩ := r1 k hk
  have hl1 : l + 1 = 0 → r = zN := fun h => absurd h (by omega)
  rcases (show p = 0 ∨ p = 1 ∨ p = 2 ∨ p = 3 by omega) with rfl | rfl | rfl | rfl
  · have hq0 : q = 0 := Decidable.byContradiction fun h => by
      have := hqp h
      omega
    subst hq0
    unfold fX4_put
    have y0 : zfst 0 = 0 := rfl
    have ec := C_take (row := orr) (r := r) (sh := 0) (w := l + 1) hk v0e (by omega) (by omega)
    simp (disch := omega) only [gl_0, gl_1, gl_2, gl_3, gl_4, gl_5, gl_6, gl_7, gl_8, gl_9, gl_10, gl_11, gl_12, gl_13, gl_14, gl_15, gl_16, gl_17, gl_18, gl_19, gl_20, gl_21, gl_22, gl_23, gl_24, gl_25, gl_26, gl_27, gl_28, gl_29, gl_30, gl_31, gl_32, gl_44, gl_48, gl_49, gl_57, gl_59, gl_60, gl_63, gl_70, gl_98, gl_99, gl_100, gl_101, gl_107, gl_109, gl_110, gl_111, gl_116, gl_120, gl_126, gl_155, gl_411, gl_999, gl_1000, gl_1233, gl_1644, gl_100000, gl_m1, nI_eq, nI_leI, nI_ltI, nI_add, nI_clamp, pk_mul, pk_sub, z_in, z_gt, z_bs, z_us, z_un, if_pos, if_neg, if_true, if_false, and_true, true_and, and_self, not_true_eq_false, not_false_eq_true, C_hasBoth (show 0 ≤ 3 by omega), C_first (show 0 ≤ 3 by omega), y0, C_shape (show 0 < 2 by omega), fX4_put_b23, fX4_put_b24, ec]
    refine ⟨_, 0, l + 1, x, lo, _, _, nv, nr, 0, qk, qv, qr, _, wa, wc, wk, rfl, rfl, rfl, rfl, rfl, rfl, ⟨⟨by omega, by omega, by omega, hx, fun h => absurd rfl h⟩, ITs_set (ITs_mono r0 (by omega)) (zv_mo (by omega) hr) (by omega) (fun h => absurd h (by omega)), ITs_mono r1 (by omega), fun i hi => absurd hi (by omega), rw', rp0, fun h => absurd h (by omega)⟩, rfl, ?_, ?_⟩
    · simp [zrr, zlat_none, z_us, zmo_zoo hr]
    · simp [zrr, zlat_none, z_us, mo_1]
  · have hq' := hq8 (by omega)
    unfold fX4_put
    have y0 : zfst 1 = 0 := rfl
    have ec := C_take (row := orr) (r := r) (sh := 0) (w := l + 1) hk v0e (by omega) (by omega)
    simp (disch := omega) only [gl_0, gl_1, gl_2, gl_3, gl_4, gl_5, gl_6, gl_7, gl_8, gl_9, gl_10, gl_11, gl_12, gl_13, gl_14, gl_15, gl_16, gl_17, gl_18, gl_19, gl_20, gl_21, gl_22, gl_23, gl_24, gl_25, gl_26, gl_27, gl_28, gl_29, gl_30, gl_31, gl_32, gl_44, gl_48, gl_49, gl_57, gl_59, gl_60, gl_63, gl_70, gl_98, gl_99, gl_100, gl_101, gl_107, gl_109, gl_110, gl_111, gl_116, gl_120, gl_126, gl_155, gl_411, gl_999, gl_1000, gl_1233, gl_1644, gl_100000, gl_m1, nI_eq, nI_leI, nI_ltI, nI_add, nI_clamp, pk_mul, pk_sub, z_in, z_gt, z_bs, z_us, z_un, if_pos, if_neg, if_true, if_false, and_true, true_and, and_self, not_true_eq_false, not_false_eq_true, C_hasBoth (show 1 ≤ 3 by omega), C_first (show 1 ≤ 3 by omega), y0, C_shape (show 0 < 2 by omega), fX4_put_b23, fX4_put_b24, ec, C_append hq']
    have hs : zsec 1 = 1 := rfl
    have hn : ¬ nI q = zN := z_m1 (by omega)
    refine ⟨_, 1, l + 1, x, lo, _, _, nv, nr, q + 1, _, _, _, _, wa, wc, wk, rfl, rfl, rfl, rfl, rfl, rfl, ⟨⟨by omega, by omega, by omega, hx, fun _ => Or.inl rfl⟩, ITs_set (ITs_mono r0 (by omega)) (zv_mo (by omega) hr) (by omega) (fun h => absurd h (by omega)), ITs_mono r1 (by omega), ITq_append rq hk hr, rw', fun h => absurd h (by omega), fun h => absurd h (by omega)⟩, rfl, ?_, ?_⟩
    · simp [zrr, zlat_last, hs, z_us, zmo_zoo hr]
    · simp [zrr, zlat_last, hs, z_us, mo_1, hn, nI_clamp (show q < 2 ^ 31 by omega)]
  · have hq' := hq8 (by omega)
    unfold fX4_put
    have y0 : zfst 2 = 1 := rfl
    have ec := C_take (row := nr) (r := r) (sh := 1) (w := l + 1) hk v1e (by omega) (by omega)
    simp (disch := omega) only [gl_0, gl_1, gl_2, gl_3, gl_4, gl_5, gl_6, gl_7, gl_8, gl_9, gl_10, gl_11, gl_12, gl_13, gl_14, gl_15, gl_16, gl_17, gl_18, gl_19, gl_20, gl_21, gl_22, gl_23, gl_24, gl_25, gl_26, gl_27, gl_28, gl_29, gl_30, gl_31, gl_32, gl_44, gl_48, gl_49, gl_57, gl_59, gl_60, gl_63, gl_70, gl_98, gl_99, gl_100, gl_101, gl_107, gl_109, gl_110, gl_111, gl_116, gl_120, gl_126, gl_155, gl_411, gl_999, gl_1000, gl_1233, gl_1644, gl_100000, gl_m1, nI_eq, nI_leI, nI_ltI, nI_add, nI_clamp, pk_mul, pk_sub, z_in, z_gt, z_bs, z_us, z_un, if_pos, if_neg, if_true, if_false, and_true, true_and, and_self, not_true_eq_false, not_false_eq_true, C_hasBoth (show 2 ≤ 3 by omega), C_first (show 2 ≤ 3 by omega), y0, C_shape (show 1 < 2 by omega), fX4_put_b23, fX4_put_b24, ec, C_append hq']
    have hs : zsec 2 = 0 := rfl
    have hn : ¬ nI q = zN := z_m1 (by omega)
    refine ⟨_, 2, l + 1, x, lo, ov, orr, _, _, q + 1, _, _, _, _, wa, wc, wk, rfl, rfl, rfl, rfl, rfl, rfl, ⟨⟨by omega, by omega, by omega, hx, fun _ => Or.inr rfl⟩, ITs_mono r0 (by omega), ITs_set (ITs_mono r1 (by omega)) (zv_mo (by omega) hr) (by omega) (fun h => absurd h (by omega)), ITq_append rq hk hr, rw', fun h => absurd h (by omega), fun h => absurd h (by omega)⟩, rfl, ?_, ?_⟩
    · simp [zrr, zlat_last, hs, z_us, hn, nI_clamp (show q < 2 ^ 31 by omega)]
    · simp [zrr, zlat_last, hs, z_us, mo_1]
  · have hq0 : q = 0 := Decidable.byContradiction fun h => by
      have := hqp h
      omega
    subst hq0
    unfold fX4_put
    have y0 : zfst 3 = 1 := rfl
    have ec := C_take (row := nr) (r := r) (sh := 1) (w := l + 1) hk v1e (by omega) (by omega)
    simp (disch := omega) only [gl_0, gl_1, gl_2, gl_3, gl_4, gl_5, gl_6, gl_7, gl_8, gl_9, gl_10, gl_11, gl_12, gl_13, gl_14, gl_15, gl_16, gl_17, gl_18, gl_19, gl_20, gl_21, gl_22, gl_23, gl_24, gl_25, gl_26, gl_27, gl_28, gl_29, gl_30, gl_31, gl_32, gl_44, gl_48, gl_49, gl_57, gl_59, gl_60, gl_63, gl_70, gl_98, gl_99, gl_100, gl_101, gl_107, gl_109, gl_110, gl_111, gl_116, gl_120, gl_126, gl_155, gl_411, gl_999, gl_1000, gl_1233, gl_1644, gl_100000, gl_m1, nI_eq, nI_leI, nI_ltI, nI_add, nI_clamp, pk_mul, pk_sub, z_in, z_gt, z_bs, z_us, z_un, if_pos, if_neg, if_true, if_false, and_true, true_and, and_self, not_true_eq_false, not_false_eq_true, C_hasBoth (show 3 ≤ 3 by omega), C_first (show 3 ≤ 3 by omega), y0, C_shape (show 1 < 2 by omega), fX4_put_b23, fX4_put_b24, ec]
    refine ⟨_, 3, l + 1, x, lo, ov, orr, _, _, 0, qk, qv, qr, _, wa, wc, wk, rfl, rfl, rfl, rfl, rfl, rfl, ⟨⟨by omega, by omega, by omega, hx, fun h => absurd rfl h⟩, ITs_mono r0 (by omega), ITs_set (ITs_mono r1 (by omega)) (zv_mo (by omega) hr) (by omega) (fun h => absurd h (by omega)), fun i hi => absurd hi (by omega), rw', fun h => absurd h (by omega), rp3⟩, rfl, ?_, ?_⟩
    · simp [zrr, zlat_none, z_us, mo_1]
    · simp [zrr, zlat_none, z_us, mo_1]
theorem T_putOld {k a b c : Nat} (hk : k < 31) (ha : a < 100) (hb : b < 10) (hc : c < 2) : fX4_putOld (nI k) (nI a) (nI b) (nI c) (nI p) (nI l) (nI x) lo ov orr nv nr (nI q) qk qv qr wr wa wc wk = fX4_put (nI k) (nI (4 * (10 * a + b) + c)) (nI p) (nI l) (nI x) lo ov orr nv nr (nI q) qk qv qr wr wa wc wk := by
  unfold fX4_putOld
  simp (disch := omega) only [gl_0, gl_1, gl_2, gl_3, gl_4, gl_5, gl_6, gl_7, gl_8, gl_9, gl_10, gl_11, gl_12, gl_13, gl_14, gl_15, gl_16, gl_17, gl_18, gl_19, gl_20, gl_21, gl_22, gl_23, gl_24, gl_25, gl_26, gl_27, gl_28, gl_29, gl_30, gl_31, gl_32, gl_44, gl_48, gl_49, gl_57, gl_59, gl_60, gl_63, gl_70, gl_98, gl_99, gl_100, gl_101, gl_107, gl_109, gl_110, gl_111, gl_116, gl_120, gl_126, gl_155, gl_411, gl_999, gl_1000, gl_1233, gl_1644, gl_100000, gl_m1, nI_eq, nI_leI, nI_ltI, nI_add, nI_clamp, pk_mul, pk_sub, z_in, z_gt, z_bs, z_us, z_un, if_pos, if_neg, if_true, if_false, and_true, true_and, and_self, not_true_eq_false, not_false_eq_true, C_isBelow_nI, C_ofOld]
  cases fX4_put (nI k) (nI (4 * (10 * a + b) + c)) (nI p) (nI l) (nI x) lo ov orr nv nr (nI q) qk qv qr wr wa wc wk <;> rfl
theorem T_putNew {k u v : Nat} (hk : k < 31) (hu : u < 1000) (hv : v < 4) : fX4_putNew (nI k) (nI u) (nI v) (nI p) (nI l) (nI x) lo ov orr nv nr (nI q) qk qv qr wr wa wc wk = fX4_put (nI k) (nI (4 * u + v)) (nI p) (nI l) (nI x) lo ov orr nv nr (nI q) qk qv qr wr wa wc wk := by
  unfold fX4_putNew
  simp (disch := omega) only [gl_0, gl_1, gl_2, gl_3, gl_4, gl_5, gl_6, gl_7, gl_8, gl_9, gl_10, gl_11, gl_12, gl_13, gl_14, gl_15, gl_16, gl_17, gl_18, gl_19, gl_20, gl_21, gl_22, gl_23, gl_24, gl_25, gl_26, gl_27, gl_28, gl_29, gl_30, gl_31, gl_32, gl_44, gl_48, gl_49, gl_57, gl_59, gl_60, gl_63, gl_70, gl_98, gl_99, gl_100, gl_101, gl_107, gl_109, gl_110, gl_111, gl_116, gl_120, gl_126, gl_155, gl_411, gl_999, gl_1000, gl_1233, gl_1644, gl_100000, gl_m1, nI_eq, nI_leI, nI_ltI, nI_add, nI_clamp, pk_mul, pk_sub, z_in, z_gt, z_bs, z_us, z_un, if_pos, if_neg, if_true, if_false, and_true, true_and, and_self, not_true_eq_false, not_false_eq_true, C_isBelow_nI, C_ofNew]
  cases fX4_put (nI k) (nI (4 * u + v)) (nI p) (nI l) (nI x) lo ov orr nv nr (nI q) qk qv qr wr wa wc wk <;> rfl
theorem T_takeAway {k : Nat} (hp : p ≤ 3) (hk : k < 31) : fX4_takeAway (nI k) (nI p) (nI l) (nI x) lo ov orr nv nr (nI q) qk qv qr wr wa wc wk = some (-1000002, nI p, nI l, nI x, lo, ov, orr, nv, nr, nI q, qk, qv, qr, wr, wa, wc, wk) ∨ fX4_takeAway (nI k) (nI p) (nI l) (nI x) lo ov orr nv nr (nI q) qk qv qr wr wa wc wk = fX4_put (nI k) zN (nI p) (nI l) (nI x) lo ov orr nv nr (nI q) qk qv qr wr wa wc wk := by
  unfold fX4_takeAway
  have hf := zfst_lt p
  rcases (show zfst p = 0 ∨ zfst p = 1 by omega) with h | h
  · by_cases hr : orr k = zN
    · refine Or.inl ?_
      simp (disch := omega) only [gl_0, gl_1, gl_2, gl_3, gl_4, gl_5, gl_6, gl_7, gl_8, gl_9, gl_10, gl_11, gl_12, gl_13, gl_14, gl_15, gl_16, gl_17, gl_18, gl_19, gl_20, gl_21, gl_22, gl_23, gl_24, gl_25, gl_26, gl_27, gl_28, gl_29, gl_30, gl_31, gl_32, gl_44, gl_48, gl_49, gl_57, gl_59, gl_60, gl_63, gl_70, gl_98, gl_99, gl_100, gl_101, gl_107, gl_109, gl_110, gl_111, gl_116, gl_120, gl_126, gl_155, gl_411, gl_999, gl_1000, gl_1233, gl_1644, gl_100000, gl_m1, nI_eq, nI_leI, nI_ltI, nI_add, nI_clamp, pk_mul, pk_sub, z_in, z_gt, z_bs, z_us, z_un, if_pos, if_neg, if_true, if_false, and_true, true_and, and_self, not_true_eq_false, not_false_eq_true, C_isBelow_nI, C_first hp, h, C_shape (show 0 < 2 by omega), hr]
    · refine Or.inr ?_
      simp (disch := omega) only [gl_0, gl_1, gl_2, gl_3, gl_4, gl_5, gl_6, gl_7, gl_8, gl_9, gl_10, gl_11, gl_12, gl_13, gl_14, gl_15, gl_16, gl_17, gl_18, gl_19, gl_20, gl_21, gl_22, gl_23, gl_24, gl_25, gl_26, gl_27, gl_28, gl_29, gl_30, gl_31, gl_32, gl_44, gl_48, gl_49, gl_57, gl_59, gl_60, gl_63, gl_70, gl_98, gl_99, gl_100, gl_101, gl_107, gl_109, gl_110, gl_111, gl_116, gl_120, gl_126, gl_155, gl_411, gl_999, gl_1000, gl_1233, gl_1644, gl_100000, gl_m1, nI_eq, nI_leI, nI_ltI, nI_add, nI_clamp, pk_mul, pk_sub, z_in, z_gt, z_bs, z_us, z_un, if_pos, if_neg, if_true, if_false, and_true, true_and, and_self, not_true_eq_false, not_false_eq_true, C_isBelow_nI, C_first hp, h, C_shape (show 0 < 2 by omega), hr]
      cases fX4_put (nI k) zN (nI p) (nI l) (nI x) lo ov orr nv nr (nI q) qk qv qr wr wa wc wk <;> rfl
  · by_cases hr : nr k = zN
    · refine Or.inl ?_
      simp (disch := omega) only [gl_0, gl_1, gl_2, gl_3, gl_4, gl_5, gl_6, gl_7, gl_8, gl_9, gl_10, gl_11, gl_12, gl_13, gl_14, gl_15, gl_16, gl_17, gl_18, gl_19, gl_20, gl_21, gl_22, gl_23, gl_24, gl_25, gl_26, gl_27, gl_28, gl_29, gl_30, gl_31, gl_32, gl_44, gl_48, gl_49, gl_57, gl_59, gl_60, gl_63, gl_70, gl_98, gl_99, gl_100, gl_101, gl_107, gl_109, gl_110, gl_111, gl_116, gl_120, gl_126, gl_155, gl_411, gl_999, gl_1000, gl_1233, gl_1644, gl_100000, gl_m1, nI_eq, nI_leI, nI_ltI, nI_add, nI_clamp, pk_mul, pk_sub, z_in, z_gt, z_bs, z_us, z_un, if_pos, if_neg, if_true, if_false, and_true, true_and, and_self, not_true_eq_false, not_false_eq_true, C_isBelow_nI, C_first hp, h, C_shape (show 1 < 2 by omega), hr]
    · refine Or.inr ?_
      simp (disch := omega) only [gl_0, gl_1, gl_2, gl_3, gl_4, gl_5, gl_6, gl_7, gl_8, gl_9, gl_10, gl_11, gl_12, gl_13, gl_14, gl_15, gl_16, gl_17, gl_18, gl_19, gl_20, gl_21, gl_22, gl_23, gl_24, gl_25, gl_26, gl_27, gl_28, gl_29, gl_30, gl_31, gl_32, gl_44, gl_48, gl_49, gl_57, gl_59, gl_60, gl_63, gl_70, gl_98, gl_99, gl_100, gl_101, gl_107, gl_109, gl_110, gl_111, gl_116, gl_120, gl_126, gl_155, gl_411, gl_999, gl_1000, gl_1233, gl_1644, gl_100000, gl_m1, nI_eq, nI_leI, nI_ltI, nI_add, nI_clamp, pk_mul, pk_sub, z_in, z_gt, z_bs, z_us, z_un, if_pos, if_neg, if_true, if_false, and_true, true_and, and_self, not_true_eq_false, not_false_eq_true, C_isBelow_nI, C_first hp, h, C_shape (show 1 < 2 by omega), hr]
      cases fX4_put (nI k) zN (nI p) (nI l) (nI x) lo ov orr nv nr (nI q) qk qv qr wr wa wc wk <;> rfl
theorem T_startChange (R : IT p l x ov orr nv nr q qk qv qr wa) : (¬ p = 0 ∧ fX4_startChange (nI p) (nI l) (nI x) lo ov orr nv nr (nI q) qk qv qr wr wa wc wk = some (-1000002, nI p, nI l, nI x, lo, ov, orr, nv, nr, nI q, qk, qv, qr, wr, wa, wc, wk)) ∨
    (p = 0 ∧ fX4_startChange (nI p) (nI l) (nI x) lo ov orr nv nr (nI q) qk qv qr wr wa wc wk = some (nI (z_cnt (zP orr) 31), nI 1, nI l, nI 0, lo, ov, orr, nv, nr, nI q, qk, qv, qr, wr, wa, wc, wk) ∧ IT 1 l 0 ov orr nv nr q qk qv qr wa ∧ z_cnt (zkn nv) 31 = 0) := by
  obtain ⟨⟨hp, hq, hl0, hx, hqp⟩, r0, r1, rq, rw', rp0, rp3⟩ := R
  unfold fX4_startChange
  by_cases h : p = 0
  · subst h
    refine Or.inr ⟨rfl, ?_, ⟨⟨by omega, hq, hl0, by omega, fun _ => Or.inl rfl⟩, r0, r1, rq, rw', fun h => absurd h (by omega), fun h => absurd h (by omega)⟩, ?_⟩
    · simp (disch := omega) only [gl_0, gl_1, gl_2, gl_3, gl_4, gl_5, gl_6, gl_7, gl_8, gl_9, gl_10, gl_11, gl_12, gl_13, gl_14, gl_15, gl_16, gl_17, gl_18, gl_19, gl_20, gl_21, gl_22, gl_23, gl_24, gl_25, gl_26, gl_27, gl_28, gl_29, gl_30, gl_31, gl_32, gl_44, gl_48, gl_49, gl_57, gl_59, gl_60, gl_63, gl_70, gl_98, gl_99, gl_100, gl_101, gl_107, gl_109, gl_110, gl_111, gl_116, gl_120, gl_126, gl_155, gl_411, gl_999, gl_1000, gl_1233, gl_1644, gl_100000, gl_m1, nI_eq, nI_leI, nI_ltI, nI_add, nI_clamp, pk_mul, pk_sub, z_in, z_gt, z_bs, z_us, z_un, if_pos, if_neg, if_true, if_false, and_true, true_and, and_self, not_true_eq_false, not_false_eq_true, C_rows]
    · rw [z_cnt_congr (Q := fun _ => false) (fun k hk => by simp [zkn, (rp0 rfl k hk).1])]
      rfl
  · refine Or.inl ⟨h, ?_⟩
    simp (disch := omega) only [gl_0, gl_1, gl_2, gl_3, gl_4, gl_5, gl_6, gl_7, gl_8, gl_9, gl_10, gl_11, gl_12, gl_13, gl_14, gl_15, gl_16, gl_17, gl_18, gl_19, gl_20, gl_21, gl_22, gl_23, gl_24, gl_25, gl_26, gl_27, gl_28, gl_29, gl_30, gl_31, gl_32, gl_44, gl_48, gl_49, gl_57, gl_59, gl_60, gl_63, gl_70, gl_98, gl_99, gl_100, gl_101, gl_107, gl_109, gl_110, gl_111, gl_116, gl_120, gl_126, gl_155, gl_411, gl_999, gl_1000, gl_1233, gl_1644, gl_100000, gl_m1, nI_eq, nI_leI, nI_ltI, nI_add, nI_clamp, pk_mul, pk_sub, z_in, z_gt, z_bs, z_us, z_un, if_pos, if_neg, if_true, if_false, and_true, true_and, and_self, not_true_eq_false, not_false_eq_true, h]
theorem T_turnOver (R : IT p l x ov orr nv nr q qk qv qr wa) : (¬ (p = 1 ∧ x = 31 ∧ q = 0 ∧ z_bits (zdf ov orr nv nr) 31 = nI 0) ∧ fX4_turnOver (nI p) (nI l) (nI x) lo ov orr nv nr (nI q) qk qv qr wr wa wc wk = some (-1000002, nI p, nI l, nI x, lo, ov, orr, nv, nr, nI q, qk, qv, qr, wr, wa, wc, wk)) ∨
    ((p = 1 ∧ x = 31 ∧ q = 0 ∧ z_bits (zdf ov orr nv nr) 31 = nI 0) ∧ fX4_turnOver (nI p) (nI l) (nI x) lo ov orr nv nr (nI q) qk qv qr wr wa wc wk = some (nI (z_cnt (zP nr) 31), nI 2, nI l, nI x, lo, ov, orr, nv, nr, nI q, qk, qv, qr, wr, wa, wc, wk) ∧ IT 2 l x ov orr nv nr q qk qv qr wa) := by
  obtain ⟨⟨hp, hq, hl0, hx, hqp⟩, r0, r1, rq, rw', rp0, rp3⟩ := R
  unfold fX4_turnOver
  rw [C_isReady hp hq hx, z_bs]
  by_cases h : p = 1 ∧ x = 31 ∧ q = 0 ∧ z_bits (zdf ov orr nv nr) 31 = nI 0
  · refine Or.inr ⟨h, ?_, ⟨⟨by omega, hq, hl0, hx, fun _ => Or.inr rfl⟩, r0, r1, rq, rw', fun h => absurd h (by omega), fun h => absurd h (by omega)⟩⟩
    rw [if_pos h]
    simp (disch := omega) only [gl_0, gl_1, gl_2, gl_3, gl_4, gl_5, gl_6, gl_7, gl_8, gl_9, gl_10, gl_11, gl_12, gl_13, gl_14, gl_15, gl_16, gl_17, gl_18, gl_19, gl_20, gl_21, gl_22, gl_23, gl_24, gl_25, gl_26, gl_27, gl_28, gl_29, gl_30, gl_31, gl_32, gl_44, gl_48, gl_49, gl_57, gl_59, gl_60, gl_63, gl_70, gl_98, gl_99, gl_100, gl_101, gl_107, gl_109, gl_110, gl_111, gl_116, gl_120, gl_126, gl_155, gl_411, gl_999, gl_1000, gl_1233, gl_1644, gl_100000, gl_m1, nI_eq, nI_leI, nI_ltI, nI_add, nI_clamp, pk_mul, pk_sub, z_in, z_gt, z_bs, z_us, z_un, if_pos, if_neg, if_true, if_false, and_true, true_and, and_self, not_true_eq_false, not_false_eq_true, C_rows]
  · refine Or.inl ⟨h, ?_⟩
    rw [if_neg h]
    simp (disch := omega) only [gl_0, gl_1, gl_2, gl_3, gl_4, gl_5, gl_6, gl_7, gl_8, gl_9, gl_10, gl_11, gl_12, gl_13, gl_14, gl_15, gl_16, gl_17, gl_18, gl_19, gl_20, gl_21, gl_22, gl_23, gl_24, gl_25, gl_26, gl_27, gl_28, gl_29, gl_30, gl_31, gl_32, gl_44, gl_48, gl_49, gl_57, gl_59, gl_60, gl_63, gl_70, gl_98, gl_99, gl_100, gl_101, gl_107, gl_109, gl_110, gl_111, gl_116, gl_120, gl_126, gl_155, gl_411, gl_999, gl_1000, gl_1233, gl_1644, gl_100000, gl_m1, nI_eq, nI_leI, nI_ltI, nI_add, nI_clamp, pk_mul, pk_sub, z_in, z_gt, z_bs, z_us, z_un, if_pos, if_neg, if_true, if_false, and_true, true_and, and_self, not_true_eq_false, not_false_eq_true]
theorem T_turnBack (R : IT p l x ov orr nv nr q qk qv qr wa) : fX4_turnBack (nI p) (nI l) (nI x) lo ov orr nv nr (nI q) qk qv qr wr wa wc wk = some (-1000002, nI p, nI l, nI x, lo, ov, orr, nv, nr, nI q, qk, qv, qr, wr, wa, wc, wk) ∨
    (q = 0 ∧ ∃ (p' x' : Nat) (nv' nr' : Nat → Int32), p = p' + 1 ∧ fX4_turnBack (nI p) (nI l) (nI x) lo ov orr nv nr (nI q) qk qv qr wr wa wc wk = some (nI p', nI p', nI l, nI x', lo, ov, orr, nv', nr', nI q, qk, qv, qr, wr, wa, wc, wk) ∧ IT p' l x' ov orr nv' nr' q qk qv qr wa) := by
  obtain ⟨⟨hp, hq, hl0, hx, hqp⟩, r0, r1, rq, rw', rp0, rp3⟩ := R
  unfold fX4_turnBack
  rw [C_hasBoth hp, z_bs]
  by_cases hb : p = 1 ∨ p = 2
  · rw [if_pos hb]
    by_cases hq0 : q = 0
    · subst hq0
      refine Or.inr ⟨rfl, ?_⟩
      rcases hb with rfl | rfl
      · obtain ⟨ver', row', ec, hc⟩ := C_clear 1 nv nr
        simp only [gl_1] at ec
        refine ⟨0, x, ver', row', rfl, ?_, ⟨⟨by omega, hq, hl0, hx, fun h => absurd rfl h⟩, r0, ITs_cleared hc, rq, rw', fun _ => hc, fun h => absurd h (by omega)⟩⟩
        simp (disch := omega) only [gl_0, gl_1, gl_2, gl_3, gl_4, gl_5, gl_6, gl_7, gl_8, gl_9, gl_10, gl_11, gl_12, gl_13, gl_14, gl_15, gl_16, gl_17, gl_18, gl_19, gl_20, gl_21, gl_22, gl_23, gl_24, gl_25, gl_26, gl_27, gl_28, gl_29, gl_30, gl_31, gl_32, gl_44, gl_48, gl_49, gl_57, gl_59, gl_60, gl_63, gl_70, gl_98, gl_99, gl_100, gl_101, gl_107, gl_109, gl_110, gl_111, gl_116, gl_120, gl_126, gl_155, gl_411, gl_999, gl_1000, gl_1233, gl_1644, gl_100000, gl_m1, nI_eq, nI_leI, nI_ltI, nI_add, nI_clamp, pk_mul, pk_sub, z_in, z_gt, z_bs, z_us, z_un, if_pos, if_neg, if_true, if_false, and_true, true_and, and_self, not_true_eq_false, not_false_eq_true, ec]
      · refine ⟨1, 31, nv, nr, rfl, ?_, ⟨⟨by omega, hq, hl0, by omega, fun h => absurd rfl h⟩, r0, r1, rq, rw', fun h => absurd h (by omega), fun h => absurd h (by omega)⟩⟩
        simp (disch := omega) only [gl_0, gl_1, gl_2, gl_3, gl_4, gl_5, gl_6, gl_7, gl_8, gl_9, gl_10, gl_11, gl_12, gl_13, gl_14, gl_15, gl_16, gl_17, gl_18, gl_19, gl_20, gl_21, gl_22, gl_23, gl_24, gl_25, gl_26, gl_27, gl_28, gl_29, gl_30, gl_31, gl_32, gl_44, gl_48, gl_49, gl_57, gl_59, gl_60, gl_63, gl_70, gl_98, gl_99, gl_100, gl_101, gl_107, gl_109, gl_110, gl_111, gl_116, gl_120, gl_126, gl_155, gl_411, gl_999, gl_1000, gl_1233, gl_1644, gl_100000, gl_m1, nI_eq, nI_leI, nI_ltI, nI_add, nI_clamp, pk_mul, pk_sub, z_in, z_gt, z_bs, z_us, z_un, if_pos, if_neg, if_true, if_false, and_true, true_and, and_self, not_true_eq_false, not_false_eq_true]
    · refine Or.inl ?_
      simp (disch := omega) only [gl_0, gl_1, gl_2, gl_3, gl_4, gl_5, gl_6, gl_7, gl_8, gl_9, gl_10, gl_11, gl_12, gl_13, gl_14, gl_15, gl_16, gl_17, gl_18, gl_19, gl_20, gl_21, gl_22, gl_23, gl_24, gl_25, gl_26, gl_27, gl_28, gl_29, gl_30, gl_31, gl_32, gl_44, gl_48, gl_49, gl_57, gl_59, gl_60, gl_63, gl_70, gl_98, gl_99, gl_100, gl_101, gl_107, gl_109, gl_110, gl_111, gl_116, gl_120, gl_126, gl_155, gl_411, gl_999, gl_1000, gl_1233, gl_1644, gl_100000, gl_m1, nI_eq, nI_leI, nI_ltI, nI_add, nI_clamp, pk_mul, pk_sub, z_in, z_gt, z_bs, z_us, z_un, if_pos, if_neg, if_true, if_false, and_true, true_and, and_self, not_true_eq_false, not_false_eq_true]
  · refine Or.inl ?_
    rw [if_neg hb]
    simp (disch := omega) only [gl_0, gl_1, gl_2, gl_3, gl_4, gl_5, gl_6, gl_7, gl_8, gl_9, gl_10, gl_11, gl_12, gl_13, gl_14, gl_15, gl_16, gl_17, gl_18, gl_19, gl_20, gl_21, gl_22, gl_23, gl_24, gl_25, gl_26, gl_27, gl_28, gl_29, gl_30, gl_31, gl_32, gl_44, gl_48, gl_49, gl_57, gl_59, gl_60, gl_63, gl_70, gl_98, gl_99, gl_100, gl_101, gl_107, gl_109, gl_110, gl_111, gl_116, gl_120, gl_126, gl_155, gl_411, gl_999, gl_1000, gl_1233, gl_1644, gl_100000, gl_m1, nI_eq, nI_leI, nI_ltI, nI_add, nI_clamp, pk_mul, pk_sub, z_in, z_gt, z_bs, z_us, z_un, if_pos, if_neg, if_true, if_false, and_true, true_and, and_self, not_true_eq_false, not_false_eq_true]
theorem T_dropOld (R : IT p l x ov orr nv nr q qk qv qr wa) : fX4_dropOld (nI p) (nI l) (nI x) lo ov orr nv nr (nI q) qk qv qr wr wa wc wk = some (-1000002, nI p, nI l, nI x, lo, ov, orr, nv, nr, nI q, qk, qv, qr, wr, wa, wc, wk) ∨
    (p = 2 ∧ ∃ (ov' orr' : Nat → Int32), fX4_dropOld (nI p) (nI l) (nI x) lo ov orr nv nr (nI q) qk qv qr wr wa wc wk = some (nI (z_cnt (zst nr) 31), nI 3, nI l, nI x, lo, ov', orr', nv, nr, nI q, qk, qv, qr, wr, wa, wc, wk) ∧ IT 3 l x ov' orr' nv nr q qk qv qr wa ∧ z_cnt (zP orr') 31 = 0) := by
  obtain ⟨⟨hp, hq, hl0, hx, hqp⟩, r0, r1, rq, rw', rp0, rp3⟩ := R
  unfold fX4_dropOld
  by_cases h2 : p = 2
  · subst h2
    by_cases hq0 : q = 0
    · subst hq0
      by_cases hd : z_bits (zdf ov orr nv nr) 31 = nI 0
      · obtain ⟨ver', row', ec, hc⟩ := C_clear 0 ov orr
        simp only [gl_0] at ec
        refine Or.inr ⟨rfl, ver', row', ?_, ⟨⟨by omega, hq, hl0, hx, fun h => absurd rfl h⟩, ITs_cleared hc, r1, rq, rw', fun h => absurd h (by omega), fun _ => hc⟩, ?_⟩
        · simp (disch := omega) only [gl_0, gl_1, gl_2, gl_3, gl_4, gl_5, gl_6, gl_7, gl_8, gl_9, gl_10, gl_11, gl_12, gl_13, gl_14, gl_15, gl_16, gl_17, gl_18, gl_19, gl_20, gl_21, gl_22, gl_23, gl_24, gl_25, gl_26, gl_27, gl_28, gl_29, gl_30, gl_31, gl_32, gl_44, gl_48, gl_49, gl_57, gl_59, gl_60, gl_63, gl_70, gl_98, gl_99, gl_100, gl_101, gl_107, gl_109, gl_110, gl_111, gl_116, gl_120, gl_126, gl_155, gl_411, gl_999, gl_1000, gl_1233, gl_1644, gl_100000, gl_m1, nI_eq, nI_leI, nI_ltI, nI_add, nI_clamp, pk_mul, pk_sub, z_in, z_gt, z_bs, z_us, z_un, if_pos, if_neg, if_true, if_false, and_true, true_and, and_self, not_true_eq_false, not_false_eq_true, C_differing, hd, ec, C_strangeRows]
        · rw [z_cnt_congr (Q := fun _ => false) (fun k hk => by simp [zP, (hc k hk).2])]
          rfl
      · refine Or.inl ?_
        simp (disch := omega) only [gl_0, gl_1, gl_2, gl_3, gl_4, gl_5, gl_6, gl_7, gl_8, gl_9, gl_10, gl_11, gl_12, gl_13, gl_14, gl_15, gl_16, gl_17, gl_18, gl_19, gl_20, gl_21, gl_22, gl_23, gl_24, gl_25, gl_26, gl_27, gl_28, gl_29, gl_30, gl_31, gl_32, gl_44, gl_48, gl_49, gl_57, gl_59, gl_60, gl_63, gl_70, gl_98, gl_99, gl_100, gl_101, gl_107, gl_109, gl_110, gl_111, gl_116, gl_120, gl_126, gl_155, gl_411, gl_999, gl_1000, gl_1233, gl_1644, gl_100000, gl_m1, nI_eq, nI_leI, nI_ltI, nI_add, nI_clamp, pk_mul, pk_sub, z_in, z_gt, z_bs, z_us, z_un, if_pos, if_neg, if_true, if_false, and_true, true_and, and_self, not_true_eq_false, not_false_eq_true, C_differing, hd]
    · refine Or.inl ?_
      simp (disch := omega) only [gl_0, gl_1, gl_2, gl_3, gl_4, gl_5, gl_6, gl_7, gl_8, gl_9, gl_10, gl_11, gl_12, gl_13, gl_14, gl_15, gl_16, gl_17, gl_18, gl_19, gl_20, gl_21, gl_22, gl_23, gl_24, gl_25, gl_26, gl_27, gl_28, gl_29, gl_30, gl_31, gl_32, gl_44, gl_48, gl_49, gl_57, gl_59, gl_60, gl_63, gl_70, gl_98, gl_99, gl_100, gl_101, gl_107, gl_109, gl_110, gl_111, gl_116, gl_120, gl_126, gl_155, gl_411, gl_999, gl_1000, gl_1233, gl_1644, gl_100000, gl_m1, nI_eq, nI_leI, nI_ltI, nI_add, nI_clamp, pk_mul, pk_sub, z_in, z_gt, z_bs, z_us, z_un, if_pos, if_neg, if_true, if_false, and_true, true_and, and_self, not_true_eq_false, not_false_eq_true]
  · refine Or.inl ?_
    simp (disch := omega) only [gl_0, gl_1, gl_2, gl_3, gl_4, gl_5, gl_6, gl_7, gl_8, gl_9, gl_10, gl_11, gl_12, gl_13, gl_14, gl_15, gl_16, gl_17, gl_18, gl_19, gl_20, gl_21, gl_22, gl_23, gl_24, gl_25, gl_26, gl_27, gl_28, gl_29, gl_30, gl_31, gl_32, gl_44, gl_48, gl_49, gl_57, gl_59, gl_60, gl_63, gl_70, gl_98, gl_99, gl_100, gl_101, gl_107, gl_109, gl_110, gl_111, gl_116, gl_120, gl_126, gl_155, gl_411, gl_999, gl_1000, gl_1233, gl_1644, gl_100000, gl_m1, nI_eq, nI_leI, nI_ltI, nI_add, nI_clamp, pk_mul, pk_sub, z_in, z_gt, z_bs, z_us, z_un, if_pos, if_neg, if_true, if_false, and_true, true_and, and_self, not_true_eq_false, not_false_eq_true, h2]
theorem T_drain {m : Nat} (R : IT p l x ov orr nv nr q qk qv qr wa) (hm1 : 1 ≤ m) (hm8 : m ≤ 8) : (q = 0 ∧ fX4_drainQueue (nI m) (nI p) (nI l) (nI x) lo ov orr nv nr (nI q) qk qv qr wr wa wc wk = some (-1000002, nI p, nI l, nI x, lo, ov, orr, nv, nr, nI q, qk, qv, qr, wr, wa, wc, wk)) ∨
    (¬ q = 0 ∧ ∃ (ov' orr' nv' nr' qk' qv' qr' : Nat → Int32), fX4_drainQueue (nI m) (nI p) (nI l) (nI x) lo ov orr nv nr (nI q) qk qv qr wr wa wc wk = some (nI (q - m), nI p, nI l, nI x, lo, ov', orr', nv', nr', nI (q - m), qk', qv', qr', wr, wa, wc, wk) ∧ IT p l x ov' orr' nv' nr' (q - m) qk' qv' qr' wa) := by
  obtain ⟨⟨hp, hq, hl0, hx, hqp⟩, r0, r1, rq, rw', rp0, rp3⟩ := R
  unfold fX4_drainQueue
  by_cases hq0 : q = 0
  · subst hq0
    refine Or.inl ⟨rfl, ?_⟩
    simp (disch := omega) only [gl_0, gl_1, gl_2, gl_3, gl_4, gl_5, gl_6, gl_7, gl_8, gl_9, gl_10, gl_11, gl_12, gl_13, gl_14, gl_15, gl_16, gl_17, gl_18, gl_19, gl_20, gl_21, gl_22, gl_23, gl_24, gl_25, gl_26, gl_27, gl_28, gl_29, gl_30, gl_31, gl_32, gl_44, gl_48, gl_49, gl_57, gl_59, gl_60, gl_63, gl_70, gl_98, gl_99, gl_100, gl_101, gl_107, gl_109, gl_110, gl_111, gl_116, gl_120, gl_126, gl_155, gl_411, gl_999, gl_1000, gl_1233, gl_1644, gl_100000, gl_m1, nI_eq, nI_leI, nI_ltI, nI_add, nI_clamp, pk_mul, pk_sub, z_in, z_gt, z_bs, z_us, z_un, if_pos, if_neg, if_true, if_false, and_true, true_and, and_self, not_true_eq_false, not_false_eq_true]
  have hmin : (if nI q < nI m then nI q else nI m : Int32) = nI (if q < m then q else m) := by
    by_cases h : q < m
    · rw [if_pos h, if_pos ((nI_ltI (by omega) (by omega)).2 h)]
    · rw [if_neg h, if_neg (fun h' => h ((nI_ltI (by omega) (by omega)).1 h'))]
  have hdq : (if q < m then q else m) ≤ q := by split <;> omega
  have hqd : q - (if q < m then q else m) = q - m := by split <;> omega
  have hkk : ∀ i, i < q → ∃ k, k < 31 ∧ qk i = nI k := fun i hi => (rq i hi).2.1
  refine Or.inr ⟨hq0, ?_⟩
  rcases hqp hq0 with rfl | rfl
  · obtain ⟨qk', qv', qr', ec, hc⟩ := C_dr1 (ph := nI 1) (la := nI l) (po := nI x) (lo := lo) (ov := ov) (orr := orr) (nv := nv) (nr := nr) (qv := qv) (qr := qr) (wr := wr) (wa := wa) (wc := wc) (wk := wk) hdq hq hkk
    have hT := ITq_drop rq hdq hc
    rw [hqd] at ec hc hT
    refine ⟨ov, orr, _, _, qk', qv', qr', ?_, ⟨⟨by omega, by omega, hl0, hx, fun _ => Or.inl rfl⟩, r0, ITs_zdr (s := (nv, nr)) (by omega) rq r1 _ hdq, hT, rw', fun h => absurd h (by omega), fun h => absurd h (by omega)⟩⟩
    have z0 : zsec 1 = 1 := rfl
    simp only [gl_0, gl_1, gl_2, gl_3, gl_4, gl_5, gl_6, gl_7, gl_8, gl_9, gl_10, gl_11, gl_12, gl_13, gl_14, gl_15, gl_16, gl_17, gl_18, gl_19, gl_20, gl_21, gl_22, gl_23, gl_24, gl_25, gl_26, gl_27, gl_28, gl_29, gl_30, gl_31, gl_32, gl_44, gl_48, gl_49, gl_57, gl_59, gl_60, gl_63, gl_70, gl_98, gl_99, gl_100, gl_101, gl_107, gl_109, gl_110, gl_111, gl_116, gl_120, gl_126, gl_155, gl_411, gl_999, gl_1000, gl_1233, gl_1644, gl_100000, gl_m1]
    rw [hmin]
    simp (disch := omega) only [gl_0, gl_1, gl_2, gl_3, gl_4, gl_5, gl_6, gl_7, gl_8, gl_9, gl_10, gl_11, gl_12, gl_13, gl_14, gl_15, gl_16, gl_17, gl_18, gl_19, gl_20, gl_21, gl_22, gl_23, gl_24, gl_25, gl_26, gl_27, gl_28, gl_29, gl_30, gl_31, gl_32, gl_44, gl_48, gl_49, gl_57, gl_59, gl_60, gl_63, gl_70, gl_98, gl_99, gl_100, gl_101, gl_107, gl_109, gl_110, gl_111, gl_116, gl_120, gl_126, gl_155, gl_411, gl_999, gl_1000, gl_1233, gl_1644, gl_100000, gl_m1, nI_eq, nI_leI, nI_ltI, C_second (show 1 ≤ 3 by omega), z0, C_shape (show 1 < 2 by omega), z_bs, if_neg, if_pos]
    exact ec
  · obtain ⟨qk', qv', qr', ec, hc⟩ := C_dr0 (ph := nI 2) (la := nI l) (po := nI x) (lo := lo) (ov := ov) (orr := orr) (nv := nv) (nr := nr) (qv := qv) (qr := qr) (wr := wr) (wa := wa) (wc := wc) (wk := wk) hdq hq hkk
    have hT := ITq_drop rq hdq hc
    rw [hqd] at ec hc hT
    refine ⟨_, _, nv, nr, qk', qv', qr', ?_, ⟨⟨by omega, by omega, hl0, hx, fun _ => Or.inr rfl⟩, ITs_zdr (s := (ov, orr)) (by omega) rq r0 _ hdq, r1, hT, rw', fun h => absurd h (by omega), fun h => absurd h (by omega)⟩⟩
    have z0 : zsec 2 = 0 := rfl
    simp only [gl_0, gl_1, gl_2, gl_3, gl_4, gl_5, gl_6, gl_7, gl_8, gl_9, gl_10, gl_11, gl_12, gl_13, gl_14, gl_15, gl_16, gl_17, gl_18, gl_19, gl_20, gl_21, gl_22, gl_23, gl_24, gl_25, gl_26, gl_27, gl_28, gl_29, gl_30, gl_31, gl_32, gl_44, gl_48, gl_49, gl_57, gl_59, gl_60, gl_63, gl_70, gl_98, gl_99, gl_100, gl_101, gl_107, gl_109, gl_110, gl_111, gl_116, gl_120, gl_126, gl_155, gl_411, gl_999, gl_1000, gl_1233, gl_1644, gl_100000, gl_m1]
    rw [hmin]
    simp (disch := omega) only [gl_0, gl_1, gl_2, gl_3, gl_4, gl_5, gl_6, gl_7, gl_8, gl_9, gl_10, gl_11, gl_12, gl_13, gl_14, gl_15, gl_16, gl_17, gl_18, gl_19, gl_20, gl_21, gl_22, gl_23, gl_24, gl_25, gl_26, gl_27, gl_28, gl_29, gl_30, gl_31, gl_32, gl_44, gl_48, gl_49, gl_57, gl_59, gl_60, gl_63, gl_70, gl_98, gl_99, gl_100, gl_101, gl_107, gl_109, gl_110, gl_111, gl_116, gl_120, gl_126, gl_155, gl_411, gl_999, gl_1000, gl_1233, gl_1644, gl_100000, gl_m1, nI_eq, nI_leI, nI_ltI, C_second (show 2 ≤ 3 by omega), z0, C_shape (show 0 < 2 by omega), z_bs, if_neg, if_pos]
    exact ec
theorem T_fill {m : Nat} (R : IT p l x ov orr nv nr q qk qv qr wa) (hm1 : 1 ≤ m) (hm8 : m ≤ 31) : ((¬ p = 1 ∨ x = 31) ∧ fX4_fillKeys (nI m) (nI p) (nI l) (nI x) lo ov orr nv nr (nI q) qk qv qr wr wa wc wk = some (-1000002, nI p, nI l, nI x, lo, ov, orr, nv, nr, nI q, qk, qv, qr, wr, wa, wc, wk)) ∨
    (p = 1 ∧ ∃ (n : Nat) (nv' nr' : Nat → Int32), n < 1000 ∧ fX4_fillKeys (nI m) (nI p) (nI l) (nI x) lo ov orr nv nr (nI q) qk qv qr wr wa wc wk = some (nI n, nI p, nI l, nI (if x + m < 31 then x + m else 31), lo, ov, orr, nv', nr', nI q, qk, qv, qr, wr, wa, wc, wk) ∧ IT p l (if x + m < 31 then x + m else 31) ov orr nv' nr' q qk qv qr wa) := by
  obtain ⟨⟨hp, hq, hl0, hx, hqp⟩, r0, r1, rq, rw', rp0, rp3⟩ := R
  unfold fX4_fillKeys
  by_cases hgo : p = 1 ∧ x < 31
  · obtain ⟨rfl, hx'⟩ := hgo
    refine Or.inr ⟨rfl, ?_⟩
    have he : x + (if x + m < 31 then m else 31 - x) = (if x + m < 31 then x + m else 31) := by split <;> omega
    have hmin : (if nI x + nI m < nI 31 then nI x + nI m else nI 31 : Int32) = nI (x + if x + m < 31 then m else 31 - x) := by
      rw [nI_add]
      by_cases h : x + m < 31
      · rw [if_pos h, if_pos ((nI_ltI (by omega) (by omega)).2 h)]
      · rw [if_neg h, if_neg (fun h' => h ((nI_ltI (by omega) (by omega)).1 h')), show x + (31 - x) = 31 by omega]
    have ec := C_fi (la := nI l) (lo := lo) (ov := ov) (orr := orr) (nv := nv) (nr := nr) (q := q) (qk := qk) (qv := qv) (qr := qr) (wr := wr) (wa := wa) (wc := wc) (wk := wk) (x := x) (d := if x + m < 31 then m else 31 - x) (by split <;> omega)
    have hz := zfi_le ov orr x (0, nv, nr) (if x + m < 31 then m else 31 - x)
    have h31 : (if x + m < 31 then m else 31 - x) ≤ 31 := by split <;> omega
    have hI := ITs_zfi (x := x) r0 r1 (if x + m < 31 then m else 31 - x) (by split <;> omega)
    dsimp only at hz
    refine ⟨(zfi ov orr x (if x + m < 31 then m else 31 - x) (0, nv, nr)).1, _, _, by omega, ?_, ⟨⟨by omega, hq, hl0, by split <;> omega, hqp⟩, r0, hI, rq, rw', fun h => absurd h (by omega), fun h => absurd h (by omega)⟩⟩
    rw [← he]
    simp only [gl_0, gl_1, gl_2, gl_3, gl_4, gl_5, gl_6, gl_7, gl_8, gl_9, gl_10, gl_11, gl_12, gl_13, gl_14, gl_15, gl_16, gl_17, gl_18, gl_19, gl_20, gl_21, gl_22, gl_23, gl_24, gl_25, gl_26, gl_27, gl_28, gl_29, gl_30, gl_31, gl_32, gl_44, gl_48, gl_49, gl_57, gl_59, gl_60, gl_63, gl_70, gl_98, gl_99, gl_100, gl_101, gl_107, gl_109, gl_110, gl_111, gl_116, gl_120, gl_126, gl_155, gl_411, gl_999, gl_1000, gl_1233, gl_1644, gl_100000, gl_m1]
    rw [hmin]
    simp (disch := omega) only [gl_0, gl_1, gl_2, gl_3, gl_4, gl_5, gl_6, gl_7, gl_8, gl_9, gl_10, gl_11, gl_12, gl_13, gl_14, gl_15, gl_16, gl_17, gl_18, gl_19, gl_20, gl_21, gl_22, gl_23, gl_24, gl_25, gl_26, gl_27, gl_28, gl_29, gl_30, gl_31, gl_32, gl_44, gl_48, gl_49, gl_57, gl_59, gl_60, gl_63, gl_70, gl_98, gl_99, gl_100, gl_101, gl_107, gl_109, gl_110, gl_111, gl_116, gl_120, gl_126, gl_155, gl_411, gl_999, gl_1000, gl_1233, gl_1644, gl_100000, gl_m1, nI_eq, nI_leI, nI_ltI, if_neg, if_pos, if_true]
    exact ec
  · refine Or.inl ⟨by omega, ?_⟩
    by_cases hp1 : p = 1
    · have : ¬ x < 31 := fun h => hgo ⟨hp1, h⟩
      simp (disch := omega) only [gl_0, gl_1, gl_2, gl_3, gl_4, gl_5, gl_6, gl_7, gl_8, gl_9, gl_10, gl_11, gl_12, gl_13, gl_14, gl_15, gl_16, gl_17, gl_18, gl_19, gl_20, gl_21, gl_22, gl_23, gl_24, gl_25, gl_26, gl_27, gl_28, gl_29, gl_30, gl_31, gl_32, gl_44, gl_48, gl_49, gl_57, gl_59, gl_60, gl_63, gl_70, gl_98, gl_99, gl_100, gl_101, gl_107, gl_109, gl_110, gl_111, gl_116, gl_120, gl_126, gl_155, gl_411, gl_999, gl_1000, gl_1233, gl_1644, gl_100000, gl_m1, nI_eq, nI_leI, nI_ltI, nI_add, nI_clamp, pk_mul, pk_sub, z_in, z_gt, z_bs, z_us, z_un, if_pos, if_neg, if_true, if_false, and_true, true_and, and_self, not_true_eq_false, not_false_eq_true]
    · simp (disch := omega) only [gl_0, gl_1, gl_2, gl_3, gl_4, gl_5, gl_6, gl_7, gl_8, gl_9, gl_10, gl_11, gl_12, gl_13, gl_14, gl_15, gl_16, gl_17, gl_18, gl_19, gl_20, gl_21, gl_22, gl_23, gl_24, gl_25, gl_26, gl_27, gl_28, gl_29, gl_30, gl_31, gl_32, gl_44, gl_48, gl_49, gl_57, gl_59, gl_60, gl_63, gl_70, gl_98, gl_99, gl_100, gl_101, gl_107, gl_109, gl_110, gl_111, gl_116, gl_120, gl_126, gl_155, gl_411, gl_999, gl_1000, gl_1233, gl_1644, gl_100000, gl_m1, nI_eq, nI_leI, nI_ltI, nI_add, nI_clamp, pk_mul, pk_sub, z_in, z_gt, z_bs, z_us, z_un, if_pos, if_neg, if_true, if_false, and_true, true_and, and_self, not_true_eq_false, not_false_eq_true]
theorem T_lose (R : IT p l x ov orr nv nr q qk qv qr wa) : (q = 0 ∧ fX4_loseQueue (nI p) (nI l) (nI x) lo ov orr nv nr (nI q) qk qv qr wr wa wc wk = some (-1000002, nI p, nI l, nI x, lo, ov, orr, nv, nr, nI q, qk, qv, qr, wr, wa, wc, wk)) ∨
    (¬ q = 0 ∧ ∃ (qk' qv' qr' : Nat → Int32), fX4_loseQueue (nI p) (nI l) (nI x) lo ov orr nv nr (nI q) qk qv qr wr wa wc wk = some (nI q, nI p, nI l, nI x, lo + nI q, ov, orr, nv, nr, nI 0, qk', qv', qr', wr, wa, wc, wk) ∧ IT p l x ov orr nv nr 0 qk' qv' qr' wa) := by
  obtain ⟨⟨hp, hq, hl0, hx, hqp⟩, r0, r1, rq, rw', rp0, rp3⟩ := R
  unfold fX4_loseQueue
  by_cases hq0 : q = 0
  · subst hq0
    refine Or.inl ⟨rfl, ?_⟩
    simp (disch := omega) only [gl_0, gl_1, gl_2, gl_3, gl_4, gl_5, gl_6, gl_7, gl_8, gl_9, gl_10, gl_11, gl_12, gl_13, gl_14, gl_15, gl_16, gl_17, gl_18, gl_19, gl_20, gl_21, gl_22, gl_23, gl_24, gl_25, gl_26, gl_27, gl_28, gl_29, gl_30, gl_31, gl_32, gl_44, gl_48, gl_49, gl_57, gl_59, gl_60, gl_63, gl_70, gl_98, gl_99, gl_100, gl_101, gl_107, gl_109, gl_110, gl_111, gl_116, gl_120, gl_126, gl_155, gl_411, gl_999, gl_1000, gl_1233, gl_1644, gl_100000, gl_m1, nI_eq, nI_leI, nI_ltI, nI_add, nI_clamp, pk_mul, pk_sub, z_in, z_gt, z_bs, z_us, z_un, if_pos, if_neg, if_true, if_false, and_true, true_and, and_self, not_true_eq_false, not_false_eq_true]
  · refine Or.inr ⟨hq0, ?_⟩
    obtain ⟨qk', qv', qr', e, h⟩ := C_shorten (qk := qk) (qv := qv) (qr := qr) (Nat.le_refl q) hq
    rw [Nat.sub_self] at e
    refine ⟨qk', qv', qr', ?_, ⟨⟨hp, by omega, hl0, hx, fun h => absurd rfl h⟩, r0, r1, fun i hi => absurd hi (by omega), rw', rp0, rp3⟩⟩
    simp (disch := omega) only [gl_0, gl_1, gl_2, gl_3, gl_4, gl_5, gl_6, gl_7, gl_8, gl_9, gl_10, gl_11, gl_12, gl_13, gl_14, gl_15, gl_16, gl_17, gl_18, gl_19, gl_20, gl_21, gl_22, gl_23, gl_24, gl_25, gl_26, gl_27, gl_28, gl_29, gl_30, gl_31, gl_32, gl_44, gl_48, gl_49, gl_57, gl_59, gl_60, gl_63, gl_70, gl_98, gl_99, gl_100, gl_101, gl_107, gl_109, gl_110, gl_111, gl_116, gl_120, gl_126, gl_155, gl_411, gl_999, gl_1000, gl_1233, gl_1644, gl_100000, gl_m1, nI_eq, nI_leI, nI_ltI, nI_add, nI_clamp, pk_mul, pk_sub, z_in, z_gt, z_bs, z_us, z_un, if_pos, if_neg, if_true, if_false, and_true, true_and, and_self, not_true_eq_false, not_false_eq_true, e]
theorem T_mend {k : Nat} (R : IT p l x ov orr nv nr q qk qv qr wa) (hk : k < 31) : fX4_mendKey (nI k) (nI p) (nI l) (nI x) lo ov orr nv nr (nI q) qk qv qr wr wa wc wk = some (-1000002, nI p, nI l, nI x, lo, ov, orr, nv, nr, nI q, qk, qv, qr, wr, wa, wc, wk) ∨
    ((p = 1 ∨ p = 2) ∧ ∃ (ov' orr' nv' nr' : Nat → Int32), fX4_mendKey (nI k) (nI p) (nI l) (nI x) lo ov orr nv nr (nI q) qk qv qr wr wa wc wk = some (if zdf ov orr nv nr k = true then nI 1 else nI 0, nI p, nI l, nI x, lo, ov', orr', nv', nr', nI q, qk, qv, qr, wr, wa, wc, wk) ∧ IT p l x ov' orr' nv' nr' q qk qv qr wa ∧ zdf ov' orr' nv' nr' k = false) := by
  have R0 := R
  obtain ⟨⟨hp, hq, hl0, hx, hqp⟩, r0, r1, rq, rw', rp0, rp3⟩ := R
  unfold fX4_mendKey
  by_cases hb : p = 1 ∨ p = 2
  rotate_left
  · refine Or.inl ?_
    simp (disch := omega) only [gl_0, gl_1, gl_2, gl_3, gl_4, gl_5, gl_6, gl_7, gl_8, gl_9, gl_10, gl_11, gl_12, gl_13, gl_14, gl_15, gl_16, gl_17, gl_18, gl_19, gl_20, gl_21, gl_22, gl_23, gl_24, gl_25, gl_26, gl_27, gl_28, gl_29, gl_30, gl_31, gl_32, gl_44, gl_48, gl_49, gl_57, gl_59, gl_60, gl_63, gl_70, gl_98, gl_99, gl_100, gl_101, gl_107, gl_109, gl_110, gl_111, gl_116, gl_120, gl_126, gl_155, gl_411, gl_999, gl_1000, gl_1233, gl_1644, gl_100000, gl_m1, nI_eq, nI_leI, nI_ltI, nI_add, nI_clamp, pk_mul, pk_sub, z_in, z_gt, z_bs, z_us, z_un, if_pos, if_neg, if_true, if_false, and_true, true_and, and_self, not_true_eq_false, not_false_eq_true, C_isBelow_nI, C_hasBoth hp]
  rcases zlat_or qk (nI k) q with hlat | ⟨i, hi, hlat, _⟩
  rotate_left
  · have h1 : ¬ nI i = zN := z_m1 (by omega)
    refine Or.inl ?_
    simp (disch := omega) only [gl_0, gl_1, gl_2, gl_3, gl_4, gl_5, gl_6, gl_7, gl_8, gl_9, gl_10, gl_11, gl_12, gl_13, gl_14, gl_15, gl_16, gl_17, gl_18, gl_19, gl_20, gl_21, gl_22, gl_23, gl_24, gl_25, gl_26, gl_27, gl_28, gl_29, gl_30, gl_31, gl_32, gl_44, gl_48, gl_49, gl_57, gl_59, gl_60, gl_63, gl_70, gl_98, gl_99, gl_100, gl_101, gl_107, gl_109, gl_110, gl_111, gl_116, gl_120, gl_126, gl_155, gl_411, gl_999, gl_1000, gl_1233, gl_1644, gl_100000, gl_m1, nI_eq, nI_leI, nI_ltI, nI_add, nI_clamp, pk_mul, pk_sub, z_in, z_gt, z_bs, z_us, z_un, if_pos, if_neg, if_true, if_false, and_true, true_and, and_self, not_true_eq_false, not_false_eq_true, C_isBelow_nI, C_hasBoth hp, C_latestOf hq, hlat, h1]
  refine Or.inr ⟨hb, ?_⟩
  by_cases hd : zdf ov orr nv nr k = true
  rotate_left
  · have hd' : zdf ov orr nv nr k = false := by simpa using hd
    have hbit := (z_bitAt (P := zdf ov orr nv nr) hk).2 hd'
    refine ⟨ov, orr, nv, nr, ?_, R0, hd'⟩
    rw [if_neg hd]
    rw [gl_31] at hbit
    simp (disch := omega) only [gl_0, gl_1, gl_2, gl_3, gl_4, gl_5, gl_6, gl_7, gl_8, gl_9, gl_10, gl_11, gl_12, gl_13, gl_14, gl_15, gl_16, gl_17, gl_18, gl_19, gl_20, gl_21, gl_22, gl_23, gl_24, gl_25, gl_26, gl_27, gl_28, gl_29, gl_30, gl_31, gl_32, gl_44, gl_48, gl_49, gl_57, gl_59, gl_60, gl_63, gl_70, gl_98, gl_99, gl_100, gl_101, gl_107, gl_109, gl_110, gl_111, gl_116, gl_120, gl_126, gl_155, gl_411, gl_999, gl_1000, gl_1233, gl_1644, gl_100000, gl_m1, nI_eq, nI_leI, nI_ltI, nI_add, nI_clamp, pk_mul, pk_sub, z_in, z_gt, z_bs, z_us, z_un, if_pos, if_neg, if_true, if_false, and_true, true_and, and_self, not_true_eq_false, not_false_eq_true, C_isBelow_nI, C_hasBoth hp, C_latestOf hq, hlat, C_differing, hbit]
  have hbit : ¬ (z_bits (zdf ov orr nv nr) 31 &&& (nI 1 <<< (nI k &&& nI 31)) = nI 0) := fun h => by
    rw [← gl_31] at h
    have := (z_bitAt (P := zdf ov orr nv nr) hk).1 h
    rw [hd] at this
    exact absurd this (by decide)
  rw [if_pos hd]
  obtain ⟨z0, v0, v0l, v0e, v0n⟩ := r0 k hk
  obtain ⟨z1, v1, v1l, v1e, v1n⟩ := r1 k hk
  have n0 : v0 = 0 → mo (orr k) (nI 1) = zN := fun h => by rw [v0n h, mo_N]
  have n1 : v1 = 0 → mo (nr k) (nI 0) = zN := fun h => by rw [v1n h, mo_N]
  have hzo : zoo (orr k) := z0
  have f0 : zdf ov orr (upd nv k (ov k)) (upd nr k (mo (orr k) (nI 1))) k = false := by
    simp [zdf, z_us, mo_1, mo_old hzo]
  have f1 : zdf (upd ov k (nv k)) (upd orr k (mo (nr k) (nI 0))) nv nr k = false := by
    simp [zdf, z_us]
  rcases (show (v0 = v1 ∧ p = 1) ∨ v1 < v0 ∨ (v0 = v1 ∧ p = 2) ∨ v0 < v1 by omega) with hc | hc | hc | hc
  · obtain ⟨hvv, rfl⟩ := hc
    have hz : zfst 1 = 0 := rfl
    have ec := C_takeFrom (a := nv) (b := nr) (c := ov) (d := orr) (k := k) (sh := 1) (n := 0) (nu := nI 0) hk (by rw [v0e, v1e, nI_ltI (by omega) (by omega)]; omega)
    refine ⟨ov, orr, _, _, ?_, ⟨⟨hp, hq, hl0, hx, hqp⟩, r0, by rw [v0e]; exact ITs_set r1 (zv_mo (by omega) z0.ok) v0l n0, rq, rw', fun h => absurd h (by omega), fun h => absurd h (by omega)⟩, f0⟩
    simp (disch := omega) only [gl_0, gl_1, gl_2, gl_3, gl_4, gl_5, gl_6, gl_7, gl_8, gl_9, gl_10, gl_11, gl_12, gl_13, gl_14, gl_15, gl_16, gl_17, gl_18, gl_19, gl_20, gl_21, gl_22, gl_23, gl_24, gl_25, gl_26, gl_27, gl_28, gl_29, gl_30, gl_31, gl_32, gl_44, gl_48, gl_49, gl_57, gl_59, gl_60, gl_63, gl_70, gl_98, gl_99, gl_100, gl_101, gl_107, gl_109, gl_110, gl_111, gl_116, gl_120, gl_126, gl_155, gl_411, gl_999, gl_1000, gl_1233, gl_1644, gl_100000, gl_m1, nI_eq, nI_leI, nI_ltI, nI_add, nI_clamp, pk_mul, pk_sub, z_in, z_gt, z_bs, z_us, z_un, if_pos, if_neg, if_true, if_false, and_true, true_and, and_self, not_true_eq_false, not_false_eq_true, C_isBelow_nI, C_hasBoth hp, C_latestOf hq, hlat, C_differing, hbit, fX4_newerOf, v0e, v1e, or_true, true_or, C_first hp, hz, C_other (show 0 < 2 by omega), C_other (show 1 < 2 by omega), C_shape (show 0 < 2 by omega), C_shape (show 1 < 2 by omega), ec]
  · have ec := C_takeFrom (a := nv) (b := nr) (c := ov) (d := orr) (k := k) (sh := 1) (n := 0) (nu := nI 0) hk (by rw [v0e, v1e, nI_ltI (by omega) (by omega)]; omega)
    refine ⟨ov, orr, _, _, ?_, ⟨⟨hp, hq, hl0, hx, hqp⟩, r0, by rw [v0e]; exact ITs_set r1 (zv_mo (by omega) z0.ok) v0l n0, rq, rw', fun h => absurd h (by omega), fun h => absurd h (by omega)⟩, f0⟩
    simp (disch := omega) only [gl_0, gl_1, gl_2, gl_3, gl_4, gl_5, gl_6, gl_7, gl_8, gl_9, gl_10, gl_11, gl_12, gl_13, gl_14, gl_15, gl_16, gl_17, gl_18, gl_19, gl_20, gl_21, gl_22, gl_23, gl_24, gl_25, gl_26, gl_27, gl_28, gl_29, gl_30, gl_31, gl_32, gl_44, gl_48, gl_49, gl_57, gl_59, gl_60, gl_63, gl_70, gl_98, gl_99, gl_100, gl_101, gl_107, gl_109, gl_110, gl_111, gl_116, gl_120, gl_126, gl_155, gl_411, gl_999, gl_1000, gl_1233, gl_1644, gl_100000, gl_m1, nI_eq, nI_leI, nI_ltI, nI_add, nI_clamp, pk_mul, pk_sub, z_in, z_gt, z_bs, z_us, z_un, if_pos, if_neg, if_true, if_false, and_true, true_and, and_self, not_true_eq_false, not_false_eq_true, C_isBelow_nI, C_hasBoth hp, C_latestOf hq, hlat, C_differing, hbit, fX4_newerOf, v0e, v1e, or_true, true_or, C_first hp, C_other (show 0 < 2 by omega), C_other (show 1 < 2 by omega), C_shape (show 0 < 2 by omega), C_shape (show 1 < 2 by omega), ec]
  · obtain ⟨hvv, rfl⟩ := hc
    have hz : zfst 2 = 1 := rfl
    have ec := C_takeFrom (a := ov) (b := orr) (c := nv) (d := nr) (k := k) (sh := 0) (n := 0) (nu := nI 1) hk (by rw [v0e, v1e, nI_ltI (by omega) (by omega)]; omega)
    refine ⟨_, _, nv, nr, ?_, ⟨⟨hp, hq, hl0, hx, hqp⟩, by rw [v1e]; exact ITs_set r0 (zv_mo (by omega) z1.ok) v1l n1, r1, rq, rw', fun h => absurd h (by omega), fun h => absurd h (by omega)⟩, f1⟩
    simp (disch := omega) only [gl_0, gl_1, gl_2, gl_3, gl_4, gl_5, gl_6, gl_7, gl_8, gl_9, gl_10, gl_11, gl_12, gl_13, gl_14, gl_15, gl_16, gl_17, gl_18, gl_19, gl_20, gl_21, gl_22, gl_23, gl_24, gl_25, gl_26, gl_27, gl_28, gl_29, gl_30, gl_31, gl_32, gl_44, gl_48, gl_49, gl_57, gl_59, gl_60, gl_63, gl_70, gl_98, gl_99, gl_100, gl_101, gl_107, gl_109, gl_110, gl_111, gl_116, gl_120, gl_126, gl_155, gl_411, gl_999, gl_1000, gl_1233, gl_1644, gl_100000, gl_m1, nI_eq, nI_leI, nI_ltI, nI_add, nI_clamp, pk_mul, pk_sub, z_in, z_gt, z_bs, z_us, z_un, if_pos, if_neg, if_true, if_false, and_true, true_and, and_self, not_true_eq_false, not_false_eq_true, C_isBelow_nI, C_hasBoth hp, C_latestOf hq, hlat, C_differing, hbit, fX4_newerOf, v0e, v1e, or_true, true_or, C_first hp, hz, C_other (show 0 < 2 by omega), C_other (show 1 < 2 by omega), C_shape (show 0 < 2 by omega), C_shape (show 1 < 2 by omega), ec]
  · have ec := C_takeFrom (a := ov) (b := orr) (c := nv) (d := nr) (k := k) (sh := 0) (n := 0) (nu := nI 1) hk (by rw [v0e, v1e, nI_ltI (by omega) (by omega)]; omega)
    refine ⟨_, _, nv, nr, ?_, ⟨⟨hp, hq, hl0, hx, hqp⟩, by rw [v1e]; exact ITs_set r0 (zv_mo (by omega) z1.ok) v1l n1, r1, rq, rw', fun h => absurd h (by omega), fun h => absurd h (by omega)⟩, f1⟩
    simp (disch := omega) only [gl_0, gl_1, gl_2, gl_3, gl_4, gl_5, gl_6, gl_7, gl_8, gl_9, gl_10, gl_11, gl_12, gl_13, gl_14, gl_15, gl_16, gl_17, gl_18, gl_19, gl_20, gl_21, gl_22, gl_23, gl_24, gl_25, gl_26, gl_27, gl_28, gl_29, gl_30, gl_31, gl_32, gl_44, gl_48, gl_49, gl_57, gl_59, gl_60, gl_63, gl_70, gl_98, gl_99, gl_100, gl_101, gl_107, gl_109, gl_110, gl_111, gl_116, gl_120, gl_126, gl_155, gl_411, gl_999, gl_1000, gl_1233, gl_1644, gl_100000, gl_m1, nI_eq, nI_leI, nI_ltI, nI_add, nI_clamp, pk_mul, pk_sub, z_in, z_gt, z_bs, z_us, z_un, if_pos, if_neg, if_true, if_false, and_true, true_and, and_self, not_true_eq_false, not_false_eq_true, C_isBelow_nI, C_hasBoth hp, C_latestOf hq, hlat, C_differing, hbit, fX4_newerOf, v0e, v1e, or_true, true_or, C_first hp, C_other (show 0 < 2 by omega), C_other (show 1 < 2 by omega), C_shape (show 0 < 2 by omega), C_shape (show 1 < 2 by omega), ec]
theorem T_walk {w c : Nat} (R : IT p l x ov orr nv nr q qk qv qr wa) (hw : w < 3) (hc : c < 2) : ∃ W, W < 8 ∧ W.testBit w = true ∧ fX4_startWalk (nI w) (nI c) (nI p) (nI l) (nI x) lo ov orr nv nr (nI q) qk qv qr wr wa wc wk = some (nI (zs (zbn (zkr p q orr nv nr qk qr c) 31) 31), nI p, nI l, nI x, lo, ov, orr, nv, nr, nI q, qk, qv, qr, wr, nI W, upd wc w (nI c), upd wk w zN) ∧ IT p l x ov orr nv nr q qk qv qr (nI W) := by
  obtain ⟨⟨hp, hq, hl0, hx, hqp⟩, r0, r1, rq, ⟨W, hW, hwa⟩, rp0, rp3⟩ := R
  obtain ⟨o1, o2, o3⟩ := zw_or W hW w hw
  have hlt := zbn_lt (zkr p q orr nv nr qk qr c) 31
  refine ⟨W ||| 2 ^ w, o2, by rw [o3 w hw]; simp, ?_, ⟨hp, hq, hl0, hx, hqp⟩, r0, r1, rq, ⟨_, o2, rfl⟩, rp0, rp3⟩
  unfold fX4_startWalk
  simp (disch := omega) only [gl_0, gl_1, gl_2, gl_3, gl_4, gl_5, gl_6, gl_7, gl_8, gl_9, gl_10, gl_11, gl_12, gl_13, gl_14, gl_15, gl_16, gl_17, gl_18, gl_19, gl_20, gl_21, gl_22, gl_23, gl_24, gl_25, gl_26, gl_27, gl_28, gl_29, gl_30, gl_31, gl_32, gl_44, gl_48, gl_49, gl_57, gl_59, gl_60, gl_63, gl_70, gl_98, gl_99, gl_100, gl_101, gl_107, gl_109, gl_110, gl_111, gl_116, gl_120, gl_126, gl_155, gl_411, gl_999, gl_1000, gl_1233, gl_1644, gl_100000, gl_m1, nI_eq, nI_leI, nI_ltI, nI_add, nI_clamp, pk_mul, pk_sub, z_in, z_gt, z_bs, z_us, z_un, if_pos, if_neg, if_true, if_false, and_true, true_and, and_self, not_true_eq_false, not_false_eq_true, C_isBelow_nI, C_keysRead hp hq (show c < 2 by omega), zbn_bits _ 31 (show 31 ≤ 32 by omega), J_bitCount hlt, hwa, o1]
theorem T_step {w c W : Nat} (R : IT p l x ov orr nv nr q qk qv qr wa) (hw : w < 3) (hc : c < 2) (hW : W < 8) (hwa : wa = nI W) (hbit : W.testBit w = true) (ec : wc w = nI c) (ek : wk w = zN) : ∃ (j : Nat) (wa' : Int32) (wk' : Nat → Int32), j ≤ 31 ∧ (∀ i, i < j → zrr p q orr nv nr qk qr i c = zN) ∧ (j < 31 → ¬ zrr p q orr nv nr qk qr j c = zN) ∧ fX4_goOn (nI w) (nI p) (nI l) (nI x) lo ov orr nv nr (nI q) qk qv qr wr wa wc wk = some (nI j, nI p, nI l, nI x, lo, ov, orr, nv, nr, nI q, qk, qv, qr, wr, wa', wc, wk') ∧ IT p l x ov orr nv nr q qk qv qr wa' := by
  obtain ⟨⟨hp, hq, hl0, hx, hqp⟩, r0, r1, rq, _, rp0, rp3⟩ := R
  have ht := zw_t W hW w hw
  rw [← hwa] at ht
  have h0 : ¬ (wa &&& (nI 1 <<< (nI w &&& nI 31)) = nI 0) := fun h => by rw [ht.1 h] at hbit; exact absurd hbit (by decide)
  have ek0 : wk w + nI 1 = nI 0 := by rw [ek]; decide
  obtain ⟨j, j1, j2, j3, j4⟩ := z_next (fun k => ¬ zrr p q orr nv nr qk qr k c = zN) 31 0 (by omega)
  have j3 : ∀ i, i < j → zrr p q orr nv nr qk qr i c = zN := fun i i2 => Decidable.not_not.1 (j3 i (by omega) i2)
  have hC : ∃ n, fX4_goOn_b34 2000 (nI w) (nI 0) (nI p) (nI l) (nI x) lo ov orr nv nr (nI q) qk qv qr wr wa wc wk = fX4_goOn_b34 (n + 1) (nI w) (nI j) (nI p) (nI l) (nI x) lo ov orr nv nr (nI q) qk qv qr wr wa wc wk := by
    refine z_loop (fun n i (_ : Unit) => fX4_goOn_b34 n (nI w) (nI i) (nI p) (nI l) (nI x) lo ov orr nv nr (nI q) qk qv qr wr wa wc wk) j (fun i _ => True) (fun o => ∃ n, o = fX4_goOn_b34 (n + 1) (nI w) (nI j) (nI p) (nI l) (nI x) lo ov orr nv nr (nI q) qk qv qr wr wa wc wk) ?_ ?_ 2000 0 () j1 (by omega) trivial
    · intro n i _ hi _
      refine ⟨(), trivial, ?_⟩
      rw [fX4_goOn_b34]
      simp (disch := omega) only [gl_0, gl_1, gl_2, gl_3, gl_4, gl_5, gl_6, gl_7, gl_8, gl_9, gl_10, gl_11, gl_12, gl_13, gl_14, gl_15, gl_16, gl_17, gl_18, gl_19, gl_20, gl_21, gl_22, gl_23, gl_24, gl_25, gl_26, gl_27, gl_28, gl_29, gl_30, gl_31, gl_32, gl_44, gl_48, gl_49, gl_57, gl_59, gl_60, gl_63, gl_70, gl_98, gl_99, gl_100, gl_101, gl_107, gl_109, gl_110, gl_111, gl_116, gl_120, gl_126, gl_155, gl_411, gl_999, gl_1000, gl_1233, gl_1644, gl_100000, gl_m1, nI_eq, nI_leI, nI_ltI, nI_add, nI_clamp, pk_mul, pk_sub, z_in, z_gt, z_bs, z_us, z_un, if_pos, if_neg, if_true, if_false, and_true, true_and, and_self, not_true_eq_false, not_false_eq_true, ec, C_rowRead hp hq (show i < 31 by omega) hc, j3 i hi]
    · intro n _ _
      exact ⟨n, rfl⟩
  obtain ⟨n1, hC⟩ := hC
  unfold fX4_goOn
  rcases Nat.lt_or_ge j 31 with hj | hj
  · have hne := j4 hj
    refine ⟨j, wa, upd wk w (nI j), j2, j3, j4, ?_, ⟨hp, hq, hl0, hx, hqp⟩, r0, r1, rq, ⟨W, hW, hwa⟩, rp0, rp3⟩
    simp (disch := omega) only [gl_0, gl_1, gl_2, gl_3, gl_4, gl_5, gl_6, gl_7, gl_8, gl_9, gl_10, gl_11, gl_12, gl_13, gl_14, gl_15, gl_16, gl_17, gl_18, gl_19, gl_20, gl_21, gl_22, gl_23, gl_24, gl_25, gl_26, gl_27, gl_28, gl_29, gl_30, gl_31, gl_32, gl_44, gl_48, gl_49, gl_57, gl_59, gl_60, gl_63, gl_70, gl_98, gl_99, gl_100, gl_101, gl_107, gl_109, gl_110, gl_111, gl_116, gl_120, gl_126, gl_155, gl_411, gl_999, gl_1000, gl_1233, gl_1644, gl_100000, gl_m1, nI_eq, nI_leI, nI_ltI, nI_add, nI_clamp, pk_mul, pk_sub, z_in, z_gt, z_bs, z_us, z_un, if_pos, if_neg, if_true, if_false, and_true, true_and, and_self, not_true_eq_false, not_false_eq_true, C_isBelow_nI, h0, ek0, hC]
    rw [fX4_goOn_b34]
    simp (disch := omega) only [gl_0, gl_1, gl_2, gl_3, gl_4, gl_5, gl_6, gl_7, gl_8, gl_9, gl_10, gl_11, gl_12, gl_13, gl_14, gl_15, gl_16, gl_17, gl_18, gl_19, gl_20, gl_21, gl_22, gl_23, gl_24, gl_25, gl_26, gl_27, gl_28, gl_29, gl_30, gl_31, gl_32, gl_44, gl_48, gl_49, gl_57, gl_59, gl_60, gl_63, gl_70, gl_98, gl_99, gl_100, gl_101, gl_107, gl_109, gl_110, gl_111, gl_116, gl_120, gl_126, gl_155, gl_411, gl_999, gl_1000, gl_1233, gl_1644, gl_100000, gl_m1, nI_eq, nI_leI, nI_ltI, nI_add, nI_clamp, pk_mul, pk_sub, z_in, z_gt, z_bs, z_us, z_un, if_pos, if_neg, if_true, if_false, and_true, true_and, and_self, not_true_eq_false, not_false_eq_true, ec, C_rowRead hp hq hj hc, hne]
  · have hj : j = 31 := by omega
    subst hj
    obtain ⟨o1, o2, o3⟩ := zw_cl W hW w hw
    refine ⟨31, nI (W &&& (7 - 2 ^ w)), wk, j2, j3, j4, ?_, ⟨hp, hq, hl0, hx, hqp⟩, r0, r1, rq, ⟨_, o2, rfl⟩, rp0, rp3⟩
    simp (disch := omega) only [gl_0, gl_1, gl_2, gl_3, gl_4, gl_5, gl_6, gl_7, gl_8, gl_9, gl_10, gl_11, gl_12, gl_13, gl_14, gl_15, gl_16, gl_17, gl_18, gl_19, gl_20, gl_21, gl_22, gl_23, gl_24, gl_25, gl_26, gl_27, gl_28, gl_29, gl_30, gl_31, gl_32, gl_44, gl_48, gl_49, gl_57, gl_59, gl_60, gl_63, gl_70, gl_98, gl_99, gl_100, gl_101, gl_107, gl_109, gl_110, gl_111, gl_116, gl_120, gl_126, gl_155, gl_411, gl_999, gl_1000, gl_1233, gl_1644, gl_100000, gl_m1, nI_eq, nI_leI, nI_ltI, nI_add, nI_clamp, pk_mul, pk_sub, z_in, z_gt, z_bs, z_us, z_un, if_pos, if_neg, if_true, if_false, and_true, true_and, and_self, not_true_eq_false, not_false_eq_true, C_isBelow_nI, h0, ek0, hC]
    rw [fX4_goOn_b34]
    simp (disch := omega) only [gl_0, gl_1, gl_2, gl_3, gl_4, gl_5, gl_6, gl_7, gl_8, gl_9, gl_10, gl_11, gl_12, gl_13, gl_14, gl_15, gl_16, gl_17, gl_18, gl_19, gl_20, gl_21, gl_22, gl_23, gl_24, gl_25, gl_26, gl_27, gl_28, gl_29, gl_30, gl_31, gl_32, gl_44, gl_48, gl_49, gl_57, gl_59, gl_60, gl_63, gl_70, gl_98, gl_99, gl_100, gl_101, gl_107, gl_109, gl_110, gl_111, gl_116, gl_120, gl_126, gl_155, gl_411, gl_999, gl_1000, gl_1233, gl_1644, gl_100000, gl_m1, nI_eq, nI_leI, nI_ltI, nI_add, nI_clamp, pk_mul, pk_sub, z_in, z_gt, z_bs, z_us, z_un, if_pos, if_neg, if_true, if_false, and_true, true_and, and_self, not_true_eq_false, not_false_eq_true, hwa, o1]
end TO
