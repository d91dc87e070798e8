/-! changes: backfill, mend; bits -/
theorem zI_and (a b : Nat) : nI a &&& nI b = nI (a &&& b) := Int32.toBitVec_inj.1 (BitVec.ofNat_and).symm
theorem zI_or (a b : Nat) : nI a ||| nI b = nI (a ||| b) := Int32.toBitVec_inj.1 (BitVec.ofNat_or).symm
theorem zI_shl {k : Nat} (h : k < 32) : nI 1 <<< (nI k &&& 31) = nI (2 ^ k) := (show ∀ k, k < 32 → nI 1 <<< (nI k &&& 31) = nI (2 ^ k) by decide +kernel) k h
def zbn (P : Nat → Bool) : Nat → Nat
  | 0 => 0
  | n + 1 => if P n = true then zbn P n ||| 2 ^ n else zbn P n
theorem zbn_bits (P : Nat → Bool) : ∀ n, n ≤ 32 → z_bits P n = nI (zbn P n)
  | 0, _ => rfl
  | n + 1, h => by
    rw [z_bits_succ, zbn_bits P n (by omega), zbn, zI_shl (by omega)]
    by_cases hP : P n = true
    · rw [if_pos hP, if_pos hP, zI_or]
    · rw [if_neg hP, if_neg hP]
theorem zbn_lt (P : Nat → Bool) : ∀ n, zbn P n < 2 ^ n
  | 0 => Nat.one_pos
  | n + 1 => by
    have h := zbn_lt P n
    rw [zbn]
    have h2 : 2 ^ n < 2 ^ (n + 1) := Nat.pow_lt_pow_right (by omega) (by omega)
    split
    · exact Nat.or_lt_two_pow (by omega) h2
    · omega
theorem zbn_test (P : Nat → Bool) (k : Nat) : ∀ n, (zbn P n).testBit k = (decide (k < n) && P k)
  | 0 => by rw [zbn, Nat.zero_testBit]; rfl
  | n + 1 => by
    rw [zbn]
    by_cases hP : P n = true
    · rw [if_pos hP, Nat.testBit_or, zbn_test P k n, Nat.testBit_two_pow]
      by_cases hk : n = k
      · subst hk; simp [hP]
      · have : (decide (k < n + 1)) = decide (k < n) := decide_eq_decide.2 (by omega)
        rw [this]; simp [hk]
    · rw [if_neg hP, zbn_test P k n]
      by_cases hk : n = k
      · subst hk
        have hf : P n = false := by simpa using hP
        simp [hf]
      · have : (decide (k < n + 1)) = decide (k < n) := decide_eq_decide.2 (by omega)
        rw [this]
theorem zI_bit {a k : Nat} (ha : a < 2 ^ 31) (hk : k < 31) : (nI a &&& (nI 1 <<< (nI k &&& 31)) = nI 0) ↔ a.testBit k = false := by
  have hl : a &&& 2 ^ k ≤ a := Nat.and_le_left
  rw [zI_shl (by omega), zI_and, nI_eq (by omega) (by omega)]
  have hb : (a &&& 2 ^ k).testBit k = a.testBit k := by
    rw [Nat.testBit_and, Nat.testBit_two_pow]; simp
  constructor
  · intro h
    rw [h, Nat.zero_testBit] at hb
    exact hb.symm
  · intro h
    refine Nat.eq_of_testBit_eq fun i => ?_
    rw [Nat.testBit_and, Nat.testBit_two_pow, Nat.zero_testBit]
    by_cases hi : k = i
    · subst hi; rw [h]; rfl
    · rw [decide_eq_false hi, Bool.and_false]
theorem z_bitAt {P : Nat → Bool} {k : Nat} (hk : k < 31) : (z_bits P 31 &&& (nI 1 <<< (nI k &&& 31)) = nI 0) ↔ P k = false := by
  rw [zbn_bits P 31 (by omega), zI_bit (zbn_lt P 31) hk, zbn_test, decide_eq_true hk, Bool.true_and]
def zfi (ov orr : Nat → Int32) (x : Nat) : Nat → Nat × (Nat → Int32) × (Nat → Int32) → Nat × (Nat → Int32) × (Nat → Int32)
  | 0, s => s
  | i + 1, s => if ov (x + i) ≤ (zfi ov orr x i s).2.1 (x + i) then zfi ov orr x i s else ((zfi ov orr x i s).1 + 1, upd (zfi ov orr x i s).2.1 (x + i) (ov (x + i)), upd (zfi ov orr x i s).2.2 (x + i) (mo (orr (x + i)) (nI 1)))
theorem zfi_le (ov orr : Nat → Int32) (x : Nat) (s : Nat × (Nat → Int32) × (Nat → Int32)) : ∀ i, (zfi ov orr x i s).1 ≤ s.1 + i
  | 0 => Nat.le_refl _
  | i + 1 => by
    have := zfi_le ov orr x s i
    rw [zfi]
    split
    · omega
    · dsimp only; omega
theorem C_takeFrom {a b c d : Nat → Int32} {k sh n : Nat} {nu : Int32} (hk : k < 31) (h : ¬ c k < a k) : fX3_takeFrom (nI k) (nI sh) nu a b c d = some (upd a k (c k), upd b k (mo (d k) (nI sh))) := by
  unfold fX3_takeFrom
  have e := C_take2 (ver := a) (row := b) (sh := sh) (v := c k) (r := d k) hk
  simp (disch := omega) only [gl_0, gl_1, gl_2, gl_3, gl_4, gl_5, gl_6, gl_7, gl_8, gl_9, gl_10, gl_11, gl_12, gl_13, gl_14, gl_15, gl_16, gl_17, gl_18, gl_19, gl_20, gl_21, gl_22, gl_23, gl_24, gl_25, gl_26, gl_27, gl_28, gl_29, gl_30, gl_31, gl_32, gl_44, gl_48, gl_49, gl_57, gl_59, gl_60, gl_63, gl_70, gl_98, gl_99, gl_100, gl_101, gl_107, gl_109, gl_110, gl_111, gl_116, gl_120, gl_126, gl_155, gl_411, gl_999, gl_1000, gl_1233, gl_1644, gl_100000, gl_m1, nI_eq, nI_leI, nI_ltI, nI_add, nI_clamp, pk_mul, pk_sub, z_in, z_gt, z_bs, z_us, z_un, if_pos, if_neg, if_true, if_false, and_true, true_and, and_self, not_true_eq_false, not_false_eq_true, e, zta, h]
section MD13
variable {ss was beg asi : Nat → Int32} {sta : Int32} {txt : Nat → Int32} {typ att rea : Int32} {got row oth : Nat → Int32}
variable {p l x : Nat} {lo : Int32} {ov orr nv nr : Nat → Int32} {q : Nat} {qk qv qr wr : Nat → Int32} {wa : Int32} {wc wk : Nat → Int32}
theorem M_gets {t f k : Nat} {ver rw0 : Nat → Int32} (ht : t < 2) (hf : f = 1 - t) (hk : k < 31) (h : RTs ss l f ver rw0) : ∃ ss' row', fX6_gets (nI t) (nI k) ss was beg asi sta txt typ att rea got row oth = some (ss', was, beg, asi, sta, txt, typ, att, rea, got, row', oth) ∧ ss' (101 + 155 * t + 5 * k) = ver k ∧ RowIs (fun j => ss' (102 + 155 * t + 5 * k + j)) t (mo (rw0 k) (nI t)) ∧ ∀ i, (i < 101 + 155 * t + 5 * k ∨ 106 + 155 * t + 5 * k ≤ i) → ss' i = ss i := by
  have hf2 : f < 2 := by omega
  obtain ⟨g1, g2, g3, _⟩ := h k hk
  obtain ⟨row1, e1, hr1⟩ := M_takesIs (was := was) (beg := beg) (asi := asi) (sta := sta) (txt := txt) (typ := typ) (att := att) (rea := rea) (got := got) (row := row) (oth := oth) hf2 hk g2
  obtain ⟨row2, e2, hr2⟩ := M_makes (f := f) (t := t) (ss := ss) (was := was) (beg := beg) (asi := asi) (sta := sta) (txt := txt) (typ := typ) (att := att) (rea := rea) (got := got) (row := row1) (oth := oth) hf2 ht (fun h0 => by subst h0; exact g3.old) g3.ok hr1
  have e3 : fX6_of (nI f) (nI k) (nI 0) ss was beg asi sta txt typ att rea got row2 oth = some (ver k) := by
    rw [M_of hf2 hk (by omega), Nat.add_zero, g1]
  obtain ⟨ss', e4, q1, q2, q3⟩ := M_lays (sh := t) (k := k) (v := ver k) (ss := ss) (was := was) (beg := beg) (asi := asi) (sta := sta) (txt := txt) (typ := typ) (att := att) (rea := rea) (got := got) (row := row2) (oth := oth) ht hk (mo_zok ht g3.ok) hr2
  refine ⟨ss', row2, ?_, q1, q2, q3⟩
  unfold fX6_gets
  have ef : (nI 1 - nI t : Int32) = nI f := by rw [pk_sub (by omega), hf]
  simp only [gl_0, gl_1, gl_2, gl_3, gl_4, gl_5, gl_6, gl_7, gl_8, gl_9, gl_10, gl_11, gl_12, gl_13, gl_14, gl_15, gl_16, gl_17, gl_18, gl_19, gl_20, gl_21, gl_22, gl_23, gl_24, gl_25, gl_26, gl_27, gl_28, gl_29, gl_30, gl_31, gl_32, gl_44, gl_48, gl_49, gl_57, gl_59, gl_60, gl_63, gl_70, gl_98, gl_99, gl_100, gl_101, gl_107, gl_109, gl_110, gl_111, gl_116, gl_120, gl_126, gl_155, gl_411, gl_999, gl_1000, gl_1233, gl_1644, gl_100000, gl_m1, ef, e1, e2, e3, e4, z_bs]
theorem C_fi {d : Nat} {la : Int32} (h : x + d ≤ 31) : fX4_fillKeys_b54 2000 (nI 0) (nI (x + d)) (nI x) (nI 1) la (nI x) lo ov orr nv nr (nI q) qk qv qr wr wa wc wk = some (nI (zfi ov orr x d (0, nv, nr)).1, nI 1, la, nI (x + d), lo, ov, orr, (zfi ov orr x d (0, nv, nr)).2.1, (zfi ov orr x d (0, nv, nr)).2.2, nI q, qk, qv, qr, wr, wa, wc, wk) := by
  refine z_loop (fun n i (s : Nat × (Nat → Int32) × (Nat → Int32)) => fX4_fillKeys_b54 n (nI s.1) (nI (x + d)) (nI i) (nI 1) la (nI x) lo ov orr s.2.1 s.2.2 (nI q) qk qv qr wr wa wc wk) (x + d) (fun i s => x ≤ i ∧ s = zfi ov orr x (i - x) (0, nv, nr)) (fun o => o = some (nI (zfi ov orr x d (0, nv, nr)).1, nI 1, la, nI (x + d), lo, ov, orr, (zfi ov orr x d (0, nv, nr)).2.1, (zfi ov orr x d (0, nv, nr)).2.2, nI q, qk, qv, qr, wr, wa, wc, wk)) ?_ ?_ 2000 x (0, nv, nr) (by omega) (by omega) ⟨by omega, by rw [Nat.sub_self]; rfl⟩
  · rintro n i s hi ⟨hx, hs⟩
    refine ⟨_, ⟨by omega, rfl⟩, ?_⟩
    rw [show i + 1 - x = (i - x) + 1 by omega, zfi, ← hs, show x + (i - x) = i by omega]
    have hb := zfi_le ov orr x (0, nv, nr) (i - x)
    rw [← hs] at hb
    dsimp only at hb
    rw [fX4_fillKeys_b54]
    by_cases hv : ov i ≤ s.2.1 i
    · simp (disch := omega) only [gl_0, gl_1, gl_2, gl_3, gl_4, gl_5, gl_6, gl_7, gl_8, gl_9, gl_10, gl_11, gl_12, gl_13, gl_14, gl_15, gl_16, gl_17, gl_18, gl_19, gl_20, gl_21, gl_22, gl_23, gl_24, gl_25, gl_26, gl_27, gl_28, gl_29, gl_30, gl_31, gl_32, gl_44, gl_48, gl_49, gl_57, gl_59, gl_60, gl_63, gl_70, gl_98, gl_99, gl_100, gl_101, gl_107, gl_109, gl_110, gl_111, gl_116, gl_120, gl_126, gl_155, gl_411, gl_999, gl_1000, gl_1233, gl_1644, gl_100000, gl_m1, nI_eq, nI_leI, nI_ltI, nI_add, nI_clamp, pk_mul, pk_sub, z_in, z_gt, z_bs, z_us, z_un, if_pos, if_neg, if_true, if_false, and_true, true_and, and_self, not_true_eq_false, not_false_eq_true, hv]
    · have e := C_takeFrom (a := s.2.1) (b := s.2.2) (c := ov) (d := orr) (k := i) (sh := 1) (n := 0) (nu := nI 0) (by omega) (fun h => hv (Int32.le_of_lt h))
      simp (disch := omega) only [gl_0, gl_1, gl_2, gl_3, gl_4, gl_5, gl_6, gl_7, gl_8, gl_9, gl_10, gl_11, gl_12, gl_13, gl_14, gl_15, gl_16, gl_17, gl_18, gl_19, gl_20, gl_21, gl_22, gl_23, gl_24, gl_25, gl_26, gl_27, gl_28, gl_29, gl_30, gl_31, gl_32, gl_44, gl_48, gl_49, gl_57, gl_59, gl_60, gl_63, gl_70, gl_98, gl_99, gl_100, gl_101, gl_107, gl_109, gl_110, gl_111, gl_116, gl_120, gl_126, gl_155, gl_411, gl_999, gl_1000, gl_1233, gl_1644, gl_100000, gl_m1, nI_eq, nI_leI, nI_ltI, nI_add, nI_clamp, pk_mul, pk_sub, z_in, z_gt, z_bs, z_us, z_un, if_pos, if_neg, if_true, if_false, and_true, true_and, and_self, not_true_eq_false, not_false_eq_true, hv, e]
  · rintro n s ⟨hx, hs⟩
    rw [show x + d - x = d by omega] at hs
    subst hs
    rw [fX4_fillKeys_b54]
    simp (disch := omega) only [gl_0, gl_1, gl_2, gl_3, gl_4, gl_5, gl_6, gl_7, gl_8, gl_9, gl_10, gl_11, gl_12, gl_13, gl_14, gl_15, gl_16, gl_17, gl_18, gl_19, gl_20, gl_21, gl_22, gl_23, gl_24, gl_25, gl_26, gl_27, gl_28, gl_29, gl_30, gl_31, gl_32, gl_44, gl_48, gl_49, gl_57, gl_59, gl_60, gl_63, gl_70, gl_98, gl_99, gl_100, gl_101, gl_107, gl_109, gl_110, gl_111, gl_116, gl_120, gl_126, gl_155, gl_411, gl_999, gl_1000, gl_1233, gl_1644, gl_100000, gl_m1, nI_eq, nI_leI, nI_ltI, nI_add, nI_clamp, pk_mul, pk_sub, z_in, z_gt, z_bs, z_us, z_un, if_pos, if_neg, if_true, if_false, and_true, true_and, and_self, not_true_eq_false, not_false_eq_true]
theorem M_fi (R : RT ss 1 l x lo ov orr nv nr q qk qv qr wr wa wc wk) {m d : Nat} (hm : m ≤ 31) (hx : x < 31) (hd : d = if x + m < 31 then m else 31 - x) : ∃ ss' row', fX6_backfills_b41 2000 (nI m) (nI 0) (nI 0) ss was beg asi sta txt typ att rea got row oth = some (nI (zfi ov orr x d (0, nv, nr)).1, ss', was, beg, asi, sta, txt, typ, att, rea, got, row', oth) ∧ RT ss' 1 l (x + d) lo ov orr (zfi ov orr x d (0, nv, nr)).2.1 (zfi ov orr x d (0, nv, nr)).2.2 q qk qv qr wr wa wc wk := by
  have hdm : d ≤ m := by rw [hd]; split <;> omega
  have hdd : m ≤ d ∨ 31 ≤ x + d := by rw [hd]; split <;> omega
  have hx31 : x + d ≤ 31 := by rw [hd]; split <;> omega
  refine z_loop (fun n i (s : Nat × (Nat → Int32) × (Nat → Int32)) => fX6_backfills_b41 n (nI m) (nI s.1) (nI i) s.2.1 was beg asi sta txt typ att rea got s.2.2 oth) d (fun i s => s.1 = (zfi ov orr x i (0, nv, nr)).1 ∧ RT s.2.1 1 l (x + i) lo ov orr (zfi ov orr x i (0, nv, nr)).2.1 (zfi ov orr x i (0, nv, nr)).2.2 q qk qv qr wr wa wc wk) (fun o => ∃ ss' row', o = some (nI (zfi ov orr x d (0, nv, nr)).1, ss', was, beg, asi, sta, txt, typ, att, rea, got, row', oth) ∧ RT ss' 1 l (x + d) lo ov orr (zfi ov orr x d (0, nv, nr)).2.1 (zfi ov orr x d (0, nv, nr)).2.2 q qk qv qr wr wa wc wk) ?_ ?_ 2000 0 (0, ss, row) (by omega) (by omega) ⟨rfl, R⟩
  · rintro n i ⟨g, s1, s2⟩ hi ⟨hg, h⟩
    dsimp only at hg h
    have hb := zfi_le ov orr x (0, nv, nr) i
    rw [← hg] at hb
    dsimp only at hb
    obtain ⟨⟨hp, hq, hl, hx', hqp⟩, ⟨a0, a1, a2, a3, a4⟩, r0, r1, rq, rl, rw', rp0, rp3⟩ := h
    have a2 := a2 rfl
    have c1 : fX6_of (nI 1) (nI (x + i)) (nI 0) s1 was beg asi sta txt typ att rea got s2 oth = some ((zfi ov orr x i (0, nv, nr)).2.1 (x + i)) := by rw [M_of (by omega) (by omega) (by omega), Nat.add_zero, (r1 _ (by omega)).1]
    have c0 : fX6_of (nI 0) (nI (x + i)) (nI 0) s1 was beg asi sta txt typ att rea got s2 oth = some (ov (x + i)) := by rw [M_of (by omega) (by omega) (by omega), Nat.add_zero, (r0 _ (by omega)).1]
    rw [fX6_backfills_b41]
    by_cases hv : ov (x + i) ≤ (zfi ov orr x i (0, nv, nr)).2.1 (x + i)
    · have ez : zfi ov orr x (i + 1) (0, nv, nr) = zfi ov orr x i (0, nv, nr) := by rw [zfi, if_pos hv]
      refine ⟨(g, upd s1 2 (nI (x + (i + 1))), s2), ?_, ?_⟩
      · rw [ez]
        dsimp only
        refine ⟨hg, ⟨hp, hq, hl, by omega, hqp⟩, ⟨by rw [z_un (by omega)]; exact a0, by rw [z_un (by omega)]; exact a1, fun _ => z_us, by rw [z_un (by omega)]; exact a3, by rw [z_un (by omega)]; exact a4⟩, RTs_congr r0 (fun i _ _ => z_un (by omega)), RTs_congr r1 (fun i _ _ => z_un (by omega)), RTq_congr rq hq (fun i _ _ => z_un (by omega)), fun k hk => by rw [z_un (by omega)]; exact rl k hk, RTw_congr rw' (fun i _ _ => z_un (by omega)), rp0, rp3⟩
      · simp (disch := omega) only [gl_0, gl_1, gl_2, gl_3, gl_4, gl_5, gl_6, gl_7, gl_8, gl_9, gl_10, gl_11, gl_12, gl_13, gl_14, gl_15, gl_16, gl_17, gl_18, gl_19, gl_20, gl_21, gl_22, gl_23, gl_24, gl_25, gl_26, gl_27, gl_28, gl_29, gl_30, gl_31, gl_32, gl_44, gl_48, gl_49, gl_57, gl_59, gl_60, gl_63, gl_70, gl_98, gl_99, gl_100, gl_101, gl_107, gl_109, gl_110, gl_111, gl_116, gl_120, gl_126, gl_155, gl_411, gl_999, gl_1000, gl_1233, gl_1644, gl_100000, gl_m1, nI_eq, nI_leI, nI_ltI, nI_add, nI_clamp, pk_mul, pk_sub, z_in, z_gt, z_bs, z_us, z_un, if_pos, if_neg, if_true, if_false, and_true, true_and, and_self, not_true_eq_false, not_false_eq_true, a2, c1, c0, hv]
        rfl
    · obtain ⟨ss', row', e, b1, b2, b3⟩ := M_gets (t := 1) (f := 0) (k := x + i) (was := was) (beg := beg) (asi := asi) (sta := sta) (txt := txt) (typ := typ) (att := att) (rea := rea) (got := got) (row := s2) (oth := oth) (by omega) rfl (by omega) r0
      have s2' : ss' 2 = nI (x + i) := by rw [b3 2 (by omega)]; exact a2
      have ez : zfi ov orr x (i + 1) (0, nv, nr) = ((zfi ov orr x i (0, nv, nr)).1 + 1, upd (zfi ov orr x i (0, nv, nr)).2.1 (x + i) (ov (x + i)), upd (zfi ov orr x i (0, nv, nr)).2.2 (x + i) (mo (orr (x + i)) (nI 1))) := by rw [zfi, if_neg hv]
      obtain ⟨_, _, z3, v, hvl, hve⟩ := r0 (x + i) (by omega)
      refine ⟨(g + 1, upd ss' 2 (nI (x + (i + 1))), row'), ?_, ?_⟩
      · rw [ez]
        dsimp only
        rw [hve] at b1 ⊢
        have b2' : RowIs (fun j => upd ss' 2 (nI (x + (i + 1))) (102 + 155 * 1 + 5 * (x + i) + j)) 1 (mo (orr (x + i)) (nI 1)) := by
          obtain ⟨w0, w1, w2, w3⟩ := b2
          dsimp only at w0 w1 w2 w3
          exact ⟨by dsimp only; rw [z_un (by omega)]; exact w0, by dsimp only; rw [z_un (by omega)]; exact w1, by dsimp only; rw [z_un (by omega)]; exact w2, by dsimp only; rw [z_un (by omega)]; exact w3⟩
        refine ⟨by rw [hg], ⟨hp, hq, hl, by omega, hqp⟩, ⟨by rw [z_un (by omega), b3 0 (by omega)]; exact a0, by rw [z_un (by omega), b3 1 (by omega)]; exact a1, fun _ => z_us, by rw [z_un (by omega), b3 3 (by omega)]; exact a3, by rw [z_un (by omega), b3 4 (by omega)]; exact a4⟩, RTs_congr r0 (fun j _ _ => by rw [z_un (by omega), b3 j (by omega)]), RTs_set r1 (zv_mo (by omega) z3.ok) hvl (fun j _ _ _ => by rw [z_un (by omega), b3 j (by omega)]) (by rw [z_un (by omega)]; exact b1) b2', RTq_congr rq hq (fun j _ _ => by rw [z_un (by omega), b3 j (by omega)]), fun k hk => by rw [z_un (by omega), b3 _ (by omega)]; exact rl k hk, RTw_congr rw' (fun j _ _ => by rw [z_un (by omega), b3 j (by omega)]), fun h => absurd h (by omega), fun h => absurd h (by omega)⟩
      · simp (disch := omega) only [gl_0, gl_1, gl_2, gl_3, gl_4, gl_5, gl_6, gl_7, gl_8, gl_9, gl_10, gl_11, gl_12, gl_13, gl_14, gl_15, gl_16, gl_17, gl_18, gl_19, gl_20, gl_21, gl_22, gl_23, gl_24, gl_25, gl_26, gl_27, gl_28, gl_29, gl_30, gl_31, gl_32, gl_44, gl_48, gl_49, gl_57, gl_59, gl_60, gl_63, gl_70, gl_98, gl_99, gl_100, gl_101, gl_107, gl_109, gl_110, gl_111, gl_116, gl_120, gl_126, gl_155, gl_411, gl_999, gl_1000, gl_1233, gl_1644, gl_100000, gl_m1, nI_eq, nI_leI, nI_ltI, nI_add, nI_clamp, pk_mul, pk_sub, z_in, z_gt, z_bs, z_us, z_un, if_pos, if_neg, if_true, if_false, and_true, true_and, and_self, not_true_eq_false, not_false_eq_true, a2, c1, c0, hv, e, s2']
        rfl
  · rintro n ⟨g, s1, s2⟩ ⟨hg, h⟩
    dsimp only at hg h
    have a2 : s1 2 = nI (x + d) := h.2.1.2.2.1 rfl
    refine ⟨s1, s2, ?_, h⟩
    rw [fX6_backfills_b41, hg]
    rcases hdd with hh | hh
    · simp (disch := omega) only [gl_0, gl_1, gl_2, gl_3, gl_4, gl_5, gl_6, gl_7, gl_8, gl_9, gl_10, gl_11, gl_12, gl_13, gl_14, gl_15, gl_16, gl_17, gl_18, gl_19, gl_20, gl_21, gl_22, gl_23, gl_24, gl_25, gl_26, gl_27, gl_28, gl_29, gl_30, gl_31, gl_32, gl_44, gl_48, gl_49, gl_57, gl_59, gl_60, gl_63, gl_70, gl_98, gl_99, gl_100, gl_101, gl_107, gl_109, gl_110, gl_111, gl_116, gl_120, gl_126, gl_155, gl_411, gl_999, gl_1000, gl_1233, gl_1644, gl_100000, gl_m1, nI_eq, nI_leI, nI_ltI, nI_add, nI_clamp, pk_mul, pk_sub, z_in, z_gt, z_bs, z_us, z_un, if_pos, if_neg, if_true, if_false, and_true, true_and, and_self, not_true_eq_false, not_false_eq_true, a2]
    · by_cases h5 : m ≤ d
      · simp (disch := omega) only [gl_0, gl_1, gl_2, gl_3, gl_4, gl_5, gl_6, gl_7, gl_8, gl_9, gl_10, gl_11, gl_12, gl_13, gl_14, gl_15, gl_16, gl_17, gl_18, gl_19, gl_20, gl_21, gl_22, gl_23, gl_24, gl_25, gl_26, gl_27, gl_28, gl_29, gl_30, gl_31, gl_32, gl_44, gl_48, gl_49, gl_57, gl_59, gl_60, gl_63, gl_70, gl_98, gl_99, gl_100, gl_101, gl_107, gl_109, gl_110, gl_111, gl_116, gl_120, gl_126, gl_155, gl_411, gl_999, gl_1000, gl_1233, gl_1644, gl_100000, gl_m1, nI_eq, nI_leI, nI_ltI, nI_add, nI_clamp, pk_mul, pk_sub, z_in, z_gt, z_bs, z_us, z_un, if_pos, if_neg, if_true, if_false, and_true, true_and, and_self, not_true_eq_false, not_false_eq_true, a2]
      · simp (disch := omega) only [gl_0, gl_1, gl_2, gl_3, gl_4, gl_5, gl_6, gl_7, gl_8, gl_9, gl_10, gl_11, gl_12, gl_13, gl_14, gl_15, gl_16, gl_17, gl_18, gl_19, gl_20, gl_21, gl_22, gl_23, gl_24, gl_25, gl_26, gl_27, gl_28, gl_29, gl_30, gl_31, gl_32, gl_44, gl_48, gl_49, gl_57, gl_59, gl_60, gl_63, gl_70, gl_98, gl_99, gl_100, gl_101, gl_107, gl_109, gl_110, gl_111, gl_116, gl_120, gl_126, gl_155, gl_411, gl_999, gl_1000, gl_1233, gl_1644, gl_100000, gl_m1, nI_eq, nI_leI, nI_ltI, nI_add, nI_clamp, pk_mul, pk_sub, z_in, z_gt, z_bs, z_us, z_un, if_pos, if_neg, if_true, if_false, and_true, true_and, and_self, not_true_eq_false, not_false_eq_true, a2]
theorem S_fills (R : RT ss p l x lo ov orr nv nr q qk qv qr wr wa wc wk) (y : Int32) : OpOK was beg asi sta txt typ att rea got (nI p, nI l, nI x, lo, ov, orr, nv, nr, nI q, qk, qv, qr, wr, wa, wc, wk) (fX4_fillKeys y (nI p) (nI l) (nI x) lo ov orr nv nr (nI q) qk qv qr wr wa wc wk) (fX6_backfills y ss was beg asi sta txt typ att rea got row oth) := by
  have hp := R.1.1
  have hx := R.1.2.2.2.1
  have h0 : ss 0 = nI p := R.2.1.1
  unfold fX4_fillKeys fX6_backfills
  by_cases hy : y < nI 1 ∨ nI (31 + 1) ≤ y
  · refine S_bad (row := row) (oth := oth) R ?_ (by simp only [gl_0, gl_1, gl_2, gl_3, gl_4, gl_5, gl_6, gl_7, gl_8, gl_9, gl_10, gl_11, gl_12, gl_13, gl_14, gl_15, gl_16, gl_17, gl_18, gl_19, gl_20, gl_21, gl_22, gl_23, gl_24, gl_25, gl_26, gl_27, gl_28, gl_29, gl_30, gl_31, gl_32, gl_44, gl_48, gl_49, gl_57, gl_59, gl_60, gl_63, gl_70, gl_98, gl_99, gl_100, gl_101, gl_107, gl_109, gl_110, gl_111, gl_116, gl_120, gl_126, gl_155, gl_411, gl_999, gl_1000, gl_1233, gl_1644, gl_100000, gl_m1]; rw [zin1_out (by omega) hy, z_bs, if_pos rfl])
    simp only [gl_0, gl_1, gl_2, gl_3, gl_4, gl_5, gl_6, gl_7, gl_8, gl_9, gl_10, gl_11, gl_12, gl_13, gl_14, gl_15, gl_16, gl_17, gl_18, gl_19, gl_20, gl_21, gl_22, gl_23, gl_24, gl_25, gl_26, gl_27, gl_28, gl_29, gl_30, gl_31, gl_32, gl_44, gl_48, gl_49, gl_57, gl_59, gl_60, gl_63, gl_70, gl_98, gl_99, gl_100, gl_101, gl_107, gl_109, gl_110, gl_111, gl_116, gl_120, gl_126, gl_155, gl_411, gl_999, gl_1000, gl_1233, gl_1644, gl_100000, gl_m1]
    rcases hy with hy | hy
    · rw [if_pos hy]
    · by_cases h0 : y < nI 1
      · rw [if_pos h0]
      · rw [if_neg h0, if_neg (Int32.not_le.2 (zlt_of (by omega) hy))]
  have hm : ∃ m, 1 ≤ m ∧ m ≤ 31 ∧ y = nI m := by
    have hy2 := pk_ix y (n := 32) (by omega)
    rcases hy2 with h | h | ⟨m, h, rfl, -⟩
    · exact absurd (Or.inl (Int32.lt_trans h (by decide))) hy
    · exact absurd (Or.inr h) hy
    · refine ⟨m, ?_, by omega, rfl⟩
      rcases Nat.eq_zero_or_pos m with h0 | h0
      · subst h0; exact absurd (Or.inl (by decide)) hy
      · exact h0
  obtain ⟨m, hm1, hm8, rfl⟩ := hm
  by_cases hgo : p = 1 ∧ x < 31
  · obtain ⟨rfl, hx'⟩ := hgo
    have h2 : ss 2 = nI x := R.2.1.2.2.1 rfl
    have hmin : (if nI x + nI m < nI 31 then nI x + nI m else nI 31 : Int32) = nI (x + if x + m < 31 then m else 31 - x) := by
      rw [nI_add]
      by_cases h : x + m < 31
      · rw [if_pos h, if_pos ((nI_ltI (by omega) (by omega)).2 h)]
      · rw [if_neg h, if_neg (fun h' => h ((nI_ltI (by omega) (by omega)).1 h')), show x + (31 - x) = 31 by omega]
    have ec := C_fi (la := nI l) (lo := lo) (ov := ov) (orr := orr) (nv := nv) (nr := nr) (q := q) (qk := qk) (qv := qv) (qr := qr) (wr := wr) (wa := wa) (wc := wc) (wk := wk) (x := x) (d := if x + m < 31 then m else 31 - x) (by split <;> omega)
    obtain ⟨ss', row', em, hR⟩ := M_fi (was := was) (beg := beg) (asi := asi) (sta := sta) (txt := txt) (typ := typ) (att := att) (rea := rea) (got := got) (row := row) (oth := oth) R hm8 hx' rfl
    have hz : zans (nI (zfi ov orr x (if x + m < 31 then m else 31 - x) (0, nv, nr)).1) := zans_n (by
      have := zfi_le ov orr x (0, nv, nr) (if x + m < 31 then m else 31 - x)
      have h31 : (if x + m < 31 then m else 31 - x) ≤ 31 := by split <;> omega
      dsimp only at this
      omega)
    refine ⟨_, 1, l, _, q, lo, ov, orr, _, _, qk, qv, qr, wr, wa, wc, wk, ss', row', oth, ?_, ?_, hR, Or.inl hz⟩
    · simp only [gl_0, gl_1, gl_2, gl_3, gl_4, gl_5, gl_6, gl_7, gl_8, gl_9, gl_10, gl_11, gl_12, gl_13, gl_14, gl_15, gl_16, gl_17, gl_18, gl_19, gl_20, gl_21, gl_22, gl_23, gl_24, gl_25, gl_26, gl_27, gl_28, gl_29, gl_30, gl_31, gl_32, gl_44, gl_48, gl_49, gl_57, gl_59, gl_60, gl_63, gl_70, gl_98, gl_99, gl_100, gl_101, gl_107, gl_109, gl_110, gl_111, gl_116, gl_120, gl_126, gl_155, gl_411, gl_999, gl_1000, gl_1233, gl_1644, gl_100000, gl_m1]
      rw [hmin]
      simp (disch := omega) only [gl_0, gl_1, gl_2, gl_3, gl_4, gl_5, gl_6, gl_7, gl_8, gl_9, gl_10, gl_11, gl_12, gl_13, gl_14, gl_15, gl_16, gl_17, gl_18, gl_19, gl_20, gl_21, gl_22, gl_23, gl_24, gl_25, gl_26, gl_27, gl_28, gl_29, gl_30, gl_31, gl_32, gl_44, gl_48, gl_49, gl_57, gl_59, gl_60, gl_63, gl_70, gl_98, gl_99, gl_100, gl_101, gl_107, gl_109, gl_110, gl_111, gl_116, gl_120, gl_126, gl_155, gl_411, gl_999, gl_1000, gl_1233, gl_1644, gl_100000, gl_m1, nI_eq, nI_leI, nI_ltI, if_neg, if_pos, if_true]
      exact ec
    · simp only [gl_0, gl_1, gl_2, gl_3, gl_4, gl_5, gl_6, gl_7, gl_8, gl_9, gl_10, gl_11, gl_12, gl_13, gl_14, gl_15, gl_16, gl_17, gl_18, gl_19, gl_20, gl_21, gl_22, gl_23, gl_24, gl_25, gl_26, gl_27, gl_28, gl_29, gl_30, gl_31, gl_32, gl_44, gl_48, gl_49, gl_57, gl_59, gl_60, gl_63, gl_70, gl_98, gl_99, gl_100, gl_101, gl_107, gl_109, gl_110, gl_111, gl_116, gl_120, gl_126, gl_155, gl_411, gl_999, gl_1000, gl_1233, gl_1644, gl_100000, gl_m1]
      rw [zin1_in hm1 hm8 (by omega)]
      simp (disch := omega) only [gl_0, gl_1, gl_2, gl_3, gl_4, gl_5, gl_6, gl_7, gl_8, gl_9, gl_10, gl_11, gl_12, gl_13, gl_14, gl_15, gl_16, gl_17, gl_18, gl_19, gl_20, gl_21, gl_22, gl_23, gl_24, gl_25, gl_26, gl_27, gl_28, gl_29, gl_30, gl_31, gl_32, gl_44, gl_48, gl_49, gl_57, gl_59, gl_60, gl_63, gl_70, gl_98, gl_99, gl_100, gl_101, gl_107, gl_109, gl_110, gl_111, gl_116, gl_120, gl_126, gl_155, gl_411, gl_999, gl_1000, gl_1233, gl_1644, gl_100000, gl_m1, nI_eq, nI_leI, nI_ltI, nI_add, nI_clamp, pk_mul, pk_sub, z_in, z_gt, z_bs, z_us, z_un, if_pos, if_neg, if_true, if_false, and_true, true_and, and_self, not_true_eq_false, not_false_eq_true, h0, h2]
      exact em
  · refine S_no (row' := row) (oth' := oth) R ?_ ?_
    · by_cases hp1 : p = 1
      · have : ¬ x < 31 := fun h => hgo ⟨hp1, h⟩
        simp (disch := omega) only [gl_0, gl_1, gl_2, gl_3, gl_4, gl_5, gl_6, gl_7, gl_8, gl_9, gl_10, gl_11, gl_12, gl_13, gl_14, gl_15, gl_16, gl_17, gl_18, gl_19, gl_20, gl_21, gl_22, gl_23, gl_24, gl_25, gl_26, gl_27, gl_28, gl_29, gl_30, gl_31, gl_32, gl_44, gl_48, gl_49, gl_57, gl_59, gl_60, gl_63, gl_70, gl_98, gl_99, gl_100, gl_101, gl_107, gl_109, gl_110, gl_111, gl_116, gl_120, gl_126, gl_155, gl_411, gl_999, gl_1000, gl_1233, gl_1644, gl_100000, gl_m1, nI_eq, nI_leI, nI_ltI, nI_add, nI_clamp, pk_mul, pk_sub, z_in, z_gt, z_bs, z_us, z_un, if_pos, if_neg, if_true, if_false, and_true, true_and, and_self, not_true_eq_false, not_false_eq_true]
      · simp (disch := omega) only [gl_0, gl_1, gl_2, gl_3, gl_4, gl_5, gl_6, gl_7, gl_8, gl_9, gl_10, gl_11, gl_12, gl_13, gl_14, gl_15, gl_16, gl_17, gl_18, gl_19, gl_20, gl_21, gl_22, gl_23, gl_24, gl_25, gl_26, gl_27, gl_28, gl_29, gl_30, gl_31, gl_32, gl_44, gl_48, gl_49, gl_57, gl_59, gl_60, gl_63, gl_70, gl_98, gl_99, gl_100, gl_101, gl_107, gl_109, gl_110, gl_111, gl_116, gl_120, gl_126, gl_155, gl_411, gl_999, gl_1000, gl_1233, gl_1644, gl_100000, gl_m1, nI_eq, nI_leI, nI_ltI, nI_add, nI_clamp, pk_mul, pk_sub, z_in, z_gt, z_bs, z_us, z_un, if_pos, if_neg, if_true, if_false, and_true, true_and, and_self, not_true_eq_false, not_false_eq_true]
    · simp only [gl_0, gl_1, gl_2, gl_3, gl_4, gl_5, gl_6, gl_7, gl_8, gl_9, gl_10, gl_11, gl_12, gl_13, gl_14, gl_15, gl_16, gl_17, gl_18, gl_19, gl_20, gl_21, gl_22, gl_23, gl_24, gl_25, gl_26, gl_27, gl_28, gl_29, gl_30, gl_31, gl_32, gl_44, gl_48, gl_49, gl_57, gl_59, gl_60, gl_63, gl_70, gl_98, gl_99, gl_100, gl_101, gl_107, gl_109, gl_110, gl_111, gl_116, gl_120, gl_126, gl_155, gl_411, gl_999, gl_1000, gl_1233, gl_1644, gl_100000, gl_m1]
      rw [zin1_in hm1 hm8 (by omega)]
      by_cases hp1 : p = 1
      · have : ¬ x < 31 := fun h => hgo ⟨hp1, h⟩
        have h2 : ss 2 = nI x := R.2.1.2.2.1 hp1
        simp (disch := omega) only [gl_0, gl_1, gl_2, gl_3, gl_4, gl_5, gl_6, gl_7, gl_8, gl_9, gl_10, gl_11, gl_12, gl_13, gl_14, gl_15, gl_16, gl_17, gl_18, gl_19, gl_20, gl_21, gl_22, gl_23, gl_24, gl_25, gl_26, gl_27, gl_28, gl_29, gl_30, gl_31, gl_32, gl_44, gl_48, gl_49, gl_57, gl_59, gl_60, gl_63, gl_70, gl_98, gl_99, gl_100, gl_101, gl_107, gl_109, gl_110, gl_111, gl_116, gl_120, gl_126, gl_155, gl_411, gl_999, gl_1000, gl_1233, gl_1644, gl_100000, gl_m1, nI_eq, nI_leI, nI_ltI, nI_add, nI_clamp, pk_mul, pk_sub, z_in, z_gt, z_bs, z_us, z_un, if_pos, if_neg, if_true, if_false, and_true, true_and, and_self, not_true_eq_false, not_false_eq_true, h0, h2]
      · simp (disch := omega) only [gl_0, gl_1, gl_2, gl_3, gl_4, gl_5, gl_6, gl_7, gl_8, gl_9, gl_10, gl_11, gl_12, gl_13, gl_14, gl_15, gl_16, gl_17, gl_18, gl_19, gl_20, gl_21, gl_22, gl_23, gl_24, gl_25, gl_26, gl_27, gl_28, gl_29, gl_30, gl_31, gl_32, gl_44, gl_48, gl_49, gl_57, gl_59, gl_60, gl_63, gl_70, gl_98, gl_99, gl_100, gl_101, gl_107, gl_109, gl_110, gl_111, gl_116, gl_120, gl_126, gl_155, gl_411, gl_999, gl_1000, gl_1233, gl_1644, gl_100000, gl_m1, nI_eq, nI_leI, nI_ltI, nI_add, nI_clamp, pk_mul, pk_sub, z_in, z_gt, z_bs, z_us, z_un, if_pos, if_neg, if_true, if_false, and_true, true_and, and_self, not_true_eq_false, not_false_eq_true, h0]
end MD13
