/-! the operations on the abstract state: answers, and what they leave -/
theorem zcpy {f g : Nat → Int32} {n k : Nat} (h : k < n) : va_cpy f g 0 0 n k = f k := by
  rw [pk_cpy_in (Nat.zero_le k) (by omega), Nat.sub_zero, Nat.zero_add]
def Sv (S : zS) (p l x : Nat) (lo : Int32) (ov orr nv nr : Nat → Int32) (q : Nat) (qk qv qr wr : Nat → Int32) (wa : Int32) (wc wk : Nat → Int32) : Prop :=
  S.1 ≤ 4 ∧ S.2.1 = (nI p, nI l, nI x, lo, ov, orr, nv, nr, nI q, qk, qv, qr, wr, wa, wc, wk) ∧ IT p l x ov orr nv nr q qk qv qr wa
section KC
variable {s : Nat} {ph la po lo : Int32} {ov orr nv nr : Nat → Int32} {ql : Int32} {qk qv qr wr : Nat → Int32} {wa : Int32} {wc wk : Nat → Int32} {tph tla tpo tlo : Int32} {tov torr tnv tnr : Nat → Int32} {tql : Int32} {tqk tqv tqr twr : Nat → Int32} {twa : Int32} {twc twk : Nat → Int32} {HH : Nat → zT} {oo : zO} {p l x q : Nat}
theorem C_newTrial {st : Int32} : fX5_newTrial st ph la po lo ov orr nv nr ql qk qv qr wr wa wc wk tph tla tpo tlo tov torr tnv tnr tql tqk tqv tqr twr twa twc twk = some (ph, la, po, lo, (va_cpy ov tov 0 0 31), (va_cpy orr torr 0 0 31), (va_cpy nv tnv 0 0 31), (va_cpy nr tnr 0 0 31), ql, (va_cpy qk tqk 0 0 8), (va_cpy qv tqv 0 0 8), (va_cpy qr tqr 0 0 8), (va_cpy wr twr 0 0 31), wa, (va_cpy wc twc 0 0 3), (va_cpy wk twk 0 0 3)) := by
  simp only [fX5_newTrial, fX4_copyFrom, fX3_copyFrom, fX1_copyFrom, z_bs]
theorem IT_cpy (R : IT p l x ov orr nv nr q qk qv qr wa) : IT p l x (va_cpy ov tov 0 0 31) (va_cpy orr torr 0 0 31) (va_cpy nv tnv 0 0 31) (va_cpy nr tnr 0 0 31) q (va_cpy qk tqk 0 0 8) (va_cpy qv tqv 0 0 8) (va_cpy qr tqr 0 0 8) wa :=
  IT_ext R (fun k hk => ⟨zcpy hk, zcpy hk, zcpy hk, zcpy hk⟩) (fun k hk => ⟨zcpy hk, zcpy hk, zcpy hk⟩)
theorem KL_begin {r : Int32} {u : zT} (e : fX4_startChange ph la po lo (va_cpy ov tov 0 0 31) (va_cpy orr torr 0 0 31) (va_cpy nv tnv 0 0 31) (va_cpy nr tnr 0 0 31) ql (va_cpy qk tqk 0 0 8) (va_cpy qv tqv 0 0 8) (va_cpy qr tqr 0 0 8) (va_cpy wr twr 0 0 31) wa (va_cpy wc twc 0 0 3) (va_cpy wk twk 0 0 3) = some (r, u)) : K_begin (s, (ph, la, po, lo, ov, orr, nv, nr, ql, qk, qv, qr, wr, wa, wc, wk), (tph, tla, tpo, tlo, tov, torr, tnv, tnr, tql, tqk, tqv, tqr, twr, twa, twc, twk), HH, oo) = some (r, K_set (s, (ph, la, po, lo, ov, orr, nv, nr, ql, qk, qv, qr, wr, wa, wc, wk), (tph, tla, tpo, tlo, tov, torr, tnv, tnr, tql, tqk, tqv, tqr, twr, twa, twc, twk), HH, oo) r u) := by
  unfold K_begin fX5_begin
  dsimp only
  rw [C_newTrial, z_bs]
  dsimp only
  rw [e, z_bs, z_bs]
theorem KL_turn {r : Int32} {u : zT} (e : fX4_turnOver ph la po lo (va_cpy ov tov 0 0 31) (va_cpy orr torr 0 0 31) (va_cpy nv tnv 0 0 31) (va_cpy nr tnr 0 0 31) ql (va_cpy qk tqk 0 0 8) (va_cpy qv tqv 0 0 8) (va_cpy qr tqr 0 0 8) (va_cpy wr twr 0 0 31) wa (va_cpy wc twc 0 0 3) (va_cpy wk twk 0 0 3) = some (r, u)) : K_turn (s, (ph, la, po, lo, ov, orr, nv, nr, ql, qk, qv, qr, wr, wa, wc, wk), (tph, tla, tpo, tlo, tov, torr, tnv, tnr, tql, tqk, tqv, tqr, twr, twa, twc, twk), HH, oo) = some (r, K_set (s, (ph, la, po, lo, ov, orr, nv, nr, ql, qk, qv, qr, wr, wa, wc, wk), (tph, tla, tpo, tlo, tov, torr, tnv, tnr, tql, tqk, tqv, tqr, twr, twa, twc, twk), HH, oo) r u) := by
  unfold K_turn fX5_turn
  dsimp only
  rw [C_newTrial, z_bs]
  dsimp only
  rw [e, z_bs, z_bs]
theorem KL_back {r : Int32} {u : zT} (e : fX4_turnBack ph la po lo (va_cpy ov tov 0 0 31) (va_cpy orr torr 0 0 31) (va_cpy nv tnv 0 0 31) (va_cpy nr tnr 0 0 31) ql (va_cpy qk tqk 0 0 8) (va_cpy qv tqv 0 0 8) (va_cpy qr tqr 0 0 8) (va_cpy wr twr 0 0 31) wa (va_cpy wc twc 0 0 3) (va_cpy wk twk 0 0 3) = some (r, u)) : K_back (s, (ph, la, po, lo, ov, orr, nv, nr, ql, qk, qv, qr, wr, wa, wc, wk), (tph, tla, tpo, tlo, tov, torr, tnv, tnr, tql, tqk, tqv, tqr, twr, twa, twc, twk), HH, oo) = some (r, K_set (s, (ph, la, po, lo, ov, orr, nv, nr, ql, qk, qv, qr, wr, wa, wc, wk), (tph, tla, tpo, tlo, tov, torr, tnv, tnr, tql, tqk, tqv, tqr, twr, twa, twc, twk), HH, oo) r u) := by
  unfold K_back fX5_back
  dsimp only
  rw [C_newTrial, z_bs]
  dsimp only
  rw [e, z_bs, z_bs]
theorem KL_drop {r : Int32} {u : zT} (e : fX4_dropOld ph la po lo (va_cpy ov tov 0 0 31) (va_cpy orr torr 0 0 31) (va_cpy nv tnv 0 0 31) (va_cpy nr tnr 0 0 31) ql (va_cpy qk tqk 0 0 8) (va_cpy qv tqv 0 0 8) (va_cpy qr tqr 0 0 8) (va_cpy wr twr 0 0 31) wa (va_cpy wc twc 0 0 3) (va_cpy wk twk 0 0 3) = some (r, u)) : K_drop (s, (ph, la, po, lo, ov, orr, nv, nr, ql, qk, qv, qr, wr, wa, wc, wk), (tph, tla, tpo, tlo, tov, torr, tnv, tnr, tql, tqk, tqv, tqr, twr, twa, twc, twk), HH, oo) = some (r, K_set (s, (ph, la, po, lo, ov, orr, nv, nr, ql, qk, qv, qr, wr, wa, wc, wk), (tph, tla, tpo, tlo, tov, torr, tnv, tnr, tql, tqk, tqv, tqr, twr, twa, twc, twk), HH, oo) r u) := by
  unfold K_drop fX5_drop
  dsimp only
  rw [C_newTrial, z_bs]
  dsimp only
  rw [e, z_bs, z_bs]
theorem KL_writeOld {p0 p1 p2 p3 : Int32} {r : Int32} {u : zT} (e : fX4_putOld p0 p1 p2 p3 ph la po lo (va_cpy ov tov 0 0 31) (va_cpy orr torr 0 0 31) (va_cpy nv tnv 0 0 31) (va_cpy nr tnr 0 0 31) ql (va_cpy qk tqk 0 0 8) (va_cpy qv tqv 0 0 8) (va_cpy qr tqr 0 0 8) (va_cpy wr twr 0 0 31) wa (va_cpy wc twc 0 0 3) (va_cpy wk twk 0 0 3) = some (r, u)) : K_writeOld p0 p1 p2 p3 (s, (ph, la, po, lo, ov, orr, nv, nr, ql, qk, qv, qr, wr, wa, wc, wk), (tph, tla, tpo, tlo, tov, torr, tnv, tnr, tql, tqk, tqv, tqr, twr, twa, twc, twk), HH, oo) = some (r, K_set (s, (ph, la, po, lo, ov, orr, nv, nr, ql, qk, qv, qr, wr, wa, wc, wk), (tph, tla, tpo, tlo, tov, torr, tnv, tnr, tql, tqk, tqv, tqr, twr, twa, twc, twk), HH, oo) r u) := by
  unfold K_writeOld fX5_writeOld
  dsimp only
  rw [C_newTrial, z_bs]
  dsimp only
  rw [e, z_bs, z_bs]
theorem KL_writeNew {p0 p1 p2 : Int32} {r : Int32} {u : zT} (e : fX4_putNew p0 p1 p2 ph la po lo (va_cpy ov tov 0 0 31) (va_cpy orr torr 0 0 31) (va_cpy nv tnv 0 0 31) (va_cpy nr tnr 0 0 31) ql (va_cpy qk tqk 0 0 8) (va_cpy qv tqv 0 0 8) (va_cpy qr tqr 0 0 8) (va_cpy wr twr 0 0 31) wa (va_cpy wc twc 0 0 3) (va_cpy wk twk 0 0 3) = some (r, u)) : K_writeNew p0 p1 p2 (s, (ph, la, po, lo, ov, orr, nv, nr, ql, qk, qv, qr, wr, wa, wc, wk), (tph, tla, tpo, tlo, tov, torr, tnv, tnr, tql, tqk, tqv, tqr, twr, twa, twc, twk), HH, oo) = some (r, K_set (s, (ph, la, po, lo, ov, orr, nv, nr, ql, qk, qv, qr, wr, wa, wc, wk), (tph, tla, tpo, tlo, tov, torr, tnv, tnr, tql, tqk, tqv, tqr, twr, twa, twc, twk), HH, oo) r u) := by
  unfold K_writeNew fX5_writeNew
  dsimp only
  rw [C_newTrial, z_bs]
  dsimp only
  rw [e, z_bs, z_bs]
theorem KL_remove {p0 : Int32} {r : Int32} {u : zT} (e : fX4_takeAway p0 ph la po lo (va_cpy ov tov 0 0 31) (va_cpy orr torr 0 0 31) (va_cpy nv tnv 0 0 31) (va_cpy nr tnr 0 0 31) ql (va_cpy qk tqk 0 0 8) (va_cpy qv tqv 0 0 8) (va_cpy qr tqr 0 0 8) (va_cpy wr twr 0 0 31) wa (va_cpy wc twc 0 0 3) (va_cpy wk twk 0 0 3) = some (r, u)) : K_remove p0 (s, (ph, la, po, lo, ov, orr, nv, nr, ql, qk, qv, qr, wr, wa, wc, wk), (tph, tla, tpo, tlo, tov, torr, tnv, tnr, tql, tqk, tqv, tqr, twr, twa, twc, twk), HH, oo) = some (r, K_set (s, (ph, la, po, lo, ov, orr, nv, nr, ql, qk, qv, qr, wr, wa, wc, wk), (tph, tla, tpo, tlo, tov, torr, tnv, tnr, tql, tqk, tqv, tqr, twr, twa, twc, twk), HH, oo) r u) := by
  unfold K_remove fX5_remove
  dsimp only
  rw [C_newTrial, z_bs]
  dsimp only
  rw [e, z_bs, z_bs]
theorem KL_drain {p0 : Int32} {r : Int32} {u : zT} (e : fX4_drainQueue p0 ph la po lo (va_cpy ov tov 0 0 31) (va_cpy orr torr 0 0 31) (va_cpy nv tnv 0 0 31) (va_cpy nr tnr 0 0 31) ql (va_cpy qk tqk 0 0 8) (va_cpy qv tqv 0 0 8) (va_cpy qr tqr 0 0 8) (va_cpy wr twr 0 0 31) wa (va_cpy wc twc 0 0 3) (va_cpy wk twk 0 0 3) = some (r, u)) : K_drain p0 (s, (ph, la, po, lo, ov, orr, nv, nr, ql, qk, qv, qr, wr, wa, wc, wk), (tph, tla, tpo, tlo, tov, torr, tnv, tnr, tql, tqk, tqv, tqr, twr, twa, twc, twk), HH, oo) = some (r, K_set (s, (ph, la, po, lo, ov, orr, nv, nr, ql, qk, qv, qr, wr, wa, wc, wk), (tph, tla, tpo, tlo, tov, torr, tnv, tnr, tql, tqk, tqv, tqr, twr, twa, twc, twk), HH, oo) r u) := by
  unfold K_drain fX5_drain
  dsimp only
  rw [C_newTrial, z_bs]
  dsimp only
  rw [e, z_bs, z_bs]
theorem KL_backfill {p0 : Int32} {r : Int32} {u : zT} (e : fX4_fillKeys p0 ph la po lo (va_cpy ov tov 0 0 31) (va_cpy orr torr 0 0 31) (va_cpy nv tnv 0 0 31) (va_cpy nr tnr 0 0 31) ql (va_cpy qk tqk 0 0 8) (va_cpy qv tqv 0 0 8) (va_cpy qr tqr 0 0 8) (va_cpy wr twr 0 0 31) wa (va_cpy wc twc 0 0 3) (va_cpy wk twk 0 0 3) = some (r, u)) : K_backfill p0 (s, (ph, la, po, lo, ov, orr, nv, nr, ql, qk, qv, qr, wr, wa, wc, wk), (tph, tla, tpo, tlo, tov, torr, tnv, tnr, tql, tqk, tqv, tqr, twr, twa, twc, twk), HH, oo) = some (r, K_set (s, (ph, la, po, lo, ov, orr, nv, nr, ql, qk, qv, qr, wr, wa, wc, wk), (tph, tla, tpo, tlo, tov, torr, tnv, tnr, tql, tqk, tqv, tqr, twr, twa, twc, twk), HH, oo) r u) := by
  unfold K_backfill fX5_backfill
  dsimp only
  rw [C_newTrial, z_bs]
  dsimp only
  rw [e, z_bs, z_bs]
theorem KL_crash {r : Int32} {u : zT} (e : fX4_loseQueue ph la po lo (va_cpy ov tov 0 0 31) (va_cpy orr torr 0 0 31) (va_cpy nv tnv 0 0 31) (va_cpy nr tnr 0 0 31) ql (va_cpy qk tqk 0 0 8) (va_cpy qv tqv 0 0 8) (va_cpy qr tqr 0 0 8) (va_cpy wr twr 0 0 31) wa (va_cpy wc twc 0 0 3) (va_cpy wk twk 0 0 3) = some (r, u)) : K_crash (s, (ph, la, po, lo, ov, orr, nv, nr, ql, qk, qv, qr, wr, wa, wc, wk), (tph, tla, tpo, tlo, tov, torr, tnv, tnr, tql, tqk, tqv, tqr, twr, twa, twc, twk), HH, oo) = some (r, K_set (s, (ph, la, po, lo, ov, orr, nv, nr, ql, qk, qv, qr, wr, wa, wc, wk), (tph, tla, tpo, tlo, tov, torr, tnv, tnr, tql, tqk, tqv, tqr, twr, twa, twc, twk), HH, oo) r u) := by
  unfold K_crash fX5_crash
  dsimp only
  rw [C_newTrial, z_bs]
  dsimp only
  rw [e, z_bs, z_bs]
theorem KL_mend {p0 : Int32} {r : Int32} {u : zT} (e : fX4_mendKey p0 ph la po lo (va_cpy ov tov 0 0 31) (va_cpy orr torr 0 0 31) (va_cpy nv tnv 0 0 31) (va_cpy nr tnr 0 0 31) ql (va_cpy qk tqk 0 0 8) (va_cpy qv tqv 0 0 8) (va_cpy qr tqr 0 0 8) (va_cpy wr twr 0 0 31) wa (va_cpy wc twc 0 0 3) (va_cpy wk twk 0 0 3) = some (r, u)) : K_mend p0 (s, (ph, la, po, lo, ov, orr, nv, nr, ql, qk, qv, qr, wr, wa, wc, wk), (tph, tla, tpo, tlo, tov, torr, tnv, tnr, tql, tqk, tqv, tqr, twr, twa, twc, twk), HH, oo) = some (r, K_set (s, (ph, la, po, lo, ov, orr, nv, nr, ql, qk, qv, qr, wr, wa, wc, wk), (tph, tla, tpo, tlo, tov, torr, tnv, tnr, tql, tqk, tqv, tqr, twr, twa, twc, twk), HH, oo) r u) := by
  unfold K_mend fX5_mend
  dsimp only
  rw [C_newTrial, z_bs]
  dsimp only
  rw [e, z_bs, z_bs]
theorem KL_walk {p0 p1 : Int32} {r : Int32} {u : zT} (e : fX4_startWalk p0 p1 ph la po lo (va_cpy ov tov 0 0 31) (va_cpy orr torr 0 0 31) (va_cpy nv tnv 0 0 31) (va_cpy nr tnr 0 0 31) ql (va_cpy qk tqk 0 0 8) (va_cpy qv tqv 0 0 8) (va_cpy qr tqr 0 0 8) (va_cpy wr twr 0 0 31) wa (va_cpy wc twc 0 0 3) (va_cpy wk twk 0 0 3) = some (r, u)) : K_walk p0 p1 (s, (ph, la, po, lo, ov, orr, nv, nr, ql, qk, qv, qr, wr, wa, wc, wk), (tph, tla, tpo, tlo, tov, torr, tnv, tnr, tql, tqk, tqv, tqr, twr, twa, twc, twk), HH, oo) = some (r, K_set (s, (ph, la, po, lo, ov, orr, nv, nr, ql, qk, qv, qr, wr, wa, wc, wk), (tph, tla, tpo, tlo, tov, torr, tnv, tnr, tql, tqk, tqv, tqr, twr, twa, twc, twk), HH, oo) r u) := by
  unfold K_walk fX5_walk
  dsimp only
  rw [C_newTrial, z_bs]
  dsimp only
  rw [e, z_bs, z_bs]
theorem KL_step {p0 : Int32} {r : Int32} {u : zT} (e : fX4_goOn p0 ph la po lo (va_cpy ov tov 0 0 31) (va_cpy orr torr 0 0 31) (va_cpy nv tnv 0 0 31) (va_cpy nr tnr 0 0 31) ql (va_cpy qk tqk 0 0 8) (va_cpy qv tqv 0 0 8) (va_cpy qr tqr 0 0 8) (va_cpy wr twr 0 0 31) wa (va_cpy wc twc 0 0 3) (va_cpy wk twk 0 0 3) = some (r, u)) : K_step p0 (s, (ph, la, po, lo, ov, orr, nv, nr, ql, qk, qv, qr, wr, wa, wc, wk), (tph, tla, tpo, tlo, tov, torr, tnv, tnr, tql, tqk, tqv, tqr, twr, twa, twc, twk), HH, oo) = some (r, K_set (s, (ph, la, po, lo, ov, orr, nv, nr, ql, qk, qv, qr, wr, wa, wc, wk), (tph, tla, tpo, tlo, tov, torr, tnv, tnr, tql, tqk, tqv, tqr, twr, twa, twc, twk), HH, oo) r u) := by
  unfold K_step fX5_step
  dsimp only
  rw [C_newTrial, z_bs]
  dsimp only
  rw [e, z_bs, z_bs]
end KC
/-- a refused change leaves the table -/
theorem Sv_err {S : zS} {p l x : Nat} {lo : Int32} {ov orr nv nr : Nat → Int32} {q : Nat} {qk qv qr wr : Nat → Int32} {wa : Int32} {wc wk : Nat → Int32} (V : Sv S p l x lo ov orr nv nr q qk qv qr wr wa wc wk) {r : Int32} {u : zT} (hr : r < 0) : Sv (K_set S r u) p l x lo ov orr nv nr q qk qv qr wr wa wc wk := by
  obtain ⟨hs, h1, h2⟩ := V
  refine ⟨K_set_le hs r u, ?_, h2⟩
  rw [show K_set S r u = (S.1, S.2.1, u, S.2.2.2.1, S.2.2.2.2) from if_pos hr]
  exact h1
theorem Sv_ok {S : zS} (hs : S.1 ≤ 4) {p l x : Nat} {lo : Int32} {ov orr nv nr : Nat → Int32} {q : Nat} {qk qv qr wr : Nat → Int32} {wa : Int32} {wc wk : Nat → Int32} {r : Int32} (hr : ¬ r < 0) (R : IT p l x ov orr nv nr q qk qv qr wa) : Sv (K_set S r (nI p, nI l, nI x, lo, ov, orr, nv, nr, nI q, qk, qv, qr, wr, wa, wc, wk)) p l x lo ov orr nv nr q qk qv qr wr wa wc wk := by
  refine ⟨K_set_le hs r _, ?_, R⟩
  unfold K_set
  rw [if_neg hr]
  split <;> rfl
theorem z_e2 : (-1000002 : Int32) < 0 := by decide
theorem z_e3 : (-1000003 : Int32) < 0 := by decide
theorem z_ok {n : Nat} (h : n < 2 ^ 31) : ¬ nI n < 0 := nI_pos h
theorem zbn_congr {P Q : Nat → Bool} : ∀ {n : Nat}, (∀ k, k < n → P k = Q k) → zbn P n = zbn Q n := by
  intro n
  induction n with
  | zero => intro _; rfl
  | succ n ih =>
    intro h
    unfold zbn
    rw [ih (fun k hk => h k (by omega)), h n (by omega)]
section KV
variable {S : zS} {p l x : Nat} {lo : Int32} {ov orr nv nr : Nat → Int32} {q : Nat} {qk qv qr wr : Nat → Int32} {wa : Int32} {wc wk : Nat → Int32}
/-- what a write leaves: refused for a full queue; or done -/
def PutK (S' : zS) (r : Int32) (k : Nat) (w : Int32) (p l x : Nat) (lo : Int32) (ov orr nv nr : Nat → Int32) (q : Nat) (qk qv qr wr : Nat → Int32) (wa : Int32) (wc wk : Nat → Int32) : Prop :=
  (r = -1000003 ∧ ((p = 1 ∨ p = 2) ∧ q = 8) ∧ Sv S' p l x lo ov orr nv nr q qk qv qr wr wa wc wk) ∨ (r = nI (l + 1) ∧ ∃ (ov' orr' nv' nr' : Nat → Int32) (q' : Nat) (qk' qv' qr' wr' : Nat → Int32) (wa' : Int32) (wc' wk' : Nat → Int32), Sv S' p (l + 1) x lo ov' orr' nv' nr' q' qk' qv' qr' wr' wa' wc' wk' ∧ PutP p q k w orr' nv' nr' q' qk' qr')
theorem PutK_of {k : Nat} {w : Int32} {op : zT → Option (Int32 × zT)} {s : Nat} {HH : Nat → zT} {oo : zO} {tt : zT} {K : Option (Int32 × zS)} (V : Sv (s, (nI p, nI l, nI x, lo, ov, orr, nv, nr, nI q, qk, qv, qr, wr, wa, wc, wk), tt, HH, oo) p l x lo ov orr nv nr q qk qv qr wr wa wc wk) (hl : l < 1000) {oC : Option (Int32 × zT)} {t0 : zT}
    (h : (((p = 1 ∨ p = 2) ∧ q = 8) ∧ oC = some (-1000003, t0)) ∨ zRes oC (fun r' p' l' x' lo' ov' orr' nv' nr' q' qk' qv' qr' _ wa' _ _ => r' = nI (l + 1) ∧ p' = p ∧ l' = l + 1 ∧ x' = x ∧ lo' = lo ∧ IT p' l' x' ov' orr' nv' nr' q' qk' qv' qr' wa' ∧ PutP p q k w orr' nv' nr' q' qk' qr'))
    (hK : ∀ r u, oC = some (r, u) → K = some (r, K_set (s, (nI p, nI l, nI x, lo, ov, orr, nv, nr, nI q, qk, qv, qr, wr, wa, wc, wk), tt, HH, oo) r u)) : ∃ r S', K = some (r, S') ∧ PutK S' r k w p l x lo ov orr nv nr q qk qv qr wr wa wc wk := by
  rcases h with ⟨h1, h2⟩ | ⟨r, p', l', x', lo', ov', orr', nv', nr', q', qk', qv', qr', wr', wa', wc', wk', e, e1, rfl, rfl, rfl, rfl, hI, hP⟩
  · exact ⟨_, _, hK _ _ h2, Or.inl ⟨rfl, h1, Sv_err V z_e3⟩⟩
  · refine ⟨_, _, hK _ _ e, Or.inr ⟨e1, ov', orr', nv', nr', q', qk', qv', qr', wr', wa', wc', wk', Sv_ok V.1 ?_ hI, hP⟩⟩
    rw [e1]
    exact z_ok (by omega)
theorem L_writeOld (V : Sv S p l x lo ov orr nv nr q qk qv qr wr wa wc wk) {k a b c : Nat} (hk : k < 31) (ha : a < 100) (hb : b < 10) (hc : c < 2) (hl : l < 1000) : ∃ r S', K_writeOld (nI k) (nI a) (nI b) (nI c) S = some (r, S') ∧ PutK S' r k (nI (4 * (10 * a + b) + c)) p l x lo ov orr nv nr q qk qv qr wr wa wc wk := by
  obtain ⟨s, nt, ⟨tph, tla, tpo, tlo, tov, torr, tnv, tnr, tql, tqk, tqv, tqr, twr, twa, twc, twk⟩, HH, oo⟩ := S
  have V0 := V
  obtain ⟨hs, rfl, R⟩ := V
  have Rc := IT_cpy (tov := tov) (torr := torr) (tnv := tnv) (tnr := tnr) (tqk := tqk) (tqv := tqv) (tqr := tqr) R
  exact PutK_of (op := fun _ => none) V0 hl (T_put (r := nI (4 * (10 * a + b) + c)) (lo := lo) (wr := va_cpy wr twr 0 0 31) (wc := va_cpy wc twc 0 0 3) (wk := va_cpy wk twk 0 0 3) Rc hk (Or.inr ⟨_, by omega, rfl⟩) hl) (fun r u e => KL_writeOld (by rw [T_putOld hk ha hb hc]; exact e))
theorem L_writeNew (V : Sv S p l x lo ov orr nv nr q qk qv qr wr wa wc wk) {k u v : Nat} (hk : k < 31) (hu : u < 1000) (hv : v < 4) (hl : l < 1000) : ∃ r S', K_writeNew (nI k) (nI u) (nI v) S = some (r, S') ∧ PutK S' r k (nI (4 * u + v)) p l x lo ov orr nv nr q qk qv qr wr wa wc wk := by
  obtain ⟨s, nt, ⟨tph, tla, tpo, tlo, tov, torr, tnv, tnr, tql, tqk, tqv, tqr, twr, twa, twc, twk⟩, HH, oo⟩ := S
  have V0 := V
  obtain ⟨hs, rfl, R⟩ := V
  have Rc := IT_cpy (tov := tov) (torr := torr) (tnv := tnv) (tnr := tnr) (tqk := tqk) (tqv := tqv) (tqr := tqr) R
  exact PutK_of (op := fun _ => none) V0 hl (T_put (r := nI (4 * u + v)) (lo := lo) (wr := va_cpy wr twr 0 0 31) (wc := va_cpy wc twc 0 0 3) (wk := va_cpy wk twk 0 0 3) Rc hk (Or.inr ⟨_, by omega, rfl⟩) hl) (fun r u e => KL_writeNew (by rw [T_putNew hk hu hv]; exact e))
theorem L_remove (V : Sv S p l x lo ov orr nv nr q qk qv qr wr wa wc wk) {k : Nat} (hk : k < 31) (hl : l < 1000) : ∃ r S', K_remove (nI k) S = some (r, S') ∧ ((r = -1000002 ∧ Sv S' p l x lo ov orr nv nr q qk qv qr wr wa wc wk) ∨ PutK S' r k zN p l x lo ov orr nv nr q qk qv qr wr wa wc wk) := by
  obtain ⟨s, nt, ⟨tph, tla, tpo, tlo, tov, torr, tnv, tnr, tql, tqk, tqv, tqr, twr, twa, twc, twk⟩, HH, oo⟩ := S
  have V0 := V
  obtain ⟨hs, rfl, R⟩ := V
  have Rc := IT_cpy (tov := tov) (torr := torr) (tnv := tnv) (tnr := tnr) (tqk := tqk) (tqv := tqv) (tqr := tqr) R
  rcases T_takeAway (l := l) (x := x) (q := q) (lo := lo) (ov := va_cpy ov tov 0 0 31) (orr := va_cpy orr torr 0 0 31) (nv := va_cpy nv tnv 0 0 31) (nr := va_cpy nr tnr 0 0 31) (qk := va_cpy qk tqk 0 0 8) (qv := va_cpy qv tqv 0 0 8) (qr := va_cpy qr tqr 0 0 8) (wr := va_cpy wr twr 0 0 31) (wa := wa) (wc := va_cpy wc twc 0 0 3) (wk := va_cpy wk twk 0 0 3) R.1.1 hk with h | h
  · exact ⟨_, _, KL_remove h, Or.inl ⟨rfl, Sv_err V0 z_e2⟩⟩
  · obtain ⟨r, S', e, hP⟩ := PutK_of (op := fun _ => none) V0 hl (T_put (r := zN) (lo := lo) (wr := va_cpy wr twr 0 0 31) (wc := va_cpy wc twc 0 0 3) (wk := va_cpy wk twk 0 0 3) Rc hk (Or.inl rfl) hl) (fun r u e => KL_remove (by rw [h]; exact e))
    exact ⟨r, S', e, Or.inr hP⟩
theorem L_begin (V : Sv S p l x lo ov orr nv nr q qk qv qr wr wa wc wk) : ∃ r S', K_begin S = some (r, S') ∧ ((r = -1000002 ∧ ¬ p = 0 ∧ Sv S' p l x lo ov orr nv nr q qk qv qr wr wa wc wk) ∨ (p = 0 ∧ ∃ (ov' orr' nv' nr' : Nat → Int32) (qk' qv' qr' wr' : Nat → Int32) (wa' : Int32) (wc' wk' : Nat → Int32), r = nI (z_cnt (zP orr') 31) ∧ Sv S' 1 l 0 lo ov' orr' nv' nr' q qk' qv' qr' wr' wa' wc' wk' ∧ z_cnt (zkn nv') 31 = 0)) := by
  obtain ⟨s, nt, ⟨tph, tla, tpo, tlo, tov, torr, tnv, tnr, tql, tqk, tqv, tqr, twr, twa, twc, twk⟩, HH, oo⟩ := S
  have V0 := V
  obtain ⟨hs, rfl, R⟩ := V
  have Rc := IT_cpy (tov := tov) (torr := torr) (tnv := tnv) (tnr := tnr) (tqk := tqk) (tqv := tqv) (tqr := tqr) R
  rcases T_startChange (lo := lo) (wr := va_cpy wr twr 0 0 31) (wc := va_cpy wc twc 0 0 3) (wk := va_cpy wk twk 0 0 3) Rc with ⟨h1, h2⟩ | ⟨h1, h2, h3, h4⟩
  · exact ⟨_, _, KL_begin h2, Or.inl ⟨rfl, h1, Sv_err V0 z_e2⟩⟩
  · exact ⟨_, _, KL_begin h2, Or.inr ⟨h1, _, _, _, _, _, _, _, _, _, _, _, rfl, Sv_ok V0.1 (z_ok (by have := z_cnt_le (zP (va_cpy orr torr 0 0 31)) 31; omega)) h3, h4⟩⟩
theorem zdf_cpy {tov torr tnv tnr : Nat → Int32} {k : Nat} (hk : k < 31) : zdf (va_cpy ov tov 0 0 31) (va_cpy orr torr 0 0 31) (va_cpy nv tnv 0 0 31) (va_cpy nr tnr 0 0 31) k = zdf ov orr nv nr k := by
  unfold zdf
  rw [zcpy hk, zcpy hk, zcpy hk, zcpy hk]
theorem L_turn (V : Sv S p l x lo ov orr nv nr q qk qv qr wr wa wc wk) : ∃ r S', K_turn S = some (r, S') ∧ ((r = -1000002 ∧ ¬ (p = 1 ∧ x = 31 ∧ q = 0 ∧ z_bits (zdf ov orr nv nr) 31 = nI 0) ∧ Sv S' p l x lo ov orr nv nr q qk qv qr wr wa wc wk) ∨ ((p = 1 ∧ x = 31 ∧ q = 0 ∧ z_bits (zdf ov orr nv nr) 31 = nI 0) ∧ ∃ (ov' orr' nv' nr' : Nat → Int32) (qk' qv' qr' wr' : Nat → Int32) (wa' : Int32) (wc' wk' : Nat → Int32), r = nI (z_cnt (zP nr') 31) ∧ Sv S' 2 l x lo ov' orr' nv' nr' q qk' qv' qr' wr' wa' wc' wk' ∧ z_bits (zdf ov' orr' nv' nr') 31 = nI 0)) := by
  obtain ⟨s, nt, ⟨tph, tla, tpo, tlo, tov, torr, tnv, tnr, tql, tqk, tqv, tqr, twr, twa, twc, twk⟩, HH, oo⟩ := S
  have V0 := V
  obtain ⟨hs, rfl, R⟩ := V
  have Rc := IT_cpy (tov := tov) (torr := torr) (tnv := tnv) (tnr := tnr) (tqk := tqk) (tqv := tqv) (tqr := tqr) R
  have hb := z_bits_congr (n := 31) (fun k hk => zdf_cpy (ov := ov) (orr := orr) (nv := nv) (nr := nr) (tov := tov) (torr := torr) (tnv := tnv) (tnr := tnr) hk)
  rcases T_turnOver (lo := lo) (wr := va_cpy wr twr 0 0 31) (wc := va_cpy wc twc 0 0 3) (wk := va_cpy wk twk 0 0 3) Rc with ⟨h1, h2⟩ | ⟨h1, h2, h3⟩
  · rw [hb] at h1
    exact ⟨_, _, KL_turn h2, Or.inl ⟨rfl, h1, Sv_err V0 z_e2⟩⟩
  · have h4 := h1.2.2.2
    rw [hb] at h1
    exact ⟨_, _, KL_turn h2, Or.inr ⟨h1, _, _, _, _, _, _, _, _, _, _, _, rfl, Sv_ok V0.1 (z_ok (by have := z_cnt_le (zP (va_cpy nr tnr 0 0 31)) 31; omega)) h3, h4⟩⟩
theorem L_back (V : Sv S p l x lo ov orr nv nr q qk qv qr wr wa wc wk) : ∃ r S', K_back S = some (r, S') ∧ ((r = -1000002 ∧ Sv S' p l x lo ov orr nv nr q qk qv qr wr wa wc wk) ∨ (q = 0 ∧ ∃ (p' x' : Nat) (ov' orr' nv' nr' : Nat → Int32) (qk' qv' qr' wr' : Nat → Int32) (wa' : Int32) (wc' wk' : Nat → Int32), p = p' + 1 ∧ r = nI p' ∧ Sv S' p' l x' lo ov' orr' nv' nr' q qk' qv' qr' wr' wa' wc' wk')) := by
  obtain ⟨s, nt, ⟨tph, tla, tpo, tlo, tov, torr, tnv, tnr, tql, tqk, tqv, tqr, twr, twa, twc, twk⟩, HH, oo⟩ := S
  have V0 := V
  obtain ⟨hs, rfl, R⟩ := V
  have Rc := IT_cpy (tov := tov) (torr := torr) (tnv := tnv) (tnr := tnr) (tqk := tqk) (tqv := tqv) (tqr := tqr) R
  rcases T_turnBack (lo := lo) (wr := va_cpy wr twr 0 0 31) (wc := va_cpy wc twc 0 0 3) (wk := va_cpy wk twk 0 0 3) Rc with h2 | ⟨h1, p', x', nv', nr', h2, h3, h4⟩
  · exact ⟨_, _, KL_back h2, Or.inl ⟨rfl, Sv_err V0 z_e2⟩⟩
  · exact ⟨_, _, KL_back h3, Or.inr ⟨h1, p', x', _, _, _, _, _, _, _, _, _, _, _, h2, rfl, Sv_ok V0.1 (z_ok (by have := R.1.1; omega)) h4⟩⟩
theorem L_drop (V : Sv S p l x lo ov orr nv nr q qk qv qr wr wa wc wk) : ∃ r S', K_drop S = some (r, S') ∧ ((r = -1000002 ∧ Sv S' p l x lo ov orr nv nr q qk qv qr wr wa wc wk) ∨ (p = 2 ∧ r = nI (z_cnt (zst nr) 31) ∧ ∃ (ov' orr' nv' nr' : Nat → Int32) (qk' qv' qr' wr' : Nat → Int32) (wa' : Int32) (wc' wk' : Nat → Int32), Sv S' 3 l x lo ov' orr' nv' nr' q qk' qv' qr' wr' wa' wc' wk' ∧ z_cnt (zP orr') 31 = 0)) := by
  obtain ⟨s, nt, ⟨tph, tla, tpo, tlo, tov, torr, tnv, tnr, tql, tqk, tqv, tqr, twr, twa, twc, twk⟩, HH, oo⟩ := S
  have V0 := V
  obtain ⟨hs, rfl, R⟩ := V
  have Rc := IT_cpy (tov := tov) (torr := torr) (tnv := tnv) (tnr := tnr) (tqk := tqk) (tqv := tqv) (tqr := tqr) R
  have hb := z_cnt_congr (P := zst (va_cpy nr tnr 0 0 31)) (Q := zst nr) (n := 31) (fun k hk => by unfold zst; rw [zcpy hk])
  rcases T_dropOld (lo := lo) (wr := va_cpy wr twr 0 0 31) (wc := va_cpy wc twc 0 0 3) (wk := va_cpy wk twk 0 0 3) Rc with h2 | ⟨h1, ov', orr', h2, h3, h4⟩
  · exact ⟨_, _, KL_drop h2, Or.inl ⟨rfl, Sv_err V0 z_e2⟩⟩
  · rw [hb] at h2
    exact ⟨_, _, KL_drop h2, Or.inr ⟨h1, rfl, _, _, _, _, _, _, _, _, _, _, _, Sv_ok V0.1 (z_ok (by have := z_cnt_le (zst nr) 31; omega)) h3, h4⟩⟩
theorem L_drain (V : Sv S p l x lo ov orr nv nr q qk qv qr wr wa wc wk) {m : Nat} (hm1 : 1 ≤ m) (hm8 : m ≤ 8) : ∃ r S', K_drain (nI m) S = some (r, S') ∧ ((q = 0 ∧ r = -1000002 ∧ Sv S' p l x lo ov orr nv nr q qk qv qr wr wa wc wk) ∨ (¬ q = 0 ∧ r = nI (q - m) ∧ ∃ (ov' orr' nv' nr' : Nat → Int32) (qk' qv' qr' wr' : Nat → Int32) (wa' : Int32) (wc' wk' : Nat → Int32), Sv S' p l x lo ov' orr' nv' nr' (q - m) qk' qv' qr' wr' wa' wc' wk')) := by
  obtain ⟨s, nt, ⟨tph, tla, tpo, tlo, tov, torr, tnv, tnr, tql, tqk, tqv, tqr, twr, twa, twc, twk⟩, HH, oo⟩ := S
  have V0 := V
  obtain ⟨hs, rfl, R⟩ := V
  have Rc := IT_cpy (tov := tov) (torr := torr) (tnv := tnv) (tnr := tnr) (tqk := tqk) (tqv := tqv) (tqr := tqr) R
  rcases T_drain (lo := lo) (wr := va_cpy wr twr 0 0 31) (wc := va_cpy wc twc 0 0 3) (wk := va_cpy wk twk 0 0 3) Rc hm1 hm8 with ⟨h1, h2⟩ | ⟨h1, ov', orr', nv', nr', qk', qv', qr', h2, h3⟩
  · exact ⟨_, _, KL_drain h2, Or.inl ⟨h1, rfl, Sv_err V0 z_e2⟩⟩
  · exact ⟨_, _, KL_drain h2, Or.inr ⟨h1, rfl, _, _, _, _, _, _, _, _, _, _, _, Sv_ok V0.1 (z_ok (by have := R.1.2.1; omega)) h3⟩⟩
theorem L_backfill (V : Sv S p l x lo ov orr nv nr q qk qv qr wr wa wc wk) {m : Nat} (hm1 : 1 ≤ m) (hm8 : m ≤ 31) : ∃ r S', K_backfill (nI m) S = some (r, S') ∧ (((¬ p = 1 ∨ x = 31) ∧ r = -1000002 ∧ Sv S' p l x lo ov orr nv nr q qk qv qr wr wa wc wk) ∨ (p = 1 ∧ ¬ r < 0 ∧ ∃ (ov' orr' nv' nr' : Nat → Int32) (qk' qv' qr' wr' : Nat → Int32) (wa' : Int32) (wc' wk' : Nat → Int32), Sv S' p l (if x + m < 31 then x + m else 31) lo ov' orr' nv' nr' q qk' qv' qr' wr' wa' wc' wk')) := by
  obtain ⟨s, nt, ⟨tph, tla, tpo, tlo, tov, torr, tnv, tnr, tql, tqk, tqv, tqr, twr, twa, twc, twk⟩, HH, oo⟩ := S
  have V0 := V
  obtain ⟨hs, rfl, R⟩ := V
  have Rc := IT_cpy (tov := tov) (torr := torr) (tnv := tnv) (tnr := tnr) (tqk := tqk) (tqv := tqv) (tqr := tqr) R
  rcases T_fill (lo := lo) (wr := va_cpy wr twr 0 0 31) (wc := va_cpy wc twc 0 0 3) (wk := va_cpy wk twk 0 0 3) Rc hm1 hm8 with ⟨h1, h2⟩ | ⟨h1, n, nv', nr', hn, h2, h3⟩
  · exact ⟨_, _, KL_backfill h2, Or.inl ⟨h1, rfl, Sv_err V0 z_e2⟩⟩
  · have hn' : ¬ nI n < 0 := z_ok (by omega)
    exact ⟨_, _, KL_backfill h2, Or.inr ⟨h1, hn', _, _, _, _, _, _, _, _, _, _, _, Sv_ok V0.1 hn' h3⟩⟩
theorem L_crash (V : Sv S p l x lo ov orr nv nr q qk qv qr wr wa wc wk) : ∃ r S', K_crash S = some (r, S') ∧ ((q = 0 ∧ r = -1000002 ∧ Sv S' p l x lo ov orr nv nr q qk qv qr wr wa wc wk) ∨ (¬ q = 0 ∧ r = nI q ∧ ∃ (ov' orr' nv' nr' : Nat → Int32) (qk' qv' qr' wr' : Nat → Int32) (wa' : Int32) (wc' wk' : Nat → Int32), Sv S' p l x (lo + nI q) ov' orr' nv' nr' 0 qk' qv' qr' wr' wa' wc' wk')) := by
  obtain ⟨s, nt, ⟨tph, tla, tpo, tlo, tov, torr, tnv, tnr, tql, tqk, tqv, tqr, twr, twa, twc, twk⟩, HH, oo⟩ := S
  have V0 := V
  obtain ⟨hs, rfl, R⟩ := V
  have Rc := IT_cpy (tov := tov) (torr := torr) (tnv := tnv) (tnr := tnr) (tqk := tqk) (tqv := tqv) (tqr := tqr) R
  rcases T_lose (lo := lo) (wr := va_cpy wr twr 0 0 31) (wc := va_cpy wc twc 0 0 3) (wk := va_cpy wk twk 0 0 3) Rc with ⟨h1, h2⟩ | ⟨h1, qk', qv', qr', h2, h3⟩
  · exact ⟨_, _, KL_crash h2, Or.inl ⟨h1, rfl, Sv_err V0 z_e2⟩⟩
  · exact ⟨_, _, KL_crash h2, Or.inr ⟨h1, rfl, _, _, _, _, _, _, _, _, _, _, _, Sv_ok V0.1 (z_ok (by have := R.1.2.1; omega)) h3⟩⟩
theorem L_mend (V : Sv S p l x lo ov orr nv nr q qk qv qr wr wa wc wk) {k : Nat} (hk : k < 31) : ∃ r S', K_mend (nI k) S = some (r, S') ∧ ((r = -1000002 ∧ Sv S' p l x lo ov orr nv nr q qk qv qr wr wa wc wk) ∨ ((p = 1 ∨ p = 2) ∧ r = (if zdf ov orr nv nr k = true then nI 1 else nI 0) ∧ ∃ (ov' orr' nv' nr' : Nat → Int32) (qk' qv' qr' wr' : Nat → Int32) (wa' : Int32) (wc' wk' : Nat → Int32), Sv S' p l x lo ov' orr' nv' nr' q qk' qv' qr' wr' wa' wc' wk' ∧ zdf ov' orr' nv' nr' k = false)) := by
  obtain ⟨s, nt, ⟨tph, tla, tpo, tlo, tov, torr, tnv, tnr, tql, tqk, tqv, tqr, twr, twa, twc, twk⟩, HH, oo⟩ := S
  have V0 := V
  obtain ⟨hs, rfl, R⟩ := V
  have Rc := IT_cpy (tov := tov) (torr := torr) (tnv := tnv) (tnr := tnr) (tqk := tqk) (tqv := tqv) (tqr := tqr) R
  rcases T_mend (lo := lo) (wr := va_cpy wr twr 0 0 31) (wc := va_cpy wc twc 0 0 3) (wk := va_cpy wk twk 0 0 3) Rc hk with h2 | ⟨h1, ov', orr', nv', nr', h2, h3, h4⟩
  · exact ⟨_, _, KL_mend h2, Or.inl ⟨rfl, Sv_err V0 z_e2⟩⟩
  · rw [zdf_cpy hk] at h2
    exact ⟨_, _, KL_mend h2, Or.inr ⟨h1, rfl, _, _, _, _, _, _, _, _, _, _, _, Sv_ok V0.1 (by split <;> decide) h3, h4⟩⟩
theorem L_walk (V : Sv S p l x lo ov orr nv nr q qk qv qr wr wa wc wk) {w c : Nat} (hw : w < 3) (hc : c < 2) : ∃ S', K_walk (nI w) (nI c) S = some (nI (zs (zbn (zkr p q orr nv nr qk qr c) 31) 31), S') ∧ S'.1 = (if S.1 < 4 then S.1 + 1 else 4) ∧ S'.2.2.2.1 (S'.1 - 1) = S.2.1 ∧ ∃ (W : Nat) (ov' orr' nv' nr' : Nat → Int32) (qk' qv' qr' wr' : Nat → Int32) (wa' : Int32) (wc' wk' : Nat → Int32), W < 8 ∧ W.testBit w = true ∧ wa' = nI W ∧ wc' w = nI c ∧ wk' w = zN ∧ Sv S' p l x lo ov' orr' nv' nr' q qk' qv' qr' wr' wa' wc' wk' ∧ ∀ i, i < 31 → zrr p q orr' nv' nr' qk' qr' i c = zrr p q orr nv nr qk qr i c := by
  obtain ⟨s, nt, ⟨tph, tla, tpo, tlo, tov, torr, tnv, tnr, tql, tqk, tqv, tqr, twr, twa, twc, twk⟩, HH, oo⟩ := S
  have V0 := V
  obtain ⟨hs, rfl, R⟩ := V
  have Rc := IT_cpy (tov := tov) (torr := torr) (tnv := tnv) (tnr := tnr) (tqk := tqk) (tqv := tqv) (tqr := tqr) R
  have hz : ∀ i, i < 31 → zrr p q (va_cpy orr torr 0 0 31) (va_cpy nv tnv 0 0 31) (va_cpy nr tnr 0 0 31) (va_cpy qk tqk 0 0 8) (va_cpy qr tqr 0 0 8) i c = zrr p q orr nv nr qk qr i c := fun i hi => zrr_ext R.1.2.1 (zcpy hi) (zcpy hi) (zcpy hi) (fun j hj => ⟨zcpy hj, zcpy hj⟩)
  have hb : zbn (zkr p q (va_cpy orr torr 0 0 31) (va_cpy nv tnv 0 0 31) (va_cpy nr tnr 0 0 31) (va_cpy qk tqk 0 0 8) (va_cpy qr tqr 0 0 8) c) 31 = zbn (zkr p q orr nv nr qk qr c) 31 := zbn_congr (fun k hk => by unfold zkr; rw [hz k hk])
  obtain ⟨W, h1, h2, h3, h4⟩ := T_walk (lo := lo) (wr := va_cpy wr twr 0 0 31) (wc := va_cpy wc twc 0 0 3) (wk := va_cpy wk twk 0 0 3) Rc hw hc
  rw [hb] at h3
  have ho : ¬ nI (zs (zbn (zkr p q orr nv nr qk qr c) 31) 31) < 0 := z_ok (by have := zs_le (zbn (zkr p q orr nv nr qk qr c) 31) 31; omega)
  have hs4 := V0.1
  refine ⟨_, KL_walk h3, ?_, ?_, W, _, _, _, _, _, _, _, _, _, _, _, h1, h2, rfl, z_us, z_us, Sv_ok V0.1 ho h4, hz⟩
  · unfold K_set
    rw [if_neg ho]
    dsimp only
    split <;> rfl
  · unfold K_set
    rw [if_neg ho]
    dsimp only
    split
    · dsimp only
      rw [if_pos (by omega)]
    · dsimp only
      rw [if_pos (by omega)]
theorem L_step (V : Sv S p l x lo ov orr nv nr q qk qv qr wr wa wc wk) {w c W : Nat} (hw : w < 3) (hc : c < 2) (hW : W < 8) (hwa : wa = nI W) (hbit : W.testBit w = true) (ec : wc w = nI c) (ek : wk w = zN) : ∃ (j : Nat) (S' : zS), K_step (nI w) S = some (nI j, S') ∧ j ≤ 31 ∧ (j < 31 → ¬ zrr p q orr nv nr qk qr j c = zN) ∧ ∃ (ov' orr' nv' nr' : Nat → Int32) (qk' qv' qr' wr' : Nat → Int32) (wa' : Int32) (wc' wk' : Nat → Int32), (∀ i, i < j → zrr p q orr' nv' nr' qk' qr' i c = zN) ∧ (∀ i, i < 31 → zrr p q orr' nv' nr' qk' qr' i c = zrr p q orr nv nr qk qr i c) ∧ Sv S' p l x lo ov' orr' nv' nr' q qk' qv' qr' wr' wa' wc' wk' := by
  obtain ⟨s, nt, ⟨tph, tla, tpo, tlo, tov, torr, tnv, tnr, tql, tqk, tqv, tqr, twr, twa, twc, twk⟩, HH, oo⟩ := S
  have V0 := V
  obtain ⟨hs, rfl, R⟩ := V
  have Rc := IT_cpy (tov := tov) (torr := torr) (tnv := tnv) (tnr := tnr) (tqk := tqk) (tqv := tqv) (tqr := tqr) R
  have hz : ∀ i, i < 31 → zrr p q (va_cpy orr torr 0 0 31) (va_cpy nv tnv 0 0 31) (va_cpy nr tnr 0 0 31) (va_cpy qk tqk 0 0 8) (va_cpy qr tqr 0 0 8) i c = zrr p q orr nv nr qk qr i c := fun i hi => zrr_ext R.1.2.1 (zcpy hi) (zcpy hi) (zcpy hi) (fun j hj => ⟨zcpy hj, zcpy hj⟩)
  obtain ⟨j, wa', wk', h1, h2, h3, h4, h5⟩ := T_step (lo := lo) (wr := va_cpy wr twr 0 0 31) (wc := va_cpy wc twc 0 0 3) (wk := va_cpy wk twk 0 0 3) Rc hw hc hW hwa hbit (by rw [zcpy hw]; exact ec) (by rw [zcpy hw]; exact ek)
  exact ⟨j, _, KL_step h4, h1, fun hj => by rw [← hz j hj]; exact h3 hj, _, _, _, _, _, _, _, _, _, _, _, h2, hz, Sv_ok V0.1 (z_ok (by omega)) h5⟩
theorem R_count0 (V : Sv S p l x lo ov orr nv nr q qk qv qr wr wa wc wk) : K_count 0 S = some (nI p) := by
  obtain ⟨hs, e, R⟩ := V
  obtain ⟨⟨hp, hq, hl0, hx, hqp⟩, r0, r1, rq, rw', rp0, rp3⟩ := R
  unfold K_count
  rw [e]
  dsimp only
  unfold fX5_count
  simp (disch := omega) only [gl_0, gl_1, gl_2, gl_3, gl_4, gl_5, gl_6, gl_7, gl_8, gl_9, gl_10, gl_11, gl_12, gl_13, gl_14, gl_15, gl_16, gl_17, gl_18, gl_19, gl_20, gl_21, gl_22, gl_23, gl_24, gl_25, gl_26, gl_27, gl_28, gl_29, gl_30, gl_31, gl_32, gl_44, gl_48, gl_49, gl_57, gl_59, gl_60, gl_63, gl_70, gl_98, gl_99, gl_100, gl_101, gl_107, gl_109, gl_110, gl_111, gl_116, gl_120, gl_126, gl_155, gl_411, gl_999, gl_1000, gl_1233, gl_1644, gl_100000, gl_m1, nI_eq, nI_leI, nI_ltI, nI_add, nI_clamp, pk_mul, pk_sub, z_in, z_gt, z_bs, z_us, z_un, if_pos, if_neg, if_true, if_false, and_true, true_and, and_self, not_true_eq_false, not_false_eq_true, z_bs]
theorem R_count1 (V : Sv S p l x lo ov orr nv nr q qk qv qr wr wa wc wk) : K_count 1 S = some (nI l) := by
  obtain ⟨hs, e, R⟩ := V
  obtain ⟨⟨hp, hq, hl0, hx, hqp⟩, r0, r1, rq, rw', rp0, rp3⟩ := R
  unfold K_count
  rw [e]
  dsimp only
  unfold fX5_count
  simp (disch := omega) only [gl_0, gl_1, gl_2, gl_3, gl_4, gl_5, gl_6, gl_7, gl_8, gl_9, gl_10, gl_11, gl_12, gl_13, gl_14, gl_15, gl_16, gl_17, gl_18, gl_19, gl_20, gl_21, gl_22, gl_23, gl_24, gl_25, gl_26, gl_27, gl_28, gl_29, gl_30, gl_31, gl_32, gl_44, gl_48, gl_49, gl_57, gl_59, gl_60, gl_63, gl_70, gl_98, gl_99, gl_100, gl_101, gl_107, gl_109, gl_110, gl_111, gl_116, gl_120, gl_126, gl_155, gl_411, gl_999, gl_1000, gl_1233, gl_1644, gl_100000, gl_m1, nI_eq, nI_leI, nI_ltI, nI_add, nI_clamp, pk_mul, pk_sub, z_in, z_gt, z_bs, z_us, z_un, if_pos, if_neg, if_true, if_false, and_true, true_and, and_self, not_true_eq_false, not_false_eq_true, z_bs]
theorem R_count3 (V : Sv S p l x lo ov orr nv nr q qk qv qr wr wa wc wk) : K_count 3 S = some (nI q) := by
  obtain ⟨hs, e, R⟩ := V
  obtain ⟨⟨hp, hq, hl0, hx, hqp⟩, r0, r1, rq, rw', rp0, rp3⟩ := R
  unfold K_count
  rw [e]
  dsimp only
  unfold fX5_count
  simp (disch := omega) only [gl_0, gl_1, gl_2, gl_3, gl_4, gl_5, gl_6, gl_7, gl_8, gl_9, gl_10, gl_11, gl_12, gl_13, gl_14, gl_15, gl_16, gl_17, gl_18, gl_19, gl_20, gl_21, gl_22, gl_23, gl_24, gl_25, gl_26, gl_27, gl_28, gl_29, gl_30, gl_31, gl_32, gl_44, gl_48, gl_49, gl_57, gl_59, gl_60, gl_63, gl_70, gl_98, gl_99, gl_100, gl_101, gl_107, gl_109, gl_110, gl_111, gl_116, gl_120, gl_126, gl_155, gl_411, gl_999, gl_1000, gl_1233, gl_1644, gl_100000, gl_m1, nI_eq, nI_leI, nI_ltI, nI_add, nI_clamp, pk_mul, pk_sub, z_in, z_gt, z_bs, z_us, z_un, if_pos, if_neg, if_true, if_false, and_true, true_and, and_self, not_true_eq_false, not_false_eq_true, z_bs]
theorem R_count4 (V : Sv S p l x lo ov orr nv nr q qk qv qr wr wa wc wk) : K_count 4 S = some (nI (z_cnt (zP orr) 31)) := by
  obtain ⟨hs, e, R⟩ := V
  obtain ⟨⟨hp, hq, hl0, hx, hqp⟩, r0, r1, rq, rw', rp0, rp3⟩ := R
  unfold K_count
  rw [e]
  dsimp only
  unfold fX5_count
  simp (disch := omega) only [gl_0, gl_1, gl_2, gl_3, gl_4, gl_5, gl_6, gl_7, gl_8, gl_9, gl_10, gl_11, gl_12, gl_13, gl_14, gl_15, gl_16, gl_17, gl_18, gl_19, gl_20, gl_21, gl_22, gl_23, gl_24, gl_25, gl_26, gl_27, gl_28, gl_29, gl_30, gl_31, gl_32, gl_44, gl_48, gl_49, gl_57, gl_59, gl_60, gl_63, gl_70, gl_98, gl_99, gl_100, gl_101, gl_107, gl_109, gl_110, gl_111, gl_116, gl_120, gl_126, gl_155, gl_411, gl_999, gl_1000, gl_1233, gl_1644, gl_100000, gl_m1, nI_eq, nI_leI, nI_ltI, nI_add, nI_clamp, pk_mul, pk_sub, z_in, z_gt, z_bs, z_us, z_un, if_pos, if_neg, if_true, if_false, and_true, true_and, and_self, not_true_eq_false, not_false_eq_true, C_rows]
theorem R_count5 (V : Sv S p l x lo ov orr nv nr q qk qv qr wr wa wc wk) : K_count 5 S = some (nI (z_cnt (zP nr) 31)) := by
  obtain ⟨hs, e, R⟩ := V
  obtain ⟨⟨hp, hq, hl0, hx, hqp⟩, r0, r1, rq, rw', rp0, rp3⟩ := R
  unfold K_count
  rw [e]
  dsimp only
  unfold fX5_count
  simp (disch := omega) only [gl_0, gl_1, gl_2, gl_3, gl_4, gl_5, gl_6, gl_7, gl_8, gl_9, gl_10, gl_11, gl_12, gl_13, gl_14, gl_15, gl_16, gl_17, gl_18, gl_19, gl_20, gl_21, gl_22, gl_23, gl_24, gl_25, gl_26, gl_27, gl_28, gl_29, gl_30, gl_31, gl_32, gl_44, gl_48, gl_49, gl_57, gl_59, gl_60, gl_63, gl_70, gl_98, gl_99, gl_100, gl_101, gl_107, gl_109, gl_110, gl_111, gl_116, gl_120, gl_126, gl_155, gl_411, gl_999, gl_1000, gl_1233, gl_1644, gl_100000, gl_m1, nI_eq, nI_leI, nI_ltI, nI_add, nI_clamp, pk_mul, pk_sub, z_in, z_gt, z_bs, z_us, z_un, if_pos, if_neg, if_true, if_false, and_true, true_and, and_self, not_true_eq_false, not_false_eq_true, C_rows]
theorem R_count6 (V : Sv S p l x lo ov orr nv nr q qk qv qr wr wa wc wk) : K_count 6 S = some (nI (z_cnt (zst nr) 31)) := by
  obtain ⟨hs, e, R⟩ := V
  obtain ⟨⟨hp, hq, hl0, hx, hqp⟩, r0, r1, rq, rw', rp0, rp3⟩ := R
  unfold K_count
  rw [e]
  dsimp only
  unfold fX5_count
  simp (disch := omega) only [gl_0, gl_1, gl_2, gl_3, gl_4, gl_5, gl_6, gl_7, gl_8, gl_9, gl_10, gl_11, gl_12, gl_13, gl_14, gl_15, gl_16, gl_17, gl_18, gl_19, gl_20, gl_21, gl_22, gl_23, gl_24, gl_25, gl_26, gl_27, gl_28, gl_29, gl_30, gl_31, gl_32, gl_44, gl_48, gl_49, gl_57, gl_59, gl_60, gl_63, gl_70, gl_98, gl_99, gl_100, gl_101, gl_107, gl_109, gl_110, gl_111, gl_116, gl_120, gl_126, gl_155, gl_411, gl_999, gl_1000, gl_1233, gl_1644, gl_100000, gl_m1, nI_eq, nI_leI, nI_ltI, nI_add, nI_clamp, pk_mul, pk_sub, z_in, z_gt, z_bs, z_us, z_un, if_pos, if_neg, if_true, if_false, and_true, true_and, and_self, not_true_eq_false, not_false_eq_true, C_strangeRows]
theorem R_count7 (V : Sv S p l x lo ov orr nv nr q qk qv qr wr wa wc wk) : K_count 7 S = some (nI (z_cnt (zkn nv) 31)) := by
  obtain ⟨hs, e, R⟩ := V
  obtain ⟨⟨hp, hq, hl0, hx, hqp⟩, r0, r1, rq, rw', rp0, rp3⟩ := R
  unfold K_count
  rw [e]
  dsimp only
  unfold fX5_count
  simp (disch := omega) only [gl_0, gl_1, gl_2, gl_3, gl_4, gl_5, gl_6, gl_7, gl_8, gl_9, gl_10, gl_11, gl_12, gl_13, gl_14, gl_15, gl_16, gl_17, gl_18, gl_19, gl_20, gl_21, gl_22, gl_23, gl_24, gl_25, gl_26, gl_27, gl_28, gl_29, gl_30, gl_31, gl_32, gl_44, gl_48, gl_49, gl_57, gl_59, gl_60, gl_63, gl_70, gl_98, gl_99, gl_100, gl_101, gl_107, gl_109, gl_110, gl_111, gl_116, gl_120, gl_126, gl_155, gl_411, gl_999, gl_1000, gl_1233, gl_1644, gl_100000, gl_m1, nI_eq, nI_leI, nI_ltI, nI_add, nI_clamp, pk_mul, pk_sub, z_in, z_gt, z_bs, z_us, z_un, if_pos, if_neg, if_true, if_false, and_true, true_and, and_self, not_true_eq_false, not_false_eq_true, C_known]
theorem R_count9 (V : Sv S p l x lo ov orr nv nr q qk qv qr wr wa wc wk) : K_count 9 S = some (lo) := by
  obtain ⟨hs, e, R⟩ := V
  obtain ⟨⟨hp, hq, hl0, hx, hqp⟩, r0, r1, rq, rw', rp0, rp3⟩ := R
  unfold K_count
  rw [e]
  dsimp only
  unfold fX5_count
  simp (disch := omega) only [gl_0, gl_1, gl_2, gl_3, gl_4, gl_5, gl_6, gl_7, gl_8, gl_9, gl_10, gl_11, gl_12, gl_13, gl_14, gl_15, gl_16, gl_17, gl_18, gl_19, gl_20, gl_21, gl_22, gl_23, gl_24, gl_25, gl_26, gl_27, gl_28, gl_29, gl_30, gl_31, gl_32, gl_44, gl_48, gl_49, gl_57, gl_59, gl_60, gl_63, gl_70, gl_98, gl_99, gl_100, gl_101, gl_107, gl_109, gl_110, gl_111, gl_116, gl_120, gl_126, gl_155, gl_411, gl_999, gl_1000, gl_1233, gl_1644, gl_100000, gl_m1, nI_eq, nI_leI, nI_ltI, nI_add, nI_clamp, pk_mul, pk_sub, z_in, z_gt, z_bs, z_us, z_un, if_pos, if_neg, if_true, if_false, and_true, true_and, and_self, not_true_eq_false, not_false_eq_true, z_bs]
theorem R_count2 (V : Sv S p l x lo ov orr nv nr q qk qv qr wr wa wc wk) : K_count 2 S = some (if p = 1 then nI x else -1000004) := by
  obtain ⟨hs, e, R⟩ := V
  obtain ⟨⟨hp, hq, hl0, hx, hqp⟩, r0, r1, rq, rw', rp0, rp3⟩ := R
  unfold K_count
  rw [e]
  dsimp only
  unfold fX5_count
  by_cases h : p = 1
  · simp (disch := omega) only [gl_0, gl_1, gl_2, gl_3, gl_4, gl_5, gl_6, gl_7, gl_8, gl_9, gl_10, gl_11, gl_12, gl_13, gl_14, gl_15, gl_16, gl_17, gl_18, gl_19, gl_20, gl_21, gl_22, gl_23, gl_24, gl_25, gl_26, gl_27, gl_28, gl_29, gl_30, gl_31, gl_32, gl_44, gl_48, gl_49, gl_57, gl_59, gl_60, gl_63, gl_70, gl_98, gl_99, gl_100, gl_101, gl_107, gl_109, gl_110, gl_111, gl_116, gl_120, gl_126, gl_155, gl_411, gl_999, gl_1000, gl_1233, gl_1644, gl_100000, gl_m1, nI_eq, nI_leI, nI_ltI, nI_add, nI_clamp, pk_mul, pk_sub, z_in, z_gt, z_bs, z_us, z_un, if_pos, if_neg, if_true, if_false, and_true, true_and, and_self, not_true_eq_false, not_false_eq_true, h]
  · simp (disch := omega) only [gl_0, gl_1, gl_2, gl_3, gl_4, gl_5, gl_6, gl_7, gl_8, gl_9, gl_10, gl_11, gl_12, gl_13, gl_14, gl_15, gl_16, gl_17, gl_18, gl_19, gl_20, gl_21, gl_22, gl_23, gl_24, gl_25, gl_26, gl_27, gl_28, gl_29, gl_30, gl_31, gl_32, gl_44, gl_48, gl_49, gl_57, gl_59, gl_60, gl_63, gl_70, gl_98, gl_99, gl_100, gl_101, gl_107, gl_109, gl_110, gl_111, gl_116, gl_120, gl_126, gl_155, gl_411, gl_999, gl_1000, gl_1233, gl_1644, gl_100000, gl_m1, nI_eq, nI_leI, nI_ltI, nI_add, nI_clamp, pk_mul, pk_sub, z_in, z_gt, z_bs, z_us, z_un, if_pos, if_neg, if_true, if_false, and_true, true_and, and_self, not_true_eq_false, not_false_eq_true, h]
theorem R_count8 (V : Sv S p l x lo ov orr nv nr q qk qv qr wr wa wc wk) : K_count 8 S = some (if p = 1 ∧ x = 31 ∧ q = 0 ∧ z_bits (zdf ov orr nv nr) 31 = nI 0 then nI 1 else nI 0) := by
  obtain ⟨hs, e, R⟩ := V
  obtain ⟨⟨hp, hq, hl0, hx, hqp⟩, r0, r1, rq, rw', rp0, rp3⟩ := R
  unfold K_count
  rw [e]
  dsimp only
  unfold fX5_count
  rw [C_isReady hp hq hx, z_bs]
  by_cases h : p = 1 ∧ x = 31 ∧ q = 0 ∧ z_bits (zdf ov orr nv nr) 31 = nI 0
  · rw [if_pos h]
    simp (disch := omega) only [gl_0, gl_1, gl_2, gl_3, gl_4, gl_5, gl_6, gl_7, gl_8, gl_9, gl_10, gl_11, gl_12, gl_13, gl_14, gl_15, gl_16, gl_17, gl_18, gl_19, gl_20, gl_21, gl_22, gl_23, gl_24, gl_25, gl_26, gl_27, gl_28, gl_29, gl_30, gl_31, gl_32, gl_44, gl_48, gl_49, gl_57, gl_59, gl_60, gl_63, gl_70, gl_98, gl_99, gl_100, gl_101, gl_107, gl_109, gl_110, gl_111, gl_116, gl_120, gl_126, gl_155, gl_411, gl_999, gl_1000, gl_1233, gl_1644, gl_100000, gl_m1, nI_eq, nI_leI, nI_ltI, nI_add, nI_clamp, pk_mul, pk_sub, z_in, z_gt, z_bs, z_us, z_un, if_pos, if_neg, if_true, if_false, and_true, true_and, and_self, not_true_eq_false, not_false_eq_true]
  · rw [if_neg h]
    simp (disch := omega) only [gl_0, gl_1, gl_2, gl_3, gl_4, gl_5, gl_6, gl_7, gl_8, gl_9, gl_10, gl_11, gl_12, gl_13, gl_14, gl_15, gl_16, gl_17, gl_18, gl_19, gl_20, gl_21, gl_22, gl_23, gl_24, gl_25, gl_26, gl_27, gl_28, gl_29, gl_30, gl_31, gl_32, gl_44, gl_48, gl_49, gl_57, gl_59, gl_60, gl_63, gl_70, gl_98, gl_99, gl_100, gl_101, gl_107, gl_109, gl_110, gl_111, gl_116, gl_120, gl_126, gl_155, gl_411, gl_999, gl_1000, gl_1233, gl_1644, gl_100000, gl_m1, nI_eq, nI_leI, nI_ltI, nI_add, nI_clamp, pk_mul, pk_sub, z_in, z_gt, z_bs, z_us, z_un, if_pos, if_neg, if_true, if_false, and_true, true_and, and_self, not_true_eq_false, not_false_eq_true]
theorem R_check (V : Sv S p l x lo ov orr nv nr q qk qv qr wr wa wc wk) : K_check S = some (if p = 1 ∨ p = 2 then z_bits (zdf ov orr nv nr) 31 else -1000002) := by
  obtain ⟨hs, e, R⟩ := V
  obtain ⟨⟨hp, hq, hl0, hx, hqp⟩, r0, r1, rq, rw', rp0, rp3⟩ := R
  unfold K_check
  rw [e]
  dsimp only
  unfold fX5_check
  rw [C_hasBoth hp, z_bs]
  by_cases h : p = 1 ∨ p = 2
  · rw [if_pos h, if_pos h]
    simp (disch := omega) only [gl_0, gl_1, gl_2, gl_3, gl_4, gl_5, gl_6, gl_7, gl_8, gl_9, gl_10, gl_11, gl_12, gl_13, gl_14, gl_15, gl_16, gl_17, gl_18, gl_19, gl_20, gl_21, gl_22, gl_23, gl_24, gl_25, gl_26, gl_27, gl_28, gl_29, gl_30, gl_31, gl_32, gl_44, gl_48, gl_49, gl_57, gl_59, gl_60, gl_63, gl_70, gl_98, gl_99, gl_100, gl_101, gl_107, gl_109, gl_110, gl_111, gl_116, gl_120, gl_126, gl_155, gl_411, gl_999, gl_1000, gl_1233, gl_1644, gl_100000, gl_m1, nI_eq, nI_leI, nI_ltI, nI_add, nI_clamp, pk_mul, pk_sub, z_in, z_gt, z_bs, z_us, z_un, if_pos, if_neg, if_true, if_false, and_true, true_and, and_self, not_true_eq_false, not_false_eq_true, C_differing]
  · rw [if_neg h, if_neg h]
    simp (disch := omega) only [gl_0, gl_1, gl_2, gl_3, gl_4, gl_5, gl_6, gl_7, gl_8, gl_9, gl_10, gl_11, gl_12, gl_13, gl_14, gl_15, gl_16, gl_17, gl_18, gl_19, gl_20, gl_21, gl_22, gl_23, gl_24, gl_25, gl_26, gl_27, gl_28, gl_29, gl_30, gl_31, gl_32, gl_44, gl_48, gl_49, gl_57, gl_59, gl_60, gl_63, gl_70, gl_98, gl_99, gl_100, gl_101, gl_107, gl_109, gl_110, gl_111, gl_116, gl_120, gl_126, gl_155, gl_411, gl_999, gl_1000, gl_1233, gl_1644, gl_100000, gl_m1, nI_eq, nI_leI, nI_ltI, nI_add, nI_clamp, pk_mul, pk_sub, z_in, z_gt, z_bs, z_us, z_un, if_pos, if_neg, if_true, if_false, and_true, true_and, and_self, not_true_eq_false, not_false_eq_true]
theorem R_quarrel (V : Sv S p l x lo ov orr nv nr q qk qv qr wr wa wc wk) : K_quarrel S = some (z_bits (zqu p q orr nv nr qk qr) 31) := by
  obtain ⟨hs, e, R⟩ := V
  obtain ⟨⟨hp, hq, hl0, hx, hqp⟩, r0, r1, rq, rw', rp0, rp3⟩ := R
  unfold K_quarrel
  rw [e]
  dsimp only
  unfold fX5_quarrel
  rw [C_quarrelling hp hq, z_bs]
theorem R_keys (V : Sv S p l x lo ov orr nv nr q qk qv qr wr wa wc wk) {c : Nat} (hc : c < 2) : K_keys (nI c) S = some (z_bits (zkr p q orr nv nr qk qr c) 31) := by
  obtain ⟨hs, e, R⟩ := V
  obtain ⟨⟨hp, hq, hl0, hx, hqp⟩, r0, r1, rq, rw', rp0, rp3⟩ := R
  unfold K_keys
  rw [e]
  dsimp only
  unfold fX5_keys
  simp (disch := omega) only [gl_0, gl_1, gl_2, gl_3, gl_4, gl_5, gl_6, gl_7, gl_8, gl_9, gl_10, gl_11, gl_12, gl_13, gl_14, gl_15, gl_16, gl_17, gl_18, gl_19, gl_20, gl_21, gl_22, gl_23, gl_24, gl_25, gl_26, gl_27, gl_28, gl_29, gl_30, gl_31, gl_32, gl_44, gl_48, gl_49, gl_57, gl_59, gl_60, gl_63, gl_70, gl_98, gl_99, gl_100, gl_101, gl_107, gl_109, gl_110, gl_111, gl_116, gl_120, gl_126, gl_155, gl_411, gl_999, gl_1000, gl_1233, gl_1644, gl_100000, gl_m1, nI_eq, nI_leI, nI_ltI, nI_add, nI_clamp, pk_mul, pk_sub, z_in, z_gt, z_bs, z_us, z_un, if_pos, if_neg, if_true, if_false, and_true, true_and, and_self, not_true_eq_false, not_false_eq_true, C_isBelow_nI, C_keysRead hp hq hc]
/-- a number of a row, read in a costume -/
def znu (r : Int32) (s w : Nat) : Int32 := if s = 1 then (if w = 0 then r / nI 4 else r - r / nI 4 * nI 4) else if w = 2 then r - r / nI 4 * nI 4 else if w = 0 then r / nI 4 / nI 10 else r / nI 4 - r / nI 4 / nI 10 * nI 10
theorem C_number {r : Int32} {s w : Nat} (hs : s < 2) (hw : w < 3) : fX2_number r (nI s) (nI w) = some (znu r s w) := by
  unfold fX2_number znu
  rcases (show s = 0 ∨ s = 1 by omega) with rfl | rfl <;> rcases (show w = 0 ∨ w = 1 ∨ w = 2 by omega) with rfl | rfl | rfl <;> simp (disch := omega) only [gl_0, gl_1, gl_2, gl_3, gl_4, gl_5, gl_6, gl_7, gl_8, gl_9, gl_10, gl_11, gl_12, gl_13, gl_14, gl_15, gl_16, gl_17, gl_18, gl_19, gl_20, gl_21, gl_22, gl_23, gl_24, gl_25, gl_26, gl_27, gl_28, gl_29, gl_30, gl_31, gl_32, gl_44, gl_48, gl_49, gl_57, gl_59, gl_60, gl_63, gl_70, gl_98, gl_99, gl_100, gl_101, gl_107, gl_109, gl_110, gl_111, gl_116, gl_120, gl_126, gl_155, gl_411, gl_999, gl_1000, gl_1233, gl_1644, gl_100000, gl_m1, nI_eq, nI_leI, nI_ltI, nI_add, nI_clamp, pk_mul, pk_sub, z_in, z_gt, z_bs, z_us, z_un, if_pos, if_neg, if_true, if_false, and_true, true_and, and_self, not_true_eq_false, not_false_eq_true]
theorem R_read (V : Sv S p l x lo ov orr nv nr q qk qv qr wr wa wc wk) {k c w : Nat} (hk : k < 31) (hc : c < 2) (hw : w < 3 - c) : K_read (nI k) (nI c) (nI w) S = some (if zrr p q orr nv nr qk qr k c = zN then -1000004 else znu (zrr p q orr nv nr qk qr k c) c w) := by
  obtain ⟨hs, e, R⟩ := V
  obtain ⟨⟨hp, hq, hl0, hx, hqp⟩, r0, r1, rq, rw', rp0, rp3⟩ := R
  unfold K_read
  rw [e]
  dsimp only
  unfold fX5_read
  rcases (show c = 0 ∨ c = 1 by omega) with rfl | rfl
  · by_cases h : zrr p q orr nv nr qk qr k 0 = zN
    · simp (disch := omega) only [gl_0, gl_1, gl_2, gl_3, gl_4, gl_5, gl_6, gl_7, gl_8, gl_9, gl_10, gl_11, gl_12, gl_13, gl_14, gl_15, gl_16, gl_17, gl_18, gl_19, gl_20, gl_21, gl_22, gl_23, gl_24, gl_25, gl_26, gl_27, gl_28, gl_29, gl_30, gl_31, gl_32, gl_44, gl_48, gl_49, gl_57, gl_59, gl_60, gl_63, gl_70, gl_98, gl_99, gl_100, gl_101, gl_107, gl_109, gl_110, gl_111, gl_116, gl_120, gl_126, gl_155, gl_411, gl_999, gl_1000, gl_1233, gl_1644, gl_100000, gl_m1, nI_eq, nI_leI, nI_ltI, nI_add, nI_clamp, pk_mul, pk_sub, z_in, z_gt, z_bs, z_us, z_un, if_pos, if_neg, if_true, if_false, and_true, true_and, and_self, not_true_eq_false, not_false_eq_true, fX5_read_b9, C_isBelow_nI, C_rowRead hp hq hk hc, h]
    · simp (disch := omega) only [gl_0, gl_1, gl_2, gl_3, gl_4, gl_5, gl_6, gl_7, gl_8, gl_9, gl_10, gl_11, gl_12, gl_13, gl_14, gl_15, gl_16, gl_17, gl_18, gl_19, gl_20, gl_21, gl_22, gl_23, gl_24, gl_25, gl_26, gl_27, gl_28, gl_29, gl_30, gl_31, gl_32, gl_44, gl_48, gl_49, gl_57, gl_59, gl_60, gl_63, gl_70, gl_98, gl_99, gl_100, gl_101, gl_107, gl_109, gl_110, gl_111, gl_116, gl_120, gl_126, gl_155, gl_411, gl_999, gl_1000, gl_1233, gl_1644, gl_100000, gl_m1, nI_eq, nI_leI, nI_ltI, nI_add, nI_clamp, pk_mul, pk_sub, z_in, z_gt, z_bs, z_us, z_un, if_pos, if_neg, if_true, if_false, and_true, true_and, and_self, not_true_eq_false, not_false_eq_true, fX5_read_b9, C_isBelow_nI, C_rowRead hp hq hk hc, h, C_number hc (show w < 3 by omega)]
  · by_cases h : zrr p q orr nv nr qk qr k 1 = zN
    · simp (disch := omega) only [gl_0, gl_1, gl_2, gl_3, gl_4, gl_5, gl_6, gl_7, gl_8, gl_9, gl_10, gl_11, gl_12, gl_13, gl_14, gl_15, gl_16, gl_17, gl_18, gl_19, gl_20, gl_21, gl_22, gl_23, gl_24, gl_25, gl_26, gl_27, gl_28, gl_29, gl_30, gl_31, gl_32, gl_44, gl_48, gl_49, gl_57, gl_59, gl_60, gl_63, gl_70, gl_98, gl_99, gl_100, gl_101, gl_107, gl_109, gl_110, gl_111, gl_116, gl_120, gl_126, gl_155, gl_411, gl_999, gl_1000, gl_1233, gl_1644, gl_100000, gl_m1, nI_eq, nI_leI, nI_ltI, nI_add, nI_clamp, pk_mul, pk_sub, z_in, z_gt, z_bs, z_us, z_un, if_pos, if_neg, if_true, if_false, and_true, true_and, and_self, not_true_eq_false, not_false_eq_true, fX5_read_b9, C_isBelow_nI, C_rowRead hp hq hk hc, h]
    · simp (disch := omega) only [gl_0, gl_1, gl_2, gl_3, gl_4, gl_5, gl_6, gl_7, gl_8, gl_9, gl_10, gl_11, gl_12, gl_13, gl_14, gl_15, gl_16, gl_17, gl_18, gl_19, gl_20, gl_21, gl_22, gl_23, gl_24, gl_25, gl_26, gl_27, gl_28, gl_29, gl_30, gl_31, gl_32, gl_44, gl_48, gl_49, gl_57, gl_59, gl_60, gl_63, gl_70, gl_98, gl_99, gl_100, gl_101, gl_107, gl_109, gl_110, gl_111, gl_116, gl_120, gl_126, gl_155, gl_411, gl_999, gl_1000, gl_1233, gl_1644, gl_100000, gl_m1, nI_eq, nI_leI, nI_ltI, nI_add, nI_clamp, pk_mul, pk_sub, z_in, z_gt, z_bs, z_us, z_un, if_pos, if_neg, if_true, if_false, and_true, true_and, and_self, not_true_eq_false, not_false_eq_true, fX5_read_b9, C_isBelow_nI, C_rowRead hp hq hk hc, h, C_number hc (show w < 3 by omega)]
theorem R_shape0 (V : Sv S p l x lo ov orr nv nr q qk qv qr wr wa wc wk) {k w : Nat} (hk : k < 31) (hw : w < 5) : K_shapeOf (nI k) (nI 0) (nI w) S = some (if p = 3 then -1000002 else if w = 0 then ov k else if w = 1 then (if orr k = zN then nI 0 else nI 1) else if orr k = zN then -1000004 else znu (orr k) 0 (w - 2)) := by
  obtain ⟨hs, e, R⟩ := V
  obtain ⟨⟨hp, hq, hl0, hx, hqp⟩, r0, r1, rq, rw', rp0, rp3⟩ := R
  unfold K_shapeOf
  rw [e]
  dsimp only
  unfold fX5_shapeOf
  rw [C_isThere hp (show 0 < 2 by omega)]
  by_cases h3 : p = 3
  · simp (disch := omega) only [gl_0, gl_1, gl_2, gl_3, gl_4, gl_5, gl_6, gl_7, gl_8, gl_9, gl_10, gl_11, gl_12, gl_13, gl_14, gl_15, gl_16, gl_17, gl_18, gl_19, gl_20, gl_21, gl_22, gl_23, gl_24, gl_25, gl_26, gl_27, gl_28, gl_29, gl_30, gl_31, gl_32, gl_44, gl_48, gl_49, gl_57, gl_59, gl_60, gl_63, gl_70, gl_98, gl_99, gl_100, gl_101, gl_107, gl_109, gl_110, gl_111, gl_116, gl_120, gl_126, gl_155, gl_411, gl_999, gl_1000, gl_1233, gl_1644, gl_100000, gl_m1, nI_eq, nI_leI, nI_ltI, nI_add, nI_clamp, pk_mul, pk_sub, z_in, z_gt, z_bs, z_us, z_un, if_pos, if_neg, if_true, if_false, and_true, true_and, and_self, not_true_eq_false, not_false_eq_true, C_isBelow_nI, h3, true_or]
  · have hA : ¬ ((0 = 0 ∧ p = 3) ∨ (0 = 1 ∧ p = 0)) := by omega
    rw [if_neg hA, if_neg h3]
    by_cases hr : orr k = zN
    · rcases (show w = 0 ∨ w = 1 ∨ w = 2 ∨ w = 3 ∨ w = 4 by omega) with rfl | rfl | rfl | rfl | rfl <;> simp (disch := omega) only [gl_0, gl_1, gl_2, gl_3, gl_4, gl_5, gl_6, gl_7, gl_8, gl_9, gl_10, gl_11, gl_12, gl_13, gl_14, gl_15, gl_16, gl_17, gl_18, gl_19, gl_20, gl_21, gl_22, gl_23, gl_24, gl_25, gl_26, gl_27, gl_28, gl_29, gl_30, gl_31, gl_32, gl_44, gl_48, gl_49, gl_57, gl_59, gl_60, gl_63, gl_70, gl_98, gl_99, gl_100, gl_101, gl_107, gl_109, gl_110, gl_111, gl_116, gl_120, gl_126, gl_155, gl_411, gl_999, gl_1000, gl_1233, gl_1644, gl_100000, gl_m1, nI_eq, nI_leI, nI_ltI, nI_add, nI_clamp, pk_mul, pk_sub, z_in, z_gt, z_bs, z_us, z_un, if_pos, if_neg, if_true, if_false, and_true, true_and, and_self, not_true_eq_false, not_false_eq_true, C_isBelow_nI, C_shape (show 0 < 2 by omega), hr]
    · rcases (show w = 0 ∨ w = 1 ∨ w = 2 ∨ w = 3 ∨ w = 4 by omega) with rfl | rfl | rfl | rfl | rfl <;> simp (disch := omega) only [gl_0, gl_1, gl_2, gl_3, gl_4, gl_5, gl_6, gl_7, gl_8, gl_9, gl_10, gl_11, gl_12, gl_13, gl_14, gl_15, gl_16, gl_17, gl_18, gl_19, gl_20, gl_21, gl_22, gl_23, gl_24, gl_25, gl_26, gl_27, gl_28, gl_29, gl_30, gl_31, gl_32, gl_44, gl_48, gl_49, gl_57, gl_59, gl_60, gl_63, gl_70, gl_98, gl_99, gl_100, gl_101, gl_107, gl_109, gl_110, gl_111, gl_116, gl_120, gl_126, gl_155, gl_411, gl_999, gl_1000, gl_1233, gl_1644, gl_100000, gl_m1, nI_eq, nI_leI, nI_ltI, nI_add, nI_clamp, pk_mul, pk_sub, z_in, z_gt, z_bs, z_us, z_un, if_pos, if_neg, if_true, if_false, and_true, true_and, and_self, not_true_eq_false, not_false_eq_true, C_isBelow_nI, C_shape (show 0 < 2 by omega), hr, fX5_shapeOf_b109, C_number (show 0 < 2 by omega) (show 0 < 3 by omega), C_number (show 0 < 2 by omega) (show 1 < 3 by omega), C_number (show 0 < 2 by omega) (show 2 < 3 by omega)]
theorem R_shape1 (V : Sv S p l x lo ov orr nv nr q qk qv qr wr wa wc wk) {k w : Nat} (hk : k < 31) (hw : w < 5) : K_shapeOf (nI k) (nI 1) (nI w) S = some (if p = 0 then -1000002 else if w = 0 then nv k else if w = 1 then (if nr k = zN then nI 0 else nI 1) else if nr k = zN ∨ w = 4 then -1000004 else znu (nr k) 1 (w - 2)) := by
  obtain ⟨hs, e, R⟩ := V
  obtain ⟨⟨hp, hq, hl0, hx, hqp⟩, r0, r1, rq, rw', rp0, rp3⟩ := R
  unfold K_shapeOf
  rw [e]
  dsimp only
  unfold fX5_shapeOf
  rw [C_isThere hp (show 1 < 2 by omega)]
  by_cases h3 : p = 0
  · simp (disch := omega) only [gl_0, gl_1, gl_2, gl_3, gl_4, gl_5, gl_6, gl_7, gl_8, gl_9, gl_10, gl_11, gl_12, gl_13, gl_14, gl_15, gl_16, gl_17, gl_18, gl_19, gl_20, gl_21, gl_22, gl_23, gl_24, gl_25, gl_26, gl_27, gl_28, gl_29, gl_30, gl_31, gl_32, gl_44, gl_48, gl_49, gl_57, gl_59, gl_60, gl_63, gl_70, gl_98, gl_99, gl_100, gl_101, gl_107, gl_109, gl_110, gl_111, gl_116, gl_120, gl_126, gl_155, gl_411, gl_999, gl_1000, gl_1233, gl_1644, gl_100000, gl_m1, nI_eq, nI_leI, nI_ltI, nI_add, nI_clamp, pk_mul, pk_sub, z_in, z_gt, z_bs, z_us, z_un, if_pos, if_neg, if_true, if_false, and_true, true_and, and_self, not_true_eq_false, not_false_eq_true, C_isBelow_nI, h3, or_true]
  · have hA : ¬ ((1 = 0 ∧ p = 3) ∨ (1 = 1 ∧ p = 0)) := by omega
    rw [if_neg hA, if_neg h3]
    by_cases hr : nr k = zN
    · rcases (show w = 0 ∨ w = 1 ∨ w = 2 ∨ w = 3 ∨ w = 4 by omega) with rfl | rfl | rfl | rfl | rfl <;> simp (disch := omega) only [gl_0, gl_1, gl_2, gl_3, gl_4, gl_5, gl_6, gl_7, gl_8, gl_9, gl_10, gl_11, gl_12, gl_13, gl_14, gl_15, gl_16, gl_17, gl_18, gl_19, gl_20, gl_21, gl_22, gl_23, gl_24, gl_25, gl_26, gl_27, gl_28, gl_29, gl_30, gl_31, gl_32, gl_44, gl_48, gl_49, gl_57, gl_59, gl_60, gl_63, gl_70, gl_98, gl_99, gl_100, gl_101, gl_107, gl_109, gl_110, gl_111, gl_116, gl_120, gl_126, gl_155, gl_411, gl_999, gl_1000, gl_1233, gl_1644, gl_100000, gl_m1, nI_eq, nI_leI, nI_ltI, nI_add, nI_clamp, pk_mul, pk_sub, z_in, z_gt, z_bs, z_us, z_un, if_pos, if_neg, if_true, if_false, and_true, true_and, and_self, not_true_eq_false, not_false_eq_true, C_isBelow_nI, C_shape (show 1 < 2 by omega), hr, true_or, or_true]
    · rcases (show w = 0 ∨ w = 1 ∨ w = 2 ∨ w = 3 ∨ w = 4 by omega) with rfl | rfl | rfl | rfl | rfl <;> simp (disch := omega) only [gl_0, gl_1, gl_2, gl_3, gl_4, gl_5, gl_6, gl_7, gl_8, gl_9, gl_10, gl_11, gl_12, gl_13, gl_14, gl_15, gl_16, gl_17, gl_18, gl_19, gl_20, gl_21, gl_22, gl_23, gl_24, gl_25, gl_26, gl_27, gl_28, gl_29, gl_30, gl_31, gl_32, gl_44, gl_48, gl_49, gl_57, gl_59, gl_60, gl_63, gl_70, gl_98, gl_99, gl_100, gl_101, gl_107, gl_109, gl_110, gl_111, gl_116, gl_120, gl_126, gl_155, gl_411, gl_999, gl_1000, gl_1233, gl_1644, gl_100000, gl_m1, nI_eq, nI_leI, nI_ltI, nI_add, nI_clamp, pk_mul, pk_sub, z_in, z_gt, z_bs, z_us, z_un, if_pos, if_neg, if_true, if_false, and_true, true_and, and_self, not_true_eq_false, not_false_eq_true, C_isBelow_nI, C_shape (show 1 < 2 by omega), hr, fX5_shapeOf_b109, C_number (show 1 < 2 by omega) (show 0 < 3 by omega), C_number (show 1 < 2 by omega) (show 1 < 3 by omega), C_number (show 1 < 2 by omega) (show 2 < 3 by omega), or_true, false_or, or_false]
end KV
