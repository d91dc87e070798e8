/-! the face: changes -/
theorem zcpy {f g : Nat → Int32} {n k : Nat} (h : k < n) : va_cpy f g 0 0 n k = f k := by
  rw [pk_cpy_in (Nat.zero_le k) (by omega), Nat.sub_zero, Nat.zero_add]
def PubC (ss was : Nat → Int32) (s : Nat) (txt : Nat → Int32) (typ : Int32) (ph la po lo : Int32) (ov orr nv nr : Nat → Int32) (ql : Int32) (qk qv qr wr : Nat → Int32) (wa : Int32) (wc wk : Nat → Int32) (oC : Option (Int32 × Int32 × Int32 × Int32 × Int32 × (Nat → Int32) × (Nat → Int32) × (Nat → Int32) × (Nat → Int32) × Int32 × (Nat → Int32) × (Nat → Int32) × (Nat → Int32) × (Nat → Int32) × Int32 × (Nat → Int32) × (Nat → Int32))) (oM : Option (Int32 × (Nat → Int32) × (Nat → Int32) × (Nat → Int32) × (Nat → Int32) × Int32 × (Nat → Int32) × Int32 × Int32 × Int32 × (Nat → Int32) × (Nat → Int32) × (Nat → Int32))) : Prop :=
  ∃ (r : Int32) (ph' la' po' lo' : Int32) (ov' orr' nv' nr' : Nat → Int32) (ql' : Int32) (qk' qv' qr' wr' : Nat → Int32) (wa' : Int32) (wc' wk' : Nat → Int32) (ss' was' beg' asi' : Nat → Int32) (s' : Nat) (att' rea' : Int32) (got' row' oth' : Nat → Int32), oC = some (r, ph', la', po', lo', ov', orr', nv', nr', ql', qk', qv', qr', wr', wa', wc', wk') ∧ oM = some (r, ss', was', beg', asi', nI s', txt, typ, att', rea', got', row', oth') ∧ ((zerr r ∧ RI ss' ph la po lo ov orr nv nr ql qk qv qr wr wa wc wk ∧ s' = s ∧ was' = was) ∨ (zans r ∧ RI ss' ph' la' po' lo' ov' orr' nv' nr' ql' qk' qv' qr' wr' wa' wc' wk' ∧ Acted ss was s was' s'))
section F1
variable {ss was beg asi : Nat → Int32} {s : Nat} {txt : Nat → Int32} {typ att rea : Int32} {got row oth : Nat → Int32} {ph la po lo : Int32} {ov orr nv nr : Nat → Int32} {ql : Int32} {qk qv qr wr : Nat → Int32} {wa : Int32} {wc wk : Nat → Int32} {tph tla tpo tlo : Int32} {tov torr tnv tnr : Nat → Int32} {tql : Int32} {tqk tqv tqr twr : Nat → Int32} {twa : Int32} {twc twk : Nat → Int32} {p l x q : Nat} {len : Int32} {tx : Nat → Int32} {gi pl re ki : Int32} {nu : Nat → Int32}
theorem C_newTrial {st : Int32} : fX5_newTrial st ph la po lo ov orr nv nr ql qk qv qr wr wa wc wk tph tla tpo tlo tov torr tnv tnr tql tqk tqv tqr twr twa twc twk = some (ph, la, po, lo, (va_cpy ov tov 0 0 31), (va_cpy orr torr 0 0 31), (va_cpy nv tnv 0 0 31), (va_cpy nr tnr 0 0 31), ql, (va_cpy qk tqk 0 0 8), (va_cpy qv tqv 0 0 8), (va_cpy qr tqr 0 0 8), (va_cpy wr twr 0 0 31), wa, (va_cpy wc twc 0 0 3), (va_cpy wk twk 0 0 3)) := by
  simp only [fX5_newTrial, fX4_copyFrom, fX3_copyFrom, fX1_copyFrom, z_bs]
theorem RT_cpy (R : RT ss p l x lo ov orr nv nr q qk qv qr wr wa wc wk) : RT ss p l x lo (va_cpy ov tov 0 0 31) (va_cpy orr torr 0 0 31) (va_cpy nv tnv 0 0 31) (va_cpy nr tnr 0 0 31) q (va_cpy qk tqk 0 0 8) (va_cpy qv tqv 0 0 8) (va_cpy qr tqr 0 0 8) (va_cpy wr twr 0 0 31) wa (va_cpy wc twc 0 0 3) (va_cpy wk twk 0 0 3) :=
  RT_ext R (fun k hk => ⟨zcpy hk, zcpy hk, zcpy hk, zcpy hk, zcpy hk⟩) (fun k hk => ⟨zcpy hk, zcpy hk, zcpy hk⟩) (fun k hk => ⟨zcpy hk, zcpy hk⟩)
theorem RT_uncpy (R : RT ss p l x lo (va_cpy ov tov 0 0 31) (va_cpy orr torr 0 0 31) (va_cpy nv tnv 0 0 31) (va_cpy nr tnr 0 0 31) q (va_cpy qk tqk 0 0 8) (va_cpy qv tqv 0 0 8) (va_cpy qr tqr 0 0 8) (va_cpy wr twr 0 0 31) wa (va_cpy wc twc 0 0 3) (va_cpy wk twk 0 0 3)) : RT ss p l x lo ov orr nv nr q qk qv qr wr wa wc wk :=
  RT_ext R (fun k hk => ⟨(zcpy hk).symm, (zcpy hk).symm, (zcpy hk).symm, (zcpy hk).symm, (zcpy hk).symm⟩) (fun k hk => ⟨(zcpy hk).symm, (zcpy hk).symm, (zcpy hk).symm⟩) (fun k hk => ⟨(zcpy hk).symm, (zcpy hk).symm⟩)
theorem RI_uncpy (R : RI ss ph la po lo (va_cpy ov tov 0 0 31) (va_cpy orr torr 0 0 31) (va_cpy nv tnv 0 0 31) (va_cpy nr tnr 0 0 31) ql (va_cpy qk tqk 0 0 8) (va_cpy qv tqv 0 0 8) (va_cpy qr tqr 0 0 8) (va_cpy wr twr 0 0 31) wa (va_cpy wc twc 0 0 3) (va_cpy wk twk 0 0 3)) : RI ss ph la po lo ov orr nv nr ql qk qv qr wr wa wc wk := by
  obtain ⟨p, l, x, q, h1, h2, h3, h4, R⟩ := R
  exact ⟨p, l, x, q, h1, h2, h3, h4, RT_uncpy R⟩
theorem RI_cpy (R : RI ss ph la po lo ov orr nv nr ql qk qv qr wr wa wc wk) : RI ss ph la po lo (va_cpy ov tov 0 0 31) (va_cpy orr torr 0 0 31) (va_cpy nv tnv 0 0 31) (va_cpy nr tnr 0 0 31) ql (va_cpy qk tqk 0 0 8) (va_cpy qv tqv 0 0 8) (va_cpy qr tqr 0 0 8) (va_cpy wr twr 0 0 31) wa (va_cpy wc twc 0 0 3) (va_cpy wk twk 0 0 3) := by
  obtain ⟨p, l, x, q, h1, h2, h3, h4, R⟩ := R
  exact ⟨p, l, x, q, h1, h2, h3, h4, RT_cpy R⟩
theorem Pub_of {oC oC' : Option (Int32 × Int32 × Int32 × Int32 × Int32 × (Nat → Int32) × (Nat → Int32) × (Nat → Int32) × (Nat → Int32) × Int32 × (Nat → Int32) × (Nat → Int32) × (Nat → Int32) × (Nat → Int32) × Int32 × (Nat → Int32) × (Nat → Int32))} {oM : Option (Int32 × (Nat → Int32) × (Nat → Int32) × (Nat → Int32) × (Nat → Int32) × Int32 × (Nat → Int32) × Int32 × Int32 × Int32 × (Nat → Int32) × (Nat → Int32) × (Nat → Int32))} (h : ChOK ss was s txt typ (ph, la, po, lo, (va_cpy ov tov 0 0 31), (va_cpy orr torr 0 0 31), (va_cpy nv tnv 0 0 31), (va_cpy nr tnr 0 0 31), ql, (va_cpy qk tqk 0 0 8), (va_cpy qv tqv 0 0 8), (va_cpy qr tqr 0 0 8), (va_cpy wr twr 0 0 31), wa, (va_cpy wc twc 0 0 3), (va_cpy wk twk 0 0 3)) oC oM) (he : ∀ (r : Int32) (t' : Int32 × Int32 × Int32 × Int32 × (Nat → Int32) × (Nat → Int32) × (Nat → Int32) × (Nat → Int32) × Int32 × (Nat → Int32) × (Nat → Int32) × (Nat → Int32) × (Nat → Int32) × Int32 × (Nat → Int32) × (Nat → Int32)), oC = some (r, t') → oC' = some (r, t')) : PubC ss was s txt typ ph la po lo ov orr nv nr ql qk qv qr wr wa wc wk oC' oM := by
  obtain ⟨r, p', l', x', q', lo', ov', orr', nv', nr', qk', qv', qr', wr', wa', wc', wk', ss', was', beg', asi', s', att', rea', got', row', oth', e1, e2, hR, hz⟩ := h
  refine ⟨r, _, _, _, _, _, _, _, _, _, _, _, _, _, _, _, _, ss', was', beg', asi', s', att', rea', got', row', oth', he r _ e1, e2, ?_⟩
  rcases hz with ⟨hz, ht, hs, hw⟩ | ⟨hz, hA⟩
  · refine Or.inl ⟨hz, ?_, hs, hw⟩
    simp only [Prod.mk.injEq] at ht
    obtain ⟨c1, c2, c3, c4, c5, c6, c7, c8, c9, c10, c11, c12, c13, c14, c15, c16⟩ := ht
    subst c4 c5 c6 c7 c8 c10 c11 c12 c13 c14 c15 c16
    exact RI_uncpy ⟨p', l', x', q', c1.symm, c2.symm, c3.symm, c9.symm, hR⟩
  · exact Or.inr ⟨hz, ⟨p', l', x', q', rfl, rfl, rfl, rfl, hR⟩, hA⟩
theorem Q_begin (R : RI ss ph la po lo ov orr nv nr ql qk qv qr wr wa wc wk) (hs : s ≤ 4) : PubC ss was s txt typ ph la po lo ov orr nv nr ql qk qv qr wr wa wc wk (fX5_begin  (nI s) ph la po lo ov orr nv nr ql qk qv qr wr wa wc wk tph tla tpo tlo tov torr tnv tnr tql tqk tqv tqr twr twa twc twk len tx gi pl re ki nu) (fX6_begin  ss was beg asi (nI s) txt typ att rea got row oth) := by
  obtain ⟨p, l, x, q, rfl, rfl, rfl, rfl, R⟩ := R
  refine Pub_of (P_begin (was := was) (beg := beg) (asi := asi) (txt := txt) (typ := typ) (att := att) (rea := rea) (got := got) (row := row) (oth := oth) (RT_cpy (tov := tov) (torr := torr) (tnv := tnv) (tnr := tnr) (tqk := tqk) (tqv := tqv) (tqr := tqr) (twr := twr) (twc := twc) (twk := twk) R) hs ) (fun r t' e => ?_)
  unfold fX5_begin
  rw [C_newTrial, z_bs]
  dsimp only
  rw [e, z_bs]
theorem Q_turn (R : RI ss ph la po lo ov orr nv nr ql qk qv qr wr wa wc wk) (hs : s ≤ 4) : PubC ss was s txt typ ph la po lo ov orr nv nr ql qk qv qr wr wa wc wk (fX5_turn  (nI s) ph la po lo ov orr nv nr ql qk qv qr wr wa wc wk tph tla tpo tlo tov torr tnv tnr tql tqk tqv tqr twr twa twc twk len tx gi pl re ki nu) (fX6_turn  ss was beg asi (nI s) txt typ att rea got row oth) := by
  obtain ⟨p, l, x, q, rfl, rfl, rfl, rfl, R⟩ := R
  refine Pub_of (P_turn (was := was) (beg := beg) (asi := asi) (txt := txt) (typ := typ) (att := att) (rea := rea) (got := got) (row := row) (oth := oth) (RT_cpy (tov := tov) (torr := torr) (tnv := tnv) (tnr := tnr) (tqk := tqk) (tqv := tqv) (tqr := tqr) (twr := twr) (twc := twc) (twk := twk) R) hs ) (fun r t' e => ?_)
  unfold fX5_turn
  rw [C_newTrial, z_bs]
  dsimp only
  rw [e, z_bs]
theorem Q_back (R : RI ss ph la po lo ov orr nv nr ql qk qv qr wr wa wc wk) (hs : s ≤ 4) : PubC ss was s txt typ ph la po lo ov orr nv nr ql qk qv qr wr wa wc wk (fX5_back  (nI s) ph la po lo ov orr nv nr ql qk qv qr wr wa wc wk tph tla tpo tlo tov torr tnv tnr tql tqk tqv tqr twr twa twc twk len tx gi pl re ki nu) (fX6_back  ss was beg asi (nI s) txt typ att rea got row oth) := by
  obtain ⟨p, l, x, q, rfl, rfl, rfl, rfl, R⟩ := R
  refine Pub_of (P_back (was := was) (beg := beg) (asi := asi) (txt := txt) (typ := typ) (att := att) (rea := rea) (got := got) (row := row) (oth := oth) (RT_cpy (tov := tov) (torr := torr) (tnv := tnv) (tnr := tnr) (tqk := tqk) (tqv := tqv) (tqr := tqr) (twr := twr) (twc := twc) (twk := twk) R) hs ) (fun r t' e => ?_)
  unfold fX5_back
  rw [C_newTrial, z_bs]
  dsimp only
  rw [e, z_bs]
theorem Q_drop (R : RI ss ph la po lo ov orr nv nr ql qk qv qr wr wa wc wk) (hs : s ≤ 4) : PubC ss was s txt typ ph la po lo ov orr nv nr ql qk qv qr wr wa wc wk (fX5_drop  (nI s) ph la po lo ov orr nv nr ql qk qv qr wr wa wc wk tph tla tpo tlo tov torr tnv tnr tql tqk tqv tqr twr twa twc twk len tx gi pl re ki nu) (fX6_drop  ss was beg asi (nI s) txt typ att rea got row oth) := by
  obtain ⟨p, l, x, q, rfl, rfl, rfl, rfl, R⟩ := R
  refine Pub_of (P_drop (was := was) (beg := beg) (asi := asi) (txt := txt) (typ := typ) (att := att) (rea := rea) (got := got) (row := row) (oth := oth) (RT_cpy (tov := tov) (torr := torr) (tnv := tnv) (tnr := tnr) (tqk := tqk) (tqv := tqv) (tqr := tqr) (twr := twr) (twc := twc) (twk := twk) R) hs ) (fun r t' e => ?_)
  unfold fX5_drop
  rw [C_newTrial, z_bs]
  dsimp only
  rw [e, z_bs]
theorem Q_writeOld (R : RI ss ph la po lo ov orr nv nr ql qk qv qr wr wa wc wk) (hs : s ≤ 4) (y a b c : Int32) : PubC ss was s txt typ ph la po lo ov orr nv nr ql qk qv qr wr wa wc wk (fX5_writeOld y a b c (nI s) ph la po lo ov orr nv nr ql qk qv qr wr wa wc wk tph tla tpo tlo tov torr tnv tnr tql tqk tqv tqr twr twa twc twk len tx gi pl re ki nu) (fX6_writeOld y a b c ss was beg asi (nI s) txt typ att rea got row oth) := by
  obtain ⟨p, l, x, q, rfl, rfl, rfl, rfl, R⟩ := R
  refine Pub_of (P_writeOld (was := was) (beg := beg) (asi := asi) (txt := txt) (typ := typ) (att := att) (rea := rea) (got := got) (row := row) (oth := oth) (RT_cpy (tov := tov) (torr := torr) (tnv := tnv) (tnr := tnr) (tqk := tqk) (tqv := tqv) (tqr := tqr) (twr := twr) (twc := twc) (twk := twk) R) hs y a b c) (fun r t' e => ?_)
  unfold fX5_writeOld
  rw [C_newTrial, z_bs]
  dsimp only
  rw [e, z_bs]
theorem Q_writeNew (R : RI ss ph la po lo ov orr nv nr ql qk qv qr wr wa wc wk) (hs : s ≤ 4) (y a b : Int32) : PubC ss was s txt typ ph la po lo ov orr nv nr ql qk qv qr wr wa wc wk (fX5_writeNew y a b (nI s) ph la po lo ov orr nv nr ql qk qv qr wr wa wc wk tph tla tpo tlo tov torr tnv tnr tql tqk tqv tqr twr twa twc twk len tx gi pl re ki nu) (fX6_writeNew y a b ss was beg asi (nI s) txt typ att rea got row oth) := by
  obtain ⟨p, l, x, q, rfl, rfl, rfl, rfl, R⟩ := R
  refine Pub_of (P_writeNew (was := was) (beg := beg) (asi := asi) (txt := txt) (typ := typ) (att := att) (rea := rea) (got := got) (row := row) (oth := oth) (RT_cpy (tov := tov) (torr := torr) (tnv := tnv) (tnr := tnr) (tqk := tqk) (tqv := tqv) (tqr := tqr) (twr := twr) (twc := twc) (twk := twk) R) hs y a b) (fun r t' e => ?_)
  unfold fX5_writeNew
  rw [C_newTrial, z_bs]
  dsimp only
  rw [e, z_bs]
theorem Q_remove (R : RI ss ph la po lo ov orr nv nr ql qk qv qr wr wa wc wk) (hs : s ≤ 4) (y : Int32) : PubC ss was s txt typ ph la po lo ov orr nv nr ql qk qv qr wr wa wc wk (fX5_remove y (nI s) ph la po lo ov orr nv nr ql qk qv qr wr wa wc wk tph tla tpo tlo tov torr tnv tnr tql tqk tqv tqr twr twa twc twk len tx gi pl re ki nu) (fX6_remove y ss was beg asi (nI s) txt typ att rea got row oth) := by
  obtain ⟨p, l, x, q, rfl, rfl, rfl, rfl, R⟩ := R
  refine Pub_of (P_remove (was := was) (beg := beg) (asi := asi) (txt := txt) (typ := typ) (att := att) (rea := rea) (got := got) (row := row) (oth := oth) (RT_cpy (tov := tov) (torr := torr) (tnv := tnv) (tnr := tnr) (tqk := tqk) (tqv := tqv) (tqr := tqr) (twr := twr) (twc := twc) (twk := twk) R) hs y) (fun r t' e => ?_)
  unfold fX5_remove
  rw [C_newTrial, z_bs]
  dsimp only
  rw [e, z_bs]
theorem Q_drain (R : RI ss ph la po lo ov orr nv nr ql qk qv qr wr wa wc wk) (hs : s ≤ 4) (y : Int32) : PubC ss was s txt typ ph la po lo ov orr nv nr ql qk qv qr wr wa wc wk (fX5_drain y (nI s) ph la po lo ov orr nv nr ql qk qv qr wr wa wc wk tph tla tpo tlo tov torr tnv tnr tql tqk tqv tqr twr twa twc twk len tx gi pl re ki nu) (fX6_drain y ss was beg asi (nI s) txt typ att rea got row oth) := by
  obtain ⟨p, l, x, q, rfl, rfl, rfl, rfl, R⟩ := R
  refine Pub_of (P_drain (was := was) (beg := beg) (asi := asi) (txt := txt) (typ := typ) (att := att) (rea := rea) (got := got) (row := row) (oth := oth) (RT_cpy (tov := tov) (torr := torr) (tnv := tnv) (tnr := tnr) (tqk := tqk) (tqv := tqv) (tqr := tqr) (twr := twr) (twc := twc) (twk := twk) R) hs y) (fun r t' e => ?_)
  unfold fX5_drain
  rw [C_newTrial, z_bs]
  dsimp only
  rw [e, z_bs]
theorem Q_backfill (R : RI ss ph la po lo ov orr nv nr ql qk qv qr wr wa wc wk) (hs : s ≤ 4) (y : Int32) : PubC ss was s txt typ ph la po lo ov orr nv nr ql qk qv qr wr wa wc wk (fX5_backfill y (nI s) ph la po lo ov orr nv nr ql qk qv qr wr wa wc wk tph tla tpo tlo tov torr tnv tnr tql tqk tqv tqr twr twa twc twk len tx gi pl re ki nu) (fX6_backfill y ss was beg asi (nI s) txt typ att rea got row oth) := by
  obtain ⟨p, l, x, q, rfl, rfl, rfl, rfl, R⟩ := R
  refine Pub_of (P_backfill (was := was) (beg := beg) (asi := asi) (txt := txt) (typ := typ) (att := att) (rea := rea) (got := got) (row := row) (oth := oth) (RT_cpy (tov := tov) (torr := torr) (tnv := tnv) (tnr := tnr) (tqk := tqk) (tqv := tqv) (tqr := tqr) (twr := twr) (twc := twc) (twk := twk) R) hs y) (fun r t' e => ?_)
  unfold fX5_backfill
  rw [C_newTrial, z_bs]
  dsimp only
  rw [e, z_bs]
theorem Q_crash (R : RI ss ph la po lo ov orr nv nr ql qk qv qr wr wa wc wk) (hs : s ≤ 4) : PubC ss was s txt typ ph la po lo ov orr nv nr ql qk qv qr wr wa wc wk (fX5_crash  (nI s) ph la po lo ov orr nv nr ql qk qv qr wr wa wc wk tph tla tpo tlo tov torr tnv tnr tql tqk tqv tqr twr twa twc twk len tx gi pl re ki nu) (fX6_crash  ss was beg asi (nI s) txt typ att rea got row oth) := by
  obtain ⟨p, l, x, q, rfl, rfl, rfl, rfl, R⟩ := R
  refine Pub_of (P_crash (was := was) (beg := beg) (asi := asi) (txt := txt) (typ := typ) (att := att) (rea := rea) (got := got) (row := row) (oth := oth) (RT_cpy (tov := tov) (torr := torr) (tnv := tnv) (tnr := tnr) (tqk := tqk) (tqv := tqv) (tqr := tqr) (twr := twr) (twc := twc) (twk := twk) R) hs ) (fun r t' e => ?_)
  unfold fX5_crash
  rw [C_newTrial, z_bs]
  dsimp only
  rw [e, z_bs]
theorem Q_mend (R : RI ss ph la po lo ov orr nv nr ql qk qv qr wr wa wc wk) (hs : s ≤ 4) (y : Int32) : PubC ss was s txt typ ph la po lo ov orr nv nr ql qk qv qr wr wa wc wk (fX5_mend y (nI s) ph la po lo ov orr nv nr ql qk qv qr wr wa wc wk tph tla tpo tlo tov torr tnv tnr tql tqk tqv tqr twr twa twc twk len tx gi pl re ki nu) (fX6_mend y ss was beg asi (nI s) txt typ att rea got row oth) := by
  obtain ⟨p, l, x, q, rfl, rfl, rfl, rfl, R⟩ := R
  refine Pub_of (P_mend (was := was) (beg := beg) (asi := asi) (txt := txt) (typ := typ) (att := att) (rea := rea) (got := got) (row := row) (oth := oth) (RT_cpy (tov := tov) (torr := torr) (tnv := tnv) (tnr := tnr) (tqk := tqk) (tqv := tqv) (tqr := tqr) (twr := twr) (twc := twc) (twk := twk) R) hs y) (fun r t' e => ?_)
  unfold fX5_mend
  rw [C_newTrial, z_bs]
  dsimp only
  rw [e, z_bs]
theorem Q_walk (R : RI ss ph la po lo ov orr nv nr ql qk qv qr wr wa wc wk) (hs : s ≤ 4) (y a : Int32) : PubC ss was s txt typ ph la po lo ov orr nv nr ql qk qv qr wr wa wc wk (fX5_walk y a (nI s) ph la po lo ov orr nv nr ql qk qv qr wr wa wc wk tph tla tpo tlo tov torr tnv tnr tql tqk tqv tqr twr twa twc twk len tx gi pl re ki nu) (fX6_walk y a ss was beg asi (nI s) txt typ att rea got row oth) := by
  obtain ⟨p, l, x, q, rfl, rfl, rfl, rfl, R⟩ := R
  refine Pub_of (P_walk (was := was) (beg := beg) (asi := asi) (txt := txt) (typ := typ) (att := att) (rea := rea) (got := got) (row := row) (oth := oth) (RT_cpy (tov := tov) (torr := torr) (tnv := tnv) (tnr := tnr) (tqk := tqk) (tqv := tqv) (tqr := tqr) (twr := twr) (twc := twc) (twk := twk) R) hs y a) (fun r t' e => ?_)
  unfold fX5_walk
  rw [C_newTrial, z_bs]
  dsimp only
  rw [e, z_bs]
theorem Q_step (R : RI ss ph la po lo ov orr nv nr ql qk qv qr wr wa wc wk) (hs : s ≤ 4) (y : Int32) : PubC ss was s txt typ ph la po lo ov orr nv nr ql qk qv qr wr wa wc wk (fX5_step y (nI s) ph la po lo ov orr nv nr ql qk qv qr wr wa wc wk tph tla tpo tlo tov torr tnv tnr tql tqk tqv tqr twr twa twc twk len tx gi pl re ki nu) (fX6_step y ss was beg asi (nI s) txt typ att rea got row oth) := by
  obtain ⟨p, l, x, q, rfl, rfl, rfl, rfl, R⟩ := R
  refine Pub_of (P_step (was := was) (beg := beg) (asi := asi) (txt := txt) (typ := typ) (att := att) (rea := rea) (got := got) (row := row) (oth := oth) (RT_cpy (tov := tov) (torr := torr) (tnv := tnv) (tnr := tnr) (tqk := tqk) (tqv := tqv) (tqr := tqr) (twr := twr) (twc := twc) (twk := twk) R) hs y) (fun r t' e => ?_)
  unfold fX5_step
  rw [C_newTrial, z_bs]
  dsimp only
  rw [e, z_bs]
end F1
