/-! the law: its tables at the start -/
set_option maxRecDepth 100000 in
theorem law_gK {s : State} {b : Addr} (hts : ∀ w ∈ lw_tbl, w.before #[Value.ref b] s = true) : ∃ G : gT, gK G s := by
  have hT : ∀ w ∈ TB, w.before #[Value.ref b] s = true := fun w h => hts w (TB_in w h)
  obtain ⟨c0, i0, K0⟩ := u_known (C := RX0) (T := TX0) (N := 7) (n := 7) hT hX0 (hT _ tw_169)
  obtain ⟨c1, i1, K1⟩ := u_known (C := RX1) (T := TX1) (N := 4) (n := 4) hT hX1 (hT _ tw_100)
  obtain ⟨c2, i2, K2⟩ := u_known (C := RX3) (T := TX3) (N := 3) (n := 3) hT hX3 (hT _ tw_75)
  obtain ⟨c3, i3, K3⟩ := u_known (C := RX4) (T := TX4) (N := 11) (n := 11) hT hX4 (hT _ tw_69)
  obtain ⟨c4, i4, K4⟩ := u_known (C := RX5) (T := TX5) (N := 5) (n := 5) hT hX5 (hT _ tw_60)
  obtain ⟨c5, i5, K5⟩ := u_known (C := RX6) (T := TX6) (N := 12) (n := 12) hT hX6 (hT _ tw_583)
  obtain ⟨aI, kI, pI, f1, f2, f3⟩ := Cond.arrayClass_spec (hT _ tw_98)
  obtain ⟨aC, kC, pC, g1, g2, g3⟩ := Cond.arrayClass_spec (hT _ tw_625)
  obtain ⟨pT, aT, kT, e1, -, e2, e3, e4⟩ := Cond.arrayOver_spec (n := "TwoShapes$Table") (hts (.arrayOver (.object "TwoShapes$Table")) (List.mem_of_getElem? (i := 68) (by decide +kernel)))
  refine ⟨((fun k => match k with | 0 => c0 | 1 => c1 | 2 => c2 | 3 => c3 | 4 => c4 | _ => c5, fun k => match k with | 0 => i0 | 1 => i1 | 2 => i2 | 3 => i3 | 4 => i4 | _ => i5), aI, aC, aT), ⟨?_, ?_⟩, ?_⟩
  · intro k q hq
    match k, hq with
    | 0, hq => cases hq; exact K0
    | 1, hq => cases hq; exact K1
    | 2, hq => cases hq; exact K2
    | 3, hq => cases hq; exact K3
    | 4, hq => cases hq; exact K4
    | 5, hq => cases hq; exact K5
    | k + 6, hq => simp [vwCl] at hq
  · intro k q hq
    match k, hq with
    | 0, hq => cases hq; exact ⟨fun n z => ⟨(fun k h => by cases h), kI, f2, pI, f3⟩, f1⟩
    | 1, hq => cases hq; exact ⟨fun n z => ⟨(fun k h => by cases h), kC, g2, pC, g3⟩, g1⟩
    | 2, hq => cases hq; exact ⟨fun n z => ⟨(fun k h => by cases h), kT, e2, pT, e3⟩, ⟨kT, pT, e2, e3, e1, e4⟩⟩
    | k + 3, hq => simp at hq
  · exact ⟨va_Nw.of rfl (hts g_n1 (List.mem_of_getElem? (i := 309) (by decide +kernel))), va_Nw.of rfl (hts g_n2 (List.mem_of_getElem? (i := 550) (by decide +kernel))), va_Nw.of rfl (hts g_n3 (List.mem_of_getElem? (i := 70) (by decide +kernel))), va_Nw.of rfl (hts g_n4 (List.mem_of_getElem? (i := 170) (by decide +kernel))), va_Nw.of rfl (hts g_n5 (List.mem_of_getElem? (i := 101) (by decide +kernel)))⟩
theorem law_AO {s : State} {b : Addr} (hts : ∀ w ∈ lw_tbl, w.before #[Value.ref b] s = true) : va_AO "TwoShapes$Table" s := va_AO.of (hts (.arrayOver (.object "TwoShapes$Table")) (List.mem_of_getElem? (i := 68) (by decide +kernel)))
/-! the law's cases, one a method -/
abbrev lA (s : State) : Nat → Prop := fun q : Nat => s.heap.size ≤ q
section LC
variable {p : Program} {l : Launch} {e : Env} {s : State} {m : MethodId} {below : List Frame} {meth : Method} {c : Code} {b L : Nat} {xs : Nat → Int32} {G : gT} {a : Nat → Nat} {x hi h0 h1 h2 : Nat}
set_option maxRecDepth 20000 in
theorem lc_begin (C0 : lw_At p s m meth c b L xs) (hG : gK G s) {i5 : Int32}  {w : va_W} {H : Heap} {locs : List Loc} (hw : LW G a x hi h0 h1 h2 w) (hP : va_P G.1 vwCl w H) (hD : va_D (lA s) w) (hS : va_S (lA s) s.heap H locs) {ls : Array Slot} (hl : lv_has ls 4 [(0, .ref b), (1, .ref x), (2, .ref (a 0)), (3, .int i5)]) (K : ∀ (w : va_W) (H : Heap) (locs : List Loc), LW G a x hi h0 h1 h2 w → va_P G.1 vwCl w H → va_D (lA s) w → va_S (lA s) s.heap H locs → W p l e room_1 s m #[Value.ref b] below meth c H locs 100 5000 (lw_Z below #[Value.ref b] s) (F0 m 750 ls [])) : W p l e room_1 s m #[Value.ref b] below meth c H locs 100 5000 (lw_Z below #[Value.ref b] s) (F0 m 152 ls []) := by
  obtain ⟨hx, hb, hr, hml, hown, hts0, hX, hbl, hlocks, hgv⟩ := C0
  have hts : ∀ w ∈ TB, w.before #[Value.ref b] s = true := fun w h => hts0 w (TB_in w h)
  have hA : ∀ q : Nat, s.heap.size ≤ q → lA s q := fun _ h => h
  have hbA : ¬ lA s b := Nat.not_le.mpr hbl
  obtain ⟨r, w1, w2, g5, ⟨fs6, e6⟩, g6, hw2⟩ := B_begin l G a x hi h0 h1 h2  w hw
  obtain ⟨fs5, e5⟩ := hw.recv
  refine lv_aload_n hx hb dL_law_152 rfl (lv_at hl 1 rfl) ?_
  refine g_contW (ws := w) (w1 := w1) (st1 := [.int r]) (g_runVCN (As := []) (rest := []) ⟨hx, hb, hml, hown, hts⟩ g5 (cwV 0 hts (TB_V TB_id tw_216 tw_217 tw_218 tw_49 tw_219) rfl rfl rfl (by decide +kernel) ⟨Nat.le_of_ble_eq_true rfl, Nat.le_of_ble_eq_true rfl⟩) hG hP hD 9 e5 rfl rfl hl.1 rfl (Nat.le_of_ble_eq_true rfl) dL_law_153 ⟨Nat.le_of_ble_eq_true rfl, Nat.le_of_ble_eq_true rfl⟩) rfl hD hS hA (fun H locs hP hD hS => ?_)
  refine lv_aload_n hx hb dL_law_156 rfl (lv_at hl 2 rfl) ?_
  refine g_contW (ws := w1) (w1 := w2) (st1 := [.int r, .int r]) (g_runVCN (As := []) (rest := [.int r]) ⟨hx, hb, hml, hown, hts⟩ g6 (cwV 0 hts (TB_V TB_id tw_626 tw_627 tw_628 tw_54 tw_629) rfl rfl rfl (by decide +kernel) ⟨Nat.le_of_ble_eq_true rfl, Nat.le_of_ble_eq_true rfl⟩) hG hP hD 0 e6 rfl rfl hl.1 rfl (Nat.le_of_ble_eq_true rfl) dL_law_157 ⟨Nat.le_of_ble_eq_true rfl, Nat.le_of_ble_eq_true rfl⟩) rfl hD hS hA (fun H locs hP hD hS => ?_)
  refine lv_icmp_eq (tgt := 750) hx hb dL_law_160 (by decide) (fun _ => ?_) (fun c9 => absurd rfl c9)
  exact K w2 H locs hw2 hP hD hS
set_option maxRecDepth 20000 in
theorem lc_turn (C0 : lw_At p s m meth c b L xs) (hG : gK G s) {i5 : Int32}  {w : va_W} {H : Heap} {locs : List Loc} (hw : LW G a x hi h0 h1 h2 w) (hP : va_P G.1 vwCl w H) (hD : va_D (lA s) w) (hS : va_S (lA s) s.heap H locs) {ls : Array Slot} (hl : lv_has ls 4 [(0, .ref b), (1, .ref x), (2, .ref (a 0)), (3, .int i5)]) (K : ∀ (w : va_W) (H : Heap) (locs : List Loc), LW G a x hi h0 h1 h2 w → va_P G.1 vwCl w H → va_D (lA s) w → va_S (lA s) s.heap H locs → W p l e room_1 s m #[Value.ref b] below meth c H locs 100 5000 (lw_Z below #[Value.ref b] s) (F0 m 750 ls [])) : W p l e room_1 s m #[Value.ref b] below meth c H locs 100 5000 (lw_Z below #[Value.ref b] s) (F0 m 165 ls []) := by
  obtain ⟨hx, hb, hr, hml, hown, hts0, hX, hbl, hlocks, hgv⟩ := C0
  have hts : ∀ w ∈ TB, w.before #[Value.ref b] s = true := fun w h => hts0 w (TB_in w h)
  have hA : ∀ q : Nat, s.heap.size ≤ q → lA s q := fun _ h => h
  have hbA : ¬ lA s b := Nat.not_le.mpr hbl
  obtain ⟨r, w1, w2, g5, ⟨fs6, e6⟩, g6, hw2⟩ := B_turn l G a x hi h0 h1 h2  w hw
  obtain ⟨fs5, e5⟩ := hw.recv
  refine lv_aload_n hx hb dL_law_165 rfl (lv_at hl 1 rfl) ?_
  refine g_contW (ws := w) (w1 := w1) (st1 := [.int r]) (g_runVCN (As := []) (rest := []) ⟨hx, hb, hml, hown, hts⟩ g5 (cwV 0 hts (TB_V TB_id tw_254 tw_255 tw_256 tw_49 tw_257) rfl rfl rfl (by decide +kernel) ⟨Nat.le_of_ble_eq_true rfl, Nat.le_of_ble_eq_true rfl⟩) hG hP hD 9 e5 rfl rfl hl.1 rfl (Nat.le_of_ble_eq_true rfl) dL_law_166 ⟨Nat.le_of_ble_eq_true rfl, Nat.le_of_ble_eq_true rfl⟩) rfl hD hS hA (fun H locs hP hD hS => ?_)
  refine lv_aload_n hx hb dL_law_169 rfl (lv_at hl 2 rfl) ?_
  refine g_contW (ws := w1) (w1 := w2) (st1 := [.int r, .int r]) (g_runVCN (As := []) (rest := [.int r]) ⟨hx, hb, hml, hown, hts⟩ g6 (cwV 0 hts (TB_V TB_id tw_655 tw_656 tw_657 tw_54 tw_658) rfl rfl rfl (by decide +kernel) ⟨Nat.le_of_ble_eq_true rfl, Nat.le_of_ble_eq_true rfl⟩) hG hP hD 0 e6 rfl rfl hl.1 rfl (Nat.le_of_ble_eq_true rfl) dL_law_170 ⟨Nat.le_of_ble_eq_true rfl, Nat.le_of_ble_eq_true rfl⟩) rfl hD hS hA (fun H locs hP hD hS => ?_)
  refine lv_icmp_eq (tgt := 750) hx hb dL_law_173 (by decide) (fun _ => ?_) (fun c9 => absurd rfl c9)
  exact K w2 H locs hw2 hP hD hS
set_option maxRecDepth 20000 in
theorem lc_back (C0 : lw_At p s m meth c b L xs) (hG : gK G s) {i5 : Int32}  {w : va_W} {H : Heap} {locs : List Loc} (hw : LW G a x hi h0 h1 h2 w) (hP : va_P G.1 vwCl w H) (hD : va_D (lA s) w) (hS : va_S (lA s) s.heap H locs) {ls : Array Slot} (hl : lv_has ls 4 [(0, .ref b), (1, .ref x), (2, .ref (a 0)), (3, .int i5)]) (K : ∀ (w : va_W) (H : Heap) (locs : List Loc), LW G a x hi h0 h1 h2 w → va_P G.1 vwCl w H → va_D (lA s) w → va_S (lA s) s.heap H locs → W p l e room_1 s m #[Value.ref b] below meth c H locs 100 5000 (lw_Z below #[Value.ref b] s) (F0 m 750 ls [])) : W p l e room_1 s m #[Value.ref b] below meth c H locs 100 5000 (lw_Z below #[Value.ref b] s) (F0 m 178 ls []) := by
  obtain ⟨hx, hb, hr, hml, hown, hts0, hX, hbl, hlocks, hgv⟩ := C0
  have hts : ∀ w ∈ TB, w.before #[Value.ref b] s = true := fun w h => hts0 w (TB_in w h)
  have hA : ∀ q : Nat, s.heap.size ≤ q → lA s q := fun _ h => h
  have hbA : ¬ lA s b := Nat.not_le.mpr hbl
  obtain ⟨r, w1, w2, g5, ⟨fs6, e6⟩, g6, hw2⟩ := B_back l G a x hi h0 h1 h2  w hw
  obtain ⟨fs5, e5⟩ := hw.recv
  refine lv_aload_n hx hb dL_law_178 rfl (lv_at hl 1 rfl) ?_
  refine g_contW (ws := w) (w1 := w1) (st1 := [.int r]) (g_runVCN (As := []) (rest := []) ⟨hx, hb, hml, hown, hts⟩ g5 (cwV 0 hts (TB_V TB_id tw_273 tw_274 tw_275 tw_49 tw_276) rfl rfl rfl (by decide +kernel) ⟨Nat.le_of_ble_eq_true rfl, Nat.le_of_ble_eq_true rfl⟩) hG hP hD 9 e5 rfl rfl hl.1 rfl (Nat.le_of_ble_eq_true rfl) dL_law_179 ⟨Nat.le_of_ble_eq_true rfl, Nat.le_of_ble_eq_true rfl⟩) rfl hD hS hA (fun H locs hP hD hS => ?_)
  refine lv_aload_n hx hb dL_law_182 rfl (lv_at hl 2 rfl) ?_
  refine g_contW (ws := w1) (w1 := w2) (st1 := [.int r, .int r]) (g_runVCN (As := []) (rest := [.int r]) ⟨hx, hb, hml, hown, hts⟩ g6 (cwV 0 hts (TB_V TB_id tw_683 tw_684 tw_685 tw_54 tw_686) rfl rfl rfl (by decide +kernel) ⟨Nat.le_of_ble_eq_true rfl, Nat.le_of_ble_eq_true rfl⟩) hG hP hD 0 e6 rfl rfl hl.1 rfl (Nat.le_of_ble_eq_true rfl) dL_law_183 ⟨Nat.le_of_ble_eq_true rfl, Nat.le_of_ble_eq_true rfl⟩) rfl hD hS hA (fun H locs hP hD hS => ?_)
  refine lv_icmp_eq (tgt := 750) hx hb dL_law_186 (by decide) (fun _ => ?_) (fun c9 => absurd rfl c9)
  exact K w2 H locs hw2 hP hD hS
set_option maxRecDepth 20000 in
theorem lc_drop (C0 : lw_At p s m meth c b L xs) (hG : gK G s) {i5 : Int32}  {w : va_W} {H : Heap} {locs : List Loc} (hw : LW G a x hi h0 h1 h2 w) (hP : va_P G.1 vwCl w H) (hD : va_D (lA s) w) (hS : va_S (lA s) s.heap H locs) {ls : Array Slot} (hl : lv_has ls 4 [(0, .ref b), (1, .ref x), (2, .ref (a 0)), (3, .int i5)]) (K : ∀ (w : va_W) (H : Heap) (locs : List Loc), LW G a x hi h0 h1 h2 w → va_P G.1 vwCl w H → va_D (lA s) w → va_S (lA s) s.heap H locs → W p l e room_1 s m #[Value.ref b] below meth c H locs 100 5000 (lw_Z below #[Value.ref b] s) (F0 m 750 ls [])) : W p l e room_1 s m #[Value.ref b] below meth c H locs 100 5000 (lw_Z below #[Value.ref b] s) (F0 m 191 ls []) := by
  obtain ⟨hx, hb, hr, hml, hown, hts0, hX, hbl, hlocks, hgv⟩ := C0
  have hts : ∀ w ∈ TB, w.before #[Value.ref b] s = true := fun w h => hts0 w (TB_in w h)
  have hA : ∀ q : Nat, s.heap.size ≤ q → lA s q := fun _ h => h
  have hbA : ¬ lA s b := Nat.not_le.mpr hbl
  obtain ⟨r, w1, w2, g5, ⟨fs6, e6⟩, g6, hw2⟩ := B_drop l G a x hi h0 h1 h2  w hw
  obtain ⟨fs5, e5⟩ := hw.recv
  refine lv_aload_n hx hb dL_law_191 rfl (lv_at hl 1 rfl) ?_
  refine g_contW (ws := w) (w1 := w1) (st1 := [.int r]) (g_runVCN (As := []) (rest := []) ⟨hx, hb, hml, hown, hts⟩ g5 (cwV 0 hts (TB_V TB_id tw_286 tw_287 tw_288 tw_49 tw_289) rfl rfl rfl (by decide +kernel) ⟨Nat.le_of_ble_eq_true rfl, Nat.le_of_ble_eq_true rfl⟩) hG hP hD 9 e5 rfl rfl hl.1 rfl (Nat.le_of_ble_eq_true rfl) dL_law_192 ⟨Nat.le_of_ble_eq_true rfl, Nat.le_of_ble_eq_true rfl⟩) rfl hD hS hA (fun H locs hP hD hS => ?_)
  refine lv_aload_n hx hb dL_law_195 rfl (lv_at hl 2 rfl) ?_
  refine g_contW (ws := w1) (w1 := w2) (st1 := [.int r, .int r]) (g_runVCN (As := []) (rest := [.int r]) ⟨hx, hb, hml, hown, hts⟩ g6 (cwV 0 hts (TB_V TB_id tw_695 tw_696 tw_697 tw_54 tw_698) rfl rfl rfl (by decide +kernel) ⟨Nat.le_of_ble_eq_true rfl, Nat.le_of_ble_eq_true rfl⟩) hG hP hD 0 e6 rfl rfl hl.1 rfl (Nat.le_of_ble_eq_true rfl) dL_law_196 ⟨Nat.le_of_ble_eq_true rfl, Nat.le_of_ble_eq_true rfl⟩) rfl hD hS hA (fun H locs hP hD hS => ?_)
  refine lv_icmp_eq (tgt := 750) hx hb dL_law_199 (by decide) (fun _ => ?_) (fun c9 => absurd rfl c9)
  exact K w2 H locs hw2 hP hD hS
set_option maxRecDepth 20000 in
theorem lc_writeOld (C0 : lw_At p s m meth c b L xs) (hG : gK G s) {i5 : Int32} (j1 : vp_in (i5 + 1) L) (j2 : vp_in (i5 + 2) L) (j3 : vp_in (i5 + 3) L) (j4 : vp_in (i5 + 4) L) {w : va_W} {H : Heap} {locs : List Loc} (hw : LW G a x hi h0 h1 h2 w) (hP : va_P G.1 vwCl w H) (hD : va_D (lA s) w) (hS : va_S (lA s) s.heap H locs) {ls : Array Slot} (hl : lv_has ls 4 [(0, .ref b), (1, .ref x), (2, .ref (a 0)), (3, .int i5)]) (K : ∀ (w : va_W) (H : Heap) (locs : List Loc), LW G a x hi h0 h1 h2 w → va_P G.1 vwCl w H → va_D (lA s) w → va_S (lA s) s.heap H locs → W p l e room_1 s m #[Value.ref b] below meth c H locs 100 5000 (lw_Z below #[Value.ref b] s) (F0 m 750 ls [])) : W p l e room_1 s m #[Value.ref b] below meth c H locs 100 5000 (lw_Z below #[Value.ref b] s) (F0 m 204 ls []) := by
  obtain ⟨hx, hb, hr, hml, hown, hts0, hX, hbl, hlocks, hgv⟩ := C0
  have hts : ∀ w ∈ TB, w.before #[Value.ref b] s = true := fun w h => hts0 w (TB_in w h)
  have hA : ∀ q : Nat, s.heap.size ≤ q → lA s q := fun _ h => h
  have hbA : ¬ lA s b := Nat.not_le.mpr hbl
  obtain ⟨r, w1, w2, g5, ⟨fs6, e6⟩, g6, hw2⟩ := B_writeOld l G a x hi h0 h1 h2 (xs (i5 + 1).toNatClampNeg) (xs (i5 + 2).toNatClampNeg) (xs (i5 + 3).toNatClampNeg) (xs (i5 + 4).toNatClampNeg) w hw
  obtain ⟨fs5, e5⟩ := hw.recv
  refine lv_aload_n hx hb dL_law_204 rfl (lv_at hl 1 rfl) ?_
  refine lv_aload_n hx hb dL_law_205 rfl (lv_at hl 0 rfl) ?_
  refine lv_iload_n hx hb dL_law_206 rfl (lv_at hl 3 rfl) ?_
  refine lv_iconst (v := (1 : Int32)) hx hb dL_law_207 (by decide) ?_
  refine lv_iadd hx hb dL_law_208 ?_
  refine va_sld hx hb hX hbl hbA hS j1 dL_law_209 ?_
  refine lv_aload_n hx hb dL_law_210 rfl (lv_at hl 0 rfl) ?_
  refine lv_iload_n hx hb dL_law_211 rfl (lv_at hl 3 rfl) ?_
  refine lv_iconst (v := (2 : Int32)) hx hb dL_law_212 (by decide) ?_
  refine lv_iadd hx hb dL_law_213 ?_
  refine va_sld hx hb hX hbl hbA hS j2 dL_law_214 ?_
  refine lv_aload_n hx hb dL_law_215 rfl (lv_at hl 0 rfl) ?_
  refine lv_iload_n hx hb dL_law_216 rfl (lv_at hl 3 rfl) ?_
  refine lv_iconst (v := (3 : Int32)) hx hb dL_law_217 (by decide) ?_
  refine lv_iadd hx hb dL_law_218 ?_
  refine va_sld hx hb hX hbl hbA hS j3 dL_law_219 ?_
  refine lv_aload_n hx hb dL_law_220 rfl (lv_at hl 0 rfl) ?_
  refine lv_iload_n hx hb dL_law_221 rfl (lv_at hl 3 rfl) ?_
  refine lv_iconst (v := (4 : Int32)) hx hb dL_law_222 (by decide) ?_
  refine lv_iadd hx hb dL_law_223 ?_
  refine va_sld hx hb hX hbl hbA hS j4 dL_law_224 ?_
  refine g_contW (ws := w) (w1 := w1) (st1 := [.int r]) (g_runVCN (As := [.int (xs (i5 + 1).toNatClampNeg), .int (xs (i5 + 2).toNatClampNeg), .int (xs (i5 + 3).toNatClampNeg), .int (xs (i5 + 4).toNatClampNeg)]) (rest := []) ⟨hx, hb, hml, hown, hts⟩ g5 (cwV 4 hts (TB_V TB_id tw_301 tw_302 tw_303 tw_49 tw_304) rfl rfl rfl (by decide +kernel) ⟨Nat.le_of_ble_eq_true rfl, Nat.le_of_ble_eq_true rfl⟩) hG hP hD 9 e5 rfl rfl hl.1 rfl (Nat.le_of_ble_eq_true rfl) dL_law_225 ⟨Nat.le_of_ble_eq_true rfl, Nat.le_of_ble_eq_true rfl⟩) rfl hD hS hA (fun H locs hP hD hS => ?_)
  refine lv_aload_n hx hb dL_law_228 rfl (lv_at hl 2 rfl) ?_
  refine lv_aload_n hx hb dL_law_229 rfl (lv_at hl 0 rfl) ?_
  refine lv_iload_n hx hb dL_law_230 rfl (lv_at hl 3 rfl) ?_
  refine lv_iconst (v := (1 : Int32)) hx hb dL_law_231 (by decide) ?_
  refine lv_iadd hx hb dL_law_232 ?_
  refine va_sld hx hb hX hbl hbA hS j1 dL_law_233 ?_
  refine lv_aload_n hx hb dL_law_234 rfl (lv_at hl 0 rfl) ?_
  refine lv_iload_n hx hb dL_law_235 rfl (lv_at hl 3 rfl) ?_
  refine lv_iconst (v := (2 : Int32)) hx hb dL_law_236 (by decide) ?_
  refine lv_iadd hx hb dL_law_237 ?_
  refine va_sld hx hb hX hbl hbA hS j2 dL_law_238 ?_
  refine lv_aload_n hx hb dL_law_239 rfl (lv_at hl 0 rfl) ?_
  refine lv_iload_n hx hb dL_law_240 rfl (lv_at hl 3 rfl) ?_
  refine lv_iconst (v := (3 : Int32)) hx hb dL_law_241 (by decide) ?_
  refine lv_iadd hx hb dL_law_242 ?_
  refine va_sld hx hb hX hbl hbA hS j3 dL_law_243 ?_
  refine lv_aload_n hx hb dL_law_244 rfl (lv_at hl 0 rfl) ?_
  refine lv_iload_n hx hb dL_law_245 rfl (lv_at hl 3 rfl) ?_
  refine lv_iconst (v := (4 : Int32)) hx hb dL_law_246 (by decide) ?_
  refine lv_iadd hx hb dL_law_247 ?_
  refine va_sld hx hb hX hbl hbA hS j4 dL_law_248 ?_
  refine g_contW (ws := w1) (w1 := w2) (st1 := [.int r, .int r]) (g_runVCN (As := [.int (xs (i5 + 1).toNatClampNeg), .int (xs (i5 + 2).toNatClampNeg), .int (xs (i5 + 3).toNatClampNeg), .int (xs (i5 + 4).toNatClampNeg)]) (rest := [.int r]) ⟨hx, hb, hml, hown, hts⟩ g6 (cwV 4 hts (TB_V TB_id tw_703 tw_704 tw_705 tw_54 tw_706) rfl rfl rfl (by decide +kernel) ⟨Nat.le_of_ble_eq_true rfl, Nat.le_of_ble_eq_true rfl⟩) hG hP hD 0 e6 rfl rfl hl.1 rfl (Nat.le_of_ble_eq_true rfl) dL_law_249 ⟨Nat.le_of_ble_eq_true rfl, Nat.le_of_ble_eq_true rfl⟩) rfl hD hS hA (fun H locs hP hD hS => ?_)
  refine lv_icmp_eq (tgt := 750) hx hb dL_law_252 (by decide) (fun _ => ?_) (fun c9 => absurd rfl c9)
  exact K w2 H locs hw2 hP hD hS
set_option maxRecDepth 20000 in
theorem lc_writeNew (C0 : lw_At p s m meth c b L xs) (hG : gK G s) {i5 : Int32} (j1 : vp_in (i5 + 1) L) (j2 : vp_in (i5 + 2) L) (j3 : vp_in (i5 + 3) L) {w : va_W} {H : Heap} {locs : List Loc} (hw : LW G a x hi h0 h1 h2 w) (hP : va_P G.1 vwCl w H) (hD : va_D (lA s) w) (hS : va_S (lA s) s.heap H locs) {ls : Array Slot} (hl : lv_has ls 4 [(0, .ref b), (1, .ref x), (2, .ref (a 0)), (3, .int i5)]) (K : ∀ (w : va_W) (H : Heap) (locs : List Loc), LW G a x hi h0 h1 h2 w → va_P G.1 vwCl w H → va_D (lA s) w → va_S (lA s) s.heap H locs → W p l e room_1 s m #[Value.ref b] below meth c H locs 100 5000 (lw_Z below #[Value.ref b] s) (F0 m 750 ls [])) : W p l e room_1 s m #[Value.ref b] below meth c H locs 100 5000 (lw_Z below #[Value.ref b] s) (F0 m 257 ls []) := by
  obtain ⟨hx, hb, hr, hml, hown, hts0, hX, hbl, hlocks, hgv⟩ := C0
  have hts : ∀ w ∈ TB, w.before #[Value.ref b] s = true := fun w h => hts0 w (TB_in w h)
  have hA : ∀ q : Nat, s.heap.size ≤ q → lA s q := fun _ h => h
  have hbA : ¬ lA s b := Nat.not_le.mpr hbl
  obtain ⟨r, w1, w2, g5, ⟨fs6, e6⟩, g6, hw2⟩ := B_writeNew l G a x hi h0 h1 h2 (xs (i5 + 1).toNatClampNeg) (xs (i5 + 2).toNatClampNeg) (xs (i5 + 3).toNatClampNeg) w hw
  obtain ⟨fs5, e5⟩ := hw.recv
  refine lv_aload_n hx hb dL_law_257 rfl (lv_at hl 1 rfl) ?_
  refine lv_aload_n hx hb dL_law_258 rfl (lv_at hl 0 rfl) ?_
  refine lv_iload_n hx hb dL_law_259 rfl (lv_at hl 3 rfl) ?_
  refine lv_iconst (v := (1 : Int32)) hx hb dL_law_260 (by decide) ?_
  refine lv_iadd hx hb dL_law_261 ?_
  refine va_sld hx hb hX hbl hbA hS j1 dL_law_262 ?_
  refine lv_aload_n hx hb dL_law_263 rfl (lv_at hl 0 rfl) ?_
  refine lv_iload_n hx hb dL_law_264 rfl (lv_at hl 3 rfl) ?_
  refine lv_iconst (v := (2 : Int32)) hx hb dL_law_265 (by decide) ?_
  refine lv_iadd hx hb dL_law_266 ?_
  refine va_sld hx hb hX hbl hbA hS j2 dL_law_267 ?_
  refine lv_aload_n hx hb dL_law_268 rfl (lv_at hl 0 rfl) ?_
  refine lv_iload_n hx hb dL_law_269 rfl (lv_at hl 3 rfl) ?_
  refine lv_iconst (v := (3 : Int32)) hx hb dL_law_270 (by decide) ?_
  refine lv_iadd hx hb dL_law_271 ?_
  refine va_sld hx hb hX hbl hbA hS j3 dL_law_272 ?_
  refine g_contW (ws := w) (w1 := w1) (st1 := [.int r]) (g_runVCN (As := [.int (xs (i5 + 1).toNatClampNeg), .int (xs (i5 + 2).toNatClampNeg), .int (xs (i5 + 3).toNatClampNeg)]) (rest := []) ⟨hx, hb, hml, hown, hts⟩ g5 (cwV 3 hts (TB_V TB_id tw_342 tw_343 tw_344 tw_49 tw_345) rfl rfl rfl (by decide +kernel) ⟨Nat.le_of_ble_eq_true rfl, Nat.le_of_ble_eq_true rfl⟩) hG hP hD 9 e5 rfl rfl hl.1 rfl (Nat.le_of_ble_eq_true rfl) dL_law_273 ⟨Nat.le_of_ble_eq_true rfl, Nat.le_of_ble_eq_true rfl⟩) rfl hD hS hA (fun H locs hP hD hS => ?_)
  refine lv_aload_n hx hb dL_law_276 rfl (lv_at hl 2 rfl) ?_
  refine lv_aload_n hx hb dL_law_277 rfl (lv_at hl 0 rfl) ?_
  refine lv_iload_n hx hb dL_law_278 rfl (lv_at hl 3 rfl) ?_
  refine lv_iconst (v := (1 : Int32)) hx hb dL_law_279 (by decide) ?_
  refine lv_iadd hx hb dL_law_280 ?_
  refine va_sld hx hb hX hbl hbA hS j1 dL_law_281 ?_
  refine lv_aload_n hx hb dL_law_282 rfl (lv_at hl 0 rfl) ?_
  refine lv_iload_n hx hb dL_law_283 rfl (lv_at hl 3 rfl) ?_
  refine lv_iconst (v := (2 : Int32)) hx hb dL_law_284 (by decide) ?_
  refine lv_iadd hx hb dL_law_285 ?_
  refine va_sld hx hb hX hbl hbA hS j2 dL_law_286 ?_
  refine lv_aload_n hx hb dL_law_287 rfl (lv_at hl 0 rfl) ?_
  refine lv_iload_n hx hb dL_law_288 rfl (lv_at hl 3 rfl) ?_
  refine lv_iconst (v := (3 : Int32)) hx hb dL_law_289 (by decide) ?_
  refine lv_iadd hx hb dL_law_290 ?_
  refine va_sld hx hb hX hbl hbA hS j3 dL_law_291 ?_
  refine g_contW (ws := w1) (w1 := w2) (st1 := [.int r, .int r]) (g_runVCN (As := [.int (xs (i5 + 1).toNatClampNeg), .int (xs (i5 + 2).toNatClampNeg), .int (xs (i5 + 3).toNatClampNeg)]) (rest := [.int r]) ⟨hx, hb, hml, hown, hts⟩ g6 (cwV 3 hts (TB_V TB_id tw_735 tw_736 tw_737 tw_54 tw_738) rfl rfl rfl (by decide +kernel) ⟨Nat.le_of_ble_eq_true rfl, Nat.le_of_ble_eq_true rfl⟩) hG hP hD 0 e6 rfl rfl hl.1 rfl (Nat.le_of_ble_eq_true rfl) dL_law_292 ⟨Nat.le_of_ble_eq_true rfl, Nat.le_of_ble_eq_true rfl⟩) rfl hD hS hA (fun H locs hP hD hS => ?_)
  refine lv_icmp_eq (tgt := 750) hx hb dL_law_295 (by decide) (fun _ => ?_) (fun c9 => absurd rfl c9)
  exact K w2 H locs hw2 hP hD hS
set_option maxRecDepth 20000 in
theorem lc_remove (C0 : lw_At p s m meth c b L xs) (hG : gK G s) {i5 : Int32} (j1 : vp_in (i5 + 1) L) {w : va_W} {H : Heap} {locs : List Loc} (hw : LW G a x hi h0 h1 h2 w) (hP : va_P G.1 vwCl w H) (hD : va_D (lA s) w) (hS : va_S (lA s) s.heap H locs) {ls : Array Slot} (hl : lv_has ls 4 [(0, .ref b), (1, .ref x), (2, .ref (a 0)), (3, .int i5)]) (K : ∀ (w : va_W) (H : Heap) (locs : List Loc), LW G a x hi h0 h1 h2 w → va_P G.1 vwCl w H → va_D (lA s) w → va_S (lA s) s.heap H locs → W p l e room_1 s m #[Value.ref b] below meth c H locs 100 5000 (lw_Z below #[Value.ref b] s) (F0 m 750 ls [])) : W p l e room_1 s m #[Value.ref b] below meth c H locs 100 5000 (lw_Z below #[Value.ref b] s) (F0 m 300 ls []) := by
  obtain ⟨hx, hb, hr, hml, hown, hts0, hX, hbl, hlocks, hgv⟩ := C0
  have hts : ∀ w ∈ TB, w.before #[Value.ref b] s = true := fun w h => hts0 w (TB_in w h)
  have hA : ∀ q : Nat, s.heap.size ≤ q → lA s q := fun _ h => h
  have hbA : ¬ lA s b := Nat.not_le.mpr hbl
  obtain ⟨r, w1, w2, g5, ⟨fs6, e6⟩, g6, hw2⟩ := B_remove l G a x hi h0 h1 h2 (xs (i5 + 1).toNatClampNeg) w hw
  obtain ⟨fs5, e5⟩ := hw.recv
  refine lv_aload_n hx hb dL_law_300 rfl (lv_at hl 1 rfl) ?_
  refine lv_aload_n hx hb dL_law_301 rfl (lv_at hl 0 rfl) ?_
  refine lv_iload_n hx hb dL_law_302 rfl (lv_at hl 3 rfl) ?_
  refine lv_iconst (v := (1 : Int32)) hx hb dL_law_303 (by decide) ?_
  refine lv_iadd hx hb dL_law_304 ?_
  refine va_sld hx hb hX hbl hbA hS j1 dL_law_305 ?_
  refine g_contW (ws := w) (w1 := w1) (st1 := [.int r]) (g_runVCN (As := [.int (xs (i5 + 1).toNatClampNeg)]) (rest := []) ⟨hx, hb, hml, hown, hts⟩ g5 (cwV 1 hts (TB_V TB_id tw_351 tw_352 tw_353 tw_49 tw_354) rfl rfl rfl (by decide +kernel) ⟨Nat.le_of_ble_eq_true rfl, Nat.le_of_ble_eq_true rfl⟩) hG hP hD 9 e5 rfl rfl hl.1 rfl (Nat.le_of_ble_eq_true rfl) dL_law_306 ⟨Nat.le_of_ble_eq_true rfl, Nat.le_of_ble_eq_true rfl⟩) rfl hD hS hA (fun H locs hP hD hS => ?_)
  refine lv_aload_n hx hb dL_law_309 rfl (lv_at hl 2 rfl) ?_
  refine lv_aload_n hx hb dL_law_310 rfl (lv_at hl 0 rfl) ?_
  refine lv_iload_n hx hb dL_law_311 rfl (lv_at hl 3 rfl) ?_
  refine lv_iconst (v := (1 : Int32)) hx hb dL_law_312 (by decide) ?_
  refine lv_iadd hx hb dL_law_313 ?_
  refine va_sld hx hb hX hbl hbA hS j1 dL_law_314 ?_
  refine g_contW (ws := w1) (w1 := w2) (st1 := [.int r, .int r]) (g_runVCN (As := [.int (xs (i5 + 1).toNatClampNeg)]) (rest := [.int r]) ⟨hx, hb, hml, hown, hts⟩ g6 (cwV 1 hts (TB_V TB_id tw_743 tw_744 tw_745 tw_54 tw_746) rfl rfl rfl (by decide +kernel) ⟨Nat.le_of_ble_eq_true rfl, Nat.le_of_ble_eq_true rfl⟩) hG hP hD 0 e6 rfl rfl hl.1 rfl (Nat.le_of_ble_eq_true rfl) dL_law_315 ⟨Nat.le_of_ble_eq_true rfl, Nat.le_of_ble_eq_true rfl⟩) rfl hD hS hA (fun H locs hP hD hS => ?_)
  refine lv_icmp_eq (tgt := 750) hx hb dL_law_318 (by decide) (fun _ => ?_) (fun c9 => absurd rfl c9)
  exact K w2 H locs hw2 hP hD hS
set_option maxRecDepth 20000 in
theorem lc_drain (C0 : lw_At p s m meth c b L xs) (hG : gK G s) {i5 : Int32} (j1 : vp_in (i5 + 1) L) {w : va_W} {H : Heap} {locs : List Loc} (hw : LW G a x hi h0 h1 h2 w) (hP : va_P G.1 vwCl w H) (hD : va_D (lA s) w) (hS : va_S (lA s) s.heap H locs) {ls : Array Slot} (hl : lv_has ls 4 [(0, .ref b), (1, .ref x), (2, .ref (a 0)), (3, .int i5)]) (K : ∀ (w : va_W) (H : Heap) (locs : List Loc), LW G a x hi h0 h1 h2 w → va_P G.1 vwCl w H → va_D (lA s) w → va_S (lA s) s.heap H locs → W p l e room_1 s m #[Value.ref b] below meth c H locs 100 5000 (lw_Z below #[Value.ref b] s) (F0 m 750 ls [])) : W p l e room_1 s m #[Value.ref b] below meth c H locs 100 5000 (lw_Z below #[Value.ref b] s) (F0 m 323 ls []) := by
  obtain ⟨hx, hb, hr, hml, hown, hts0, hX, hbl, hlocks, hgv⟩ := C0
  have hts : ∀ w ∈ TB, w.before #[Value.ref b] s = true := fun w h => hts0 w (TB_in w h)
  have hA : ∀ q : Nat, s.heap.size ≤ q → lA s q := fun _ h => h
  have hbA : ¬ lA s b := Nat.not_le.mpr hbl
  obtain ⟨r, w1, w2, g5, ⟨fs6, e6⟩, g6, hw2⟩ := B_drain l G a x hi h0 h1 h2 (xs (i5 + 1).toNatClampNeg) w hw
  obtain ⟨fs5, e5⟩ := hw.recv
  refine lv_aload_n hx hb dL_law_323 rfl (lv_at hl 1 rfl) ?_
  refine lv_aload_n hx hb dL_law_324 rfl (lv_at hl 0 rfl) ?_
  refine lv_iload_n hx hb dL_law_325 rfl (lv_at hl 3 rfl) ?_
  refine lv_iconst (v := (1 : Int32)) hx hb dL_law_326 (by decide) ?_
  refine lv_iadd hx hb dL_law_327 ?_
  refine va_sld hx hb hX hbl hbA hS j1 dL_law_328 ?_
  refine g_contW (ws := w) (w1 := w1) (st1 := [.int r]) (g_runVCN (As := [.int (xs (i5 + 1).toNatClampNeg)]) (rest := []) ⟨hx, hb, hml, hown, hts⟩ g5 (cwV 1 hts (TB_V TB_id tw_359 tw_360 tw_361 tw_49 tw_362) rfl rfl rfl (by decide +kernel) ⟨Nat.le_of_ble_eq_true rfl, Nat.le_of_ble_eq_true rfl⟩) hG hP hD 9 e5 rfl rfl hl.1 rfl (Nat.le_of_ble_eq_true rfl) dL_law_329 ⟨Nat.le_of_ble_eq_true rfl, Nat.le_of_ble_eq_true rfl⟩) rfl hD hS hA (fun H locs hP hD hS => ?_)
  refine lv_aload_n hx hb dL_law_332 rfl (lv_at hl 2 rfl) ?_
  refine lv_aload_n hx hb dL_law_333 rfl (lv_at hl 0 rfl) ?_
  refine lv_iload_n hx hb dL_law_334 rfl (lv_at hl 3 rfl) ?_
  refine lv_iconst (v := (1 : Int32)) hx hb dL_law_335 (by decide) ?_
  refine lv_iadd hx hb dL_law_336 ?_
  refine va_sld hx hb hX hbl hbA hS j1 dL_law_337 ?_
  refine g_contW (ws := w1) (w1 := w2) (st1 := [.int r, .int r]) (g_runVCN (As := [.int (xs (i5 + 1).toNatClampNeg)]) (rest := [.int r]) ⟨hx, hb, hml, hown, hts⟩ g6 (cwV 1 hts (TB_V TB_id tw_751 tw_752 tw_753 tw_54 tw_754) rfl rfl rfl (by decide +kernel) ⟨Nat.le_of_ble_eq_true rfl, Nat.le_of_ble_eq_true rfl⟩) hG hP hD 0 e6 rfl rfl hl.1 rfl (Nat.le_of_ble_eq_true rfl) dL_law_338 ⟨Nat.le_of_ble_eq_true rfl, Nat.le_of_ble_eq_true rfl⟩) rfl hD hS hA (fun H locs hP hD hS => ?_)
  refine lv_icmp_eq (tgt := 750) hx hb dL_law_341 (by decide) (fun _ => ?_) (fun c9 => absurd rfl c9)
  exact K w2 H locs hw2 hP hD hS
set_option maxRecDepth 20000 in
theorem lc_backfill (C0 : lw_At p s m meth c b L xs) (hG : gK G s) {i5 : Int32} (j1 : vp_in (i5 + 1) L) {w : va_W} {H : Heap} {locs : List Loc} (hw : LW G a x hi h0 h1 h2 w) (hP : va_P G.1 vwCl w H) (hD : va_D (lA s) w) (hS : va_S (lA s) s.heap H locs) {ls : Array Slot} (hl : lv_has ls 4 [(0, .ref b), (1, .ref x), (2, .ref (a 0)), (3, .int i5)]) (K : ∀ (w : va_W) (H : Heap) (locs : List Loc), LW G a x hi h0 h1 h2 w → va_P G.1 vwCl w H → va_D (lA s) w → va_S (lA s) s.heap H locs → W p l e room_1 s m #[Value.ref b] below meth c H locs 100 5000 (lw_Z below #[Value.ref b] s) (F0 m 750 ls [])) : W p l e room_1 s m #[Value.ref b] below meth c H locs 100 5000 (lw_Z below #[Value.ref b] s) (F0 m 346 ls []) := by
  obtain ⟨hx, hb, hr, hml, hown, hts0, hX, hbl, hlocks, hgv⟩ := C0
  have hts : ∀ w ∈ TB, w.before #[Value.ref b] s = true := fun w h => hts0 w (TB_in w h)
  have hA : ∀ q : Nat, s.heap.size ≤ q → lA s q := fun _ h => h
  have hbA : ¬ lA s b := Nat.not_le.mpr hbl
  obtain ⟨r, w1, w2, g5, ⟨fs6, e6⟩, g6, hw2⟩ := B_backfill l G a x hi h0 h1 h2 (xs (i5 + 1).toNatClampNeg) w hw
  obtain ⟨fs5, e5⟩ := hw.recv
  refine lv_aload_n hx hb dL_law_346 rfl (lv_at hl 1 rfl) ?_
  refine lv_aload_n hx hb dL_law_347 rfl (lv_at hl 0 rfl) ?_
  refine lv_iload_n hx hb dL_law_348 rfl (lv_at hl 3 rfl) ?_
  refine lv_iconst (v := (1 : Int32)) hx hb dL_law_349 (by decide) ?_
  refine lv_iadd hx hb dL_law_350 ?_
  refine va_sld hx hb hX hbl hbA hS j1 dL_law_351 ?_
  refine g_contW (ws := w) (w1 := w1) (st1 := [.int r]) (g_runVCN (As := [.int (xs (i5 + 1).toNatClampNeg)]) (rest := []) ⟨hx, hb, hml, hown, hts⟩ g5 (cwV 1 hts (TB_V TB_id tw_385 tw_386 tw_387 tw_49 tw_388) rfl rfl rfl (by decide +kernel) ⟨Nat.le_of_ble_eq_true rfl, Nat.le_of_ble_eq_true rfl⟩) hG hP hD 9 e5 rfl rfl hl.1 rfl (Nat.le_of_ble_eq_true rfl) dL_law_352 ⟨Nat.le_of_ble_eq_true rfl, Nat.le_of_ble_eq_true rfl⟩) rfl hD hS hA (fun H locs hP hD hS => ?_)
  refine lv_aload_n hx hb dL_law_355 rfl (lv_at hl 2 rfl) ?_
  refine lv_aload_n hx hb dL_law_356 rfl (lv_at hl 0 rfl) ?_
  refine lv_iload_n hx hb dL_law_357 rfl (lv_at hl 3 rfl) ?_
  refine lv_iconst (v := (1 : Int32)) hx hb dL_law_358 (by decide) ?_
  refine lv_iadd hx hb dL_law_359 ?_
  refine va_sld hx hb hX hbl hbA hS j1 dL_law_360 ?_
  refine g_contW (ws := w1) (w1 := w2) (st1 := [.int r, .int r]) (g_runVCN (As := [.int (xs (i5 + 1).toNatClampNeg)]) (rest := [.int r]) ⟨hx, hb, hml, hown, hts⟩ g6 (cwV 1 hts (TB_V TB_id tw_763 tw_764 tw_765 tw_54 tw_766) rfl rfl rfl (by decide +kernel) ⟨Nat.le_of_ble_eq_true rfl, Nat.le_of_ble_eq_true rfl⟩) hG hP hD 0 e6 rfl rfl hl.1 rfl (Nat.le_of_ble_eq_true rfl) dL_law_361 ⟨Nat.le_of_ble_eq_true rfl, Nat.le_of_ble_eq_true rfl⟩) rfl hD hS hA (fun H locs hP hD hS => ?_)
  refine lv_icmp_eq (tgt := 750) hx hb dL_law_364 (by decide) (fun _ => ?_) (fun c9 => absurd rfl c9)
  exact K w2 H locs hw2 hP hD hS
set_option maxRecDepth 20000 in
theorem lc_crash (C0 : lw_At p s m meth c b L xs) (hG : gK G s) {i5 : Int32}  {w : va_W} {H : Heap} {locs : List Loc} (hw : LW G a x hi h0 h1 h2 w) (hP : va_P G.1 vwCl w H) (hD : va_D (lA s) w) (hS : va_S (lA s) s.heap H locs) {ls : Array Slot} (hl : lv_has ls 4 [(0, .ref b), (1, .ref x), (2, .ref (a 0)), (3, .int i5)]) (K : ∀ (w : va_W) (H : Heap) (locs : List Loc), LW G a x hi h0 h1 h2 w → va_P G.1 vwCl w H → va_D (lA s) w → va_S (lA s) s.heap H locs → W p l e room_1 s m #[Value.ref b] below meth c H locs 100 5000 (lw_Z below #[Value.ref b] s) (F0 m 750 ls [])) : W p l e room_1 s m #[Value.ref b] below meth c H locs 100 5000 (lw_Z below #[Value.ref b] s) (F0 m 369 ls []) := by
  obtain ⟨hx, hb, hr, hml, hown, hts0, hX, hbl, hlocks, hgv⟩ := C0
  have hts : ∀ w ∈ TB, w.before #[Value.ref b] s = true := fun w h => hts0 w (TB_in w h)
  have hA : ∀ q : Nat, s.heap.size ≤ q → lA s q := fun _ h => h
  have hbA : ¬ lA s b := Nat.not_le.mpr hbl
  obtain ⟨r, w1, w2, g5, ⟨fs6, e6⟩, g6, hw2⟩ := B_crash l G a x hi h0 h1 h2  w hw
  obtain ⟨fs5, e5⟩ := hw.recv
  refine lv_aload_n hx hb dL_law_369 rfl (lv_at hl 1 rfl) ?_
  refine g_contW (ws := w) (w1 := w1) (st1 := [.int r]) (g_runVCN (As := []) (rest := []) ⟨hx, hb, hml, hown, hts⟩ g5 (cwV 0 hts (TB_V TB_id tw_398 tw_399 tw_400 tw_49 tw_401) rfl rfl rfl (by decide +kernel) ⟨Nat.le_of_ble_eq_true rfl, Nat.le_of_ble_eq_true rfl⟩) hG hP hD 9 e5 rfl rfl hl.1 rfl (Nat.le_of_ble_eq_true rfl) dL_law_370 ⟨Nat.le_of_ble_eq_true rfl, Nat.le_of_ble_eq_true rfl⟩) rfl hD hS hA (fun H locs hP hD hS => ?_)
  refine lv_aload_n hx hb dL_law_373 rfl (lv_at hl 2 rfl) ?_
  refine g_contW (ws := w1) (w1 := w2) (st1 := [.int r, .int r]) (g_runVCN (As := []) (rest := [.int r]) ⟨hx, hb, hml, hown, hts⟩ g6 (cwV 0 hts (TB_V TB_id tw_775 tw_776 tw_777 tw_54 tw_778) rfl rfl rfl (by decide +kernel) ⟨Nat.le_of_ble_eq_true rfl, Nat.le_of_ble_eq_true rfl⟩) hG hP hD 0 e6 rfl rfl hl.1 rfl (Nat.le_of_ble_eq_true rfl) dL_law_374 ⟨Nat.le_of_ble_eq_true rfl, Nat.le_of_ble_eq_true rfl⟩) rfl hD hS hA (fun H locs hP hD hS => ?_)
  refine lv_icmp_eq (tgt := 750) hx hb dL_law_377 (by decide) (fun _ => ?_) (fun c9 => absurd rfl c9)
  exact K w2 H locs hw2 hP hD hS
set_option maxRecDepth 20000 in
theorem lc_mend (C0 : lw_At p s m meth c b L xs) (hG : gK G s) {i5 : Int32} (j1 : vp_in (i5 + 1) L) {w : va_W} {H : Heap} {locs : List Loc} (hw : LW G a x hi h0 h1 h2 w) (hP : va_P G.1 vwCl w H) (hD : va_D (lA s) w) (hS : va_S (lA s) s.heap H locs) {ls : Array Slot} (hl : lv_has ls 4 [(0, .ref b), (1, .ref x), (2, .ref (a 0)), (3, .int i5)]) (K : ∀ (w : va_W) (H : Heap) (locs : List Loc), LW G a x hi h0 h1 h2 w → va_P G.1 vwCl w H → va_D (lA s) w → va_S (lA s) s.heap H locs → W p l e room_1 s m #[Value.ref b] below meth c H locs 100 5000 (lw_Z below #[Value.ref b] s) (F0 m 750 ls [])) : W p l e room_1 s m #[Value.ref b] below meth c H locs 100 5000 (lw_Z below #[Value.ref b] s) (F0 m 382 ls []) := by
  obtain ⟨hx, hb, hr, hml, hown, hts0, hX, hbl, hlocks, hgv⟩ := C0
  have hts : ∀ w ∈ TB, w.before #[Value.ref b] s = true := fun w h => hts0 w (TB_in w h)
  have hA : ∀ q : Nat, s.heap.size ≤ q → lA s q := fun _ h => h
  have hbA : ¬ lA s b := Nat.not_le.mpr hbl
  obtain ⟨r, w1, w2, g5, ⟨fs6, e6⟩, g6, hw2⟩ := B_mend l G a x hi h0 h1 h2 (xs (i5 + 1).toNatClampNeg) w hw
  obtain ⟨fs5, e5⟩ := hw.recv
  refine lv_aload_n hx hb dL_law_382 rfl (lv_at hl 1 rfl) ?_
  refine lv_aload_n hx hb dL_law_383 rfl (lv_at hl 0 rfl) ?_
  refine lv_iload_n hx hb dL_law_384 rfl (lv_at hl 3 rfl) ?_
  refine lv_iconst (v := (1 : Int32)) hx hb dL_law_385 (by decide) ?_
  refine lv_iadd hx hb dL_law_386 ?_
  refine va_sld hx hb hX hbl hbA hS j1 dL_law_387 ?_
  refine g_contW (ws := w) (w1 := w1) (st1 := [.int r]) (g_runVCN (As := [.int (xs (i5 + 1).toNatClampNeg)]) (rest := []) ⟨hx, hb, hml, hown, hts⟩ g5 (cwV 1 hts (TB_V TB_id tw_406 tw_407 tw_408 tw_49 tw_409) rfl rfl rfl (by decide +kernel) ⟨Nat.le_of_ble_eq_true rfl, Nat.le_of_ble_eq_true rfl⟩) hG hP hD 9 e5 rfl rfl hl.1 rfl (Nat.le_of_ble_eq_true rfl) dL_law_388 ⟨Nat.le_of_ble_eq_true rfl, Nat.le_of_ble_eq_true rfl⟩) rfl hD hS hA (fun H locs hP hD hS => ?_)
  refine lv_aload_n hx hb dL_law_391 rfl (lv_at hl 2 rfl) ?_
  refine lv_aload_n hx hb dL_law_392 rfl (lv_at hl 0 rfl) ?_
  refine lv_iload_n hx hb dL_law_393 rfl (lv_at hl 3 rfl) ?_
  refine lv_iconst (v := (1 : Int32)) hx hb dL_law_394 (by decide) ?_
  refine lv_iadd hx hb dL_law_395 ?_
  refine va_sld hx hb hX hbl hbA hS j1 dL_law_396 ?_
  refine g_contW (ws := w1) (w1 := w2) (st1 := [.int r, .int r]) (g_runVCN (As := [.int (xs (i5 + 1).toNatClampNeg)]) (rest := [.int r]) ⟨hx, hb, hml, hown, hts⟩ g6 (cwV 1 hts (TB_V TB_id tw_779 tw_780 tw_781 tw_54 tw_782) rfl rfl rfl (by decide +kernel) ⟨Nat.le_of_ble_eq_true rfl, Nat.le_of_ble_eq_true rfl⟩) hG hP hD 0 e6 rfl rfl hl.1 rfl (Nat.le_of_ble_eq_true rfl) dL_law_397 ⟨Nat.le_of_ble_eq_true rfl, Nat.le_of_ble_eq_true rfl⟩) rfl hD hS hA (fun H locs hP hD hS => ?_)
  refine lv_icmp_eq (tgt := 750) hx hb dL_law_400 (by decide) (fun _ => ?_) (fun c9 => absurd rfl c9)
  exact K w2 H locs hw2 hP hD hS
set_option maxRecDepth 20000 in
theorem lc_read (C0 : lw_At p s m meth c b L xs) (hG : gK G s) {i5 : Int32} (j1 : vp_in (i5 + 1) L) (j2 : vp_in (i5 + 2) L) (j3 : vp_in (i5 + 3) L) {w : va_W} {H : Heap} {locs : List Loc} (hw : LW G a x hi h0 h1 h2 w) (hP : va_P G.1 vwCl w H) (hD : va_D (lA s) w) (hS : va_S (lA s) s.heap H locs) {ls : Array Slot} (hl : lv_has ls 4 [(0, .ref b), (1, .ref x), (2, .ref (a 0)), (3, .int i5)]) (K : ∀ (w : va_W) (H : Heap) (locs : List Loc), LW G a x hi h0 h1 h2 w → va_P G.1 vwCl w H → va_D (lA s) w → va_S (lA s) s.heap H locs → W p l e room_1 s m #[Value.ref b] below meth c H locs 100 5000 (lw_Z below #[Value.ref b] s) (F0 m 750 ls [])) : W p l e room_1 s m #[Value.ref b] below meth c H locs 100 5000 (lw_Z below #[Value.ref b] s) (F0 m 405 ls []) := by
  obtain ⟨hx, hb, hr, hml, hown, hts0, hX, hbl, hlocks, hgv⟩ := C0
  have hts : ∀ w ∈ TB, w.before #[Value.ref b] s = true := fun w h => hts0 w (TB_in w h)
  have hA : ∀ q : Nat, s.heap.size ≤ q → lA s q := fun _ h => h
  have hbA : ¬ lA s b := Nat.not_le.mpr hbl
  obtain ⟨r, w1, w2, g5, ⟨fs6, e6⟩, g6, hw2⟩ := B_read l G a x hi h0 h1 h2 (xs (i5 + 1).toNatClampNeg) (xs (i5 + 2).toNatClampNeg) (xs (i5 + 3).toNatClampNeg) w hw
  obtain ⟨fs5, e5⟩ := hw.recv
  refine lv_aload_n hx hb dL_law_405 rfl (lv_at hl 1 rfl) ?_
  refine lv_aload_n hx hb dL_law_406 rfl (lv_at hl 0 rfl) ?_
  refine lv_iload_n hx hb dL_law_407 rfl (lv_at hl 3 rfl) ?_
  refine lv_iconst (v := (1 : Int32)) hx hb dL_law_408 (by decide) ?_
  refine lv_iadd hx hb dL_law_409 ?_
  refine va_sld hx hb hX hbl hbA hS j1 dL_law_410 ?_
  refine lv_aload_n hx hb dL_law_411 rfl (lv_at hl 0 rfl) ?_
  refine lv_iload_n hx hb dL_law_412 rfl (lv_at hl 3 rfl) ?_
  refine lv_iconst (v := (2 : Int32)) hx hb dL_law_413 (by decide) ?_
  refine lv_iadd hx hb dL_law_414 ?_
  refine va_sld hx hb hX hbl hbA hS j2 dL_law_415 ?_
  refine lv_aload_n hx hb dL_law_416 rfl (lv_at hl 0 rfl) ?_
  refine lv_iload_n hx hb dL_law_417 rfl (lv_at hl 3 rfl) ?_
  refine lv_iconst (v := (3 : Int32)) hx hb dL_law_418 (by decide) ?_
  refine lv_iadd hx hb dL_law_419 ?_
  refine va_sld hx hb hX hbl hbA hS j3 dL_law_420 ?_
  refine g_contW (ws := w) (w1 := w1) (st1 := [.int r]) (g_runVCN (As := [.int (xs (i5 + 1).toNatClampNeg), .int (xs (i5 + 2).toNatClampNeg), .int (xs (i5 + 3).toNatClampNeg)]) (rest := []) ⟨hx, hb, hml, hown, hts⟩ g5 (cwV 3 hts (TB_V TB_id tw_422 tw_423 tw_424 tw_49 tw_425) rfl rfl rfl (by decide +kernel) ⟨Nat.le_of_ble_eq_true rfl, Nat.le_of_ble_eq_true rfl⟩) hG hP hD 9 e5 rfl rfl hl.1 rfl (Nat.le_of_ble_eq_true rfl) dL_law_421 ⟨Nat.le_of_ble_eq_true rfl, Nat.le_of_ble_eq_true rfl⟩) rfl hD hS hA (fun H locs hP hD hS => ?_)
  refine lv_aload_n hx hb dL_law_424 rfl (lv_at hl 2 rfl) ?_
  refine lv_aload_n hx hb dL_law_425 rfl (lv_at hl 0 rfl) ?_
  refine lv_iload_n hx hb dL_law_426 rfl (lv_at hl 3 rfl) ?_
  refine lv_iconst (v := (1 : Int32)) hx hb dL_law_427 (by decide) ?_
  refine lv_iadd hx hb dL_law_428 ?_
  refine va_sld hx hb hX hbl hbA hS j1 dL_law_429 ?_
  refine lv_aload_n hx hb dL_law_430 rfl (lv_at hl 0 rfl) ?_
  refine lv_iload_n hx hb dL_law_431 rfl (lv_at hl 3 rfl) ?_
  refine lv_iconst (v := (2 : Int32)) hx hb dL_law_432 (by decide) ?_
  refine lv_iadd hx hb dL_law_433 ?_
  refine va_sld hx hb hX hbl hbA hS j2 dL_law_434 ?_
  refine lv_aload_n hx hb dL_law_435 rfl (lv_at hl 0 rfl) ?_
  refine lv_iload_n hx hb dL_law_436 rfl (lv_at hl 3 rfl) ?_
  refine lv_iconst (v := (3 : Int32)) hx hb dL_law_437 (by decide) ?_
  refine lv_iadd hx hb dL_law_438 ?_
  refine va_sld hx hb hX hbl hbA hS j3 dL_law_439 ?_
  refine g_contW (ws := w1) (w1 := w2) (st1 := [.int r, .int r]) (g_runVCN (As := [.int (xs (i5 + 1).toNatClampNeg), .int (xs (i5 + 2).toNatClampNeg), .int (xs (i5 + 3).toNatClampNeg)]) (rest := [.int r]) ⟨hx, hb, hml, hown, hts⟩ g6 (cwV 3 hts (TB_V TB_id tw_791 tw_792 tw_793 tw_54 tw_794) rfl rfl rfl (by decide +kernel) ⟨Nat.le_of_ble_eq_true rfl, Nat.le_of_ble_eq_true rfl⟩) hG hP hD 0 e6 rfl rfl hl.1 rfl (Nat.le_of_ble_eq_true rfl) dL_law_440 ⟨Nat.le_of_ble_eq_true rfl, Nat.le_of_ble_eq_true rfl⟩) rfl hD hS hA (fun H locs hP hD hS => ?_)
  refine lv_icmp_eq (tgt := 750) hx hb dL_law_443 (by decide) (fun _ => ?_) (fun c9 => absurd rfl c9)
  exact K w2 H locs hw2 hP hD hS
set_option maxRecDepth 20000 in
theorem lc_shapeOf (C0 : lw_At p s m meth c b L xs) (hG : gK G s) {i5 : Int32} (j1 : vp_in (i5 + 1) L) (j2 : vp_in (i5 + 2) L) (j3 : vp_in (i5 + 3) L) {w : va_W} {H : Heap} {locs : List Loc} (hw : LW G a x hi h0 h1 h2 w) (hP : va_P G.1 vwCl w H) (hD : va_D (lA s) w) (hS : va_S (lA s) s.heap H locs) {ls : Array Slot} (hl : lv_has ls 4 [(0, .ref b), (1, .ref x), (2, .ref (a 0)), (3, .int i5)]) (K : ∀ (w : va_W) (H : Heap) (locs : List Loc), LW G a x hi h0 h1 h2 w → va_P G.1 vwCl w H → va_D (lA s) w → va_S (lA s) s.heap H locs → W p l e room_1 s m #[Value.ref b] below meth c H locs 100 5000 (lw_Z below #[Value.ref b] s) (F0 m 750 ls [])) : W p l e room_1 s m #[Value.ref b] below meth c H locs 100 5000 (lw_Z below #[Value.ref b] s) (F0 m 448 ls []) := by
  obtain ⟨hx, hb, hr, hml, hown, hts0, hX, hbl, hlocks, hgv⟩ := C0
  have hts : ∀ w ∈ TB, w.before #[Value.ref b] s = true := fun w h => hts0 w (TB_in w h)
  have hA : ∀ q : Nat, s.heap.size ≤ q → lA s q := fun _ h => h
  have hbA : ¬ lA s b := Nat.not_le.mpr hbl
  obtain ⟨r, w1, w2, g5, ⟨fs6, e6⟩, g6, hw2⟩ := B_shapeOf l G a x hi h0 h1 h2 (xs (i5 + 1).toNatClampNeg) (xs (i5 + 2).toNatClampNeg) (xs (i5 + 3).toNatClampNeg) w hw
  obtain ⟨fs5, e5⟩ := hw.recv
  refine lv_aload_n hx hb dL_law_448 rfl (lv_at hl 1 rfl) ?_
  refine lv_aload_n hx hb dL_law_449 rfl (lv_at hl 0 rfl) ?_
  refine lv_iload_n hx hb dL_law_450 rfl (lv_at hl 3 rfl) ?_
  refine lv_iconst (v := (1 : Int32)) hx hb dL_law_451 (by decide) ?_
  refine lv_iadd hx hb dL_law_452 ?_
  refine va_sld hx hb hX hbl hbA hS j1 dL_law_453 ?_
  refine lv_aload_n hx hb dL_law_454 rfl (lv_at hl 0 rfl) ?_
  refine lv_iload_n hx hb dL_law_455 rfl (lv_at hl 3 rfl) ?_
  refine lv_iconst (v := (2 : Int32)) hx hb dL_law_456 (by decide) ?_
  refine lv_iadd hx hb dL_law_457 ?_
  refine va_sld hx hb hX hbl hbA hS j2 dL_law_458 ?_
  refine lv_aload_n hx hb dL_law_459 rfl (lv_at hl 0 rfl) ?_
  refine lv_iload_n hx hb dL_law_460 rfl (lv_at hl 3 rfl) ?_
  refine lv_iconst (v := (3 : Int32)) hx hb dL_law_461 (by decide) ?_
  refine lv_iadd hx hb dL_law_462 ?_
  refine va_sld hx hb hX hbl hbA hS j3 dL_law_463 ?_
  refine g_contW (ws := w) (w1 := w1) (st1 := [.int r]) (g_runVCN (As := [.int (xs (i5 + 1).toNatClampNeg), .int (xs (i5 + 2).toNatClampNeg), .int (xs (i5 + 3).toNatClampNeg)]) (rest := []) ⟨hx, hb, hml, hown, hts⟩ g5 (cwV 3 hts (TB_V TB_id tw_440 tw_441 tw_442 tw_49 tw_443) rfl rfl rfl (by decide +kernel) ⟨Nat.le_of_ble_eq_true rfl, Nat.le_of_ble_eq_true rfl⟩) hG hP hD 9 e5 rfl rfl hl.1 rfl (Nat.le_of_ble_eq_true rfl) dL_law_464 ⟨Nat.le_of_ble_eq_true rfl, Nat.le_of_ble_eq_true rfl⟩) rfl hD hS hA (fun H locs hP hD hS => ?_)
  refine lv_aload_n hx hb dL_law_467 rfl (lv_at hl 2 rfl) ?_
  refine lv_aload_n hx hb dL_law_468 rfl (lv_at hl 0 rfl) ?_
  refine lv_iload_n hx hb dL_law_469 rfl (lv_at hl 3 rfl) ?_
  refine lv_iconst (v := (1 : Int32)) hx hb dL_law_470 (by decide) ?_
  refine lv_iadd hx hb dL_law_471 ?_
  refine va_sld hx hb hX hbl hbA hS j1 dL_law_472 ?_
  refine lv_aload_n hx hb dL_law_473 rfl (lv_at hl 0 rfl) ?_
  refine lv_iload_n hx hb dL_law_474 rfl (lv_at hl 3 rfl) ?_
  refine lv_iconst (v := (2 : Int32)) hx hb dL_law_475 (by decide) ?_
  refine lv_iadd hx hb dL_law_476 ?_
  refine va_sld hx hb hX hbl hbA hS j2 dL_law_477 ?_
  refine lv_aload_n hx hb dL_law_478 rfl (lv_at hl 0 rfl) ?_
  refine lv_iload_n hx hb dL_law_479 rfl (lv_at hl 3 rfl) ?_
  refine lv_iconst (v := (3 : Int32)) hx hb dL_law_480 (by decide) ?_
  refine lv_iadd hx hb dL_law_481 ?_
  refine va_sld hx hb hX hbl hbA hS j3 dL_law_482 ?_
  refine g_contW (ws := w1) (w1 := w2) (st1 := [.int r, .int r]) (g_runVCN (As := [.int (xs (i5 + 1).toNatClampNeg), .int (xs (i5 + 2).toNatClampNeg), .int (xs (i5 + 3).toNatClampNeg)]) (rest := [.int r]) ⟨hx, hb, hml, hown, hts⟩ g6 (cwV 3 hts (TB_V TB_id tw_804 tw_805 tw_806 tw_54 tw_807) rfl rfl rfl (by decide +kernel) ⟨Nat.le_of_ble_eq_true rfl, Nat.le_of_ble_eq_true rfl⟩) hG hP hD 0 e6 rfl rfl hl.1 rfl (Nat.le_of_ble_eq_true rfl) dL_law_483 ⟨Nat.le_of_ble_eq_true rfl, Nat.le_of_ble_eq_true rfl⟩) rfl hD hS hA (fun H locs hP hD hS => ?_)
  refine lv_icmp_eq (tgt := 750) hx hb dL_law_486 (by decide) (fun _ => ?_) (fun c9 => absurd rfl c9)
  exact K w2 H locs hw2 hP hD hS
set_option maxRecDepth 20000 in
theorem lc_queued (C0 : lw_At p s m meth c b L xs) (hG : gK G s) {i5 : Int32} (j1 : vp_in (i5 + 1) L) (j2 : vp_in (i5 + 2) L) {w : va_W} {H : Heap} {locs : List Loc} (hw : LW G a x hi h0 h1 h2 w) (hP : va_P G.1 vwCl w H) (hD : va_D (lA s) w) (hS : va_S (lA s) s.heap H locs) {ls : Array Slot} (hl : lv_has ls 4 [(0, .ref b), (1, .ref x), (2, .ref (a 0)), (3, .int i5)]) (K : ∀ (w : va_W) (H : Heap) (locs : List Loc), LW G a x hi h0 h1 h2 w → va_P G.1 vwCl w H → va_D (lA s) w → va_S (lA s) s.heap H locs → W p l e room_1 s m #[Value.ref b] below meth c H locs 100 5000 (lw_Z below #[Value.ref b] s) (F0 m 750 ls [])) : W p l e room_1 s m #[Value.ref b] below meth c H locs 100 5000 (lw_Z below #[Value.ref b] s) (F0 m 491 ls []) := by
  obtain ⟨hx, hb, hr, hml, hown, hts0, hX, hbl, hlocks, hgv⟩ := C0
  have hts : ∀ w ∈ TB, w.before #[Value.ref b] s = true := fun w h => hts0 w (TB_in w h)
  have hA : ∀ q : Nat, s.heap.size ≤ q → lA s q := fun _ h => h
  have hbA : ¬ lA s b := Nat.not_le.mpr hbl
  obtain ⟨r, w1, w2, g5, ⟨fs6, e6⟩, g6, hw2⟩ := B_queued l G a x hi h0 h1 h2 (xs (i5 + 1).toNatClampNeg) (xs (i5 + 2).toNatClampNeg) w hw
  obtain ⟨fs5, e5⟩ := hw.recv
  refine lv_aload_n hx hb dL_law_491 rfl (lv_at hl 1 rfl) ?_
  refine lv_aload_n hx hb dL_law_492 rfl (lv_at hl 0 rfl) ?_
  refine lv_iload_n hx hb dL_law_493 rfl (lv_at hl 3 rfl) ?_
  refine lv_iconst (v := (1 : Int32)) hx hb dL_law_494 (by decide) ?_
  refine lv_iadd hx hb dL_law_495 ?_
  refine va_sld hx hb hX hbl hbA hS j1 dL_law_496 ?_
  refine lv_aload_n hx hb dL_law_497 rfl (lv_at hl 0 rfl) ?_
  refine lv_iload_n hx hb dL_law_498 rfl (lv_at hl 3 rfl) ?_
  refine lv_iconst (v := (2 : Int32)) hx hb dL_law_499 (by decide) ?_
  refine lv_iadd hx hb dL_law_500 ?_
  refine va_sld hx hb hX hbl hbA hS j2 dL_law_501 ?_
  refine g_contW (ws := w) (w1 := w1) (st1 := [.int r]) (g_runVCN (As := [.int (xs (i5 + 1).toNatClampNeg), .int (xs (i5 + 2).toNatClampNeg)]) (rest := []) ⟨hx, hb, hml, hown, hts⟩ g5 (cwV 2 hts (TB_V TB_id tw_447 tw_448 tw_449 tw_49 tw_450) rfl rfl rfl (by decide +kernel) ⟨Nat.le_of_ble_eq_true rfl, Nat.le_of_ble_eq_true rfl⟩) hG hP hD 9 e5 rfl rfl hl.1 rfl (Nat.le_of_ble_eq_true rfl) dL_law_502 ⟨Nat.le_of_ble_eq_true rfl, Nat.le_of_ble_eq_true rfl⟩) rfl hD hS hA (fun H locs hP hD hS => ?_)
  refine lv_aload_n hx hb dL_law_505 rfl (lv_at hl 2 rfl) ?_
  refine lv_aload_n hx hb dL_law_506 rfl (lv_at hl 0 rfl) ?_
  refine lv_iload_n hx hb dL_law_507 rfl (lv_at hl 3 rfl) ?_
  refine lv_iconst (v := (1 : Int32)) hx hb dL_law_508 (by decide) ?_
  refine lv_iadd hx hb dL_law_509 ?_
  refine va_sld hx hb hX hbl hbA hS j1 dL_law_510 ?_
  refine lv_aload_n hx hb dL_law_511 rfl (lv_at hl 0 rfl) ?_
  refine lv_iload_n hx hb dL_law_512 rfl (lv_at hl 3 rfl) ?_
  refine lv_iconst (v := (2 : Int32)) hx hb dL_law_513 (by decide) ?_
  refine lv_iadd hx hb dL_law_514 ?_
  refine va_sld hx hb hX hbl hbA hS j2 dL_law_515 ?_
  refine g_contW (ws := w1) (w1 := w2) (st1 := [.int r, .int r]) (g_runVCN (As := [.int (xs (i5 + 1).toNatClampNeg), .int (xs (i5 + 2).toNatClampNeg)]) (rest := [.int r]) ⟨hx, hb, hml, hown, hts⟩ g6 (cwV 2 hts (TB_V TB_id tw_808 tw_809 tw_810 tw_54 tw_811) rfl rfl rfl (by decide +kernel) ⟨Nat.le_of_ble_eq_true rfl, Nat.le_of_ble_eq_true rfl⟩) hG hP hD 0 e6 rfl rfl hl.1 rfl (Nat.le_of_ble_eq_true rfl) dL_law_516 ⟨Nat.le_of_ble_eq_true rfl, Nat.le_of_ble_eq_true rfl⟩) rfl hD hS hA (fun H locs hP hD hS => ?_)
  refine lv_icmp_eq (tgt := 750) hx hb dL_law_519 (by decide) (fun _ => ?_) (fun c9 => absurd rfl c9)
  exact K w2 H locs hw2 hP hD hS
set_option maxRecDepth 20000 in
theorem lc_keys (C0 : lw_At p s m meth c b L xs) (hG : gK G s) {i5 : Int32} (j1 : vp_in (i5 + 1) L) {w : va_W} {H : Heap} {locs : List Loc} (hw : LW G a x hi h0 h1 h2 w) (hP : va_P G.1 vwCl w H) (hD : va_D (lA s) w) (hS : va_S (lA s) s.heap H locs) {ls : Array Slot} (hl : lv_has ls 4 [(0, .ref b), (1, .ref x), (2, .ref (a 0)), (3, .int i5)]) (K : ∀ (w : va_W) (H : Heap) (locs : List Loc), LW G a x hi h0 h1 h2 w → va_P G.1 vwCl w H → va_D (lA s) w → va_S (lA s) s.heap H locs → W p l e room_1 s m #[Value.ref b] below meth c H locs 100 5000 (lw_Z below #[Value.ref b] s) (F0 m 750 ls [])) : W p l e room_1 s m #[Value.ref b] below meth c H locs 100 5000 (lw_Z below #[Value.ref b] s) (F0 m 524 ls []) := by
  obtain ⟨hx, hb, hr, hml, hown, hts0, hX, hbl, hlocks, hgv⟩ := C0
  have hts : ∀ w ∈ TB, w.before #[Value.ref b] s = true := fun w h => hts0 w (TB_in w h)
  have hA : ∀ q : Nat, s.heap.size ≤ q → lA s q := fun _ h => h
  have hbA : ¬ lA s b := Nat.not_le.mpr hbl
  obtain ⟨r, w1, w2, g5, ⟨fs6, e6⟩, g6, hw2⟩ := B_keys l G a x hi h0 h1 h2 (xs (i5 + 1).toNatClampNeg) w hw
  obtain ⟨fs5, e5⟩ := hw.recv
  refine lv_aload_n hx hb dL_law_524 rfl (lv_at hl 1 rfl) ?_
  refine lv_aload_n hx hb dL_law_525 rfl (lv_at hl 0 rfl) ?_
  refine lv_iload_n hx hb dL_law_526 rfl (lv_at hl 3 rfl) ?_
  refine lv_iconst (v := (1 : Int32)) hx hb dL_law_527 (by decide) ?_
  refine lv_iadd hx hb dL_law_528 ?_
  refine va_sld hx hb hX hbl hbA hS j1 dL_law_529 ?_
  refine g_contW (ws := w) (w1 := w1) (st1 := [.int r]) (g_runVCN (As := [.int (xs (i5 + 1).toNatClampNeg)]) (rest := []) ⟨hx, hb, hml, hown, hts⟩ g5 (cwV 1 hts (TB_V TB_id tw_452 tw_453 tw_454 tw_49 tw_455) rfl rfl rfl (by decide +kernel) ⟨Nat.le_of_ble_eq_true rfl, Nat.le_of_ble_eq_true rfl⟩) hG hP hD 9 e5 rfl rfl hl.1 rfl (Nat.le_of_ble_eq_true rfl) dL_law_530 ⟨Nat.le_of_ble_eq_true rfl, Nat.le_of_ble_eq_true rfl⟩) rfl hD hS hA (fun H locs hP hD hS => ?_)
  refine lv_aload_n hx hb dL_law_533 rfl (lv_at hl 2 rfl) ?_
  refine lv_aload_n hx hb dL_law_534 rfl (lv_at hl 0 rfl) ?_
  refine lv_iload_n hx hb dL_law_535 rfl (lv_at hl 3 rfl) ?_
  refine lv_iconst (v := (1 : Int32)) hx hb dL_law_536 (by decide) ?_
  refine lv_iadd hx hb dL_law_537 ?_
  refine va_sld hx hb hX hbl hbA hS j1 dL_law_538 ?_
  refine g_contW (ws := w1) (w1 := w2) (st1 := [.int r, .int r]) (g_runVCN (As := [.int (xs (i5 + 1).toNatClampNeg)]) (rest := [.int r]) ⟨hx, hb, hml, hown, hts⟩ g6 (cwV 1 hts (TB_V TB_id tw_812 tw_813 tw_814 tw_54 tw_815) rfl rfl rfl (by decide +kernel) ⟨Nat.le_of_ble_eq_true rfl, Nat.le_of_ble_eq_true rfl⟩) hG hP hD 0 e6 rfl rfl hl.1 rfl (Nat.le_of_ble_eq_true rfl) dL_law_539 ⟨Nat.le_of_ble_eq_true rfl, Nat.le_of_ble_eq_true rfl⟩) rfl hD hS hA (fun H locs hP hD hS => ?_)
  refine lv_icmp_eq (tgt := 750) hx hb dL_law_542 (by decide) (fun _ => ?_) (fun c9 => absurd rfl c9)
  exact K w2 H locs hw2 hP hD hS
set_option maxRecDepth 20000 in
theorem lc_check (C0 : lw_At p s m meth c b L xs) (hG : gK G s) {i5 : Int32}  {w : va_W} {H : Heap} {locs : List Loc} (hw : LW G a x hi h0 h1 h2 w) (hP : va_P G.1 vwCl w H) (hD : va_D (lA s) w) (hS : va_S (lA s) s.heap H locs) {ls : Array Slot} (hl : lv_has ls 4 [(0, .ref b), (1, .ref x), (2, .ref (a 0)), (3, .int i5)]) (K : ∀ (w : va_W) (H : Heap) (locs : List Loc), LW G a x hi h0 h1 h2 w → va_P G.1 vwCl w H → va_D (lA s) w → va_S (lA s) s.heap H locs → W p l e room_1 s m #[Value.ref b] below meth c H locs 100 5000 (lw_Z below #[Value.ref b] s) (F0 m 750 ls [])) : W p l e room_1 s m #[Value.ref b] below meth c H locs 100 5000 (lw_Z below #[Value.ref b] s) (F0 m 547 ls []) := by
  obtain ⟨hx, hb, hr, hml, hown, hts0, hX, hbl, hlocks, hgv⟩ := C0
  have hts : ∀ w ∈ TB, w.before #[Value.ref b] s = true := fun w h => hts0 w (TB_in w h)
  have hA : ∀ q : Nat, s.heap.size ≤ q → lA s q := fun _ h => h
  have hbA : ¬ lA s b := Nat.not_le.mpr hbl
  obtain ⟨r, w1, w2, g5, ⟨fs6, e6⟩, g6, hw2⟩ := B_check l G a x hi h0 h1 h2  w hw
  obtain ⟨fs5, e5⟩ := hw.recv
  refine lv_aload_n hx hb dL_law_547 rfl (lv_at hl 1 rfl) ?_
  refine g_contW (ws := w) (w1 := w1) (st1 := [.int r]) (g_runVCN (As := []) (rest := []) ⟨hx, hb, hml, hown, hts⟩ g5 (cwV 0 hts (TB_V TB_id tw_461 tw_462 tw_463 tw_49 tw_464) rfl rfl rfl (by decide +kernel) ⟨Nat.le_of_ble_eq_true rfl, Nat.le_of_ble_eq_true rfl⟩) hG hP hD 9 e5 rfl rfl hl.1 rfl (Nat.le_of_ble_eq_true rfl) dL_law_548 ⟨Nat.le_of_ble_eq_true rfl, Nat.le_of_ble_eq_true rfl⟩) rfl hD hS hA (fun H locs hP hD hS => ?_)
  refine lv_aload_n hx hb dL_law_551 rfl (lv_at hl 2 rfl) ?_
  refine g_contW (ws := w1) (w1 := w2) (st1 := [.int r, .int r]) (g_runVCN (As := []) (rest := [.int r]) ⟨hx, hb, hml, hown, hts⟩ g6 (cwV 0 hts (TB_V TB_id tw_820 tw_821 tw_822 tw_54 tw_823) rfl rfl rfl (by decide +kernel) ⟨Nat.le_of_ble_eq_true rfl, Nat.le_of_ble_eq_true rfl⟩) hG hP hD 0 e6 rfl rfl hl.1 rfl (Nat.le_of_ble_eq_true rfl) dL_law_552 ⟨Nat.le_of_ble_eq_true rfl, Nat.le_of_ble_eq_true rfl⟩) rfl hD hS hA (fun H locs hP hD hS => ?_)
  refine lv_icmp_eq (tgt := 750) hx hb dL_law_555 (by decide) (fun _ => ?_) (fun c9 => absurd rfl c9)
  exact K w2 H locs hw2 hP hD hS
set_option maxRecDepth 20000 in
theorem lc_quarrel (C0 : lw_At p s m meth c b L xs) (hG : gK G s) {i5 : Int32}  {w : va_W} {H : Heap} {locs : List Loc} (hw : LW G a x hi h0 h1 h2 w) (hP : va_P G.1 vwCl w H) (hD : va_D (lA s) w) (hS : va_S (lA s) s.heap H locs) {ls : Array Slot} (hl : lv_has ls 4 [(0, .ref b), (1, .ref x), (2, .ref (a 0)), (3, .int i5)]) (K : ∀ (w : va_W) (H : Heap) (locs : List Loc), LW G a x hi h0 h1 h2 w → va_P G.1 vwCl w H → va_D (lA s) w → va_S (lA s) s.heap H locs → W p l e room_1 s m #[Value.ref b] below meth c H locs 100 5000 (lw_Z below #[Value.ref b] s) (F0 m 750 ls [])) : W p l e room_1 s m #[Value.ref b] below meth c H locs 100 5000 (lw_Z below #[Value.ref b] s) (F0 m 560 ls []) := by
  obtain ⟨hx, hb, hr, hml, hown, hts0, hX, hbl, hlocks, hgv⟩ := C0
  have hts : ∀ w ∈ TB, w.before #[Value.ref b] s = true := fun w h => hts0 w (TB_in w h)
  have hA : ∀ q : Nat, s.heap.size ≤ q → lA s q := fun _ h => h
  have hbA : ¬ lA s b := Nat.not_le.mpr hbl
  obtain ⟨r, w1, w2, g5, ⟨fs6, e6⟩, g6, hw2⟩ := B_quarrel l G a x hi h0 h1 h2  w hw
  obtain ⟨fs5, e5⟩ := hw.recv
  refine lv_aload_n hx hb dL_law_560 rfl (lv_at hl 1 rfl) ?_
  refine g_contW (ws := w) (w1 := w1) (st1 := [.int r]) (g_runVCN (As := []) (rest := []) ⟨hx, hb, hml, hown, hts⟩ g5 (cwV 0 hts (TB_V TB_id tw_467 tw_468 tw_469 tw_49 tw_470) rfl rfl rfl (by decide +kernel) ⟨Nat.le_of_ble_eq_true rfl, Nat.le_of_ble_eq_true rfl⟩) hG hP hD 9 e5 rfl rfl hl.1 rfl (Nat.le_of_ble_eq_true rfl) dL_law_561 ⟨Nat.le_of_ble_eq_true rfl, Nat.le_of_ble_eq_true rfl⟩) rfl hD hS hA (fun H locs hP hD hS => ?_)
  refine lv_aload_n hx hb dL_law_564 rfl (lv_at hl 2 rfl) ?_
  refine g_contW (ws := w1) (w1 := w2) (st1 := [.int r, .int r]) (g_runVCN (As := []) (rest := [.int r]) ⟨hx, hb, hml, hown, hts⟩ g6 (cwV 0 hts (TB_V TB_id tw_824 tw_825 tw_826 tw_54 tw_827) rfl rfl rfl (by decide +kernel) ⟨Nat.le_of_ble_eq_true rfl, Nat.le_of_ble_eq_true rfl⟩) hG hP hD 0 e6 rfl rfl hl.1 rfl (Nat.le_of_ble_eq_true rfl) dL_law_565 ⟨Nat.le_of_ble_eq_true rfl, Nat.le_of_ble_eq_true rfl⟩) rfl hD hS hA (fun H locs hP hD hS => ?_)
  refine lv_icmp_eq (tgt := 750) hx hb dL_law_568 (by decide) (fun _ => ?_) (fun c9 => absurd rfl c9)
  exact K w2 H locs hw2 hP hD hS
set_option maxRecDepth 20000 in
theorem lc_atRisk (C0 : lw_At p s m meth c b L xs) (hG : gK G s) {i5 : Int32}  {w : va_W} {H : Heap} {locs : List Loc} (hw : LW G a x hi h0 h1 h2 w) (hP : va_P G.1 vwCl w H) (hD : va_D (lA s) w) (hS : va_S (lA s) s.heap H locs) {ls : Array Slot} (hl : lv_has ls 4 [(0, .ref b), (1, .ref x), (2, .ref (a 0)), (3, .int i5)]) (K : ∀ (w : va_W) (H : Heap) (locs : List Loc), LW G a x hi h0 h1 h2 w → va_P G.1 vwCl w H → va_D (lA s) w → va_S (lA s) s.heap H locs → W p l e room_1 s m #[Value.ref b] below meth c H locs 100 5000 (lw_Z below #[Value.ref b] s) (F0 m 750 ls [])) : W p l e room_1 s m #[Value.ref b] below meth c H locs 100 5000 (lw_Z below #[Value.ref b] s) (F0 m 573 ls []) := by
  obtain ⟨hx, hb, hr, hml, hown, hts0, hX, hbl, hlocks, hgv⟩ := C0
  have hts : ∀ w ∈ TB, w.before #[Value.ref b] s = true := fun w h => hts0 w (TB_in w h)
  have hA : ∀ q : Nat, s.heap.size ≤ q → lA s q := fun _ h => h
  have hbA : ¬ lA s b := Nat.not_le.mpr hbl
  obtain ⟨r, w1, w2, g5, ⟨fs6, e6⟩, g6, hw2⟩ := B_atRisk l G a x hi h0 h1 h2  w hw
  obtain ⟨fs5, e5⟩ := hw.recv
  refine lv_aload_n hx hb dL_law_573 rfl (lv_at hl 1 rfl) ?_
  refine g_contW (ws := w) (w1 := w1) (st1 := [.int r]) (g_runVCN (As := []) (rest := []) ⟨hx, hb, hml, hown, hts⟩ g5 (cwV 0 hts (TB_V TB_id tw_475 tw_476 tw_477 tw_49 tw_478) rfl rfl rfl (by decide +kernel) ⟨Nat.le_of_ble_eq_true rfl, Nat.le_of_ble_eq_true rfl⟩) hG hP hD 9 e5 rfl rfl hl.1 rfl (Nat.le_of_ble_eq_true rfl) dL_law_574 ⟨Nat.le_of_ble_eq_true rfl, Nat.le_of_ble_eq_true rfl⟩) rfl hD hS hA (fun H locs hP hD hS => ?_)
  refine lv_aload_n hx hb dL_law_577 rfl (lv_at hl 2 rfl) ?_
  refine g_contW (ws := w1) (w1 := w2) (st1 := [.int r, .int r]) (g_runVCN (As := []) (rest := [.int r]) ⟨hx, hb, hml, hown, hts⟩ g6 (cwV 0 hts (TB_V TB_id tw_832 tw_833 tw_834 tw_54 tw_835) rfl rfl rfl (by decide +kernel) ⟨Nat.le_of_ble_eq_true rfl, Nat.le_of_ble_eq_true rfl⟩) hG hP hD 0 e6 rfl rfl hl.1 rfl (Nat.le_of_ble_eq_true rfl) dL_law_578 ⟨Nat.le_of_ble_eq_true rfl, Nat.le_of_ble_eq_true rfl⟩) rfl hD hS hA (fun H locs hP hD hS => ?_)
  refine lv_icmp_eq (tgt := 750) hx hb dL_law_581 (by decide) (fun _ => ?_) (fun c9 => absurd rfl c9)
  exact K w2 H locs hw2 hP hD hS
set_option maxRecDepth 20000 in
theorem lc_walk (C0 : lw_At p s m meth c b L xs) (hG : gK G s) {i5 : Int32} (j1 : vp_in (i5 + 1) L) (j2 : vp_in (i5 + 2) L) {w : va_W} {H : Heap} {locs : List Loc} (hw : LW G a x hi h0 h1 h2 w) (hP : va_P G.1 vwCl w H) (hD : va_D (lA s) w) (hS : va_S (lA s) s.heap H locs) {ls : Array Slot} (hl : lv_has ls 4 [(0, .ref b), (1, .ref x), (2, .ref (a 0)), (3, .int i5)]) (K : ∀ (w : va_W) (H : Heap) (locs : List Loc), LW G a x hi h0 h1 h2 w → va_P G.1 vwCl w H → va_D (lA s) w → va_S (lA s) s.heap H locs → W p l e room_1 s m #[Value.ref b] below meth c H locs 100 5000 (lw_Z below #[Value.ref b] s) (F0 m 750 ls [])) : W p l e room_1 s m #[Value.ref b] below meth c H locs 100 5000 (lw_Z below #[Value.ref b] s) (F0 m 586 ls []) := by
  obtain ⟨hx, hb, hr, hml, hown, hts0, hX, hbl, hlocks, hgv⟩ := C0
  have hts : ∀ w ∈ TB, w.before #[Value.ref b] s = true := fun w h => hts0 w (TB_in w h)
  have hA : ∀ q : Nat, s.heap.size ≤ q → lA s q := fun _ h => h
  have hbA : ¬ lA s b := Nat.not_le.mpr hbl
  obtain ⟨r, w1, w2, g5, ⟨fs6, e6⟩, g6, hw2⟩ := B_walk l G a x hi h0 h1 h2 (xs (i5 + 1).toNatClampNeg) (xs (i5 + 2).toNatClampNeg) w hw
  obtain ⟨fs5, e5⟩ := hw.recv
  refine lv_aload_n hx hb dL_law_586 rfl (lv_at hl 1 rfl) ?_
  refine lv_aload_n hx hb dL_law_587 rfl (lv_at hl 0 rfl) ?_
  refine lv_iload_n hx hb dL_law_588 rfl (lv_at hl 3 rfl) ?_
  refine lv_iconst (v := (1 : Int32)) hx hb dL_law_589 (by decide) ?_
  refine lv_iadd hx hb dL_law_590 ?_
  refine va_sld hx hb hX hbl hbA hS j1 dL_law_591 ?_
  refine lv_aload_n hx hb dL_law_592 rfl (lv_at hl 0 rfl) ?_
  refine lv_iload_n hx hb dL_law_593 rfl (lv_at hl 3 rfl) ?_
  refine lv_iconst (v := (2 : Int32)) hx hb dL_law_594 (by decide) ?_
  refine lv_iadd hx hb dL_law_595 ?_
  refine va_sld hx hb hX hbl hbA hS j2 dL_law_596 ?_
  refine g_contW (ws := w) (w1 := w1) (st1 := [.int r]) (g_runVCN (As := [.int (xs (i5 + 1).toNatClampNeg), .int (xs (i5 + 2).toNatClampNeg)]) (rest := []) ⟨hx, hb, hml, hown, hts⟩ g5 (cwV 2 hts (TB_V TB_id tw_483 tw_484 tw_485 tw_49 tw_486) rfl rfl rfl (by decide +kernel) ⟨Nat.le_of_ble_eq_true rfl, Nat.le_of_ble_eq_true rfl⟩) hG hP hD 9 e5 rfl rfl hl.1 rfl (Nat.le_of_ble_eq_true rfl) dL_law_597 ⟨Nat.le_of_ble_eq_true rfl, Nat.le_of_ble_eq_true rfl⟩) rfl hD hS hA (fun H locs hP hD hS => ?_)
  refine lv_aload_n hx hb dL_law_600 rfl (lv_at hl 2 rfl) ?_
  refine lv_aload_n hx hb dL_law_601 rfl (lv_at hl 0 rfl) ?_
  refine lv_iload_n hx hb dL_law_602 rfl (lv_at hl 3 rfl) ?_
  refine lv_iconst (v := (1 : Int32)) hx hb dL_law_603 (by decide) ?_
  refine lv_iadd hx hb dL_law_604 ?_
  refine va_sld hx hb hX hbl hbA hS j1 dL_law_605 ?_
  refine lv_aload_n hx hb dL_law_606 rfl (lv_at hl 0 rfl) ?_
  refine lv_iload_n hx hb dL_law_607 rfl (lv_at hl 3 rfl) ?_
  refine lv_iconst (v := (2 : Int32)) hx hb dL_law_608 (by decide) ?_
  refine lv_iadd hx hb dL_law_609 ?_
  refine va_sld hx hb hX hbl hbA hS j2 dL_law_610 ?_
  refine g_contW (ws := w1) (w1 := w2) (st1 := [.int r, .int r]) (g_runVCN (As := [.int (xs (i5 + 1).toNatClampNeg), .int (xs (i5 + 2).toNatClampNeg)]) (rest := [.int r]) ⟨hx, hb, hml, hown, hts⟩ g6 (cwV 2 hts (TB_V TB_id tw_836 tw_837 tw_838 tw_54 tw_839) rfl rfl rfl (by decide +kernel) ⟨Nat.le_of_ble_eq_true rfl, Nat.le_of_ble_eq_true rfl⟩) hG hP hD 0 e6 rfl rfl hl.1 rfl (Nat.le_of_ble_eq_true rfl) dL_law_611 ⟨Nat.le_of_ble_eq_true rfl, Nat.le_of_ble_eq_true rfl⟩) rfl hD hS hA (fun H locs hP hD hS => ?_)
  refine lv_icmp_eq (tgt := 750) hx hb dL_law_614 (by decide) (fun _ => ?_) (fun c9 => absurd rfl c9)
  exact K w2 H locs hw2 hP hD hS
set_option maxRecDepth 20000 in
theorem lc_step (C0 : lw_At p s m meth c b L xs) (hG : gK G s) {i5 : Int32} (j1 : vp_in (i5 + 1) L) {w : va_W} {H : Heap} {locs : List Loc} (hw : LW G a x hi h0 h1 h2 w) (hP : va_P G.1 vwCl w H) (hD : va_D (lA s) w) (hS : va_S (lA s) s.heap H locs) {ls : Array Slot} (hl : lv_has ls 4 [(0, .ref b), (1, .ref x), (2, .ref (a 0)), (3, .int i5)]) (K : ∀ (w : va_W) (H : Heap) (locs : List Loc), LW G a x hi h0 h1 h2 w → va_P G.1 vwCl w H → va_D (lA s) w → va_S (lA s) s.heap H locs → W p l e room_1 s m #[Value.ref b] below meth c H locs 100 5000 (lw_Z below #[Value.ref b] s) (F0 m 750 ls [])) : W p l e room_1 s m #[Value.ref b] below meth c H locs 100 5000 (lw_Z below #[Value.ref b] s) (F0 m 619 ls []) := by
  obtain ⟨hx, hb, hr, hml, hown, hts0, hX, hbl, hlocks, hgv⟩ := C0
  have hts : ∀ w ∈ TB, w.before #[Value.ref b] s = true := fun w h => hts0 w (TB_in w h)
  have hA : ∀ q : Nat, s.heap.size ≤ q → lA s q := fun _ h => h
  have hbA : ¬ lA s b := Nat.not_le.mpr hbl
  obtain ⟨r, w1, w2, g5, ⟨fs6, e6⟩, g6, hw2⟩ := B_step l G a x hi h0 h1 h2 (xs (i5 + 1).toNatClampNeg) w hw
  obtain ⟨fs5, e5⟩ := hw.recv
  refine lv_aload_n hx hb dL_law_619 rfl (lv_at hl 1 rfl) ?_
  refine lv_aload_n hx hb dL_law_620 rfl (lv_at hl 0 rfl) ?_
  refine lv_iload_n hx hb dL_law_621 rfl (lv_at hl 3 rfl) ?_
  refine lv_iconst (v := (1 : Int32)) hx hb dL_law_622 (by decide) ?_
  refine lv_iadd hx hb dL_law_623 ?_
  refine va_sld hx hb hX hbl hbA hS j1 dL_law_624 ?_
  refine g_contW (ws := w) (w1 := w1) (st1 := [.int r]) (g_runVCN (As := [.int (xs (i5 + 1).toNatClampNeg)]) (rest := []) ⟨hx, hb, hml, hown, hts⟩ g5 (cwV 1 hts (TB_V TB_id tw_498 tw_499 tw_500 tw_49 tw_501) rfl rfl rfl (by decide +kernel) ⟨Nat.le_of_ble_eq_true rfl, Nat.le_of_ble_eq_true rfl⟩) hG hP hD 9 e5 rfl rfl hl.1 rfl (Nat.le_of_ble_eq_true rfl) dL_law_625 ⟨Nat.le_of_ble_eq_true rfl, Nat.le_of_ble_eq_true rfl⟩) rfl hD hS hA (fun H locs hP hD hS => ?_)
  refine lv_aload_n hx hb dL_law_628 rfl (lv_at hl 2 rfl) ?_
  refine lv_aload_n hx hb dL_law_629 rfl (lv_at hl 0 rfl) ?_
  refine lv_iload_n hx hb dL_law_630 rfl (lv_at hl 3 rfl) ?_
  refine lv_iconst (v := (1 : Int32)) hx hb dL_law_631 (by decide) ?_
  refine lv_iadd hx hb dL_law_632 ?_
  refine va_sld hx hb hX hbl hbA hS j1 dL_law_633 ?_
  refine g_contW (ws := w1) (w1 := w2) (st1 := [.int r, .int r]) (g_runVCN (As := [.int (xs (i5 + 1).toNatClampNeg)]) (rest := [.int r]) ⟨hx, hb, hml, hown, hts⟩ g6 (cwV 1 hts (TB_V TB_id tw_843 tw_844 tw_845 tw_54 tw_846) rfl rfl rfl (by decide +kernel) ⟨Nat.le_of_ble_eq_true rfl, Nat.le_of_ble_eq_true rfl⟩) hG hP hD 0 e6 rfl rfl hl.1 rfl (Nat.le_of_ble_eq_true rfl) dL_law_634 ⟨Nat.le_of_ble_eq_true rfl, Nat.le_of_ble_eq_true rfl⟩) rfl hD hS hA (fun H locs hP hD hS => ?_)
  refine lv_icmp_eq (tgt := 750) hx hb dL_law_637 (by decide) (fun _ => ?_) (fun c9 => absurd rfl c9)
  exact K w2 H locs hw2 hP hD hS
set_option maxRecDepth 20000 in
theorem lc_count (C0 : lw_At p s m meth c b L xs) (hG : gK G s) {i5 : Int32} (j1 : vp_in (i5 + 1) L) {w : va_W} {H : Heap} {locs : List Loc} (hw : LW G a x hi h0 h1 h2 w) (hP : va_P G.1 vwCl w H) (hD : va_D (lA s) w) (hS : va_S (lA s) s.heap H locs) {ls : Array Slot} (hl : lv_has ls 4 [(0, .ref b), (1, .ref x), (2, .ref (a 0)), (3, .int i5)]) (K : ∀ (w : va_W) (H : Heap) (locs : List Loc), LW G a x hi h0 h1 h2 w → va_P G.1 vwCl w H → va_D (lA s) w → va_S (lA s) s.heap H locs → W p l e room_1 s m #[Value.ref b] below meth c H locs 100 5000 (lw_Z below #[Value.ref b] s) (F0 m 750 ls [])) : W p l e room_1 s m #[Value.ref b] below meth c H locs 100 5000 (lw_Z below #[Value.ref b] s) (F0 m 642 ls []) := by
  obtain ⟨hx, hb, hr, hml, hown, hts0, hX, hbl, hlocks, hgv⟩ := C0
  have hts : ∀ w ∈ TB, w.before #[Value.ref b] s = true := fun w h => hts0 w (TB_in w h)
  have hA : ∀ q : Nat, s.heap.size ≤ q → lA s q := fun _ h => h
  have hbA : ¬ lA s b := Nat.not_le.mpr hbl
  obtain ⟨r, w1, w2, g5, ⟨fs6, e6⟩, g6, hw2⟩ := B_count l G a x hi h0 h1 h2 (xs (i5 + 1).toNatClampNeg) w hw
  obtain ⟨fs5, e5⟩ := hw.recv
  refine lv_aload_n hx hb dL_law_642 rfl (lv_at hl 1 rfl) ?_
  refine lv_aload_n hx hb dL_law_643 rfl (lv_at hl 0 rfl) ?_
  refine lv_iload_n hx hb dL_law_644 rfl (lv_at hl 3 rfl) ?_
  refine lv_iconst (v := (1 : Int32)) hx hb dL_law_645 (by decide) ?_
  refine lv_iadd hx hb dL_law_646 ?_
  refine va_sld hx hb hX hbl hbA hS j1 dL_law_647 ?_
  refine g_contW (ws := w) (w1 := w1) (st1 := [.int r]) (g_runVCN (As := [.int (xs (i5 + 1).toNatClampNeg)]) (rest := []) ⟨hx, hb, hml, hown, hts⟩ g5 (cwV 1 hts (TB_V TB_id tw_506 tw_507 tw_508 tw_49 tw_509) rfl rfl rfl (by decide +kernel) ⟨Nat.le_of_ble_eq_true rfl, Nat.le_of_ble_eq_true rfl⟩) hG hP hD 9 e5 rfl rfl hl.1 rfl (Nat.le_of_ble_eq_true rfl) dL_law_648 ⟨Nat.le_of_ble_eq_true rfl, Nat.le_of_ble_eq_true rfl⟩) rfl hD hS hA (fun H locs hP hD hS => ?_)
  refine lv_aload_n hx hb dL_law_651 rfl (lv_at hl 2 rfl) ?_
  refine lv_aload_n hx hb dL_law_652 rfl (lv_at hl 0 rfl) ?_
  refine lv_iload_n hx hb dL_law_653 rfl (lv_at hl 3 rfl) ?_
  refine lv_iconst (v := (1 : Int32)) hx hb dL_law_654 (by decide) ?_
  refine lv_iadd hx hb dL_law_655 ?_
  refine va_sld hx hb hX hbl hbA hS j1 dL_law_656 ?_
  refine g_contW (ws := w1) (w1 := w2) (st1 := [.int r, .int r]) (g_runVCN (As := [.int (xs (i5 + 1).toNatClampNeg)]) (rest := [.int r]) ⟨hx, hb, hml, hown, hts⟩ g6 (cwV 1 hts (TB_V TB_id tw_847 tw_848 tw_849 tw_54 tw_850) rfl rfl rfl (by decide +kernel) ⟨Nat.le_of_ble_eq_true rfl, Nat.le_of_ble_eq_true rfl⟩) hG hP hD 0 e6 rfl rfl hl.1 rfl (Nat.le_of_ble_eq_true rfl) dL_law_657 ⟨Nat.le_of_ble_eq_true rfl, Nat.le_of_ble_eq_true rfl⟩) rfl hD hS hA (fun H locs hP hD hS => ?_)
  refine lv_icmp_eq (tgt := 750) hx hb dL_law_660 (by decide) (fun _ => ?_) (fun c9 => absurd rfl c9)
  exact K w2 H locs hw2 hP hD hS
set_option maxRecDepth 20000 in
theorem lc_undo (C0 : lw_At p s m meth c b L xs) (hG : gK G s) {i5 : Int32}  {w : va_W} {H : Heap} {locs : List Loc} (hw : LW G a x hi h0 h1 h2 w) (hP : va_P G.1 vwCl w H) (hD : va_D (lA s) w) (hS : va_S (lA s) s.heap H locs) {ls : Array Slot} (hl : lv_has ls 4 [(0, .ref b), (1, .ref x), (2, .ref (a 0)), (3, .int i5)]) (K : ∀ (w : va_W) (H : Heap) (locs : List Loc), LW G a x hi h0 h1 h2 w → va_P G.1 vwCl w H → va_D (lA s) w → va_S (lA s) s.heap H locs → W p l e room_1 s m #[Value.ref b] below meth c H locs 100 5000 (lw_Z below #[Value.ref b] s) (F0 m 750 ls [])) : W p l e room_1 s m #[Value.ref b] below meth c H locs 100 5000 (lw_Z below #[Value.ref b] s) (F0 m 665 ls []) := by
  obtain ⟨hx, hb, hr, hml, hown, hts0, hX, hbl, hlocks, hgv⟩ := C0
  have hts : ∀ w ∈ TB, w.before #[Value.ref b] s = true := fun w h => hts0 w (TB_in w h)
  have hA : ∀ q : Nat, s.heap.size ≤ q → lA s q := fun _ h => h
  have hbA : ¬ lA s b := Nat.not_le.mpr hbl
  obtain ⟨r, w1, w2, g5, ⟨fs6, e6⟩, g6, hw2⟩ := B_undo l G a x hi h0 h1 h2  w hw
  obtain ⟨fs5, e5⟩ := hw.recv
  refine lv_aload_n hx hb dL_law_665 rfl (lv_at hl 1 rfl) ?_
  refine g_contW (ws := w) (w1 := w1) (st1 := [.int r]) (g_runVCN (As := []) (rest := []) ⟨hx, hb, hml, hown, hts⟩ g5 (cwV 0 hts (TB_V TB_id tw_517 tw_518 tw_519 tw_49 tw_520) rfl rfl rfl (by decide +kernel) ⟨Nat.le_of_ble_eq_true rfl, Nat.le_of_ble_eq_true rfl⟩) hG hP hD 9 e5 rfl rfl hl.1 rfl (Nat.le_of_ble_eq_true rfl) dL_law_666 ⟨Nat.le_of_ble_eq_true rfl, Nat.le_of_ble_eq_true rfl⟩) rfl hD hS hA (fun H locs hP hD hS => ?_)
  refine lv_aload_n hx hb dL_law_669 rfl (lv_at hl 2 rfl) ?_
  refine g_contW (ws := w1) (w1 := w2) (st1 := [.int r, .int r]) (g_runVCN (As := []) (rest := [.int r]) ⟨hx, hb, hml, hown, hts⟩ g6 (cwV 0 hts (TB_V TB_id tw_855 tw_856 tw_857 tw_54 tw_858) rfl rfl rfl (by decide +kernel) ⟨Nat.le_of_ble_eq_true rfl, Nat.le_of_ble_eq_true rfl⟩) hG hP hD 0 e6 rfl rfl hl.1 rfl (Nat.le_of_ble_eq_true rfl) dL_law_670 ⟨Nat.le_of_ble_eq_true rfl, Nat.le_of_ble_eq_true rfl⟩) rfl hD hS hA (fun H locs hP hD hS => ?_)
  refine lv_icmp_eq (tgt := 750) hx hb dL_law_673 (by decide) (fun _ => ?_) (fun c9 => absurd rfl c9)
  exact K w2 H locs hw2 hP hD hS
set_option maxRecDepth 20000 in
theorem lc_type (C0 : lw_At p s m meth c b L xs) (hG : gK G s) {i5 : Int32} (j1 : vp_in (i5 + 1) L) {w : va_W} {H : Heap} {locs : List Loc} (hw : LW G a x hi h0 h1 h2 w) (hP : va_P G.1 vwCl w H) (hD : va_D (lA s) w) (hS : va_S (lA s) s.heap H locs) {ls : Array Slot} (hl : lv_has ls 4 [(0, .ref b), (1, .ref x), (2, .ref (a 0)), (3, .int i5)]) (K : ∀ (w : va_W) (H : Heap) (locs : List Loc), LW G a x hi h0 h1 h2 w → va_P G.1 vwCl w H → va_D (lA s) w → va_S (lA s) s.heap H locs → W p l e room_1 s m #[Value.ref b] below meth c H locs 100 5000 (lw_Z below #[Value.ref b] s) (F0 m 750 ls [])) : W p l e room_1 s m #[Value.ref b] below meth c H locs 100 5000 (lw_Z below #[Value.ref b] s) (F0 m 678 ls []) := by
  obtain ⟨hx, hb, hr, hml, hown, hts0, hX, hbl, hlocks, hgv⟩ := C0
  have hts : ∀ w ∈ TB, w.before #[Value.ref b] s = true := fun w h => hts0 w (TB_in w h)
  have hA : ∀ q : Nat, s.heap.size ≤ q → lA s q := fun _ h => h
  have hbA : ¬ lA s b := Nat.not_le.mpr hbl
  obtain ⟨r, w1, w2, g5, ⟨fs6, e6⟩, g6, hw2⟩ := B_type l G a x hi h0 h1 h2 (xs (i5 + 1).toNatClampNeg) w hw
  obtain ⟨fs5, e5⟩ := hw.recv
  refine lv_aload_n hx hb dL_law_678 rfl (lv_at hl 1 rfl) ?_
  refine lv_aload_n hx hb dL_law_679 rfl (lv_at hl 0 rfl) ?_
  refine lv_iload_n hx hb dL_law_680 rfl (lv_at hl 3 rfl) ?_
  refine lv_iconst (v := (1 : Int32)) hx hb dL_law_681 (by decide) ?_
  refine lv_iadd hx hb dL_law_682 ?_
  refine va_sld hx hb hX hbl hbA hS j1 dL_law_683 ?_
  refine g_contW (ws := w) (w1 := w1) (st1 := [.int r]) (g_runVCN (As := [.int (xs (i5 + 1).toNatClampNeg)]) (rest := []) ⟨hx, hb, hml, hown, hts⟩ g5 (cwV 1 hts (TB_V TB_id tw_521 tw_522 tw_523 tw_49 tw_524) rfl rfl rfl (by decide +kernel) ⟨Nat.le_of_ble_eq_true rfl, Nat.le_of_ble_eq_true rfl⟩) hG hP hD 9 e5 rfl rfl hl.1 rfl (Nat.le_of_ble_eq_true rfl) dL_law_684 ⟨Nat.le_of_ble_eq_true rfl, Nat.le_of_ble_eq_true rfl⟩) rfl hD hS hA (fun H locs hP hD hS => ?_)
  refine lv_aload_n hx hb dL_law_687 rfl (lv_at hl 2 rfl) ?_
  refine lv_aload_n hx hb dL_law_688 rfl (lv_at hl 0 rfl) ?_
  refine lv_iload_n hx hb dL_law_689 rfl (lv_at hl 3 rfl) ?_
  refine lv_iconst (v := (1 : Int32)) hx hb dL_law_690 (by decide) ?_
  refine lv_iadd hx hb dL_law_691 ?_
  refine va_sld hx hb hX hbl hbA hS j1 dL_law_692 ?_
  refine g_contW (ws := w1) (w1 := w2) (st1 := [.int r, .int r]) (g_runVCN (As := [.int (xs (i5 + 1).toNatClampNeg)]) (rest := [.int r]) ⟨hx, hb, hml, hown, hts⟩ g6 (cwV 1 hts (TB_V TB_id tw_859 tw_860 tw_861 tw_54 tw_862) rfl rfl rfl (by decide +kernel) ⟨Nat.le_of_ble_eq_true rfl, Nat.le_of_ble_eq_true rfl⟩) hG hP hD 0 e6 rfl rfl hl.1 rfl (Nat.le_of_ble_eq_true rfl) dL_law_693 ⟨Nat.le_of_ble_eq_true rfl, Nat.le_of_ble_eq_true rfl⟩) rfl hD hS hA (fun H locs hP hD hS => ?_)
  refine lv_icmp_eq (tgt := 750) hx hb dL_law_696 (by decide) (fun _ => ?_) (fun c9 => absurd rfl c9)
  exact K w2 H locs hw2 hP hD hS
set_option maxRecDepth 20000 in
theorem lc_clearText (C0 : lw_At p s m meth c b L xs) (hG : gK G s) {i5 : Int32}  {w : va_W} {H : Heap} {locs : List Loc} (hw : LW G a x hi h0 h1 h2 w) (hP : va_P G.1 vwCl w H) (hD : va_D (lA s) w) (hS : va_S (lA s) s.heap H locs) {ls : Array Slot} (hl : lv_has ls 4 [(0, .ref b), (1, .ref x), (2, .ref (a 0)), (3, .int i5)]) (K : ∀ (w : va_W) (H : Heap) (locs : List Loc), LW G a x hi h0 h1 h2 w → va_P G.1 vwCl w H → va_D (lA s) w → va_S (lA s) s.heap H locs → W p l e room_1 s m #[Value.ref b] below meth c H locs 100 5000 (lw_Z below #[Value.ref b] s) (F0 m 750 ls [])) : W p l e room_1 s m #[Value.ref b] below meth c H locs 100 5000 (lw_Z below #[Value.ref b] s) (F0 m 701 ls []) := by
  obtain ⟨hx, hb, hr, hml, hown, hts0, hX, hbl, hlocks, hgv⟩ := C0
  have hts : ∀ w ∈ TB, w.before #[Value.ref b] s = true := fun w h => hts0 w (TB_in w h)
  have hA : ∀ q : Nat, s.heap.size ≤ q → lA s q := fun _ h => h
  have hbA : ¬ lA s b := Nat.not_le.mpr hbl
  obtain ⟨r, w1, w2, g5, ⟨fs6, e6⟩, g6, hw2⟩ := B_clearText l G a x hi h0 h1 h2  w hw
  obtain ⟨fs5, e5⟩ := hw.recv
  refine lv_aload_n hx hb dL_law_701 rfl (lv_at hl 1 rfl) ?_
  refine g_contW (ws := w) (w1 := w1) (st1 := [.int r]) (g_runVCN (As := []) (rest := []) ⟨hx, hb, hml, hown, hts⟩ g5 (cwV 0 hts (TB_V TB_id tw_530 tw_531 tw_532 tw_49 tw_533) rfl rfl rfl (by decide +kernel) ⟨Nat.le_of_ble_eq_true rfl, Nat.le_of_ble_eq_true rfl⟩) hG hP hD 9 e5 rfl rfl hl.1 rfl (Nat.le_of_ble_eq_true rfl) dL_law_702 ⟨Nat.le_of_ble_eq_true rfl, Nat.le_of_ble_eq_true rfl⟩) rfl hD hS hA (fun H locs hP hD hS => ?_)
  refine lv_aload_n hx hb dL_law_705 rfl (lv_at hl 2 rfl) ?_
  refine g_contW (ws := w1) (w1 := w2) (st1 := [.int r, .int r]) (g_runVCN (As := []) (rest := [.int r]) ⟨hx, hb, hml, hown, hts⟩ g6 (cwV 0 hts (TB_V TB_id tw_863 tw_864 tw_865 tw_54 tw_866) rfl rfl rfl (by decide +kernel) ⟨Nat.le_of_ble_eq_true rfl, Nat.le_of_ble_eq_true rfl⟩) hG hP hD 0 e6 rfl rfl hl.1 rfl (Nat.le_of_ble_eq_true rfl) dL_law_706 ⟨Nat.le_of_ble_eq_true rfl, Nat.le_of_ble_eq_true rfl⟩) rfl hD hS hA (fun H locs hP hD hS => ?_)
  refine lv_icmp_eq (tgt := 750) hx hb dL_law_709 (by decide) (fun _ => ?_) (fun c9 => absurd rfl c9)
  exact K w2 H locs hw2 hP hD hS
set_option maxRecDepth 20000 in
theorem lc_fault (C0 : lw_At p s m meth c b L xs) (hG : gK G s) {i5 : Int32} (j1 : vp_in (i5 + 1) L) {w : va_W} {H : Heap} {locs : List Loc} (hw : LW G a x hi h0 h1 h2 w) (hP : va_P G.1 vwCl w H) (hD : va_D (lA s) w) (hS : va_S (lA s) s.heap H locs) {ls : Array Slot} (hl : lv_has ls 4 [(0, .ref b), (1, .ref x), (2, .ref (a 0)), (3, .int i5)]) (K : ∀ (w : va_W) (H : Heap) (locs : List Loc), LW G a x hi h0 h1 h2 w → va_P G.1 vwCl w H → va_D (lA s) w → va_S (lA s) s.heap H locs → W p l e room_1 s m #[Value.ref b] below meth c H locs 100 5000 (lw_Z below #[Value.ref b] s) (F0 m 750 ls [])) : W p l e room_1 s m #[Value.ref b] below meth c H locs 100 5000 (lw_Z below #[Value.ref b] s) (F0 m 714 ls []) := by
  obtain ⟨hx, hb, hr, hml, hown, hts0, hX, hbl, hlocks, hgv⟩ := C0
  have hts : ∀ w ∈ TB, w.before #[Value.ref b] s = true := fun w h => hts0 w (TB_in w h)
  have hA : ∀ q : Nat, s.heap.size ≤ q → lA s q := fun _ h => h
  have hbA : ¬ lA s b := Nat.not_le.mpr hbl
  obtain ⟨r, w1, w2, g5, ⟨fs6, e6⟩, g6, hw2⟩ := B_fault l G a x hi h0 h1 h2 (xs (i5 + 1).toNatClampNeg) w hw
  obtain ⟨fs5, e5⟩ := hw.recv
  refine lv_aload_n hx hb dL_law_714 rfl (lv_at hl 1 rfl) ?_
  refine lv_aload_n hx hb dL_law_715 rfl (lv_at hl 0 rfl) ?_
  refine lv_iload_n hx hb dL_law_716 rfl (lv_at hl 3 rfl) ?_
  refine lv_iconst (v := (1 : Int32)) hx hb dL_law_717 (by decide) ?_
  refine lv_iadd hx hb dL_law_718 ?_
  refine va_sld hx hb hX hbl hbA hS j1 dL_law_719 ?_
  refine g_contW (ws := w) (w1 := w1) (st1 := [.int r]) (g_runVCN (As := [.int (xs (i5 + 1).toNatClampNeg)]) (rest := []) ⟨hx, hb, hml, hown, hts⟩ g5 (cwV 1 hts (TB_V TB_id tw_534 tw_535 tw_536 tw_49 tw_537) rfl rfl rfl (by decide +kernel) ⟨Nat.le_of_ble_eq_true rfl, Nat.le_of_ble_eq_true rfl⟩) hG hP hD 9 e5 rfl rfl hl.1 rfl (Nat.le_of_ble_eq_true rfl) dL_law_720 ⟨Nat.le_of_ble_eq_true rfl, Nat.le_of_ble_eq_true rfl⟩) rfl hD hS hA (fun H locs hP hD hS => ?_)
  refine lv_aload_n hx hb dL_law_723 rfl (lv_at hl 2 rfl) ?_
  refine lv_aload_n hx hb dL_law_724 rfl (lv_at hl 0 rfl) ?_
  refine lv_iload_n hx hb dL_law_725 rfl (lv_at hl 3 rfl) ?_
  refine lv_iconst (v := (1 : Int32)) hx hb dL_law_726 (by decide) ?_
  refine lv_iadd hx hb dL_law_727 ?_
  refine va_sld hx hb hX hbl hbA hS j1 dL_law_728 ?_
  refine g_contW (ws := w1) (w1 := w2) (st1 := [.int r, .int r]) (g_runVCN (As := [.int (xs (i5 + 1).toNatClampNeg)]) (rest := [.int r]) ⟨hx, hb, hml, hown, hts⟩ g6 (cwV 1 hts (TB_V TB_id tw_867 tw_868 tw_869 tw_54 tw_870) rfl rfl rfl (by decide +kernel) ⟨Nat.le_of_ble_eq_true rfl, Nat.le_of_ble_eq_true rfl⟩) hG hP hD 0 e6 rfl rfl hl.1 rfl (Nat.le_of_ble_eq_true rfl) dL_law_729 ⟨Nat.le_of_ble_eq_true rfl, Nat.le_of_ble_eq_true rfl⟩) rfl hD hS hA (fun H locs hP hD hS => ?_)
  refine lv_icmp_eq (tgt := 750) hx hb dL_law_732 (by decide) (fun _ => ?_) (fun c9 => absurd rfl c9)
  exact K w2 H locs hw2 hP hD hS
set_option maxRecDepth 20000 in
theorem lc_play (C0 : lw_At p s m meth c b L xs) (hG : gK G s) {i5 : Int32}  {w : va_W} {H : Heap} {locs : List Loc} (hw : LW G a x hi h0 h1 h2 w) (hP : va_P G.1 vwCl w H) (hD : va_D (lA s) w) (hS : va_S (lA s) s.heap H locs) {ls : Array Slot} (hl : lv_has ls 4 [(0, .ref b), (1, .ref x), (2, .ref (a 0)), (3, .int i5)]) (K : ∀ (w : va_W) (H : Heap) (locs : List Loc), LW G a x hi h0 h1 h2 w → va_P G.1 vwCl w H → va_D (lA s) w → va_S (lA s) s.heap H locs → W p l e room_1 s m #[Value.ref b] below meth c H locs 100 5000 (lw_Z below #[Value.ref b] s) (F0 m 750 ls [])) : W p l e room_1 s m #[Value.ref b] below meth c H locs 100 5000 (lw_Z below #[Value.ref b] s) (F0 m 737 ls []) := by
  obtain ⟨hx, hb, hr, hml, hown, hts0, hX, hbl, hlocks, hgv⟩ := C0
  have hts : ∀ w ∈ TB, w.before #[Value.ref b] s = true := fun w h => hts0 w (TB_in w h)
  have hA : ∀ q : Nat, s.heap.size ≤ q → lA s q := fun _ h => h
  have hbA : ¬ lA s b := Nat.not_le.mpr hbl
  obtain ⟨r, w1, w2, g5, ⟨fs6, e6⟩, g6, hw2⟩ := B_play l G a x hi h0 h1 h2  w hw
  obtain ⟨fs5, e5⟩ := hw.recv
  refine lv_aload_n hx hb dL_law_737 rfl (lv_at hl 1 rfl) ?_
  refine g_contW (ws := w) (w1 := w1) (st1 := [.int r]) (g_runVCN (As := []) (rest := []) ⟨hx, hb, hml, hown, hts⟩ g5 (cwV 0 hts (TB_V TB_id tw_578 tw_579 tw_580 tw_49 tw_581) rfl rfl rfl (by decide +kernel) ⟨Nat.le_of_ble_eq_true rfl, Nat.le_of_ble_eq_true rfl⟩) hG hP hD 9 e5 rfl rfl hl.1 rfl (Nat.le_of_ble_eq_true rfl) dL_law_738 ⟨Nat.le_of_ble_eq_true rfl, Nat.le_of_ble_eq_true rfl⟩) rfl hD hS hA (fun H locs hP hD hS => ?_)
  refine lv_aload_n hx hb dL_law_741 rfl (lv_at hl 2 rfl) ?_
  refine g_contW (ws := w1) (w1 := w2) (st1 := [.int r, .int r]) (g_runVCN (As := []) (rest := [.int r]) ⟨hx, hb, hml, hown, hts⟩ g6 (cwV 0 hts (TB_V TB_id tw_899 tw_900 tw_901 tw_54 tw_902) rfl rfl rfl (by decide +kernel) ⟨Nat.le_of_ble_eq_true rfl, Nat.le_of_ble_eq_true rfl⟩) hG hP hD 0 e6 rfl rfl hl.1 rfl (Nat.le_of_ble_eq_true rfl) dL_law_742 ⟨Nat.le_of_ble_eq_true rfl, Nat.le_of_ble_eq_true rfl⟩) rfl hD hS hA (fun H locs hP hD hS => ?_)
  refine lv_icmp_eq (tgt := 750) hx hb dL_law_745 (by decide) (fun _ => ?_) (fun c9 => absurd rfl c9)
  exact K w2 H locs hw2 hP hD hS
end LC
