/-! the law's end, its loop -/
set_option maxHeartbeats 4000000 in
set_option maxRecDepth 100000 in
theorem law_end {p : Program} {l : Launch} {e : Env} {s : State} {m : MethodId} {below : List Frame} {meth : Method} {c : Code} {b L : Nat} {xs : Nat → Int32} {G : gT} {x hi h0 h1 h2 : Nat} (hL : L ≤ 260) (C0 : lw_At p s m meth c b L xs) (hG : gK G s) {i3 : Int32} : ∀ (S : zS) (w : va_W) (H : Heap) (locs : List Loc), Sx 36 S → Rp G x hi h0 h1 h2 S w → va_P G.1 vwCl w H → va_D (lA s) w → va_S (lA s) s.heap H locs → ∀ (ls : Array Slot), lv_has ls 5 [(0, .ref b), (1, .ref x), (2, .int 1), (3, .int i3)] → W p l e room_1 s m #[Value.ref b] below meth c H locs 100 5000 (lw_Z below #[Value.ref b] s) (F0 m 79 ls []) := by
  obtain ⟨hx, hb, hr, hml, hown, hts0, hX, hbl, hlocks, hgv⟩ := id C0
  have hts : ∀ w ∈ TB, w.before #[Value.ref b] s = true := fun w h => hts0 w (TB_in w h)
  have hA : ∀ q : Nat, s.heap.size ≤ q → lA s q := fun _ h => h
  have hbA : ¬ lA s b := Nat.not_le.mpr hbl
  intro S w H locs hSx hR hP hD hS ls hl
  obtain ⟨p0, l0, x0, lo, ov, orr, nv, nr, q, qk, qv, qr, wr, wa, wc, wk, hl0, V⟩ := hSx
  obtain ⟨fs, he⟩ := hR.recv
  refine lv_aload_n hx hb dL_law_79 rfl (lv_at hl 1 rfl) ?_
  refine lv_iconst (v := (1 : Int32)) hx hb dL_law_80 (by decide) ?_
  refine g_contRN (st1 := [.int (nI l0)]) (g_runVRN (As := [.int 1]) (rest := []) ⟨hx, hb, hml, hown, hts⟩ (A_count l G hR (R_count1 V)) (cwV 1 hts (TB_V TB_id tw_238 tw_239 tw_240 tw_5 tw_241) rfl rfl rfl (by decide +kernel) ⟨Nat.le_of_ble_eq_true rfl, Nat.le_of_ble_eq_true rfl⟩) hG hP 0 he rfl rfl hl.1 rfl (Nat.le_of_ble_eq_true rfl) dL_law_81 ⟨Nat.le_of_ble_eq_true rfl, Nat.le_of_ble_eq_true rfl⟩) rfl ?_
  refine lv_istore_n (lv' := [(3, .int (nI l0)), (0, .ref b), (1, .ref x), (2, .int 1)]) hx hb dL_law_84 rfl hl (by decide) rfl (fun ls hl => ?_)
  refine lv_aload_n hx hb dL_law_85 rfl (lv_at hl 2 rfl) ?_
  refine lv_iconst (v := (0 : Int32)) hx hb dL_law_86 (by decide) ?_
  refine g_contRN (st1 := [.int (nI p0)]) (g_runVRN (As := [.int 0]) (rest := []) ⟨hx, hb, hml, hown, hts⟩ (A_count l G hR (R_count0 V)) (cwV 1 hts (TB_V TB_id tw_238 tw_239 tw_240 tw_5 tw_241) rfl rfl rfl (by decide +kernel) ⟨Nat.le_of_ble_eq_true rfl, Nat.le_of_ble_eq_true rfl⟩) hG hP 0 he rfl rfl hl.1 rfl (Nat.le_of_ble_eq_true rfl) dL_law_87 ⟨Nat.le_of_ble_eq_true rfl, Nat.le_of_ble_eq_true rfl⟩) rfl ?_
  refine lv_istore (lv' := [(4, .int (nI p0)), (3, .int (nI l0)), (0, .ref b), (1, .ref x), (2, .int 1)]) hx hb dL_law_90 hl (by decide) rfl (fun ls hl => ?_)
  refine lv_iload_n hx hb dL_law_92 rfl (lv_at hl 4 rfl) ?_
  refine lv_if_eq (tgt := 135) hx hb dL_law_93 (by decide) (fun c_ => absurd c_ (by decide)) (fun _ => ?_)
  refine lv_aload_n hx hb dL_law_96 rfl (lv_at hl 3 rfl) ?_
  refine lv_iconst (v := (0 : Int32)) hx hb dL_law_97 (by decide) ?_
  refine lv_iconst (v := (0 : Int32)) hx hb dL_law_98 (by decide) ?_
  obtain ⟨S1, e1, hs1, hh1, -⟩ := L_walk V (w := 0) (c := 0) (by omega) (by omega)
  have hK := zs_le (zbn (zkr p0 q orr nv nr qk qr 0) 31) 31
  generalize zs (zbn (zkr p0 q orr nv nr qk qr 0) 31) 31 = K at e1 hK
  rw [← gl_0] at e1
  refine g_contF (st1 := [.int (nI K)]) (g_runVF (As := [.int 0, .int 0]) (rest := []) ⟨hx, hb, hml, hown, hts⟩ (A_walk l G hR e1) (cwV 2 hts (TB_V TB_id tw_160 tw_161 tw_162 tw_5 tw_163) rfl rfl rfl (by decide +kernel) ⟨Nat.le_of_ble_eq_true rfl, Nat.le_of_ble_eq_true rfl⟩) hG hP hD 0 he rfl rfl hl.1 rfl (Nat.le_of_ble_eq_true rfl) dL_law_99 ⟨Nat.le_of_ble_eq_true rfl, Nat.le_of_ble_eq_true rfl⟩) rfl hD hS hA (fun w1 H locs hR1 hP hD hS => ?_)
  have hR1 : Rp G x hi h0 h1 h2 S1 w1 := hR1
  refine lv_if_lt (tgt := 135) hx hb dL_law_102 (by decide) (fun c_ => absurd c_ (z_ok (by omega))) (fun _ => ?_)
  have hS4 := V.1
  have hp1 : 0 < S1.1 := by rw [hs1]; split <;> omega
  have hp4 : S1.1 ≤ 4 := hR1.1
  have eU : K_undo S1 = (nI (S1.1 - 1), (K_undo S1).2) := by
    unfold K_undo
    rw [if_neg (by omega)]
  have V2 : Sv (K_undo S1).2 p0 l0 x0 lo ov orr nv nr q qk qv qr wr wa wc wk := by
    unfold K_undo
    rw [if_neg (by omega)]
    exact ⟨by dsimp only; omega, hh1.trans V.2.1, V.2.2⟩
  refine lv_aload_n hx hb dL_law_105 rfl (lv_at hl 3 rfl) ?_
  obtain ⟨fs1, he1⟩ := hR1.recv
  refine g_contF (st1 := [.int (K_undo S1).1]) (g_runVF (As := []) (rest := []) ⟨hx, hb, hml, hown, hts⟩ (A_undo l G hR1 hp1) (cwV 0 hts (TB_V TB_id tw_267 tw_268 tw_269 tw_5 tw_270) rfl rfl rfl (by decide +kernel) ⟨Nat.le_of_ble_eq_true rfl, Nat.le_of_ble_eq_true rfl⟩) hG hP hD 0 he1 rfl rfl hl.1 rfl (Nat.le_of_ble_eq_true rfl) dL_law_106 ⟨Nat.le_of_ble_eq_true rfl, Nat.le_of_ble_eq_true rfl⟩) rfl hD hS hA (fun w2 H locs hR2 hP hD hS => ?_)
  have hU0 : ¬ (K_undo S1).1 < 0 := by
    rw [eU]
    exact z_ok (by omega)
  generalize (K_undo S1).1 = rU at hU0
  generalize (K_undo S1).2 = S2 at hR2 V2
  refine lv_if_lt (tgt := 135) hx hb dL_law_109 (by decide) (fun c_ => absurd c_ hU0) (fun _ => ?_)
  obtain ⟨fs2, he2⟩ := hR2.recv
  refine lv_aload_n hx hb dL_law_112 rfl (lv_at hl 3 rfl) ?_
  refine lv_iconst (v := (1 : Int32)) hx hb dL_law_113 (by decide) ?_
  refine g_contRN (st1 := [.int (nI l0)]) (g_runVRN (As := [.int 1]) (rest := []) ⟨hx, hb, hml, hown, hts⟩ (A_count l G hR2 (R_count1 V2)) (cwV 1 hts (TB_V TB_id tw_238 tw_239 tw_240 tw_5 tw_241) rfl rfl rfl (by decide +kernel) ⟨Nat.le_of_ble_eq_true rfl, Nat.le_of_ble_eq_true rfl⟩) hG hP 0 he2 rfl rfl hl.1 rfl (Nat.le_of_ble_eq_true rfl) dL_law_114 ⟨Nat.le_of_ble_eq_true rfl, Nat.le_of_ble_eq_true rfl⟩) rfl ?_
  refine lv_iload_n hx hb dL_law_117 rfl (lv_at hl 1 rfl) ?_
  refine lv_icmp_ne (tgt := 135) hx hb dL_law_118 (by decide) (fun c_ => absurd rfl c_) (fun _ => ?_)
  refine lv_aload_n hx hb dL_law_121 rfl (lv_at hl 3 rfl) ?_
  refine lv_iconst (v := (0 : Int32)) hx hb dL_law_122 (by decide) ?_
  refine g_contRN (st1 := [.int (nI p0)]) (g_runVRN (As := [.int 0]) (rest := []) ⟨hx, hb, hml, hown, hts⟩ (A_count l G hR2 (R_count0 V2)) (cwV 1 hts (TB_V TB_id tw_238 tw_239 tw_240 tw_5 tw_241) rfl rfl rfl (by decide +kernel) ⟨Nat.le_of_ble_eq_true rfl, Nat.le_of_ble_eq_true rfl⟩) hG hP 0 he2 rfl rfl hl.1 rfl (Nat.le_of_ble_eq_true rfl) dL_law_123 ⟨Nat.le_of_ble_eq_true rfl, Nat.le_of_ble_eq_true rfl⟩) rfl ?_
  refine lv_iload hx hb dL_law_126 (lv_at hl 0 rfl) ?_
  refine lv_icmp_ne (tgt := 135) hx hb dL_law_128 (by decide) (fun c_ => absurd rfl c_) (fun _ => ?_)
  refine lv_iconst (v := (1 : Int32)) hx hb dL_law_131 (by decide) ?_
  refine lv_goto (tgt := 136) hx hb dL_law_132 (by decide) ?_
  refine lv_istore_n (lv' := [(2, .int 1), (4, .int (nI p0)), (3, .int (nI l0)), (0, .ref b), (1, .ref x)]) hx hb dL_law_136 rfl hl (by decide) rfl (fun ls hl => ?_)
  refine lv_iload_n hx hb dL_law_137 rfl (lv_at hl 0 rfl) ?_
  refine lv_if_eq (tgt := 152) hx hb dL_law_138 (by decide) (fun c_ => absurd c_ (by decide)) (fun _ => ?_)
  refine lv_aload_n hx hb dL_law_141 rfl (lv_at hl 4 rfl) ?_
  refine g_contRN (st1 := [.int 1]) (g_runSRN (As := [.ref x]) (rest := []) ⟨hx, hb, hml, hown, hts⟩ (qL_holds l G hR2 (F_holds V2)) (va_cwS 1 hts (TB_S TB_id tw_277 tw_278 tw_4 tw_279) rfl rfl rfl (by decide +kernel) ⟨Nat.le_of_ble_eq_true rfl, Nat.le_of_ble_eq_true rfl⟩) hG hP rfl hl.1 rfl (Nat.le_of_ble_eq_true rfl) dL_law_142 ⟨Nat.le_of_ble_eq_true rfl, Nat.le_of_ble_eq_true rfl⟩) rfl ?_
  refine lv_if_eq (tgt := 152) hx hb dL_law_145 (by decide) (fun c_ => absurd c_ (by decide)) (fun _ => ?_)
  refine lv_iconst (v := (1 : Int32)) hx hb dL_law_148 (by decide) ?_
  refine lv_goto (tgt := 153) hx hb dL_law_149 (by decide) ?_
  refine va_forget (fun q hq => hS.2.2 q hq) ?_
  refine W.widen (k := 600000) (n := 7302250) (Nat.le_of_ble_eq_true rfl) (Nat.le_of_ble_eq_true rfl) ?_
  exact lw_ret hx hb hr hlocks dL_law_153
set_option maxHeartbeats 4000000 in
set_option maxRecDepth 100000 in
theorem law_loop {p : Program} {l : Launch} {e : Env} {s : State} {m : MethodId} {below : List Frame} {meth : Method} {c : Code} {b L : Nat} {xs : Nat → Int32} {G : gT} {x hi h0 h1 h2 : Nat} (hL : L ≤ 260) (C0 : lw_At p s m meth c b L xs) (hG : gK G s) : ∀ (n k : Nat), k ≤ 36 → 37 ≤ k + n → ∀ (S : zS) (w : va_W) (H : Heap) (locs : List Loc), Sx k S → Rp G x hi h0 h1 h2 S w → va_P G.1 vwCl w H → va_D (lA s) w → va_S (lA s) s.heap H locs → ∀ (ls : Array Slot), lv_has ls 5 [(0, .ref b), (1, .ref x), (2, .int 1), (3, .int (nI k))] → W p l e room_1 s m #[Value.ref b] below meth c H locs 100 5000 (lw_Z below #[Value.ref b] s) (F0 m 15 ls []) := by
  obtain ⟨hx, hb, hr, hml, hown, hts0, hX, hbl, hlocks, hgv⟩ := id C0
  have hts : ∀ w ∈ TB, w.before #[Value.ref b] s = true := fun w h => hts0 w (TB_in w h)
  have hA : ∀ q : Nat, s.heap.size ≤ q → lA s q := fun _ h => h
  have hbA : ¬ lA s b := Nat.not_le.mpr hbl
  intro n
  induction n with
  | zero =>
    intro k h3 h4
    exact absurd h4 (by omega)
  | succ n ih =>
    intro k h3 h4 S w H locs hSx hR hP hD hS ls hl
    refine lv_iload_n hx hb dL_law_15 rfl (lv_at hl 3 rfl) ?_
    refine lv_bipush (v := (36 : Int32)) hx hb dL_law_16 (by decide) ?_
    have g36 : (36 : Int32) = nI 36 := by decide
    refine lv_icmp_ge (tgt := 79) hx hb dL_law_18 (by decide) (fun c1 => ?_) (fun c1 => ?_)
    · have hk : k = 36 := by
        rw [g36, nI_leI (by omega) (by omega)] at c1
        omega
      subst hk
      exact law_end hL C0 hG S w H locs hSx hR hP hD hS ls hl
    have hk : k < 36 := by
      rw [g36, nI_leI (by omega) (by omega)] at c1
      omega
    refine lv_iload_n hx hb dL_law_21 rfl (lv_at hl 2 rfl) ?_
    refine lv_if_eq (tgt := 79) hx hb dL_law_22 (by decide) (fun c_ => absurd c_ (by decide)) (fun _ => ?_)
    obtain ⟨p0, l0, x0, lo, ov, orr, nv, nr, q, qk, qv, qr, wr, wa, wc, wk, hl0, V⟩ := hSx
    obtain ⟨y, hy, ey⟩ := cellv_nI L xs k
    have hM := qL_cell l (b := b) (xs := xs) hL hk
    rw [ey] at hM
    refine lv_aload_n hx hb dL_law_25 rfl (lv_at hl 0 rfl) ?_
    refine lv_iload_n hx hb dL_law_26 rfl (lv_at hl 3 rfl) ?_
    refine g_contRN (st1 := [.int (nI y)]) (va_runS (As := [.ref b, .int (nI k)]) (rest := []) ⟨hx, hb, hml, hown, hts⟩ hM (va_cwS 2 hts (TB_S TB_id tw_272 tw_273 tw_4 tw_274) rfl rfl rfl (by decide +kernel) ⟨Nat.le_of_ble_eq_true rfl, Nat.le_of_ble_eq_true rfl⟩) ⟨fun a U g mk q => by obtain ⟨q0, qX, qb⟩ := q; exact ⟨q0, va_X.moved (u := U) (U := U.calling g mk a) (Vm.Alike.refl U.vm) qX, qb⟩, fun U hU hW => ⟨rfl, va_X.moved hW.alike (hX.kept (by rw [hU]; exact hS.2.1 b hbl hbA)), by rw [hU]; exact Nat.lt_of_lt_of_le hbl hS.1⟩⟩ rfl rfl hl.1 rfl (lv_room (Nat.le_of_ble_eq_true rfl)) dL_law_27 ⟨Nat.le_of_ble_eq_true rfl, Nat.le_of_ble_eq_true rfl⟩) rfl ?_
    refine lv_istore (lv' := [(4, .int (nI y)), (0, .ref b), (1, .ref x), (2, .int 1), (3, .int (nI k))]) hx hb dL_law_30 hl (by decide) rfl (fun ls hl => ?_)
    refine lv_aload_n hx hb dL_law_32 rfl (lv_at hl 2 rfl) ?_
    have K : ∀ (y' : Nat), y' < 2 ^ 31 → ∀ ls, lv_has ls 5 [(4, .int (nI y)), (0, .ref b), (1, .ref x), (2, .int 1), (3, .int (nI k))] → W p l e room_1 s m #[Value.ref b] below meth c H locs 100 5000 (lw_Z below #[Value.ref b] s) (F0 m 54 ls [.int (nI y'), .ref x]) := by
      intro y' hy' ls hl
      obtain ⟨S', eA, hSx'⟩ := F_acts V hy' (by omega)
      refine g_contF (st1 := [.int 1]) (g_runSF (As := [.ref x, .int (nI y')]) (rest := []) ⟨hx, hb, hml, hown, hts⟩ (qL_acts l G hR eA) (va_cwS 2 hts (TB_S TB_id tw_308 tw_309 tw_4 tw_310) rfl rfl rfl (by decide +kernel) ⟨Nat.le_of_ble_eq_true rfl, Nat.le_of_ble_eq_true rfl⟩) hG hP hD rfl hl.1 rfl (Nat.le_of_ble_eq_true rfl) dL_law_54 ⟨Nat.le_of_ble_eq_true rfl, Nat.le_of_ble_eq_true rfl⟩) rfl hD hS hA (fun w1 H locs hR1 hP hD hS => ?_)
      have hR1 : Rp G x hi h0 h1 h2 S' w1 := hR1
      refine lv_if_eq (tgt := 71) hx hb dL_law_57 (by decide) (fun c_ => absurd c_ (by decide)) (fun _ => ?_)
      obtain ⟨p1, l1, x1, lo1, ov1, orr1, nv1, nr1, q1, qk1, qv1, qr1, wr1, wa1, wc1, wk1, hl1, V1⟩ := hSx'
      refine lv_aload_n hx hb dL_law_60 rfl (lv_at hl 2 rfl) ?_
      refine g_contRN (st1 := [.int 1]) (g_runSRN (As := [.ref x]) (rest := []) ⟨hx, hb, hml, hown, hts⟩ (qL_holds l G hR1 (F_holds V1)) (va_cwS 1 hts (TB_S TB_id tw_277 tw_278 tw_4 tw_279) rfl rfl rfl (by decide +kernel) ⟨Nat.le_of_ble_eq_true rfl, Nat.le_of_ble_eq_true rfl⟩) hG hP rfl hl.1 rfl (Nat.le_of_ble_eq_true rfl) dL_law_61 ⟨Nat.le_of_ble_eq_true rfl, Nat.le_of_ble_eq_true rfl⟩) rfl ?_
      refine lv_if_eq (tgt := 71) hx hb dL_law_64 (by decide) (fun c_ => absurd c_ (by decide)) (fun _ => ?_)
      refine lv_iconst (v := (1 : Int32)) hx hb dL_law_67 (by decide) ?_
      refine lv_goto (tgt := 72) hx hb dL_law_68 (by decide) ?_
      refine lv_istore_n (lv' := [(2, .int 1), (4, .int (nI y)), (0, .ref b), (1, .ref x), (3, .int (nI k))]) hx hb dL_law_72 rfl hl (by decide) rfl (fun ls hl => ?_)
      refine lv_iinc (v := nI (k + 1)) (lv' := [(3, .int (nI (k + 1))), (2, .int 1), (4, .int (nI y)), (0, .ref b), (1, .ref x)]) hx hb dL_law_73 hl (k := 4) rfl (nI_add k 1) (by decide) rfl (fun ls hl => ?_)
      refine lv_goto (tgt := 15) hx hb dL_law_76 (by decide) ?_
      exact ih (k + 1) (by omega) (by omega) S' w1 H locs ⟨p1, l1, x1, lo1, ov1, orr1, nv1, nr1, q1, qk1, qv1, qr1, wr1, wa1, wc1, wk1, by omega, V1⟩ hR1 hP hD hS ls (lv_sub hl [3, 4, 1, 0] rfl)
    refine lv_iload_n hx hb dL_law_33 rfl (lv_at hl 4 rfl) ?_
    refine lv_iconst (v := (4 : Int32)) hx hb dL_law_34 (by decide) ?_
    refine lv_icmp_ne (tgt := 52) hx hb dL_law_35 (by decide) (fun c2 => ?_) (fun c2 => ?_)
    · refine lv_iload hx hb dL_law_52 (lv_at hl 0 rfl) ?_
      exact K y hy ls hl
    · have e9 : nI y / 16 * 16 + 9 = nI (y / 16 * 16 + 9) := by
        rw [gl_16, gl_9, pk_div hy (by omega) (by omega), pk_mul, nI_add]
      refine lv_iload hx hb dL_law_38 (lv_at hl 0 rfl) ?_
      refine lv_bipush (v := (16 : Int32)) hx hb dL_law_40 (by decide) ?_
      refine lv_idiv hx hb dL_law_42 (by decide) ?_
      refine lv_bipush (v := (16 : Int32)) hx hb dL_law_43 (by decide) ?_
      refine lv_imul hx hb dL_law_45 ?_
      refine lv_bipush (v := (9 : Int32)) hx hb dL_law_46 (by decide) ?_
      refine lv_iadd hx hb dL_law_48 ?_
      rw [e9]
      refine lv_goto (tgt := 54) hx hb dL_law_49 (by decide) ?_
      exact K (y / 16 * 16 + 9) (by omega) ls hl
