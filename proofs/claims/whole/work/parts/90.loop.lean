/-! the law's loop -/
set_option maxHeartbeats 4000000 in
set_option maxRecDepth 100000 in
theorem law_loop {p : Program} {l : Launch} {e : Env} {s : State} {m : MethodId} {below : List Frame} {meth : Method} {c : Code} {b L : Nat} {xs : Nat → Int32} {G : gT} {a : Nat → Nat} {x hi h0 h1 h2 : Nat} (hL : L ≤ 2560) (C0 : lw_At p s m meth c b L xs) (hG : gK G s) : ∀ (n k : Nat), 5 * k ≤ L → L + 1 ≤ k + n → ∀ (w : va_W) (H : Heap) (locs : List Loc), LW G a x hi h0 h1 h2 w → va_P G.1 vwCl w H → va_D (lA s) w → va_S (lA s) s.heap H locs → ∀ (ls : Array Slot), lv_has ls 4 [(0, .ref b), (1, .ref x), (2, .ref (a 0)), (3, .int (nI (5 * k)))] → W p l e room_1 s m #[Value.ref b] below meth c H locs 100 5000 (lw_Z below #[Value.ref b] s) (F0 m 18 ls []) := by
  obtain ⟨hx, hb, hr, hml, hown, hts0, hX, hbl, hlocks, hgv⟩ := id C0
  have hbA : ¬ lA s b := Nat.not_le.mpr hbl
  intro n
  induction n with
  | zero =>
    intro k h3 h4
    exact absurd h4 (by omega)
  | succ n ih =>
    intro k h3 h4 w H locs hw hP hD hS ls hl
    refine lv_iload_n hx hb dL_law_18 rfl (lv_at hl 3 rfl) ?_
    refine lv_aload_n hx hb dL_law_19 rfl (lv_at hl 0 rfl) ?_
    refine va_slen hx hb hX hbl hbA hS dL_law_20 ?_
    refine lv_iconst (v := (5 : Int32)) hx hb dL_law_21 (by decide) ?_
    refine lv_isub hx hb dL_law_22 ?_
    have e5 : (Int32.ofNat L - 5).toInt = (L : Int) - 5 := pk_sub_toInt (a := L) (b := 5) (by omega) (by omega)
    refine lv_icmp_gt (tgt := 756) hx hb dL_law_23 (by decide) (fun c1 => ?_) (fun c1 => ?_)
    · refine lv_iconst (v := (1 : Int32)) hx hb dL_law_756 (by decide) ?_
      refine va_forget (fun q hq => hS.2.2 q hq) ?_
      refine W.widen (k := 600000) (n := 7302250) (Nat.le_of_ble_eq_true rfl) (Nat.le_of_ble_eq_true rfl) ?_
      exact lw_ret hx hb hr hlocks dL_law_757
    · have h5 : 5 * k + 5 ≤ L := by
        rw [Int32.lt_iff_toInt_lt, e5, nI_toInt (by omega)] at c1
        omega
      have e1 : nI (5 * k) + 1 = nI (5 * k + 1) := nI_add _ 1
      have e2 : nI (5 * k) + 2 = nI (5 * k + 2) := nI_add _ 2
      have e3 : nI (5 * k) + 3 = nI (5 * k + 3) := nI_add _ 3
      have e4 : nI (5 * k) + 4 = nI (5 * k + 4) := nI_add _ 4
      have e5' : nI (5 * k) + 5 = nI (5 * (k + 1)) := nI_add _ 5
      have j0 : vp_in (nI (5 * k)) L := vp_in_nI (by omega) (by omega)
      have j1 : vp_in (nI (5 * k) + 1) L := by rw [e1]; exact vp_in_nI (by omega) (by omega)
      have j2 : vp_in (nI (5 * k) + 2) L := by rw [e2]; exact vp_in_nI (by omega) (by omega)
      have j3 : vp_in (nI (5 * k) + 3) L := by rw [e3]; exact vp_in_nI (by omega) (by omega)
      have j4 : vp_in (nI (5 * k) + 4) L := by rw [e4]; exact vp_in_nI (by omega) (by omega)
      refine lv_aload_n hx hb dL_law_26 rfl (lv_at hl 0 rfl) ?_
      refine lv_iload_n hx hb dL_law_27 rfl (lv_at hl 3 rfl) ?_
      refine va_sld hx hb hX hbl hbA hS j0 dL_law_28 ?_
      refine lv_bipush (v := (31 : Int32)) hx hb dL_law_29 (by decide) ?_
      refine lv_iand hx hb dL_law_31 ?_
      refine lv_topi (fun v ev => ?_)
      have K : ∀ (w : va_W) (H : Heap) (locs : List Loc), LW G a x hi h0 h1 h2 w → va_P G.1 vwCl w H → va_D (lA s) w → va_S (lA s) s.heap H locs → W p l e room_1 s m #[Value.ref b] below meth c H locs 100 5000 (lw_Z below #[Value.ref b] s) (F0 m 750 ls []) := by
        intro w H locs hw hP hD hS
        refine lv_iinc (v := nI (5 * (k + 1))) (lv' := [(3, .int (nI (5 * (k + 1)))), (0, .ref b), (1, .ref x), (2, .ref (a 0))]) hx hb dL_law_750 hl (k := 3) rfl e5' (by decide) rfl (fun ls hl => ?_)
        refine lv_goto (tgt := 18) hx hb dL_law_753 (by decide) ?_
        exact ih (k + 1) (by omega) (by omega) w H locs hw hP hD hS ls (lv_sub hl [1, 2, 3, 0] rfl)
      by_cases c2 : v = (0 : Int32)
      · refine g_tsw (tgt := 152) (off := 120) hx hb dL_law_32 (by rw [c2]; decide) (by decide) (by decide) ?_
        exact lc_begin C0 hG  hw hP hD hS hl K
      by_cases c3 : v = (1 : Int32)
      · refine g_tsw (tgt := 165) (off := 133) hx hb dL_law_32 (by rw [c3]; decide) (by decide) (by decide) ?_
        exact lc_turn C0 hG  hw hP hD hS hl K
      by_cases c4 : v = (2 : Int32)
      · refine g_tsw (tgt := 178) (off := 146) hx hb dL_law_32 (by rw [c4]; decide) (by decide) (by decide) ?_
        exact lc_back C0 hG  hw hP hD hS hl K
      by_cases c5 : v = (3 : Int32)
      · refine g_tsw (tgt := 191) (off := 159) hx hb dL_law_32 (by rw [c5]; decide) (by decide) (by decide) ?_
        exact lc_drop C0 hG  hw hP hD hS hl K
      by_cases c6 : v = (4 : Int32)
      · refine g_tsw (tgt := 204) (off := 172) hx hb dL_law_32 (by rw [c6]; decide) (by decide) (by decide) ?_
        exact lc_writeOld C0 hG j1 j2 j3 j4 hw hP hD hS hl K
      by_cases c7 : v = (5 : Int32)
      · refine g_tsw (tgt := 257) (off := 225) hx hb dL_law_32 (by rw [c7]; decide) (by decide) (by decide) ?_
        exact lc_writeNew C0 hG j1 j2 j3 hw hP hD hS hl K
      by_cases c8 : v = (6 : Int32)
      · refine g_tsw (tgt := 300) (off := 268) hx hb dL_law_32 (by rw [c8]; decide) (by decide) (by decide) ?_
        exact lc_remove C0 hG j1 hw hP hD hS hl K
      by_cases c9 : v = (7 : Int32)
      · refine g_tsw (tgt := 323) (off := 291) hx hb dL_law_32 (by rw [c9]; decide) (by decide) (by decide) ?_
        exact lc_drain C0 hG j1 hw hP hD hS hl K
      by_cases c10 : v = (8 : Int32)
      · refine g_tsw (tgt := 346) (off := 314) hx hb dL_law_32 (by rw [c10]; decide) (by decide) (by decide) ?_
        exact lc_backfill C0 hG j1 hw hP hD hS hl K
      by_cases c11 : v = (9 : Int32)
      · refine g_tsw (tgt := 369) (off := 337) hx hb dL_law_32 (by rw [c11]; decide) (by decide) (by decide) ?_
        exact lc_crash C0 hG  hw hP hD hS hl K
      by_cases c12 : v = (10 : Int32)
      · refine g_tsw (tgt := 382) (off := 350) hx hb dL_law_32 (by rw [c12]; decide) (by decide) (by decide) ?_
        exact lc_mend C0 hG j1 hw hP hD hS hl K
      by_cases c13 : v = (11 : Int32)
      · refine g_tsw (tgt := 405) (off := 373) hx hb dL_law_32 (by rw [c13]; decide) (by decide) (by decide) ?_
        exact lc_read C0 hG j1 j2 j3 hw hP hD hS hl K
      by_cases c14 : v = (12 : Int32)
      · refine g_tsw (tgt := 448) (off := 416) hx hb dL_law_32 (by rw [c14]; decide) (by decide) (by decide) ?_
        exact lc_shapeOf C0 hG j1 j2 j3 hw hP hD hS hl K
      by_cases c15 : v = (13 : Int32)
      · refine g_tsw (tgt := 491) (off := 459) hx hb dL_law_32 (by rw [c15]; decide) (by decide) (by decide) ?_
        exact lc_queued C0 hG j1 j2 hw hP hD hS hl K
      by_cases c16 : v = (14 : Int32)
      · refine g_tsw (tgt := 524) (off := 492) hx hb dL_law_32 (by rw [c16]; decide) (by decide) (by decide) ?_
        exact lc_keys C0 hG j1 hw hP hD hS hl K
      by_cases c17 : v = (15 : Int32)
      · refine g_tsw (tgt := 547) (off := 515) hx hb dL_law_32 (by rw [c17]; decide) (by decide) (by decide) ?_
        exact lc_check C0 hG  hw hP hD hS hl K
      by_cases c18 : v = (16 : Int32)
      · refine g_tsw (tgt := 560) (off := 528) hx hb dL_law_32 (by rw [c18]; decide) (by decide) (by decide) ?_
        exact lc_quarrel C0 hG  hw hP hD hS hl K
      by_cases c19 : v = (17 : Int32)
      · refine g_tsw (tgt := 573) (off := 541) hx hb dL_law_32 (by rw [c19]; decide) (by decide) (by decide) ?_
        exact lc_atRisk C0 hG  hw hP hD hS hl K
      by_cases c20 : v = (18 : Int32)
      · refine g_tsw (tgt := 586) (off := 554) hx hb dL_law_32 (by rw [c20]; decide) (by decide) (by decide) ?_
        exact lc_walk C0 hG j1 j2 hw hP hD hS hl K
      by_cases c21 : v = (19 : Int32)
      · refine g_tsw (tgt := 619) (off := 587) hx hb dL_law_32 (by rw [c21]; decide) (by decide) (by decide) ?_
        exact lc_step C0 hG j1 hw hP hD hS hl K
      by_cases c22 : v = (20 : Int32)
      · refine g_tsw (tgt := 642) (off := 610) hx hb dL_law_32 (by rw [c22]; decide) (by decide) (by decide) ?_
        exact lc_count C0 hG j1 hw hP hD hS hl K
      by_cases c23 : v = (21 : Int32)
      · refine g_tsw (tgt := 665) (off := 633) hx hb dL_law_32 (by rw [c23]; decide) (by decide) (by decide) ?_
        exact lc_undo C0 hG  hw hP hD hS hl K
      by_cases c24 : v = (22 : Int32)
      · refine g_tsw (tgt := 678) (off := 646) hx hb dL_law_32 (by rw [c24]; decide) (by decide) (by decide) ?_
        exact lc_type C0 hG j1 hw hP hD hS hl K
      by_cases c25 : v = (23 : Int32)
      · refine g_tsw (tgt := 701) (off := 669) hx hb dL_law_32 (by rw [c25]; decide) (by decide) (by decide) ?_
        exact lc_clearText C0 hG  hw hP hD hS hl K
      by_cases c26 : v = (24 : Int32)
      · refine g_tsw (tgt := 714) (off := 682) hx hb dL_law_32 (by rw [c26]; decide) (by decide) (by decide) ?_
        exact lc_fault C0 hG j1 hw hP hD hS hl K
      by_cases c27 : v = (25 : Int32)
      · refine g_tsw (tgt := 737) (off := 705) hx hb dL_law_32 (by rw [c27]; decide) (by decide) (by decide) ?_
        exact lc_play C0 hG  hw hP hD hS hl K
      refine g_tsw (tgt := 750) (off := 718) hx hb dL_law_32 (g_swd 718 0 25 #[120, 133, 146, 159, 172, 225, 268, 291, 314, 337, 350, 373, 416, 459, 492, 515, 528, 541, 554, 587, 610, 633, 646, 669, 682, 705] [0, 1, 2, 3, 4, 5, 6, 7, 8, 9, 10, 11, 12, 13, 14, 15, 16, 17, 18, 19, 20, 21, 22, 23, 24, 25] (by decide) (by decide) (by simp only [List.mem_cons, List.not_mem_nil, or_false, not_or]; exact ⟨lv_neT c2 rfl, lv_neT c3 rfl, lv_neT c4 rfl, lv_neT c5 rfl, lv_neT c6 rfl, lv_neT c7 rfl, lv_neT c8 rfl, lv_neT c9 rfl, lv_neT c10 rfl, lv_neT c11 rfl, lv_neT c12 rfl, lv_neT c13 rfl, lv_neT c14 rfl, lv_neT c15 rfl, lv_neT c16 rfl, lv_neT c17 rfl, lv_neT c18 rfl, lv_neT c19 rfl, lv_neT c20 rfl, lv_neT c21 rfl, lv_neT c22 rfl, lv_neT c23 rfl, lv_neT c24 rfl, lv_neT c25 rfl, lv_neT c26 rfl, lv_neT c27 rfl⟩)) (by decide) (by decide) ?_
      exact K w H locs hw hP hD hS
