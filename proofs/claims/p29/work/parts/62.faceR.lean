-- TwoShapes.read(III)I
abbrev rmX5_read : Room := { frames := 3, cells := 0, slots := 0, locals := 66 }
def fX5_read_b9 (st : Int32) (x1 : Int32) (x2 : Int32) (x3 : Int32) (t0 : Int32) (ph : Int32) (la : Int32) (po : Int32) (lo : Int32) (ov : Nat → Int32) (orr : Nat → Int32) (nv : Nat → Int32) (nr : Nat → Int32) (ql : Int32) (qk : Nat → Int32) (qv : Nat → Int32) (qr : Nat → Int32) (wr : Nat → Int32) (wa : Int32) (wc : Nat → Int32) (wk : Nat → Int32) (len : Int32) (tx : Nat → Int32) (gi : Int32) (pl : Int32) (re : Int32) (ki : Int32) (nu : Nat → Int32) : Option (Int32) := ((fX5_isBelow x1 (31 : Int32)).bind fun r2 => (if r2 = (0 : Int32) then some ((-1000001 : Int32)) else ((fX5_isBelow x2 (2 : Int32)).bind fun r5 => (if r5 = (0 : Int32) then some ((-1000001 : Int32)) else ((fX5_isBelow x3 t0).bind fun r8 => (if r8 = (0 : Int32) then some ((-1000001 : Int32)) else ((fX4_rowRead x1 x2 ph la po lo ov orr nv nr ql qk qv qr wr wa wc wk).bind fun r11 => (if r11 = (-1 : Int32) then some ((-1000004 : Int32)) else ((fX2_number r11 x2 x3).bind fun r14 => some (r14))))))))))
set_option maxHeartbeats 4000000 in
set_option maxRecDepth 100000 in
theorem kX5_read_b9 {p : Program} {l : Launch} {e : Env} {s : State} {m : MethodId} {args : Array Value} {below : List Frame} {meth : Method} {c : Code} {G : gT} {x hi tr : Nat} {a : Nat → Nat} {h0 h1 h2 : Nat} (C0 : gX p s m args meth c cX5_read 6 (some .int) RX5 G) :
    ∀ (st : Int32) (x1 : Int32) (x2 : Int32) (x3 : Int32) (t0 : Int32) (ph : Int32) (la : Int32) (po : Int32) (lo : Int32) (ov : Nat → Int32) (orr : Nat → Int32) (nv : Nat → Int32) (nr : Nat → Int32) (ql : Int32) (qk : Nat → Int32) (qv : Nat → Int32) (qr : Nat → Int32) (wr : Nat → Int32) (wa : Int32) (wc : Nat → Int32) (wk : Nat → Int32) (len : Int32) (tx : Nat → Int32) (gi : Int32) (pl : Int32) (re : Int32) (ki : Int32) (nu : Nat → Int32) (u : Int32), fX5_read_b9 st x1 x2 x3 t0 ph la po lo ov orr nv nr ql qk qv qr wr wa wc wk len tx gi pl re ki nu = some u → va_P G.1 vwCl [(x, .inr (4, [.ref hi, .int st, .ref (a 0), .ref tr, .ref h0])), ((a 0), .inr (3, [.int ph, .int la, .int po, .int lo, .ref (a 1), .ref (a 4), .ref (a 7), .ref (a 11), .int wa, .ref (a 12), .ref (a 13)])), ((a 1), .inr (2, [.int 0, .ref (a 2), .ref (a 3)])), ((a 2), .inl (G.2.1, 31, .inl ov)), ((a 3), .inl (G.2.1, 31, .inl orr)), ((a 4), .inr (2, [.int 1, .ref (a 5), .ref (a 6)])), ((a 5), .inl (G.2.1, 31, .inl nv)), ((a 6), .inl (G.2.1, 31, .inl nr)), ((a 7), .inr (1, [.int ql, .ref (a 8), .ref (a 9), .ref (a 10)])), ((a 8), .inl (G.2.1, 8, .inl qk)), ((a 9), .inl (G.2.1, 8, .inl qv)), ((a 10), .inl (G.2.1, 8, .inl qr)), ((a 11), .inl (G.2.1, 31, .inl wr)), ((a 12), .inl (G.2.1, 3, .inl wc)), ((a 13), .inl (G.2.1, 3, .inl wk)), (h0, .inr (0, [.int len, .ref h1, .int gi, .int pl, .int re, .int ki, .ref h2])), (h1, .inl (G.2.1, 60, .inl tx)), (h2, .inl (G.2.1, 4, .inl nu))] s.heap → ∀ ls, lv_has ls 6 [(0, .ref x), (1, .int x1), (2, .int x2), (3, .int x3)] → gV p l e (headSpec wsX5_read rmX5_read).room s m args below meth c (some (.int u)) 9 ls [.int t0] := by
  obtain ⟨hx, hb, hr, hts, hown, hlocks, hml, hK⟩ := id C0
  intro st x1 x2 x3 t0 ph la po lo ov orr nv nr ql qk qv qr wr wa wc wk len tx gi pl re ki nu u hf hP ls hl
  unfold fX5_read_b9 at hf
  refine lv_istore (lv' := [(4, .int t0), (0, .ref x), (1, .int x1), (2, .int x2), (3, .int x3)]) hx hb dX5_read_9 hl (by decide) rfl (fun ls hl => ?_)
  refine lv_iload_n hx hb dX5_read_11 rfl (lv_at hl 2 rfl) ?_
  refine lv_bipush (v := (31 : Int32)) hx hb dX5_read_12 (by decide) ?_
  obtain ⟨r2, e3, hf⟩ := g_bdS hf
  refine g_contR (st1 := [.int r2]) (g_runSR (As := [.int x1, .int (31 : Int32)]) (rest := []) ⟨hx, hb, hml, hown, hts⟩ (qX5_isBelow l G e3) (va_cwS 2 hts (TB_S TB_id tw_293 tw_190 tw_5 tw_191) rfl rfl rfl (by decide +kernel) ⟨Nat.le_of_ble_eq_true rfl, Nat.le_of_ble_eq_true rfl⟩) hK (hP.sub [] rfl) rfl hl.1 rfl (Nat.le_of_ble_eq_true rfl) dX5_read_14) rfl ?_
  refine lv_if_eq (tgt := 37) hx hb dX5_read_17 (by decide) (fun c4 => ?_) (fun c4 => ?_)
  · have hf := g_ifT c4 hf
    refine lv_ldc (v := (-1000001 : Int32)) hx hb hown (hts _ tw_266) dX5_read_37 ?_
    cases hf
    exact g_iretR hx hb hr hlocks dX5_read_39
  · have hf := g_ifF c4 hf
    refine lv_iload_n hx hb dX5_read_20 rfl (lv_at hl 3 rfl) ?_
    refine lv_iconst (v := (2 : Int32)) hx hb dX5_read_21 (by decide) ?_
    obtain ⟨r5, e6, hf⟩ := g_bdS hf
    refine g_contR (st1 := [.int r5]) (g_runSR (As := [.int x2, .int (2 : Int32)]) (rest := []) ⟨hx, hb, hml, hown, hts⟩ (qX5_isBelow l G e6) (va_cwS 2 hts (TB_S TB_id tw_293 tw_190 tw_5 tw_191) rfl rfl rfl (by decide +kernel) ⟨Nat.le_of_ble_eq_true rfl, Nat.le_of_ble_eq_true rfl⟩) hK (hP.sub [] rfl) rfl hl.1 rfl (Nat.le_of_ble_eq_true rfl) dX5_read_22) rfl ?_
    refine lv_if_eq (tgt := 37) hx hb dX5_read_25 (by decide) (fun c7 => ?_) (fun c7 => ?_)
    · have hf := g_ifT c7 hf
      refine lv_ldc (v := (-1000001 : Int32)) hx hb hown (hts _ tw_266) dX5_read_37 ?_
      cases hf
      exact g_iretR hx hb hr hlocks dX5_read_39
    · have hf := g_ifF c7 hf
      refine lv_iload_n hx hb dX5_read_28 rfl (lv_at hl 4 rfl) ?_
      refine lv_iload hx hb dX5_read_29 (lv_at hl 0 rfl) ?_
      obtain ⟨r8, e9, hf⟩ := g_bdS hf
      refine g_contR (st1 := [.int r8]) (g_runSR (As := [.int x3, .int t0]) (rest := []) ⟨hx, hb, hml, hown, hts⟩ (qX5_isBelow l G e9) (va_cwS 2 hts (TB_S TB_id tw_293 tw_190 tw_5 tw_191) rfl rfl rfl (by decide +kernel) ⟨Nat.le_of_ble_eq_true rfl, Nat.le_of_ble_eq_true rfl⟩) hK (hP.sub [] rfl) rfl hl.1 rfl (Nat.le_of_ble_eq_true rfl) dX5_read_31) rfl ?_
      refine lv_if_ne (tgt := 40) hx hb dX5_read_34 (by decide) (fun c10 => ?_) (fun c10 => ?_)
      · have hf := g_ifF c10 hf
        refine lv_aload_n hx hb dX5_read_40 rfl (lv_at hl 1 rfl) ?_
        refine va_get (D := G.1) (ci := 4) (v := .ref (a 0)) (C := RX5) (T := TX5) (N := 5) hx hb hts hX5 hown hK.1 hP 0 rfl rfl 2 (by decide) (hts _ tw_146) (fun _ h9 => h9) rfl dX5_read_41 ?_
        refine lv_iload_n hx hb dX5_read_44 rfl (lv_at hl 2 rfl) ?_
        refine lv_iload_n hx hb dX5_read_45 rfl (lv_at hl 3 rfl) ?_
        obtain ⟨r11, e12, hf⟩ := g_bdS hf
        refine g_contR (st1 := [.int r11]) (g_runVR (As := [.int x1, .int x2]) (rest := []) ⟨hx, hb, hml, hown, hts⟩ (qX4_rowRead l G a e12) (cwV 2 hts (TB_V TB_id tw_358 tw_198 tw_199 tw_6 tw_200) rfl rfl rfl (by decide +kernel) ⟨Nat.le_of_ble_eq_true rfl, Nat.le_of_ble_eq_true rfl⟩) hK (hP.sub [1, 2, 3, 4, 5, 6, 7, 8, 9, 10, 11, 12, 13, 14] rfl) 0 rfl rfl rfl hl.1 rfl (Nat.le_of_ble_eq_true rfl) dX5_read_46) rfl ?_
        refine lv_istore (lv' := [(5, .int r11), (4, .int t0), (0, .ref x), (1, .int x1), (2, .int x2), (3, .int x3)]) hx hb dX5_read_49 hl (by decide) rfl (fun ls hl => ?_)
        refine lv_iload hx hb dX5_read_51 (lv_at hl 0 rfl) ?_
        refine lv_iconst (v := (-1 : Int32)) hx hb dX5_read_53 (by decide) ?_
        refine lv_icmp_ne (tgt := 62) hx hb dX5_read_54 (by decide) (fun c13 => ?_) (fun c13 => ?_)
        · have hf := g_ifF c13 hf
          refine lv_iload hx hb dX5_read_62 (lv_at hl 0 rfl) ?_
          refine lv_iload_n hx hb dX5_read_64 rfl (lv_at hl 4 rfl) ?_
          refine lv_iload_n hx hb dX5_read_65 rfl (lv_at hl 5 rfl) ?_
          obtain ⟨r14, e15, hf⟩ := g_bdS hf
          refine g_contR (st1 := [.int r14]) (g_runSR (As := [.int r11, .int x2, .int x3]) (rest := []) ⟨hx, hb, hml, hown, hts⟩ (qX2_number l G e15) (va_cwS 3 hts (TB_S TB_id tw_296 tw_297 tw_10 tw_298) rfl rfl rfl (by decide +kernel) ⟨Nat.le_of_ble_eq_true rfl, Nat.le_of_ble_eq_true rfl⟩) hK (hP.sub [] rfl) rfl hl.1 rfl (Nat.le_of_ble_eq_true rfl) dX5_read_66) rfl ?_
          cases hf
          exact g_iretR hx hb hr hlocks dX5_read_69
        · have hf := g_ifT c13 hf
          refine lv_ldc (v := (-1000004 : Int32)) hx hb hown (hts _ tw_242) dX5_read_57 ?_
          refine lv_goto (tgt := 69) hx hb dX5_read_59 (by decide) ?_
          cases hf
          exact g_iretR hx hb hr hlocks dX5_read_69
      · have hf := g_ifT c10 hf
        refine lv_ldc (v := (-1000001 : Int32)) hx hb hown (hts _ tw_266) dX5_read_37 ?_
        cases hf
        exact g_iretR hx hb hr hlocks dX5_read_39
def fX5_read (p0 : Int32) (p1 : Int32) (p2 : Int32) (st : Int32) (ph : Int32) (la : Int32) (po : Int32) (lo : Int32) (ov : Nat → Int32) (orr : Nat → Int32) (nv : Nat → Int32) (nr : Nat → Int32) (ql : Int32) (qk : Nat → Int32) (qv : Nat → Int32) (qr : Nat → Int32) (wr : Nat → Int32) (wa : Int32) (wc : Nat → Int32) (wk : Nat → Int32) (len : Int32) (tx : Nat → Int32) (gi : Int32) (pl : Int32) (re : Int32) (ki : Int32) (nu : Nat → Int32) : Option (Int32) := (if p1 = (0 : Int32) then fX5_read_b9 st p0 p1 p2 (3 : Int32) ph la po lo ov orr nv nr ql qk qv qr wr wa wc wk len tx gi pl re ki nu else fX5_read_b9 st p0 p1 p2 (2 : Int32) ph la po lo ov orr nv nr ql qk qv qr wr wa wc wk len tx gi pl re ki nu)
set_option maxHeartbeats 4000000 in
set_option maxRecDepth 100000 in
theorem qX5_read (l : Launch) (G : gT) (x hi tr : Nat) (a : Nat → Nat) (h0 h1 h2 : Nat) {p0 : Int32} {p1 : Int32} {p2 : Int32} {st : Int32} {ph : Int32} {la : Int32} {po : Int32} {lo : Int32} {ov : Nat → Int32} {orr : Nat → Int32} {nv : Nat → Int32} {nr : Nat → Int32} {ql : Int32} {qk : Nat → Int32} {qv : Nat → Int32} {qr : Nat → Int32} {wr : Nat → Int32} {wa : Int32} {wc : Nat → Int32} {wk : Nat → Int32} {len : Int32} {tx : Nat → Int32} {gi : Int32} {pl : Int32} {re : Int32} {ki : Int32} {nu : Nat → Int32} {u : Int32} (hf : fX5_read p0 p1 p2 st ph la po lo ov orr nv nr ql qk qv qr wr wa wc wk len tx gi pl re ki nu = some u) : gR l G yX5_read wsX5_read rmX5_read [.ref x, .int p0, .int p1, .int p2] (ts1W G x hi st (a 0) tr h0 ++ tabW G a ph la po lo ov orr nv nr ql qk qv qr wr wa wc wk ++ ordW G h0 h1 h2 len tx gi pl re ki nu) (some (.int u)) := by
  refine gR.of (cc := cX5_read) (maxL := 6) (ret := (some .int)) (by decide) rfl (Nat.le_of_ble_eq_true rfl) ?_
  intro p e s m below meth c C0 hP ls hl
  obtain ⟨hx, hb, hr, hts, hown, hlocks, hml, hK⟩ := id C0
  have hl : lv_has ls 6 [(0, .ref x), (1, .int p0), (2, .int p1), (3, .int p2)] := hl
  have hP : va_P G.1 vwCl [(x, .inr (4, [.ref hi, .int st, .ref (a 0), .ref tr, .ref h0])), ((a 0), .inr (3, [.int ph, .int la, .int po, .int lo, .ref (a 1), .ref (a 4), .ref (a 7), .ref (a 11), .int wa, .ref (a 12), .ref (a 13)])), ((a 1), .inr (2, [.int 0, .ref (a 2), .ref (a 3)])), ((a 2), .inl (G.2.1, 31, .inl ov)), ((a 3), .inl (G.2.1, 31, .inl orr)), ((a 4), .inr (2, [.int 1, .ref (a 5), .ref (a 6)])), ((a 5), .inl (G.2.1, 31, .inl nv)), ((a 6), .inl (G.2.1, 31, .inl nr)), ((a 7), .inr (1, [.int ql, .ref (a 8), .ref (a 9), .ref (a 10)])), ((a 8), .inl (G.2.1, 8, .inl qk)), ((a 9), .inl (G.2.1, 8, .inl qv)), ((a 10), .inl (G.2.1, 8, .inl qr)), ((a 11), .inl (G.2.1, 31, .inl wr)), ((a 12), .inl (G.2.1, 3, .inl wc)), ((a 13), .inl (G.2.1, 3, .inl wk)), (h0, .inr (0, [.int len, .ref h1, .int gi, .int pl, .int re, .int ki, .ref h2])), (h1, .inl (G.2.1, 60, .inl tx)), (h2, .inl (G.2.1, 4, .inl nu))] s.heap := hP
  unfold fX5_read at hf
  refine lv_iload_n hx hb dX5_read_0 rfl (lv_at hl 2 rfl) ?_
  refine lv_if_ne (tgt := 8) hx hb dX5_read_1 (by decide) (fun c1 => ?_) (fun c1 => ?_)
  · have hf := g_ifF c1 hf
    refine lv_iconst (v := (2 : Int32)) hx hb dX5_read_8 (by decide) ?_
    exact kX5_read_b9 C0 _ _ _ _ _ _ _ _ _ _ _ _ _ _ _ _ _ _ _ _ _ _ _ _ _ _ _ _ _ hf hP ls (lv_sub hl [0, 1, 2, 3] rfl)
  · have hf := g_ifT c1 hf
    refine lv_iconst (v := (3 : Int32)) hx hb dX5_read_4 (by decide) ?_
    refine lv_goto (tgt := 9) hx hb dX5_read_5 (by decide) ?_
    exact kX5_read_b9 C0 _ _ _ _ _ _ _ _ _ _ _ _ _ _ _ _ _ _ _ _ _ _ _ _ _ _ _ _ _ hf hP ls (lv_sub hl [0, 1, 2, 3] rfl)
-- TwoShapes.shapeOf(III)I
abbrev rmX5_shapeOf : Room := { frames := 1, cells := 0, slots := 0, locals := 24 }
def fX5_shapeOf_b109 (st : Int32) (x2 : Int32) (x3 : Int32) (x5 : Int32) (ph : Int32) (la : Int32) (po : Int32) (lo : Int32) (ov : Nat → Int32) (orr : Nat → Int32) (nv : Nat → Int32) (nr : Nat → Int32) (ql : Int32) (qk : Nat → Int32) (qv : Nat → Int32) (qr : Nat → Int32) (wr : Nat → Int32) (wa : Int32) (wc : Nat → Int32) (wk : Nat → Int32) (len : Int32) (tx : Nat → Int32) (gi : Int32) (pl : Int32) (re : Int32) (ki : Int32) (nu : Nat → Int32) : Option (Int32) := ((fX2_number x5 x2 (x3 - (2 : Int32))).bind fun r21 => some (r21))
set_option maxHeartbeats 4000000 in
set_option maxRecDepth 100000 in
theorem kX5_shapeOf_b109 {p : Program} {l : Launch} {e : Env} {s : State} {m : MethodId} {args : Array Value} {below : List Frame} {meth : Method} {c : Code} {G : gT} {x hi tr : Nat} {a : Nat → Nat} {h0 h1 h2 : Nat} (C0 : gX p s m args meth c cX5_shapeOf 6 (some .int) RX5 G) :
    ∀ (st : Int32) (x2 : Int32) (x3 : Int32) (x5 : Int32) (ph : Int32) (la : Int32) (po : Int32) (lo : Int32) (ov : Nat → Int32) (orr : Nat → Int32) (nv : Nat → Int32) (nr : Nat → Int32) (ql : Int32) (qk : Nat → Int32) (qv : Nat → Int32) (qr : Nat → Int32) (wr : Nat → Int32) (wa : Int32) (wc : Nat → Int32) (wk : Nat → Int32) (len : Int32) (tx : Nat → Int32) (gi : Int32) (pl : Int32) (re : Int32) (ki : Int32) (nu : Nat → Int32) (u : Int32), fX5_shapeOf_b109 st x2 x3 x5 ph la po lo ov orr nv nr ql qk qv qr wr wa wc wk len tx gi pl re ki nu = some u → va_P G.1 vwCl [(x, .inr (4, [.ref hi, .int st, .ref (a 0), .ref tr, .ref h0])), ((a 0), .inr (3, [.int ph, .int la, .int po, .int lo, .ref (a 1), .ref (a 4), .ref (a 7), .ref (a 11), .int wa, .ref (a 12), .ref (a 13)])), ((a 1), .inr (2, [.int 0, .ref (a 2), .ref (a 3)])), ((a 2), .inl (G.2.1, 31, .inl ov)), ((a 3), .inl (G.2.1, 31, .inl orr)), ((a 4), .inr (2, [.int 1, .ref (a 5), .ref (a 6)])), ((a 5), .inl (G.2.1, 31, .inl nv)), ((a 6), .inl (G.2.1, 31, .inl nr)), ((a 7), .inr (1, [.int ql, .ref (a 8), .ref (a 9), .ref (a 10)])), ((a 8), .inl (G.2.1, 8, .inl qk)), ((a 9), .inl (G.2.1, 8, .inl qv)), ((a 10), .inl (G.2.1, 8, .inl qr)), ((a 11), .inl (G.2.1, 31, .inl wr)), ((a 12), .inl (G.2.1, 3, .inl wc)), ((a 13), .inl (G.2.1, 3, .inl wk)), (h0, .inr (0, [.int len, .ref h1, .int gi, .int pl, .int re, .int ki, .ref h2])), (h1, .inl (G.2.1, 60, .inl tx)), (h2, .inl (G.2.1, 4, .inl nu))] s.heap → ∀ ls, lv_has ls 6 [(2, .int x2), (3, .int x3), (5, .int x5)] → gV p l e (headSpec wsX5_shapeOf rmX5_shapeOf).room s m args below meth c (some (.int u)) 109 ls [] := by
  obtain ⟨hx, hb, hr, hts, hown, hlocks, hml, hK⟩ := id C0
  intro st x2 x3 x5 ph la po lo ov orr nv nr ql qk qv qr wr wa wc wk len tx gi pl re ki nu u hf hP ls hl
  unfold fX5_shapeOf_b109 at hf
  refine lv_iload hx hb dX5_shapeOf_109 (lv_at hl 2 rfl) ?_
  refine lv_iload_n hx hb dX5_shapeOf_111 rfl (lv_at hl 0 rfl) ?_
  refine lv_iload_n hx hb dX5_shapeOf_112 rfl (lv_at hl 1 rfl) ?_
  refine lv_iconst (v := (2 : Int32)) hx hb dX5_shapeOf_113 (by decide) ?_
  refine lv_isub hx hb dX5_shapeOf_114 ?_
  obtain ⟨r21, e22, hf⟩ := g_bdS hf
  refine g_contR (st1 := [.int r21]) (g_runSR (As := [.int x5, .int x2, .int (x3 - (2 : Int32))]) (rest := []) ⟨hx, hb, hml, hown, hts⟩ (qX2_number l G e22) (va_cwS 3 hts (TB_S TB_id tw_296 tw_297 tw_10 tw_298) rfl rfl rfl (by decide +kernel) ⟨Nat.le_of_ble_eq_true rfl, Nat.le_of_ble_eq_true rfl⟩) hK (hP.sub [] rfl) rfl hl.1 rfl (Nat.le_of_ble_eq_true rfl) dX5_shapeOf_115) rfl ?_
  cases hf
  exact g_iretR hx hb hr hlocks dX5_shapeOf_118
def fX5_shapeOf (p0 : Int32) (p1 : Int32) (p2 : Int32) (st : Int32) (ph : Int32) (la : Int32) (po : Int32) (lo : Int32) (ov : Nat → Int32) (orr : Nat → Int32) (nv : Nat → Int32) (nr : Nat → Int32) (ql : Int32) (qk : Nat → Int32) (qv : Nat → Int32) (qr : Nat → Int32) (wr : Nat → Int32) (wa : Int32) (wc : Nat → Int32) (wk : Nat → Int32) (len : Int32) (tx : Nat → Int32) (gi : Int32) (pl : Int32) (re : Int32) (ki : Int32) (nu : Nat → Int32) : Option (Int32) := ((fX5_isBelow p0 (31 : Int32)).bind fun r1 => (if r1 = (0 : Int32) then some ((-1000001 : Int32)) else ((fX5_isBelow p1 (2 : Int32)).bind fun r4 => (if r4 = (0 : Int32) then some ((-1000001 : Int32)) else ((fX5_isBelow p2 (5 : Int32)).bind fun r7 => (if r7 = (0 : Int32) then some ((-1000001 : Int32)) else ((fX4_isThere p1 ph la po lo ov orr nv nr ql qk qv qr wr wa wc wk).bind fun r10 => (if r10 = (0 : Int32) then some ((-1000002 : Int32)) else ((fX4_shape p1 ph la po lo ov orr nv nr ql qk qv qr wr wa wc wk).bind fun r13 => (if r13 = 1 then g_gd (g_in p0 31) ((if p2 = (0 : Int32) then g_gd (g_in p0 31) (some ((ov p0.toNatClampNeg))) else (if p2 = (1 : Int32) then (if (orr p0.toNatClampNeg) = (-1 : Int32) then some ((0 : Int32)) else some ((1 : Int32))) else (if (orr p0.toNatClampNeg) = (-1 : Int32) then some ((-1000004 : Int32)) else (if p2 = (4 : Int32) then (if p1 = (1 : Int32) then some ((-1000004 : Int32)) else fX5_shapeOf_b109 st p1 p2 (orr p0.toNatClampNeg) ph la po lo ov orr nv nr ql qk qv qr wr wa wc wk len tx gi pl re ki nu) else fX5_shapeOf_b109 st p1 p2 (orr p0.toNatClampNeg) ph la po lo ov orr nv nr ql qk qv qr wr wa wc wk len tx gi pl re ki nu))))) else (if r13 = 4 then g_gd (g_in p0 31) ((if p2 = (0 : Int32) then g_gd (g_in p0 31) (some ((nv p0.toNatClampNeg))) else (if p2 = (1 : Int32) then (if (nr p0.toNatClampNeg) = (-1 : Int32) then some ((0 : Int32)) else some ((1 : Int32))) else (if (nr p0.toNatClampNeg) = (-1 : Int32) then some ((-1000004 : Int32)) else (if p2 = (4 : Int32) then (if p1 = (1 : Int32) then some ((-1000004 : Int32)) else fX5_shapeOf_b109 st p1 p2 (nr p0.toNatClampNeg) ph la po lo ov orr nv nr ql qk qv qr wr wa wc wk len tx gi pl re ki nu) else fX5_shapeOf_b109 st p1 p2 (nr p0.toNatClampNeg) ph la po lo ov orr nv nr ql qk qv qr wr wa wc wk len tx gi pl re ki nu))))) else none)))))))))))
set_option maxHeartbeats 4000000 in
set_option maxRecDepth 100000 in
theorem qX5_shapeOf (l : Launch) (G : gT) (x hi tr : Nat) (a : Nat → Nat) (h0 h1 h2 : Nat) {p0 : Int32} {p1 : Int32} {p2 : Int32} {st : Int32} {ph : Int32} {la : Int32} {po : Int32} {lo : Int32} {ov : Nat → Int32} {orr : Nat → Int32} {nv : Nat → Int32} {nr : Nat → Int32} {ql : Int32} {qk : Nat → Int32} {qv : Nat → Int32} {qr : Nat → Int32} {wr : Nat → Int32} {wa : Int32} {wc : Nat → Int32} {wk : Nat → Int32} {len : Int32} {tx : Nat → Int32} {gi : Int32} {pl : Int32} {re : Int32} {ki : Int32} {nu : Nat → Int32} {u : Int32} (hf : fX5_shapeOf p0 p1 p2 st ph la po lo ov orr nv nr ql qk qv qr wr wa wc wk len tx gi pl re ki nu = some u) : gR l G yX5_shapeOf wsX5_shapeOf rmX5_shapeOf [.ref x, .int p0, .int p1, .int p2] (ts1W G x hi st (a 0) tr h0 ++ tabW G a ph la po lo ov orr nv nr ql qk qv qr wr wa wc wk ++ ordW G h0 h1 h2 len tx gi pl re ki nu) (some (.int u)) := by
  refine gR.of (cc := cX5_shapeOf) (maxL := 6) (ret := (some .int)) (by decide) rfl (Nat.le_of_ble_eq_true rfl) ?_
  intro p e s m below meth c C0 hP ls hl
  obtain ⟨hx, hb, hr, hts, hown, hlocks, hml, hK⟩ := id C0
  have hl : lv_has ls 6 [(0, .ref x), (1, .int p0), (2, .int p1), (3, .int p2)] := hl
  have hP : va_P G.1 vwCl [(x, .inr (4, [.ref hi, .int st, .ref (a 0), .ref tr, .ref h0])), ((a 0), .inr (3, [.int ph, .int la, .int po, .int lo, .ref (a 1), .ref (a 4), .ref (a 7), .ref (a 11), .int wa, .ref (a 12), .ref (a 13)])), ((a 1), .inr (2, [.int 0, .ref (a 2), .ref (a 3)])), ((a 2), .inl (G.2.1, 31, .inl ov)), ((a 3), .inl (G.2.1, 31, .inl orr)), ((a 4), .inr (2, [.int 1, .ref (a 5), .ref (a 6)])), ((a 5), .inl (G.2.1, 31, .inl nv)), ((a 6), .inl (G.2.1, 31, .inl nr)), ((a 7), .inr (1, [.int ql, .ref (a 8), .ref (a 9), .ref (a 10)])), ((a 8), .inl (G.2.1, 8, .inl qk)), ((a 9), .inl (G.2.1, 8, .inl qv)), ((a 10), .inl (G.2.1, 8, .inl qr)), ((a 11), .inl (G.2.1, 31, .inl wr)), ((a 12), .inl (G.2.1, 3, .inl wc)), ((a 13), .inl (G.2.1, 3, .inl wk)), (h0, .inr (0, [.int len, .ref h1, .int gi, .int pl, .int re, .int ki, .ref h2])), (h1, .inl (G.2.1, 60, .inl tx)), (h2, .inl (G.2.1, 4, .inl nu))] s.heap := hP
  unfold fX5_shapeOf at hf
  refine lv_iload_n hx hb dX5_shapeOf_0 rfl (lv_at hl 1 rfl) ?_
  refine lv_bipush (v := (31 : Int32)) hx hb dX5_shapeOf_1 (by decide) ?_
  obtain ⟨r1, e2, hf⟩ := g_bdS hf
  refine g_contR (st1 := [.int r1]) (g_runSR (As := [.int p0, .int (31 : Int32)]) (rest := []) ⟨hx, hb, hml, hown, hts⟩ (qX5_isBelow l G e2) (va_cwS 2 hts (TB_S TB_id tw_293 tw_190 tw_5 tw_191) rfl rfl rfl (by decide +kernel) ⟨Nat.le_of_ble_eq_true rfl, Nat.le_of_ble_eq_true rfl⟩) hK (hP.sub [] rfl) rfl hl.1 rfl (Nat.le_of_ble_eq_true rfl) dX5_shapeOf_3) rfl ?_
  refine lv_if_eq (tgt := 25) hx hb dX5_shapeOf_6 (by decide) (fun c3 => ?_) (fun c3 => ?_)
  · have hf := g_ifT c3 hf
    refine lv_ldc (v := (-1000001 : Int32)) hx hb hown (hts _ tw_266) dX5_shapeOf_25 ?_
    cases hf
    exact g_iretR hx hb hr hlocks dX5_shapeOf_27
  · have hf := g_ifF c3 hf
    refine lv_iload_n hx hb dX5_shapeOf_9 rfl (lv_at hl 2 rfl) ?_
    refine lv_iconst (v := (2 : Int32)) hx hb dX5_shapeOf_10 (by decide) ?_
    obtain ⟨r4, e5, hf⟩ := g_bdS hf
    refine g_contR (st1 := [.int r4]) (g_runSR (As := [.int p1, .int (2 : Int32)]) (rest := []) ⟨hx, hb, hml, hown, hts⟩ (qX5_isBelow l G e5) (va_cwS 2 hts (TB_S TB_id tw_293 tw_190 tw_5 tw_191) rfl rfl rfl (by decide +kernel) ⟨Nat.le_of_ble_eq_true rfl, Nat.le_of_ble_eq_true rfl⟩) hK (hP.sub [] rfl) rfl hl.1 rfl (Nat.le_of_ble_eq_true rfl) dX5_shapeOf_11) rfl ?_
    refine lv_if_eq (tgt := 25) hx hb dX5_shapeOf_14 (by decide) (fun c6 => ?_) (fun c6 => ?_)
    · have hf := g_ifT c6 hf
      refine lv_ldc (v := (-1000001 : Int32)) hx hb hown (hts _ tw_266) dX5_shapeOf_25 ?_
      cases hf
      exact g_iretR hx hb hr hlocks dX5_shapeOf_27
    · have hf := g_ifF c6 hf
      refine lv_iload_n hx hb dX5_shapeOf_17 rfl (lv_at hl 3 rfl) ?_
      refine lv_iconst (v := (5 : Int32)) hx hb dX5_shapeOf_18 (by decide) ?_
      obtain ⟨r7, e8, hf⟩ := g_bdS hf
      refine g_contR (st1 := [.int r7]) (g_runSR (As := [.int p2, .int (5 : Int32)]) (rest := []) ⟨hx, hb, hml, hown, hts⟩ (qX5_isBelow l G e8) (va_cwS 2 hts (TB_S TB_id tw_293 tw_190 tw_5 tw_191) rfl rfl rfl (by decide +kernel) ⟨Nat.le_of_ble_eq_true rfl, Nat.le_of_ble_eq_true rfl⟩) hK (hP.sub [] rfl) rfl hl.1 rfl (Nat.le_of_ble_eq_true rfl) dX5_shapeOf_19) rfl ?_
      refine lv_if_ne (tgt := 28) hx hb dX5_shapeOf_22 (by decide) (fun c9 => ?_) (fun c9 => ?_)
      · have hf := g_ifF c9 hf
        refine lv_aload_n hx hb dX5_shapeOf_28 rfl (lv_at hl 0 rfl) ?_
        refine va_get (D := G.1) (ci := 4) (v := .ref (a 0)) (C := RX5) (T := TX5) (N := 5) hx hb hts hX5 hown hK.1 hP 0 rfl rfl 2 (by decide) (hts _ tw_146) (fun _ h9 => h9) rfl dX5_shapeOf_29 ?_
        refine lv_iload_n hx hb dX5_shapeOf_32 rfl (lv_at hl 2 rfl) ?_
        obtain ⟨r10, e11, hf⟩ := g_bdS hf
        refine g_contR (st1 := [.int r10]) (g_runVR (As := [.int p1]) (rest := []) ⟨hx, hb, hml, hown, hts⟩ (qX4_isThere l G a e11) (cwV 1 hts (TB_V TB_id tw_294 tw_221 tw_222 tw_6 tw_223) rfl rfl rfl (by decide +kernel) ⟨Nat.le_of_ble_eq_true rfl, Nat.le_of_ble_eq_true rfl⟩) hK (hP.sub [1, 2, 3, 4, 5, 6, 7, 8, 9, 10, 11, 12, 13, 14] rfl) 0 rfl rfl rfl hl.1 rfl (Nat.le_of_ble_eq_true rfl) dX5_shapeOf_33) rfl ?_
        refine lv_if_ne (tgt := 42) hx hb dX5_shapeOf_36 (by decide) (fun c12 => ?_) (fun c12 => ?_)
        · have hf := g_ifF c12 hf
          refine lv_aload_n hx hb dX5_shapeOf_42 rfl (lv_at hl 0 rfl) ?_
          refine va_get (D := G.1) (ci := 4) (v := .ref (a 0)) (C := RX5) (T := TX5) (N := 5) hx hb hts hX5 hown hK.1 hP 0 rfl rfl 2 (by decide) (hts _ tw_146) (fun _ h9 => h9) rfl dX5_shapeOf_43 ?_
          refine lv_iload_n hx hb dX5_shapeOf_46 rfl (lv_at hl 2 rfl) ?_
          obtain ⟨r13, e14, hf⟩ := g_bdS hf
          refine g_contR (st1 := [.ref (a r13)]) (g_runVR (As := [.int p1]) (rest := []) ⟨hx, hb, hml, hown, hts⟩ (qX4_shape l G a e14) (cwV 1 hts (TB_V TB_id tw_295 tw_225 tw_226 tw_6 tw_227) rfl rfl rfl (by decide +kernel) ⟨Nat.le_of_ble_eq_true rfl, Nat.le_of_ble_eq_true rfl⟩) hK (hP.sub [1, 2, 3, 4, 5, 6, 7, 8, 9, 10, 11, 12, 13, 14] rfl) 0 rfl rfl rfl hl.1 rfl (Nat.le_of_ble_eq_true rfl) dX5_shapeOf_47) rfl ?_
          by_cases c15 : r13 = 1
          · have hf := g_ifT c15 hf
            subst c15
            refine lv_astore (lv' := [(4, .ref (a 1)), (0, .ref x), (1, .int p0), (2, .int p1), (3, .int p2)]) hx hb dX5_shapeOf_50 hl (by decide) rfl (fun ls hl => ?_)
            refine lv_aload hx hb dX5_shapeOf_52 (lv_at hl 0 rfl) ?_
            refine va_get (D := G.1) (ci := 2) (v := .ref (a 3)) (C := RX3) (T := TX3) (N := 3) hx hb hts hX3 hown hK.1 hP 2 rfl rfl 2 (by decide) (hts _ tw_44) (fun _ h9 => h9) rfl dX5_shapeOf_54 ?_
            refine lv_iload_n hx hb dX5_shapeOf_57 rfl (lv_at hl 2 rfl) ?_
            obtain ⟨g16, hf⟩ := g_gdS hf
            refine va_iald hx hb hK.1 hP 4 0 rfl rfl (g_in_vp g16) dX5_shapeOf_58 ?_
            refine lv_istore (lv' := [(5, .int (orr p0.toNatClampNeg)), (4, .ref (a 1)), (0, .ref x), (1, .int p0), (2, .int p1), (3, .int p2)]) hx hb dX5_shapeOf_59 hl (by decide) rfl (fun ls hl => ?_)
            refine lv_iload_n hx hb dX5_shapeOf_61 rfl (lv_at hl 5 rfl) ?_
            refine lv_if_ne (tgt := 73) hx hb dX5_shapeOf_62 (by decide) (fun c17 => ?_) (fun c17 => ?_)
            · have hf := g_ifF c17 hf
              refine lv_iload_n hx hb dX5_shapeOf_73 rfl (lv_at hl 5 rfl) ?_
              refine lv_iconst (v := (1 : Int32)) hx hb dX5_shapeOf_74 (by decide) ?_
              refine lv_icmp_ne (tgt := 90) hx hb dX5_shapeOf_75 (by decide) (fun c18 => ?_) (fun c18 => ?_)
              · have hf := g_ifF c18 hf
                refine lv_iload hx hb dX5_shapeOf_90 (lv_at hl 0 rfl) ?_
                refine lv_iconst (v := (-1 : Int32)) hx hb dX5_shapeOf_92 (by decide) ?_
                refine lv_icmp_eq (tgt := 106) hx hb dX5_shapeOf_93 (by decide) (fun c19 => ?_) (fun c19 => ?_)
                · have hf := g_ifT c19 hf
                  refine lv_ldc (v := (-1000004 : Int32)) hx hb hown (hts _ tw_242) dX5_shapeOf_106 ?_
                  cases hf
                  exact g_iretR hx hb hr hlocks dX5_shapeOf_108
                · have hf := g_ifF c19 hf
                  refine lv_iload_n hx hb dX5_shapeOf_96 rfl (lv_at hl 5 rfl) ?_
                  refine lv_iconst (v := (4 : Int32)) hx hb dX5_shapeOf_97 (by decide) ?_
                  refine lv_icmp_ne (tgt := 109) hx hb dX5_shapeOf_98 (by decide) (fun c20 => ?_) (fun c20 => ?_)
                  · have hf := g_ifF c20 hf
                    exact kX5_shapeOf_b109 C0 _ _ _ _ _ _ _ _ _ _ _ _ _ _ _ _ _ _ _ _ _ _ _ _ _ _ _ _ hf hP ls (lv_sub hl [4, 5, 0] rfl)
                  · have hf := g_ifT c20 hf
                    refine lv_iload_n hx hb dX5_shapeOf_101 rfl (lv_at hl 4 rfl) ?_
                    refine lv_iconst (v := (1 : Int32)) hx hb dX5_shapeOf_102 (by decide) ?_
                    refine lv_icmp_ne (tgt := 109) hx hb dX5_shapeOf_103 (by decide) (fun c23 => ?_) (fun c23 => ?_)
                    · have hf := g_ifF c23 hf
                      exact kX5_shapeOf_b109 C0 _ _ _ _ _ _ _ _ _ _ _ _ _ _ _ _ _ _ _ _ _ _ _ _ _ _ _ _ hf hP ls (lv_sub hl [4, 5, 0] rfl)
                    · have hf := g_ifT c23 hf
                      refine lv_ldc (v := (-1000004 : Int32)) hx hb hown (hts _ tw_242) dX5_shapeOf_106 ?_
                      cases hf
                      exact g_iretR hx hb hr hlocks dX5_shapeOf_108
              · have hf := g_ifT c18 hf
                refine lv_iload hx hb dX5_shapeOf_78 (lv_at hl 0 rfl) ?_
                refine lv_iconst (v := (-1 : Int32)) hx hb dX5_shapeOf_80 (by decide) ?_
                refine lv_icmp_ne (tgt := 88) hx hb dX5_shapeOf_81 (by decide) (fun c24 => ?_) (fun c24 => ?_)
                · have hf := g_ifF c24 hf
                  refine lv_iconst (v := (1 : Int32)) hx hb dX5_shapeOf_88 (by decide) ?_
                  cases hf
                  exact g_iretR hx hb hr hlocks dX5_shapeOf_89
                · have hf := g_ifT c24 hf
                  refine lv_iconst (v := (0 : Int32)) hx hb dX5_shapeOf_84 (by decide) ?_
                  refine lv_goto (tgt := 89) hx hb dX5_shapeOf_85 (by decide) ?_
                  cases hf
                  exact g_iretR hx hb hr hlocks dX5_shapeOf_89
            · have hf := g_ifT c17 hf
              refine lv_aload hx hb dX5_shapeOf_65 (lv_at hl 1 rfl) ?_
              refine va_get (D := G.1) (ci := 2) (v := .ref (a 2)) (C := RX3) (T := TX3) (N := 3) hx hb hts hX3 hown hK.1 hP 2 rfl rfl 1 (by decide) (hts _ tw_41) (fun _ h9 => h9) rfl dX5_shapeOf_67 ?_
              refine lv_iload_n hx hb dX5_shapeOf_70 rfl (lv_at hl 3 rfl) ?_
              obtain ⟨g25, hf⟩ := g_gdS hf
              refine va_iald hx hb hK.1 hP 3 0 rfl rfl (g_in_vp g25) dX5_shapeOf_71 ?_
              cases hf
              exact g_iretR hx hb hr hlocks dX5_shapeOf_72
          have hf := g_ifF c15 hf
          by_cases c26 : r13 = 4
          · have hf := g_ifT c26 hf
            subst c26
            refine lv_astore (lv' := [(4, .ref (a 4)), (0, .ref x), (1, .int p0), (2, .int p1), (3, .int p2)]) hx hb dX5_shapeOf_50 hl (by decide) rfl (fun ls hl => ?_)
            refine lv_aload hx hb dX5_shapeOf_52 (lv_at hl 0 rfl) ?_
            refine va_get (D := G.1) (ci := 2) (v := .ref (a 6)) (C := RX3) (T := TX3) (N := 3) hx hb hts hX3 hown hK.1 hP 5 rfl rfl 2 (by decide) (hts _ tw_44) (fun _ h9 => h9) rfl dX5_shapeOf_54 ?_
            refine lv_iload_n hx hb dX5_shapeOf_57 rfl (lv_at hl 2 rfl) ?_
            obtain ⟨g27, hf⟩ := g_gdS hf
            refine va_iald hx hb hK.1 hP 7 0 rfl rfl (g_in_vp g27) dX5_shapeOf_58 ?_
            refine lv_istore (lv' := [(5, .int (nr p0.toNatClampNeg)), (4, .ref (a 4)), (0, .ref x), (1, .int p0), (2, .int p1), (3, .int p2)]) hx hb dX5_shapeOf_59 hl (by decide) rfl (fun ls hl => ?_)
            refine lv_iload_n hx hb dX5_shapeOf_61 rfl (lv_at hl 5 rfl) ?_
            refine lv_if_ne (tgt := 73) hx hb dX5_shapeOf_62 (by decide) (fun c28 => ?_) (fun c28 => ?_)
            · have hf := g_ifF c28 hf
              refine lv_iload_n hx hb dX5_shapeOf_73 rfl (lv_at hl 5 rfl) ?_
              refine lv_iconst (v := (1 : Int32)) hx hb dX5_shapeOf_74 (by decide) ?_
              refine lv_icmp_ne (tgt := 90) hx hb dX5_shapeOf_75 (by decide) (fun c29 => ?_) (fun c29 => ?_)
              · have hf := g_ifF c29 hf
                refine lv_iload hx hb dX5_shapeOf_90 (lv_at hl 0 rfl) ?_
                refine lv_iconst (v := (-1 : Int32)) hx hb dX5_shapeOf_92 (by decide) ?_
                refine lv_icmp_eq (tgt := 106) hx hb dX5_shapeOf_93 (by decide) (fun c30 => ?_) (fun c30 => ?_)
                · have hf := g_ifT c30 hf
                  refine lv_ldc (v := (-1000004 : Int32)) hx hb hown (hts _ tw_242) dX5_shapeOf_106 ?_
                  cases hf
                  exact g_iretR hx hb hr hlocks dX5_shapeOf_108
                · have hf := g_ifF c30 hf
                  refine lv_iload_n hx hb dX5_shapeOf_96 rfl (lv_at hl 5 rfl) ?_
                  refine lv_iconst (v := (4 : Int32)) hx hb dX5_shapeOf_97 (by decide) ?_
                  refine lv_icmp_ne (tgt := 109) hx hb dX5_shapeOf_98 (by decide) (fun c31 => ?_) (fun c31 => ?_)
                  · have hf := g_ifF c31 hf
                    exact kX5_shapeOf_b109 C0 _ _ _ _ _ _ _ _ _ _ _ _ _ _ _ _ _ _ _ _ _ _ _ _ _ _ _ _ hf hP ls (lv_sub hl [4, 5, 0] rfl)
                  · have hf := g_ifT c31 hf
                    refine lv_iload_n hx hb dX5_shapeOf_101 rfl (lv_at hl 4 rfl) ?_
                    refine lv_iconst (v := (1 : Int32)) hx hb dX5_shapeOf_102 (by decide) ?_
                    refine lv_icmp_ne (tgt := 109) hx hb dX5_shapeOf_103 (by decide) (fun c32 => ?_) (fun c32 => ?_)
                    · have hf := g_ifF c32 hf
                      exact kX5_shapeOf_b109 C0 _ _ _ _ _ _ _ _ _ _ _ _ _ _ _ _ _ _ _ _ _ _ _ _ _ _ _ _ hf hP ls (lv_sub hl [4, 5, 0] rfl)
                    · have hf := g_ifT c32 hf
                      refine lv_ldc (v := (-1000004 : Int32)) hx hb hown (hts _ tw_242) dX5_shapeOf_106 ?_
                      cases hf
                      exact g_iretR hx hb hr hlocks dX5_shapeOf_108
              · have hf := g_ifT c29 hf
                refine lv_iload hx hb dX5_shapeOf_78 (lv_at hl 0 rfl) ?_
                refine lv_iconst (v := (-1 : Int32)) hx hb dX5_shapeOf_80 (by decide) ?_
                refine lv_icmp_ne (tgt := 88) hx hb dX5_shapeOf_81 (by decide) (fun c33 => ?_) (fun c33 => ?_)
                · have hf := g_ifF c33 hf
                  refine lv_iconst (v := (1 : Int32)) hx hb dX5_shapeOf_88 (by decide) ?_
                  cases hf
                  exact g_iretR hx hb hr hlocks dX5_shapeOf_89
                · have hf := g_ifT c33 hf
                  refine lv_iconst (v := (0 : Int32)) hx hb dX5_shapeOf_84 (by decide) ?_
                  refine lv_goto (tgt := 89) hx hb dX5_shapeOf_85 (by decide) ?_
                  cases hf
                  exact g_iretR hx hb hr hlocks dX5_shapeOf_89
            · have hf := g_ifT c28 hf
              refine lv_aload hx hb dX5_shapeOf_65 (lv_at hl 1 rfl) ?_
              refine va_get (D := G.1) (ci := 2) (v := .ref (a 5)) (C := RX3) (T := TX3) (N := 3) hx hb hts hX3 hown hK.1 hP 5 rfl rfl 1 (by decide) (hts _ tw_41) (fun _ h9 => h9) rfl dX5_shapeOf_67 ?_
              refine lv_iload_n hx hb dX5_shapeOf_70 rfl (lv_at hl 3 rfl) ?_
              obtain ⟨g34, hf⟩ := g_gdS hf
              refine va_iald hx hb hK.1 hP 6 0 rfl rfl (g_in_vp g34) dX5_shapeOf_71 ?_
              cases hf
              exact g_iretR hx hb hr hlocks dX5_shapeOf_72
          have hf := g_ifF c26 hf
          cases hf
        · have hf := g_ifT c12 hf
          refine lv_ldc (v := (-1000002 : Int32)) hx hb hown (hts _ tw_271) dX5_shapeOf_39 ?_
          cases hf
          exact g_iretR hx hb hr hlocks dX5_shapeOf_41
      · have hf := g_ifT c9 hf
        refine lv_ldc (v := (-1000001 : Int32)) hx hb hown (hts _ tw_266) dX5_shapeOf_25 ?_
        cases hf
        exact g_iretR hx hb hr hlocks dX5_shapeOf_27
-- TwoShapes.keys(I)I
abbrev rmX5_keys : Room := { frames := 4, cells := 0, slots := 0, locals := 89 }
def fX5_keys (p0 : Int32) (st : Int32) (ph : Int32) (la : Int32) (po : Int32) (lo : Int32) (ov : Nat → Int32) (orr : Nat → Int32) (nv : Nat → Int32) (nr : Nat → Int32) (ql : Int32) (qk : Nat → Int32) (qv : Nat → Int32) (qr : Nat → Int32) (wr : Nat → Int32) (wa : Int32) (wc : Nat → Int32) (wk : Nat → Int32) (len : Int32) (tx : Nat → Int32) (gi : Int32) (pl : Int32) (re : Int32) (ki : Int32) (nu : Nat → Int32) : Option (Int32) := ((fX5_isBelow p0 (2 : Int32)).bind fun r1 => (if r1 = (0 : Int32) then some ((-1000001 : Int32)) else ((fX4_keysRead p0 ph la po lo ov orr nv nr ql qk qv qr wr wa wc wk).bind fun r4 => some (r4))))
set_option maxHeartbeats 4000000 in
set_option maxRecDepth 100000 in
theorem qX5_keys (l : Launch) (G : gT) (x hi tr : Nat) (a : Nat → Nat) (h0 h1 h2 : Nat) {p0 : Int32} {st : Int32} {ph : Int32} {la : Int32} {po : Int32} {lo : Int32} {ov : Nat → Int32} {orr : Nat → Int32} {nv : Nat → Int32} {nr : Nat → Int32} {ql : Int32} {qk : Nat → Int32} {qv : Nat → Int32} {qr : Nat → Int32} {wr : Nat → Int32} {wa : Int32} {wc : Nat → Int32} {wk : Nat → Int32} {len : Int32} {tx : Nat → Int32} {gi : Int32} {pl : Int32} {re : Int32} {ki : Int32} {nu : Nat → Int32} {u : Int32} (hf : fX5_keys p0 st ph la po lo ov orr nv nr ql qk qv qr wr wa wc wk len tx gi pl re ki nu = some u) : gR l G yX5_keys wsX5_keys rmX5_keys [.ref x, .int p0] (ts1W G x hi st (a 0) tr h0 ++ tabW G a ph la po lo ov orr nv nr ql qk qv qr wr wa wc wk ++ ordW G h0 h1 h2 len tx gi pl re ki nu) (some (.int u)) := by
  refine gR.of (cc := cX5_keys) (maxL := 2) (ret := (some .int)) (by decide) rfl (Nat.le_of_ble_eq_true rfl) ?_
  intro p e s m below meth c C0 hP ls hl
  obtain ⟨hx, hb, hr, hts, hown, hlocks, hml, hK⟩ := id C0
  have hl : lv_has ls 2 [(0, .ref x), (1, .int p0)] := hl
  have hP : va_P G.1 vwCl [(x, .inr (4, [.ref hi, .int st, .ref (a 0), .ref tr, .ref h0])), ((a 0), .inr (3, [.int ph, .int la, .int po, .int lo, .ref (a 1), .ref (a 4), .ref (a 7), .ref (a 11), .int wa, .ref (a 12), .ref (a 13)])), ((a 1), .inr (2, [.int 0, .ref (a 2), .ref (a 3)])), ((a 2), .inl (G.2.1, 31, .inl ov)), ((a 3), .inl (G.2.1, 31, .inl orr)), ((a 4), .inr (2, [.int 1, .ref (a 5), .ref (a 6)])), ((a 5), .inl (G.2.1, 31, .inl nv)), ((a 6), .inl (G.2.1, 31, .inl nr)), ((a 7), .inr (1, [.int ql, .ref (a 8), .ref (a 9), .ref (a 10)])), ((a 8), .inl (G.2.1, 8, .inl qk)), ((a 9), .inl (G.2.1, 8, .inl qv)), ((a 10), .inl (G.2.1, 8, .inl qr)), ((a 11), .inl (G.2.1, 31, .inl wr)), ((a 12), .inl (G.2.1, 3, .inl wc)), ((a 13), .inl (G.2.1, 3, .inl wk)), (h0, .inr (0, [.int len, .ref h1, .int gi, .int pl, .int re, .int ki, .ref h2])), (h1, .inl (G.2.1, 60, .inl tx)), (h2, .inl (G.2.1, 4, .inl nu))] s.heap := hP
  unfold fX5_keys at hf
  refine lv_iload_n hx hb dX5_keys_0 rfl (lv_at hl 1 rfl) ?_
  refine lv_iconst (v := (2 : Int32)) hx hb dX5_keys_1 (by decide) ?_
  obtain ⟨r1, e2, hf⟩ := g_bdS hf
  refine g_contR (st1 := [.int r1]) (g_runSR (As := [.int p0, .int (2 : Int32)]) (rest := []) ⟨hx, hb, hml, hown, hts⟩ (qX5_isBelow l G e2) (va_cwS 2 hts (TB_S TB_id tw_293 tw_190 tw_5 tw_191) rfl rfl rfl (by decide +kernel) ⟨Nat.le_of_ble_eq_true rfl, Nat.le_of_ble_eq_true rfl⟩) hK (hP.sub [] rfl) rfl hl.1 rfl (Nat.le_of_ble_eq_true rfl) dX5_keys_2) rfl ?_
  refine lv_if_eq (tgt := 19) hx hb dX5_keys_5 (by decide) (fun c3 => ?_) (fun c3 => ?_)
  · have hf := g_ifT c3 hf
    refine lv_ldc (v := (-1000001 : Int32)) hx hb hown (hts _ tw_266) dX5_keys_19 ?_
    cases hf
    exact g_iretR hx hb hr hlocks dX5_keys_21
  · have hf := g_ifF c3 hf
    refine lv_aload_n hx hb dX5_keys_8 rfl (lv_at hl 0 rfl) ?_
    refine va_get (D := G.1) (ci := 4) (v := .ref (a 0)) (C := RX5) (T := TX5) (N := 5) hx hb hts hX5 hown hK.1 hP 0 rfl rfl 2 (by decide) (hts _ tw_146) (fun _ h9 => h9) rfl dX5_keys_9 ?_
    refine lv_iload_n hx hb dX5_keys_12 rfl (lv_at hl 1 rfl) ?_
    obtain ⟨r4, e5, hf⟩ := g_bdS hf
    refine g_contR (st1 := [.int r4]) (g_runVR (As := [.int p0]) (rest := []) ⟨hx, hb, hml, hown, hts⟩ (qX4_keysRead l G a e5) (cwV 1 hts (TB_V TB_id tw_468 tw_194 tw_195 tw_6 tw_196) rfl rfl rfl (by decide +kernel) ⟨Nat.le_of_ble_eq_true rfl, Nat.le_of_ble_eq_true rfl⟩) hK (hP.sub [1, 2, 3, 4, 5, 6, 7, 8, 9, 10, 11, 12, 13, 14] rfl) 0 rfl rfl rfl hl.1 rfl (Nat.le_of_ble_eq_true rfl) dX5_keys_13) rfl ?_
    refine lv_goto (tgt := 21) hx hb dX5_keys_16 (by decide) ?_
    cases hf
    exact g_iretR hx hb hr hlocks dX5_keys_21
-- TwoShapes.check()I
abbrev rmX5_check : Room := { frames := 2, cells := 0, slots := 0, locals := 45 }
def fX5_check (st : Int32) (ph : Int32) (la : Int32) (po : Int32) (lo : Int32) (ov : Nat → Int32) (orr : Nat → Int32) (nv : Nat → Int32) (nr : Nat → Int32) (ql : Int32) (qk : Nat → Int32) (qv : Nat → Int32) (qr : Nat → Int32) (wr : Nat → Int32) (wa : Int32) (wc : Nat → Int32) (wk : Nat → Int32) (len : Int32) (tx : Nat → Int32) (gi : Int32) (pl : Int32) (re : Int32) (ki : Int32) (nu : Nat → Int32) : Option (Int32) := ((fX4_hasBoth ph la po lo ov orr nv nr ql qk qv qr wr wa wc wk).bind fun r1 => (if r1 = (0 : Int32) then some ((-1000002 : Int32)) else ((fX4_differing ph la po lo ov orr nv nr ql qk qv qr wr wa wc wk).bind fun r4 => some (r4))))
set_option maxHeartbeats 4000000 in
set_option maxRecDepth 100000 in
theorem qX5_check (l : Launch) (G : gT) (x hi tr : Nat) (a : Nat → Nat) (h0 h1 h2 : Nat) {st : Int32} {ph : Int32} {la : Int32} {po : Int32} {lo : Int32} {ov : Nat → Int32} {orr : Nat → Int32} {nv : Nat → Int32} {nr : Nat → Int32} {ql : Int32} {qk : Nat → Int32} {qv : Nat → Int32} {qr : Nat → Int32} {wr : Nat → Int32} {wa : Int32} {wc : Nat → Int32} {wk : Nat → Int32} {len : Int32} {tx : Nat → Int32} {gi : Int32} {pl : Int32} {re : Int32} {ki : Int32} {nu : Nat → Int32} {u : Int32} (hf : fX5_check st ph la po lo ov orr nv nr ql qk qv qr wr wa wc wk len tx gi pl re ki nu = some u) : gR l G yX5_check wsX5_check rmX5_check [.ref x] (ts1W G x hi st (a 0) tr h0 ++ tabW G a ph la po lo ov orr nv nr ql qk qv qr wr wa wc wk ++ ordW G h0 h1 h2 len tx gi pl re ki nu) (some (.int u)) := by
  refine gR.of (cc := cX5_check) (maxL := 1) (ret := (some .int)) (by decide) rfl (Nat.le_of_ble_eq_true rfl) ?_
  intro p e s m below meth c C0 hP ls hl
  obtain ⟨hx, hb, hr, hts, hown, hlocks, hml, hK⟩ := id C0
  have hl : lv_has ls 1 [(0, .ref x)] := hl
  have hP : va_P G.1 vwCl [(x, .inr (4, [.ref hi, .int st, .ref (a 0), .ref tr, .ref h0])), ((a 0), .inr (3, [.int ph, .int la, .int po, .int lo, .ref (a 1), .ref (a 4), .ref (a 7), .ref (a 11), .int wa, .ref (a 12), .ref (a 13)])), ((a 1), .inr (2, [.int 0, .ref (a 2), .ref (a 3)])), ((a 2), .inl (G.2.1, 31, .inl ov)), ((a 3), .inl (G.2.1, 31, .inl orr)), ((a 4), .inr (2, [.int 1, .ref (a 5), .ref (a 6)])), ((a 5), .inl (G.2.1, 31, .inl nv)), ((a 6), .inl (G.2.1, 31, .inl nr)), ((a 7), .inr (1, [.int ql, .ref (a 8), .ref (a 9), .ref (a 10)])), ((a 8), .inl (G.2.1, 8, .inl qk)), ((a 9), .inl (G.2.1, 8, .inl qv)), ((a 10), .inl (G.2.1, 8, .inl qr)), ((a 11), .inl (G.2.1, 31, .inl wr)), ((a 12), .inl (G.2.1, 3, .inl wc)), ((a 13), .inl (G.2.1, 3, .inl wk)), (h0, .inr (0, [.int len, .ref h1, .int gi, .int pl, .int re, .int ki, .ref h2])), (h1, .inl (G.2.1, 60, .inl tx)), (h2, .inl (G.2.1, 4, .inl nu))] s.heap := hP
  unfold fX5_check at hf
  refine lv_aload_n hx hb dX5_check_0 rfl (lv_at hl 0 rfl) ?_
  refine va_get (D := G.1) (ci := 4) (v := .ref (a 0)) (C := RX5) (T := TX5) (N := 5) hx hb hts hX5 hown hK.1 hP 0 rfl rfl 2 (by decide) (hts _ tw_146) (fun _ h9 => h9) rfl dX5_check_1 ?_
  obtain ⟨r1, e2, hf⟩ := g_bdS hf
  refine g_contR (st1 := [.int r1]) (g_runVR (As := []) (rest := []) ⟨hx, hb, hml, hown, hts⟩ (qX4_hasBoth l G a e2) (cwV 0 hts (TB_V TB_id tw_284 tw_285 tw_286 tw_6 tw_287) rfl rfl rfl (by decide +kernel) ⟨Nat.le_of_ble_eq_true rfl, Nat.le_of_ble_eq_true rfl⟩) hK (hP.sub [1, 2, 3, 4, 5, 6, 7, 8, 9, 10, 11, 12, 13, 14] rfl) 0 rfl rfl rfl hl.1 rfl (Nat.le_of_ble_eq_true rfl) dX5_check_4) rfl ?_
  refine lv_if_eq (tgt := 20) hx hb dX5_check_7 (by decide) (fun c3 => ?_) (fun c3 => ?_)
  · have hf := g_ifT c3 hf
    refine lv_ldc (v := (-1000002 : Int32)) hx hb hown (hts _ tw_271) dX5_check_20 ?_
    cases hf
    exact g_iretR hx hb hr hlocks dX5_check_22
  · have hf := g_ifF c3 hf
    refine lv_aload_n hx hb dX5_check_10 rfl (lv_at hl 0 rfl) ?_
    refine va_get (D := G.1) (ci := 4) (v := .ref (a 0)) (C := RX5) (T := TX5) (N := 5) hx hb hts hX5 hown hK.1 hP 0 rfl rfl 2 (by decide) (hts _ tw_146) (fun _ h9 => h9) rfl dX5_check_11 ?_
    obtain ⟨r4, e5, hf⟩ := g_bdS hf
    refine g_contR (st1 := [.int r4]) (g_runVR (As := []) (rest := []) ⟨hx, hb, hml, hown, hts⟩ (qX4_differing l G a e5) (cwV 0 hts (TB_V TB_id tw_288 tw_263 tw_264 tw_6 tw_265) rfl rfl rfl (by decide +kernel) ⟨Nat.le_of_ble_eq_true rfl, Nat.le_of_ble_eq_true rfl⟩) hK (hP.sub [1, 2, 3, 4, 5, 6, 7, 8, 9, 10, 11, 12, 13, 14] rfl) 0 rfl rfl rfl hl.1 rfl (Nat.le_of_ble_eq_true rfl) dX5_check_14) rfl ?_
    refine lv_goto (tgt := 22) hx hb dX5_check_17 (by decide) ?_
    cases hf
    exact g_iretR hx hb hr hlocks dX5_check_22
-- TwoShapes.quarrel()I
abbrev rmX5_quarrel : Room := { frames := 4, cells := 0, slots := 0, locals := 88 }
def fX5_quarrel (st : Int32) (ph : Int32) (la : Int32) (po : Int32) (lo : Int32) (ov : Nat → Int32) (orr : Nat → Int32) (nv : Nat → Int32) (nr : Nat → Int32) (ql : Int32) (qk : Nat → Int32) (qv : Nat → Int32) (qr : Nat → Int32) (wr : Nat → Int32) (wa : Int32) (wc : Nat → Int32) (wk : Nat → Int32) (len : Int32) (tx : Nat → Int32) (gi : Int32) (pl : Int32) (re : Int32) (ki : Int32) (nu : Nat → Int32) : Option (Int32) := ((fX4_quarrelling ph la po lo ov orr nv nr ql qk qv qr wr wa wc wk).bind fun r1 => some (r1))
set_option maxHeartbeats 4000000 in
set_option maxRecDepth 100000 in
theorem qX5_quarrel (l : Launch) (G : gT) (x hi tr : Nat) (a : Nat → Nat) (h0 h1 h2 : Nat) {st : Int32} {ph : Int32} {la : Int32} {po : Int32} {lo : Int32} {ov : Nat → Int32} {orr : Nat → Int32} {nv : Nat → Int32} {nr : Nat → Int32} {ql : Int32} {qk : Nat → Int32} {qv : Nat → Int32} {qr : Nat → Int32} {wr : Nat → Int32} {wa : Int32} {wc : Nat → Int32} {wk : Nat → Int32} {len : Int32} {tx : Nat → Int32} {gi : Int32} {pl : Int32} {re : Int32} {ki : Int32} {nu : Nat → Int32} {u : Int32} (hf : fX5_quarrel st ph la po lo ov orr nv nr ql qk qv qr wr wa wc wk len tx gi pl re ki nu = some u) : gR l G yX5_quarrel wsX5_quarrel rmX5_quarrel [.ref x] (ts1W G x hi st (a 0) tr h0 ++ tabW G a ph la po lo ov orr nv nr ql qk qv qr wr wa wc wk ++ ordW G h0 h1 h2 len tx gi pl re ki nu) (some (.int u)) := by
  refine gR.of (cc := cX5_quarrel) (maxL := 1) (ret := (some .int)) (by decide) rfl (Nat.le_of_ble_eq_true rfl) ?_
  intro p e s m below meth c C0 hP ls hl
  obtain ⟨hx, hb, hr, hts, hown, hlocks, hml, hK⟩ := id C0
  have hl : lv_has ls 1 [(0, .ref x)] := hl
  have hP : va_P G.1 vwCl [(x, .inr (4, [.ref hi, .int st, .ref (a 0), .ref tr, .ref h0])), ((a 0), .inr (3, [.int ph, .int la, .int po, .int lo, .ref (a 1), .ref (a 4), .ref (a 7), .ref (a 11), .int wa, .ref (a 12), .ref (a 13)])), ((a 1), .inr (2, [.int 0, .ref (a 2), .ref (a 3)])), ((a 2), .inl (G.2.1, 31, .inl ov)), ((a 3), .inl (G.2.1, 31, .inl orr)), ((a 4), .inr (2, [.int 1, .ref (a 5), .ref (a 6)])), ((a 5), .inl (G.2.1, 31, .inl nv)), ((a 6), .inl (G.2.1, 31, .inl nr)), ((a 7), .inr (1, [.int ql, .ref (a 8), .ref (a 9), .ref (a 10)])), ((a 8), .inl (G.2.1, 8, .inl qk)), ((a 9), .inl (G.2.1, 8, .inl qv)), ((a 10), .inl (G.2.1, 8, .inl qr)), ((a 11), .inl (G.2.1, 31, .inl wr)), ((a 12), .inl (G.2.1, 3, .inl wc)), ((a 13), .inl (G.2.1, 3, .inl wk)), (h0, .inr (0, [.int len, .ref h1, .int gi, .int pl, .int re, .int ki, .ref h2])), (h1, .inl (G.2.1, 60, .inl tx)), (h2, .inl (G.2.1, 4, .inl nu))] s.heap := hP
  unfold fX5_quarrel at hf
  refine lv_aload_n hx hb dX5_quarrel_0 rfl (lv_at hl 0 rfl) ?_
  refine va_get (D := G.1) (ci := 4) (v := .ref (a 0)) (C := RX5) (T := TX5) (N := 5) hx hb hts hX5 hown hK.1 hP 0 rfl rfl 2 (by decide) (hts _ tw_146) (fun _ h9 => h9) rfl dX5_quarrel_1 ?_
  obtain ⟨r1, e2, hf⟩ := g_bdS hf
  refine g_contR (st1 := [.int r1]) (g_runVR (As := []) (rest := []) ⟨hx, hb, hml, hown, hts⟩ (qX4_quarrelling l G a e2) (cwV 0 hts (TB_V TB_id tw_304 tw_305 tw_306 tw_6 tw_307) rfl rfl rfl (by decide +kernel) ⟨Nat.le_of_ble_eq_true rfl, Nat.le_of_ble_eq_true rfl⟩) hK (hP.sub [1, 2, 3, 4, 5, 6, 7, 8, 9, 10, 11, 12, 13, 14] rfl) 0 rfl rfl rfl hl.1 rfl (Nat.le_of_ble_eq_true rfl) dX5_quarrel_4) rfl ?_
  cases hf
  exact g_iretR hx hb hr hlocks dX5_quarrel_7
-- TwoShapes.count(I)I
abbrev rmX5_count : Room := { frames := 3, cells := 0, slots := 0, locals := 65 }
def fX5_count (p0 : Int32) (st : Int32) (ph : Int32) (la : Int32) (po : Int32) (lo : Int32) (ov : Nat → Int32) (orr : Nat → Int32) (nv : Nat → Int32) (nr : Nat → Int32) (ql : Int32) (qk : Nat → Int32) (qv : Nat → Int32) (qr : Nat → Int32) (wr : Nat → Int32) (wa : Int32) (wc : Nat → Int32) (wk : Nat → Int32) (len : Int32) (tx : Nat → Int32) (gi : Int32) (pl : Int32) (re : Int32) (ki : Int32) (nu : Nat → Int32) : Option (Int32) := ((if p0 = (0 : Int32) then some (ph) else (if p0 = (1 : Int32) then some (la) else (if p0 = (2 : Int32) then (if ph = (1 : Int32) then some (po) else some ((-1000004 : Int32))) else (if p0 = (3 : Int32) then some (ql) else (if p0 = (4 : Int32) then ((fX3_rows 0 ov orr).bind fun r7 => some (r7)) else (if p0 = (5 : Int32) then ((fX3_rows 1 nv nr).bind fun r10 => some (r10)) else (if p0 = (6 : Int32) then ((fX3_strangeRows 1 nv nr).bind fun r13 => some (r13)) else (if p0 = (7 : Int32) then ((fX3_known 1 nv nr).bind fun r16 => some (r16)) else (if p0 = (8 : Int32) then ((fX4_isReady ph la po lo ov orr nv nr ql qk qv qr wr wa wc wk).bind fun r19 => (if r19 = (0 : Int32) then some ((0 : Int32)) else some ((1 : Int32)))) else (if p0 = (9 : Int32) then some (lo) else (if p0 = (10 : Int32) then some (wa) else (if p0 = (11 : Int32) then some (st) else (if p0 = (12 : Int32) then some (len) else some ((-1000001 : Int32))))))))))))))))
set_option maxHeartbeats 4000000 in
set_option maxRecDepth 100000 in
theorem qX5_count (l : Launch) (G : gT) (x hi tr : Nat) (a : Nat → Nat) (h0 h1 h2 : Nat) {p0 : Int32} {st : Int32} {ph : Int32} {la : Int32} {po : Int32} {lo : Int32} {ov : Nat → Int32} {orr : Nat → Int32} {nv : Nat → Int32} {nr : Nat → Int32} {ql : Int32} {qk : Nat → Int32} {qv : Nat → Int32} {qr : Nat → Int32} {wr : Nat → Int32} {wa : Int32} {wc : Nat → Int32} {wk : Nat → Int32} {len : Int32} {tx : Nat → Int32} {gi : Int32} {pl : Int32} {re : Int32} {ki : Int32} {nu : Nat → Int32} {u : Int32} (hf : fX5_count p0 st ph la po lo ov orr nv nr ql qk qv qr wr wa wc wk len tx gi pl re ki nu = some u) : gR l G yX5_count wsX5_count rmX5_count [.ref x, .int p0] (ts1W G x hi st (a 0) tr h0 ++ tabW G a ph la po lo ov orr nv nr ql qk qv qr wr wa wc wk ++ ordW G h0 h1 h2 len tx gi pl re ki nu) (some (.int u)) := by
  refine gR.of (cc := cX5_count) (maxL := 2) (ret := (some .int)) (by decide) rfl (Nat.le_of_ble_eq_true rfl) ?_
  intro p e s m below meth c C0 hP ls hl
  obtain ⟨hx, hb, hr, hts, hown, hlocks, hml, hK⟩ := id C0
  have hl : lv_has ls 2 [(0, .ref x), (1, .int p0)] := hl
  have hP : va_P G.1 vwCl [(x, .inr (4, [.ref hi, .int st, .ref (a 0), .ref tr, .ref h0])), ((a 0), .inr (3, [.int ph, .int la, .int po, .int lo, .ref (a 1), .ref (a 4), .ref (a 7), .ref (a 11), .int wa, .ref (a 12), .ref (a 13)])), ((a 1), .inr (2, [.int 0, .ref (a 2), .ref (a 3)])), ((a 2), .inl (G.2.1, 31, .inl ov)), ((a 3), .inl (G.2.1, 31, .inl orr)), ((a 4), .inr (2, [.int 1, .ref (a 5), .ref (a 6)])), ((a 5), .inl (G.2.1, 31, .inl nv)), ((a 6), .inl (G.2.1, 31, .inl nr)), ((a 7), .inr (1, [.int ql, .ref (a 8), .ref (a 9), .ref (a 10)])), ((a 8), .inl (G.2.1, 8, .inl qk)), ((a 9), .inl (G.2.1, 8, .inl qv)), ((a 10), .inl (G.2.1, 8, .inl qr)), ((a 11), .inl (G.2.1, 31, .inl wr)), ((a 12), .inl (G.2.1, 3, .inl wc)), ((a 13), .inl (G.2.1, 3, .inl wk)), (h0, .inr (0, [.int len, .ref h1, .int gi, .int pl, .int re, .int ki, .ref h2])), (h1, .inl (G.2.1, 60, .inl tx)), (h2, .inl (G.2.1, 4, .inl nu))] s.heap := hP
  unfold fX5_count at hf
  refine lv_iload_n hx hb dX5_count_0 rfl (lv_at hl 1 rfl) ?_
  by_cases c1 : p0 = (0 : Int32)
  · have hf := g_ifT c1 hf
    refine g_tsw (tgt := 68) (off := 67) hx hb dX5_count_1 (by rw [c1]; decide) (by decide) (by decide) ?_
    refine lv_aload_n hx hb dX5_count_68 rfl (lv_at hl 0 rfl) ?_
    refine va_get (D := G.1) (ci := 4) (v := .ref (a 0)) (C := RX5) (T := TX5) (N := 5) hx hb hts hX5 hown hK.1 hP 0 rfl rfl 2 (by decide) (hts _ tw_146) (fun _ h9 => h9) rfl dX5_count_69 ?_
    refine va_get (D := G.1) (ci := 3) (v := .int ph) (C := RX4) (T := TX4) (N := 11) hx hb hts hX4 hown hK.1 hP 1 rfl rfl 0 (by decide) (hts _ tw_79) (fun _ h9 => h9) rfl dX5_count_72 ?_
    cases hf
    exact g_iretR hx hb hr hlocks dX5_count_75
  have hf := g_ifF c1 hf
  by_cases c2 : p0 = (1 : Int32)
  · have hf := g_ifT c2 hf
    refine g_tsw (tgt := 76) (off := 75) hx hb dX5_count_1 (by rw [c2]; decide) (by decide) (by decide) ?_
    refine lv_aload_n hx hb dX5_count_76 rfl (lv_at hl 0 rfl) ?_
    refine va_get (D := G.1) (ci := 4) (v := .ref (a 0)) (C := RX5) (T := TX5) (N := 5) hx hb hts hX5 hown hK.1 hP 0 rfl rfl 2 (by decide) (hts _ tw_146) (fun _ h9 => h9) rfl dX5_count_77 ?_
    refine va_get (D := G.1) (ci := 3) (v := .int la) (C := RX4) (T := TX4) (N := 11) hx hb hts hX4 hown hK.1 hP 1 rfl rfl 1 (by decide) (hts _ tw_81) (fun _ h9 => h9) rfl dX5_count_80 ?_
    cases hf
    exact g_iretR hx hb hr hlocks dX5_count_83
  have hf := g_ifF c2 hf
  by_cases c3 : p0 = (2 : Int32)
  · have hf := g_ifT c3 hf
    refine g_tsw (tgt := 84) (off := 83) hx hb dX5_count_1 (by rw [c3]; decide) (by decide) (by decide) ?_
    refine lv_aload_n hx hb dX5_count_84 rfl (lv_at hl 0 rfl) ?_
    refine va_get (D := G.1) (ci := 4) (v := .ref (a 0)) (C := RX5) (T := TX5) (N := 5) hx hb hts hX5 hown hK.1 hP 0 rfl rfl 2 (by decide) (hts _ tw_146) (fun _ h9 => h9) rfl dX5_count_85 ?_
    refine va_get (D := G.1) (ci := 3) (v := .int ph) (C := RX4) (T := TX4) (N := 11) hx hb hts hX4 hown hK.1 hP 1 rfl rfl 0 (by decide) (hts _ tw_79) (fun _ h9 => h9) rfl dX5_count_88 ?_
    refine lv_iconst (v := (1 : Int32)) hx hb dX5_count_91 (by decide) ?_
    refine lv_icmp_ne (tgt := 105) hx hb dX5_count_92 (by decide) (fun c4 => ?_) (fun c4 => ?_)
    · have hf := g_ifF c4 hf
      refine lv_ldc (v := (-1000004 : Int32)) hx hb hown (hts _ tw_242) dX5_count_105 ?_
      cases hf
      exact g_iretR hx hb hr hlocks dX5_count_107
    · have hf := g_ifT c4 hf
      refine lv_aload_n hx hb dX5_count_95 rfl (lv_at hl 0 rfl) ?_
      refine va_get (D := G.1) (ci := 4) (v := .ref (a 0)) (C := RX5) (T := TX5) (N := 5) hx hb hts hX5 hown hK.1 hP 0 rfl rfl 2 (by decide) (hts _ tw_146) (fun _ h9 => h9) rfl dX5_count_96 ?_
      refine va_get (D := G.1) (ci := 3) (v := .int po) (C := RX4) (T := TX4) (N := 11) hx hb hts hX4 hown hK.1 hP 1 rfl rfl 2 (by decide) (hts _ tw_83) (fun _ h9 => h9) rfl dX5_count_99 ?_
      refine lv_goto (tgt := 107) hx hb dX5_count_102 (by decide) ?_
      cases hf
      exact g_iretR hx hb hr hlocks dX5_count_107
  have hf := g_ifF c3 hf
  by_cases c5 : p0 = (3 : Int32)
  · have hf := g_ifT c5 hf
    refine g_tsw (tgt := 108) (off := 107) hx hb dX5_count_1 (by rw [c5]; decide) (by decide) (by decide) ?_
    refine lv_aload_n hx hb dX5_count_108 rfl (lv_at hl 0 rfl) ?_
    refine va_get (D := G.1) (ci := 4) (v := .ref (a 0)) (C := RX5) (T := TX5) (N := 5) hx hb hts hX5 hown hK.1 hP 0 rfl rfl 2 (by decide) (hts _ tw_146) (fun _ h9 => h9) rfl dX5_count_109 ?_
    refine va_get (D := G.1) (ci := 3) (v := .ref (a 7)) (C := RX4) (T := TX4) (N := 11) hx hb hts hX4 hown hK.1 hP 1 rfl rfl 6 (by decide) (hts _ tw_91) (fun _ h9 => h9) rfl dX5_count_112 ?_
    refine va_get (D := G.1) (ci := 1) (v := .int ql) (C := RX1) (T := TX1) (N := 4) hx hb hts hX1 hown hK.1 hP 8 rfl rfl 0 (by decide) (hts _ tw_62) (fun _ h9 => h9) rfl dX5_count_115 ?_
    cases hf
    exact g_iretR hx hb hr hlocks dX5_count_118
  have hf := g_ifF c5 hf
  by_cases c6 : p0 = (4 : Int32)
  · have hf := g_ifT c6 hf
    refine g_tsw (tgt := 119) (off := 118) hx hb dX5_count_1 (by rw [c6]; decide) (by decide) (by decide) ?_
    refine lv_aload_n hx hb dX5_count_119 rfl (lv_at hl 0 rfl) ?_
    refine va_get (D := G.1) (ci := 4) (v := .ref (a 0)) (C := RX5) (T := TX5) (N := 5) hx hb hts hX5 hown hK.1 hP 0 rfl rfl 2 (by decide) (hts _ tw_146) (fun _ h9 => h9) rfl dX5_count_120 ?_
    refine va_get (D := G.1) (ci := 3) (v := .ref (a 1)) (C := RX4) (T := TX4) (N := 11) hx hb hts hX4 hown hK.1 hP 1 rfl rfl 4 (by decide) (hts _ tw_87) (fun _ h9 => h9) rfl dX5_count_123 ?_
    obtain ⟨r7, e8, hf⟩ := g_bdS hf
    refine g_contR (st1 := [.int r7]) (g_runVR (As := []) (rest := []) ⟨hx, hb, hml, hown, hts⟩ (qX3_rows l G (a 1) (a 2) (a 3) e8) (cwV 0 hts (TB_V TB_id tw_243 tw_244 tw_245 tw_7 tw_246) rfl rfl rfl (by decide +kernel) ⟨Nat.le_of_ble_eq_true rfl, Nat.le_of_ble_eq_true rfl⟩) hK (hP.sub [2, 3, 4] rfl) 0 rfl rfl rfl hl.1 rfl (Nat.le_of_ble_eq_true rfl) dX5_count_126) rfl ?_
    cases hf
    exact g_iretR hx hb hr hlocks dX5_count_129
  have hf := g_ifF c6 hf
  by_cases c9 : p0 = (5 : Int32)
  · have hf := g_ifT c9 hf
    refine g_tsw (tgt := 130) (off := 129) hx hb dX5_count_1 (by rw [c9]; decide) (by decide) (by decide) ?_
    refine lv_aload_n hx hb dX5_count_130 rfl (lv_at hl 0 rfl) ?_
    refine va_get (D := G.1) (ci := 4) (v := .ref (a 0)) (C := RX5) (T := TX5) (N := 5) hx hb hts hX5 hown hK.1 hP 0 rfl rfl 2 (by decide) (hts _ tw_146) (fun _ h9 => h9) rfl dX5_count_131 ?_
    refine va_get (D := G.1) (ci := 3) (v := .ref (a 4)) (C := RX4) (T := TX4) (N := 11) hx hb hts hX4 hown hK.1 hP 1 rfl rfl 5 (by decide) (hts _ tw_89) (fun _ h9 => h9) rfl dX5_count_134 ?_
    obtain ⟨r10, e11, hf⟩ := g_bdS hf
    refine g_contR (st1 := [.int r10]) (g_runVR (As := []) (rest := []) ⟨hx, hb, hml, hown, hts⟩ (qX3_rows l G (a 4) (a 5) (a 6) e11) (cwV 0 hts (TB_V TB_id tw_243 tw_244 tw_245 tw_7 tw_246) rfl rfl rfl (by decide +kernel) ⟨Nat.le_of_ble_eq_true rfl, Nat.le_of_ble_eq_true rfl⟩) hK (hP.sub [5, 6, 7] rfl) 0 rfl rfl rfl hl.1 rfl (Nat.le_of_ble_eq_true rfl) dX5_count_137) rfl ?_
    cases hf
    exact g_iretR hx hb hr hlocks dX5_count_140
  have hf := g_ifF c9 hf
  by_cases c12 : p0 = (6 : Int32)
  · have hf := g_ifT c12 hf
    refine g_tsw (tgt := 141) (off := 140) hx hb dX5_count_1 (by rw [c12]; decide) (by decide) (by decide) ?_
    refine lv_aload_n hx hb dX5_count_141 rfl (lv_at hl 0 rfl) ?_
    refine va_get (D := G.1) (ci := 4) (v := .ref (a 0)) (C := RX5) (T := TX5) (N := 5) hx hb hts hX5 hown hK.1 hP 0 rfl rfl 2 (by decide) (hts _ tw_146) (fun _ h9 => h9) rfl dX5_count_142 ?_
    refine va_get (D := G.1) (ci := 3) (v := .ref (a 4)) (C := RX4) (T := TX4) (N := 11) hx hb hts hX4 hown hK.1 hP 1 rfl rfl 5 (by decide) (hts _ tw_89) (fun _ h9 => h9) rfl dX5_count_145 ?_
    obtain ⟨r13, e14, hf⟩ := g_bdS hf
    refine g_contR (st1 := [.int r13]) (g_runVR (As := []) (rest := []) ⟨hx, hb, hml, hown, hts⟩ (qX3_strangeRows l G (a 4) (a 5) (a 6) e14) (cwV 0 hts (TB_V TB_id tw_247 tw_248 tw_249 tw_7 tw_250) rfl rfl rfl (by decide +kernel) ⟨Nat.le_of_ble_eq_true rfl, Nat.le_of_ble_eq_true rfl⟩) hK (hP.sub [5, 6, 7] rfl) 0 rfl rfl rfl hl.1 rfl (Nat.le_of_ble_eq_true rfl) dX5_count_148) rfl ?_
    cases hf
    exact g_iretR hx hb hr hlocks dX5_count_151
  have hf := g_ifF c12 hf
  by_cases c15 : p0 = (7 : Int32)
  · have hf := g_ifT c15 hf
    refine g_tsw (tgt := 152) (off := 151) hx hb dX5_count_1 (by rw [c15]; decide) (by decide) (by decide) ?_
    refine lv_aload_n hx hb dX5_count_152 rfl (lv_at hl 0 rfl) ?_
    refine va_get (D := G.1) (ci := 4) (v := .ref (a 0)) (C := RX5) (T := TX5) (N := 5) hx hb hts hX5 hown hK.1 hP 0 rfl rfl 2 (by decide) (hts _ tw_146) (fun _ h9 => h9) rfl dX5_count_153 ?_
    refine va_get (D := G.1) (ci := 3) (v := .ref (a 4)) (C := RX4) (T := TX4) (N := 11) hx hb hts hX4 hown hK.1 hP 1 rfl rfl 5 (by decide) (hts _ tw_89) (fun _ h9 => h9) rfl dX5_count_156 ?_
    obtain ⟨r16, e17, hf⟩ := g_bdS hf
    refine g_contR (st1 := [.int r16]) (g_runVR (As := []) (rest := []) ⟨hx, hb, hml, hown, hts⟩ (qX3_known l G (a 4) (a 5) (a 6) e17) (cwV 0 hts (TB_V TB_id tw_254 tw_255 tw_256 tw_7 tw_257) rfl rfl rfl (by decide +kernel) ⟨Nat.le_of_ble_eq_true rfl, Nat.le_of_ble_eq_true rfl⟩) hK (hP.sub [5, 6, 7] rfl) 0 rfl rfl rfl hl.1 rfl (Nat.le_of_ble_eq_true rfl) dX5_count_159) rfl ?_
    cases hf
    exact g_iretR hx hb hr hlocks dX5_count_162
  have hf := g_ifF c15 hf
  by_cases c18 : p0 = (8 : Int32)
  · have hf := g_ifT c18 hf
    refine g_tsw (tgt := 163) (off := 162) hx hb dX5_count_1 (by rw [c18]; decide) (by decide) (by decide) ?_
    refine lv_aload_n hx hb dX5_count_163 rfl (lv_at hl 0 rfl) ?_
    refine va_get (D := G.1) (ci := 4) (v := .ref (a 0)) (C := RX5) (T := TX5) (N := 5) hx hb hts hX5 hown hK.1 hP 0 rfl rfl 2 (by decide) (hts _ tw_146) (fun _ h9 => h9) rfl dX5_count_164 ?_
    obtain ⟨r19, e20, hf⟩ := g_bdS hf
    refine g_contR (st1 := [.int r19]) (g_runVR (As := []) (rest := []) ⟨hx, hb, hml, hown, hts⟩ (qX4_isReady l G a e20) (cwV 0 hts (TB_V TB_id tw_258 tw_259 tw_260 tw_6 tw_261) rfl rfl rfl (by decide +kernel) ⟨Nat.le_of_ble_eq_true rfl, Nat.le_of_ble_eq_true rfl⟩) hK (hP.sub [1, 2, 3, 4, 5, 6, 7, 8, 9, 10, 11, 12, 13, 14] rfl) 0 rfl rfl rfl hl.1 rfl (Nat.le_of_ble_eq_true rfl) dX5_count_167) rfl ?_
    refine lv_if_eq (tgt := 177) hx hb dX5_count_170 (by decide) (fun c21 => ?_) (fun c21 => ?_)
    · have hf := g_ifT c21 hf
      refine lv_iconst (v := (0 : Int32)) hx hb dX5_count_177 (by decide) ?_
      cases hf
      exact g_iretR hx hb hr hlocks dX5_count_178
    · have hf := g_ifF c21 hf
      refine lv_iconst (v := (1 : Int32)) hx hb dX5_count_173 (by decide) ?_
      refine lv_goto (tgt := 178) hx hb dX5_count_174 (by decide) ?_
      cases hf
      exact g_iretR hx hb hr hlocks dX5_count_178
  have hf := g_ifF c18 hf
  by_cases c22 : p0 = (9 : Int32)
  · have hf := g_ifT c22 hf
    refine g_tsw (tgt := 179) (off := 178) hx hb dX5_count_1 (by rw [c22]; decide) (by decide) (by decide) ?_
    refine lv_aload_n hx hb dX5_count_179 rfl (lv_at hl 0 rfl) ?_
    refine va_get (D := G.1) (ci := 4) (v := .ref (a 0)) (C := RX5) (T := TX5) (N := 5) hx hb hts hX5 hown hK.1 hP 0 rfl rfl 2 (by decide) (hts _ tw_146) (fun _ h9 => h9) rfl dX5_count_180 ?_
    refine va_get (D := G.1) (ci := 3) (v := .int lo) (C := RX4) (T := TX4) (N := 11) hx hb hts hX4 hown hK.1 hP 1 rfl rfl 3 (by decide) (hts _ tw_85) (fun _ h9 => h9) rfl dX5_count_183 ?_
    cases hf
    exact g_iretR hx hb hr hlocks dX5_count_186
  have hf := g_ifF c22 hf
  by_cases c23 : p0 = (10 : Int32)
  · have hf := g_ifT c23 hf
    refine g_tsw (tgt := 187) (off := 186) hx hb dX5_count_1 (by rw [c23]; decide) (by decide) (by decide) ?_
    refine lv_aload_n hx hb dX5_count_187 rfl (lv_at hl 0 rfl) ?_
    refine va_get (D := G.1) (ci := 4) (v := .ref (a 0)) (C := RX5) (T := TX5) (N := 5) hx hb hts hX5 hown hK.1 hP 0 rfl rfl 2 (by decide) (hts _ tw_146) (fun _ h9 => h9) rfl dX5_count_188 ?_
    refine va_get (D := G.1) (ci := 3) (v := .int wa) (C := RX4) (T := TX4) (N := 11) hx hb hts hX4 hown hK.1 hP 1 rfl rfl 8 (by decide) (hts _ tw_94) (fun _ h9 => h9) rfl dX5_count_191 ?_
    cases hf
    exact g_iretR hx hb hr hlocks dX5_count_194
  have hf := g_ifF c23 hf
  by_cases c24 : p0 = (11 : Int32)
  · have hf := g_ifT c24 hf
    refine g_tsw (tgt := 195) (off := 194) hx hb dX5_count_1 (by rw [c24]; decide) (by decide) (by decide) ?_
    refine lv_aload_n hx hb dX5_count_195 rfl (lv_at hl 0 rfl) ?_
    refine va_get (D := G.1) (ci := 4) (v := .int st) (C := RX5) (T := TX5) (N := 5) hx hb hts hX5 hown hK.1 hP 0 rfl rfl 1 (by decide) (hts _ tw_145) (fun _ h9 => h9) rfl dX5_count_196 ?_
    cases hf
    exact g_iretR hx hb hr hlocks dX5_count_199
  have hf := g_ifF c24 hf
  by_cases c25 : p0 = (12 : Int32)
  · have hf := g_ifT c25 hf
    refine g_tsw (tgt := 200) (off := 199) hx hb dX5_count_1 (by rw [c25]; decide) (by decide) (by decide) ?_
    refine lv_aload_n hx hb dX5_count_200 rfl (lv_at hl 0 rfl) ?_
    refine va_get (D := G.1) (ci := 4) (v := .ref h0) (C := RX5) (T := TX5) (N := 5) hx hb hts hX5 hown hK.1 hP 0 rfl rfl 4 (by decide) (hts _ tw_148) (fun _ h9 => h9) rfl dX5_count_201 ?_
    refine va_get (D := G.1) (ci := 0) (v := .int len) (C := RX0) (T := TX0) (N := 7) hx hb hts hX0 hown hK.1 hP 15 rfl rfl 0 (by decide) (hts _ tw_126) (fun _ h9 => h9) rfl dX5_count_204 ?_
    cases hf
    exact g_iretR hx hb hr hlocks dX5_count_207
  have hf := g_ifF c25 hf
  refine g_tsw (tgt := 208) (off := 207) hx hb dX5_count_1 (g_swd (207) (0) (12) #[67, 75, 83, 107, 118, 129, 140, 151, 162, 178, 186, 194, 199] [0, 1, 2, 3, 4, 5, 6, 7, 8, 9, 10, 11, 12] (by decide) (by decide) (by simp only [List.mem_cons, List.not_mem_nil, or_false, not_or]; exact ⟨lv_neT c1 rfl, lv_neT c2 rfl, lv_neT c3 rfl, lv_neT c5 rfl, lv_neT c6 rfl, lv_neT c9 rfl, lv_neT c12 rfl, lv_neT c15 rfl, lv_neT c18 rfl, lv_neT c22 rfl, lv_neT c23 rfl, lv_neT c24 rfl, lv_neT c25 rfl⟩)) (by decide) (by decide) ?_
  refine lv_ldc (v := (-1000001 : Int32)) hx hb hown (hts _ tw_266) dX5_count_208 ?_
  cases hf
  exact g_iretR hx hb hr hlocks dX5_count_210
