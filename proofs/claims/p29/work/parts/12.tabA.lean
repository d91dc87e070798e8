-- TwoShapes$Table.hasBoth()Z
abbrev rmX4_hasBoth : Room := { frames := 0, cells := 0, slots := 0, locals := 0 }
def fX4_hasBoth (ph : Int32) (la : Int32) (po : Int32) (lo : Int32) (ov : Nat → Int32) (orr : Nat → Int32) (nv : Nat → Int32) (nr : Nat → Int32) (ql : Int32) (qk : Nat → Int32) (qv : Nat → Int32) (qr : Nat → Int32) (wr : Nat → Int32) (wa : Int32) (wc : Nat → Int32) (wk : Nat → Int32) : Option (Int32) := (if ph = (1 : Int32) then some ((1 : Int32)) else (if ph = (2 : Int32) then some ((1 : Int32)) else some ((0 : Int32))))
set_option maxHeartbeats 4000000 in
set_option maxRecDepth 100000 in
theorem qX4_hasBoth (l : Launch) (G : gT) (a : Nat → Nat) {ph : Int32} {la : Int32} {po : Int32} {lo : Int32} {ov : Nat → Int32} {orr : Nat → Int32} {nv : Nat → Int32} {nr : Nat → Int32} {ql : Int32} {qk : Nat → Int32} {qv : Nat → Int32} {qr : Nat → Int32} {wr : Nat → Int32} {wa : Int32} {wc : Nat → Int32} {wk : Nat → Int32} {u : Int32} (hf : fX4_hasBoth ph la po lo ov orr nv nr ql qk qv qr wr wa wc wk = some u) : gR l G yX4_hasBoth wsX4_hasBoth rmX4_hasBoth [.ref (a 0)] (tabW G a ph la po lo ov orr nv nr ql qk qv qr wr wa wc wk) (some (.int u)) := by
  refine gR.of (cc := cX4_hasBoth) (maxL := 1) (ret := (some .boolean)) (by decide) rfl (Nat.le_of_ble_eq_true rfl) ?_
  intro p e s m below meth c C0 hP ls hl
  obtain ⟨hx, hb, hr, hts, hown, hlocks, hml, hK⟩ := id C0
  have hl : lv_has ls 1 [(0, .ref (a 0))] := hl
  have hP : va_P G.1 vwCl [((a 0), .inr (3, [.int ph, .int la, .int po, .int lo, .ref (a 1), .ref (a 4), .ref (a 7), .ref (a 11), .int wa, .ref (a 12), .ref (a 13)])), ((a 1), .inr (2, [.int 0, .ref (a 2), .ref (a 3)])), ((a 2), .inl (G.2.1, 31, .inl ov)), ((a 3), .inl (G.2.1, 31, .inl orr)), ((a 4), .inr (2, [.int 1, .ref (a 5), .ref (a 6)])), ((a 5), .inl (G.2.1, 31, .inl nv)), ((a 6), .inl (G.2.1, 31, .inl nr)), ((a 7), .inr (1, [.int ql, .ref (a 8), .ref (a 9), .ref (a 10)])), ((a 8), .inl (G.2.1, 8, .inl qk)), ((a 9), .inl (G.2.1, 8, .inl qv)), ((a 10), .inl (G.2.1, 8, .inl qr)), ((a 11), .inl (G.2.1, 31, .inl wr)), ((a 12), .inl (G.2.1, 3, .inl wc)), ((a 13), .inl (G.2.1, 3, .inl wk))] s.heap := hP
  unfold fX4_hasBoth at hf
  refine lv_aload_n hx hb dX4_hasBoth_0 rfl (lv_at hl 0 rfl) ?_
  refine va_get (D := G.1) (ci := 3) (v := .int ph) (C := RX4) (T := TX4) (N := 11) hx hb hts hX4 hown hK.1 hP 0 rfl rfl 0 (by decide) (hts _ tw_78) (fun _ h9 => h9) rfl dX4_hasBoth_1 ?_
  refine lv_iconst (v := (1 : Int32)) hx hb dX4_hasBoth_4 (by decide) ?_
  refine lv_icmp_eq (tgt := 16) hx hb dX4_hasBoth_5 (by decide) (fun c1 => ?_) (fun c1 => ?_)
  · have hf := g_ifT c1 hf
    refine lv_iconst (v := (1 : Int32)) hx hb dX4_hasBoth_16 (by decide) ?_
    refine lv_goto (tgt := 21) hx hb dX4_hasBoth_17 (by decide) ?_
    cases hf
    exact g_zretR hx hb hr hlocks g_nb1 dX4_hasBoth_21
  · have hf := g_ifF c1 hf
    refine lv_aload_n hx hb dX4_hasBoth_8 rfl (lv_at hl 0 rfl) ?_
    refine va_get (D := G.1) (ci := 3) (v := .int ph) (C := RX4) (T := TX4) (N := 11) hx hb hts hX4 hown hK.1 hP 0 rfl rfl 0 (by decide) (hts _ tw_78) (fun _ h9 => h9) rfl dX4_hasBoth_9 ?_
    refine lv_iconst (v := (2 : Int32)) hx hb dX4_hasBoth_12 (by decide) ?_
    refine lv_icmp_ne (tgt := 20) hx hb dX4_hasBoth_13 (by decide) (fun c2 => ?_) (fun c2 => ?_)
    · have hf := g_ifF c2 hf
      refine lv_iconst (v := (0 : Int32)) hx hb dX4_hasBoth_20 (by decide) ?_
      cases hf
      exact g_zretR hx hb hr hlocks g_nb0 dX4_hasBoth_21
    · have hf := g_ifT c2 hf
      refine lv_iconst (v := (1 : Int32)) hx hb dX4_hasBoth_16 (by decide) ?_
      refine lv_goto (tgt := 21) hx hb dX4_hasBoth_17 (by decide) ?_
      cases hf
      exact g_zretR hx hb hr hlocks g_nb1 dX4_hasBoth_21
-- TwoShapes$Table.isThere(I)Z
abbrev rmX4_isThere : Room := { frames := 0, cells := 0, slots := 0, locals := 0 }
def fX4_isThere (p0 : Int32) (ph : Int32) (la : Int32) (po : Int32) (lo : Int32) (ov : Nat → Int32) (orr : Nat → Int32) (nv : Nat → Int32) (nr : Nat → Int32) (ql : Int32) (qk : Nat → Int32) (qv : Nat → Int32) (qr : Nat → Int32) (wr : Nat → Int32) (wa : Int32) (wc : Nat → Int32) (wk : Nat → Int32) : Option (Int32) := (if p0 = (0 : Int32) then (if ph = (3 : Int32) then some ((0 : Int32)) else some ((1 : Int32))) else (if ph = (0 : Int32) then some ((0 : Int32)) else some ((1 : Int32))))
set_option maxHeartbeats 4000000 in
set_option maxRecDepth 100000 in
theorem qX4_isThere (l : Launch) (G : gT) (a : Nat → Nat) {p0 : Int32} {ph : Int32} {la : Int32} {po : Int32} {lo : Int32} {ov : Nat → Int32} {orr : Nat → Int32} {nv : Nat → Int32} {nr : Nat → Int32} {ql : Int32} {qk : Nat → Int32} {qv : Nat → Int32} {qr : Nat → Int32} {wr : Nat → Int32} {wa : Int32} {wc : Nat → Int32} {wk : Nat → Int32} {u : Int32} (hf : fX4_isThere p0 ph la po lo ov orr nv nr ql qk qv qr wr wa wc wk = some u) : gR l G yX4_isThere wsX4_isThere rmX4_isThere [.ref (a 0), .int p0] (tabW G a ph la po lo ov orr nv nr ql qk qv qr wr wa wc wk) (some (.int u)) := by
  refine gR.of (cc := cX4_isThere) (maxL := 2) (ret := (some .boolean)) (by decide) rfl (Nat.le_of_ble_eq_true rfl) ?_
  intro p e s m below meth c C0 hP ls hl
  obtain ⟨hx, hb, hr, hts, hown, hlocks, hml, hK⟩ := id C0
  have hl : lv_has ls 2 [(0, .ref (a 0)), (1, .int p0)] := hl
  have hP : va_P G.1 vwCl [((a 0), .inr (3, [.int ph, .int la, .int po, .int lo, .ref (a 1), .ref (a 4), .ref (a 7), .ref (a 11), .int wa, .ref (a 12), .ref (a 13)])), ((a 1), .inr (2, [.int 0, .ref (a 2), .ref (a 3)])), ((a 2), .inl (G.2.1, 31, .inl ov)), ((a 3), .inl (G.2.1, 31, .inl orr)), ((a 4), .inr (2, [.int 1, .ref (a 5), .ref (a 6)])), ((a 5), .inl (G.2.1, 31, .inl nv)), ((a 6), .inl (G.2.1, 31, .inl nr)), ((a 7), .inr (1, [.int ql, .ref (a 8), .ref (a 9), .ref (a 10)])), ((a 8), .inl (G.2.1, 8, .inl qk)), ((a 9), .inl (G.2.1, 8, .inl qv)), ((a 10), .inl (G.2.1, 8, .inl qr)), ((a 11), .inl (G.2.1, 31, .inl wr)), ((a 12), .inl (G.2.1, 3, .inl wc)), ((a 13), .inl (G.2.1, 3, .inl wk))] s.heap := hP
  unfold fX4_isThere at hf
  refine lv_iload_n hx hb dX4_isThere_0 rfl (lv_at hl 1 rfl) ?_
  refine lv_if_ne (tgt := 20) hx hb dX4_isThere_1 (by decide) (fun c1 => ?_) (fun c1 => ?_)
  · have hf := g_ifF c1 hf
    refine lv_aload_n hx hb dX4_isThere_20 rfl (lv_at hl 0 rfl) ?_
    refine va_get (D := G.1) (ci := 3) (v := .int ph) (C := RX4) (T := TX4) (N := 11) hx hb hts hX4 hown hK.1 hP 0 rfl rfl 0 (by decide) (hts _ tw_78) (fun _ h9 => h9) rfl dX4_isThere_21 ?_
    refine lv_if_eq (tgt := 31) hx hb dX4_isThere_24 (by decide) (fun c2 => ?_) (fun c2 => ?_)
    · have hf := g_ifT c2 hf
      refine lv_iconst (v := (0 : Int32)) hx hb dX4_isThere_31 (by decide) ?_
      cases hf
      exact g_zretR hx hb hr hlocks g_nb0 dX4_isThere_32
    · have hf := g_ifF c2 hf
      refine lv_iconst (v := (1 : Int32)) hx hb dX4_isThere_27 (by decide) ?_
      refine lv_goto (tgt := 32) hx hb dX4_isThere_28 (by decide) ?_
      cases hf
      exact g_zretR hx hb hr hlocks g_nb1 dX4_isThere_32
  · have hf := g_ifT c1 hf
    refine lv_aload_n hx hb dX4_isThere_4 rfl (lv_at hl 0 rfl) ?_
    refine va_get (D := G.1) (ci := 3) (v := .int ph) (C := RX4) (T := TX4) (N := 11) hx hb hts hX4 hown hK.1 hP 0 rfl rfl 0 (by decide) (hts _ tw_78) (fun _ h9 => h9) rfl dX4_isThere_5 ?_
    refine lv_iconst (v := (3 : Int32)) hx hb dX4_isThere_8 (by decide) ?_
    refine lv_icmp_eq (tgt := 16) hx hb dX4_isThere_9 (by decide) (fun c3 => ?_) (fun c3 => ?_)
    · have hf := g_ifT c3 hf
      refine lv_iconst (v := (0 : Int32)) hx hb dX4_isThere_16 (by decide) ?_
      refine lv_goto (tgt := 32) hx hb dX4_isThere_17 (by decide) ?_
      cases hf
      exact g_zretR hx hb hr hlocks g_nb0 dX4_isThere_32
    · have hf := g_ifF c3 hf
      refine lv_iconst (v := (1 : Int32)) hx hb dX4_isThere_12 (by decide) ?_
      refine lv_goto (tgt := 32) hx hb dX4_isThere_13 (by decide) ?_
      cases hf
      exact g_zretR hx hb hr hlocks g_nb1 dX4_isThere_32
-- TwoShapes$Table.first()I
abbrev rmX4_first : Room := { frames := 0, cells := 0, slots := 0, locals := 0 }
def fX4_first (ph : Int32) (la : Int32) (po : Int32) (lo : Int32) (ov : Nat → Int32) (orr : Nat → Int32) (nv : Nat → Int32) (nr : Nat → Int32) (ql : Int32) (qk : Nat → Int32) (qv : Nat → Int32) (qr : Nat → Int32) (wr : Nat → Int32) (wa : Int32) (wc : Nat → Int32) (wk : Nat → Int32) : Option (Int32) := (if ph = (0 : Int32) then some ((0 : Int32)) else (if ph = (1 : Int32) then some ((0 : Int32)) else some ((1 : Int32))))
set_option maxHeartbeats 4000000 in
set_option maxRecDepth 100000 in
theorem qX4_first (l : Launch) (G : gT) (a : Nat → Nat) {ph : Int32} {la : Int32} {po : Int32} {lo : Int32} {ov : Nat → Int32} {orr : Nat → Int32} {nv : Nat → Int32} {nr : Nat → Int32} {ql : Int32} {qk : Nat → Int32} {qv : Nat → Int32} {qr : Nat → Int32} {wr : Nat → Int32} {wa : Int32} {wc : Nat → Int32} {wk : Nat → Int32} {u : Int32} (hf : fX4_first ph la po lo ov orr nv nr ql qk qv qr wr wa wc wk = some u) : gR l G yX4_first wsX4_first rmX4_first [.ref (a 0)] (tabW G a ph la po lo ov orr nv nr ql qk qv qr wr wa wc wk) (some (.int u)) := by
  refine gR.of (cc := cX4_first) (maxL := 1) (ret := (some .int)) (by decide) rfl (Nat.le_of_ble_eq_true rfl) ?_
  intro p e s m below meth c C0 hP ls hl
  obtain ⟨hx, hb, hr, hts, hown, hlocks, hml, hK⟩ := id C0
  have hl : lv_has ls 1 [(0, .ref (a 0))] := hl
  have hP : va_P G.1 vwCl [((a 0), .inr (3, [.int ph, .int la, .int po, .int lo, .ref (a 1), .ref (a 4), .ref (a 7), .ref (a 11), .int wa, .ref (a 12), .ref (a 13)])), ((a 1), .inr (2, [.int 0, .ref (a 2), .ref (a 3)])), ((a 2), .inl (G.2.1, 31, .inl ov)), ((a 3), .inl (G.2.1, 31, .inl orr)), ((a 4), .inr (2, [.int 1, .ref (a 5), .ref (a 6)])), ((a 5), .inl (G.2.1, 31, .inl nv)), ((a 6), .inl (G.2.1, 31, .inl nr)), ((a 7), .inr (1, [.int ql, .ref (a 8), .ref (a 9), .ref (a 10)])), ((a 8), .inl (G.2.1, 8, .inl qk)), ((a 9), .inl (G.2.1, 8, .inl qv)), ((a 10), .inl (G.2.1, 8, .inl qr)), ((a 11), .inl (G.2.1, 31, .inl wr)), ((a 12), .inl (G.2.1, 3, .inl wc)), ((a 13), .inl (G.2.1, 3, .inl wk))] s.heap := hP
  unfold fX4_first at hf
  refine lv_aload_n hx hb dX4_first_0 rfl (lv_at hl 0 rfl) ?_
  refine va_get (D := G.1) (ci := 3) (v := .int ph) (C := RX4) (T := TX4) (N := 11) hx hb hts hX4 hown hK.1 hP 0 rfl rfl 0 (by decide) (hts _ tw_78) (fun _ h9 => h9) rfl dX4_first_1 ?_
  refine lv_if_eq (tgt := 15) hx hb dX4_first_4 (by decide) (fun c1 => ?_) (fun c1 => ?_)
  · have hf := g_ifT c1 hf
    refine lv_iconst (v := (0 : Int32)) hx hb dX4_first_15 (by decide) ?_
    refine lv_goto (tgt := 20) hx hb dX4_first_16 (by decide) ?_
    cases hf
    exact g_iretR hx hb hr hlocks dX4_first_20
  · have hf := g_ifF c1 hf
    refine lv_aload_n hx hb dX4_first_7 rfl (lv_at hl 0 rfl) ?_
    refine va_get (D := G.1) (ci := 3) (v := .int ph) (C := RX4) (T := TX4) (N := 11) hx hb hts hX4 hown hK.1 hP 0 rfl rfl 0 (by decide) (hts _ tw_78) (fun _ h9 => h9) rfl dX4_first_8 ?_
    refine lv_iconst (v := (1 : Int32)) hx hb dX4_first_11 (by decide) ?_
    refine lv_icmp_ne (tgt := 19) hx hb dX4_first_12 (by decide) (fun c2 => ?_) (fun c2 => ?_)
    · have hf := g_ifF c2 hf
      refine lv_iconst (v := (1 : Int32)) hx hb dX4_first_19 (by decide) ?_
      cases hf
      exact g_iretR hx hb hr hlocks dX4_first_20
    · have hf := g_ifT c2 hf
      refine lv_iconst (v := (0 : Int32)) hx hb dX4_first_15 (by decide) ?_
      refine lv_goto (tgt := 20) hx hb dX4_first_16 (by decide) ?_
      cases hf
      exact g_iretR hx hb hr hlocks dX4_first_20
-- TwoShapes$Table.other(I)I
abbrev rmX4_other : Room := { frames := 0, cells := 0, slots := 0, locals := 0 }
def fX4_other (p0 : Int32) (ph : Int32) (la : Int32) (po : Int32) (lo : Int32) (ov : Nat → Int32) (orr : Nat → Int32) (nv : Nat → Int32) (nr : Nat → Int32) (ql : Int32) (qk : Nat → Int32) (qv : Nat → Int32) (qr : Nat → Int32) (wr : Nat → Int32) (wa : Int32) (wc : Nat → Int32) (wk : Nat → Int32) : Option (Int32) := (if p0 = (0 : Int32) then some ((1 : Int32)) else some ((0 : Int32)))
set_option maxHeartbeats 4000000 in
set_option maxRecDepth 100000 in
theorem qX4_other (l : Launch) (G : gT) (a : Nat → Nat) {p0 : Int32} {ph : Int32} {la : Int32} {po : Int32} {lo : Int32} {ov : Nat → Int32} {orr : Nat → Int32} {nv : Nat → Int32} {nr : Nat → Int32} {ql : Int32} {qk : Nat → Int32} {qv : Nat → Int32} {qr : Nat → Int32} {wr : Nat → Int32} {wa : Int32} {wc : Nat → Int32} {wk : Nat → Int32} {u : Int32} (hf : fX4_other p0 ph la po lo ov orr nv nr ql qk qv qr wr wa wc wk = some u) : gR l G yX4_other wsX4_other rmX4_other [.ref (a 0), .int p0] (tabW G a ph la po lo ov orr nv nr ql qk qv qr wr wa wc wk) (some (.int u)) := by
  refine gR.of (cc := cX4_other) (maxL := 2) (ret := (some .int)) (by decide) rfl (Nat.le_of_ble_eq_true rfl) ?_
  intro p e s m below meth c C0 hP ls hl
  obtain ⟨hx, hb, hr, hts, hown, hlocks, hml, hK⟩ := id C0
  have hl : lv_has ls 2 [(0, .ref (a 0)), (1, .int p0)] := hl
  have hP : va_P G.1 vwCl [((a 0), .inr (3, [.int ph, .int la, .int po, .int lo, .ref (a 1), .ref (a 4), .ref (a 7), .ref (a 11), .int wa, .ref (a 12), .ref (a 13)])), ((a 1), .inr (2, [.int 0, .ref (a 2), .ref (a 3)])), ((a 2), .inl (G.2.1, 31, .inl ov)), ((a 3), .inl (G.2.1, 31, .inl orr)), ((a 4), .inr (2, [.int 1, .ref (a 5), .ref (a 6)])), ((a 5), .inl (G.2.1, 31, .inl nv)), ((a 6), .inl (G.2.1, 31, .inl nr)), ((a 7), .inr (1, [.int ql, .ref (a 8), .ref (a 9), .ref (a 10)])), ((a 8), .inl (G.2.1, 8, .inl qk)), ((a 9), .inl (G.2.1, 8, .inl qv)), ((a 10), .inl (G.2.1, 8, .inl qr)), ((a 11), .inl (G.2.1, 31, .inl wr)), ((a 12), .inl (G.2.1, 3, .inl wc)), ((a 13), .inl (G.2.1, 3, .inl wk))] s.heap := hP
  unfold fX4_other at hf
  refine lv_iload_n hx hb dX4_other_0 rfl (lv_at hl 1 rfl) ?_
  refine lv_if_ne (tgt := 8) hx hb dX4_other_1 (by decide) (fun c1 => ?_) (fun c1 => ?_)
  · have hf := g_ifF c1 hf
    refine lv_iconst (v := (0 : Int32)) hx hb dX4_other_8 (by decide) ?_
    cases hf
    exact g_iretR hx hb hr hlocks dX4_other_9
  · have hf := g_ifT c1 hf
    refine lv_iconst (v := (1 : Int32)) hx hb dX4_other_4 (by decide) ?_
    refine lv_goto (tgt := 9) hx hb dX4_other_5 (by decide) ?_
    cases hf
    exact g_iretR hx hb hr hlocks dX4_other_9
-- TwoShapes$Table.second()I
abbrev rmX4_second : Room := { frames := 1, cells := 0, slots := 0, locals := 21 }
def fX4_second (ph : Int32) (la : Int32) (po : Int32) (lo : Int32) (ov : Nat → Int32) (orr : Nat → Int32) (nv : Nat → Int32) (nr : Nat → Int32) (ql : Int32) (qk : Nat → Int32) (qv : Nat → Int32) (qr : Nat → Int32) (wr : Nat → Int32) (wa : Int32) (wc : Nat → Int32) (wk : Nat → Int32) : Option (Int32) := ((fX4_first ph la po lo ov orr nv nr ql qk qv qr wr wa wc wk).bind fun r1 => ((fX4_other r1 ph la po lo ov orr nv nr ql qk qv qr wr wa wc wk).bind fun r3 => some (r3)))
set_option maxHeartbeats 4000000 in
set_option maxRecDepth 100000 in
theorem qX4_second (l : Launch) (G : gT) (a : Nat → Nat) {ph : Int32} {la : Int32} {po : Int32} {lo : Int32} {ov : Nat → Int32} {orr : Nat → Int32} {nv : Nat → Int32} {nr : Nat → Int32} {ql : Int32} {qk : Nat → Int32} {qv : Nat → Int32} {qr : Nat → Int32} {wr : Nat → Int32} {wa : Int32} {wc : Nat → Int32} {wk : Nat → Int32} {u : Int32} (hf : fX4_second ph la po lo ov orr nv nr ql qk qv qr wr wa wc wk = some u) : gR l G yX4_second wsX4_second rmX4_second [.ref (a 0)] (tabW G a ph la po lo ov orr nv nr ql qk qv qr wr wa wc wk) (some (.int u)) := by
  refine gR.of (cc := cX4_second) (maxL := 1) (ret := (some .int)) (by decide) rfl (Nat.le_of_ble_eq_true rfl) ?_
  intro p e s m below meth c C0 hP ls hl
  obtain ⟨hx, hb, hr, hts, hown, hlocks, hml, hK⟩ := id C0
  have hl : lv_has ls 1 [(0, .ref (a 0))] := hl
  have hP : va_P G.1 vwCl [((a 0), .inr (3, [.int ph, .int la, .int po, .int lo, .ref (a 1), .ref (a 4), .ref (a 7), .ref (a 11), .int wa, .ref (a 12), .ref (a 13)])), ((a 1), .inr (2, [.int 0, .ref (a 2), .ref (a 3)])), ((a 2), .inl (G.2.1, 31, .inl ov)), ((a 3), .inl (G.2.1, 31, .inl orr)), ((a 4), .inr (2, [.int 1, .ref (a 5), .ref (a 6)])), ((a 5), .inl (G.2.1, 31, .inl nv)), ((a 6), .inl (G.2.1, 31, .inl nr)), ((a 7), .inr (1, [.int ql, .ref (a 8), .ref (a 9), .ref (a 10)])), ((a 8), .inl (G.2.1, 8, .inl qk)), ((a 9), .inl (G.2.1, 8, .inl qv)), ((a 10), .inl (G.2.1, 8, .inl qr)), ((a 11), .inl (G.2.1, 31, .inl wr)), ((a 12), .inl (G.2.1, 3, .inl wc)), ((a 13), .inl (G.2.1, 3, .inl wk))] s.heap := hP
  unfold fX4_second at hf
  refine lv_aload_n hx hb dX4_second_0 rfl (lv_at hl 0 rfl) ?_
  refine lv_aload_n hx hb dX4_second_1 rfl (lv_at hl 0 rfl) ?_
  obtain ⟨r1, e2, hf⟩ := g_bdS hf
  refine g_contR (st1 := [.int r1, .ref (a 0)]) (g_runVR (As := []) (rest := [.ref (a 0)]) ⟨hx, hb, hml, hown, hts⟩ (qX4_first l G a e2) (cwV 0 hts (TB_V TB_id tw_209 tw_210 tw_211 tw_6 tw_212) rfl rfl rfl (by decide +kernel) ⟨Nat.le_of_ble_eq_true rfl, Nat.le_of_ble_eq_true rfl⟩) hK (hP.sub [0, 1, 2, 3, 4, 5, 6, 7, 8, 9, 10, 11, 12, 13] rfl) 0 rfl rfl rfl hl.1 rfl (Nat.le_of_ble_eq_true rfl) dX4_second_2) rfl ?_
  obtain ⟨r3, e4, hf⟩ := g_bdS hf
  refine g_contR (st1 := [.int r3]) (g_runVR (As := [.int r1]) (rest := []) ⟨hx, hb, hml, hown, hts⟩ (qX4_other l G a e4) (cwV 1 hts (TB_V TB_id tw_213 tw_214 tw_215 tw_6 tw_216) rfl rfl rfl (by decide +kernel) ⟨Nat.le_of_ble_eq_true rfl, Nat.le_of_ble_eq_true rfl⟩) hK (hP.sub [0, 1, 2, 3, 4, 5, 6, 7, 8, 9, 10, 11, 12, 13] rfl) 0 rfl rfl rfl hl.1 rfl (Nat.le_of_ble_eq_true rfl) dX4_second_5) rfl ?_
  cases hf
  exact g_iretR hx hb hr hlocks dX4_second_8
-- TwoShapes$Table.shape(I)LTwoShapes$Shape;
abbrev rmX4_shape : Room := { frames := 0, cells := 0, slots := 0, locals := 0 }
def fX4_shape (p0 : Int32) (ph : Int32) (la : Int32) (po : Int32) (lo : Int32) (ov : Nat → Int32) (orr : Nat → Int32) (nv : Nat → Int32) (nr : Nat → Int32) (ql : Int32) (qk : Nat → Int32) (qv : Nat → Int32) (qr : Nat → Int32) (wr : Nat → Int32) (wa : Int32) (wc : Nat → Int32) (wk : Nat → Int32) : Option (Nat) := (if p0 = (0 : Int32) then some (1) else some (4))
set_option maxHeartbeats 4000000 in
set_option maxRecDepth 100000 in
theorem qX4_shape (l : Launch) (G : gT) (a : Nat → Nat) {p0 : Int32} {ph : Int32} {la : Int32} {po : Int32} {lo : Int32} {ov : Nat → Int32} {orr : Nat → Int32} {nv : Nat → Int32} {nr : Nat → Int32} {ql : Int32} {qk : Nat → Int32} {qv : Nat → Int32} {qr : Nat → Int32} {wr : Nat → Int32} {wa : Int32} {wc : Nat → Int32} {wk : Nat → Int32} {u : Nat} (hf : fX4_shape p0 ph la po lo ov orr nv nr ql qk qv qr wr wa wc wk = some u) : gR l G yX4_shape wsX4_shape rmX4_shape [.ref (a 0), .int p0] (tabW G a ph la po lo ov orr nv nr ql qk qv qr wr wa wc wk) (some (.ref (a u))) := by
  refine gR.of (cc := cX4_shape) (maxL := 2) (ret := (some (.object "TwoShapes$Shape"))) (by decide) rfl (Nat.le_of_ble_eq_true rfl) ?_
  intro p e s m below meth c C0 hP ls hl
  obtain ⟨hx, hb, hr, hts, hown, hlocks, hml, hK⟩ := id C0
  have hl : lv_has ls 2 [(0, .ref (a 0)), (1, .int p0)] := hl
  have hP : va_P G.1 vwCl [((a 0), .inr (3, [.int ph, .int la, .int po, .int lo, .ref (a 1), .ref (a 4), .ref (a 7), .ref (a 11), .int wa, .ref (a 12), .ref (a 13)])), ((a 1), .inr (2, [.int 0, .ref (a 2), .ref (a 3)])), ((a 2), .inl (G.2.1, 31, .inl ov)), ((a 3), .inl (G.2.1, 31, .inl orr)), ((a 4), .inr (2, [.int 1, .ref (a 5), .ref (a 6)])), ((a 5), .inl (G.2.1, 31, .inl nv)), ((a 6), .inl (G.2.1, 31, .inl nr)), ((a 7), .inr (1, [.int ql, .ref (a 8), .ref (a 9), .ref (a 10)])), ((a 8), .inl (G.2.1, 8, .inl qk)), ((a 9), .inl (G.2.1, 8, .inl qv)), ((a 10), .inl (G.2.1, 8, .inl qr)), ((a 11), .inl (G.2.1, 31, .inl wr)), ((a 12), .inl (G.2.1, 3, .inl wc)), ((a 13), .inl (G.2.1, 3, .inl wk))] s.heap := hP
  unfold fX4_shape at hf
  refine lv_iload_n hx hb dX4_shape_0 rfl (lv_at hl 1 rfl) ?_
  refine lv_if_ne (tgt := 11) hx hb dX4_shape_1 (by decide) (fun c1 => ?_) (fun c1 => ?_)
  · have hf := g_ifF c1 hf
    refine lv_aload_n hx hb dX4_shape_11 rfl (lv_at hl 0 rfl) ?_
    refine va_get (D := G.1) (ci := 3) (v := .ref (a 4)) (C := RX4) (T := TX4) (N := 11) hx hb hts hX4 hown hK.1 hP 0 rfl rfl 5 (by decide) (hts _ tw_88) (fun _ h9 => h9) rfl dX4_shape_12 ?_
    cases hf
    exact g_aretR hx hb hr hlocks dX4_shape_15
  · have hf := g_ifT c1 hf
    refine lv_aload_n hx hb dX4_shape_4 rfl (lv_at hl 0 rfl) ?_
    refine va_get (D := G.1) (ci := 3) (v := .ref (a 1)) (C := RX4) (T := TX4) (N := 11) hx hb hts hX4 hown hK.1 hP 0 rfl rfl 4 (by decide) (hts _ tw_86) (fun _ h9 => h9) rfl dX4_shape_5 ?_
    refine lv_goto (tgt := 15) hx hb dX4_shape_8 (by decide) ?_
    cases hf
    exact g_aretR hx hb hr hlocks dX4_shape_15
-- TwoShapes$Table.startChange()I
abbrev rmX4_startChange : Room := { frames := 1, cells := 0, slots := 0, locals := 22 }
def fX4_startChange (ph : Int32) (la : Int32) (po : Int32) (lo : Int32) (ov : Nat → Int32) (orr : Nat → Int32) (nv : Nat → Int32) (nr : Nat → Int32) (ql : Int32) (qk : Nat → Int32) (qv : Nat → Int32) (qr : Nat → Int32) (wr : Nat → Int32) (wa : Int32) (wc : Nat → Int32) (wk : Nat → Int32) : Option (Int32 × Int32 × Int32 × Int32 × Int32 × (Nat → Int32) × (Nat → Int32) × (Nat → Int32) × (Nat → Int32) × Int32 × (Nat → Int32) × (Nat → Int32) × (Nat → Int32) × (Nat → Int32) × Int32 × (Nat → Int32) × (Nat → Int32)) := (if ph = (0 : Int32) then ((fX3_rows 0 ov orr).bind fun r2 => some (r2, (1 : Int32), la, (0 : Int32), lo, ov, orr, nv, nr, ql, qk, qv, qr, wr, wa, wc, wk)) else some ((-1000002 : Int32), ph, la, po, lo, ov, orr, nv, nr, ql, qk, qv, qr, wr, wa, wc, wk))
set_option maxHeartbeats 4000000 in
set_option maxRecDepth 100000 in
theorem qX4_startChange (l : Launch) (G : gT) (a : Nat → Nat) {ph : Int32} {la : Int32} {po : Int32} {lo : Int32} {ov : Nat → Int32} {orr : Nat → Int32} {nv : Nat → Int32} {nr : Nat → Int32} {ql : Int32} {qk : Nat → Int32} {qv : Nat → Int32} {qr : Nat → Int32} {wr : Nat → Int32} {wa : Int32} {wc : Nat → Int32} {wk : Nat → Int32} {u : Int32 × Int32 × Int32 × Int32 × Int32 × (Nat → Int32) × (Nat → Int32) × (Nat → Int32) × (Nat → Int32) × Int32 × (Nat → Int32) × (Nat → Int32) × (Nat → Int32) × (Nat → Int32) × Int32 × (Nat → Int32) × (Nat → Int32)} (hf : fX4_startChange ph la po lo ov orr nv nr ql qk qv qr wr wa wc wk = some u) : gC l G yX4_startChange wsX4_startChange rmX4_startChange [.ref (a 0)] (tabW G a ph la po lo ov orr nv nr ql qk qv qr wr wa wc wk) (some (.int u.1)) (tabW G a u.2.1 u.2.2.1 u.2.2.2.1 u.2.2.2.2.1 u.2.2.2.2.2.1 u.2.2.2.2.2.2.1 u.2.2.2.2.2.2.2.1 u.2.2.2.2.2.2.2.2.1 u.2.2.2.2.2.2.2.2.2.1 u.2.2.2.2.2.2.2.2.2.2.1 u.2.2.2.2.2.2.2.2.2.2.2.1 u.2.2.2.2.2.2.2.2.2.2.2.2.1 u.2.2.2.2.2.2.2.2.2.2.2.2.2.1 u.2.2.2.2.2.2.2.2.2.2.2.2.2.2.1 u.2.2.2.2.2.2.2.2.2.2.2.2.2.2.2.1 u.2.2.2.2.2.2.2.2.2.2.2.2.2.2.2.2) := by
  refine gC.of (cc := cX4_startChange) (maxL := 1) (ret := (some .int)) (by decide) rfl (Nat.le_of_ble_eq_true rfl) ?_
  intro p e s m below meth c C0 hP hD hS ls hl
  obtain ⟨hx, hb, hr, hts, hown, hlocks, hml, hK⟩ := id C0
  have hl : lv_has ls 1 [(0, .ref (a 0))] := hl
  have hA : ∀ q : Nat, s.heap.size ≤ q → va_A (tabW G a ph la po lo ov orr nv nr ql qk qv qr wr wa wc wk) s.heap.size q := fun q h => Or.inr h
  have hP : va_P G.1 vwCl [((a 0), .inr (3, [.int ph, .int la, .int po, .int lo, .ref (a 1), .ref (a 4), .ref (a 7), .ref (a 11), .int wa, .ref (a 12), .ref (a 13)])), ((a 1), .inr (2, [.int 0, .ref (a 2), .ref (a 3)])), ((a 2), .inl (G.2.1, 31, .inl ov)), ((a 3), .inl (G.2.1, 31, .inl orr)), ((a 4), .inr (2, [.int 1, .ref (a 5), .ref (a 6)])), ((a 5), .inl (G.2.1, 31, .inl nv)), ((a 6), .inl (G.2.1, 31, .inl nr)), ((a 7), .inr (1, [.int ql, .ref (a 8), .ref (a 9), .ref (a 10)])), ((a 8), .inl (G.2.1, 8, .inl qk)), ((a 9), .inl (G.2.1, 8, .inl qv)), ((a 10), .inl (G.2.1, 8, .inl qr)), ((a 11), .inl (G.2.1, 31, .inl wr)), ((a 12), .inl (G.2.1, 3, .inl wc)), ((a 13), .inl (G.2.1, 3, .inl wk))] s.heap := hP
  have hD : va_D (va_A (tabW G a ph la po lo ov orr nv nr ql qk qv qr wr wa wc wk) s.heap.size) [((a 0), .inr (3, [.int ph, .int la, .int po, .int lo, .ref (a 1), .ref (a 4), .ref (a 7), .ref (a 11), .int wa, .ref (a 12), .ref (a 13)])), ((a 1), .inr (2, [.int 0, .ref (a 2), .ref (a 3)])), ((a 2), .inl (G.2.1, 31, .inl ov)), ((a 3), .inl (G.2.1, 31, .inl orr)), ((a 4), .inr (2, [.int 1, .ref (a 5), .ref (a 6)])), ((a 5), .inl (G.2.1, 31, .inl nv)), ((a 6), .inl (G.2.1, 31, .inl nr)), ((a 7), .inr (1, [.int ql, .ref (a 8), .ref (a 9), .ref (a 10)])), ((a 8), .inl (G.2.1, 8, .inl qk)), ((a 9), .inl (G.2.1, 8, .inl qv)), ((a 10), .inl (G.2.1, 8, .inl qr)), ((a 11), .inl (G.2.1, 31, .inl wr)), ((a 12), .inl (G.2.1, 3, .inl wc)), ((a 13), .inl (G.2.1, 3, .inl wk))] := hD
  unfold fX4_startChange at hf
  refine lv_aload_n hx hb dX4_startChange_0 rfl (lv_at hl 0 rfl) ?_
  refine va_get (D := G.1) (ci := 3) (v := .int ph) (C := RX4) (T := TX4) (N := 11) hx hb hts hX4 hown hK.1 hP 0 rfl rfl 0 (by decide) (hts _ tw_78) (fun _ h9 => h9) rfl dX4_startChange_1 ?_
  refine lv_if_eq (tgt := 10) hx hb dX4_startChange_4 (by decide) (fun c1 => ?_) (fun c1 => ?_)
  · have hf := g_ifT c1 hf
    refine lv_aload_n hx hb dX4_startChange_10 rfl (lv_at hl 0 rfl) ?_
    refine lv_iconst (v := (1 : Int32)) hx hb dX4_startChange_11 (by decide) ?_
    refine va_put (D := G.1) (ci := 3) (v := .int (1 : Int32)) (ty := .int) (C := RX4) (T := TX4) (N := 11) hx hb hts hX4 tyX4 tyX4_ok nmX4 hown hK.1 hP hD hS 0 rfl rfl 0 (by decide) (hts _ tw_78) (fun _ h9 => h9) rfl (by decide +kernel) rfl rfl (Nat.le_of_ble_eq_true rfl) dX4_startChange_12 (fun H locs hP hD hS => ?_)
    have hP : va_P G.1 vwCl [((a 0), .inr (3, [.int (1 : Int32), .int la, .int po, .int lo, .ref (a 1), .ref (a 4), .ref (a 7), .ref (a 11), .int wa, .ref (a 12), .ref (a 13)])), ((a 1), .inr (2, [.int 0, .ref (a 2), .ref (a 3)])), ((a 2), .inl (G.2.1, 31, .inl ov)), ((a 3), .inl (G.2.1, 31, .inl orr)), ((a 4), .inr (2, [.int 1, .ref (a 5), .ref (a 6)])), ((a 5), .inl (G.2.1, 31, .inl nv)), ((a 6), .inl (G.2.1, 31, .inl nr)), ((a 7), .inr (1, [.int ql, .ref (a 8), .ref (a 9), .ref (a 10)])), ((a 8), .inl (G.2.1, 8, .inl qk)), ((a 9), .inl (G.2.1, 8, .inl qv)), ((a 10), .inl (G.2.1, 8, .inl qr)), ((a 11), .inl (G.2.1, 31, .inl wr)), ((a 12), .inl (G.2.1, 3, .inl wc)), ((a 13), .inl (G.2.1, 3, .inl wk))] H := hP
    have hD : va_D (va_A (tabW G a ph la po lo ov orr nv nr ql qk qv qr wr wa wc wk) s.heap.size) [((a 0), .inr (3, [.int (1 : Int32), .int la, .int po, .int lo, .ref (a 1), .ref (a 4), .ref (a 7), .ref (a 11), .int wa, .ref (a 12), .ref (a 13)])), ((a 1), .inr (2, [.int 0, .ref (a 2), .ref (a 3)])), ((a 2), .inl (G.2.1, 31, .inl ov)), ((a 3), .inl (G.2.1, 31, .inl orr)), ((a 4), .inr (2, [.int 1, .ref (a 5), .ref (a 6)])), ((a 5), .inl (G.2.1, 31, .inl nv)), ((a 6), .inl (G.2.1, 31, .inl nr)), ((a 7), .inr (1, [.int ql, .ref (a 8), .ref (a 9), .ref (a 10)])), ((a 8), .inl (G.2.1, 8, .inl qk)), ((a 9), .inl (G.2.1, 8, .inl qv)), ((a 10), .inl (G.2.1, 8, .inl qr)), ((a 11), .inl (G.2.1, 31, .inl wr)), ((a 12), .inl (G.2.1, 3, .inl wc)), ((a 13), .inl (G.2.1, 3, .inl wk))] := hD
    refine lv_aload_n hx hb dX4_startChange_15 rfl (lv_at hl 0 rfl) ?_
    refine lv_iconst (v := (0 : Int32)) hx hb dX4_startChange_16 (by decide) ?_
    refine va_put (D := G.1) (ci := 3) (v := .int (0 : Int32)) (ty := .int) (C := RX4) (T := TX4) (N := 11) hx hb hts hX4 tyX4 tyX4_ok nmX4 hown hK.1 hP hD hS 0 rfl rfl 2 (by decide) (hts _ tw_82) (fun _ h9 => h9) rfl (by decide +kernel) rfl rfl (Nat.le_of_ble_eq_true rfl) dX4_startChange_17 (fun H locs hP hD hS => ?_)
    have hP : va_P G.1 vwCl [((a 0), .inr (3, [.int (1 : Int32), .int la, .int (0 : Int32), .int lo, .ref (a 1), .ref (a 4), .ref (a 7), .ref (a 11), .int wa, .ref (a 12), .ref (a 13)])), ((a 1), .inr (2, [.int 0, .ref (a 2), .ref (a 3)])), ((a 2), .inl (G.2.1, 31, .inl ov)), ((a 3), .inl (G.2.1, 31, .inl orr)), ((a 4), .inr (2, [.int 1, .ref (a 5), .ref (a 6)])), ((a 5), .inl (G.2.1, 31, .inl nv)), ((a 6), .inl (G.2.1, 31, .inl nr)), ((a 7), .inr (1, [.int ql, .ref (a 8), .ref (a 9), .ref (a 10)])), ((a 8), .inl (G.2.1, 8, .inl qk)), ((a 9), .inl (G.2.1, 8, .inl qv)), ((a 10), .inl (G.2.1, 8, .inl qr)), ((a 11), .inl (G.2.1, 31, .inl wr)), ((a 12), .inl (G.2.1, 3, .inl wc)), ((a 13), .inl (G.2.1, 3, .inl wk))] H := hP
    have hD : va_D (va_A (tabW G a ph la po lo ov orr nv nr ql qk qv qr wr wa wc wk) s.heap.size) [((a 0), .inr (3, [.int (1 : Int32), .int la, .int (0 : Int32), .int lo, .ref (a 1), .ref (a 4), .ref (a 7), .ref (a 11), .int wa, .ref (a 12), .ref (a 13)])), ((a 1), .inr (2, [.int 0, .ref (a 2), .ref (a 3)])), ((a 2), .inl (G.2.1, 31, .inl ov)), ((a 3), .inl (G.2.1, 31, .inl orr)), ((a 4), .inr (2, [.int 1, .ref (a 5), .ref (a 6)])), ((a 5), .inl (G.2.1, 31, .inl nv)), ((a 6), .inl (G.2.1, 31, .inl nr)), ((a 7), .inr (1, [.int ql, .ref (a 8), .ref (a 9), .ref (a 10)])), ((a 8), .inl (G.2.1, 8, .inl qk)), ((a 9), .inl (G.2.1, 8, .inl qv)), ((a 10), .inl (G.2.1, 8, .inl qr)), ((a 11), .inl (G.2.1, 31, .inl wr)), ((a 12), .inl (G.2.1, 3, .inl wc)), ((a 13), .inl (G.2.1, 3, .inl wk))] := hD
    refine lv_aload_n hx hb dX4_startChange_20 rfl (lv_at hl 0 rfl) ?_
    refine va_get (D := G.1) (ci := 3) (v := .ref (a 1)) (C := RX4) (T := TX4) (N := 11) hx hb hts hX4 hown hK.1 hP 0 rfl rfl 4 (by decide) (hts _ tw_86) (fun _ h9 => h9) rfl dX4_startChange_21 ?_
    obtain ⟨r2, e3, hf⟩ := g_bdS hf
    refine g_contR (st1 := [.int r2]) (g_runVR (As := []) (rest := []) ⟨hx, hb, hml, hown, hts⟩ (qX3_rows l G (a 1) (a 2) (a 3) e3) (cwV 0 hts (TB_V TB_id tw_408 tw_244 tw_245 tw_7 tw_246) rfl rfl rfl (by decide +kernel) ⟨Nat.le_of_ble_eq_true rfl, Nat.le_of_ble_eq_true rfl⟩) hK (hP.sub [1, 2, 3] rfl) 0 rfl rfl rfl hl.1 rfl (Nat.le_of_ble_eq_true rfl) dX4_startChange_24) rfl ?_
    cases hf
    exact g_iretC hx hb hr hlocks hP hD hS dX4_startChange_27
  · have hf := g_ifF c1 hf
    refine lv_ldc (v := (-1000002 : Int32)) hx hb hown (hts _ tw_367) dX4_startChange_7 ?_
    cases hf
    exact g_iretC hx hb hr hlocks hP hD hS dX4_startChange_9
-- TwoShapes$Table.differing()I
abbrev rmX4_differing : Room := { frames := 1, cells := 0, slots := 0, locals := 22 }
def fX4_differing_b4 : Nat → Int32 → Int32 → Int32 → Int32 → Int32 → Int32 → (Nat → Int32) → (Nat → Int32) → (Nat → Int32) → (Nat → Int32) → Int32 → (Nat → Int32) → (Nat → Int32) → (Nat → Int32) → (Nat → Int32) → Int32 → (Nat → Int32) → (Nat → Int32) → Option (Int32)
  | 0, _, _, _, _, _, _, _, _, _, _, _, _, _, _, _, _, _, _ => none
  | n + 1, x1, x2, ph, la, po, lo, ov, orr, nv, nr, ql, qk, qv, qr, wr, wa, wc, wk => (if (31 : Int32) ≤ x2 then some (x1) else g_gd (g_in x2 31) (g_gd (g_in x2 31) ((if (ov x2.toNatClampNeg) = (nv x2.toNatClampNeg) then g_gd (g_in x2 31) (g_gd (g_in x2 31) (((fX2_madeOver (nr x2.toNatClampNeg) (0 : Int32)).bind fun r8 => (if (orr x2.toNatClampNeg) = r8 then fX4_differing_b4 n x1 (x2 + (1 : Int32)) ph la po lo ov orr nv nr ql qk qv qr wr wa wc wk else fX4_differing_b4 n (x1 ||| ((1 : Int32) <<< (x2 &&& 31))) (x2 + (1 : Int32)) ph la po lo ov orr nv nr ql qk qv qr wr wa wc wk)))) else fX4_differing_b4 n (x1 ||| ((1 : Int32) <<< (x2 &&& 31))) (x2 + (1 : Int32)) ph la po lo ov orr nv nr ql qk qv qr wr wa wc wk))))
set_option maxHeartbeats 4000000 in
set_option maxRecDepth 100000 in
theorem kX4_differing_b4 {p : Program} {l : Launch} {e : Env} {s : State} {m : MethodId} {args : Array Value} {below : List Frame} {meth : Method} {c : Code} {G : gT} {a : Nat → Nat} (C0 : gX p s m args meth c cX4_differing 4 (some .int) RX4 G) :
    ∀ (n : Nat) (x1 : Int32) (x2 : Int32) (ph : Int32) (la : Int32) (po : Int32) (lo : Int32) (ov : Nat → Int32) (orr : Nat → Int32) (nv : Nat → Int32) (nr : Nat → Int32) (ql : Int32) (qk : Nat → Int32) (qv : Nat → Int32) (qr : Nat → Int32) (wr : Nat → Int32) (wa : Int32) (wc : Nat → Int32) (wk : Nat → Int32) (u : Int32), fX4_differing_b4 n x1 x2 ph la po lo ov orr nv nr ql qk qv qr wr wa wc wk = some u → va_P G.1 vwCl [((a 0), .inr (3, [.int ph, .int la, .int po, .int lo, .ref (a 1), .ref (a 4), .ref (a 7), .ref (a 11), .int wa, .ref (a 12), .ref (a 13)])), ((a 1), .inr (2, [.int 0, .ref (a 2), .ref (a 3)])), ((a 2), .inl (G.2.1, 31, .inl ov)), ((a 3), .inl (G.2.1, 31, .inl orr)), ((a 4), .inr (2, [.int 1, .ref (a 5), .ref (a 6)])), ((a 5), .inl (G.2.1, 31, .inl nv)), ((a 6), .inl (G.2.1, 31, .inl nr)), ((a 7), .inr (1, [.int ql, .ref (a 8), .ref (a 9), .ref (a 10)])), ((a 8), .inl (G.2.1, 8, .inl qk)), ((a 9), .inl (G.2.1, 8, .inl qv)), ((a 10), .inl (G.2.1, 8, .inl qr)), ((a 11), .inl (G.2.1, 31, .inl wr)), ((a 12), .inl (G.2.1, 3, .inl wc)), ((a 13), .inl (G.2.1, 3, .inl wk))] s.heap → ∀ ls, lv_has ls 4 [(0, .ref (a 0)), (1, .int x1), (2, .int x2)] → gV p l e (headSpec wsX4_differing rmX4_differing).room s m args below meth c (some (.int u)) 4 ls [] := by
  obtain ⟨hx, hb, hr, hts, hown, hlocks, hml, hK⟩ := id C0
  intro n
  induction n with
  | zero =>
    intro x1 x2 ph la po lo ov orr nv nr ql qk qv qr wr wa wc wk u hf hP ls hl
    have hf : (none : Option (Int32)) = some u := hf
    cases hf
  | succ n ih =>
    intro x1 x2 ph la po lo ov orr nv nr ql qk qv qr wr wa wc wk u hf hP ls hl
    rw [fX4_differing_b4] at hf
    refine lv_iload_n hx hb dX4_differing_4 rfl (lv_at hl 2 rfl) ?_
    refine lv_bipush (v := (31 : Int32)) hx hb dX4_differing_5 (by decide) ?_
    refine lv_icmp_ge (tgt := 78) hx hb dX4_differing_7 (by decide) (fun c1 => ?_) (fun c1 => ?_)
    · have hf := g_ifT c1 hf
      refine lv_iload_n hx hb dX4_differing_78 rfl (lv_at hl 1 rfl) ?_
      cases hf
      exact g_iretR hx hb hr hlocks dX4_differing_79
    · have hf := g_ifF c1 hf
      refine lv_aload_n hx hb dX4_differing_10 rfl (lv_at hl 0 rfl) ?_
      refine va_get (D := G.1) (ci := 3) (v := .ref (a 1)) (C := RX4) (T := TX4) (N := 11) hx hb hts hX4 hown hK.1 hP 0 rfl rfl 4 (by decide) (hts _ tw_86) (fun _ h9 => h9) rfl dX4_differing_11 ?_
      refine va_get (D := G.1) (ci := 2) (v := .ref (a 2)) (C := RX3) (T := TX3) (N := 3) hx hb hts hX3 hown hK.1 hP 1 rfl rfl 1 (by decide) (hts _ tw_42) (fun _ h9 => h9) rfl dX4_differing_14 ?_
      refine lv_iload_n hx hb dX4_differing_17 rfl (lv_at hl 2 rfl) ?_
      obtain ⟨g2, hf⟩ := g_gdS hf
      refine va_iald hx hb hK.1 hP 2 0 rfl rfl (g_in_vp g2) dX4_differing_18 ?_
      refine lv_aload_n hx hb dX4_differing_19 rfl (lv_at hl 0 rfl) ?_
      refine va_get (D := G.1) (ci := 3) (v := .ref (a 4)) (C := RX4) (T := TX4) (N := 11) hx hb hts hX4 hown hK.1 hP 0 rfl rfl 5 (by decide) (hts _ tw_88) (fun _ h9 => h9) rfl dX4_differing_20 ?_
      refine va_get (D := G.1) (ci := 2) (v := .ref (a 5)) (C := RX3) (T := TX3) (N := 3) hx hb hts hX3 hown hK.1 hP 4 rfl rfl 1 (by decide) (hts _ tw_42) (fun _ h9 => h9) rfl dX4_differing_23 ?_
      refine lv_iload_n hx hb dX4_differing_26 rfl (lv_at hl 2 rfl) ?_
      obtain ⟨g3, hf⟩ := g_gdS hf
      refine va_iald hx hb hK.1 hP 5 0 rfl rfl (g_in_vp g3) dX4_differing_27 ?_
      refine lv_icmp_eq (tgt := 35) hx hb dX4_differing_28 (by decide) (fun c4 => ?_) (fun c4 => ?_)
      · have hf := g_ifT c4 hf
        refine lv_iconst (v := (0 : Int32)) hx hb dX4_differing_35 (by decide) ?_
        refine lv_istore_n (lv' := [(3, .int (0 : Int32)), (0, .ref (a 0)), (1, .int x1), (2, .int x2)]) hx hb dX4_differing_36 rfl hl (by decide) rfl (fun ls hl => ?_)
        refine lv_iload_n hx hb dX4_differing_37 rfl (lv_at hl 0 rfl) ?_
        refine lv_if_ne (tgt := 66) hx hb dX4_differing_38 (by decide) (fun c_ => absurd c_ (by decide)) (fun _ => ?_)
        refine lv_aload_n hx hb dX4_differing_41 rfl (lv_at hl 1 rfl) ?_
        refine va_get (D := G.1) (ci := 3) (v := .ref (a 1)) (C := RX4) (T := TX4) (N := 11) hx hb hts hX4 hown hK.1 hP 0 rfl rfl 4 (by decide) (hts _ tw_86) (fun _ h9 => h9) rfl dX4_differing_42 ?_
        refine va_get (D := G.1) (ci := 2) (v := .ref (a 3)) (C := RX3) (T := TX3) (N := 3) hx hb hts hX3 hown hK.1 hP 1 rfl rfl 2 (by decide) (hts _ tw_45) (fun _ h9 => h9) rfl dX4_differing_45 ?_
        refine lv_iload_n hx hb dX4_differing_48 rfl (lv_at hl 3 rfl) ?_
        obtain ⟨g6, hf⟩ := g_gdS hf
        refine va_iald hx hb hK.1 hP 3 0 rfl rfl (g_in_vp g6) dX4_differing_49 ?_
        refine lv_aload_n hx hb dX4_differing_50 rfl (lv_at hl 1 rfl) ?_
        refine va_get (D := G.1) (ci := 3) (v := .ref (a 4)) (C := RX4) (T := TX4) (N := 11) hx hb hts hX4 hown hK.1 hP 0 rfl rfl 5 (by decide) (hts _ tw_88) (fun _ h9 => h9) rfl dX4_differing_51 ?_
        refine va_get (D := G.1) (ci := 2) (v := .ref (a 6)) (C := RX3) (T := TX3) (N := 3) hx hb hts hX3 hown hK.1 hP 4 rfl rfl 2 (by decide) (hts _ tw_45) (fun _ h9 => h9) rfl dX4_differing_54 ?_
        refine lv_iload_n hx hb dX4_differing_57 rfl (lv_at hl 3 rfl) ?_
        obtain ⟨g7, hf⟩ := g_gdS hf
        refine va_iald hx hb hK.1 hP 6 0 rfl rfl (g_in_vp g7) dX4_differing_58 ?_
        refine lv_iconst (v := (0 : Int32)) hx hb dX4_differing_59 (by decide) ?_
        obtain ⟨r8, e9, hf⟩ := g_bdS hf
        refine g_contR (st1 := [.int r8, .int (orr x2.toNatClampNeg)]) (g_runSR (As := [.int (nr x2.toNatClampNeg), .int (0 : Int32)]) (rest := [.int (orr x2.toNatClampNeg)]) ⟨hx, hb, hml, hown, hts⟩ (qX2_madeOver l G e9) (va_cwS 2 hts (TB_S TB_id tw_217 tw_218 tw_10 tw_219) rfl rfl rfl (by decide +kernel) ⟨Nat.le_of_ble_eq_true rfl, Nat.le_of_ble_eq_true rfl⟩) hK (hP.sub [] rfl) rfl hl.1 rfl (Nat.le_of_ble_eq_true rfl) dX4_differing_60) rfl ?_
        refine lv_icmp_eq (tgt := 72) hx hb dX4_differing_63 (by decide) (fun c10 => ?_) (fun c10 => ?_)
        · have hf := g_ifT c10 hf
          refine lv_iinc (v := (x2 + (1 : Int32))) (lv' := [(2, .int (x2 + (1 : Int32))), (3, .int (0 : Int32)), (0, .ref (a 0)), (1, .int x1)]) hx hb dX4_differing_72 hl (k := 3) rfl rfl (by decide) rfl (fun ls hl => ?_)
          refine lv_goto (tgt := 4) hx hb dX4_differing_75 (by decide) ?_
          exact ih _ _ _ _ _ _ _ _ _ _ _ _ _ _ _ _ _ _ _ hf hP ls (lv_sub hl [2, 3, 0] rfl)
        · have hf := g_ifF c10 hf
          refine lv_iload_n hx hb dX4_differing_66 rfl (lv_at hl 2 rfl) ?_
          refine lv_iconst (v := (1 : Int32)) hx hb dX4_differing_67 (by decide) ?_
          refine lv_iload_n hx hb dX4_differing_68 rfl (lv_at hl 3 rfl) ?_
          refine lv_ishl hx hb dX4_differing_69 ?_
          refine lv_ior hx hb dX4_differing_70 ?_
          refine lv_istore_n (lv' := [(1, .int (x1 ||| ((1 : Int32) <<< (x2 &&& 31)))), (3, .int (0 : Int32)), (0, .ref (a 0)), (2, .int x2)]) hx hb dX4_differing_71 rfl hl (by decide) rfl (fun ls hl => ?_)
          refine lv_iinc (v := (x2 + (1 : Int32))) (lv' := [(2, .int (x2 + (1 : Int32))), (1, .int (x1 ||| ((1 : Int32) <<< (x2 &&& 31)))), (3, .int (0 : Int32)), (0, .ref (a 0))]) hx hb dX4_differing_72 hl (k := 3) rfl rfl (by decide) rfl (fun ls hl => ?_)
          refine lv_goto (tgt := 4) hx hb dX4_differing_75 (by decide) ?_
          exact ih _ _ _ _ _ _ _ _ _ _ _ _ _ _ _ _ _ _ _ hf hP ls (lv_sub hl [3, 1, 0] rfl)
      · have hf := g_ifF c4 hf
        refine lv_iconst (v := (1 : Int32)) hx hb dX4_differing_31 (by decide) ?_
        refine lv_goto (tgt := 36) hx hb dX4_differing_32 (by decide) ?_
        refine lv_istore_n (lv' := [(3, .int (1 : Int32)), (0, .ref (a 0)), (1, .int x1), (2, .int x2)]) hx hb dX4_differing_36 rfl hl (by decide) rfl (fun ls hl => ?_)
        refine lv_iload_n hx hb dX4_differing_37 rfl (lv_at hl 0 rfl) ?_
        refine lv_if_ne (tgt := 66) hx hb dX4_differing_38 (by decide) (fun _ => ?_) (fun c_ => absurd c_ (by decide))
        refine lv_iload_n hx hb dX4_differing_66 rfl (lv_at hl 2 rfl) ?_
        refine lv_iconst (v := (1 : Int32)) hx hb dX4_differing_67 (by decide) ?_
        refine lv_iload_n hx hb dX4_differing_68 rfl (lv_at hl 3 rfl) ?_
        refine lv_ishl hx hb dX4_differing_69 ?_
        refine lv_ior hx hb dX4_differing_70 ?_
        refine lv_istore_n (lv' := [(1, .int (x1 ||| ((1 : Int32) <<< (x2 &&& 31)))), (3, .int (1 : Int32)), (0, .ref (a 0)), (2, .int x2)]) hx hb dX4_differing_71 rfl hl (by decide) rfl (fun ls hl => ?_)
        refine lv_iinc (v := (x2 + (1 : Int32))) (lv' := [(2, .int (x2 + (1 : Int32))), (1, .int (x1 ||| ((1 : Int32) <<< (x2 &&& 31)))), (3, .int (1 : Int32)), (0, .ref (a 0))]) hx hb dX4_differing_72 hl (k := 3) rfl rfl (by decide) rfl (fun ls hl => ?_)
        refine lv_goto (tgt := 4) hx hb dX4_differing_75 (by decide) ?_
        exact ih _ _ _ _ _ _ _ _ _ _ _ _ _ _ _ _ _ _ _ hf hP ls (lv_sub hl [3, 1, 0] rfl)
def fX4_differing (ph : Int32) (la : Int32) (po : Int32) (lo : Int32) (ov : Nat → Int32) (orr : Nat → Int32) (nv : Nat → Int32) (nr : Nat → Int32) (ql : Int32) (qk : Nat → Int32) (qv : Nat → Int32) (qr : Nat → Int32) (wr : Nat → Int32) (wa : Int32) (wc : Nat → Int32) (wk : Nat → Int32) : Option (Int32) := fX4_differing_b4 2000 (0 : Int32) (0 : Int32) ph la po lo ov orr nv nr ql qk qv qr wr wa wc wk
set_option maxHeartbeats 4000000 in
set_option maxRecDepth 100000 in
theorem qX4_differing (l : Launch) (G : gT) (a : Nat → Nat) {ph : Int32} {la : Int32} {po : Int32} {lo : Int32} {ov : Nat → Int32} {orr : Nat → Int32} {nv : Nat → Int32} {nr : Nat → Int32} {ql : Int32} {qk : Nat → Int32} {qv : Nat → Int32} {qr : Nat → Int32} {wr : Nat → Int32} {wa : Int32} {wc : Nat → Int32} {wk : Nat → Int32} {u : Int32} (hf : fX4_differing ph la po lo ov orr nv nr ql qk qv qr wr wa wc wk = some u) : gR l G yX4_differing wsX4_differing rmX4_differing [.ref (a 0)] (tabW G a ph la po lo ov orr nv nr ql qk qv qr wr wa wc wk) (some (.int u)) := by
  refine gR.of (cc := cX4_differing) (maxL := 4) (ret := (some .int)) (by decide) rfl (Nat.le_of_ble_eq_true rfl) ?_
  intro p e s m below meth c C0 hP ls hl
  obtain ⟨hx, hb, hr, hts, hown, hlocks, hml, hK⟩ := id C0
  have hl : lv_has ls 4 [(0, .ref (a 0))] := hl
  have hP : va_P G.1 vwCl [((a 0), .inr (3, [.int ph, .int la, .int po, .int lo, .ref (a 1), .ref (a 4), .ref (a 7), .ref (a 11), .int wa, .ref (a 12), .ref (a 13)])), ((a 1), .inr (2, [.int 0, .ref (a 2), .ref (a 3)])), ((a 2), .inl (G.2.1, 31, .inl ov)), ((a 3), .inl (G.2.1, 31, .inl orr)), ((a 4), .inr (2, [.int 1, .ref (a 5), .ref (a 6)])), ((a 5), .inl (G.2.1, 31, .inl nv)), ((a 6), .inl (G.2.1, 31, .inl nr)), ((a 7), .inr (1, [.int ql, .ref (a 8), .ref (a 9), .ref (a 10)])), ((a 8), .inl (G.2.1, 8, .inl qk)), ((a 9), .inl (G.2.1, 8, .inl qv)), ((a 10), .inl (G.2.1, 8, .inl qr)), ((a 11), .inl (G.2.1, 31, .inl wr)), ((a 12), .inl (G.2.1, 3, .inl wc)), ((a 13), .inl (G.2.1, 3, .inl wk))] s.heap := hP
  unfold fX4_differing at hf
  refine lv_iconst (v := (0 : Int32)) hx hb dX4_differing_0 (by decide) ?_
  refine lv_istore_n (lv' := [(1, .int (0 : Int32)), (0, .ref (a 0))]) hx hb dX4_differing_1 rfl hl (by decide) rfl (fun ls hl => ?_)
  refine lv_iconst (v := (0 : Int32)) hx hb dX4_differing_2 (by decide) ?_
  refine lv_istore_n (lv' := [(2, .int (0 : Int32)), (1, .int (0 : Int32)), (0, .ref (a 0))]) hx hb dX4_differing_3 rfl hl (by decide) rfl (fun ls hl => ?_)
  exact kX4_differing_b4 C0 2000 _ _ _ _ _ _ _ _ _ _ _ _ _ _ _ _ _ _ _ hf hP ls (lv_sub hl [2, 1, 0] rfl)
-- TwoShapes$Table.isReady()Z
abbrev rmX4_isReady : Room := { frames := 2, cells := 0, slots := 0, locals := 45 }
def fX4_isReady (ph : Int32) (la : Int32) (po : Int32) (lo : Int32) (ov : Nat → Int32) (orr : Nat → Int32) (nv : Nat → Int32) (nr : Nat → Int32) (ql : Int32) (qk : Nat → Int32) (qv : Nat → Int32) (qr : Nat → Int32) (wr : Nat → Int32) (wa : Int32) (wc : Nat → Int32) (wk : Nat → Int32) : Option (Int32) := (if ph = (1 : Int32) then (if po = (31 : Int32) then (if ql = (0 : Int32) then ((fX4_differing ph la po lo ov orr nv nr ql qk qv qr wr wa wc wk).bind fun r4 => (if r4 = (0 : Int32) then some ((1 : Int32)) else some ((0 : Int32)))) else some ((0 : Int32))) else some ((0 : Int32))) else some ((0 : Int32)))
set_option maxHeartbeats 4000000 in
set_option maxRecDepth 100000 in
theorem qX4_isReady (l : Launch) (G : gT) (a : Nat → Nat) {ph : Int32} {la : Int32} {po : Int32} {lo : Int32} {ov : Nat → Int32} {orr : Nat → Int32} {nv : Nat → Int32} {nr : Nat → Int32} {ql : Int32} {qk : Nat → Int32} {qv : Nat → Int32} {qr : Nat → Int32} {wr : Nat → Int32} {wa : Int32} {wc : Nat → Int32} {wk : Nat → Int32} {u : Int32} (hf : fX4_isReady ph la po lo ov orr nv nr ql qk qv qr wr wa wc wk = some u) : gR l G yX4_isReady wsX4_isReady rmX4_isReady [.ref (a 0)] (tabW G a ph la po lo ov orr nv nr ql qk qv qr wr wa wc wk) (some (.int u)) := by
  refine gR.of (cc := cX4_isReady) (maxL := 1) (ret := (some .boolean)) (by decide) rfl (Nat.le_of_ble_eq_true rfl) ?_
  intro p e s m below meth c C0 hP ls hl
  obtain ⟨hx, hb, hr, hts, hown, hlocks, hml, hK⟩ := id C0
  have hl : lv_has ls 1 [(0, .ref (a 0))] := hl
  have hP : va_P G.1 vwCl [((a 0), .inr (3, [.int ph, .int la, .int po, .int lo, .ref (a 1), .ref (a 4), .ref (a 7), .ref (a 11), .int wa, .ref (a 12), .ref (a 13)])), ((a 1), .inr (2, [.int 0, .ref (a 2), .ref (a 3)])), ((a 2), .inl (G.2.1, 31, .inl ov)), ((a 3), .inl (G.2.1, 31, .inl orr)), ((a 4), .inr (2, [.int 1, .ref (a 5), .ref (a 6)])), ((a 5), .inl (G.2.1, 31, .inl nv)), ((a 6), .inl (G.2.1, 31, .inl nr)), ((a 7), .inr (1, [.int ql, .ref (a 8), .ref (a 9), .ref (a 10)])), ((a 8), .inl (G.2.1, 8, .inl qk)), ((a 9), .inl (G.2.1, 8, .inl qv)), ((a 10), .inl (G.2.1, 8, .inl qr)), ((a 11), .inl (G.2.1, 31, .inl wr)), ((a 12), .inl (G.2.1, 3, .inl wc)), ((a 13), .inl (G.2.1, 3, .inl wk))] s.heap := hP
  unfold fX4_isReady at hf
  refine lv_aload_n hx hb dX4_isReady_0 rfl (lv_at hl 0 rfl) ?_
  refine va_get (D := G.1) (ci := 3) (v := .int ph) (C := RX4) (T := TX4) (N := 11) hx hb hts hX4 hown hK.1 hP 0 rfl rfl 0 (by decide) (hts _ tw_78) (fun _ h9 => h9) rfl dX4_isReady_1 ?_
  refine lv_iconst (v := (1 : Int32)) hx hb dX4_isReady_4 (by decide) ?_
  refine lv_icmp_ne (tgt := 38) hx hb dX4_isReady_5 (by decide) (fun c1 => ?_) (fun c1 => ?_)
  · have hf := g_ifF c1 hf
    refine lv_iconst (v := (0 : Int32)) hx hb dX4_isReady_38 (by decide) ?_
    cases hf
    exact g_zretR hx hb hr hlocks g_nb0 dX4_isReady_39
  · have hf := g_ifT c1 hf
    refine lv_aload_n hx hb dX4_isReady_8 rfl (lv_at hl 0 rfl) ?_
    refine va_get (D := G.1) (ci := 3) (v := .int po) (C := RX4) (T := TX4) (N := 11) hx hb hts hX4 hown hK.1 hP 0 rfl rfl 2 (by decide) (hts _ tw_82) (fun _ h9 => h9) rfl dX4_isReady_9 ?_
    refine lv_bipush (v := (31 : Int32)) hx hb dX4_isReady_12 (by decide) ?_
    refine lv_icmp_ne (tgt := 38) hx hb dX4_isReady_14 (by decide) (fun c2 => ?_) (fun c2 => ?_)
    · have hf := g_ifF c2 hf
      refine lv_iconst (v := (0 : Int32)) hx hb dX4_isReady_38 (by decide) ?_
      cases hf
      exact g_zretR hx hb hr hlocks g_nb0 dX4_isReady_39
    · have hf := g_ifT c2 hf
      refine lv_aload_n hx hb dX4_isReady_17 rfl (lv_at hl 0 rfl) ?_
      refine va_get (D := G.1) (ci := 3) (v := .ref (a 7)) (C := RX4) (T := TX4) (N := 11) hx hb hts hX4 hown hK.1 hP 0 rfl rfl 6 (by decide) (hts _ tw_90) (fun _ h9 => h9) rfl dX4_isReady_18 ?_
      refine va_get (D := G.1) (ci := 1) (v := .int ql) (C := RX1) (T := TX1) (N := 4) hx hb hts hX1 hown hK.1 hP 7 rfl rfl 0 (by decide) (hts _ tw_61) (fun _ h9 => h9) rfl dX4_isReady_21 ?_
      refine lv_if_ne (tgt := 38) hx hb dX4_isReady_24 (by decide) (fun c3 => ?_) (fun c3 => ?_)
      · have hf := g_ifF c3 hf
        refine lv_iconst (v := (0 : Int32)) hx hb dX4_isReady_38 (by decide) ?_
        cases hf
        exact g_zretR hx hb hr hlocks g_nb0 dX4_isReady_39
      · have hf := g_ifT c3 hf
        refine lv_aload_n hx hb dX4_isReady_27 rfl (lv_at hl 0 rfl) ?_
        obtain ⟨r4, e5, hf⟩ := g_bdS hf
        refine g_contR (st1 := [.int r4]) (g_runVR (As := []) (rest := []) ⟨hx, hb, hml, hown, hts⟩ (qX4_differing l G a e5) (cwV 0 hts (TB_V TB_id tw_262 tw_263 tw_264 tw_6 tw_265) rfl rfl rfl (by decide +kernel) ⟨Nat.le_of_ble_eq_true rfl, Nat.le_of_ble_eq_true rfl⟩) hK (hP.sub [0, 1, 2, 3, 4, 5, 6, 7, 8, 9, 10, 11, 12, 13] rfl) 0 rfl rfl rfl hl.1 rfl (Nat.le_of_ble_eq_true rfl) dX4_isReady_28) rfl ?_
        refine lv_if_ne (tgt := 38) hx hb dX4_isReady_31 (by decide) (fun c6 => ?_) (fun c6 => ?_)
        · have hf := g_ifF c6 hf
          refine lv_iconst (v := (0 : Int32)) hx hb dX4_isReady_38 (by decide) ?_
          cases hf
          exact g_zretR hx hb hr hlocks g_nb0 dX4_isReady_39
        · have hf := g_ifT c6 hf
          refine lv_iconst (v := (1 : Int32)) hx hb dX4_isReady_34 (by decide) ?_
          refine lv_goto (tgt := 39) hx hb dX4_isReady_35 (by decide) ?_
          cases hf
          exact g_zretR hx hb hr hlocks g_nb1 dX4_isReady_39
-- TwoShapes$Table.turnOver()I
abbrev rmX4_turnOver : Room := { frames := 3, cells := 0, slots := 0, locals := 65 }
def fX4_turnOver (ph : Int32) (la : Int32) (po : Int32) (lo : Int32) (ov : Nat → Int32) (orr : Nat → Int32) (nv : Nat → Int32) (nr : Nat → Int32) (ql : Int32) (qk : Nat → Int32) (qv : Nat → Int32) (qr : Nat → Int32) (wr : Nat → Int32) (wa : Int32) (wc : Nat → Int32) (wk : Nat → Int32) : Option (Int32 × Int32 × Int32 × Int32 × Int32 × (Nat → Int32) × (Nat → Int32) × (Nat → Int32) × (Nat → Int32) × Int32 × (Nat → Int32) × (Nat → Int32) × (Nat → Int32) × (Nat → Int32) × Int32 × (Nat → Int32) × (Nat → Int32)) := ((fX4_isReady ph la po lo ov orr nv nr ql qk qv qr wr wa wc wk).bind fun r1 => (if r1 = (0 : Int32) then some ((-1000002 : Int32), ph, la, po, lo, ov, orr, nv, nr, ql, qk, qv, qr, wr, wa, wc, wk) else ((fX3_rows 1 nv nr).bind fun r4 => some (r4, (2 : Int32), la, po, lo, ov, orr, nv, nr, ql, qk, qv, qr, wr, wa, wc, wk))))
set_option maxHeartbeats 4000000 in
set_option maxRecDepth 100000 in
theorem qX4_turnOver (l : Launch) (G : gT) (a : Nat → Nat) {ph : Int32} {la : Int32} {po : Int32} {lo : Int32} {ov : Nat → Int32} {orr : Nat → Int32} {nv : Nat → Int32} {nr : Nat → Int32} {ql : Int32} {qk : Nat → Int32} {qv : Nat → Int32} {qr : Nat → Int32} {wr : Nat → Int32} {wa : Int32} {wc : Nat → Int32} {wk : Nat → Int32} {u : Int32 × Int32 × Int32 × Int32 × Int32 × (Nat → Int32) × (Nat → Int32) × (Nat → Int32) × (Nat → Int32) × Int32 × (Nat → Int32) × (Nat → Int32) × (Nat → Int32) × (Nat → Int32) × Int32 × (Nat → Int32) × (Nat → Int32)} (hf : fX4_turnOver ph la po lo ov orr nv nr ql qk qv qr wr wa wc wk = some u) : gC l G yX4_turnOver wsX4_turnOver rmX4_turnOver [.ref (a 0)] (tabW G a ph la po lo ov orr nv nr ql qk qv qr wr wa wc wk) (some (.int u.1)) (tabW G a u.2.1 u.2.2.1 u.2.2.2.1 u.2.2.2.2.1 u.2.2.2.2.2.1 u.2.2.2.2.2.2.1 u.2.2.2.2.2.2.2.1 u.2.2.2.2.2.2.2.2.1 u.2.2.2.2.2.2.2.2.2.1 u.2.2.2.2.2.2.2.2.2.2.1 u.2.2.2.2.2.2.2.2.2.2.2.1 u.2.2.2.2.2.2.2.2.2.2.2.2.1 u.2.2.2.2.2.2.2.2.2.2.2.2.2.1 u.2.2.2.2.2.2.2.2.2.2.2.2.2.2.1 u.2.2.2.2.2.2.2.2.2.2.2.2.2.2.2.1 u.2.2.2.2.2.2.2.2.2.2.2.2.2.2.2.2) := by
  refine gC.of (cc := cX4_turnOver) (maxL := 1) (ret := (some .int)) (by decide) rfl (Nat.le_of_ble_eq_true rfl) ?_
  intro p e s m below meth c C0 hP hD hS ls hl
  obtain ⟨hx, hb, hr, hts, hown, hlocks, hml, hK⟩ := id C0
  have hl : lv_has ls 1 [(0, .ref (a 0))] := hl
  have hA : ∀ q : Nat, s.heap.size ≤ q → va_A (tabW G a ph la po lo ov orr nv nr ql qk qv qr wr wa wc wk) s.heap.size q := fun q h => Or.inr h
  have hP : va_P G.1 vwCl [((a 0), .inr (3, [.int ph, .int la, .int po, .int lo, .ref (a 1), .ref (a 4), .ref (a 7), .ref (a 11), .int wa, .ref (a 12), .ref (a 13)])), ((a 1), .inr (2, [.int 0, .ref (a 2), .ref (a 3)])), ((a 2), .inl (G.2.1, 31, .inl ov)), ((a 3), .inl (G.2.1, 31, .inl orr)), ((a 4), .inr (2, [.int 1, .ref (a 5), .ref (a 6)])), ((a 5), .inl (G.2.1, 31, .inl nv)), ((a 6), .inl (G.2.1, 31, .inl nr)), ((a 7), .inr (1, [.int ql, .ref (a 8), .ref (a 9), .ref (a 10)])), ((a 8), .inl (G.2.1, 8, .inl qk)), ((a 9), .inl (G.2.1, 8, .inl qv)), ((a 10), .inl (G.2.1, 8, .inl qr)), ((a 11), .inl (G.2.1, 31, .inl wr)), ((a 12), .inl (G.2.1, 3, .inl wc)), ((a 13), .inl (G.2.1, 3, .inl wk))] s.heap := hP
  have hD : va_D (va_A (tabW G a ph la po lo ov orr nv nr ql qk qv qr wr wa wc wk) s.heap.size) [((a 0), .inr (3, [.int ph, .int la, .int po, .int lo, .ref (a 1), .ref (a 4), .ref (a 7), .ref (a 11), .int wa, .ref (a 12), .ref (a 13)])), ((a 1), .inr (2, [.int 0, .ref (a 2), .ref (a 3)])), ((a 2), .inl (G.2.1, 31, .inl ov)), ((a 3), .inl (G.2.1, 31, .inl orr)), ((a 4), .inr (2, [.int 1, .ref (a 5), .ref (a 6)])), ((a 5), .inl (G.2.1, 31, .inl nv)), ((a 6), .inl (G.2.1, 31, .inl nr)), ((a 7), .inr (1, [.int ql, .ref (a 8), .ref (a 9), .ref (a 10)])), ((a 8), .inl (G.2.1, 8, .inl qk)), ((a 9), .inl (G.2.1, 8, .inl qv)), ((a 10), .inl (G.2.1, 8, .inl qr)), ((a 11), .inl (G.2.1, 31, .inl wr)), ((a 12), .inl (G.2.1, 3, .inl wc)), ((a 13), .inl (G.2.1, 3, .inl wk))] := hD
  unfold fX4_turnOver at hf
  refine lv_aload_n hx hb dX4_turnOver_0 rfl (lv_at hl 0 rfl) ?_
  obtain ⟨r1, e2, hf⟩ := g_bdS hf
  refine g_contR (st1 := [.int r1]) (g_runVR (As := []) (rest := []) ⟨hx, hb, hml, hown, hts⟩ (qX4_isReady l G a e2) (cwV 0 hts (TB_V TB_id tw_417 tw_259 tw_260 tw_6 tw_261) rfl rfl rfl (by decide +kernel) ⟨Nat.le_of_ble_eq_true rfl, Nat.le_of_ble_eq_true rfl⟩) hK (hP.sub [0, 1, 2, 3, 4, 5, 6, 7, 8, 9, 10, 11, 12, 13] rfl) 0 rfl rfl rfl hl.1 rfl (Nat.le_of_ble_eq_true rfl) dX4_turnOver_1) rfl ?_
  refine lv_if_ne (tgt := 10) hx hb dX4_turnOver_4 (by decide) (fun c3 => ?_) (fun c3 => ?_)
  · have hf := g_ifF c3 hf
    refine lv_aload_n hx hb dX4_turnOver_10 rfl (lv_at hl 0 rfl) ?_
    refine lv_iconst (v := (2 : Int32)) hx hb dX4_turnOver_11 (by decide) ?_
    refine va_put (D := G.1) (ci := 3) (v := .int (2 : Int32)) (ty := .int) (C := RX4) (T := TX4) (N := 11) hx hb hts hX4 tyX4 tyX4_ok nmX4 hown hK.1 hP hD hS 0 rfl rfl 0 (by decide) (hts _ tw_78) (fun _ h9 => h9) rfl (by decide +kernel) rfl rfl (Nat.le_of_ble_eq_true rfl) dX4_turnOver_12 (fun H locs hP hD hS => ?_)
    have hP : va_P G.1 vwCl [((a 0), .inr (3, [.int (2 : Int32), .int la, .int po, .int lo, .ref (a 1), .ref (a 4), .ref (a 7), .ref (a 11), .int wa, .ref (a 12), .ref (a 13)])), ((a 1), .inr (2, [.int 0, .ref (a 2), .ref (a 3)])), ((a 2), .inl (G.2.1, 31, .inl ov)), ((a 3), .inl (G.2.1, 31, .inl orr)), ((a 4), .inr (2, [.int 1, .ref (a 5), .ref (a 6)])), ((a 5), .inl (G.2.1, 31, .inl nv)), ((a 6), .inl (G.2.1, 31, .inl nr)), ((a 7), .inr (1, [.int ql, .ref (a 8), .ref (a 9), .ref (a 10)])), ((a 8), .inl (G.2.1, 8, .inl qk)), ((a 9), .inl (G.2.1, 8, .inl qv)), ((a 10), .inl (G.2.1, 8, .inl qr)), ((a 11), .inl (G.2.1, 31, .inl wr)), ((a 12), .inl (G.2.1, 3, .inl wc)), ((a 13), .inl (G.2.1, 3, .inl wk))] H := hP
    have hD : va_D (va_A (tabW G a ph la po lo ov orr nv nr ql qk qv qr wr wa wc wk) s.heap.size) [((a 0), .inr (3, [.int (2 : Int32), .int la, .int po, .int lo, .ref (a 1), .ref (a 4), .ref (a 7), .ref (a 11), .int wa, .ref (a 12), .ref (a 13)])), ((a 1), .inr (2, [.int 0, .ref (a 2), .ref (a 3)])), ((a 2), .inl (G.2.1, 31, .inl ov)), ((a 3), .inl (G.2.1, 31, .inl orr)), ((a 4), .inr (2, [.int 1, .ref (a 5), .ref (a 6)])), ((a 5), .inl (G.2.1, 31, .inl nv)), ((a 6), .inl (G.2.1, 31, .inl nr)), ((a 7), .inr (1, [.int ql, .ref (a 8), .ref (a 9), .ref (a 10)])), ((a 8), .inl (G.2.1, 8, .inl qk)), ((a 9), .inl (G.2.1, 8, .inl qv)), ((a 10), .inl (G.2.1, 8, .inl qr)), ((a 11), .inl (G.2.1, 31, .inl wr)), ((a 12), .inl (G.2.1, 3, .inl wc)), ((a 13), .inl (G.2.1, 3, .inl wk))] := hD
    refine lv_aload_n hx hb dX4_turnOver_15 rfl (lv_at hl 0 rfl) ?_
    refine va_get (D := G.1) (ci := 3) (v := .ref (a 4)) (C := RX4) (T := TX4) (N := 11) hx hb hts hX4 hown hK.1 hP 0 rfl rfl 5 (by decide) (hts _ tw_88) (fun _ h9 => h9) rfl dX4_turnOver_16 ?_
    obtain ⟨r4, e5, hf⟩ := g_bdS hf
    refine g_contR (st1 := [.int r4]) (g_runVR (As := []) (rest := []) ⟨hx, hb, hml, hown, hts⟩ (qX3_rows l G (a 4) (a 5) (a 6) e5) (cwV 0 hts (TB_V TB_id tw_408 tw_244 tw_245 tw_7 tw_246) rfl rfl rfl (by decide +kernel) ⟨Nat.le_of_ble_eq_true rfl, Nat.le_of_ble_eq_true rfl⟩) hK (hP.sub [4, 5, 6] rfl) 0 rfl rfl rfl hl.1 rfl (Nat.le_of_ble_eq_true rfl) dX4_turnOver_19) rfl ?_
    cases hf
    exact g_iretC hx hb hr hlocks hP hD hS dX4_turnOver_22
  · have hf := g_ifT c3 hf
    refine lv_ldc (v := (-1000002 : Int32)) hx hb hown (hts _ tw_367) dX4_turnOver_7 ?_
    cases hf
    exact g_iretC hx hb hr hlocks hP hD hS dX4_turnOver_9
-- TwoShapes$Table.turnBack()I
abbrev rmX4_turnBack : Room := { frames := 1, cells := 0, slots := 0, locals := 21 }
def fX4_turnBack (ph : Int32) (la : Int32) (po : Int32) (lo : Int32) (ov : Nat → Int32) (orr : Nat → Int32) (nv : Nat → Int32) (nr : Nat → Int32) (ql : Int32) (qk : Nat → Int32) (qv : Nat → Int32) (qr : Nat → Int32) (wr : Nat → Int32) (wa : Int32) (wc : Nat → Int32) (wk : Nat → Int32) : Option (Int32 × Int32 × Int32 × Int32 × Int32 × (Nat → Int32) × (Nat → Int32) × (Nat → Int32) × (Nat → Int32) × Int32 × (Nat → Int32) × (Nat → Int32) × (Nat → Int32) × (Nat → Int32) × Int32 × (Nat → Int32) × (Nat → Int32)) := ((fX4_hasBoth ph la po lo ov orr nv nr ql qk qv qr wr wa wc wk).bind fun r1 => (if r1 = (0 : Int32) then some ((-1000002 : Int32), ph, la, po, lo, ov, orr, nv, nr, ql, qk, qv, qr, wr, wa, wc, wk) else (if ql = (0 : Int32) then (if ph = (2 : Int32) then some ((1 : Int32), (1 : Int32), la, (31 : Int32), lo, ov, orr, nv, nr, ql, qk, qv, qr, wr, wa, wc, wk) else ((fX3_clear 1 nv nr).bind fun r6 => some ((0 : Int32), (0 : Int32), la, po, lo, ov, orr, r6.1, r6.2, ql, qk, qv, qr, wr, wa, wc, wk))) else some ((-1000002 : Int32), ph, la, po, lo, ov, orr, nv, nr, ql, qk, qv, qr, wr, wa, wc, wk))))
set_option maxHeartbeats 4000000 in
set_option maxRecDepth 100000 in
theorem qX4_turnBack (l : Launch) (G : gT) (a : Nat → Nat) {ph : Int32} {la : Int32} {po : Int32} {lo : Int32} {ov : Nat → Int32} {orr : Nat → Int32} {nv : Nat → Int32} {nr : Nat → Int32} {ql : Int32} {qk : Nat → Int32} {qv : Nat → Int32} {qr : Nat → Int32} {wr : Nat → Int32} {wa : Int32} {wc : Nat → Int32} {wk : Nat → Int32} {u : Int32 × Int32 × Int32 × Int32 × Int32 × (Nat → Int32) × (Nat → Int32) × (Nat → Int32) × (Nat → Int32) × Int32 × (Nat → Int32) × (Nat → Int32) × (Nat → Int32) × (Nat → Int32) × Int32 × (Nat → Int32) × (Nat → Int32)} (hf : fX4_turnBack ph la po lo ov orr nv nr ql qk qv qr wr wa wc wk = some u) : gC l G yX4_turnBack wsX4_turnBack rmX4_turnBack [.ref (a 0)] (tabW G a ph la po lo ov orr nv nr ql qk qv qr wr wa wc wk) (some (.int u.1)) (tabW G a u.2.1 u.2.2.1 u.2.2.2.1 u.2.2.2.2.1 u.2.2.2.2.2.1 u.2.2.2.2.2.2.1 u.2.2.2.2.2.2.2.1 u.2.2.2.2.2.2.2.2.1 u.2.2.2.2.2.2.2.2.2.1 u.2.2.2.2.2.2.2.2.2.2.1 u.2.2.2.2.2.2.2.2.2.2.2.1 u.2.2.2.2.2.2.2.2.2.2.2.2.1 u.2.2.2.2.2.2.2.2.2.2.2.2.2.1 u.2.2.2.2.2.2.2.2.2.2.2.2.2.2.1 u.2.2.2.2.2.2.2.2.2.2.2.2.2.2.2.1 u.2.2.2.2.2.2.2.2.2.2.2.2.2.2.2.2) := by
  refine gC.of (cc := cX4_turnBack) (maxL := 1) (ret := (some .int)) (by decide) rfl (Nat.le_of_ble_eq_true rfl) ?_
  intro p e s m below meth c C0 hP hD hS ls hl
  obtain ⟨hx, hb, hr, hts, hown, hlocks, hml, hK⟩ := id C0
  have hl : lv_has ls 1 [(0, .ref (a 0))] := hl
  have hA : ∀ q : Nat, s.heap.size ≤ q → va_A (tabW G a ph la po lo ov orr nv nr ql qk qv qr wr wa wc wk) s.heap.size q := fun q h => Or.inr h
  have hP : va_P G.1 vwCl [((a 0), .inr (3, [.int ph, .int la, .int po, .int lo, .ref (a 1), .ref (a 4), .ref (a 7), .ref (a 11), .int wa, .ref (a 12), .ref (a 13)])), ((a 1), .inr (2, [.int 0, .ref (a 2), .ref (a 3)])), ((a 2), .inl (G.2.1, 31, .inl ov)), ((a 3), .inl (G.2.1, 31, .inl orr)), ((a 4), .inr (2, [.int 1, .ref (a 5), .ref (a 6)])), ((a 5), .inl (G.2.1, 31, .inl nv)), ((a 6), .inl (G.2.1, 31, .inl nr)), ((a 7), .inr (1, [.int ql, .ref (a 8), .ref (a 9), .ref (a 10)])), ((a 8), .inl (G.2.1, 8, .inl qk)), ((a 9), .inl (G.2.1, 8, .inl qv)), ((a 10), .inl (G.2.1, 8, .inl qr)), ((a 11), .inl (G.2.1, 31, .inl wr)), ((a 12), .inl (G.2.1, 3, .inl wc)), ((a 13), .inl (G.2.1, 3, .inl wk))] s.heap := hP
  have hD : va_D (va_A (tabW G a ph la po lo ov orr nv nr ql qk qv qr wr wa wc wk) s.heap.size) [((a 0), .inr (3, [.int ph, .int la, .int po, .int lo, .ref (a 1), .ref (a 4), .ref (a 7), .ref (a 11), .int wa, .ref (a 12), .ref (a 13)])), ((a 1), .inr (2, [.int 0, .ref (a 2), .ref (a 3)])), ((a 2), .inl (G.2.1, 31, .inl ov)), ((a 3), .inl (G.2.1, 31, .inl orr)), ((a 4), .inr (2, [.int 1, .ref (a 5), .ref (a 6)])), ((a 5), .inl (G.2.1, 31, .inl nv)), ((a 6), .inl (G.2.1, 31, .inl nr)), ((a 7), .inr (1, [.int ql, .ref (a 8), .ref (a 9), .ref (a 10)])), ((a 8), .inl (G.2.1, 8, .inl qk)), ((a 9), .inl (G.2.1, 8, .inl qv)), ((a 10), .inl (G.2.1, 8, .inl qr)), ((a 11), .inl (G.2.1, 31, .inl wr)), ((a 12), .inl (G.2.1, 3, .inl wc)), ((a 13), .inl (G.2.1, 3, .inl wk))] := hD
  unfold fX4_turnBack at hf
  refine lv_aload_n hx hb dX4_turnBack_0 rfl (lv_at hl 0 rfl) ?_
  obtain ⟨r1, e2, hf⟩ := g_bdS hf
  refine g_contR (st1 := [.int r1]) (g_runVR (As := []) (rest := []) ⟨hx, hb, hml, hown, hts⟩ (qX4_hasBoth l G a e2) (cwV 0 hts (TB_V TB_id tw_329 tw_285 tw_286 tw_6 tw_287) rfl rfl rfl (by decide +kernel) ⟨Nat.le_of_ble_eq_true rfl, Nat.le_of_ble_eq_true rfl⟩) hK (hP.sub [0, 1, 2, 3, 4, 5, 6, 7, 8, 9, 10, 11, 12, 13] rfl) 0 rfl rfl rfl hl.1 rfl (Nat.le_of_ble_eq_true rfl) dX4_turnBack_1) rfl ?_
  refine lv_if_eq (tgt := 17) hx hb dX4_turnBack_4 (by decide) (fun c3 => ?_) (fun c3 => ?_)
  · have hf := g_ifT c3 hf
    refine lv_ldc (v := (-1000002 : Int32)) hx hb hown (hts _ tw_367) dX4_turnBack_17 ?_
    cases hf
    exact g_iretC hx hb hr hlocks hP hD hS dX4_turnBack_19
  · have hf := g_ifF c3 hf
    refine lv_aload_n hx hb dX4_turnBack_7 rfl (lv_at hl 0 rfl) ?_
    refine va_get (D := G.1) (ci := 3) (v := .ref (a 7)) (C := RX4) (T := TX4) (N := 11) hx hb hts hX4 hown hK.1 hP 0 rfl rfl 6 (by decide) (hts _ tw_90) (fun _ h9 => h9) rfl dX4_turnBack_8 ?_
    refine va_get (D := G.1) (ci := 1) (v := .int ql) (C := RX1) (T := TX1) (N := 4) hx hb hts hX1 hown hK.1 hP 7 rfl rfl 0 (by decide) (hts _ tw_61) (fun _ h9 => h9) rfl dX4_turnBack_11 ?_
    refine lv_if_eq (tgt := 20) hx hb dX4_turnBack_14 (by decide) (fun c4 => ?_) (fun c4 => ?_)
    · have hf := g_ifT c4 hf
      refine lv_aload_n hx hb dX4_turnBack_20 rfl (lv_at hl 0 rfl) ?_
      refine va_get (D := G.1) (ci := 3) (v := .int ph) (C := RX4) (T := TX4) (N := 11) hx hb hts hX4 hown hK.1 hP 0 rfl rfl 0 (by decide) (hts _ tw_78) (fun _ h9 => h9) rfl dX4_turnBack_21 ?_
      refine lv_iconst (v := (2 : Int32)) hx hb dX4_turnBack_24 (by decide) ?_
      refine lv_icmp_ne (tgt := 42) hx hb dX4_turnBack_25 (by decide) (fun c5 => ?_) (fun c5 => ?_)
      · have hf := g_ifF c5 hf
        refine lv_aload_n hx hb dX4_turnBack_42 rfl (lv_at hl 0 rfl) ?_
        refine lv_iconst (v := (0 : Int32)) hx hb dX4_turnBack_43 (by decide) ?_
        refine va_put (D := G.1) (ci := 3) (v := .int (0 : Int32)) (ty := .int) (C := RX4) (T := TX4) (N := 11) hx hb hts hX4 tyX4 tyX4_ok nmX4 hown hK.1 hP hD hS 0 rfl rfl 0 (by decide) (hts _ tw_78) (fun _ h9 => h9) rfl (by decide +kernel) rfl rfl (Nat.le_of_ble_eq_true rfl) dX4_turnBack_44 (fun H locs hP hD hS => ?_)
        have hP : va_P G.1 vwCl [((a 0), .inr (3, [.int (0 : Int32), .int la, .int po, .int lo, .ref (a 1), .ref (a 4), .ref (a 7), .ref (a 11), .int wa, .ref (a 12), .ref (a 13)])), ((a 1), .inr (2, [.int 0, .ref (a 2), .ref (a 3)])), ((a 2), .inl (G.2.1, 31, .inl ov)), ((a 3), .inl (G.2.1, 31, .inl orr)), ((a 4), .inr (2, [.int 1, .ref (a 5), .ref (a 6)])), ((a 5), .inl (G.2.1, 31, .inl nv)), ((a 6), .inl (G.2.1, 31, .inl nr)), ((a 7), .inr (1, [.int ql, .ref (a 8), .ref (a 9), .ref (a 10)])), ((a 8), .inl (G.2.1, 8, .inl qk)), ((a 9), .inl (G.2.1, 8, .inl qv)), ((a 10), .inl (G.2.1, 8, .inl qr)), ((a 11), .inl (G.2.1, 31, .inl wr)), ((a 12), .inl (G.2.1, 3, .inl wc)), ((a 13), .inl (G.2.1, 3, .inl wk))] H := hP
        have hD : va_D (va_A (tabW G a ph la po lo ov orr nv nr ql qk qv qr wr wa wc wk) s.heap.size) [((a 0), .inr (3, [.int (0 : Int32), .int la, .int po, .int lo, .ref (a 1), .ref (a 4), .ref (a 7), .ref (a 11), .int wa, .ref (a 12), .ref (a 13)])), ((a 1), .inr (2, [.int 0, .ref (a 2), .ref (a 3)])), ((a 2), .inl (G.2.1, 31, .inl ov)), ((a 3), .inl (G.2.1, 31, .inl orr)), ((a 4), .inr (2, [.int 1, .ref (a 5), .ref (a 6)])), ((a 5), .inl (G.2.1, 31, .inl nv)), ((a 6), .inl (G.2.1, 31, .inl nr)), ((a 7), .inr (1, [.int ql, .ref (a 8), .ref (a 9), .ref (a 10)])), ((a 8), .inl (G.2.1, 8, .inl qk)), ((a 9), .inl (G.2.1, 8, .inl qv)), ((a 10), .inl (G.2.1, 8, .inl qr)), ((a 11), .inl (G.2.1, 31, .inl wr)), ((a 12), .inl (G.2.1, 3, .inl wc)), ((a 13), .inl (G.2.1, 3, .inl wk))] := hD
        refine lv_aload_n hx hb dX4_turnBack_47 rfl (lv_at hl 0 rfl) ?_
        refine va_get (D := G.1) (ci := 3) (v := .ref (a 4)) (C := RX4) (T := TX4) (N := 11) hx hb hts hX4 hown hK.1 hP 0 rfl rfl 5 (by decide) (hts _ tw_88) (fun _ h9 => h9) rfl dX4_turnBack_48 ?_
        obtain ⟨r6, e7, hf⟩ := g_bdS hf
        refine g_contC (st1 := []) (g_runVC (As := []) (rest := []) ⟨hx, hb, hml, hown, hts⟩ (qX3_clear l G (a 4) (a 5) (a 6) e7) (cwV 0 hts (TB_V TB_id tw_426 tw_36 tw_37 tw_7 tw_38) rfl rfl rfl (by decide +kernel) ⟨Nat.le_of_ble_eq_true rfl, Nat.le_of_ble_eq_true rfl⟩) hK (hP.sub [4, 5, 6] rfl) (hD.sub [4, 5, 6] (by decide) rfl) 0 rfl rfl rfl hl.1 rfl (Nat.le_of_ble_eq_true rfl) dX4_turnBack_51) rfl hP hD hS hA [4, 5, 6] rfl rfl (fun H locs hP hD hS => ?_)
        have hP : va_P G.1 vwCl [((a 0), .inr (3, [.int (0 : Int32), .int la, .int po, .int lo, .ref (a 1), .ref (a 4), .ref (a 7), .ref (a 11), .int wa, .ref (a 12), .ref (a 13)])), ((a 1), .inr (2, [.int 0, .ref (a 2), .ref (a 3)])), ((a 2), .inl (G.2.1, 31, .inl ov)), ((a 3), .inl (G.2.1, 31, .inl orr)), ((a 4), .inr (2, [.int 1, .ref (a 5), .ref (a 6)])), ((a 5), .inl (G.2.1, 31, .inl r6.1)), ((a 6), .inl (G.2.1, 31, .inl r6.2)), ((a 7), .inr (1, [.int ql, .ref (a 8), .ref (a 9), .ref (a 10)])), ((a 8), .inl (G.2.1, 8, .inl qk)), ((a 9), .inl (G.2.1, 8, .inl qv)), ((a 10), .inl (G.2.1, 8, .inl qr)), ((a 11), .inl (G.2.1, 31, .inl wr)), ((a 12), .inl (G.2.1, 3, .inl wc)), ((a 13), .inl (G.2.1, 3, .inl wk))] H := hP
        have hD : va_D (va_A (tabW G a ph la po lo ov orr nv nr ql qk qv qr wr wa wc wk) s.heap.size) [((a 0), .inr (3, [.int (0 : Int32), .int la, .int po, .int lo, .ref (a 1), .ref (a 4), .ref (a 7), .ref (a 11), .int wa, .ref (a 12), .ref (a 13)])), ((a 1), .inr (2, [.int 0, .ref (a 2), .ref (a 3)])), ((a 2), .inl (G.2.1, 31, .inl ov)), ((a 3), .inl (G.2.1, 31, .inl orr)), ((a 4), .inr (2, [.int 1, .ref (a 5), .ref (a 6)])), ((a 5), .inl (G.2.1, 31, .inl r6.1)), ((a 6), .inl (G.2.1, 31, .inl r6.2)), ((a 7), .inr (1, [.int ql, .ref (a 8), .ref (a 9), .ref (a 10)])), ((a 8), .inl (G.2.1, 8, .inl qk)), ((a 9), .inl (G.2.1, 8, .inl qv)), ((a 10), .inl (G.2.1, 8, .inl qr)), ((a 11), .inl (G.2.1, 31, .inl wr)), ((a 12), .inl (G.2.1, 3, .inl wc)), ((a 13), .inl (G.2.1, 3, .inl wk))] := hD
        refine lv_aload_n hx hb dX4_turnBack_54 rfl (lv_at hl 0 rfl) ?_
        refine va_get (D := G.1) (ci := 3) (v := .int (0 : Int32)) (C := RX4) (T := TX4) (N := 11) hx hb hts hX4 hown hK.1 hP 0 rfl rfl 0 (by decide) (hts _ tw_78) (fun _ h9 => h9) rfl dX4_turnBack_55 ?_
        cases hf
        exact g_iretC hx hb hr hlocks hP hD hS dX4_turnBack_58
      · have hf := g_ifT c5 hf
        refine lv_aload_n hx hb dX4_turnBack_28 rfl (lv_at hl 0 rfl) ?_
        refine lv_iconst (v := (1 : Int32)) hx hb dX4_turnBack_29 (by decide) ?_
        refine va_put (D := G.1) (ci := 3) (v := .int (1 : Int32)) (ty := .int) (C := RX4) (T := TX4) (N := 11) hx hb hts hX4 tyX4 tyX4_ok nmX4 hown hK.1 hP hD hS 0 rfl rfl 0 (by decide) (hts _ tw_78) (fun _ h9 => h9) rfl (by decide +kernel) rfl rfl (Nat.le_of_ble_eq_true rfl) dX4_turnBack_30 (fun H locs hP hD hS => ?_)
        have hP : va_P G.1 vwCl [((a 0), .inr (3, [.int (1 : Int32), .int la, .int po, .int lo, .ref (a 1), .ref (a 4), .ref (a 7), .ref (a 11), .int wa, .ref (a 12), .ref (a 13)])), ((a 1), .inr (2, [.int 0, .ref (a 2), .ref (a 3)])), ((a 2), .inl (G.2.1, 31, .inl ov)), ((a 3), .inl (G.2.1, 31, .inl orr)), ((a 4), .inr (2, [.int 1, .ref (a 5), .ref (a 6)])), ((a 5), .inl (G.2.1, 31, .inl nv)), ((a 6), .inl (G.2.1, 31, .inl nr)), ((a 7), .inr (1, [.int ql, .ref (a 8), .ref (a 9), .ref (a 10)])), ((a 8), .inl (G.2.1, 8, .inl qk)), ((a 9), .inl (G.2.1, 8, .inl qv)), ((a 10), .inl (G.2.1, 8, .inl qr)), ((a 11), .inl (G.2.1, 31, .inl wr)), ((a 12), .inl (G.2.1, 3, .inl wc)), ((a 13), .inl (G.2.1, 3, .inl wk))] H := hP
        have hD : va_D (va_A (tabW G a ph la po lo ov orr nv nr ql qk qv qr wr wa wc wk) s.heap.size) [((a 0), .inr (3, [.int (1 : Int32), .int la, .int po, .int lo, .ref (a 1), .ref (a 4), .ref (a 7), .ref (a 11), .int wa, .ref (a 12), .ref (a 13)])), ((a 1), .inr (2, [.int 0, .ref (a 2), .ref (a 3)])), ((a 2), .inl (G.2.1, 31, .inl ov)), ((a 3), .inl (G.2.1, 31, .inl orr)), ((a 4), .inr (2, [.int 1, .ref (a 5), .ref (a 6)])), ((a 5), .inl (G.2.1, 31, .inl nv)), ((a 6), .inl (G.2.1, 31, .inl nr)), ((a 7), .inr (1, [.int ql, .ref (a 8), .ref (a 9), .ref (a 10)])), ((a 8), .inl (G.2.1, 8, .inl qk)), ((a 9), .inl (G.2.1, 8, .inl qv)), ((a 10), .inl (G.2.1, 8, .inl qr)), ((a 11), .inl (G.2.1, 31, .inl wr)), ((a 12), .inl (G.2.1, 3, .inl wc)), ((a 13), .inl (G.2.1, 3, .inl wk))] := hD
        refine lv_aload_n hx hb dX4_turnBack_33 rfl (lv_at hl 0 rfl) ?_
        refine lv_bipush (v := (31 : Int32)) hx hb dX4_turnBack_34 (by decide) ?_
        refine va_put (D := G.1) (ci := 3) (v := .int (31 : Int32)) (ty := .int) (C := RX4) (T := TX4) (N := 11) hx hb hts hX4 tyX4 tyX4_ok nmX4 hown hK.1 hP hD hS 0 rfl rfl 2 (by decide) (hts _ tw_82) (fun _ h9 => h9) rfl (by decide +kernel) rfl rfl (Nat.le_of_ble_eq_true rfl) dX4_turnBack_36 (fun H locs hP hD hS => ?_)
        have hP : va_P G.1 vwCl [((a 0), .inr (3, [.int (1 : Int32), .int la, .int (31 : Int32), .int lo, .ref (a 1), .ref (a 4), .ref (a 7), .ref (a 11), .int wa, .ref (a 12), .ref (a 13)])), ((a 1), .inr (2, [.int 0, .ref (a 2), .ref (a 3)])), ((a 2), .inl (G.2.1, 31, .inl ov)), ((a 3), .inl (G.2.1, 31, .inl orr)), ((a 4), .inr (2, [.int 1, .ref (a 5), .ref (a 6)])), ((a 5), .inl (G.2.1, 31, .inl nv)), ((a 6), .inl (G.2.1, 31, .inl nr)), ((a 7), .inr (1, [.int ql, .ref (a 8), .ref (a 9), .ref (a 10)])), ((a 8), .inl (G.2.1, 8, .inl qk)), ((a 9), .inl (G.2.1, 8, .inl qv)), ((a 10), .inl (G.2.1, 8, .inl qr)), ((a 11), .inl (G.2.1, 31, .inl wr)), ((a 12), .inl (G.2.1, 3, .inl wc)), ((a 13), .inl (G.2.1, 3, .inl wk))] H := hP
        have hD : va_D (va_A (tabW G a ph la po lo ov orr nv nr ql qk qv qr wr wa wc wk) s.heap.size) [((a 0), .inr (3, [.int (1 : Int32), .int la, .int (31 : Int32), .int lo, .ref (a 1), .ref (a 4), .ref (a 7), .ref (a 11), .int wa, .ref (a 12), .ref (a 13)])), ((a 1), .inr (2, [.int 0, .ref (a 2), .ref (a 3)])), ((a 2), .inl (G.2.1, 31, .inl ov)), ((a 3), .inl (G.2.1, 31, .inl orr)), ((a 4), .inr (2, [.int 1, .ref (a 5), .ref (a 6)])), ((a 5), .inl (G.2.1, 31, .inl nv)), ((a 6), .inl (G.2.1, 31, .inl nr)), ((a 7), .inr (1, [.int ql, .ref (a 8), .ref (a 9), .ref (a 10)])), ((a 8), .inl (G.2.1, 8, .inl qk)), ((a 9), .inl (G.2.1, 8, .inl qv)), ((a 10), .inl (G.2.1, 8, .inl qr)), ((a 11), .inl (G.2.1, 31, .inl wr)), ((a 12), .inl (G.2.1, 3, .inl wc)), ((a 13), .inl (G.2.1, 3, .inl wk))] := hD
        refine lv_goto (tgt := 54) hx hb dX4_turnBack_39 (by decide) ?_
        refine lv_aload_n hx hb dX4_turnBack_54 rfl (lv_at hl 0 rfl) ?_
        refine va_get (D := G.1) (ci := 3) (v := .int (1 : Int32)) (C := RX4) (T := TX4) (N := 11) hx hb hts hX4 hown hK.1 hP 0 rfl rfl 0 (by decide) (hts _ tw_78) (fun _ h9 => h9) rfl dX4_turnBack_55 ?_
        cases hf
        exact g_iretC hx hb hr hlocks hP hD hS dX4_turnBack_58
    · have hf := g_ifF c4 hf
      refine lv_ldc (v := (-1000002 : Int32)) hx hb hown (hts _ tw_367) dX4_turnBack_17 ?_
      cases hf
      exact g_iretC hx hb hr hlocks hP hD hS dX4_turnBack_19
-- TwoShapes$Table.dropOld()I
abbrev rmX4_dropOld : Room := { frames := 2, cells := 0, slots := 0, locals := 45 }
def fX4_dropOld (ph : Int32) (la : Int32) (po : Int32) (lo : Int32) (ov : Nat → Int32) (orr : Nat → Int32) (nv : Nat → Int32) (nr : Nat → Int32) (ql : Int32) (qk : Nat → Int32) (qv : Nat → Int32) (qr : Nat → Int32) (wr : Nat → Int32) (wa : Int32) (wc : Nat → Int32) (wk : Nat → Int32) : Option (Int32 × Int32 × Int32 × Int32 × Int32 × (Nat → Int32) × (Nat → Int32) × (Nat → Int32) × (Nat → Int32) × Int32 × (Nat → Int32) × (Nat → Int32) × (Nat → Int32) × (Nat → Int32) × Int32 × (Nat → Int32) × (Nat → Int32)) := (if ph = (2 : Int32) then (if ql = (0 : Int32) then ((fX4_differing ph la po lo ov orr nv nr ql qk qv qr wr wa wc wk).bind fun r3 => (if r3 = (0 : Int32) then ((fX3_clear 0 ov orr).bind fun r6 => ((fX3_strangeRows 1 nv nr).bind fun r8 => some (r8, (3 : Int32), la, po, lo, r6.1, r6.2, nv, nr, ql, qk, qv, qr, wr, wa, wc, wk))) else some ((-1000002 : Int32), ph, la, po, lo, ov, orr, nv, nr, ql, qk, qv, qr, wr, wa, wc, wk))) else some ((-1000002 : Int32), ph, la, po, lo, ov, orr, nv, nr, ql, qk, qv, qr, wr, wa, wc, wk)) else some ((-1000002 : Int32), ph, la, po, lo, ov, orr, nv, nr, ql, qk, qv, qr, wr, wa, wc, wk))
set_option maxHeartbeats 4000000 in
set_option maxRecDepth 100000 in
theorem qX4_dropOld (l : Launch) (G : gT) (a : Nat → Nat) {ph : Int32} {la : Int32} {po : Int32} {lo : Int32} {ov : Nat → Int32} {orr : Nat → Int32} {nv : Nat → Int32} {nr : Nat → Int32} {ql : Int32} {qk : Nat → Int32} {qv : Nat → Int32} {qr : Nat → Int32} {wr : Nat → Int32} {wa : Int32} {wc : Nat → Int32} {wk : Nat → Int32} {u : Int32 × Int32 × Int32 × Int32 × Int32 × (Nat → Int32) × (Nat → Int32) × (Nat → Int32) × (Nat → Int32) × Int32 × (Nat → Int32) × (Nat → Int32) × (Nat → Int32) × (Nat → Int32) × Int32 × (Nat → Int32) × (Nat → Int32)} (hf : fX4_dropOld ph la po lo ov orr nv nr ql qk qv qr wr wa wc wk = some u) : gC l G yX4_dropOld wsX4_dropOld rmX4_dropOld [.ref (a 0)] (tabW G a ph la po lo ov orr nv nr ql qk qv qr wr wa wc wk) (some (.int u.1)) (tabW G a u.2.1 u.2.2.1 u.2.2.2.1 u.2.2.2.2.1 u.2.2.2.2.2.1 u.2.2.2.2.2.2.1 u.2.2.2.2.2.2.2.1 u.2.2.2.2.2.2.2.2.1 u.2.2.2.2.2.2.2.2.2.1 u.2.2.2.2.2.2.2.2.2.2.1 u.2.2.2.2.2.2.2.2.2.2.2.1 u.2.2.2.2.2.2.2.2.2.2.2.2.1 u.2.2.2.2.2.2.2.2.2.2.2.2.2.1 u.2.2.2.2.2.2.2.2.2.2.2.2.2.2.1 u.2.2.2.2.2.2.2.2.2.2.2.2.2.2.2.1 u.2.2.2.2.2.2.2.2.2.2.2.2.2.2.2.2) := by
  refine gC.of (cc := cX4_dropOld) (maxL := 1) (ret := (some .int)) (by decide) rfl (Nat.le_of_ble_eq_true rfl) ?_
  intro p e s m below meth c C0 hP hD hS ls hl
  obtain ⟨hx, hb, hr, hts, hown, hlocks, hml, hK⟩ := id C0
  have hl : lv_has ls 1 [(0, .ref (a 0))] := hl
  have hA : ∀ q : Nat, s.heap.size ≤ q → va_A (tabW G a ph la po lo ov orr nv nr ql qk qv qr wr wa wc wk) s.heap.size q := fun q h => Or.inr h
  have hP : va_P G.1 vwCl [((a 0), .inr (3, [.int ph, .int la, .int po, .int lo, .ref (a 1), .ref (a 4), .ref (a 7), .ref (a 11), .int wa, .ref (a 12), .ref (a 13)])), ((a 1), .inr (2, [.int 0, .ref (a 2), .ref (a 3)])), ((a 2), .inl (G.2.1, 31, .inl ov)), ((a 3), .inl (G.2.1, 31, .inl orr)), ((a 4), .inr (2, [.int 1, .ref (a 5), .ref (a 6)])), ((a 5), .inl (G.2.1, 31, .inl nv)), ((a 6), .inl (G.2.1, 31, .inl nr)), ((a 7), .inr (1, [.int ql, .ref (a 8), .ref (a 9), .ref (a 10)])), ((a 8), .inl (G.2.1, 8, .inl qk)), ((a 9), .inl (G.2.1, 8, .inl qv)), ((a 10), .inl (G.2.1, 8, .inl qr)), ((a 11), .inl (G.2.1, 31, .inl wr)), ((a 12), .inl (G.2.1, 3, .inl wc)), ((a 13), .inl (G.2.1, 3, .inl wk))] s.heap := hP
  have hD : va_D (va_A (tabW G a ph la po lo ov orr nv nr ql qk qv qr wr wa wc wk) s.heap.size) [((a 0), .inr (3, [.int ph, .int la, .int po, .int lo, .ref (a 1), .ref (a 4), .ref (a 7), .ref (a 11), .int wa, .ref (a 12), .ref (a 13)])), ((a 1), .inr (2, [.int 0, .ref (a 2), .ref (a 3)])), ((a 2), .inl (G.2.1, 31, .inl ov)), ((a 3), .inl (G.2.1, 31, .inl orr)), ((a 4), .inr (2, [.int 1, .ref (a 5), .ref (a 6)])), ((a 5), .inl (G.2.1, 31, .inl nv)), ((a 6), .inl (G.2.1, 31, .inl nr)), ((a 7), .inr (1, [.int ql, .ref (a 8), .ref (a 9), .ref (a 10)])), ((a 8), .inl (G.2.1, 8, .inl qk)), ((a 9), .inl (G.2.1, 8, .inl qv)), ((a 10), .inl (G.2.1, 8, .inl qr)), ((a 11), .inl (G.2.1, 31, .inl wr)), ((a 12), .inl (G.2.1, 3, .inl wc)), ((a 13), .inl (G.2.1, 3, .inl wk))] := hD
  unfold fX4_dropOld at hf
  refine lv_aload_n hx hb dX4_dropOld_0 rfl (lv_at hl 0 rfl) ?_
  refine va_get (D := G.1) (ci := 3) (v := .int ph) (C := RX4) (T := TX4) (N := 11) hx hb hts hX4 hown hK.1 hP 0 rfl rfl 0 (by decide) (hts _ tw_78) (fun _ h9 => h9) rfl dX4_dropOld_1 ?_
  refine lv_iconst (v := (2 : Int32)) hx hb dX4_dropOld_4 (by decide) ?_
  refine lv_icmp_ne (tgt := 25) hx hb dX4_dropOld_5 (by decide) (fun c1 => ?_) (fun c1 => ?_)
  · have hf := g_ifF c1 hf
    refine lv_ldc (v := (-1000002 : Int32)) hx hb hown (hts _ tw_367) dX4_dropOld_25 ?_
    cases hf
    exact g_iretC hx hb hr hlocks hP hD hS dX4_dropOld_27
  · have hf := g_ifT c1 hf
    refine lv_aload_n hx hb dX4_dropOld_8 rfl (lv_at hl 0 rfl) ?_
    refine va_get (D := G.1) (ci := 3) (v := .ref (a 7)) (C := RX4) (T := TX4) (N := 11) hx hb hts hX4 hown hK.1 hP 0 rfl rfl 6 (by decide) (hts _ tw_90) (fun _ h9 => h9) rfl dX4_dropOld_9 ?_
    refine va_get (D := G.1) (ci := 1) (v := .int ql) (C := RX1) (T := TX1) (N := 4) hx hb hts hX1 hown hK.1 hP 7 rfl rfl 0 (by decide) (hts _ tw_61) (fun _ h9 => h9) rfl dX4_dropOld_12 ?_
    refine lv_if_ne (tgt := 25) hx hb dX4_dropOld_15 (by decide) (fun c2 => ?_) (fun c2 => ?_)
    · have hf := g_ifF c2 hf
      refine lv_ldc (v := (-1000002 : Int32)) hx hb hown (hts _ tw_367) dX4_dropOld_25 ?_
      cases hf
      exact g_iretC hx hb hr hlocks hP hD hS dX4_dropOld_27
    · have hf := g_ifT c2 hf
      refine lv_aload_n hx hb dX4_dropOld_18 rfl (lv_at hl 0 rfl) ?_
      obtain ⟨r3, e4, hf⟩ := g_bdS hf
      refine g_contR (st1 := [.int r3]) (g_runVR (As := []) (rest := []) ⟨hx, hb, hml, hown, hts⟩ (qX4_differing l G a e4) (cwV 0 hts (TB_V TB_id tw_262 tw_263 tw_264 tw_6 tw_265) rfl rfl rfl (by decide +kernel) ⟨Nat.le_of_ble_eq_true rfl, Nat.le_of_ble_eq_true rfl⟩) hK (hP.sub [0, 1, 2, 3, 4, 5, 6, 7, 8, 9, 10, 11, 12, 13] rfl) 0 rfl rfl rfl hl.1 rfl (Nat.le_of_ble_eq_true rfl) dX4_dropOld_19) rfl ?_
      refine lv_if_eq (tgt := 28) hx hb dX4_dropOld_22 (by decide) (fun c5 => ?_) (fun c5 => ?_)
      · have hf := g_ifT c5 hf
        refine lv_aload_n hx hb dX4_dropOld_28 rfl (lv_at hl 0 rfl) ?_
        refine lv_iconst (v := (3 : Int32)) hx hb dX4_dropOld_29 (by decide) ?_
        refine va_put (D := G.1) (ci := 3) (v := .int (3 : Int32)) (ty := .int) (C := RX4) (T := TX4) (N := 11) hx hb hts hX4 tyX4 tyX4_ok nmX4 hown hK.1 hP hD hS 0 rfl rfl 0 (by decide) (hts _ tw_78) (fun _ h9 => h9) rfl (by decide +kernel) rfl rfl (Nat.le_of_ble_eq_true rfl) dX4_dropOld_30 (fun H locs hP hD hS => ?_)
        have hP : va_P G.1 vwCl [((a 0), .inr (3, [.int (3 : Int32), .int la, .int po, .int lo, .ref (a 1), .ref (a 4), .ref (a 7), .ref (a 11), .int wa, .ref (a 12), .ref (a 13)])), ((a 1), .inr (2, [.int 0, .ref (a 2), .ref (a 3)])), ((a 2), .inl (G.2.1, 31, .inl ov)), ((a 3), .inl (G.2.1, 31, .inl orr)), ((a 4), .inr (2, [.int 1, .ref (a 5), .ref (a 6)])), ((a 5), .inl (G.2.1, 31, .inl nv)), ((a 6), .inl (G.2.1, 31, .inl nr)), ((a 7), .inr (1, [.int ql, .ref (a 8), .ref (a 9), .ref (a 10)])), ((a 8), .inl (G.2.1, 8, .inl qk)), ((a 9), .inl (G.2.1, 8, .inl qv)), ((a 10), .inl (G.2.1, 8, .inl qr)), ((a 11), .inl (G.2.1, 31, .inl wr)), ((a 12), .inl (G.2.1, 3, .inl wc)), ((a 13), .inl (G.2.1, 3, .inl wk))] H := hP
        have hD : va_D (va_A (tabW G a ph la po lo ov orr nv nr ql qk qv qr wr wa wc wk) s.heap.size) [((a 0), .inr (3, [.int (3 : Int32), .int la, .int po, .int lo, .ref (a 1), .ref (a 4), .ref (a 7), .ref (a 11), .int wa, .ref (a 12), .ref (a 13)])), ((a 1), .inr (2, [.int 0, .ref (a 2), .ref (a 3)])), ((a 2), .inl (G.2.1, 31, .inl ov)), ((a 3), .inl (G.2.1, 31, .inl orr)), ((a 4), .inr (2, [.int 1, .ref (a 5), .ref (a 6)])), ((a 5), .inl (G.2.1, 31, .inl nv)), ((a 6), .inl (G.2.1, 31, .inl nr)), ((a 7), .inr (1, [.int ql, .ref (a 8), .ref (a 9), .ref (a 10)])), ((a 8), .inl (G.2.1, 8, .inl qk)), ((a 9), .inl (G.2.1, 8, .inl qv)), ((a 10), .inl (G.2.1, 8, .inl qr)), ((a 11), .inl (G.2.1, 31, .inl wr)), ((a 12), .inl (G.2.1, 3, .inl wc)), ((a 13), .inl (G.2.1, 3, .inl wk))] := hD
        refine lv_aload_n hx hb dX4_dropOld_33 rfl (lv_at hl 0 rfl) ?_
        refine va_get (D := G.1) (ci := 3) (v := .ref (a 1)) (C := RX4) (T := TX4) (N := 11) hx hb hts hX4 hown hK.1 hP 0 rfl rfl 4 (by decide) (hts _ tw_86) (fun _ h9 => h9) rfl dX4_dropOld_34 ?_
        obtain ⟨r6, e7, hf⟩ := g_bdS hf
        refine g_contC (st1 := []) (g_runVC (As := []) (rest := []) ⟨hx, hb, hml, hown, hts⟩ (qX3_clear l G (a 1) (a 2) (a 3) e7) (cwV 0 hts (TB_V TB_id tw_426 tw_36 tw_37 tw_7 tw_38) rfl rfl rfl (by decide +kernel) ⟨Nat.le_of_ble_eq_true rfl, Nat.le_of_ble_eq_true rfl⟩) hK (hP.sub [1, 2, 3] rfl) (hD.sub [1, 2, 3] (by decide) rfl) 0 rfl rfl rfl hl.1 rfl (Nat.le_of_ble_eq_true rfl) dX4_dropOld_37) rfl hP hD hS hA [1, 2, 3] rfl rfl (fun H locs hP hD hS => ?_)
        have hP : va_P G.1 vwCl [((a 0), .inr (3, [.int (3 : Int32), .int la, .int po, .int lo, .ref (a 1), .ref (a 4), .ref (a 7), .ref (a 11), .int wa, .ref (a 12), .ref (a 13)])), ((a 1), .inr (2, [.int 0, .ref (a 2), .ref (a 3)])), ((a 2), .inl (G.2.1, 31, .inl r6.1)), ((a 3), .inl (G.2.1, 31, .inl r6.2)), ((a 4), .inr (2, [.int 1, .ref (a 5), .ref (a 6)])), ((a 5), .inl (G.2.1, 31, .inl nv)), ((a 6), .inl (G.2.1, 31, .inl nr)), ((a 7), .inr (1, [.int ql, .ref (a 8), .ref (a 9), .ref (a 10)])), ((a 8), .inl (G.2.1, 8, .inl qk)), ((a 9), .inl (G.2.1, 8, .inl qv)), ((a 10), .inl (G.2.1, 8, .inl qr)), ((a 11), .inl (G.2.1, 31, .inl wr)), ((a 12), .inl (G.2.1, 3, .inl wc)), ((a 13), .inl (G.2.1, 3, .inl wk))] H := hP
        have hD : va_D (va_A (tabW G a ph la po lo ov orr nv nr ql qk qv qr wr wa wc wk) s.heap.size) [((a 0), .inr (3, [.int (3 : Int32), .int la, .int po, .int lo, .ref (a 1), .ref (a 4), .ref (a 7), .ref (a 11), .int wa, .ref (a 12), .ref (a 13)])), ((a 1), .inr (2, [.int 0, .ref (a 2), .ref (a 3)])), ((a 2), .inl (G.2.1, 31, .inl r6.1)), ((a 3), .inl (G.2.1, 31, .inl r6.2)), ((a 4), .inr (2, [.int 1, .ref (a 5), .ref (a 6)])), ((a 5), .inl (G.2.1, 31, .inl nv)), ((a 6), .inl (G.2.1, 31, .inl nr)), ((a 7), .inr (1, [.int ql, .ref (a 8), .ref (a 9), .ref (a 10)])), ((a 8), .inl (G.2.1, 8, .inl qk)), ((a 9), .inl (G.2.1, 8, .inl qv)), ((a 10), .inl (G.2.1, 8, .inl qr)), ((a 11), .inl (G.2.1, 31, .inl wr)), ((a 12), .inl (G.2.1, 3, .inl wc)), ((a 13), .inl (G.2.1, 3, .inl wk))] := hD
        refine lv_aload_n hx hb dX4_dropOld_40 rfl (lv_at hl 0 rfl) ?_
        refine va_get (D := G.1) (ci := 3) (v := .ref (a 4)) (C := RX4) (T := TX4) (N := 11) hx hb hts hX4 hown hK.1 hP 0 rfl rfl 5 (by decide) (hts _ tw_88) (fun _ h9 => h9) rfl dX4_dropOld_41 ?_
        obtain ⟨r8, e9, hf⟩ := g_bdS hf
        refine g_contR (st1 := [.int r8]) (g_runVR (As := []) (rest := []) ⟨hx, hb, hml, hown, hts⟩ (qX3_strangeRows l G (a 4) (a 5) (a 6) e9) (cwV 0 hts (TB_V TB_id tw_443 tw_248 tw_249 tw_7 tw_250) rfl rfl rfl (by decide +kernel) ⟨Nat.le_of_ble_eq_true rfl, Nat.le_of_ble_eq_true rfl⟩) hK (hP.sub [4, 5, 6] rfl) 0 rfl rfl rfl hl.1 rfl (Nat.le_of_ble_eq_true rfl) dX4_dropOld_44) rfl ?_
        cases hf
        exact g_iretC hx hb hr hlocks hP hD hS dX4_dropOld_47
      · have hf := g_ifF c5 hf
        refine lv_ldc (v := (-1000002 : Int32)) hx hb hown (hts _ tw_367) dX4_dropOld_25 ?_
        cases hf
        exact g_iretC hx hb hr hlocks hP hD hS dX4_dropOld_27
-- TwoShapes$Table.put(II)I
abbrev rmX4_put : Room := { frames := 2, cells := 0, slots := 0, locals := 45 }
def fX4_put_b24 (x1 : Int32) (x2 : Int32) (t0 : Int32) (ph : Int32) (la : Int32) (po : Int32) (lo : Int32) (ov : Nat → Int32) (orr : Nat → Int32) (nv : Nat → Int32) (nr : Nat → Int32) (ql : Int32) (qk : Nat → Int32) (qv : Nat → Int32) (qr : Nat → Int32) (wr : Nat → Int32) (wa : Int32) (wc : Nat → Int32) (wk : Nat → Int32) : Option (Int32 × Int32 × Int32 × Int32 × Int32 × (Nat → Int32) × (Nat → Int32) × (Nat → Int32) × (Nat → Int32) × Int32 × (Nat → Int32) × (Nat → Int32) × (Nat → Int32) × (Nat → Int32) × Int32 × (Nat → Int32) × (Nat → Int32)) := (if t0 = (0 : Int32) then (if la < (100000 : Int32) then g_gd (g_in x1 31) (((fX4_first ph (la + (1 : Int32)) po lo ov orr nv nr ql qk qv qr (upd wr x1.toNatClampNeg (la + (1 : Int32))) wa wc wk).bind fun r7 => ((fX4_shape r7 ph (la + (1 : Int32)) po lo ov orr nv nr ql qk qv qr (upd wr x1.toNatClampNeg (la + (1 : Int32))) wa wc wk).bind fun r9 => (if r9 = 1 then ((fX3_take x1 (la + (1 : Int32)) x2 0 ov orr).bind fun r12 => ((fX4_hasBoth ph (la + (1 : Int32)) po lo r12.1 r12.2 nv nr ql qk qv qr (upd wr x1.toNatClampNeg (la + (1 : Int32))) wa wc wk).bind fun r14 => (if r14 = (0 : Int32) then some ((la + (1 : Int32)), ph, (la + (1 : Int32)), po, lo, r12.1, r12.2, nv, nr, ql, qk, qv, qr, (upd wr x1.toNatClampNeg (la + (1 : Int32))), wa, wc, wk) else ((fX1_append x1 (la + (1 : Int32)) x2 ql qk qv qr).bind fun r17 => some ((la + (1 : Int32)), ph, (la + (1 : Int32)), po, lo, r12.1, r12.2, nv, nr, r17.1, r17.2.1, r17.2.2.1, r17.2.2.2, (upd wr x1.toNatClampNeg (la + (1 : Int32))), wa, wc, wk))))) else (if r9 = 4 then ((fX3_take x1 (la + (1 : Int32)) x2 1 nv nr).bind fun r20 => ((fX4_hasBoth ph (la + (1 : Int32)) po lo ov orr r20.1 r20.2 ql qk qv qr (upd wr x1.toNatClampNeg (la + (1 : Int32))) wa wc wk).bind fun r22 => (if r22 = (0 : Int32) then some ((la + (1 : Int32)), ph, (la + (1 : Int32)), po, lo, ov, orr, r20.1, r20.2, ql, qk, qv, qr, (upd wr x1.toNatClampNeg (la + (1 : Int32))), wa, wc, wk) else ((fX1_append x1 (la + (1 : Int32)) x2 ql qk qv qr).bind fun r25 => some ((la + (1 : Int32)), ph, (la + (1 : Int32)), po, lo, ov, orr, r20.1, r20.2, r25.1, r25.2.1, r25.2.2.1, r25.2.2.2, (upd wr x1.toNatClampNeg (la + (1 : Int32))), wa, wc, wk))))) else none))))) else some ((-1000003 : Int32), ph, la, po, lo, ov, orr, nv, nr, ql, qk, qv, qr, wr, wa, wc, wk)) else some ((-1000003 : Int32), ph, la, po, lo, ov, orr, nv, nr, ql, qk, qv, qr, wr, wa, wc, wk))
set_option maxHeartbeats 4000000 in
set_option maxRecDepth 100000 in
theorem kX4_put_b24 {p : Program} {l : Launch} {e : Env} {s : State} {m : MethodId} {args : Array Value} {below : List Frame} {meth : Method} {c : Code} {G : gT} {a : Nat → Nat} {w0 : va_W} (C0 : gX p s m args meth c cX4_put 4 (some .int) RX4 G) :
    ∀ (x1 : Int32) (x2 : Int32) (t0 : Int32) (ph : Int32) (la : Int32) (po : Int32) (lo : Int32) (ov : Nat → Int32) (orr : Nat → Int32) (nv : Nat → Int32) (nr : Nat → Int32) (ql : Int32) (qk : Nat → Int32) (qv : Nat → Int32) (qr : Nat → Int32) (wr : Nat → Int32) (wa : Int32) (wc : Nat → Int32) (wk : Nat → Int32) (u : Int32 × Int32 × Int32 × Int32 × Int32 × (Nat → Int32) × (Nat → Int32) × (Nat → Int32) × (Nat → Int32) × Int32 × (Nat → Int32) × (Nat → Int32) × (Nat → Int32) × (Nat → Int32) × Int32 × (Nat → Int32) × (Nat → Int32)), fX4_put_b24 x1 x2 t0 ph la po lo ov orr nv nr ql qk qv qr wr wa wc wk = some u → ∀ (H : Heap) (locs : List Loc), va_P G.1 vwCl [((a 0), .inr (3, [.int ph, .int la, .int po, .int lo, .ref (a 1), .ref (a 4), .ref (a 7), .ref (a 11), .int wa, .ref (a 12), .ref (a 13)])), ((a 1), .inr (2, [.int 0, .ref (a 2), .ref (a 3)])), ((a 2), .inl (G.2.1, 31, .inl ov)), ((a 3), .inl (G.2.1, 31, .inl orr)), ((a 4), .inr (2, [.int 1, .ref (a 5), .ref (a 6)])), ((a 5), .inl (G.2.1, 31, .inl nv)), ((a 6), .inl (G.2.1, 31, .inl nr)), ((a 7), .inr (1, [.int ql, .ref (a 8), .ref (a 9), .ref (a 10)])), ((a 8), .inl (G.2.1, 8, .inl qk)), ((a 9), .inl (G.2.1, 8, .inl qv)), ((a 10), .inl (G.2.1, 8, .inl qr)), ((a 11), .inl (G.2.1, 31, .inl wr)), ((a 12), .inl (G.2.1, 3, .inl wc)), ((a 13), .inl (G.2.1, 3, .inl wk))] H → va_D (va_A w0 s.heap.size) [((a 0), .inr (3, [.int ph, .int la, .int po, .int lo, .ref (a 1), .ref (a 4), .ref (a 7), .ref (a 11), .int wa, .ref (a 12), .ref (a 13)])), ((a 1), .inr (2, [.int 0, .ref (a 2), .ref (a 3)])), ((a 2), .inl (G.2.1, 31, .inl ov)), ((a 3), .inl (G.2.1, 31, .inl orr)), ((a 4), .inr (2, [.int 1, .ref (a 5), .ref (a 6)])), ((a 5), .inl (G.2.1, 31, .inl nv)), ((a 6), .inl (G.2.1, 31, .inl nr)), ((a 7), .inr (1, [.int ql, .ref (a 8), .ref (a 9), .ref (a 10)])), ((a 8), .inl (G.2.1, 8, .inl qk)), ((a 9), .inl (G.2.1, 8, .inl qv)), ((a 10), .inl (G.2.1, 8, .inl qr)), ((a 11), .inl (G.2.1, 31, .inl wr)), ((a 12), .inl (G.2.1, 3, .inl wc)), ((a 13), .inl (G.2.1, 3, .inl wk))] → va_S (va_A w0 s.heap.size) s.heap H locs → ∀ ls, lv_has ls 4 [(0, .ref (a 0)), (1, .int x1), (2, .int x2)] → gW p l e (headSpec wsX4_put rmX4_put).room s m args below meth c G w0 (some (.int u.1)) (tabW G a u.2.1 u.2.2.1 u.2.2.2.1 u.2.2.2.2.1 u.2.2.2.2.2.1 u.2.2.2.2.2.2.1 u.2.2.2.2.2.2.2.1 u.2.2.2.2.2.2.2.2.1 u.2.2.2.2.2.2.2.2.2.1 u.2.2.2.2.2.2.2.2.2.2.1 u.2.2.2.2.2.2.2.2.2.2.2.1 u.2.2.2.2.2.2.2.2.2.2.2.2.1 u.2.2.2.2.2.2.2.2.2.2.2.2.2.1 u.2.2.2.2.2.2.2.2.2.2.2.2.2.2.1 u.2.2.2.2.2.2.2.2.2.2.2.2.2.2.2.1 u.2.2.2.2.2.2.2.2.2.2.2.2.2.2.2.2) H locs 24 ls [.int t0] := by
  obtain ⟨hx, hb, hr, hts, hown, hlocks, hml, hK⟩ := id C0
  have hA : ∀ q : Nat, s.heap.size ≤ q → va_A w0 s.heap.size q := fun q h => Or.inr h
  intro x1 x2 t0 ph la po lo ov orr nv nr ql qk qv qr wr wa wc wk u hf H locs hP hD hS ls hl
  unfold fX4_put_b24 at hf
  refine lv_istore_n (lv' := [(3, .int t0), (0, .ref (a 0)), (1, .int x1), (2, .int x2)]) hx hb dX4_put_24 rfl hl (by decide) rfl (fun ls hl => ?_)
  refine lv_iload_n hx hb dX4_put_25 rfl (lv_at hl 0 rfl) ?_
  refine lv_if_ne (tgt := 38) hx hb dX4_put_26 (by decide) (fun c4 => ?_) (fun c4 => ?_)
  · have hf := g_ifF c4 hf
    refine lv_ldc (v := (-1000003 : Int32)) hx hb hown (hts _ tw_331) dX4_put_38 ?_
    cases hf
    exact g_iretC hx hb hr hlocks hP hD hS dX4_put_40
  · have hf := g_ifT c4 hf
    refine lv_aload_n hx hb dX4_put_29 rfl (lv_at hl 1 rfl) ?_
    refine va_get (D := G.1) (ci := 3) (v := .int la) (C := RX4) (T := TX4) (N := 11) hx hb hts hX4 hown hK.1 hP 0 rfl rfl 1 (by decide) (hts _ tw_80) (fun _ h9 => h9) rfl dX4_put_30 ?_
    refine lv_ldc (v := (100000 : Int32)) hx hb hown (hts _ tw_330) dX4_put_33 ?_
    refine lv_icmp_lt (tgt := 41) hx hb dX4_put_35 (by decide) (fun c5 => ?_) (fun c5 => ?_)
    · have hf := g_ifT c5 hf
      refine lv_aload_n hx hb dX4_put_41 rfl (lv_at hl 1 rfl) ?_
      refine lv_dup hx hb dX4_put_42 rfl ?_
      refine va_get (D := G.1) (ci := 3) (v := .int la) (C := RX4) (T := TX4) (N := 11) hx hb hts hX4 hown hK.1 hP 0 rfl rfl 1 (by decide) (hts _ tw_80) (fun _ h9 => h9) rfl dX4_put_43 ?_
      refine lv_iconst (v := (1 : Int32)) hx hb dX4_put_46 (by decide) ?_
      refine lv_iadd hx hb dX4_put_47 ?_
      refine va_put (D := G.1) (ci := 3) (v := .int (la + (1 : Int32))) (ty := .int) (C := RX4) (T := TX4) (N := 11) hx hb hts hX4 tyX4 tyX4_ok nmX4 hown hK.1 hP hD hS 0 rfl rfl 1 (by decide) (hts _ tw_80) (fun _ h9 => h9) rfl (by decide +kernel) rfl rfl (Nat.le_of_ble_eq_true rfl) dX4_put_48 (fun H locs hP hD hS => ?_)
      have hP : va_P G.1 vwCl [((a 0), .inr (3, [.int ph, .int (la + (1 : Int32)), .int po, .int lo, .ref (a 1), .ref (a 4), .ref (a 7), .ref (a 11), .int wa, .ref (a 12), .ref (a 13)])), ((a 1), .inr (2, [.int 0, .ref (a 2), .ref (a 3)])), ((a 2), .inl (G.2.1, 31, .inl ov)), ((a 3), .inl (G.2.1, 31, .inl orr)), ((a 4), .inr (2, [.int 1, .ref (a 5), .ref (a 6)])), ((a 5), .inl (G.2.1, 31, .inl nv)), ((a 6), .inl (G.2.1, 31, .inl nr)), ((a 7), .inr (1, [.int ql, .ref (a 8), .ref (a 9), .ref (a 10)])), ((a 8), .inl (G.2.1, 8, .inl qk)), ((a 9), .inl (G.2.1, 8, .inl qv)), ((a 10), .inl (G.2.1, 8, .inl qr)), ((a 11), .inl (G.2.1, 31, .inl wr)), ((a 12), .inl (G.2.1, 3, .inl wc)), ((a 13), .inl (G.2.1, 3, .inl wk))] H := hP
      have hD : va_D (va_A w0 s.heap.size) [((a 0), .inr (3, [.int ph, .int (la + (1 : Int32)), .int po, .int lo, .ref (a 1), .ref (a 4), .ref (a 7), .ref (a 11), .int wa, .ref (a 12), .ref (a 13)])), ((a 1), .inr (2, [.int 0, .ref (a 2), .ref (a 3)])), ((a 2), .inl (G.2.1, 31, .inl ov)), ((a 3), .inl (G.2.1, 31, .inl orr)), ((a 4), .inr (2, [.int 1, .ref (a 5), .ref (a 6)])), ((a 5), .inl (G.2.1, 31, .inl nv)), ((a 6), .inl (G.2.1, 31, .inl nr)), ((a 7), .inr (1, [.int ql, .ref (a 8), .ref (a 9), .ref (a 10)])), ((a 8), .inl (G.2.1, 8, .inl qk)), ((a 9), .inl (G.2.1, 8, .inl qv)), ((a 10), .inl (G.2.1, 8, .inl qr)), ((a 11), .inl (G.2.1, 31, .inl wr)), ((a 12), .inl (G.2.1, 3, .inl wc)), ((a 13), .inl (G.2.1, 3, .inl wk))] := hD
      refine lv_aload_n hx hb dX4_put_51 rfl (lv_at hl 1 rfl) ?_
      refine va_get (D := G.1) (ci := 3) (v := .ref (a 11)) (C := RX4) (T := TX4) (N := 11) hx hb hts hX4 hown hK.1 hP 0 rfl rfl 7 (by decide) (hts _ tw_92) (fun _ h9 => h9) rfl dX4_put_52 ?_
      refine lv_iload_n hx hb dX4_put_55 rfl (lv_at hl 2 rfl) ?_
      refine lv_aload_n hx hb dX4_put_56 rfl (lv_at hl 1 rfl) ?_
      refine va_get (D := G.1) (ci := 3) (v := .int (la + (1 : Int32))) (C := RX4) (T := TX4) (N := 11) hx hb hts hX4 hown hK.1 hP 0 rfl rfl 1 (by decide) (hts _ tw_80) (fun _ h9 => h9) rfl dX4_put_57 ?_
      obtain ⟨g6, hf⟩ := g_gdS hf
      refine va_iast hx hb hK.1 hP hD hS 11 0 rfl rfl (g_in_vp g6) dX4_put_60 (fun H locs hP hD hS => ?_)
      have hP : va_P G.1 vwCl [((a 0), .inr (3, [.int ph, .int (la + (1 : Int32)), .int po, .int lo, .ref (a 1), .ref (a 4), .ref (a 7), .ref (a 11), .int wa, .ref (a 12), .ref (a 13)])), ((a 1), .inr (2, [.int 0, .ref (a 2), .ref (a 3)])), ((a 2), .inl (G.2.1, 31, .inl ov)), ((a 3), .inl (G.2.1, 31, .inl orr)), ((a 4), .inr (2, [.int 1, .ref (a 5), .ref (a 6)])), ((a 5), .inl (G.2.1, 31, .inl nv)), ((a 6), .inl (G.2.1, 31, .inl nr)), ((a 7), .inr (1, [.int ql, .ref (a 8), .ref (a 9), .ref (a 10)])), ((a 8), .inl (G.2.1, 8, .inl qk)), ((a 9), .inl (G.2.1, 8, .inl qv)), ((a 10), .inl (G.2.1, 8, .inl qr)), ((a 11), .inl (G.2.1, 31, .inl (upd wr x1.toNatClampNeg (la + (1 : Int32))))), ((a 12), .inl (G.2.1, 3, .inl wc)), ((a 13), .inl (G.2.1, 3, .inl wk))] H := hP
      have hD : va_D (va_A w0 s.heap.size) [((a 0), .inr (3, [.int ph, .int (la + (1 : Int32)), .int po, .int lo, .ref (a 1), .ref (a 4), .ref (a 7), .ref (a 11), .int wa, .ref (a 12), .ref (a 13)])), ((a 1), .inr (2, [.int 0, .ref (a 2), .ref (a 3)])), ((a 2), .inl (G.2.1, 31, .inl ov)), ((a 3), .inl (G.2.1, 31, .inl orr)), ((a 4), .inr (2, [.int 1, .ref (a 5), .ref (a 6)])), ((a 5), .inl (G.2.1, 31, .inl nv)), ((a 6), .inl (G.2.1, 31, .inl nr)), ((a 7), .inr (1, [.int ql, .ref (a 8), .ref (a 9), .ref (a 10)])), ((a 8), .inl (G.2.1, 8, .inl qk)), ((a 9), .inl (G.2.1, 8, .inl qv)), ((a 10), .inl (G.2.1, 8, .inl qr)), ((a 11), .inl (G.2.1, 31, .inl (upd wr x1.toNatClampNeg (la + (1 : Int32))))), ((a 12), .inl (G.2.1, 3, .inl wc)), ((a 13), .inl (G.2.1, 3, .inl wk))] := hD
      refine lv_aload_n hx hb dX4_put_61 rfl (lv_at hl 1 rfl) ?_
      refine lv_aload_n hx hb dX4_put_62 rfl (lv_at hl 1 rfl) ?_
      obtain ⟨r7, e8, hf⟩ := g_bdS hf
      refine g_contR (st1 := [.int r7, .ref (a 0)]) (g_runVR (As := []) (rest := [.ref (a 0)]) ⟨hx, hb, hml, hown, hts⟩ (qX4_first l G a e8) (cwV 0 hts (TB_V TB_id tw_209 tw_210 tw_211 tw_6 tw_212) rfl rfl rfl (by decide +kernel) ⟨Nat.le_of_ble_eq_true rfl, Nat.le_of_ble_eq_true rfl⟩) hK (hP.sub [0, 1, 2, 3, 4, 5, 6, 7, 8, 9, 10, 11, 12, 13] rfl) 0 rfl rfl rfl hl.1 rfl (Nat.le_of_ble_eq_true rfl) dX4_put_63) rfl ?_
      obtain ⟨r9, e10, hf⟩ := g_bdS hf
      refine g_contR (st1 := [.ref (a r9)]) (g_runVR (As := [.int r7]) (rest := []) ⟨hx, hb, hml, hown, hts⟩ (qX4_shape l G a e10) (cwV 1 hts (TB_V TB_id tw_224 tw_225 tw_226 tw_6 tw_227) rfl rfl rfl (by decide +kernel) ⟨Nat.le_of_ble_eq_true rfl, Nat.le_of_ble_eq_true rfl⟩) hK (hP.sub [0, 1, 2, 3, 4, 5, 6, 7, 8, 9, 10, 11, 12, 13] rfl) 0 rfl rfl rfl hl.1 rfl (Nat.le_of_ble_eq_true rfl) dX4_put_66) rfl ?_
      by_cases c11 : r9 = 1
      · have hf := g_ifT c11 hf
        subst c11
        refine lv_iload_n hx hb dX4_put_69 rfl (lv_at hl 2 rfl) ?_
        refine lv_aload_n hx hb dX4_put_70 rfl (lv_at hl 1 rfl) ?_
        refine va_get (D := G.1) (ci := 3) (v := .int (la + (1 : Int32))) (C := RX4) (T := TX4) (N := 11) hx hb hts hX4 hown hK.1 hP 0 rfl rfl 1 (by decide) (hts _ tw_80) (fun _ h9 => h9) rfl dX4_put_71 ?_
        refine lv_iload_n hx hb dX4_put_74 rfl (lv_at hl 3 rfl) ?_
        obtain ⟨r12, e13, hf⟩ := g_bdS hf
        refine g_contC (st1 := []) (g_runVC (As := [.int x1, .int (la + (1 : Int32)), .int x2]) (rest := []) ⟨hx, hb, hml, hown, hts⟩ (qX3_take l G (a 1) (a 2) (a 3) e13) (cwV 3 hts (TB_V TB_id tw_332 tw_333 tw_334 tw_7 tw_335) rfl rfl rfl (by decide +kernel) ⟨Nat.le_of_ble_eq_true rfl, Nat.le_of_ble_eq_true rfl⟩) hK (hP.sub [1, 2, 3] rfl) (hD.sub [1, 2, 3] (by decide) rfl) 0 rfl rfl rfl hl.1 rfl (Nat.le_of_ble_eq_true rfl) dX4_put_75) rfl hP hD hS hA [1, 2, 3] rfl rfl (fun H locs hP hD hS => ?_)
        have hP : va_P G.1 vwCl [((a 0), .inr (3, [.int ph, .int (la + (1 : Int32)), .int po, .int lo, .ref (a 1), .ref (a 4), .ref (a 7), .ref (a 11), .int wa, .ref (a 12), .ref (a 13)])), ((a 1), .inr (2, [.int 0, .ref (a 2), .ref (a 3)])), ((a 2), .inl (G.2.1, 31, .inl r12.1)), ((a 3), .inl (G.2.1, 31, .inl r12.2)), ((a 4), .inr (2, [.int 1, .ref (a 5), .ref (a 6)])), ((a 5), .inl (G.2.1, 31, .inl nv)), ((a 6), .inl (G.2.1, 31, .inl nr)), ((a 7), .inr (1, [.int ql, .ref (a 8), .ref (a 9), .ref (a 10)])), ((a 8), .inl (G.2.1, 8, .inl qk)), ((a 9), .inl (G.2.1, 8, .inl qv)), ((a 10), .inl (G.2.1, 8, .inl qr)), ((a 11), .inl (G.2.1, 31, .inl (upd wr x1.toNatClampNeg (la + (1 : Int32))))), ((a 12), .inl (G.2.1, 3, .inl wc)), ((a 13), .inl (G.2.1, 3, .inl wk))] H := hP
        have hD : va_D (va_A w0 s.heap.size) [((a 0), .inr (3, [.int ph, .int (la + (1 : Int32)), .int po, .int lo, .ref (a 1), .ref (a 4), .ref (a 7), .ref (a 11), .int wa, .ref (a 12), .ref (a 13)])), ((a 1), .inr (2, [.int 0, .ref (a 2), .ref (a 3)])), ((a 2), .inl (G.2.1, 31, .inl r12.1)), ((a 3), .inl (G.2.1, 31, .inl r12.2)), ((a 4), .inr (2, [.int 1, .ref (a 5), .ref (a 6)])), ((a 5), .inl (G.2.1, 31, .inl nv)), ((a 6), .inl (G.2.1, 31, .inl nr)), ((a 7), .inr (1, [.int ql, .ref (a 8), .ref (a 9), .ref (a 10)])), ((a 8), .inl (G.2.1, 8, .inl qk)), ((a 9), .inl (G.2.1, 8, .inl qv)), ((a 10), .inl (G.2.1, 8, .inl qr)), ((a 11), .inl (G.2.1, 31, .inl (upd wr x1.toNatClampNeg (la + (1 : Int32))))), ((a 12), .inl (G.2.1, 3, .inl wc)), ((a 13), .inl (G.2.1, 3, .inl wk))] := hD
        refine lv_aload_n hx hb dX4_put_78 rfl (lv_at hl 1 rfl) ?_
        obtain ⟨r14, e15, hf⟩ := g_bdS hf
        refine g_contR (st1 := [.int r14]) (g_runVR (As := []) (rest := []) ⟨hx, hb, hml, hown, hts⟩ (qX4_hasBoth l G a e15) (cwV 0 hts (TB_V TB_id tw_329 tw_285 tw_286 tw_6 tw_287) rfl rfl rfl (by decide +kernel) ⟨Nat.le_of_ble_eq_true rfl, Nat.le_of_ble_eq_true rfl⟩) hK (hP.sub [0, 1, 2, 3, 4, 5, 6, 7, 8, 9, 10, 11, 12, 13] rfl) 0 rfl rfl rfl hl.1 rfl (Nat.le_of_ble_eq_true rfl) dX4_put_79) rfl ?_
        refine lv_if_eq (tgt := 98) hx hb dX4_put_82 (by decide) (fun c16 => ?_) (fun c16 => ?_)
        · have hf := g_ifT c16 hf
          refine lv_aload_n hx hb dX4_put_98 rfl (lv_at hl 1 rfl) ?_
          refine va_get (D := G.1) (ci := 3) (v := .int (la + (1 : Int32))) (C := RX4) (T := TX4) (N := 11) hx hb hts hX4 hown hK.1 hP 0 rfl rfl 1 (by decide) (hts _ tw_80) (fun _ h9 => h9) rfl dX4_put_99 ?_
          cases hf
          exact g_iretC hx hb hr hlocks hP hD hS dX4_put_102
        · have hf := g_ifF c16 hf
          refine lv_aload_n hx hb dX4_put_85 rfl (lv_at hl 1 rfl) ?_
          refine va_get (D := G.1) (ci := 3) (v := .ref (a 7)) (C := RX4) (T := TX4) (N := 11) hx hb hts hX4 hown hK.1 hP 0 rfl rfl 6 (by decide) (hts _ tw_90) (fun _ h9 => h9) rfl dX4_put_86 ?_
          refine lv_iload_n hx hb dX4_put_89 rfl (lv_at hl 2 rfl) ?_
          refine lv_aload_n hx hb dX4_put_90 rfl (lv_at hl 1 rfl) ?_
          refine va_get (D := G.1) (ci := 3) (v := .int (la + (1 : Int32))) (C := RX4) (T := TX4) (N := 11) hx hb hts hX4 hown hK.1 hP 0 rfl rfl 1 (by decide) (hts _ tw_80) (fun _ h9 => h9) rfl dX4_put_91 ?_
          refine lv_iload_n hx hb dX4_put_94 rfl (lv_at hl 3 rfl) ?_
          obtain ⟨r17, e18, hf⟩ := g_bdS hf
          refine g_contC (st1 := []) (g_runVC (As := [.int x1, .int (la + (1 : Int32)), .int x2]) (rest := []) ⟨hx, hb, hml, hown, hts⟩ (qX1_append l G (a 7) (a 8) (a 9) (a 10) e18) (cwV 3 hts (TB_V TB_id tw_337 tw_338 tw_339 tw_8 tw_340) rfl rfl rfl (by decide +kernel) ⟨Nat.le_of_ble_eq_true rfl, Nat.le_of_ble_eq_true rfl⟩) hK (hP.sub [7, 8, 9, 10] rfl) (hD.sub [7, 8, 9, 10] (by decide) rfl) 0 rfl rfl rfl hl.1 rfl (Nat.le_of_ble_eq_true rfl) dX4_put_95) rfl hP hD hS hA [7, 8, 9, 10] rfl rfl (fun H locs hP hD hS => ?_)
          have hP : va_P G.1 vwCl [((a 0), .inr (3, [.int ph, .int (la + (1 : Int32)), .int po, .int lo, .ref (a 1), .ref (a 4), .ref (a 7), .ref (a 11), .int wa, .ref (a 12), .ref (a 13)])), ((a 1), .inr (2, [.int 0, .ref (a 2), .ref (a 3)])), ((a 2), .inl (G.2.1, 31, .inl r12.1)), ((a 3), .inl (G.2.1, 31, .inl r12.2)), ((a 4), .inr (2, [.int 1, .ref (a 5), .ref (a 6)])), ((a 5), .inl (G.2.1, 31, .inl nv)), ((a 6), .inl (G.2.1, 31, .inl nr)), ((a 7), .inr (1, [.int r17.1, .ref (a 8), .ref (a 9), .ref (a 10)])), ((a 8), .inl (G.2.1, 8, .inl r17.2.1)), ((a 9), .inl (G.2.1, 8, .inl r17.2.2.1)), ((a 10), .inl (G.2.1, 8, .inl r17.2.2.2)), ((a 11), .inl (G.2.1, 31, .inl (upd wr x1.toNatClampNeg (la + (1 : Int32))))), ((a 12), .inl (G.2.1, 3, .inl wc)), ((a 13), .inl (G.2.1, 3, .inl wk))] H := hP
          have hD : va_D (va_A w0 s.heap.size) [((a 0), .inr (3, [.int ph, .int (la + (1 : Int32)), .int po, .int lo, .ref (a 1), .ref (a 4), .ref (a 7), .ref (a 11), .int wa, .ref (a 12), .ref (a 13)])), ((a 1), .inr (2, [.int 0, .ref (a 2), .ref (a 3)])), ((a 2), .inl (G.2.1, 31, .inl r12.1)), ((a 3), .inl (G.2.1, 31, .inl r12.2)), ((a 4), .inr (2, [.int 1, .ref (a 5), .ref (a 6)])), ((a 5), .inl (G.2.1, 31, .inl nv)), ((a 6), .inl (G.2.1, 31, .inl nr)), ((a 7), .inr (1, [.int r17.1, .ref (a 8), .ref (a 9), .ref (a 10)])), ((a 8), .inl (G.2.1, 8, .inl r17.2.1)), ((a 9), .inl (G.2.1, 8, .inl r17.2.2.1)), ((a 10), .inl (G.2.1, 8, .inl r17.2.2.2)), ((a 11), .inl (G.2.1, 31, .inl (upd wr x1.toNatClampNeg (la + (1 : Int32))))), ((a 12), .inl (G.2.1, 3, .inl wc)), ((a 13), .inl (G.2.1, 3, .inl wk))] := hD
          refine lv_aload_n hx hb dX4_put_98 rfl (lv_at hl 1 rfl) ?_
          refine va_get (D := G.1) (ci := 3) (v := .int (la + (1 : Int32))) (C := RX4) (T := TX4) (N := 11) hx hb hts hX4 hown hK.1 hP 0 rfl rfl 1 (by decide) (hts _ tw_80) (fun _ h9 => h9) rfl dX4_put_99 ?_
          cases hf
          exact g_iretC hx hb hr hlocks hP hD hS dX4_put_102
      have hf := g_ifF c11 hf
      by_cases c19 : r9 = 4
      · have hf := g_ifT c19 hf
        subst c19
        refine lv_iload_n hx hb dX4_put_69 rfl (lv_at hl 2 rfl) ?_
        refine lv_aload_n hx hb dX4_put_70 rfl (lv_at hl 1 rfl) ?_
        refine va_get (D := G.1) (ci := 3) (v := .int (la + (1 : Int32))) (C := RX4) (T := TX4) (N := 11) hx hb hts hX4 hown hK.1 hP 0 rfl rfl 1 (by decide) (hts _ tw_80) (fun _ h9 => h9) rfl dX4_put_71 ?_
        refine lv_iload_n hx hb dX4_put_74 rfl (lv_at hl 3 rfl) ?_
        obtain ⟨r20, e21, hf⟩ := g_bdS hf
        refine g_contC (st1 := []) (g_runVC (As := [.int x1, .int (la + (1 : Int32)), .int x2]) (rest := []) ⟨hx, hb, hml, hown, hts⟩ (qX3_take l G (a 4) (a 5) (a 6) e21) (cwV 3 hts (TB_V TB_id tw_332 tw_333 tw_334 tw_7 tw_335) rfl rfl rfl (by decide +kernel) ⟨Nat.le_of_ble_eq_true rfl, Nat.le_of_ble_eq_true rfl⟩) hK (hP.sub [4, 5, 6] rfl) (hD.sub [4, 5, 6] (by decide) rfl) 0 rfl rfl rfl hl.1 rfl (Nat.le_of_ble_eq_true rfl) dX4_put_75) rfl hP hD hS hA [4, 5, 6] rfl rfl (fun H locs hP hD hS => ?_)
        have hP : va_P G.1 vwCl [((a 0), .inr (3, [.int ph, .int (la + (1 : Int32)), .int po, .int lo, .ref (a 1), .ref (a 4), .ref (a 7), .ref (a 11), .int wa, .ref (a 12), .ref (a 13)])), ((a 1), .inr (2, [.int 0, .ref (a 2), .ref (a 3)])), ((a 2), .inl (G.2.1, 31, .inl ov)), ((a 3), .inl (G.2.1, 31, .inl orr)), ((a 4), .inr (2, [.int 1, .ref (a 5), .ref (a 6)])), ((a 5), .inl (G.2.1, 31, .inl r20.1)), ((a 6), .inl (G.2.1, 31, .inl r20.2)), ((a 7), .inr (1, [.int ql, .ref (a 8), .ref (a 9), .ref (a 10)])), ((a 8), .inl (G.2.1, 8, .inl qk)), ((a 9), .inl (G.2.1, 8, .inl qv)), ((a 10), .inl (G.2.1, 8, .inl qr)), ((a 11), .inl (G.2.1, 31, .inl (upd wr x1.toNatClampNeg (la + (1 : Int32))))), ((a 12), .inl (G.2.1, 3, .inl wc)), ((a 13), .inl (G.2.1, 3, .inl wk))] H := hP
        have hD : va_D (va_A w0 s.heap.size) [((a 0), .inr (3, [.int ph, .int (la + (1 : Int32)), .int po, .int lo, .ref (a 1), .ref (a 4), .ref (a 7), .ref (a 11), .int wa, .ref (a 12), .ref (a 13)])), ((a 1), .inr (2, [.int 0, .ref (a 2), .ref (a 3)])), ((a 2), .inl (G.2.1, 31, .inl ov)), ((a 3), .inl (G.2.1, 31, .inl orr)), ((a 4), .inr (2, [.int 1, .ref (a 5), .ref (a 6)])), ((a 5), .inl (G.2.1, 31, .inl r20.1)), ((a 6), .inl (G.2.1, 31, .inl r20.2)), ((a 7), .inr (1, [.int ql, .ref (a 8), .ref (a 9), .ref (a 10)])), ((a 8), .inl (G.2.1, 8, .inl qk)), ((a 9), .inl (G.2.1, 8, .inl qv)), ((a 10), .inl (G.2.1, 8, .inl qr)), ((a 11), .inl (G.2.1, 31, .inl (upd wr x1.toNatClampNeg (la + (1 : Int32))))), ((a 12), .inl (G.2.1, 3, .inl wc)), ((a 13), .inl (G.2.1, 3, .inl wk))] := hD
        refine lv_aload_n hx hb dX4_put_78 rfl (lv_at hl 1 rfl) ?_
        obtain ⟨r22, e23, hf⟩ := g_bdS hf
        refine g_contR (st1 := [.int r22]) (g_runVR (As := []) (rest := []) ⟨hx, hb, hml, hown, hts⟩ (qX4_hasBoth l G a e23) (cwV 0 hts (TB_V TB_id tw_329 tw_285 tw_286 tw_6 tw_287) rfl rfl rfl (by decide +kernel) ⟨Nat.le_of_ble_eq_true rfl, Nat.le_of_ble_eq_true rfl⟩) hK (hP.sub [0, 1, 2, 3, 4, 5, 6, 7, 8, 9, 10, 11, 12, 13] rfl) 0 rfl rfl rfl hl.1 rfl (Nat.le_of_ble_eq_true rfl) dX4_put_79) rfl ?_
        refine lv_if_eq (tgt := 98) hx hb dX4_put_82 (by decide) (fun c24 => ?_) (fun c24 => ?_)
        · have hf := g_ifT c24 hf
          refine lv_aload_n hx hb dX4_put_98 rfl (lv_at hl 1 rfl) ?_
          refine va_get (D := G.1) (ci := 3) (v := .int (la + (1 : Int32))) (C := RX4) (T := TX4) (N := 11) hx hb hts hX4 hown hK.1 hP 0 rfl rfl 1 (by decide) (hts _ tw_80) (fun _ h9 => h9) rfl dX4_put_99 ?_
          cases hf
          exact g_iretC hx hb hr hlocks hP hD hS dX4_put_102
        · have hf := g_ifF c24 hf
          refine lv_aload_n hx hb dX4_put_85 rfl (lv_at hl 1 rfl) ?_
          refine va_get (D := G.1) (ci := 3) (v := .ref (a 7)) (C := RX4) (T := TX4) (N := 11) hx hb hts hX4 hown hK.1 hP 0 rfl rfl 6 (by decide) (hts _ tw_90) (fun _ h9 => h9) rfl dX4_put_86 ?_
          refine lv_iload_n hx hb dX4_put_89 rfl (lv_at hl 2 rfl) ?_
          refine lv_aload_n hx hb dX4_put_90 rfl (lv_at hl 1 rfl) ?_
          refine va_get (D := G.1) (ci := 3) (v := .int (la + (1 : Int32))) (C := RX4) (T := TX4) (N := 11) hx hb hts hX4 hown hK.1 hP 0 rfl rfl 1 (by decide) (hts _ tw_80) (fun _ h9 => h9) rfl dX4_put_91 ?_
          refine lv_iload_n hx hb dX4_put_94 rfl (lv_at hl 3 rfl) ?_
          obtain ⟨r25, e26, hf⟩ := g_bdS hf
          refine g_contC (st1 := []) (g_runVC (As := [.int x1, .int (la + (1 : Int32)), .int x2]) (rest := []) ⟨hx, hb, hml, hown, hts⟩ (qX1_append l G (a 7) (a 8) (a 9) (a 10) e26) (cwV 3 hts (TB_V TB_id tw_337 tw_338 tw_339 tw_8 tw_340) rfl rfl rfl (by decide +kernel) ⟨Nat.le_of_ble_eq_true rfl, Nat.le_of_ble_eq_true rfl⟩) hK (hP.sub [7, 8, 9, 10] rfl) (hD.sub [7, 8, 9, 10] (by decide) rfl) 0 rfl rfl rfl hl.1 rfl (Nat.le_of_ble_eq_true rfl) dX4_put_95) rfl hP hD hS hA [7, 8, 9, 10] rfl rfl (fun H locs hP hD hS => ?_)
          have hP : va_P G.1 vwCl [((a 0), .inr (3, [.int ph, .int (la + (1 : Int32)), .int po, .int lo, .ref (a 1), .ref (a 4), .ref (a 7), .ref (a 11), .int wa, .ref (a 12), .ref (a 13)])), ((a 1), .inr (2, [.int 0, .ref (a 2), .ref (a 3)])), ((a 2), .inl (G.2.1, 31, .inl ov)), ((a 3), .inl (G.2.1, 31, .inl orr)), ((a 4), .inr (2, [.int 1, .ref (a 5), .ref (a 6)])), ((a 5), .inl (G.2.1, 31, .inl r20.1)), ((a 6), .inl (G.2.1, 31, .inl r20.2)), ((a 7), .inr (1, [.int r25.1, .ref (a 8), .ref (a 9), .ref (a 10)])), ((a 8), .inl (G.2.1, 8, .inl r25.2.1)), ((a 9), .inl (G.2.1, 8, .inl r25.2.2.1)), ((a 10), .inl (G.2.1, 8, .inl r25.2.2.2)), ((a 11), .inl (G.2.1, 31, .inl (upd wr x1.toNatClampNeg (la + (1 : Int32))))), ((a 12), .inl (G.2.1, 3, .inl wc)), ((a 13), .inl (G.2.1, 3, .inl wk))] H := hP
          have hD : va_D (va_A w0 s.heap.size) [((a 0), .inr (3, [.int ph, .int (la + (1 : Int32)), .int po, .int lo, .ref (a 1), .ref (a 4), .ref (a 7), .ref (a 11), .int wa, .ref (a 12), .ref (a 13)])), ((a 1), .inr (2, [.int 0, .ref (a 2), .ref (a 3)])), ((a 2), .inl (G.2.1, 31, .inl ov)), ((a 3), .inl (G.2.1, 31, .inl orr)), ((a 4), .inr (2, [.int 1, .ref (a 5), .ref (a 6)])), ((a 5), .inl (G.2.1, 31, .inl r20.1)), ((a 6), .inl (G.2.1, 31, .inl r20.2)), ((a 7), .inr (1, [.int r25.1, .ref (a 8), .ref (a 9), .ref (a 10)])), ((a 8), .inl (G.2.1, 8, .inl r25.2.1)), ((a 9), .inl (G.2.1, 8, .inl r25.2.2.1)), ((a 10), .inl (G.2.1, 8, .inl r25.2.2.2)), ((a 11), .inl (G.2.1, 31, .inl (upd wr x1.toNatClampNeg (la + (1 : Int32))))), ((a 12), .inl (G.2.1, 3, .inl wc)), ((a 13), .inl (G.2.1, 3, .inl wk))] := hD
          refine lv_aload_n hx hb dX4_put_98 rfl (lv_at hl 1 rfl) ?_
          refine va_get (D := G.1) (ci := 3) (v := .int (la + (1 : Int32))) (C := RX4) (T := TX4) (N := 11) hx hb hts hX4 hown hK.1 hP 0 rfl rfl 1 (by decide) (hts _ tw_80) (fun _ h9 => h9) rfl dX4_put_99 ?_
          cases hf
          exact g_iretC hx hb hr hlocks hP hD hS dX4_put_102
      have hf := g_ifF c19 hf
      cases hf
    · have hf := g_ifF c5 hf
      refine lv_ldc (v := (-1000003 : Int32)) hx hb hown (hts _ tw_331) dX4_put_38 ?_
      cases hf
      exact g_iretC hx hb hr hlocks hP hD hS dX4_put_40
def fX4_put_b23 (x1 : Int32) (x2 : Int32) (ph : Int32) (la : Int32) (po : Int32) (lo : Int32) (ov : Nat → Int32) (orr : Nat → Int32) (nv : Nat → Int32) (nr : Nat → Int32) (ql : Int32) (qk : Nat → Int32) (qv : Nat → Int32) (qr : Nat → Int32) (wr : Nat → Int32) (wa : Int32) (wc : Nat → Int32) (wk : Nat → Int32) : Option (Int32 × Int32 × Int32 × Int32 × Int32 × (Nat → Int32) × (Nat → Int32) × (Nat → Int32) × (Nat → Int32) × Int32 × (Nat → Int32) × (Nat → Int32) × (Nat → Int32) × (Nat → Int32) × Int32 × (Nat → Int32) × (Nat → Int32)) := fX4_put_b24 x1 x2 (0 : Int32) ph la po lo ov orr nv nr ql qk qv qr wr wa wc wk
set_option maxHeartbeats 4000000 in
set_option maxRecDepth 100000 in
theorem kX4_put_b23 {p : Program} {l : Launch} {e : Env} {s : State} {m : MethodId} {args : Array Value} {below : List Frame} {meth : Method} {c : Code} {G : gT} {a : Nat → Nat} {w0 : va_W} (C0 : gX p s m args meth c cX4_put 4 (some .int) RX4 G) :
    ∀ (x1 : Int32) (x2 : Int32) (ph : Int32) (la : Int32) (po : Int32) (lo : Int32) (ov : Nat → Int32) (orr : Nat → Int32) (nv : Nat → Int32) (nr : Nat → Int32) (ql : Int32) (qk : Nat → Int32) (qv : Nat → Int32) (qr : Nat → Int32) (wr : Nat → Int32) (wa : Int32) (wc : Nat → Int32) (wk : Nat → Int32) (u : Int32 × Int32 × Int32 × Int32 × Int32 × (Nat → Int32) × (Nat → Int32) × (Nat → Int32) × (Nat → Int32) × Int32 × (Nat → Int32) × (Nat → Int32) × (Nat → Int32) × (Nat → Int32) × Int32 × (Nat → Int32) × (Nat → Int32)), fX4_put_b23 x1 x2 ph la po lo ov orr nv nr ql qk qv qr wr wa wc wk = some u → ∀ (H : Heap) (locs : List Loc), va_P G.1 vwCl [((a 0), .inr (3, [.int ph, .int la, .int po, .int lo, .ref (a 1), .ref (a 4), .ref (a 7), .ref (a 11), .int wa, .ref (a 12), .ref (a 13)])), ((a 1), .inr (2, [.int 0, .ref (a 2), .ref (a 3)])), ((a 2), .inl (G.2.1, 31, .inl ov)), ((a 3), .inl (G.2.1, 31, .inl orr)), ((a 4), .inr (2, [.int 1, .ref (a 5), .ref (a 6)])), ((a 5), .inl (G.2.1, 31, .inl nv)), ((a 6), .inl (G.2.1, 31, .inl nr)), ((a 7), .inr (1, [.int ql, .ref (a 8), .ref (a 9), .ref (a 10)])), ((a 8), .inl (G.2.1, 8, .inl qk)), ((a 9), .inl (G.2.1, 8, .inl qv)), ((a 10), .inl (G.2.1, 8, .inl qr)), ((a 11), .inl (G.2.1, 31, .inl wr)), ((a 12), .inl (G.2.1, 3, .inl wc)), ((a 13), .inl (G.2.1, 3, .inl wk))] H → va_D (va_A w0 s.heap.size) [((a 0), .inr (3, [.int ph, .int la, .int po, .int lo, .ref (a 1), .ref (a 4), .ref (a 7), .ref (a 11), .int wa, .ref (a 12), .ref (a 13)])), ((a 1), .inr (2, [.int 0, .ref (a 2), .ref (a 3)])), ((a 2), .inl (G.2.1, 31, .inl ov)), ((a 3), .inl (G.2.1, 31, .inl orr)), ((a 4), .inr (2, [.int 1, .ref (a 5), .ref (a 6)])), ((a 5), .inl (G.2.1, 31, .inl nv)), ((a 6), .inl (G.2.1, 31, .inl nr)), ((a 7), .inr (1, [.int ql, .ref (a 8), .ref (a 9), .ref (a 10)])), ((a 8), .inl (G.2.1, 8, .inl qk)), ((a 9), .inl (G.2.1, 8, .inl qv)), ((a 10), .inl (G.2.1, 8, .inl qr)), ((a 11), .inl (G.2.1, 31, .inl wr)), ((a 12), .inl (G.2.1, 3, .inl wc)), ((a 13), .inl (G.2.1, 3, .inl wk))] → va_S (va_A w0 s.heap.size) s.heap H locs → ∀ ls, lv_has ls 4 [(0, .ref (a 0)), (1, .int x1), (2, .int x2)] → gW p l e (headSpec wsX4_put rmX4_put).room s m args below meth c G w0 (some (.int u.1)) (tabW G a u.2.1 u.2.2.1 u.2.2.2.1 u.2.2.2.2.1 u.2.2.2.2.2.1 u.2.2.2.2.2.2.1 u.2.2.2.2.2.2.2.1 u.2.2.2.2.2.2.2.2.1 u.2.2.2.2.2.2.2.2.2.1 u.2.2.2.2.2.2.2.2.2.2.1 u.2.2.2.2.2.2.2.2.2.2.2.1 u.2.2.2.2.2.2.2.2.2.2.2.2.1 u.2.2.2.2.2.2.2.2.2.2.2.2.2.1 u.2.2.2.2.2.2.2.2.2.2.2.2.2.2.1 u.2.2.2.2.2.2.2.2.2.2.2.2.2.2.2.1 u.2.2.2.2.2.2.2.2.2.2.2.2.2.2.2.2) H locs 23 ls [] := by
  obtain ⟨hx, hb, hr, hts, hown, hlocks, hml, hK⟩ := id C0
  have hA : ∀ q : Nat, s.heap.size ≤ q → va_A w0 s.heap.size q := fun q h => Or.inr h
  intro x1 x2 ph la po lo ov orr nv nr ql qk qv qr wr wa wc wk u hf H locs hP hD hS ls hl
  unfold fX4_put_b23 at hf
  refine lv_iconst (v := (0 : Int32)) hx hb dX4_put_23 (by decide) ?_
  exact kX4_put_b24 C0 _ _ _ _ _ _ _ _ _ _ _ _ _ _ _ _ _ _ _ _ hf _ _ hP hD hS ls (lv_sub hl [0, 1, 2] rfl)
def fX4_put (p0 : Int32) (p1 : Int32) (ph : Int32) (la : Int32) (po : Int32) (lo : Int32) (ov : Nat → Int32) (orr : Nat → Int32) (nv : Nat → Int32) (nr : Nat → Int32) (ql : Int32) (qk : Nat → Int32) (qv : Nat → Int32) (qr : Nat → Int32) (wr : Nat → Int32) (wa : Int32) (wc : Nat → Int32) (wk : Nat → Int32) : Option (Int32 × Int32 × Int32 × Int32 × Int32 × (Nat → Int32) × (Nat → Int32) × (Nat → Int32) × (Nat → Int32) × Int32 × (Nat → Int32) × (Nat → Int32) × (Nat → Int32) × (Nat → Int32) × Int32 × (Nat → Int32) × (Nat → Int32)) := ((fX4_hasBoth ph la po lo ov orr nv nr ql qk qv qr wr wa wc wk).bind fun r1 => (if r1 = (0 : Int32) then fX4_put_b23 p0 p1 ph la po lo ov orr nv nr ql qk qv qr wr wa wc wk else (if ql < (8 : Int32) then fX4_put_b23 p0 p1 ph la po lo ov orr nv nr ql qk qv qr wr wa wc wk else fX4_put_b24 p0 p1 (1 : Int32) ph la po lo ov orr nv nr ql qk qv qr wr wa wc wk)))
set_option maxHeartbeats 4000000 in
set_option maxRecDepth 100000 in
theorem qX4_put (l : Launch) (G : gT) (a : Nat → Nat) {p0 : Int32} {p1 : Int32} {ph : Int32} {la : Int32} {po : Int32} {lo : Int32} {ov : Nat → Int32} {orr : Nat → Int32} {nv : Nat → Int32} {nr : Nat → Int32} {ql : Int32} {qk : Nat → Int32} {qv : Nat → Int32} {qr : Nat → Int32} {wr : Nat → Int32} {wa : Int32} {wc : Nat → Int32} {wk : Nat → Int32} {u : Int32 × Int32 × Int32 × Int32 × Int32 × (Nat → Int32) × (Nat → Int32) × (Nat → Int32) × (Nat → Int32) × Int32 × (Nat → Int32) × (Nat → Int32) × (Nat → Int32) × (Nat → Int32) × Int32 × (Nat → Int32) × (Nat → Int32)} (hf : fX4_put p0 p1 ph la po lo ov orr nv nr ql qk qv qr wr wa wc wk = some u) : gC l G yX4_put wsX4_put rmX4_put [.ref (a 0), .int p0, .int p1] (tabW G a ph la po lo ov orr nv nr ql qk qv qr wr wa wc wk) (some (.int u.1)) (tabW G a u.2.1 u.2.2.1 u.2.2.2.1 u.2.2.2.2.1 u.2.2.2.2.2.1 u.2.2.2.2.2.2.1 u.2.2.2.2.2.2.2.1 u.2.2.2.2.2.2.2.2.1 u.2.2.2.2.2.2.2.2.2.1 u.2.2.2.2.2.2.2.2.2.2.1 u.2.2.2.2.2.2.2.2.2.2.2.1 u.2.2.2.2.2.2.2.2.2.2.2.2.1 u.2.2.2.2.2.2.2.2.2.2.2.2.2.1 u.2.2.2.2.2.2.2.2.2.2.2.2.2.2.1 u.2.2.2.2.2.2.2.2.2.2.2.2.2.2.2.1 u.2.2.2.2.2.2.2.2.2.2.2.2.2.2.2.2) := by
  refine gC.of (cc := cX4_put) (maxL := 4) (ret := (some .int)) (by decide) rfl (Nat.le_of_ble_eq_true rfl) ?_
  intro p e s m below meth c C0 hP hD hS ls hl
  obtain ⟨hx, hb, hr, hts, hown, hlocks, hml, hK⟩ := id C0
  have hl : lv_has ls 4 [(0, .ref (a 0)), (1, .int p0), (2, .int p1)] := hl
  have hA : ∀ q : Nat, s.heap.size ≤ q → va_A (tabW G a ph la po lo ov orr nv nr ql qk qv qr wr wa wc wk) s.heap.size q := fun q h => Or.inr h
  have hP : va_P G.1 vwCl [((a 0), .inr (3, [.int ph, .int la, .int po, .int lo, .ref (a 1), .ref (a 4), .ref (a 7), .ref (a 11), .int wa, .ref (a 12), .ref (a 13)])), ((a 1), .inr (2, [.int 0, .ref (a 2), .ref (a 3)])), ((a 2), .inl (G.2.1, 31, .inl ov)), ((a 3), .inl (G.2.1, 31, .inl orr)), ((a 4), .inr (2, [.int 1, .ref (a 5), .ref (a 6)])), ((a 5), .inl (G.2.1, 31, .inl nv)), ((a 6), .inl (G.2.1, 31, .inl nr)), ((a 7), .inr (1, [.int ql, .ref (a 8), .ref (a 9), .ref (a 10)])), ((a 8), .inl (G.2.1, 8, .inl qk)), ((a 9), .inl (G.2.1, 8, .inl qv)), ((a 10), .inl (G.2.1, 8, .inl qr)), ((a 11), .inl (G.2.1, 31, .inl wr)), ((a 12), .inl (G.2.1, 3, .inl wc)), ((a 13), .inl (G.2.1, 3, .inl wk))] s.heap := hP
  have hD : va_D (va_A (tabW G a ph la po lo ov orr nv nr ql qk qv qr wr wa wc wk) s.heap.size) [((a 0), .inr (3, [.int ph, .int la, .int po, .int lo, .ref (a 1), .ref (a 4), .ref (a 7), .ref (a 11), .int wa, .ref (a 12), .ref (a 13)])), ((a 1), .inr (2, [.int 0, .ref (a 2), .ref (a 3)])), ((a 2), .inl (G.2.1, 31, .inl ov)), ((a 3), .inl (G.2.1, 31, .inl orr)), ((a 4), .inr (2, [.int 1, .ref (a 5), .ref (a 6)])), ((a 5), .inl (G.2.1, 31, .inl nv)), ((a 6), .inl (G.2.1, 31, .inl nr)), ((a 7), .inr (1, [.int ql, .ref (a 8), .ref (a 9), .ref (a 10)])), ((a 8), .inl (G.2.1, 8, .inl qk)), ((a 9), .inl (G.2.1, 8, .inl qv)), ((a 10), .inl (G.2.1, 8, .inl qr)), ((a 11), .inl (G.2.1, 31, .inl wr)), ((a 12), .inl (G.2.1, 3, .inl wc)), ((a 13), .inl (G.2.1, 3, .inl wk))] := hD
  unfold fX4_put at hf
  refine lv_aload_n hx hb dX4_put_0 rfl (lv_at hl 0 rfl) ?_
  obtain ⟨r1, e2, hf⟩ := g_bdS hf
  refine g_contR (st1 := [.int r1]) (g_runVR (As := []) (rest := []) ⟨hx, hb, hml, hown, hts⟩ (qX4_hasBoth l G a e2) (cwV 0 hts (TB_V TB_id tw_329 tw_285 tw_286 tw_6 tw_287) rfl rfl rfl (by decide +kernel) ⟨Nat.le_of_ble_eq_true rfl, Nat.le_of_ble_eq_true rfl⟩) hK (hP.sub [0, 1, 2, 3, 4, 5, 6, 7, 8, 9, 10, 11, 12, 13] rfl) 0 rfl rfl rfl hl.1 rfl (Nat.le_of_ble_eq_true rfl) dX4_put_1) rfl ?_
  refine lv_if_eq (tgt := 23) hx hb dX4_put_4 (by decide) (fun c3 => ?_) (fun c3 => ?_)
  · have hf := g_ifT c3 hf
    exact kX4_put_b23 C0 _ _ _ _ _ _ _ _ _ _ _ _ _ _ _ _ _ _ _ hf _ _ hP hD hS ls (lv_sub hl [0, 1, 2] rfl)
  · have hf := g_ifF c3 hf
    refine lv_aload_n hx hb dX4_put_7 rfl (lv_at hl 0 rfl) ?_
    refine va_get (D := G.1) (ci := 3) (v := .ref (a 7)) (C := RX4) (T := TX4) (N := 11) hx hb hts hX4 hown hK.1 hP 0 rfl rfl 6 (by decide) (hts _ tw_90) (fun _ h9 => h9) rfl dX4_put_8 ?_
    refine va_get (D := G.1) (ci := 1) (v := .int ql) (C := RX1) (T := TX1) (N := 4) hx hb hts hX1 hown hK.1 hP 7 rfl rfl 0 (by decide) (hts _ tw_61) (fun _ h9 => h9) rfl dX4_put_11 ?_
    refine lv_bipush (v := (8 : Int32)) hx hb dX4_put_14 (by decide) ?_
    refine lv_icmp_lt (tgt := 23) hx hb dX4_put_16 (by decide) (fun c27 => ?_) (fun c27 => ?_)
    · have hf := g_ifT c27 hf
      exact kX4_put_b23 C0 _ _ _ _ _ _ _ _ _ _ _ _ _ _ _ _ _ _ _ hf _ _ hP hD hS ls (lv_sub hl [0, 1, 2] rfl)
    · have hf := g_ifF c27 hf
      refine lv_iconst (v := (1 : Int32)) hx hb dX4_put_19 (by decide) ?_
      refine lv_goto (tgt := 24) hx hb dX4_put_20 (by decide) ?_
      exact kX4_put_b24 C0 _ _ _ _ _ _ _ _ _ _ _ _ _ _ _ _ _ _ _ _ hf _ _ hP hD hS ls (lv_sub hl [0, 1, 2] rfl)
-- TwoShapes$Table.putOld(IIII)I
abbrev rmX4_putOld : Room := { frames := 3, cells := 0, slots := 0, locals := 68 }
def fX4_putOld (p0 : Int32) (p1 : Int32) (p2 : Int32) (p3 : Int32) (ph : Int32) (la : Int32) (po : Int32) (lo : Int32) (ov : Nat → Int32) (orr : Nat → Int32) (nv : Nat → Int32) (nr : Nat → Int32) (ql : Int32) (qk : Nat → Int32) (qv : Nat → Int32) (qr : Nat → Int32) (wr : Nat → Int32) (wa : Int32) (wc : Nat → Int32) (wk : Nat → Int32) : Option (Int32 × Int32 × Int32 × Int32 × Int32 × (Nat → Int32) × (Nat → Int32) × (Nat → Int32) × (Nat → Int32) × Int32 × (Nat → Int32) × (Nat → Int32) × (Nat → Int32) × (Nat → Int32) × Int32 × (Nat → Int32) × (Nat → Int32)) := ((fX5_isBelow p0 (31 : Int32)).bind fun r1 => (if r1 = (0 : Int32) then some ((-1000001 : Int32), ph, la, po, lo, ov, orr, nv, nr, ql, qk, qv, qr, wr, wa, wc, wk) else ((fX5_isBelow p1 (100 : Int32)).bind fun r4 => (if r4 = (0 : Int32) then some ((-1000001 : Int32), ph, la, po, lo, ov, orr, nv, nr, ql, qk, qv, qr, wr, wa, wc, wk) else ((fX5_isBelow p2 (10 : Int32)).bind fun r7 => (if r7 = (0 : Int32) then some ((-1000001 : Int32), ph, la, po, lo, ov, orr, nv, nr, ql, qk, qv, qr, wr, wa, wc, wk) else ((fX5_isBelow p3 (2 : Int32)).bind fun r10 => (if r10 = (0 : Int32) then some ((-1000001 : Int32), ph, la, po, lo, ov, orr, nv, nr, ql, qk, qv, qr, wr, wa, wc, wk) else ((fX2_ofOld p1 p2 p3).bind fun r13 => ((fX4_put p0 r13 ph la po lo ov orr nv nr ql qk qv qr wr wa wc wk).bind fun r15 => some (r15.1, r15.2.1, r15.2.2.1, r15.2.2.2.1, r15.2.2.2.2.1, r15.2.2.2.2.2.1, r15.2.2.2.2.2.2.1, r15.2.2.2.2.2.2.2.1, r15.2.2.2.2.2.2.2.2.1, r15.2.2.2.2.2.2.2.2.2.1, r15.2.2.2.2.2.2.2.2.2.2.1, r15.2.2.2.2.2.2.2.2.2.2.2.1, r15.2.2.2.2.2.2.2.2.2.2.2.2.1, r15.2.2.2.2.2.2.2.2.2.2.2.2.2.1, r15.2.2.2.2.2.2.2.2.2.2.2.2.2.2.1, r15.2.2.2.2.2.2.2.2.2.2.2.2.2.2.2.1, r15.2.2.2.2.2.2.2.2.2.2.2.2.2.2.2.2)))))))))))
set_option maxHeartbeats 4000000 in
set_option maxRecDepth 100000 in
theorem qX4_putOld (l : Launch) (G : gT) (a : Nat → Nat) {p0 : Int32} {p1 : Int32} {p2 : Int32} {p3 : Int32} {ph : Int32} {la : Int32} {po : Int32} {lo : Int32} {ov : Nat → Int32} {orr : Nat → Int32} {nv : Nat → Int32} {nr : Nat → Int32} {ql : Int32} {qk : Nat → Int32} {qv : Nat → Int32} {qr : Nat → Int32} {wr : Nat → Int32} {wa : Int32} {wc : Nat → Int32} {wk : Nat → Int32} {u : Int32 × Int32 × Int32 × Int32 × Int32 × (Nat → Int32) × (Nat → Int32) × (Nat → Int32) × (Nat → Int32) × Int32 × (Nat → Int32) × (Nat → Int32) × (Nat → Int32) × (Nat → Int32) × Int32 × (Nat → Int32) × (Nat → Int32)} (hf : fX4_putOld p0 p1 p2 p3 ph la po lo ov orr nv nr ql qk qv qr wr wa wc wk = some u) : gC l G yX4_putOld wsX4_putOld rmX4_putOld [.ref (a 0), .int p0, .int p1, .int p2, .int p3] (tabW G a ph la po lo ov orr nv nr ql qk qv qr wr wa wc wk) (some (.int u.1)) (tabW G a u.2.1 u.2.2.1 u.2.2.2.1 u.2.2.2.2.1 u.2.2.2.2.2.1 u.2.2.2.2.2.2.1 u.2.2.2.2.2.2.2.1 u.2.2.2.2.2.2.2.2.1 u.2.2.2.2.2.2.2.2.2.1 u.2.2.2.2.2.2.2.2.2.2.1 u.2.2.2.2.2.2.2.2.2.2.2.1 u.2.2.2.2.2.2.2.2.2.2.2.2.1 u.2.2.2.2.2.2.2.2.2.2.2.2.2.1 u.2.2.2.2.2.2.2.2.2.2.2.2.2.2.1 u.2.2.2.2.2.2.2.2.2.2.2.2.2.2.2.1 u.2.2.2.2.2.2.2.2.2.2.2.2.2.2.2.2) := by
  refine gC.of (cc := cX4_putOld) (maxL := 5) (ret := (some .int)) (by decide) rfl (Nat.le_of_ble_eq_true rfl) ?_
  intro p e s m below meth c C0 hP hD hS ls hl
  obtain ⟨hx, hb, hr, hts, hown, hlocks, hml, hK⟩ := id C0
  have hl : lv_has ls 5 [(0, .ref (a 0)), (1, .int p0), (2, .int p1), (3, .int p2), (4, .int p3)] := hl
  have hA : ∀ q : Nat, s.heap.size ≤ q → va_A (tabW G a ph la po lo ov orr nv nr ql qk qv qr wr wa wc wk) s.heap.size q := fun q h => Or.inr h
  have hP : va_P G.1 vwCl [((a 0), .inr (3, [.int ph, .int la, .int po, .int lo, .ref (a 1), .ref (a 4), .ref (a 7), .ref (a 11), .int wa, .ref (a 12), .ref (a 13)])), ((a 1), .inr (2, [.int 0, .ref (a 2), .ref (a 3)])), ((a 2), .inl (G.2.1, 31, .inl ov)), ((a 3), .inl (G.2.1, 31, .inl orr)), ((a 4), .inr (2, [.int 1, .ref (a 5), .ref (a 6)])), ((a 5), .inl (G.2.1, 31, .inl nv)), ((a 6), .inl (G.2.1, 31, .inl nr)), ((a 7), .inr (1, [.int ql, .ref (a 8), .ref (a 9), .ref (a 10)])), ((a 8), .inl (G.2.1, 8, .inl qk)), ((a 9), .inl (G.2.1, 8, .inl qv)), ((a 10), .inl (G.2.1, 8, .inl qr)), ((a 11), .inl (G.2.1, 31, .inl wr)), ((a 12), .inl (G.2.1, 3, .inl wc)), ((a 13), .inl (G.2.1, 3, .inl wk))] s.heap := hP
  have hD : va_D (va_A (tabW G a ph la po lo ov orr nv nr ql qk qv qr wr wa wc wk) s.heap.size) [((a 0), .inr (3, [.int ph, .int la, .int po, .int lo, .ref (a 1), .ref (a 4), .ref (a 7), .ref (a 11), .int wa, .ref (a 12), .ref (a 13)])), ((a 1), .inr (2, [.int 0, .ref (a 2), .ref (a 3)])), ((a 2), .inl (G.2.1, 31, .inl ov)), ((a 3), .inl (G.2.1, 31, .inl orr)), ((a 4), .inr (2, [.int 1, .ref (a 5), .ref (a 6)])), ((a 5), .inl (G.2.1, 31, .inl nv)), ((a 6), .inl (G.2.1, 31, .inl nr)), ((a 7), .inr (1, [.int ql, .ref (a 8), .ref (a 9), .ref (a 10)])), ((a 8), .inl (G.2.1, 8, .inl qk)), ((a 9), .inl (G.2.1, 8, .inl qv)), ((a 10), .inl (G.2.1, 8, .inl qr)), ((a 11), .inl (G.2.1, 31, .inl wr)), ((a 12), .inl (G.2.1, 3, .inl wc)), ((a 13), .inl (G.2.1, 3, .inl wk))] := hD
  unfold fX4_putOld at hf
  refine lv_iload_n hx hb dX4_putOld_0 rfl (lv_at hl 1 rfl) ?_
  refine lv_bipush (v := (31 : Int32)) hx hb dX4_putOld_1 (by decide) ?_
  obtain ⟨r1, e2, hf⟩ := g_bdS hf
  refine g_contR (st1 := [.int r1]) (g_runSNR (As := [.int p0, .int (31 : Int32)]) (rest := []) ⟨hx, hb, hml, hown, hts⟩ (qX5_isBelow l G e2) ⟨va_cnB 2 hts (TB_C TB_id tw_191) rfl rfl rfl hK.2.1 (hts _ tw_5) (by decide +kernel) ⟨Nat.le_of_ble_eq_true rfl, Nat.le_of_ble_eq_true rfl⟩, hts _ tw_190, trivial⟩ hK (hP.sub [] rfl) rfl hl.1 rfl (Nat.le_of_ble_eq_true rfl) dX4_putOld_3) rfl ?_
  refine lv_if_eq (tgt := 36) hx hb dX4_putOld_6 (by decide) (fun c3 => ?_) (fun c3 => ?_)
  · have hf := g_ifT c3 hf
    refine lv_ldc (v := (-1000001 : Int32)) hx hb hown (hts _ tw_192) dX4_putOld_36 ?_
    cases hf
    exact g_iretC hx hb hr hlocks hP hD hS dX4_putOld_38
  · have hf := g_ifF c3 hf
    refine lv_iload_n hx hb dX4_putOld_9 rfl (lv_at hl 2 rfl) ?_
    refine lv_bipush (v := (100 : Int32)) hx hb dX4_putOld_10 (by decide) ?_
    obtain ⟨r4, e5, hf⟩ := g_bdS hf
    refine g_contR (st1 := [.int r4]) (g_runSNR (As := [.int p1, .int (100 : Int32)]) (rest := []) ⟨hx, hb, hml, hown, hts⟩ (qX5_isBelow l G e5) ⟨va_cnB 2 hts (TB_C TB_id tw_191) rfl rfl rfl hK.2.1 (hts _ tw_5) (by decide +kernel) ⟨Nat.le_of_ble_eq_true rfl, Nat.le_of_ble_eq_true rfl⟩, hts _ tw_190, trivial⟩ hK (hP.sub [] rfl) rfl hl.1 rfl (Nat.le_of_ble_eq_true rfl) dX4_putOld_12) rfl ?_
    refine lv_if_eq (tgt := 36) hx hb dX4_putOld_15 (by decide) (fun c6 => ?_) (fun c6 => ?_)
    · have hf := g_ifT c6 hf
      refine lv_ldc (v := (-1000001 : Int32)) hx hb hown (hts _ tw_192) dX4_putOld_36 ?_
      cases hf
      exact g_iretC hx hb hr hlocks hP hD hS dX4_putOld_38
    · have hf := g_ifF c6 hf
      refine lv_iload_n hx hb dX4_putOld_18 rfl (lv_at hl 3 rfl) ?_
      refine lv_bipush (v := (10 : Int32)) hx hb dX4_putOld_19 (by decide) ?_
      obtain ⟨r7, e8, hf⟩ := g_bdS hf
      refine g_contR (st1 := [.int r7]) (g_runSNR (As := [.int p2, .int (10 : Int32)]) (rest := []) ⟨hx, hb, hml, hown, hts⟩ (qX5_isBelow l G e8) ⟨va_cnB 2 hts (TB_C TB_id tw_191) rfl rfl rfl hK.2.1 (hts _ tw_5) (by decide +kernel) ⟨Nat.le_of_ble_eq_true rfl, Nat.le_of_ble_eq_true rfl⟩, hts _ tw_190, trivial⟩ hK (hP.sub [] rfl) rfl hl.1 rfl (Nat.le_of_ble_eq_true rfl) dX4_putOld_21) rfl ?_
      refine lv_if_eq (tgt := 36) hx hb dX4_putOld_24 (by decide) (fun c9 => ?_) (fun c9 => ?_)
      · have hf := g_ifT c9 hf
        refine lv_ldc (v := (-1000001 : Int32)) hx hb hown (hts _ tw_192) dX4_putOld_36 ?_
        cases hf
        exact g_iretC hx hb hr hlocks hP hD hS dX4_putOld_38
      · have hf := g_ifF c9 hf
        refine lv_iload hx hb dX4_putOld_27 (lv_at hl 4 rfl) ?_
        refine lv_iconst (v := (2 : Int32)) hx hb dX4_putOld_29 (by decide) ?_
        obtain ⟨r10, e11, hf⟩ := g_bdS hf
        refine g_contR (st1 := [.int r10]) (g_runSNR (As := [.int p3, .int (2 : Int32)]) (rest := []) ⟨hx, hb, hml, hown, hts⟩ (qX5_isBelow l G e11) ⟨va_cnB 2 hts (TB_C TB_id tw_191) rfl rfl rfl hK.2.1 (hts _ tw_5) (by decide +kernel) ⟨Nat.le_of_ble_eq_true rfl, Nat.le_of_ble_eq_true rfl⟩, hts _ tw_190, trivial⟩ hK (hP.sub [] rfl) rfl hl.1 rfl (Nat.le_of_ble_eq_true rfl) dX4_putOld_30) rfl ?_
        refine lv_if_ne (tgt := 39) hx hb dX4_putOld_33 (by decide) (fun c12 => ?_) (fun c12 => ?_)
        · have hf := g_ifF c12 hf
          refine lv_aload_n hx hb dX4_putOld_39 rfl (lv_at hl 0 rfl) ?_
          refine lv_iload_n hx hb dX4_putOld_40 rfl (lv_at hl 1 rfl) ?_
          refine lv_iload_n hx hb dX4_putOld_41 rfl (lv_at hl 2 rfl) ?_
          refine lv_iload_n hx hb dX4_putOld_42 rfl (lv_at hl 3 rfl) ?_
          refine lv_iload hx hb dX4_putOld_43 (lv_at hl 4 rfl) ?_
          obtain ⟨r13, e14, hf⟩ := g_bdS hf
          refine g_contR (st1 := [.int r13, .int p0, .ref (a 0)]) (g_runSR (As := [.int p1, .int p2, .int p3]) (rest := [.int p0, .ref (a 0)]) ⟨hx, hb, hml, hown, hts⟩ (qX2_ofOld l G e14) (va_cwS 3 hts (TB_S TB_id tw_349 tw_350 tw_10 tw_351) rfl rfl rfl (by decide +kernel) ⟨Nat.le_of_ble_eq_true rfl, Nat.le_of_ble_eq_true rfl⟩) hK (hP.sub [] rfl) rfl hl.1 rfl (Nat.le_of_ble_eq_true rfl) dX4_putOld_45) rfl ?_
          obtain ⟨r15, e16, hf⟩ := g_bdS hf
          refine g_contC (st1 := [.int r15.1]) (g_runVC (As := [.int p0, .int r13]) (rest := []) ⟨hx, hb, hml, hown, hts⟩ (qX4_put l G a e16) (cwV 2 hts (TB_V TB_id tw_325 tw_327 tw_2 tw_6 tw_328) rfl rfl rfl (by decide +kernel) ⟨Nat.le_of_ble_eq_true rfl, Nat.le_of_ble_eq_true rfl⟩) hK (hP.sub [0, 1, 2, 3, 4, 5, 6, 7, 8, 9, 10, 11, 12, 13] rfl) (hD.sub [0, 1, 2, 3, 4, 5, 6, 7, 8, 9, 10, 11, 12, 13] (by decide) rfl) 0 rfl rfl rfl hl.1 rfl (Nat.le_of_ble_eq_true rfl) dX4_putOld_48) rfl hP hD hS hA [0, 1, 2, 3, 4, 5, 6, 7, 8, 9, 10, 11, 12, 13] rfl rfl (fun H locs hP hD hS => ?_)
          have hP : va_P G.1 vwCl [((a 0), .inr (3, [.int r15.2.1, .int r15.2.2.1, .int r15.2.2.2.1, .int r15.2.2.2.2.1, .ref (a 1), .ref (a 4), .ref (a 7), .ref (a 11), .int r15.2.2.2.2.2.2.2.2.2.2.2.2.2.2.1, .ref (a 12), .ref (a 13)])), ((a 1), .inr (2, [.int 0, .ref (a 2), .ref (a 3)])), ((a 2), .inl (G.2.1, 31, .inl r15.2.2.2.2.2.1)), ((a 3), .inl (G.2.1, 31, .inl r15.2.2.2.2.2.2.1)), ((a 4), .inr (2, [.int 1, .ref (a 5), .ref (a 6)])), ((a 5), .inl (G.2.1, 31, .inl r15.2.2.2.2.2.2.2.1)), ((a 6), .inl (G.2.1, 31, .inl r15.2.2.2.2.2.2.2.2.1)), ((a 7), .inr (1, [.int r15.2.2.2.2.2.2.2.2.2.1, .ref (a 8), .ref (a 9), .ref (a 10)])), ((a 8), .inl (G.2.1, 8, .inl r15.2.2.2.2.2.2.2.2.2.2.1)), ((a 9), .inl (G.2.1, 8, .inl r15.2.2.2.2.2.2.2.2.2.2.2.1)), ((a 10), .inl (G.2.1, 8, .inl r15.2.2.2.2.2.2.2.2.2.2.2.2.1)), ((a 11), .inl (G.2.1, 31, .inl r15.2.2.2.2.2.2.2.2.2.2.2.2.2.1)), ((a 12), .inl (G.2.1, 3, .inl r15.2.2.2.2.2.2.2.2.2.2.2.2.2.2.2.1)), ((a 13), .inl (G.2.1, 3, .inl r15.2.2.2.2.2.2.2.2.2.2.2.2.2.2.2.2))] H := hP
          have hD : va_D (va_A (tabW G a ph la po lo ov orr nv nr ql qk qv qr wr wa wc wk) s.heap.size) [((a 0), .inr (3, [.int r15.2.1, .int r15.2.2.1, .int r15.2.2.2.1, .int r15.2.2.2.2.1, .ref (a 1), .ref (a 4), .ref (a 7), .ref (a 11), .int r15.2.2.2.2.2.2.2.2.2.2.2.2.2.2.1, .ref (a 12), .ref (a 13)])), ((a 1), .inr (2, [.int 0, .ref (a 2), .ref (a 3)])), ((a 2), .inl (G.2.1, 31, .inl r15.2.2.2.2.2.1)), ((a 3), .inl (G.2.1, 31, .inl r15.2.2.2.2.2.2.1)), ((a 4), .inr (2, [.int 1, .ref (a 5), .ref (a 6)])), ((a 5), .inl (G.2.1, 31, .inl r15.2.2.2.2.2.2.2.1)), ((a 6), .inl (G.2.1, 31, .inl r15.2.2.2.2.2.2.2.2.1)), ((a 7), .inr (1, [.int r15.2.2.2.2.2.2.2.2.2.1, .ref (a 8), .ref (a 9), .ref (a 10)])), ((a 8), .inl (G.2.1, 8, .inl r15.2.2.2.2.2.2.2.2.2.2.1)), ((a 9), .inl (G.2.1, 8, .inl r15.2.2.2.2.2.2.2.2.2.2.2.1)), ((a 10), .inl (G.2.1, 8, .inl r15.2.2.2.2.2.2.2.2.2.2.2.2.1)), ((a 11), .inl (G.2.1, 31, .inl r15.2.2.2.2.2.2.2.2.2.2.2.2.2.1)), ((a 12), .inl (G.2.1, 3, .inl r15.2.2.2.2.2.2.2.2.2.2.2.2.2.2.2.1)), ((a 13), .inl (G.2.1, 3, .inl r15.2.2.2.2.2.2.2.2.2.2.2.2.2.2.2.2))] := hD
          cases hf
          exact g_iretC hx hb hr hlocks hP hD hS dX4_putOld_51
        · have hf := g_ifT c12 hf
          refine lv_ldc (v := (-1000001 : Int32)) hx hb hown (hts _ tw_192) dX4_putOld_36 ?_
          cases hf
          exact g_iretC hx hb hr hlocks hP hD hS dX4_putOld_38
-- TwoShapes$Table.putNew(III)I
abbrev rmX4_putNew : Room := { frames := 3, cells := 0, slots := 0, locals := 68 }
def fX4_putNew (p0 : Int32) (p1 : Int32) (p2 : Int32) (ph : Int32) (la : Int32) (po : Int32) (lo : Int32) (ov : Nat → Int32) (orr : Nat → Int32) (nv : Nat → Int32) (nr : Nat → Int32) (ql : Int32) (qk : Nat → Int32) (qv : Nat → Int32) (qr : Nat → Int32) (wr : Nat → Int32) (wa : Int32) (wc : Nat → Int32) (wk : Nat → Int32) : Option (Int32 × Int32 × Int32 × Int32 × Int32 × (Nat → Int32) × (Nat → Int32) × (Nat → Int32) × (Nat → Int32) × Int32 × (Nat → Int32) × (Nat → Int32) × (Nat → Int32) × (Nat → Int32) × Int32 × (Nat → Int32) × (Nat → Int32)) := ((fX5_isBelow p0 (31 : Int32)).bind fun r1 => (if r1 = (0 : Int32) then some ((-1000001 : Int32), ph, la, po, lo, ov, orr, nv, nr, ql, qk, qv, qr, wr, wa, wc, wk) else ((fX5_isBelow p1 (1000 : Int32)).bind fun r4 => (if r4 = (0 : Int32) then some ((-1000001 : Int32), ph, la, po, lo, ov, orr, nv, nr, ql, qk, qv, qr, wr, wa, wc, wk) else ((fX5_isBelow p2 (4 : Int32)).bind fun r7 => (if r7 = (0 : Int32) then some ((-1000001 : Int32), ph, la, po, lo, ov, orr, nv, nr, ql, qk, qv, qr, wr, wa, wc, wk) else ((fX2_ofNew p1 p2).bind fun r10 => ((fX4_put p0 r10 ph la po lo ov orr nv nr ql qk qv qr wr wa wc wk).bind fun r12 => some (r12.1, r12.2.1, r12.2.2.1, r12.2.2.2.1, r12.2.2.2.2.1, r12.2.2.2.2.2.1, r12.2.2.2.2.2.2.1, r12.2.2.2.2.2.2.2.1, r12.2.2.2.2.2.2.2.2.1, r12.2.2.2.2.2.2.2.2.2.1, r12.2.2.2.2.2.2.2.2.2.2.1, r12.2.2.2.2.2.2.2.2.2.2.2.1, r12.2.2.2.2.2.2.2.2.2.2.2.2.1, r12.2.2.2.2.2.2.2.2.2.2.2.2.2.1, r12.2.2.2.2.2.2.2.2.2.2.2.2.2.2.1, r12.2.2.2.2.2.2.2.2.2.2.2.2.2.2.2.1, r12.2.2.2.2.2.2.2.2.2.2.2.2.2.2.2.2)))))))))
set_option maxHeartbeats 4000000 in
set_option maxRecDepth 100000 in
theorem qX4_putNew (l : Launch) (G : gT) (a : Nat → Nat) {p0 : Int32} {p1 : Int32} {p2 : Int32} {ph : Int32} {la : Int32} {po : Int32} {lo : Int32} {ov : Nat → Int32} {orr : Nat → Int32} {nv : Nat → Int32} {nr : Nat → Int32} {ql : Int32} {qk : Nat → Int32} {qv : Nat → Int32} {qr : Nat → Int32} {wr : Nat → Int32} {wa : Int32} {wc : Nat → Int32} {wk : Nat → Int32} {u : Int32 × Int32 × Int32 × Int32 × Int32 × (Nat → Int32) × (Nat → Int32) × (Nat → Int32) × (Nat → Int32) × Int32 × (Nat → Int32) × (Nat → Int32) × (Nat → Int32) × (Nat → Int32) × Int32 × (Nat → Int32) × (Nat → Int32)} (hf : fX4_putNew p0 p1 p2 ph la po lo ov orr nv nr ql qk qv qr wr wa wc wk = some u) : gC l G yX4_putNew wsX4_putNew rmX4_putNew [.ref (a 0), .int p0, .int p1, .int p2] (tabW G a ph la po lo ov orr nv nr ql qk qv qr wr wa wc wk) (some (.int u.1)) (tabW G a u.2.1 u.2.2.1 u.2.2.2.1 u.2.2.2.2.1 u.2.2.2.2.2.1 u.2.2.2.2.2.2.1 u.2.2.2.2.2.2.2.1 u.2.2.2.2.2.2.2.2.1 u.2.2.2.2.2.2.2.2.2.1 u.2.2.2.2.2.2.2.2.2.2.1 u.2.2.2.2.2.2.2.2.2.2.2.1 u.2.2.2.2.2.2.2.2.2.2.2.2.1 u.2.2.2.2.2.2.2.2.2.2.2.2.2.1 u.2.2.2.2.2.2.2.2.2.2.2.2.2.2.1 u.2.2.2.2.2.2.2.2.2.2.2.2.2.2.2.1 u.2.2.2.2.2.2.2.2.2.2.2.2.2.2.2.2) := by
  refine gC.of (cc := cX4_putNew) (maxL := 4) (ret := (some .int)) (by decide) rfl (Nat.le_of_ble_eq_true rfl) ?_
  intro p e s m below meth c C0 hP hD hS ls hl
  obtain ⟨hx, hb, hr, hts, hown, hlocks, hml, hK⟩ := id C0
  have hl : lv_has ls 4 [(0, .ref (a 0)), (1, .int p0), (2, .int p1), (3, .int p2)] := hl
  have hA : ∀ q : Nat, s.heap.size ≤ q → va_A (tabW G a ph la po lo ov orr nv nr ql qk qv qr wr wa wc wk) s.heap.size q := fun q h => Or.inr h
  have hP : va_P G.1 vwCl [((a 0), .inr (3, [.int ph, .int la, .int po, .int lo, .ref (a 1), .ref (a 4), .ref (a 7), .ref (a 11), .int wa, .ref (a 12), .ref (a 13)])), ((a 1), .inr (2, [.int 0, .ref (a 2), .ref (a 3)])), ((a 2), .inl (G.2.1, 31, .inl ov)), ((a 3), .inl (G.2.1, 31, .inl orr)), ((a 4), .inr (2, [.int 1, .ref (a 5), .ref (a 6)])), ((a 5), .inl (G.2.1, 31, .inl nv)), ((a 6), .inl (G.2.1, 31, .inl nr)), ((a 7), .inr (1, [.int ql, .ref (a 8), .ref (a 9), .ref (a 10)])), ((a 8), .inl (G.2.1, 8, .inl qk)), ((a 9), .inl (G.2.1, 8, .inl qv)), ((a 10), .inl (G.2.1, 8, .inl qr)), ((a 11), .inl (G.2.1, 31, .inl wr)), ((a 12), .inl (G.2.1, 3, .inl wc)), ((a 13), .inl (G.2.1, 3, .inl wk))] s.heap := hP
  have hD : va_D (va_A (tabW G a ph la po lo ov orr nv nr ql qk qv qr wr wa wc wk) s.heap.size) [((a 0), .inr (3, [.int ph, .int la, .int po, .int lo, .ref (a 1), .ref (a 4), .ref (a 7), .ref (a 11), .int wa, .ref (a 12), .ref (a 13)])), ((a 1), .inr (2, [.int 0, .ref (a 2), .ref (a 3)])), ((a 2), .inl (G.2.1, 31, .inl ov)), ((a 3), .inl (G.2.1, 31, .inl orr)), ((a 4), .inr (2, [.int 1, .ref (a 5), .ref (a 6)])), ((a 5), .inl (G.2.1, 31, .inl nv)), ((a 6), .inl (G.2.1, 31, .inl nr)), ((a 7), .inr (1, [.int ql, .ref (a 8), .ref (a 9), .ref (a 10)])), ((a 8), .inl (G.2.1, 8, .inl qk)), ((a 9), .inl (G.2.1, 8, .inl qv)), ((a 10), .inl (G.2.1, 8, .inl qr)), ((a 11), .inl (G.2.1, 31, .inl wr)), ((a 12), .inl (G.2.1, 3, .inl wc)), ((a 13), .inl (G.2.1, 3, .inl wk))] := hD
  unfold fX4_putNew at hf
  refine lv_iload_n hx hb dX4_putNew_0 rfl (lv_at hl 1 rfl) ?_
  refine lv_bipush (v := (31 : Int32)) hx hb dX4_putNew_1 (by decide) ?_
  obtain ⟨r1, e2, hf⟩ := g_bdS hf
  refine g_contR (st1 := [.int r1]) (g_runSNR (As := [.int p0, .int (31 : Int32)]) (rest := []) ⟨hx, hb, hml, hown, hts⟩ (qX5_isBelow l G e2) ⟨va_cnB 2 hts (TB_C TB_id tw_191) rfl rfl rfl hK.2.1 (hts _ tw_5) (by decide +kernel) ⟨Nat.le_of_ble_eq_true rfl, Nat.le_of_ble_eq_true rfl⟩, hts _ tw_190, trivial⟩ hK (hP.sub [] rfl) rfl hl.1 rfl (Nat.le_of_ble_eq_true rfl) dX4_putNew_3) rfl ?_
  refine lv_if_eq (tgt := 27) hx hb dX4_putNew_6 (by decide) (fun c3 => ?_) (fun c3 => ?_)
  · have hf := g_ifT c3 hf
    refine lv_ldc (v := (-1000001 : Int32)) hx hb hown (hts _ tw_192) dX4_putNew_27 ?_
    cases hf
    exact g_iretC hx hb hr hlocks hP hD hS dX4_putNew_29
  · have hf := g_ifF c3 hf
    refine lv_iload_n hx hb dX4_putNew_9 rfl (lv_at hl 2 rfl) ?_
    refine lv_sipush (v := (1000 : Int32)) hx hb dX4_putNew_10 (by decide) ?_
    obtain ⟨r4, e5, hf⟩ := g_bdS hf
    refine g_contR (st1 := [.int r4]) (g_runSNR (As := [.int p1, .int (1000 : Int32)]) (rest := []) ⟨hx, hb, hml, hown, hts⟩ (qX5_isBelow l G e5) ⟨va_cnB 2 hts (TB_C TB_id tw_191) rfl rfl rfl hK.2.1 (hts _ tw_5) (by decide +kernel) ⟨Nat.le_of_ble_eq_true rfl, Nat.le_of_ble_eq_true rfl⟩, hts _ tw_190, trivial⟩ hK (hP.sub [] rfl) rfl hl.1 rfl (Nat.le_of_ble_eq_true rfl) dX4_putNew_13) rfl ?_
    refine lv_if_eq (tgt := 27) hx hb dX4_putNew_16 (by decide) (fun c6 => ?_) (fun c6 => ?_)
    · have hf := g_ifT c6 hf
      refine lv_ldc (v := (-1000001 : Int32)) hx hb hown (hts _ tw_192) dX4_putNew_27 ?_
      cases hf
      exact g_iretC hx hb hr hlocks hP hD hS dX4_putNew_29
    · have hf := g_ifF c6 hf
      refine lv_iload_n hx hb dX4_putNew_19 rfl (lv_at hl 3 rfl) ?_
      refine lv_iconst (v := (4 : Int32)) hx hb dX4_putNew_20 (by decide) ?_
      obtain ⟨r7, e8, hf⟩ := g_bdS hf
      refine g_contR (st1 := [.int r7]) (g_runSNR (As := [.int p2, .int (4 : Int32)]) (rest := []) ⟨hx, hb, hml, hown, hts⟩ (qX5_isBelow l G e8) ⟨va_cnB 2 hts (TB_C TB_id tw_191) rfl rfl rfl hK.2.1 (hts _ tw_5) (by decide +kernel) ⟨Nat.le_of_ble_eq_true rfl, Nat.le_of_ble_eq_true rfl⟩, hts _ tw_190, trivial⟩ hK (hP.sub [] rfl) rfl hl.1 rfl (Nat.le_of_ble_eq_true rfl) dX4_putNew_21) rfl ?_
      refine lv_if_ne (tgt := 30) hx hb dX4_putNew_24 (by decide) (fun c9 => ?_) (fun c9 => ?_)
      · have hf := g_ifF c9 hf
        refine lv_aload_n hx hb dX4_putNew_30 rfl (lv_at hl 0 rfl) ?_
        refine lv_iload_n hx hb dX4_putNew_31 rfl (lv_at hl 1 rfl) ?_
        refine lv_iload_n hx hb dX4_putNew_32 rfl (lv_at hl 2 rfl) ?_
        refine lv_iload_n hx hb dX4_putNew_33 rfl (lv_at hl 3 rfl) ?_
        obtain ⟨r10, e11, hf⟩ := g_bdS hf
        refine g_contR (st1 := [.int r10, .int p0, .ref (a 0)]) (g_runSR (As := [.int p1, .int p2]) (rest := [.int p0, .ref (a 0)]) ⟨hx, hb, hml, hown, hts⟩ (qX2_ofNew l G e11) (va_cwS 2 hts (TB_S TB_id tw_322 tw_323 tw_10 tw_324) rfl rfl rfl (by decide +kernel) ⟨Nat.le_of_ble_eq_true rfl, Nat.le_of_ble_eq_true rfl⟩) hK (hP.sub [] rfl) rfl hl.1 rfl (Nat.le_of_ble_eq_true rfl) dX4_putNew_34) rfl ?_
        obtain ⟨r12, e13, hf⟩ := g_bdS hf
        refine g_contC (st1 := [.int r12.1]) (g_runVC (As := [.int p0, .int r10]) (rest := []) ⟨hx, hb, hml, hown, hts⟩ (qX4_put l G a e13) (cwV 2 hts (TB_V TB_id tw_325 tw_327 tw_2 tw_6 tw_328) rfl rfl rfl (by decide +kernel) ⟨Nat.le_of_ble_eq_true rfl, Nat.le_of_ble_eq_true rfl⟩) hK (hP.sub [0, 1, 2, 3, 4, 5, 6, 7, 8, 9, 10, 11, 12, 13] rfl) (hD.sub [0, 1, 2, 3, 4, 5, 6, 7, 8, 9, 10, 11, 12, 13] (by decide) rfl) 0 rfl rfl rfl hl.1 rfl (Nat.le_of_ble_eq_true rfl) dX4_putNew_37) rfl hP hD hS hA [0, 1, 2, 3, 4, 5, 6, 7, 8, 9, 10, 11, 12, 13] rfl rfl (fun H locs hP hD hS => ?_)
        have hP : va_P G.1 vwCl [((a 0), .inr (3, [.int r12.2.1, .int r12.2.2.1, .int r12.2.2.2.1, .int r12.2.2.2.2.1, .ref (a 1), .ref (a 4), .ref (a 7), .ref (a 11), .int r12.2.2.2.2.2.2.2.2.2.2.2.2.2.2.1, .ref (a 12), .ref (a 13)])), ((a 1), .inr (2, [.int 0, .ref (a 2), .ref (a 3)])), ((a 2), .inl (G.2.1, 31, .inl r12.2.2.2.2.2.1)), ((a 3), .inl (G.2.1, 31, .inl r12.2.2.2.2.2.2.1)), ((a 4), .inr (2, [.int 1, .ref (a 5), .ref (a 6)])), ((a 5), .inl (G.2.1, 31, .inl r12.2.2.2.2.2.2.2.1)), ((a 6), .inl (G.2.1, 31, .inl r12.2.2.2.2.2.2.2.2.1)), ((a 7), .inr (1, [.int r12.2.2.2.2.2.2.2.2.2.1, .ref (a 8), .ref (a 9), .ref (a 10)])), ((a 8), .inl (G.2.1, 8, .inl r12.2.2.2.2.2.2.2.2.2.2.1)), ((a 9), .inl (G.2.1, 8, .inl r12.2.2.2.2.2.2.2.2.2.2.2.1)), ((a 10), .inl (G.2.1, 8, .inl r12.2.2.2.2.2.2.2.2.2.2.2.2.1)), ((a 11), .inl (G.2.1, 31, .inl r12.2.2.2.2.2.2.2.2.2.2.2.2.2.1)), ((a 12), .inl (G.2.1, 3, .inl r12.2.2.2.2.2.2.2.2.2.2.2.2.2.2.2.1)), ((a 13), .inl (G.2.1, 3, .inl r12.2.2.2.2.2.2.2.2.2.2.2.2.2.2.2.2))] H := hP
        have hD : va_D (va_A (tabW G a ph la po lo ov orr nv nr ql qk qv qr wr wa wc wk) s.heap.size) [((a 0), .inr (3, [.int r12.2.1, .int r12.2.2.1, .int r12.2.2.2.1, .int r12.2.2.2.2.1, .ref (a 1), .ref (a 4), .ref (a 7), .ref (a 11), .int r12.2.2.2.2.2.2.2.2.2.2.2.2.2.2.1, .ref (a 12), .ref (a 13)])), ((a 1), .inr (2, [.int 0, .ref (a 2), .ref (a 3)])), ((a 2), .inl (G.2.1, 31, .inl r12.2.2.2.2.2.1)), ((a 3), .inl (G.2.1, 31, .inl r12.2.2.2.2.2.2.1)), ((a 4), .inr (2, [.int 1, .ref (a 5), .ref (a 6)])), ((a 5), .inl (G.2.1, 31, .inl r12.2.2.2.2.2.2.2.1)), ((a 6), .inl (G.2.1, 31, .inl r12.2.2.2.2.2.2.2.2.1)), ((a 7), .inr (1, [.int r12.2.2.2.2.2.2.2.2.2.1, .ref (a 8), .ref (a 9), .ref (a 10)])), ((a 8), .inl (G.2.1, 8, .inl r12.2.2.2.2.2.2.2.2.2.2.1)), ((a 9), .inl (G.2.1, 8, .inl r12.2.2.2.2.2.2.2.2.2.2.2.1)), ((a 10), .inl (G.2.1, 8, .inl r12.2.2.2.2.2.2.2.2.2.2.2.2.1)), ((a 11), .inl (G.2.1, 31, .inl r12.2.2.2.2.2.2.2.2.2.2.2.2.2.1)), ((a 12), .inl (G.2.1, 3, .inl r12.2.2.2.2.2.2.2.2.2.2.2.2.2.2.2.1)), ((a 13), .inl (G.2.1, 3, .inl r12.2.2.2.2.2.2.2.2.2.2.2.2.2.2.2.2))] := hD
        cases hf
        exact g_iretC hx hb hr hlocks hP hD hS dX4_putNew_40
      · have hf := g_ifT c9 hf
        refine lv_ldc (v := (-1000001 : Int32)) hx hb hown (hts _ tw_192) dX4_putNew_27 ?_
        cases hf
        exact g_iretC hx hb hr hlocks hP hD hS dX4_putNew_29
-- TwoShapes$Table.takeAway(I)I
abbrev rmX4_takeAway : Room := { frames := 3, cells := 0, slots := 0, locals := 68 }
def fX4_takeAway (p0 : Int32) (ph : Int32) (la : Int32) (po : Int32) (lo : Int32) (ov : Nat → Int32) (orr : Nat → Int32) (nv : Nat → Int32) (nr : Nat → Int32) (ql : Int32) (qk : Nat → Int32) (qv : Nat → Int32) (qr : Nat → Int32) (wr : Nat → Int32) (wa : Int32) (wc : Nat → Int32) (wk : Nat → Int32) : Option (Int32 × Int32 × Int32 × Int32 × Int32 × (Nat → Int32) × (Nat → Int32) × (Nat → Int32) × (Nat → Int32) × Int32 × (Nat → Int32) × (Nat → Int32) × (Nat → Int32) × (Nat → Int32) × Int32 × (Nat → Int32) × (Nat → Int32)) := ((fX5_isBelow p0 (31 : Int32)).bind fun r1 => (if r1 = (0 : Int32) then some ((-1000001 : Int32), ph, la, po, lo, ov, orr, nv, nr, ql, qk, qv, qr, wr, wa, wc, wk) else ((fX4_first ph la po lo ov orr nv nr ql qk qv qr wr wa wc wk).bind fun r4 => ((fX4_shape r4 ph la po lo ov orr nv nr ql qk qv qr wr wa wc wk).bind fun r6 => (if r6 = 1 then g_gd (g_in p0 31) ((if (orr p0.toNatClampNeg) = (-1 : Int32) then some ((-1000002 : Int32), ph, la, po, lo, ov, orr, nv, nr, ql, qk, qv, qr, wr, wa, wc, wk) else ((fX4_put p0 (-1 : Int32) ph la po lo ov orr nv nr ql qk qv qr wr wa wc wk).bind fun r11 => some (r11.1, r11.2.1, r11.2.2.1, r11.2.2.2.1, r11.2.2.2.2.1, r11.2.2.2.2.2.1, r11.2.2.2.2.2.2.1, r11.2.2.2.2.2.2.2.1, r11.2.2.2.2.2.2.2.2.1, r11.2.2.2.2.2.2.2.2.2.1, r11.2.2.2.2.2.2.2.2.2.2.1, r11.2.2.2.2.2.2.2.2.2.2.2.1, r11.2.2.2.2.2.2.2.2.2.2.2.2.1, r11.2.2.2.2.2.2.2.2.2.2.2.2.2.1, r11.2.2.2.2.2.2.2.2.2.2.2.2.2.2.1, r11.2.2.2.2.2.2.2.2.2.2.2.2.2.2.2.1, r11.2.2.2.2.2.2.2.2.2.2.2.2.2.2.2.2)))) else (if r6 = 4 then g_gd (g_in p0 31) ((if (nr p0.toNatClampNeg) = (-1 : Int32) then some ((-1000002 : Int32), ph, la, po, lo, ov, orr, nv, nr, ql, qk, qv, qr, wr, wa, wc, wk) else ((fX4_put p0 (-1 : Int32) ph la po lo ov orr nv nr ql qk qv qr wr wa wc wk).bind fun r16 => some (r16.1, r16.2.1, r16.2.2.1, r16.2.2.2.1, r16.2.2.2.2.1, r16.2.2.2.2.2.1, r16.2.2.2.2.2.2.1, r16.2.2.2.2.2.2.2.1, r16.2.2.2.2.2.2.2.2.1, r16.2.2.2.2.2.2.2.2.2.1, r16.2.2.2.2.2.2.2.2.2.2.1, r16.2.2.2.2.2.2.2.2.2.2.2.1, r16.2.2.2.2.2.2.2.2.2.2.2.2.1, r16.2.2.2.2.2.2.2.2.2.2.2.2.2.1, r16.2.2.2.2.2.2.2.2.2.2.2.2.2.2.1, r16.2.2.2.2.2.2.2.2.2.2.2.2.2.2.2.1, r16.2.2.2.2.2.2.2.2.2.2.2.2.2.2.2.2)))) else none))))))
set_option maxHeartbeats 4000000 in
set_option maxRecDepth 100000 in
theorem qX4_takeAway (l : Launch) (G : gT) (a : Nat → Nat) {p0 : Int32} {ph : Int32} {la : Int32} {po : Int32} {lo : Int32} {ov : Nat → Int32} {orr : Nat → Int32} {nv : Nat → Int32} {nr : Nat → Int32} {ql : Int32} {qk : Nat → Int32} {qv : Nat → Int32} {qr : Nat → Int32} {wr : Nat → Int32} {wa : Int32} {wc : Nat → Int32} {wk : Nat → Int32} {u : Int32 × Int32 × Int32 × Int32 × Int32 × (Nat → Int32) × (Nat → Int32) × (Nat → Int32) × (Nat → Int32) × Int32 × (Nat → Int32) × (Nat → Int32) × (Nat → Int32) × (Nat → Int32) × Int32 × (Nat → Int32) × (Nat → Int32)} (hf : fX4_takeAway p0 ph la po lo ov orr nv nr ql qk qv qr wr wa wc wk = some u) : gC l G yX4_takeAway wsX4_takeAway rmX4_takeAway [.ref (a 0), .int p0] (tabW G a ph la po lo ov orr nv nr ql qk qv qr wr wa wc wk) (some (.int u.1)) (tabW G a u.2.1 u.2.2.1 u.2.2.2.1 u.2.2.2.2.1 u.2.2.2.2.2.1 u.2.2.2.2.2.2.1 u.2.2.2.2.2.2.2.1 u.2.2.2.2.2.2.2.2.1 u.2.2.2.2.2.2.2.2.2.1 u.2.2.2.2.2.2.2.2.2.2.1 u.2.2.2.2.2.2.2.2.2.2.2.1 u.2.2.2.2.2.2.2.2.2.2.2.2.1 u.2.2.2.2.2.2.2.2.2.2.2.2.2.1 u.2.2.2.2.2.2.2.2.2.2.2.2.2.2.1 u.2.2.2.2.2.2.2.2.2.2.2.2.2.2.2.1 u.2.2.2.2.2.2.2.2.2.2.2.2.2.2.2.2) := by
  refine gC.of (cc := cX4_takeAway) (maxL := 2) (ret := (some .int)) (by decide) rfl (Nat.le_of_ble_eq_true rfl) ?_
  intro p e s m below meth c C0 hP hD hS ls hl
  obtain ⟨hx, hb, hr, hts, hown, hlocks, hml, hK⟩ := id C0
  have hl : lv_has ls 2 [(0, .ref (a 0)), (1, .int p0)] := hl
  have hA : ∀ q : Nat, s.heap.size ≤ q → va_A (tabW G a ph la po lo ov orr nv nr ql qk qv qr wr wa wc wk) s.heap.size q := fun q h => Or.inr h
  have hP : va_P G.1 vwCl [((a 0), .inr (3, [.int ph, .int la, .int po, .int lo, .ref (a 1), .ref (a 4), .ref (a 7), .ref (a 11), .int wa, .ref (a 12), .ref (a 13)])), ((a 1), .inr (2, [.int 0, .ref (a 2), .ref (a 3)])), ((a 2), .inl (G.2.1, 31, .inl ov)), ((a 3), .inl (G.2.1, 31, .inl orr)), ((a 4), .inr (2, [.int 1, .ref (a 5), .ref (a 6)])), ((a 5), .inl (G.2.1, 31, .inl nv)), ((a 6), .inl (G.2.1, 31, .inl nr)), ((a 7), .inr (1, [.int ql, .ref (a 8), .ref (a 9), .ref (a 10)])), ((a 8), .inl (G.2.1, 8, .inl qk)), ((a 9), .inl (G.2.1, 8, .inl qv)), ((a 10), .inl (G.2.1, 8, .inl qr)), ((a 11), .inl (G.2.1, 31, .inl wr)), ((a 12), .inl (G.2.1, 3, .inl wc)), ((a 13), .inl (G.2.1, 3, .inl wk))] s.heap := hP
  have hD : va_D (va_A (tabW G a ph la po lo ov orr nv nr ql qk qv qr wr wa wc wk) s.heap.size) [((a 0), .inr (3, [.int ph, .int la, .int po, .int lo, .ref (a 1), .ref (a 4), .ref (a 7), .ref (a 11), .int wa, .ref (a 12), .ref (a 13)])), ((a 1), .inr (2, [.int 0, .ref (a 2), .ref (a 3)])), ((a 2), .inl (G.2.1, 31, .inl ov)), ((a 3), .inl (G.2.1, 31, .inl orr)), ((a 4), .inr (2, [.int 1, .ref (a 5), .ref (a 6)])), ((a 5), .inl (G.2.1, 31, .inl nv)), ((a 6), .inl (G.2.1, 31, .inl nr)), ((a 7), .inr (1, [.int ql, .ref (a 8), .ref (a 9), .ref (a 10)])), ((a 8), .inl (G.2.1, 8, .inl qk)), ((a 9), .inl (G.2.1, 8, .inl qv)), ((a 10), .inl (G.2.1, 8, .inl qr)), ((a 11), .inl (G.2.1, 31, .inl wr)), ((a 12), .inl (G.2.1, 3, .inl wc)), ((a 13), .inl (G.2.1, 3, .inl wk))] := hD
  unfold fX4_takeAway at hf
  refine lv_iload_n hx hb dX4_takeAway_0 rfl (lv_at hl 1 rfl) ?_
  refine lv_bipush (v := (31 : Int32)) hx hb dX4_takeAway_1 (by decide) ?_
  obtain ⟨r1, e2, hf⟩ := g_bdS hf
  refine g_contR (st1 := [.int r1]) (g_runSNR (As := [.int p0, .int (31 : Int32)]) (rest := []) ⟨hx, hb, hml, hown, hts⟩ (qX5_isBelow l G e2) ⟨va_cnB 2 hts (TB_C TB_id tw_191) rfl rfl rfl hK.2.1 (hts _ tw_5) (by decide +kernel) ⟨Nat.le_of_ble_eq_true rfl, Nat.le_of_ble_eq_true rfl⟩, hts _ tw_190, trivial⟩ hK (hP.sub [] rfl) rfl hl.1 rfl (Nat.le_of_ble_eq_true rfl) dX4_takeAway_3) rfl ?_
  refine lv_if_ne (tgt := 12) hx hb dX4_takeAway_6 (by decide) (fun c3 => ?_) (fun c3 => ?_)
  · have hf := g_ifF c3 hf
    refine lv_aload_n hx hb dX4_takeAway_12 rfl (lv_at hl 0 rfl) ?_
    refine lv_aload_n hx hb dX4_takeAway_13 rfl (lv_at hl 0 rfl) ?_
    obtain ⟨r4, e5, hf⟩ := g_bdS hf
    refine g_contR (st1 := [.int r4, .ref (a 0)]) (g_runVR (As := []) (rest := [.ref (a 0)]) ⟨hx, hb, hml, hown, hts⟩ (qX4_first l G a e5) (cwV 0 hts (TB_V TB_id tw_209 tw_210 tw_211 tw_6 tw_212) rfl rfl rfl (by decide +kernel) ⟨Nat.le_of_ble_eq_true rfl, Nat.le_of_ble_eq_true rfl⟩) hK (hP.sub [0, 1, 2, 3, 4, 5, 6, 7, 8, 9, 10, 11, 12, 13] rfl) 0 rfl rfl rfl hl.1 rfl (Nat.le_of_ble_eq_true rfl) dX4_takeAway_14) rfl ?_
    obtain ⟨r6, e7, hf⟩ := g_bdS hf
    refine g_contR (st1 := [.ref (a r6)]) (g_runVR (As := [.int r4]) (rest := []) ⟨hx, hb, hml, hown, hts⟩ (qX4_shape l G a e7) (cwV 1 hts (TB_V TB_id tw_224 tw_225 tw_226 tw_6 tw_227) rfl rfl rfl (by decide +kernel) ⟨Nat.le_of_ble_eq_true rfl, Nat.le_of_ble_eq_true rfl⟩) hK (hP.sub [0, 1, 2, 3, 4, 5, 6, 7, 8, 9, 10, 11, 12, 13] rfl) 0 rfl rfl rfl hl.1 rfl (Nat.le_of_ble_eq_true rfl) dX4_takeAway_17) rfl ?_
    by_cases c8 : r6 = 1
    · have hf := g_ifT c8 hf
      subst c8
      refine va_get (D := G.1) (ci := 2) (v := .ref (a 3)) (C := RX3) (T := TX3) (N := 3) hx hb hts hX3 hown hK.1 hP 1 rfl rfl 2 (by decide) (hts _ tw_45) (fun _ h9 => h9) rfl dX4_takeAway_20 ?_
      refine lv_iload_n hx hb dX4_takeAway_23 rfl (lv_at hl 1 rfl) ?_
      obtain ⟨g9, hf⟩ := g_gdS hf
      refine va_iald hx hb hK.1 hP 3 0 rfl rfl (g_in_vp g9) dX4_takeAway_24 ?_
      refine lv_iconst (v := (-1 : Int32)) hx hb dX4_takeAway_25 (by decide) ?_
      refine lv_icmp_ne (tgt := 32) hx hb dX4_takeAway_26 (by decide) (fun c10 => ?_) (fun c10 => ?_)
      · have hf := g_ifF c10 hf
        refine lv_aload_n hx hb dX4_takeAway_32 rfl (lv_at hl 0 rfl) ?_
        refine lv_iload_n hx hb dX4_takeAway_33 rfl (lv_at hl 1 rfl) ?_
        refine lv_iconst (v := (-1 : Int32)) hx hb dX4_takeAway_34 (by decide) ?_
        obtain ⟨r11, e12, hf⟩ := g_bdS hf
        refine g_contC (st1 := [.int r11.1]) (g_runVC (As := [.int p0, .int (-1 : Int32)]) (rest := []) ⟨hx, hb, hml, hown, hts⟩ (qX4_put l G a e12) (cwV 2 hts (TB_V TB_id tw_325 tw_327 tw_2 tw_6 tw_328) rfl rfl rfl (by decide +kernel) ⟨Nat.le_of_ble_eq_true rfl, Nat.le_of_ble_eq_true rfl⟩) hK (hP.sub [0, 1, 2, 3, 4, 5, 6, 7, 8, 9, 10, 11, 12, 13] rfl) (hD.sub [0, 1, 2, 3, 4, 5, 6, 7, 8, 9, 10, 11, 12, 13] (by decide) rfl) 0 rfl rfl rfl hl.1 rfl (Nat.le_of_ble_eq_true rfl) dX4_takeAway_35) rfl hP hD hS hA [0, 1, 2, 3, 4, 5, 6, 7, 8, 9, 10, 11, 12, 13] rfl rfl (fun H locs hP hD hS => ?_)
        have hP : va_P G.1 vwCl [((a 0), .inr (3, [.int r11.2.1, .int r11.2.2.1, .int r11.2.2.2.1, .int r11.2.2.2.2.1, .ref (a 1), .ref (a 4), .ref (a 7), .ref (a 11), .int r11.2.2.2.2.2.2.2.2.2.2.2.2.2.2.1, .ref (a 12), .ref (a 13)])), ((a 1), .inr (2, [.int 0, .ref (a 2), .ref (a 3)])), ((a 2), .inl (G.2.1, 31, .inl r11.2.2.2.2.2.1)), ((a 3), .inl (G.2.1, 31, .inl r11.2.2.2.2.2.2.1)), ((a 4), .inr (2, [.int 1, .ref (a 5), .ref (a 6)])), ((a 5), .inl (G.2.1, 31, .inl r11.2.2.2.2.2.2.2.1)), ((a 6), .inl (G.2.1, 31, .inl r11.2.2.2.2.2.2.2.2.1)), ((a 7), .inr (1, [.int r11.2.2.2.2.2.2.2.2.2.1, .ref (a 8), .ref (a 9), .ref (a 10)])), ((a 8), .inl (G.2.1, 8, .inl r11.2.2.2.2.2.2.2.2.2.2.1)), ((a 9), .inl (G.2.1, 8, .inl r11.2.2.2.2.2.2.2.2.2.2.2.1)), ((a 10), .inl (G.2.1, 8, .inl r11.2.2.2.2.2.2.2.2.2.2.2.2.1)), ((a 11), .inl (G.2.1, 31, .inl r11.2.2.2.2.2.2.2.2.2.2.2.2.2.1)), ((a 12), .inl (G.2.1, 3, .inl r11.2.2.2.2.2.2.2.2.2.2.2.2.2.2.2.1)), ((a 13), .inl (G.2.1, 3, .inl r11.2.2.2.2.2.2.2.2.2.2.2.2.2.2.2.2))] H := hP
        have hD : va_D (va_A (tabW G a ph la po lo ov orr nv nr ql qk qv qr wr wa wc wk) s.heap.size) [((a 0), .inr (3, [.int r11.2.1, .int r11.2.2.1, .int r11.2.2.2.1, .int r11.2.2.2.2.1, .ref (a 1), .ref (a 4), .ref (a 7), .ref (a 11), .int r11.2.2.2.2.2.2.2.2.2.2.2.2.2.2.1, .ref (a 12), .ref (a 13)])), ((a 1), .inr (2, [.int 0, .ref (a 2), .ref (a 3)])), ((a 2), .inl (G.2.1, 31, .inl r11.2.2.2.2.2.1)), ((a 3), .inl (G.2.1, 31, .inl r11.2.2.2.2.2.2.1)), ((a 4), .inr (2, [.int 1, .ref (a 5), .ref (a 6)])), ((a 5), .inl (G.2.1, 31, .inl r11.2.2.2.2.2.2.2.1)), ((a 6), .inl (G.2.1, 31, .inl r11.2.2.2.2.2.2.2.2.1)), ((a 7), .inr (1, [.int r11.2.2.2.2.2.2.2.2.2.1, .ref (a 8), .ref (a 9), .ref (a 10)])), ((a 8), .inl (G.2.1, 8, .inl r11.2.2.2.2.2.2.2.2.2.2.1)), ((a 9), .inl (G.2.1, 8, .inl r11.2.2.2.2.2.2.2.2.2.2.2.1)), ((a 10), .inl (G.2.1, 8, .inl r11.2.2.2.2.2.2.2.2.2.2.2.2.1)), ((a 11), .inl (G.2.1, 31, .inl r11.2.2.2.2.2.2.2.2.2.2.2.2.2.1)), ((a 12), .inl (G.2.1, 3, .inl r11.2.2.2.2.2.2.2.2.2.2.2.2.2.2.2.1)), ((a 13), .inl (G.2.1, 3, .inl r11.2.2.2.2.2.2.2.2.2.2.2.2.2.2.2.2))] := hD
        cases hf
        exact g_iretC hx hb hr hlocks hP hD hS dX4_takeAway_38
      · have hf := g_ifT c10 hf
        refine lv_ldc (v := (-1000002 : Int32)) hx hb hown (hts _ tw_367) dX4_takeAway_29 ?_
        cases hf
        exact g_iretC hx hb hr hlocks hP hD hS dX4_takeAway_31
    have hf := g_ifF c8 hf
    by_cases c13 : r6 = 4
    · have hf := g_ifT c13 hf
      subst c13
      refine va_get (D := G.1) (ci := 2) (v := .ref (a 6)) (C := RX3) (T := TX3) (N := 3) hx hb hts hX3 hown hK.1 hP 4 rfl rfl 2 (by decide) (hts _ tw_45) (fun _ h9 => h9) rfl dX4_takeAway_20 ?_
      refine lv_iload_n hx hb dX4_takeAway_23 rfl (lv_at hl 1 rfl) ?_
      obtain ⟨g14, hf⟩ := g_gdS hf
      refine va_iald hx hb hK.1 hP 6 0 rfl rfl (g_in_vp g14) dX4_takeAway_24 ?_
      refine lv_iconst (v := (-1 : Int32)) hx hb dX4_takeAway_25 (by decide) ?_
      refine lv_icmp_ne (tgt := 32) hx hb dX4_takeAway_26 (by decide) (fun c15 => ?_) (fun c15 => ?_)
      · have hf := g_ifF c15 hf
        refine lv_aload_n hx hb dX4_takeAway_32 rfl (lv_at hl 0 rfl) ?_
        refine lv_iload_n hx hb dX4_takeAway_33 rfl (lv_at hl 1 rfl) ?_
        refine lv_iconst (v := (-1 : Int32)) hx hb dX4_takeAway_34 (by decide) ?_
        obtain ⟨r16, e17, hf⟩ := g_bdS hf
        refine g_contC (st1 := [.int r16.1]) (g_runVC (As := [.int p0, .int (-1 : Int32)]) (rest := []) ⟨hx, hb, hml, hown, hts⟩ (qX4_put l G a e17) (cwV 2 hts (TB_V TB_id tw_325 tw_327 tw_2 tw_6 tw_328) rfl rfl rfl (by decide +kernel) ⟨Nat.le_of_ble_eq_true rfl, Nat.le_of_ble_eq_true rfl⟩) hK (hP.sub [0, 1, 2, 3, 4, 5, 6, 7, 8, 9, 10, 11, 12, 13] rfl) (hD.sub [0, 1, 2, 3, 4, 5, 6, 7, 8, 9, 10, 11, 12, 13] (by decide) rfl) 0 rfl rfl rfl hl.1 rfl (Nat.le_of_ble_eq_true rfl) dX4_takeAway_35) rfl hP hD hS hA [0, 1, 2, 3, 4, 5, 6, 7, 8, 9, 10, 11, 12, 13] rfl rfl (fun H locs hP hD hS => ?_)
        have hP : va_P G.1 vwCl [((a 0), .inr (3, [.int r16.2.1, .int r16.2.2.1, .int r16.2.2.2.1, .int r16.2.2.2.2.1, .ref (a 1), .ref (a 4), .ref (a 7), .ref (a 11), .int r16.2.2.2.2.2.2.2.2.2.2.2.2.2.2.1, .ref (a 12), .ref (a 13)])), ((a 1), .inr (2, [.int 0, .ref (a 2), .ref (a 3)])), ((a 2), .inl (G.2.1, 31, .inl r16.2.2.2.2.2.1)), ((a 3), .inl (G.2.1, 31, .inl r16.2.2.2.2.2.2.1)), ((a 4), .inr (2, [.int 1, .ref (a 5), .ref (a 6)])), ((a 5), .inl (G.2.1, 31, .inl r16.2.2.2.2.2.2.2.1)), ((a 6), .inl (G.2.1, 31, .inl r16.2.2.2.2.2.2.2.2.1)), ((a 7), .inr (1, [.int r16.2.2.2.2.2.2.2.2.2.1, .ref (a 8), .ref (a 9), .ref (a 10)])), ((a 8), .inl (G.2.1, 8, .inl r16.2.2.2.2.2.2.2.2.2.2.1)), ((a 9), .inl (G.2.1, 8, .inl r16.2.2.2.2.2.2.2.2.2.2.2.1)), ((a 10), .inl (G.2.1, 8, .inl r16.2.2.2.2.2.2.2.2.2.2.2.2.1)), ((a 11), .inl (G.2.1, 31, .inl r16.2.2.2.2.2.2.2.2.2.2.2.2.2.1)), ((a 12), .inl (G.2.1, 3, .inl r16.2.2.2.2.2.2.2.2.2.2.2.2.2.2.2.1)), ((a 13), .inl (G.2.1, 3, .inl r16.2.2.2.2.2.2.2.2.2.2.2.2.2.2.2.2))] H := hP
        have hD : va_D (va_A (tabW G a ph la po lo ov orr nv nr ql qk qv qr wr wa wc wk) s.heap.size) [((a 0), .inr (3, [.int r16.2.1, .int r16.2.2.1, .int r16.2.2.2.1, .int r16.2.2.2.2.1, .ref (a 1), .ref (a 4), .ref (a 7), .ref (a 11), .int r16.2.2.2.2.2.2.2.2.2.2.2.2.2.2.1, .ref (a 12), .ref (a 13)])), ((a 1), .inr (2, [.int 0, .ref (a 2), .ref (a 3)])), ((a 2), .inl (G.2.1, 31, .inl r16.2.2.2.2.2.1)), ((a 3), .inl (G.2.1, 31, .inl r16.2.2.2.2.2.2.1)), ((a 4), .inr (2, [.int 1, .ref (a 5), .ref (a 6)])), ((a 5), .inl (G.2.1, 31, .inl r16.2.2.2.2.2.2.2.1)), ((a 6), .inl (G.2.1, 31, .inl r16.2.2.2.2.2.2.2.2.1)), ((a 7), .inr (1, [.int r16.2.2.2.2.2.2.2.2.2.1, .ref (a 8), .ref (a 9), .ref (a 10)])), ((a 8), .inl (G.2.1, 8, .inl r16.2.2.2.2.2.2.2.2.2.2.1)), ((a 9), .inl (G.2.1, 8, .inl r16.2.2.2.2.2.2.2.2.2.2.2.1)), ((a 10), .inl (G.2.1, 8, .inl r16.2.2.2.2.2.2.2.2.2.2.2.2.1)), ((a 11), .inl (G.2.1, 31, .inl r16.2.2.2.2.2.2.2.2.2.2.2.2.2.1)), ((a 12), .inl (G.2.1, 3, .inl r16.2.2.2.2.2.2.2.2.2.2.2.2.2.2.2.1)), ((a 13), .inl (G.2.1, 3, .inl r16.2.2.2.2.2.2.2.2.2.2.2.2.2.2.2.2))] := hD
        cases hf
        exact g_iretC hx hb hr hlocks hP hD hS dX4_takeAway_38
      · have hf := g_ifT c15 hf
        refine lv_ldc (v := (-1000002 : Int32)) hx hb hown (hts _ tw_367) dX4_takeAway_29 ?_
        cases hf
        exact g_iretC hx hb hr hlocks hP hD hS dX4_takeAway_31
    have hf := g_ifF c13 hf
    cases hf
  · have hf := g_ifT c3 hf
    refine lv_ldc (v := (-1000001 : Int32)) hx hb hown (hts _ tw_192) dX4_takeAway_9 ?_
    cases hf
    exact g_iretC hx hb hr hlocks hP hD hS dX4_takeAway_11
