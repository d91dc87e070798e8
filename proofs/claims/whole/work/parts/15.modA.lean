-- TwoShapesModel.in(III)Z
abbrev rmX6_in : Room := { frames := 0, cells := 0, slots := 0, locals := 0 }
def fX6_in (p0 : Int32) (p1 : Int32) (p2 : Int32) : Option (Int32) := (if p0 < p1 then some ((0 : Int32)) else (if p2 < p0 then some ((0 : Int32)) else some ((1 : Int32))))
set_option maxHeartbeats 4000000 in
set_option maxRecDepth 100000 in
theorem qX6_in (l : Launch) (G : gT)  {p0 : Int32} {p1 : Int32} {p2 : Int32} {u : Int32} (hf : fX6_in p0 p1 p2 = some u) : gR l G yX6_in wsX6_in rmX6_in [.int p0, .int p1, .int p2] [] (some (.int u)) := by
  refine gR.of (cc := cX6_in) (maxL := 3) (ret := (some .boolean)) (by decide) rfl (Nat.le_of_ble_eq_true rfl) ?_
  intro p e s m below meth c C0 hP ls hl
  obtain ⟨hx, hb, hr, hts, hown, hlocks, hml, hK⟩ := id C0
  have hl : lv_has ls 3 [(0, .int p0), (1, .int p1), (2, .int p2)] := hl
  have hP : va_P G.1 vwCl [] s.heap := hP
  unfold fX6_in at hf
  refine lv_iload_n hx hb dX6_in_0 rfl (lv_at hl 0 rfl) ?_
  refine lv_iload_n hx hb dX6_in_1 rfl (lv_at hl 1 rfl) ?_
  refine lv_icmp_lt (tgt := 14) hx hb dX6_in_2 (by decide) (fun c1 => ?_) (fun c1 => ?_)
  · have hf := g_ifT c1 hf
    refine lv_iconst (v := (0 : Int32)) hx hb dX6_in_14 (by decide) ?_
    cases hf
    exact g_zretR hx hb hr hlocks g_nb0 dX6_in_15
  · have hf := g_ifF c1 hf
    refine lv_iload_n hx hb dX6_in_5 rfl (lv_at hl 0 rfl) ?_
    refine lv_iload_n hx hb dX6_in_6 rfl (lv_at hl 2 rfl) ?_
    refine lv_icmp_gt (tgt := 14) hx hb dX6_in_7 (by decide) (fun c2 => ?_) (fun c2 => ?_)
    · have hf := g_ifT c2 hf
      refine lv_iconst (v := (0 : Int32)) hx hb dX6_in_14 (by decide) ?_
      cases hf
      exact g_zretR hx hb hr hlocks g_nb0 dX6_in_15
    · have hf := g_ifF c2 hf
      refine lv_iconst (v := (1 : Int32)) hx hb dX6_in_10 (by decide) ?_
      refine lv_goto (tgt := 15) hx hb dX6_in_11 (by decide) ?_
      cases hf
      exact g_zretR hx hb hr hlocks g_nb1 dX6_in_15
-- TwoShapesModel.place(II)I
abbrev rmX6_place : Room := { frames := 0, cells := 0, slots := 0, locals := 0 }
def fX6_place (p0 : Int32) (p1 : Int32) : Option (Int32) := some ((((101 : Int32) + ((155 : Int32) * p0)) + ((5 : Int32) * p1)))
set_option maxHeartbeats 4000000 in
set_option maxRecDepth 100000 in
theorem qX6_place (l : Launch) (G : gT)  {p0 : Int32} {p1 : Int32} {u : Int32} (hf : fX6_place p0 p1 = some u) : gR l G yX6_place wsX6_place rmX6_place [.int p0, .int p1] [] (some (.int u)) := by
  refine gR.of (cc := cX6_place) (maxL := 2) (ret := (some .int)) (by decide) rfl (Nat.le_of_ble_eq_true rfl) ?_
  intro p e s m below meth c C0 hP ls hl
  obtain ⟨hx, hb, hr, hts, hown, hlocks, hml, hK⟩ := id C0
  have hl : lv_has ls 2 [(0, .int p0), (1, .int p1)] := hl
  have hP : va_P G.1 vwCl [] s.heap := hP
  unfold fX6_place at hf
  refine lv_bipush (v := (101 : Int32)) hx hb dX6_place_0 (by decide) ?_
  refine lv_sipush (v := (155 : Int32)) hx hb dX6_place_2 (by decide) ?_
  refine lv_iload_n hx hb dX6_place_5 rfl (lv_at hl 0 rfl) ?_
  refine lv_imul hx hb dX6_place_6 ?_
  refine lv_iadd hx hb dX6_place_7 ?_
  refine lv_iconst (v := (5 : Int32)) hx hb dX6_place_8 (by decide) ?_
  refine lv_iload_n hx hb dX6_place_9 rfl (lv_at hl 1 rfl) ?_
  refine lv_imul hx hb dX6_place_10 ?_
  refine lv_iadd hx hb dX6_place_11 ?_
  cases hf
  exact g_iretR hx hb hr hlocks dX6_place_12
-- TwoShapesModel.of(III)I
abbrev rmX6_of : Room := { frames := 1, cells := 0, slots := 0, locals := 21 }
def fX6_of (p0 : Int32) (p1 : Int32) (p2 : Int32) (ss : Nat → Int32) (was : Nat → Int32) (beg : Nat → Int32) (asi : Nat → Int32) (sta : Int32) (txt : Nat → Int32) (typ : Int32) (att : Int32) (rea : Int32) (got : Nat → Int32) (row : Nat → Int32) (oth : Nat → Int32) : Option (Int32) := ((fX6_place p0 p1).bind fun r1 => g_gd (g_in (r1 + p2) 411) (some ((ss (r1 + p2).toNatClampNeg))))
set_option maxHeartbeats 4000000 in
set_option maxRecDepth 100000 in
theorem qX6_of (l : Launch) (G : gT) (a : Nat → Nat) {p0 : Int32} {p1 : Int32} {p2 : Int32} {ss : Nat → Int32} {was : Nat → Int32} {beg : Nat → Int32} {asi : Nat → Int32} {sta : Int32} {txt : Nat → Int32} {typ : Int32} {att : Int32} {rea : Int32} {got : Nat → Int32} {row : Nat → Int32} {oth : Nat → Int32} {u : Int32} (hf : fX6_of p0 p1 p2 ss was beg asi sta txt typ att rea got row oth = some u) : gR l G yX6_of wsX6_of rmX6_of [.ref (a 0), .int p0, .int p1, .int p2] (modW G a ss was beg asi sta txt typ att rea got row oth) (some (.int u)) := by
  refine gR.of (cc := cX6_of) (maxL := 4) (ret := (some .int)) (by decide) rfl (Nat.le_of_ble_eq_true rfl) ?_
  intro p e s m below meth c C0 hP ls hl
  obtain ⟨hx, hb, hr, hts, hown, hlocks, hml, hK⟩ := id C0
  have hl : lv_has ls 4 [(0, .ref (a 0)), (1, .int p0), (2, .int p1), (3, .int p2)] := hl
  have hP : va_P G.1 vwCl [((a 0), .inr (5, [.ref (a 1), .ref (a 2), .ref (a 3), .ref (a 4), .int sta, .ref (a 5), .int typ, .int att, .int rea, .ref (a 6), .ref (a 7), .ref (a 8)])), ((a 1), .inl (G.2.1, 411, .inl ss)), ((a 2), .inl (G.2.1, 1644, .inl was)), ((a 3), .inl (G.2.1, 411, .inl beg)), ((a 4), .inl (G.2.1, 411, .inl asi)), ((a 5), .inl (G.2.2.1, 60, .inl txt)), ((a 6), .inl (G.2.1, 4, .inl got)), ((a 7), .inl (G.2.1, 4, .inl row)), ((a 8), .inl (G.2.1, 4, .inl oth))] s.heap := hP
  unfold fX6_of at hf
  refine lv_aload_n hx hb dX6_of_0 rfl (lv_at hl 0 rfl) ?_
  refine va_get (D := G.1) (ci := 5) (v := .ref (a 1)) (C := RX6) (T := TX6) (N := 12) hx hb hts hX6 hown hK.1 hP 0 rfl rfl 0 (by decide) (hts _ tw_588) (fun _ h9 => h9) rfl dX6_of_1 ?_
  refine lv_iload_n hx hb dX6_of_4 rfl (lv_at hl 1 rfl) ?_
  refine lv_iload_n hx hb dX6_of_5 rfl (lv_at hl 2 rfl) ?_
  obtain ⟨r1, e2, hf⟩ := g_bdS hf
  refine g_contR (st1 := [.int r1, .ref (a 1)]) (g_runSR (As := [.int p0, .int p1]) (rest := [.ref (a 1)]) ⟨hx, hb, hml, hown, hts⟩ (qX6_place l G e2) (va_cwS 2 hts (TB_S TB_id tw_647 tw_648 tw_54 tw_649) rfl rfl rfl (by decide +kernel) ⟨Nat.le_of_ble_eq_true rfl, Nat.le_of_ble_eq_true rfl⟩) hK (hP.sub [] rfl) rfl hl.1 rfl (Nat.le_of_ble_eq_true rfl) dX6_of_6) rfl ?_
  refine lv_iload_n hx hb dX6_of_9 rfl (lv_at hl 3 rfl) ?_
  refine lv_iadd hx hb dX6_of_10 ?_
  obtain ⟨g3, hf⟩ := g_gdS hf
  refine va_iald hx hb hK.1 hP 1 0 rfl rfl (g_in_vp g3) dX6_of_11 ?_
  cases hf
  exact g_iretR hx hb hr hlocks dX6_of_12
-- TwoShapesModel.isThere(I)Z
abbrev rmX6_isThere : Room := { frames := 0, cells := 0, slots := 0, locals := 0 }
def fX6_isThere (p0 : Int32) (ss : Nat → Int32) (was : Nat → Int32) (beg : Nat → Int32) (asi : Nat → Int32) (sta : Int32) (txt : Nat → Int32) (typ : Int32) (att : Int32) (rea : Int32) (got : Nat → Int32) (row : Nat → Int32) (oth : Nat → Int32) : Option (Int32) := (if p0 = (0 : Int32) then g_gd (g_in (0 : Int32) 411) ((if (3 : Int32) ≤ (ss (0 : Int32).toNatClampNeg) then some ((0 : Int32)) else some ((1 : Int32)))) else g_gd (g_in (0 : Int32) 411) ((if (ss (0 : Int32).toNatClampNeg) ≤ (0 : Int32) then some ((0 : Int32)) else some ((1 : Int32)))))
set_option maxHeartbeats 4000000 in
set_option maxRecDepth 100000 in
theorem qX6_isThere (l : Launch) (G : gT) (a : Nat → Nat) {p0 : Int32} {ss : Nat → Int32} {was : Nat → Int32} {beg : Nat → Int32} {asi : Nat → Int32} {sta : Int32} {txt : Nat → Int32} {typ : Int32} {att : Int32} {rea : Int32} {got : Nat → Int32} {row : Nat → Int32} {oth : Nat → Int32} {u : Int32} (hf : fX6_isThere p0 ss was beg asi sta txt typ att rea got row oth = some u) : gR l G yX6_isThere wsX6_isThere rmX6_isThere [.ref (a 0), .int p0] (modW G a ss was beg asi sta txt typ att rea got row oth) (some (.int u)) := by
  refine gR.of (cc := cX6_isThere) (maxL := 2) (ret := (some .boolean)) (by decide) rfl (Nat.le_of_ble_eq_true rfl) ?_
  intro p e s m below meth c C0 hP ls hl
  obtain ⟨hx, hb, hr, hts, hown, hlocks, hml, hK⟩ := id C0
  have hl : lv_has ls 2 [(0, .ref (a 0)), (1, .int p0)] := hl
  have hP : va_P G.1 vwCl [((a 0), .inr (5, [.ref (a 1), .ref (a 2), .ref (a 3), .ref (a 4), .int sta, .ref (a 5), .int typ, .int att, .int rea, .ref (a 6), .ref (a 7), .ref (a 8)])), ((a 1), .inl (G.2.1, 411, .inl ss)), ((a 2), .inl (G.2.1, 1644, .inl was)), ((a 3), .inl (G.2.1, 411, .inl beg)), ((a 4), .inl (G.2.1, 411, .inl asi)), ((a 5), .inl (G.2.2.1, 60, .inl txt)), ((a 6), .inl (G.2.1, 4, .inl got)), ((a 7), .inl (G.2.1, 4, .inl row)), ((a 8), .inl (G.2.1, 4, .inl oth))] s.heap := hP
  unfold fX6_isThere at hf
  refine lv_iload_n hx hb dX6_isThere_0 rfl (lv_at hl 1 rfl) ?_
  refine lv_if_ne (tgt := 22) hx hb dX6_isThere_1 (by decide) (fun c1 => ?_) (fun c1 => ?_)
  · have hf := g_ifF c1 hf
    refine lv_aload_n hx hb dX6_isThere_22 rfl (lv_at hl 0 rfl) ?_
    refine va_get (D := G.1) (ci := 5) (v := .ref (a 1)) (C := RX6) (T := TX6) (N := 12) hx hb hts hX6 hown hK.1 hP 0 rfl rfl 0 (by decide) (hts _ tw_588) (fun _ h9 => h9) rfl dX6_isThere_23 ?_
    refine lv_iconst (v := (0 : Int32)) hx hb dX6_isThere_26 (by decide) ?_
    obtain ⟨g2, hf⟩ := g_gdS hf
    refine va_iald hx hb hK.1 hP 1 0 rfl rfl (g_in_vp g2) dX6_isThere_27 ?_
    refine lv_if_le (tgt := 35) hx hb dX6_isThere_28 (by decide) (fun c3 => ?_) (fun c3 => ?_)
    · have hf := g_ifT c3 hf
      refine lv_iconst (v := (0 : Int32)) hx hb dX6_isThere_35 (by decide) ?_
      cases hf
      exact g_zretR hx hb hr hlocks g_nb0 dX6_isThere_36
    · have hf := g_ifF c3 hf
      refine lv_iconst (v := (1 : Int32)) hx hb dX6_isThere_31 (by decide) ?_
      refine lv_goto (tgt := 36) hx hb dX6_isThere_32 (by decide) ?_
      cases hf
      exact g_zretR hx hb hr hlocks g_nb1 dX6_isThere_36
  · have hf := g_ifT c1 hf
    refine lv_aload_n hx hb dX6_isThere_4 rfl (lv_at hl 0 rfl) ?_
    refine va_get (D := G.1) (ci := 5) (v := .ref (a 1)) (C := RX6) (T := TX6) (N := 12) hx hb hts hX6 hown hK.1 hP 0 rfl rfl 0 (by decide) (hts _ tw_588) (fun _ h9 => h9) rfl dX6_isThere_5 ?_
    refine lv_iconst (v := (0 : Int32)) hx hb dX6_isThere_8 (by decide) ?_
    obtain ⟨g4, hf⟩ := g_gdS hf
    refine va_iald hx hb hK.1 hP 1 0 rfl rfl (g_in_vp g4) dX6_isThere_9 ?_
    refine lv_iconst (v := (3 : Int32)) hx hb dX6_isThere_10 (by decide) ?_
    refine lv_icmp_ge (tgt := 18) hx hb dX6_isThere_11 (by decide) (fun c5 => ?_) (fun c5 => ?_)
    · have hf := g_ifT c5 hf
      refine lv_iconst (v := (0 : Int32)) hx hb dX6_isThere_18 (by decide) ?_
      refine lv_goto (tgt := 36) hx hb dX6_isThere_19 (by decide) ?_
      cases hf
      exact g_zretR hx hb hr hlocks g_nb0 dX6_isThere_36
    · have hf := g_ifF c5 hf
      refine lv_iconst (v := (1 : Int32)) hx hb dX6_isThere_14 (by decide) ?_
      refine lv_goto (tgt := 36) hx hb dX6_isThere_15 (by decide) ?_
      cases hf
      exact g_zretR hx hb hr hlocks g_nb1 dX6_isThere_36
-- TwoShapesModel.areBoth()Z
abbrev rmX6_areBoth : Room := { frames := 0, cells := 0, slots := 0, locals := 0 }
def fX6_areBoth (ss : Nat → Int32) (was : Nat → Int32) (beg : Nat → Int32) (asi : Nat → Int32) (sta : Int32) (txt : Nat → Int32) (typ : Int32) (att : Int32) (rea : Int32) (got : Nat → Int32) (row : Nat → Int32) (oth : Nat → Int32) : Option (Int32) := g_gd (g_in (0 : Int32) 411) ((if (ss (0 : Int32).toNatClampNeg) = (1 : Int32) then some ((1 : Int32)) else g_gd (g_in (0 : Int32) 411) ((if (ss (0 : Int32).toNatClampNeg) = (2 : Int32) then some ((1 : Int32)) else some ((0 : Int32))))))
set_option maxHeartbeats 4000000 in
set_option maxRecDepth 100000 in
theorem qX6_areBoth (l : Launch) (G : gT) (a : Nat → Nat) {ss : Nat → Int32} {was : Nat → Int32} {beg : Nat → Int32} {asi : Nat → Int32} {sta : Int32} {txt : Nat → Int32} {typ : Int32} {att : Int32} {rea : Int32} {got : Nat → Int32} {row : Nat → Int32} {oth : Nat → Int32} {u : Int32} (hf : fX6_areBoth ss was beg asi sta txt typ att rea got row oth = some u) : gR l G yX6_areBoth wsX6_areBoth rmX6_areBoth [.ref (a 0)] (modW G a ss was beg asi sta txt typ att rea got row oth) (some (.int u)) := by
  refine gR.of (cc := cX6_areBoth) (maxL := 1) (ret := (some .boolean)) (by decide) rfl (Nat.le_of_ble_eq_true rfl) ?_
  intro p e s m below meth c C0 hP ls hl
  obtain ⟨hx, hb, hr, hts, hown, hlocks, hml, hK⟩ := id C0
  have hl : lv_has ls 1 [(0, .ref (a 0))] := hl
  have hP : va_P G.1 vwCl [((a 0), .inr (5, [.ref (a 1), .ref (a 2), .ref (a 3), .ref (a 4), .int sta, .ref (a 5), .int typ, .int att, .int rea, .ref (a 6), .ref (a 7), .ref (a 8)])), ((a 1), .inl (G.2.1, 411, .inl ss)), ((a 2), .inl (G.2.1, 1644, .inl was)), ((a 3), .inl (G.2.1, 411, .inl beg)), ((a 4), .inl (G.2.1, 411, .inl asi)), ((a 5), .inl (G.2.2.1, 60, .inl txt)), ((a 6), .inl (G.2.1, 4, .inl got)), ((a 7), .inl (G.2.1, 4, .inl row)), ((a 8), .inl (G.2.1, 4, .inl oth))] s.heap := hP
  unfold fX6_areBoth at hf
  refine lv_aload_n hx hb dX6_areBoth_0 rfl (lv_at hl 0 rfl) ?_
  refine va_get (D := G.1) (ci := 5) (v := .ref (a 1)) (C := RX6) (T := TX6) (N := 12) hx hb hts hX6 hown hK.1 hP 0 rfl rfl 0 (by decide) (hts _ tw_588) (fun _ h9 => h9) rfl dX6_areBoth_1 ?_
  refine lv_iconst (v := (0 : Int32)) hx hb dX6_areBoth_4 (by decide) ?_
  obtain ⟨g1, hf⟩ := g_gdS hf
  refine va_iald hx hb hK.1 hP 1 0 rfl rfl (g_in_vp g1) dX6_areBoth_5 ?_
  refine lv_iconst (v := (1 : Int32)) hx hb dX6_areBoth_6 (by decide) ?_
  refine lv_icmp_eq (tgt := 20) hx hb dX6_areBoth_7 (by decide) (fun c2 => ?_) (fun c2 => ?_)
  · have hf := g_ifT c2 hf
    refine lv_iconst (v := (1 : Int32)) hx hb dX6_areBoth_20 (by decide) ?_
    refine lv_goto (tgt := 25) hx hb dX6_areBoth_21 (by decide) ?_
    cases hf
    exact g_zretR hx hb hr hlocks g_nb1 dX6_areBoth_25
  · have hf := g_ifF c2 hf
    refine lv_aload_n hx hb dX6_areBoth_10 rfl (lv_at hl 0 rfl) ?_
    refine va_get (D := G.1) (ci := 5) (v := .ref (a 1)) (C := RX6) (T := TX6) (N := 12) hx hb hts hX6 hown hK.1 hP 0 rfl rfl 0 (by decide) (hts _ tw_588) (fun _ h9 => h9) rfl dX6_areBoth_11 ?_
    refine lv_iconst (v := (0 : Int32)) hx hb dX6_areBoth_14 (by decide) ?_
    obtain ⟨g3, hf⟩ := g_gdS hf
    refine va_iald hx hb hK.1 hP 1 0 rfl rfl (g_in_vp g3) dX6_areBoth_15 ?_
    refine lv_iconst (v := (2 : Int32)) hx hb dX6_areBoth_16 (by decide) ?_
    refine lv_icmp_ne (tgt := 24) hx hb dX6_areBoth_17 (by decide) (fun c4 => ?_) (fun c4 => ?_)
    · have hf := g_ifF c4 hf
      refine lv_iconst (v := (0 : Int32)) hx hb dX6_areBoth_24 (by decide) ?_
      cases hf
      exact g_zretR hx hb hr hlocks g_nb0 dX6_areBoth_25
    · have hf := g_ifT c4 hf
      refine lv_iconst (v := (1 : Int32)) hx hb dX6_areBoth_20 (by decide) ?_
      refine lv_goto (tgt := 25) hx hb dX6_areBoth_21 (by decide) ?_
      cases hf
      exact g_zretR hx hb hr hlocks g_nb1 dX6_areBoth_25
-- TwoShapesModel.first()I
abbrev rmX6_first : Room := { frames := 0, cells := 0, slots := 0, locals := 0 }
def fX6_first (ss : Nat → Int32) (was : Nat → Int32) (beg : Nat → Int32) (asi : Nat → Int32) (sta : Int32) (txt : Nat → Int32) (typ : Int32) (att : Int32) (rea : Int32) (got : Nat → Int32) (row : Nat → Int32) (oth : Nat → Int32) : Option (Int32) := g_gd (g_in (0 : Int32) 411) ((if (2 : Int32) ≤ (ss (0 : Int32).toNatClampNeg) then some ((1 : Int32)) else some ((0 : Int32))))
set_option maxHeartbeats 4000000 in
set_option maxRecDepth 100000 in
theorem qX6_first (l : Launch) (G : gT) (a : Nat → Nat) {ss : Nat → Int32} {was : Nat → Int32} {beg : Nat → Int32} {asi : Nat → Int32} {sta : Int32} {txt : Nat → Int32} {typ : Int32} {att : Int32} {rea : Int32} {got : Nat → Int32} {row : Nat → Int32} {oth : Nat → Int32} {u : Int32} (hf : fX6_first ss was beg asi sta txt typ att rea got row oth = some u) : gR l G yX6_first wsX6_first rmX6_first [.ref (a 0)] (modW G a ss was beg asi sta txt typ att rea got row oth) (some (.int u)) := by
  refine gR.of (cc := cX6_first) (maxL := 1) (ret := (some .int)) (by decide) rfl (Nat.le_of_ble_eq_true rfl) ?_
  intro p e s m below meth c C0 hP ls hl
  obtain ⟨hx, hb, hr, hts, hown, hlocks, hml, hK⟩ := id C0
  have hl : lv_has ls 1 [(0, .ref (a 0))] := hl
  have hP : va_P G.1 vwCl [((a 0), .inr (5, [.ref (a 1), .ref (a 2), .ref (a 3), .ref (a 4), .int sta, .ref (a 5), .int typ, .int att, .int rea, .ref (a 6), .ref (a 7), .ref (a 8)])), ((a 1), .inl (G.2.1, 411, .inl ss)), ((a 2), .inl (G.2.1, 1644, .inl was)), ((a 3), .inl (G.2.1, 411, .inl beg)), ((a 4), .inl (G.2.1, 411, .inl asi)), ((a 5), .inl (G.2.2.1, 60, .inl txt)), ((a 6), .inl (G.2.1, 4, .inl got)), ((a 7), .inl (G.2.1, 4, .inl row)), ((a 8), .inl (G.2.1, 4, .inl oth))] s.heap := hP
  unfold fX6_first at hf
  refine lv_aload_n hx hb dX6_first_0 rfl (lv_at hl 0 rfl) ?_
  refine va_get (D := G.1) (ci := 5) (v := .ref (a 1)) (C := RX6) (T := TX6) (N := 12) hx hb hts hX6 hown hK.1 hP 0 rfl rfl 0 (by decide) (hts _ tw_588) (fun _ h9 => h9) rfl dX6_first_1 ?_
  refine lv_iconst (v := (0 : Int32)) hx hb dX6_first_4 (by decide) ?_
  obtain ⟨g1, hf⟩ := g_gdS hf
  refine va_iald hx hb hK.1 hP 1 0 rfl rfl (g_in_vp g1) dX6_first_5 ?_
  refine lv_iconst (v := (2 : Int32)) hx hb dX6_first_6 (by decide) ?_
  refine lv_icmp_ge (tgt := 14) hx hb dX6_first_7 (by decide) (fun c2 => ?_) (fun c2 => ?_)
  · have hf := g_ifT c2 hf
    refine lv_iconst (v := (1 : Int32)) hx hb dX6_first_14 (by decide) ?_
    cases hf
    exact g_iretR hx hb hr hlocks dX6_first_15
  · have hf := g_ifF c2 hf
    refine lv_iconst (v := (0 : Int32)) hx hb dX6_first_10 (by decide) ?_
    refine lv_goto (tgt := 15) hx hb dX6_first_11 (by decide) ?_
    cases hf
    exact g_iretR hx hb hr hlocks dX6_first_15
-- TwoShapesModel.keeps()V
abbrev rmX6_keeps : Room := { frames := 0, cells := 0, slots := 0, locals := 0 }
def fX6_keeps_b2 : Nat → Int32 → (Nat → Int32) → (Nat → Int32) → (Nat → Int32) → (Nat → Int32) → Int32 → (Nat → Int32) → Int32 → Int32 → Int32 → (Nat → Int32) → (Nat → Int32) → (Nat → Int32) → Option ((Nat → Int32) × (Nat → Int32) × (Nat → Int32) × (Nat → Int32) × Int32 × (Nat → Int32) × Int32 × Int32 × Int32 × (Nat → Int32) × (Nat → Int32) × (Nat → Int32))
  | 0, _, _, _, _, _, _, _, _, _, _, _, _, _ => none
  | n + 1, x1, ss, was, beg, asi, sta, txt, typ, att, rea, got, row, oth => (if (411 : Int32) ≤ x1 then some (ss, was, beg, asi, sta, txt, typ, att, rea, got, row, oth) else g_gd (g_in x1 411) (g_gd (g_in x1 411) (fX6_keeps_b2 n (x1 + (1 : Int32)) ss was (upd beg x1.toNatClampNeg (ss x1.toNatClampNeg)) asi sta txt typ att rea got row oth)))
set_option maxHeartbeats 4000000 in
set_option maxRecDepth 100000 in
theorem kX6_keeps_b2 {p : Program} {l : Launch} {e : Env} {s : State} {m : MethodId} {args : Array Value} {below : List Frame} {meth : Method} {c : Code} {G : gT} {a : Nat → Nat} {w0 : va_W} (C0 : gX p s m args meth c cX6_keeps 2 none RX6 G) :
    ∀ (n : Nat) (x1 : Int32) (ss : Nat → Int32) (was : Nat → Int32) (beg : Nat → Int32) (asi : Nat → Int32) (sta : Int32) (txt : Nat → Int32) (typ : Int32) (att : Int32) (rea : Int32) (got : Nat → Int32) (row : Nat → Int32) (oth : Nat → Int32) (u : (Nat → Int32) × (Nat → Int32) × (Nat → Int32) × (Nat → Int32) × Int32 × (Nat → Int32) × Int32 × Int32 × Int32 × (Nat → Int32) × (Nat → Int32) × (Nat → Int32)), fX6_keeps_b2 n x1 ss was beg asi sta txt typ att rea got row oth = some u → ∀ (H : Heap) (locs : List Loc), va_P G.1 vwCl [((a 0), .inr (5, [.ref (a 1), .ref (a 2), .ref (a 3), .ref (a 4), .int sta, .ref (a 5), .int typ, .int att, .int rea, .ref (a 6), .ref (a 7), .ref (a 8)])), ((a 1), .inl (G.2.1, 411, .inl ss)), ((a 2), .inl (G.2.1, 1644, .inl was)), ((a 3), .inl (G.2.1, 411, .inl beg)), ((a 4), .inl (G.2.1, 411, .inl asi)), ((a 5), .inl (G.2.2.1, 60, .inl txt)), ((a 6), .inl (G.2.1, 4, .inl got)), ((a 7), .inl (G.2.1, 4, .inl row)), ((a 8), .inl (G.2.1, 4, .inl oth))] H → va_D (va_A w0 s.heap.size) [((a 0), .inr (5, [.ref (a 1), .ref (a 2), .ref (a 3), .ref (a 4), .int sta, .ref (a 5), .int typ, .int att, .int rea, .ref (a 6), .ref (a 7), .ref (a 8)])), ((a 1), .inl (G.2.1, 411, .inl ss)), ((a 2), .inl (G.2.1, 1644, .inl was)), ((a 3), .inl (G.2.1, 411, .inl beg)), ((a 4), .inl (G.2.1, 411, .inl asi)), ((a 5), .inl (G.2.2.1, 60, .inl txt)), ((a 6), .inl (G.2.1, 4, .inl got)), ((a 7), .inl (G.2.1, 4, .inl row)), ((a 8), .inl (G.2.1, 4, .inl oth))] → va_S (va_A w0 s.heap.size) s.heap H locs → ∀ ls, lv_has ls 2 [(0, .ref (a 0)), (1, .int x1)] → gW p l e (headSpec wsX6_keeps rmX6_keeps).room s m args below meth c G w0 none (modW G a u.1 u.2.1 u.2.2.1 u.2.2.2.1 u.2.2.2.2.1 u.2.2.2.2.2.1 u.2.2.2.2.2.2.1 u.2.2.2.2.2.2.2.1 u.2.2.2.2.2.2.2.2.1 u.2.2.2.2.2.2.2.2.2.1 u.2.2.2.2.2.2.2.2.2.2.1 u.2.2.2.2.2.2.2.2.2.2.2) H locs 2 ls [] := by
  obtain ⟨hx, hb, hr, hts, hown, hlocks, hml, hK⟩ := id C0
  have hA : ∀ q : Nat, s.heap.size ≤ q → va_A w0 s.heap.size q := fun q h => Or.inr h
  intro n
  induction n with
  | zero =>
    intro x1 ss was beg asi sta txt typ att rea got row oth u hf H locs hP hD hS ls hl
    have hf : (none : Option ((Nat → Int32) × (Nat → Int32) × (Nat → Int32) × (Nat → Int32) × Int32 × (Nat → Int32) × Int32 × Int32 × Int32 × (Nat → Int32) × (Nat → Int32) × (Nat → Int32))) = some u := hf
    cases hf
  | succ n ih =>
    intro x1 ss was beg asi sta txt typ att rea got row oth u hf H locs hP hD hS ls hl
    rw [fX6_keeps_b2] at hf
    refine lv_iload_n hx hb dX6_keeps_2 rfl (lv_at hl 1 rfl) ?_
    refine lv_sipush (v := (411 : Int32)) hx hb dX6_keeps_3 (by decide) ?_
    refine lv_icmp_ge (tgt := 27) hx hb dX6_keeps_6 (by decide) (fun c1 => ?_) (fun c1 => ?_)
    · have hf := g_ifT c1 hf
      cases hf
      exact g_vretC hx hb hr hlocks hP hD hS dX6_keeps_27
    · have hf := g_ifF c1 hf
      refine lv_aload_n hx hb dX6_keeps_9 rfl (lv_at hl 0 rfl) ?_
      refine va_get (D := G.1) (ci := 5) (v := .ref (a 3)) (C := RX6) (T := TX6) (N := 12) hx hb hts hX6 hown hK.1 hP 0 rfl rfl 2 (by decide) (hts _ tw_590) (fun _ h9 => h9) rfl dX6_keeps_10 ?_
      refine lv_iload_n hx hb dX6_keeps_13 rfl (lv_at hl 1 rfl) ?_
      refine lv_aload_n hx hb dX6_keeps_14 rfl (lv_at hl 0 rfl) ?_
      refine va_get (D := G.1) (ci := 5) (v := .ref (a 1)) (C := RX6) (T := TX6) (N := 12) hx hb hts hX6 hown hK.1 hP 0 rfl rfl 0 (by decide) (hts _ tw_588) (fun _ h9 => h9) rfl dX6_keeps_15 ?_
      refine lv_iload_n hx hb dX6_keeps_18 rfl (lv_at hl 1 rfl) ?_
      obtain ⟨g2, hf⟩ := g_gdS hf
      refine va_iald hx hb hK.1 hP 1 0 rfl rfl (g_in_vp g2) dX6_keeps_19 ?_
      obtain ⟨g3, hf⟩ := g_gdS hf
      refine va_iast hx hb hK.1 hP hD hS 3 0 rfl rfl (g_in_vp g3) dX6_keeps_20 (fun H locs hP hD hS => ?_)
      have hP : va_P G.1 vwCl [((a 0), .inr (5, [.ref (a 1), .ref (a 2), .ref (a 3), .ref (a 4), .int sta, .ref (a 5), .int typ, .int att, .int rea, .ref (a 6), .ref (a 7), .ref (a 8)])), ((a 1), .inl (G.2.1, 411, .inl ss)), ((a 2), .inl (G.2.1, 1644, .inl was)), ((a 3), .inl (G.2.1, 411, .inl (upd beg x1.toNatClampNeg (ss x1.toNatClampNeg)))), ((a 4), .inl (G.2.1, 411, .inl asi)), ((a 5), .inl (G.2.2.1, 60, .inl txt)), ((a 6), .inl (G.2.1, 4, .inl got)), ((a 7), .inl (G.2.1, 4, .inl row)), ((a 8), .inl (G.2.1, 4, .inl oth))] H := hP
      have hD : va_D (va_A w0 s.heap.size) [((a 0), .inr (5, [.ref (a 1), .ref (a 2), .ref (a 3), .ref (a 4), .int sta, .ref (a 5), .int typ, .int att, .int rea, .ref (a 6), .ref (a 7), .ref (a 8)])), ((a 1), .inl (G.2.1, 411, .inl ss)), ((a 2), .inl (G.2.1, 1644, .inl was)), ((a 3), .inl (G.2.1, 411, .inl (upd beg x1.toNatClampNeg (ss x1.toNatClampNeg)))), ((a 4), .inl (G.2.1, 411, .inl asi)), ((a 5), .inl (G.2.2.1, 60, .inl txt)), ((a 6), .inl (G.2.1, 4, .inl got)), ((a 7), .inl (G.2.1, 4, .inl row)), ((a 8), .inl (G.2.1, 4, .inl oth))] := hD
      refine lv_iinc (v := (x1 + (1 : Int32))) (lv' := [(1, .int (x1 + (1 : Int32))), (0, .ref (a 0))]) hx hb dX6_keeps_21 hl (k := 1) rfl rfl (by decide) rfl (fun ls hl => ?_)
      refine lv_goto (tgt := 2) hx hb dX6_keeps_24 (by decide) ?_
      exact ih _ _ _ _ _ _ _ _ _ _ _ _ _ _ hf _ _ hP hD hS ls (lv_sub hl [1, 0] rfl)
def fX6_keeps (ss : Nat → Int32) (was : Nat → Int32) (beg : Nat → Int32) (asi : Nat → Int32) (sta : Int32) (txt : Nat → Int32) (typ : Int32) (att : Int32) (rea : Int32) (got : Nat → Int32) (row : Nat → Int32) (oth : Nat → Int32) : Option ((Nat → Int32) × (Nat → Int32) × (Nat → Int32) × (Nat → Int32) × Int32 × (Nat → Int32) × Int32 × Int32 × Int32 × (Nat → Int32) × (Nat → Int32) × (Nat → Int32)) := fX6_keeps_b2 2000 (0 : Int32) ss was beg asi sta txt typ att rea got row oth
set_option maxHeartbeats 4000000 in
set_option maxRecDepth 100000 in
theorem qX6_keeps (l : Launch) (G : gT) (a : Nat → Nat) {ss : Nat → Int32} {was : Nat → Int32} {beg : Nat → Int32} {asi : Nat → Int32} {sta : Int32} {txt : Nat → Int32} {typ : Int32} {att : Int32} {rea : Int32} {got : Nat → Int32} {row : Nat → Int32} {oth : Nat → Int32} {u : (Nat → Int32) × (Nat → Int32) × (Nat → Int32) × (Nat → Int32) × Int32 × (Nat → Int32) × Int32 × Int32 × Int32 × (Nat → Int32) × (Nat → Int32) × (Nat → Int32)} (hf : fX6_keeps ss was beg asi sta txt typ att rea got row oth = some u) : gC l G yX6_keeps wsX6_keeps rmX6_keeps [.ref (a 0)] (modW G a ss was beg asi sta txt typ att rea got row oth) none (modW G a u.1 u.2.1 u.2.2.1 u.2.2.2.1 u.2.2.2.2.1 u.2.2.2.2.2.1 u.2.2.2.2.2.2.1 u.2.2.2.2.2.2.2.1 u.2.2.2.2.2.2.2.2.1 u.2.2.2.2.2.2.2.2.2.1 u.2.2.2.2.2.2.2.2.2.2.1 u.2.2.2.2.2.2.2.2.2.2.2) := by
  refine gC.of (cc := cX6_keeps) (maxL := 2) (ret := none) (by decide) rfl (Nat.le_of_ble_eq_true rfl) ?_
  intro p e s m below meth c C0 hP hD hS ls hl
  obtain ⟨hx, hb, hr, hts, hown, hlocks, hml, hK⟩ := id C0
  have hl : lv_has ls 2 [(0, .ref (a 0))] := hl
  have hA : ∀ q : Nat, s.heap.size ≤ q → va_A (modW G a ss was beg asi sta txt typ att rea got row oth) s.heap.size q := fun q h => Or.inr h
  have hP : va_P G.1 vwCl [((a 0), .inr (5, [.ref (a 1), .ref (a 2), .ref (a 3), .ref (a 4), .int sta, .ref (a 5), .int typ, .int att, .int rea, .ref (a 6), .ref (a 7), .ref (a 8)])), ((a 1), .inl (G.2.1, 411, .inl ss)), ((a 2), .inl (G.2.1, 1644, .inl was)), ((a 3), .inl (G.2.1, 411, .inl beg)), ((a 4), .inl (G.2.1, 411, .inl asi)), ((a 5), .inl (G.2.2.1, 60, .inl txt)), ((a 6), .inl (G.2.1, 4, .inl got)), ((a 7), .inl (G.2.1, 4, .inl row)), ((a 8), .inl (G.2.1, 4, .inl oth))] s.heap := hP
  have hD : va_D (va_A (modW G a ss was beg asi sta txt typ att rea got row oth) s.heap.size) [((a 0), .inr (5, [.ref (a 1), .ref (a 2), .ref (a 3), .ref (a 4), .int sta, .ref (a 5), .int typ, .int att, .int rea, .ref (a 6), .ref (a 7), .ref (a 8)])), ((a 1), .inl (G.2.1, 411, .inl ss)), ((a 2), .inl (G.2.1, 1644, .inl was)), ((a 3), .inl (G.2.1, 411, .inl beg)), ((a 4), .inl (G.2.1, 411, .inl asi)), ((a 5), .inl (G.2.2.1, 60, .inl txt)), ((a 6), .inl (G.2.1, 4, .inl got)), ((a 7), .inl (G.2.1, 4, .inl row)), ((a 8), .inl (G.2.1, 4, .inl oth))] := hD
  unfold fX6_keeps at hf
  refine lv_iconst (v := (0 : Int32)) hx hb dX6_keeps_0 (by decide) ?_
  refine lv_istore_n (lv' := [(1, .int (0 : Int32)), (0, .ref (a 0))]) hx hb dX6_keeps_1 rfl hl (by decide) rfl (fun ls hl => ?_)
  exact kX6_keeps_b2 C0 2000 _ _ _ _ _ _ _ _ _ _ _ _ _ _ hf _ _ hP hD hS ls (lv_sub hl [1, 0] rfl)
-- TwoShapesModel.acted(I)I
abbrev rmX6_acted : Room := { frames := 0, cells := 0, slots := 0, locals := 0 }
def fX6_acted_b57 : Nat → Int32 → Int32 → (Nat → Int32) → (Nat → Int32) → (Nat → Int32) → (Nat → Int32) → Int32 → (Nat → Int32) → Int32 → Int32 → Int32 → (Nat → Int32) → (Nat → Int32) → (Nat → Int32) → Option (Int32 × (Nat → Int32) × (Nat → Int32) × (Nat → Int32) × (Nat → Int32) × Int32 × (Nat → Int32) × Int32 × Int32 × Int32 × (Nat → Int32) × (Nat → Int32) × (Nat → Int32))
  | 0, _, _, _, _, _, _, _, _, _, _, _, _, _, _ => none
  | n + 1, x1, x2, ss, was, beg, asi, sta, txt, typ, att, rea, got, row, oth => (if (411 : Int32) ≤ x2 then some (x1, ss, was, beg, asi, (sta + (1 : Int32)), txt, typ, att, rea, got, row, oth) else g_gd (g_in x2 411) (g_gd (g_in (((411 : Int32) * sta) + x2) 1644) (fX6_acted_b57 n x1 (x2 + (1 : Int32)) ss (upd was (((411 : Int32) * sta) + x2).toNatClampNeg (beg x2.toNatClampNeg)) beg asi sta txt typ att rea got row oth)))
set_option maxHeartbeats 4000000 in
set_option maxRecDepth 100000 in
theorem kX6_acted_b57 {p : Program} {l : Launch} {e : Env} {s : State} {m : MethodId} {args : Array Value} {below : List Frame} {meth : Method} {c : Code} {G : gT} {a : Nat → Nat} {w0 : va_W} (C0 : gX p s m args meth c cX6_acted 3 (some .int) RX6 G) :
    ∀ (n : Nat) (x1 : Int32) (x2 : Int32) (ss : Nat → Int32) (was : Nat → Int32) (beg : Nat → Int32) (asi : Nat → Int32) (sta : Int32) (txt : Nat → Int32) (typ : Int32) (att : Int32) (rea : Int32) (got : Nat → Int32) (row : Nat → Int32) (oth : Nat → Int32) (u : Int32 × (Nat → Int32) × (Nat → Int32) × (Nat → Int32) × (Nat → Int32) × Int32 × (Nat → Int32) × Int32 × Int32 × Int32 × (Nat → Int32) × (Nat → Int32) × (Nat → Int32)), fX6_acted_b57 n x1 x2 ss was beg asi sta txt typ att rea got row oth = some u → ∀ (H : Heap) (locs : List Loc), va_P G.1 vwCl [((a 0), .inr (5, [.ref (a 1), .ref (a 2), .ref (a 3), .ref (a 4), .int sta, .ref (a 5), .int typ, .int att, .int rea, .ref (a 6), .ref (a 7), .ref (a 8)])), ((a 1), .inl (G.2.1, 411, .inl ss)), ((a 2), .inl (G.2.1, 1644, .inl was)), ((a 3), .inl (G.2.1, 411, .inl beg)), ((a 4), .inl (G.2.1, 411, .inl asi)), ((a 5), .inl (G.2.2.1, 60, .inl txt)), ((a 6), .inl (G.2.1, 4, .inl got)), ((a 7), .inl (G.2.1, 4, .inl row)), ((a 8), .inl (G.2.1, 4, .inl oth))] H → va_D (va_A w0 s.heap.size) [((a 0), .inr (5, [.ref (a 1), .ref (a 2), .ref (a 3), .ref (a 4), .int sta, .ref (a 5), .int typ, .int att, .int rea, .ref (a 6), .ref (a 7), .ref (a 8)])), ((a 1), .inl (G.2.1, 411, .inl ss)), ((a 2), .inl (G.2.1, 1644, .inl was)), ((a 3), .inl (G.2.1, 411, .inl beg)), ((a 4), .inl (G.2.1, 411, .inl asi)), ((a 5), .inl (G.2.2.1, 60, .inl txt)), ((a 6), .inl (G.2.1, 4, .inl got)), ((a 7), .inl (G.2.1, 4, .inl row)), ((a 8), .inl (G.2.1, 4, .inl oth))] → va_S (va_A w0 s.heap.size) s.heap H locs → ∀ ls, lv_has ls 3 [(0, .ref (a 0)), (1, .int x1), (2, .int x2)] → gW p l e (headSpec wsX6_acted rmX6_acted).room s m args below meth c G w0 (some (.int u.1)) (modW G a u.2.1 u.2.2.1 u.2.2.2.1 u.2.2.2.2.1 u.2.2.2.2.2.1 u.2.2.2.2.2.2.1 u.2.2.2.2.2.2.2.1 u.2.2.2.2.2.2.2.2.1 u.2.2.2.2.2.2.2.2.2.1 u.2.2.2.2.2.2.2.2.2.2.1 u.2.2.2.2.2.2.2.2.2.2.2.1 u.2.2.2.2.2.2.2.2.2.2.2.2) H locs 57 ls [] := by
  obtain ⟨hx, hb, hr, hts, hown, hlocks, hml, hK⟩ := id C0
  have hA : ∀ q : Nat, s.heap.size ≤ q → va_A w0 s.heap.size q := fun q h => Or.inr h
  intro n
  induction n with
  | zero =>
    intro x1 x2 ss was beg asi sta txt typ att rea got row oth u hf H locs hP hD hS ls hl
    have hf : (none : Option (Int32 × (Nat → Int32) × (Nat → Int32) × (Nat → Int32) × (Nat → Int32) × Int32 × (Nat → Int32) × Int32 × Int32 × Int32 × (Nat → Int32) × (Nat → Int32) × (Nat → Int32))) = some u := hf
    cases hf
  | succ n ih =>
    intro x1 x2 ss was beg asi sta txt typ att rea got row oth u hf H locs hP hD hS ls hl
    rw [fX6_acted_b57] at hf
    refine lv_iload_n hx hb dX6_acted_57 rfl (lv_at hl 2 rfl) ?_
    refine lv_sipush (v := (411 : Int32)) hx hb dX6_acted_58 (by decide) ?_
    refine lv_icmp_ge (tgt := 91) hx hb dX6_acted_61 (by decide) (fun c3 => ?_) (fun c3 => ?_)
    · have hf := g_ifT c3 hf
      refine lv_aload_n hx hb dX6_acted_91 rfl (lv_at hl 0 rfl) ?_
      refine lv_dup hx hb dX6_acted_92 rfl ?_
      refine va_get (D := G.1) (ci := 5) (v := .int sta) (C := RX6) (T := TX6) (N := 12) hx hb hts hX6 hown hK.1 hP 0 rfl rfl 4 (by decide) (hts _ tw_592) (fun _ h9 => h9) rfl dX6_acted_93 ?_
      refine lv_iconst (v := (1 : Int32)) hx hb dX6_acted_96 (by decide) ?_
      refine lv_iadd hx hb dX6_acted_97 ?_
      refine va_put (D := G.1) (ci := 5) (v := .int (sta + (1 : Int32))) (ty := .int) (C := RX6) (T := TX6) (N := 12) hx hb hts hX6 tyX6 tyX6_ok nmX6 hown hK.1 hP hD hS 0 rfl rfl 4 (by decide) (hts _ tw_592) (fun _ h9 => h9) rfl (by decide +kernel) rfl rfl (Nat.le_of_ble_eq_true rfl) dX6_acted_98 (fun H locs hP hD hS => ?_)
      have hP : va_P G.1 vwCl [((a 0), .inr (5, [.ref (a 1), .ref (a 2), .ref (a 3), .ref (a 4), .int (sta + (1 : Int32)), .ref (a 5), .int typ, .int att, .int rea, .ref (a 6), .ref (a 7), .ref (a 8)])), ((a 1), .inl (G.2.1, 411, .inl ss)), ((a 2), .inl (G.2.1, 1644, .inl was)), ((a 3), .inl (G.2.1, 411, .inl beg)), ((a 4), .inl (G.2.1, 411, .inl asi)), ((a 5), .inl (G.2.2.1, 60, .inl txt)), ((a 6), .inl (G.2.1, 4, .inl got)), ((a 7), .inl (G.2.1, 4, .inl row)), ((a 8), .inl (G.2.1, 4, .inl oth))] H := hP
      have hD : va_D (va_A w0 s.heap.size) [((a 0), .inr (5, [.ref (a 1), .ref (a 2), .ref (a 3), .ref (a 4), .int (sta + (1 : Int32)), .ref (a 5), .int typ, .int att, .int rea, .ref (a 6), .ref (a 7), .ref (a 8)])), ((a 1), .inl (G.2.1, 411, .inl ss)), ((a 2), .inl (G.2.1, 1644, .inl was)), ((a 3), .inl (G.2.1, 411, .inl beg)), ((a 4), .inl (G.2.1, 411, .inl asi)), ((a 5), .inl (G.2.2.1, 60, .inl txt)), ((a 6), .inl (G.2.1, 4, .inl got)), ((a 7), .inl (G.2.1, 4, .inl row)), ((a 8), .inl (G.2.1, 4, .inl oth))] := hD
      refine lv_iload_n hx hb dX6_acted_101 rfl (lv_at hl 1 rfl) ?_
      cases hf
      exact g_iretC hx hb hr hlocks hP hD hS dX6_acted_102
    · have hf := g_ifF c3 hf
      refine lv_aload_n hx hb dX6_acted_64 rfl (lv_at hl 0 rfl) ?_
      refine va_get (D := G.1) (ci := 5) (v := .ref (a 2)) (C := RX6) (T := TX6) (N := 12) hx hb hts hX6 hown hK.1 hP 0 rfl rfl 1 (by decide) (hts _ tw_589) (fun _ h9 => h9) rfl dX6_acted_65 ?_
      refine lv_sipush (v := (411 : Int32)) hx hb dX6_acted_68 (by decide) ?_
      refine lv_aload_n hx hb dX6_acted_71 rfl (lv_at hl 0 rfl) ?_
      refine va_get (D := G.1) (ci := 5) (v := .int sta) (C := RX6) (T := TX6) (N := 12) hx hb hts hX6 hown hK.1 hP 0 rfl rfl 4 (by decide) (hts _ tw_592) (fun _ h9 => h9) rfl dX6_acted_72 ?_
      refine lv_imul hx hb dX6_acted_75 ?_
      refine lv_iload_n hx hb dX6_acted_76 rfl (lv_at hl 2 rfl) ?_
      refine lv_iadd hx hb dX6_acted_77 ?_
      refine lv_aload_n hx hb dX6_acted_78 rfl (lv_at hl 0 rfl) ?_
      refine va_get (D := G.1) (ci := 5) (v := .ref (a 3)) (C := RX6) (T := TX6) (N := 12) hx hb hts hX6 hown hK.1 hP 0 rfl rfl 2 (by decide) (hts _ tw_590) (fun _ h9 => h9) rfl dX6_acted_79 ?_
      refine lv_iload_n hx hb dX6_acted_82 rfl (lv_at hl 2 rfl) ?_
      obtain ⟨g4, hf⟩ := g_gdS hf
      refine va_iald hx hb hK.1 hP 3 0 rfl rfl (g_in_vp g4) dX6_acted_83 ?_
      obtain ⟨g5, hf⟩ := g_gdS hf
      refine va_iast hx hb hK.1 hP hD hS 2 0 rfl rfl (g_in_vp g5) dX6_acted_84 (fun H locs hP hD hS => ?_)
      have hP : va_P G.1 vwCl [((a 0), .inr (5, [.ref (a 1), .ref (a 2), .ref (a 3), .ref (a 4), .int sta, .ref (a 5), .int typ, .int att, .int rea, .ref (a 6), .ref (a 7), .ref (a 8)])), ((a 1), .inl (G.2.1, 411, .inl ss)), ((a 2), .inl (G.2.1, 1644, .inl (upd was (((411 : Int32) * sta) + x2).toNatClampNeg (beg x2.toNatClampNeg)))), ((a 3), .inl (G.2.1, 411, .inl beg)), ((a 4), .inl (G.2.1, 411, .inl asi)), ((a 5), .inl (G.2.2.1, 60, .inl txt)), ((a 6), .inl (G.2.1, 4, .inl got)), ((a 7), .inl (G.2.1, 4, .inl row)), ((a 8), .inl (G.2.1, 4, .inl oth))] H := hP
      have hD : va_D (va_A w0 s.heap.size) [((a 0), .inr (5, [.ref (a 1), .ref (a 2), .ref (a 3), .ref (a 4), .int sta, .ref (a 5), .int typ, .int att, .int rea, .ref (a 6), .ref (a 7), .ref (a 8)])), ((a 1), .inl (G.2.1, 411, .inl ss)), ((a 2), .inl (G.2.1, 1644, .inl (upd was (((411 : Int32) * sta) + x2).toNatClampNeg (beg x2.toNatClampNeg)))), ((a 3), .inl (G.2.1, 411, .inl beg)), ((a 4), .inl (G.2.1, 411, .inl asi)), ((a 5), .inl (G.2.2.1, 60, .inl txt)), ((a 6), .inl (G.2.1, 4, .inl got)), ((a 7), .inl (G.2.1, 4, .inl row)), ((a 8), .inl (G.2.1, 4, .inl oth))] := hD
      refine lv_iinc (v := (x2 + (1 : Int32))) (lv' := [(2, .int (x2 + (1 : Int32))), (0, .ref (a 0)), (1, .int x1)]) hx hb dX6_acted_85 hl (k := 2) rfl rfl (by decide) rfl (fun ls hl => ?_)
      refine lv_goto (tgt := 57) hx hb dX6_acted_88 (by decide) ?_
      exact ih _ _ _ _ _ _ _ _ _ _ _ _ _ _ _ hf _ _ hP hD hS ls (lv_sub hl [1, 2, 0] rfl)
def fX6_acted_b16 : Nat → Int32 → Int32 → (Nat → Int32) → (Nat → Int32) → (Nat → Int32) → (Nat → Int32) → Int32 → (Nat → Int32) → Int32 → Int32 → Int32 → (Nat → Int32) → (Nat → Int32) → (Nat → Int32) → Option (Int32 × (Nat → Int32) × (Nat → Int32) × (Nat → Int32) × (Nat → Int32) × Int32 × (Nat → Int32) × Int32 × Int32 × Int32 × (Nat → Int32) × (Nat → Int32) × (Nat → Int32))
  | 0, _, _, _, _, _, _, _, _, _, _, _, _, _, _ => none
  | n + 1, x1, x2, ss, was, beg, asi, sta, txt, typ, att, rea, got, row, oth => (if (1233 : Int32) ≤ x2 then fX6_acted_b57 2000 x1 (0 : Int32) ss was beg asi (sta - (1 : Int32)) txt typ att rea got row oth else g_gd (g_in (x2 + (411 : Int32)) 1644) (g_gd (g_in x2 1644) (fX6_acted_b16 n x1 (x2 + (1 : Int32)) ss (upd was x2.toNatClampNeg (was (x2 + (411 : Int32)).toNatClampNeg)) beg asi sta txt typ att rea got row oth)))
set_option maxHeartbeats 4000000 in
set_option maxRecDepth 100000 in
theorem kX6_acted_b16 {p : Program} {l : Launch} {e : Env} {s : State} {m : MethodId} {args : Array Value} {below : List Frame} {meth : Method} {c : Code} {G : gT} {a : Nat → Nat} {w0 : va_W} (C0 : gX p s m args meth c cX6_acted 3 (some .int) RX6 G) :
    ∀ (n : Nat) (x1 : Int32) (x2 : Int32) (ss : Nat → Int32) (was : Nat → Int32) (beg : Nat → Int32) (asi : Nat → Int32) (sta : Int32) (txt : Nat → Int32) (typ : Int32) (att : Int32) (rea : Int32) (got : Nat → Int32) (row : Nat → Int32) (oth : Nat → Int32) (u : Int32 × (Nat → Int32) × (Nat → Int32) × (Nat → Int32) × (Nat → Int32) × Int32 × (Nat → Int32) × Int32 × Int32 × Int32 × (Nat → Int32) × (Nat → Int32) × (Nat → Int32)), fX6_acted_b16 n x1 x2 ss was beg asi sta txt typ att rea got row oth = some u → ∀ (H : Heap) (locs : List Loc), va_P G.1 vwCl [((a 0), .inr (5, [.ref (a 1), .ref (a 2), .ref (a 3), .ref (a 4), .int sta, .ref (a 5), .int typ, .int att, .int rea, .ref (a 6), .ref (a 7), .ref (a 8)])), ((a 1), .inl (G.2.1, 411, .inl ss)), ((a 2), .inl (G.2.1, 1644, .inl was)), ((a 3), .inl (G.2.1, 411, .inl beg)), ((a 4), .inl (G.2.1, 411, .inl asi)), ((a 5), .inl (G.2.2.1, 60, .inl txt)), ((a 6), .inl (G.2.1, 4, .inl got)), ((a 7), .inl (G.2.1, 4, .inl row)), ((a 8), .inl (G.2.1, 4, .inl oth))] H → va_D (va_A w0 s.heap.size) [((a 0), .inr (5, [.ref (a 1), .ref (a 2), .ref (a 3), .ref (a 4), .int sta, .ref (a 5), .int typ, .int att, .int rea, .ref (a 6), .ref (a 7), .ref (a 8)])), ((a 1), .inl (G.2.1, 411, .inl ss)), ((a 2), .inl (G.2.1, 1644, .inl was)), ((a 3), .inl (G.2.1, 411, .inl beg)), ((a 4), .inl (G.2.1, 411, .inl asi)), ((a 5), .inl (G.2.2.1, 60, .inl txt)), ((a 6), .inl (G.2.1, 4, .inl got)), ((a 7), .inl (G.2.1, 4, .inl row)), ((a 8), .inl (G.2.1, 4, .inl oth))] → va_S (va_A w0 s.heap.size) s.heap H locs → ∀ ls, lv_has ls 3 [(0, .ref (a 0)), (1, .int x1), (2, .int x2)] → gW p l e (headSpec wsX6_acted rmX6_acted).room s m args below meth c G w0 (some (.int u.1)) (modW G a u.2.1 u.2.2.1 u.2.2.2.1 u.2.2.2.2.1 u.2.2.2.2.2.1 u.2.2.2.2.2.2.1 u.2.2.2.2.2.2.2.1 u.2.2.2.2.2.2.2.2.1 u.2.2.2.2.2.2.2.2.2.1 u.2.2.2.2.2.2.2.2.2.2.1 u.2.2.2.2.2.2.2.2.2.2.2.1 u.2.2.2.2.2.2.2.2.2.2.2.2) H locs 16 ls [] := by
  obtain ⟨hx, hb, hr, hts, hown, hlocks, hml, hK⟩ := id C0
  have hA : ∀ q : Nat, s.heap.size ≤ q → va_A w0 s.heap.size q := fun q h => Or.inr h
  intro n
  induction n with
  | zero =>
    intro x1 x2 ss was beg asi sta txt typ att rea got row oth u hf H locs hP hD hS ls hl
    have hf : (none : Option (Int32 × (Nat → Int32) × (Nat → Int32) × (Nat → Int32) × (Nat → Int32) × Int32 × (Nat → Int32) × Int32 × Int32 × Int32 × (Nat → Int32) × (Nat → Int32) × (Nat → Int32))) = some u := hf
    cases hf
  | succ n ih =>
    intro x1 x2 ss was beg asi sta txt typ att rea got row oth u hf H locs hP hD hS ls hl
    rw [fX6_acted_b16] at hf
    refine lv_iload_n hx hb dX6_acted_16 rfl (lv_at hl 2 rfl) ?_
    refine lv_sipush (v := (1233 : Int32)) hx hb dX6_acted_17 (by decide) ?_
    refine lv_icmp_ge (tgt := 45) hx hb dX6_acted_20 (by decide) (fun c6 => ?_) (fun c6 => ?_)
    · have hf := g_ifT c6 hf
      refine lv_aload_n hx hb dX6_acted_45 rfl (lv_at hl 0 rfl) ?_
      refine lv_dup hx hb dX6_acted_46 rfl ?_
      refine va_get (D := G.1) (ci := 5) (v := .int sta) (C := RX6) (T := TX6) (N := 12) hx hb hts hX6 hown hK.1 hP 0 rfl rfl 4 (by decide) (hts _ tw_592) (fun _ h9 => h9) rfl dX6_acted_47 ?_
      refine lv_iconst (v := (1 : Int32)) hx hb dX6_acted_50 (by decide) ?_
      refine lv_isub hx hb dX6_acted_51 ?_
      refine va_put (D := G.1) (ci := 5) (v := .int (sta - (1 : Int32))) (ty := .int) (C := RX6) (T := TX6) (N := 12) hx hb hts hX6 tyX6 tyX6_ok nmX6 hown hK.1 hP hD hS 0 rfl rfl 4 (by decide) (hts _ tw_592) (fun _ h9 => h9) rfl (by decide +kernel) rfl rfl (Nat.le_of_ble_eq_true rfl) dX6_acted_52 (fun H locs hP hD hS => ?_)
      have hP : va_P G.1 vwCl [((a 0), .inr (5, [.ref (a 1), .ref (a 2), .ref (a 3), .ref (a 4), .int (sta - (1 : Int32)), .ref (a 5), .int typ, .int att, .int rea, .ref (a 6), .ref (a 7), .ref (a 8)])), ((a 1), .inl (G.2.1, 411, .inl ss)), ((a 2), .inl (G.2.1, 1644, .inl was)), ((a 3), .inl (G.2.1, 411, .inl beg)), ((a 4), .inl (G.2.1, 411, .inl asi)), ((a 5), .inl (G.2.2.1, 60, .inl txt)), ((a 6), .inl (G.2.1, 4, .inl got)), ((a 7), .inl (G.2.1, 4, .inl row)), ((a 8), .inl (G.2.1, 4, .inl oth))] H := hP
      have hD : va_D (va_A w0 s.heap.size) [((a 0), .inr (5, [.ref (a 1), .ref (a 2), .ref (a 3), .ref (a 4), .int (sta - (1 : Int32)), .ref (a 5), .int typ, .int att, .int rea, .ref (a 6), .ref (a 7), .ref (a 8)])), ((a 1), .inl (G.2.1, 411, .inl ss)), ((a 2), .inl (G.2.1, 1644, .inl was)), ((a 3), .inl (G.2.1, 411, .inl beg)), ((a 4), .inl (G.2.1, 411, .inl asi)), ((a 5), .inl (G.2.2.1, 60, .inl txt)), ((a 6), .inl (G.2.1, 4, .inl got)), ((a 7), .inl (G.2.1, 4, .inl row)), ((a 8), .inl (G.2.1, 4, .inl oth))] := hD
      refine lv_iconst (v := (0 : Int32)) hx hb dX6_acted_55 (by decide) ?_
      refine lv_istore_n (lv' := [(2, .int (0 : Int32)), (0, .ref (a 0)), (1, .int x1)]) hx hb dX6_acted_56 rfl hl (by decide) rfl (fun ls hl => ?_)
      exact kX6_acted_b57 C0 2000 _ _ _ _ _ _ _ _ _ _ _ _ _ _ _ hf _ _ hP hD hS ls (lv_sub hl [1, 2, 0] rfl)
    · have hf := g_ifF c6 hf
      refine lv_aload_n hx hb dX6_acted_23 rfl (lv_at hl 0 rfl) ?_
      refine va_get (D := G.1) (ci := 5) (v := .ref (a 2)) (C := RX6) (T := TX6) (N := 12) hx hb hts hX6 hown hK.1 hP 0 rfl rfl 1 (by decide) (hts _ tw_589) (fun _ h9 => h9) rfl dX6_acted_24 ?_
      refine lv_iload_n hx hb dX6_acted_27 rfl (lv_at hl 2 rfl) ?_
      refine lv_aload_n hx hb dX6_acted_28 rfl (lv_at hl 0 rfl) ?_
      refine va_get (D := G.1) (ci := 5) (v := .ref (a 2)) (C := RX6) (T := TX6) (N := 12) hx hb hts hX6 hown hK.1 hP 0 rfl rfl 1 (by decide) (hts _ tw_589) (fun _ h9 => h9) rfl dX6_acted_29 ?_
      refine lv_iload_n hx hb dX6_acted_32 rfl (lv_at hl 2 rfl) ?_
      refine lv_sipush (v := (411 : Int32)) hx hb dX6_acted_33 (by decide) ?_
      refine lv_iadd hx hb dX6_acted_36 ?_
      obtain ⟨g7, hf⟩ := g_gdS hf
      refine va_iald hx hb hK.1 hP 2 0 rfl rfl (g_in_vp g7) dX6_acted_37 ?_
      obtain ⟨g8, hf⟩ := g_gdS hf
      refine va_iast hx hb hK.1 hP hD hS 2 0 rfl rfl (g_in_vp g8) dX6_acted_38 (fun H locs hP hD hS => ?_)
      have hP : va_P G.1 vwCl [((a 0), .inr (5, [.ref (a 1), .ref (a 2), .ref (a 3), .ref (a 4), .int sta, .ref (a 5), .int typ, .int att, .int rea, .ref (a 6), .ref (a 7), .ref (a 8)])), ((a 1), .inl (G.2.1, 411, .inl ss)), ((a 2), .inl (G.2.1, 1644, .inl (upd was x2.toNatClampNeg (was (x2 + (411 : Int32)).toNatClampNeg)))), ((a 3), .inl (G.2.1, 411, .inl beg)), ((a 4), .inl (G.2.1, 411, .inl asi)), ((a 5), .inl (G.2.2.1, 60, .inl txt)), ((a 6), .inl (G.2.1, 4, .inl got)), ((a 7), .inl (G.2.1, 4, .inl row)), ((a 8), .inl (G.2.1, 4, .inl oth))] H := hP
      have hD : va_D (va_A w0 s.heap.size) [((a 0), .inr (5, [.ref (a 1), .ref (a 2), .ref (a 3), .ref (a 4), .int sta, .ref (a 5), .int typ, .int att, .int rea, .ref (a 6), .ref (a 7), .ref (a 8)])), ((a 1), .inl (G.2.1, 411, .inl ss)), ((a 2), .inl (G.2.1, 1644, .inl (upd was x2.toNatClampNeg (was (x2 + (411 : Int32)).toNatClampNeg)))), ((a 3), .inl (G.2.1, 411, .inl beg)), ((a 4), .inl (G.2.1, 411, .inl asi)), ((a 5), .inl (G.2.2.1, 60, .inl txt)), ((a 6), .inl (G.2.1, 4, .inl got)), ((a 7), .inl (G.2.1, 4, .inl row)), ((a 8), .inl (G.2.1, 4, .inl oth))] := hD
      refine lv_iinc (v := (x2 + (1 : Int32))) (lv' := [(2, .int (x2 + (1 : Int32))), (0, .ref (a 0)), (1, .int x1)]) hx hb dX6_acted_39 hl (k := 2) rfl rfl (by decide) rfl (fun ls hl => ?_)
      refine lv_goto (tgt := 16) hx hb dX6_acted_42 (by decide) ?_
      exact ih _ _ _ _ _ _ _ _ _ _ _ _ _ _ _ hf _ _ hP hD hS ls (lv_sub hl [1, 2, 0] rfl)
def fX6_acted (p0 : Int32) (ss : Nat → Int32) (was : Nat → Int32) (beg : Nat → Int32) (asi : Nat → Int32) (sta : Int32) (txt : Nat → Int32) (typ : Int32) (att : Int32) (rea : Int32) (got : Nat → Int32) (row : Nat → Int32) (oth : Nat → Int32) : Option (Int32 × (Nat → Int32) × (Nat → Int32) × (Nat → Int32) × (Nat → Int32) × Int32 × (Nat → Int32) × Int32 × Int32 × Int32 × (Nat → Int32) × (Nat → Int32) × (Nat → Int32)) := (if p0 ≤ (-1000001 : Int32) then some (p0, ss, was, beg, asi, sta, txt, typ, att, rea, got, row, oth) else (if sta = (4 : Int32) then fX6_acted_b16 2000 p0 (0 : Int32) ss was beg asi sta txt typ att rea got row oth else fX6_acted_b57 2000 p0 (0 : Int32) ss was beg asi sta txt typ att rea got row oth))
set_option maxHeartbeats 4000000 in
set_option maxRecDepth 100000 in
theorem qX6_acted (l : Launch) (G : gT) (a : Nat → Nat) {p0 : Int32} {ss : Nat → Int32} {was : Nat → Int32} {beg : Nat → Int32} {asi : Nat → Int32} {sta : Int32} {txt : Nat → Int32} {typ : Int32} {att : Int32} {rea : Int32} {got : Nat → Int32} {row : Nat → Int32} {oth : Nat → Int32} {u : Int32 × (Nat → Int32) × (Nat → Int32) × (Nat → Int32) × (Nat → Int32) × Int32 × (Nat → Int32) × Int32 × Int32 × Int32 × (Nat → Int32) × (Nat → Int32) × (Nat → Int32)} (hf : fX6_acted p0 ss was beg asi sta txt typ att rea got row oth = some u) : gC l G yX6_acted wsX6_acted rmX6_acted [.ref (a 0), .int p0] (modW G a ss was beg asi sta txt typ att rea got row oth) (some (.int u.1)) (modW G a u.2.1 u.2.2.1 u.2.2.2.1 u.2.2.2.2.1 u.2.2.2.2.2.1 u.2.2.2.2.2.2.1 u.2.2.2.2.2.2.2.1 u.2.2.2.2.2.2.2.2.1 u.2.2.2.2.2.2.2.2.2.1 u.2.2.2.2.2.2.2.2.2.2.1 u.2.2.2.2.2.2.2.2.2.2.2.1 u.2.2.2.2.2.2.2.2.2.2.2.2) := by
  refine gC.of (cc := cX6_acted) (maxL := 3) (ret := (some .int)) (by decide) rfl (Nat.le_of_ble_eq_true rfl) ?_
  intro p e s m below meth c C0 hP hD hS ls hl
  obtain ⟨hx, hb, hr, hts, hown, hlocks, hml, hK⟩ := id C0
  have hl : lv_has ls 3 [(0, .ref (a 0)), (1, .int p0)] := hl
  have hA : ∀ q : Nat, s.heap.size ≤ q → va_A (modW G a ss was beg asi sta txt typ att rea got row oth) s.heap.size q := fun q h => Or.inr h
  have hP : va_P G.1 vwCl [((a 0), .inr (5, [.ref (a 1), .ref (a 2), .ref (a 3), .ref (a 4), .int sta, .ref (a 5), .int typ, .int att, .int rea, .ref (a 6), .ref (a 7), .ref (a 8)])), ((a 1), .inl (G.2.1, 411, .inl ss)), ((a 2), .inl (G.2.1, 1644, .inl was)), ((a 3), .inl (G.2.1, 411, .inl beg)), ((a 4), .inl (G.2.1, 411, .inl asi)), ((a 5), .inl (G.2.2.1, 60, .inl txt)), ((a 6), .inl (G.2.1, 4, .inl got)), ((a 7), .inl (G.2.1, 4, .inl row)), ((a 8), .inl (G.2.1, 4, .inl oth))] s.heap := hP
  have hD : va_D (va_A (modW G a ss was beg asi sta txt typ att rea got row oth) s.heap.size) [((a 0), .inr (5, [.ref (a 1), .ref (a 2), .ref (a 3), .ref (a 4), .int sta, .ref (a 5), .int typ, .int att, .int rea, .ref (a 6), .ref (a 7), .ref (a 8)])), ((a 1), .inl (G.2.1, 411, .inl ss)), ((a 2), .inl (G.2.1, 1644, .inl was)), ((a 3), .inl (G.2.1, 411, .inl beg)), ((a 4), .inl (G.2.1, 411, .inl asi)), ((a 5), .inl (G.2.2.1, 60, .inl txt)), ((a 6), .inl (G.2.1, 4, .inl got)), ((a 7), .inl (G.2.1, 4, .inl row)), ((a 8), .inl (G.2.1, 4, .inl oth))] := hD
  unfold fX6_acted at hf
  refine lv_iload_n hx hb dX6_acted_0 rfl (lv_at hl 1 rfl) ?_
  refine lv_ldc (v := (-1000001 : Int32)) hx hb hown (hts _ tw_654) dX6_acted_1 ?_
  refine lv_icmp_le (tgt := 101) hx hb dX6_acted_3 (by decide) (fun c1 => ?_) (fun c1 => ?_)
  · have hf := g_ifT c1 hf
    refine lv_iload_n hx hb dX6_acted_101 rfl (lv_at hl 1 rfl) ?_
    cases hf
    exact g_iretC hx hb hr hlocks hP hD hS dX6_acted_102
  · have hf := g_ifF c1 hf
    refine lv_aload_n hx hb dX6_acted_6 rfl (lv_at hl 0 rfl) ?_
    refine va_get (D := G.1) (ci := 5) (v := .int sta) (C := RX6) (T := TX6) (N := 12) hx hb hts hX6 hown hK.1 hP 0 rfl rfl 4 (by decide) (hts _ tw_592) (fun _ h9 => h9) rfl dX6_acted_7 ?_
    refine lv_iconst (v := (4 : Int32)) hx hb dX6_acted_10 (by decide) ?_
    refine lv_icmp_ne (tgt := 55) hx hb dX6_acted_11 (by decide) (fun c2 => ?_) (fun c2 => ?_)
    · have hf := g_ifF c2 hf
      refine lv_iconst (v := (0 : Int32)) hx hb dX6_acted_55 (by decide) ?_
      refine lv_istore_n (lv' := [(2, .int (0 : Int32)), (0, .ref (a 0)), (1, .int p0)]) hx hb dX6_acted_56 rfl hl (by decide) rfl (fun ls hl => ?_)
      exact kX6_acted_b57 C0 2000 _ _ _ _ _ _ _ _ _ _ _ _ _ _ _ hf _ _ hP hD hS ls (lv_sub hl [1, 2, 0] rfl)
    · have hf := g_ifT c2 hf
      refine lv_iconst (v := (0 : Int32)) hx hb dX6_acted_14 (by decide) ?_
      refine lv_istore_n (lv' := [(2, .int (0 : Int32)), (0, .ref (a 0)), (1, .int p0)]) hx hb dX6_acted_15 rfl hl (by decide) rfl (fun ls hl => ?_)
      exact kX6_acted_b16 C0 2000 _ _ _ _ _ _ _ _ _ _ _ _ _ _ _ hf _ _ hP hD hS ls (lv_sub hl [1, 2, 0] rfl)
-- TwoShapesModel.restores()V
abbrev rmX6_restores : Room := { frames := 0, cells := 0, slots := 0, locals := 0 }
def fX6_restores_b2 : Nat → Int32 → (Nat → Int32) → (Nat → Int32) → (Nat → Int32) → (Nat → Int32) → Int32 → (Nat → Int32) → Int32 → Int32 → Int32 → (Nat → Int32) → (Nat → Int32) → (Nat → Int32) → Option ((Nat → Int32) × (Nat → Int32) × (Nat → Int32) × (Nat → Int32) × Int32 × (Nat → Int32) × Int32 × Int32 × Int32 × (Nat → Int32) × (Nat → Int32) × (Nat → Int32))
  | 0, _, _, _, _, _, _, _, _, _, _, _, _, _ => none
  | n + 1, x1, ss, was, beg, asi, sta, txt, typ, att, rea, got, row, oth => (if (411 : Int32) ≤ x1 then some (ss, was, beg, asi, sta, txt, typ, att, rea, got, row, oth) else g_gd (g_in x1 411) (g_gd (g_in x1 411) (fX6_restores_b2 n (x1 + (1 : Int32)) (upd ss x1.toNatClampNeg (asi x1.toNatClampNeg)) was beg asi sta txt typ att rea got row oth)))
set_option maxHeartbeats 4000000 in
set_option maxRecDepth 100000 in
theorem kX6_restores_b2 {p : Program} {l : Launch} {e : Env} {s : State} {m : MethodId} {args : Array Value} {below : List Frame} {meth : Method} {c : Code} {G : gT} {a : Nat → Nat} {w0 : va_W} (C0 : gX p s m args meth c cX6_restores 2 none RX6 G) :
    ∀ (n : Nat) (x1 : Int32) (ss : Nat → Int32) (was : Nat → Int32) (beg : Nat → Int32) (asi : Nat → Int32) (sta : Int32) (txt : Nat → Int32) (typ : Int32) (att : Int32) (rea : Int32) (got : Nat → Int32) (row : Nat → Int32) (oth : Nat → Int32) (u : (Nat → Int32) × (Nat → Int32) × (Nat → Int32) × (Nat → Int32) × Int32 × (Nat → Int32) × Int32 × Int32 × Int32 × (Nat → Int32) × (Nat → Int32) × (Nat → Int32)), fX6_restores_b2 n x1 ss was beg asi sta txt typ att rea got row oth = some u → ∀ (H : Heap) (locs : List Loc), va_P G.1 vwCl [((a 0), .inr (5, [.ref (a 1), .ref (a 2), .ref (a 3), .ref (a 4), .int sta, .ref (a 5), .int typ, .int att, .int rea, .ref (a 6), .ref (a 7), .ref (a 8)])), ((a 1), .inl (G.2.1, 411, .inl ss)), ((a 2), .inl (G.2.1, 1644, .inl was)), ((a 3), .inl (G.2.1, 411, .inl beg)), ((a 4), .inl (G.2.1, 411, .inl asi)), ((a 5), .inl (G.2.2.1, 60, .inl txt)), ((a 6), .inl (G.2.1, 4, .inl got)), ((a 7), .inl (G.2.1, 4, .inl row)), ((a 8), .inl (G.2.1, 4, .inl oth))] H → va_D (va_A w0 s.heap.size) [((a 0), .inr (5, [.ref (a 1), .ref (a 2), .ref (a 3), .ref (a 4), .int sta, .ref (a 5), .int typ, .int att, .int rea, .ref (a 6), .ref (a 7), .ref (a 8)])), ((a 1), .inl (G.2.1, 411, .inl ss)), ((a 2), .inl (G.2.1, 1644, .inl was)), ((a 3), .inl (G.2.1, 411, .inl beg)), ((a 4), .inl (G.2.1, 411, .inl asi)), ((a 5), .inl (G.2.2.1, 60, .inl txt)), ((a 6), .inl (G.2.1, 4, .inl got)), ((a 7), .inl (G.2.1, 4, .inl row)), ((a 8), .inl (G.2.1, 4, .inl oth))] → va_S (va_A w0 s.heap.size) s.heap H locs → ∀ ls, lv_has ls 2 [(0, .ref (a 0)), (1, .int x1)] → gW p l e (headSpec wsX6_restores rmX6_restores).room s m args below meth c G w0 none (modW G a u.1 u.2.1 u.2.2.1 u.2.2.2.1 u.2.2.2.2.1 u.2.2.2.2.2.1 u.2.2.2.2.2.2.1 u.2.2.2.2.2.2.2.1 u.2.2.2.2.2.2.2.2.1 u.2.2.2.2.2.2.2.2.2.1 u.2.2.2.2.2.2.2.2.2.2.1 u.2.2.2.2.2.2.2.2.2.2.2) H locs 2 ls [] := by
  obtain ⟨hx, hb, hr, hts, hown, hlocks, hml, hK⟩ := id C0
  have hA : ∀ q : Nat, s.heap.size ≤ q → va_A w0 s.heap.size q := fun q h => Or.inr h
  intro n
  induction n with
  | zero =>
    intro x1 ss was beg asi sta txt typ att rea got row oth u hf H locs hP hD hS ls hl
    have hf : (none : Option ((Nat → Int32) × (Nat → Int32) × (Nat → Int32) × (Nat → Int32) × Int32 × (Nat → Int32) × Int32 × Int32 × Int32 × (Nat → Int32) × (Nat → Int32) × (Nat → Int32))) = some u := hf
    cases hf
  | succ n ih =>
    intro x1 ss was beg asi sta txt typ att rea got row oth u hf H locs hP hD hS ls hl
    rw [fX6_restores_b2] at hf
    refine lv_iload_n hx hb dX6_restores_2 rfl (lv_at hl 1 rfl) ?_
    refine lv_sipush (v := (411 : Int32)) hx hb dX6_restores_3 (by decide) ?_
    refine lv_icmp_ge (tgt := 27) hx hb dX6_restores_6 (by decide) (fun c1 => ?_) (fun c1 => ?_)
    · have hf := g_ifT c1 hf
      cases hf
      exact g_vretC hx hb hr hlocks hP hD hS dX6_restores_27
    · have hf := g_ifF c1 hf
      refine lv_aload_n hx hb dX6_restores_9 rfl (lv_at hl 0 rfl) ?_
      refine va_get (D := G.1) (ci := 5) (v := .ref (a 1)) (C := RX6) (T := TX6) (N := 12) hx hb hts hX6 hown hK.1 hP 0 rfl rfl 0 (by decide) (hts _ tw_588) (fun _ h9 => h9) rfl dX6_restores_10 ?_
      refine lv_iload_n hx hb dX6_restores_13 rfl (lv_at hl 1 rfl) ?_
      refine lv_aload_n hx hb dX6_restores_14 rfl (lv_at hl 0 rfl) ?_
      refine va_get (D := G.1) (ci := 5) (v := .ref (a 4)) (C := RX6) (T := TX6) (N := 12) hx hb hts hX6 hown hK.1 hP 0 rfl rfl 3 (by decide) (hts _ tw_591) (fun _ h9 => h9) rfl dX6_restores_15 ?_
      refine lv_iload_n hx hb dX6_restores_18 rfl (lv_at hl 1 rfl) ?_
      obtain ⟨g2, hf⟩ := g_gdS hf
      refine va_iald hx hb hK.1 hP 4 0 rfl rfl (g_in_vp g2) dX6_restores_19 ?_
      obtain ⟨g3, hf⟩ := g_gdS hf
      refine va_iast hx hb hK.1 hP hD hS 1 0 rfl rfl (g_in_vp g3) dX6_restores_20 (fun H locs hP hD hS => ?_)
      have hP : va_P G.1 vwCl [((a 0), .inr (5, [.ref (a 1), .ref (a 2), .ref (a 3), .ref (a 4), .int sta, .ref (a 5), .int typ, .int att, .int rea, .ref (a 6), .ref (a 7), .ref (a 8)])), ((a 1), .inl (G.2.1, 411, .inl (upd ss x1.toNatClampNeg (asi x1.toNatClampNeg)))), ((a 2), .inl (G.2.1, 1644, .inl was)), ((a 3), .inl (G.2.1, 411, .inl beg)), ((a 4), .inl (G.2.1, 411, .inl asi)), ((a 5), .inl (G.2.2.1, 60, .inl txt)), ((a 6), .inl (G.2.1, 4, .inl got)), ((a 7), .inl (G.2.1, 4, .inl row)), ((a 8), .inl (G.2.1, 4, .inl oth))] H := hP
      have hD : va_D (va_A w0 s.heap.size) [((a 0), .inr (5, [.ref (a 1), .ref (a 2), .ref (a 3), .ref (a 4), .int sta, .ref (a 5), .int typ, .int att, .int rea, .ref (a 6), .ref (a 7), .ref (a 8)])), ((a 1), .inl (G.2.1, 411, .inl (upd ss x1.toNatClampNeg (asi x1.toNatClampNeg)))), ((a 2), .inl (G.2.1, 1644, .inl was)), ((a 3), .inl (G.2.1, 411, .inl beg)), ((a 4), .inl (G.2.1, 411, .inl asi)), ((a 5), .inl (G.2.2.1, 60, .inl txt)), ((a 6), .inl (G.2.1, 4, .inl got)), ((a 7), .inl (G.2.1, 4, .inl row)), ((a 8), .inl (G.2.1, 4, .inl oth))] := hD
      refine lv_iinc (v := (x1 + (1 : Int32))) (lv' := [(1, .int (x1 + (1 : Int32))), (0, .ref (a 0))]) hx hb dX6_restores_21 hl (k := 1) rfl rfl (by decide) rfl (fun ls hl => ?_)
      refine lv_goto (tgt := 2) hx hb dX6_restores_24 (by decide) ?_
      exact ih _ _ _ _ _ _ _ _ _ _ _ _ _ _ hf _ _ hP hD hS ls (lv_sub hl [1, 0] rfl)
def fX6_restores (ss : Nat → Int32) (was : Nat → Int32) (beg : Nat → Int32) (asi : Nat → Int32) (sta : Int32) (txt : Nat → Int32) (typ : Int32) (att : Int32) (rea : Int32) (got : Nat → Int32) (row : Nat → Int32) (oth : Nat → Int32) : Option ((Nat → Int32) × (Nat → Int32) × (Nat → Int32) × (Nat → Int32) × Int32 × (Nat → Int32) × Int32 × Int32 × Int32 × (Nat → Int32) × (Nat → Int32) × (Nat → Int32)) := fX6_restores_b2 2000 (0 : Int32) ss was beg asi sta txt typ att rea got row oth
set_option maxHeartbeats 4000000 in
set_option maxRecDepth 100000 in
theorem qX6_restores (l : Launch) (G : gT) (a : Nat → Nat) {ss : Nat → Int32} {was : Nat → Int32} {beg : Nat → Int32} {asi : Nat → Int32} {sta : Int32} {txt : Nat → Int32} {typ : Int32} {att : Int32} {rea : Int32} {got : Nat → Int32} {row : Nat → Int32} {oth : Nat → Int32} {u : (Nat → Int32) × (Nat → Int32) × (Nat → Int32) × (Nat → Int32) × Int32 × (Nat → Int32) × Int32 × Int32 × Int32 × (Nat → Int32) × (Nat → Int32) × (Nat → Int32)} (hf : fX6_restores ss was beg asi sta txt typ att rea got row oth = some u) : gC l G yX6_restores wsX6_restores rmX6_restores [.ref (a 0)] (modW G a ss was beg asi sta txt typ att rea got row oth) none (modW G a u.1 u.2.1 u.2.2.1 u.2.2.2.1 u.2.2.2.2.1 u.2.2.2.2.2.1 u.2.2.2.2.2.2.1 u.2.2.2.2.2.2.2.1 u.2.2.2.2.2.2.2.2.1 u.2.2.2.2.2.2.2.2.2.1 u.2.2.2.2.2.2.2.2.2.2.1 u.2.2.2.2.2.2.2.2.2.2.2) := by
  refine gC.of (cc := cX6_restores) (maxL := 2) (ret := none) (by decide) rfl (Nat.le_of_ble_eq_true rfl) ?_
  intro p e s m below meth c C0 hP hD hS ls hl
  obtain ⟨hx, hb, hr, hts, hown, hlocks, hml, hK⟩ := id C0
  have hl : lv_has ls 2 [(0, .ref (a 0))] := hl
  have hA : ∀ q : Nat, s.heap.size ≤ q → va_A (modW G a ss was beg asi sta txt typ att rea got row oth) s.heap.size q := fun q h => Or.inr h
  have hP : va_P G.1 vwCl [((a 0), .inr (5, [.ref (a 1), .ref (a 2), .ref (a 3), .ref (a 4), .int sta, .ref (a 5), .int typ, .int att, .int rea, .ref (a 6), .ref (a 7), .ref (a 8)])), ((a 1), .inl (G.2.1, 411, .inl ss)), ((a 2), .inl (G.2.1, 1644, .inl was)), ((a 3), .inl (G.2.1, 411, .inl beg)), ((a 4), .inl (G.2.1, 411, .inl asi)), ((a 5), .inl (G.2.2.1, 60, .inl txt)), ((a 6), .inl (G.2.1, 4, .inl got)), ((a 7), .inl (G.2.1, 4, .inl row)), ((a 8), .inl (G.2.1, 4, .inl oth))] s.heap := hP
  have hD : va_D (va_A (modW G a ss was beg asi sta txt typ att rea got row oth) s.heap.size) [((a 0), .inr (5, [.ref (a 1), .ref (a 2), .ref (a 3), .ref (a 4), .int sta, .ref (a 5), .int typ, .int att, .int rea, .ref (a 6), .ref (a 7), .ref (a 8)])), ((a 1), .inl (G.2.1, 411, .inl ss)), ((a 2), .inl (G.2.1, 1644, .inl was)), ((a 3), .inl (G.2.1, 411, .inl beg)), ((a 4), .inl (G.2.1, 411, .inl asi)), ((a 5), .inl (G.2.2.1, 60, .inl txt)), ((a 6), .inl (G.2.1, 4, .inl got)), ((a 7), .inl (G.2.1, 4, .inl row)), ((a 8), .inl (G.2.1, 4, .inl oth))] := hD
  unfold fX6_restores at hf
  refine lv_iconst (v := (0 : Int32)) hx hb dX6_restores_0 (by decide) ?_
  refine lv_istore_n (lv' := [(1, .int (0 : Int32)), (0, .ref (a 0))]) hx hb dX6_restores_1 rfl hl (by decide) rfl (fun ls hl => ?_)
  exact kX6_restores_b2 C0 2000 _ _ _ _ _ _ _ _ _ _ _ _ _ _ hf _ _ hP hD hS ls (lv_sub hl [1, 0] rfl)
-- TwoShapesModel.makes(II)V
abbrev rmX6_makes : Room := { frames := 0, cells := 0, slots := 0, locals := 0 }
def fX6_makes_b56 (x1 : Int32) (x2 : Int32) (x3 : Int32) (x4 : Int32) (ss : Nat → Int32) (was : Nat → Int32) (beg : Nat → Int32) (asi : Nat → Int32) (sta : Int32) (txt : Nat → Int32) (typ : Int32) (att : Int32) (rea : Int32) (got : Nat → Int32) (row : Nat → Int32) (oth : Nat → Int32) : Option ((Nat → Int32) × (Nat → Int32) × (Nat → Int32) × (Nat → Int32) × Int32 × (Nat → Int32) × Int32 × Int32 × Int32 × (Nat → Int32) × (Nat → Int32) × (Nat → Int32)) := (if x1 = (1 : Int32) then (if x2 = (0 : Int32) then g_gd (g_in (1 : Int32) 4) (g_gd (g_in (2 : Int32) 4) ((if x4 = (0 : Int32) then g_gd (g_in (3 : Int32) 4) (some (ss, was, beg, asi, sta, txt, typ, att, rea, got, (upd (upd (upd row (1 : Int32).toNatClampNeg (x3 / (10 : Int32))) (2 : Int32).toNatClampNeg (x3 - x3 / (10 : Int32) * (10 : Int32))) (3 : Int32).toNatClampNeg (0 : Int32)), oth)) else g_gd (g_in (3 : Int32) 4) (some (ss, was, beg, asi, sta, txt, typ, att, rea, got, (upd (upd (upd row (1 : Int32).toNatClampNeg (x3 / (10 : Int32))) (2 : Int32).toNatClampNeg (x3 - x3 / (10 : Int32) * (10 : Int32))) (3 : Int32).toNatClampNeg (1 : Int32)), oth))))) else some (ss, was, beg, asi, sta, txt, typ, att, rea, got, row, oth)) else some (ss, was, beg, asi, sta, txt, typ, att, rea, got, row, oth))
set_option maxHeartbeats 4000000 in
set_option maxRecDepth 100000 in
theorem kX6_makes_b56 {p : Program} {l : Launch} {e : Env} {s : State} {m : MethodId} {args : Array Value} {below : List Frame} {meth : Method} {c : Code} {G : gT} {a : Nat → Nat} {w0 : va_W} (C0 : gX p s m args meth c cX6_makes 5 none RX6 G) :
    ∀ (x1 : Int32) (x2 : Int32) (x3 : Int32) (x4 : Int32) (ss : Nat → Int32) (was : Nat → Int32) (beg : Nat → Int32) (asi : Nat → Int32) (sta : Int32) (txt : Nat → Int32) (typ : Int32) (att : Int32) (rea : Int32) (got : Nat → Int32) (row : Nat → Int32) (oth : Nat → Int32) (u : (Nat → Int32) × (Nat → Int32) × (Nat → Int32) × (Nat → Int32) × Int32 × (Nat → Int32) × Int32 × Int32 × Int32 × (Nat → Int32) × (Nat → Int32) × (Nat → Int32)), fX6_makes_b56 x1 x2 x3 x4 ss was beg asi sta txt typ att rea got row oth = some u → ∀ (H : Heap) (locs : List Loc), va_P G.1 vwCl [((a 0), .inr (5, [.ref (a 1), .ref (a 2), .ref (a 3), .ref (a 4), .int sta, .ref (a 5), .int typ, .int att, .int rea, .ref (a 6), .ref (a 7), .ref (a 8)])), ((a 1), .inl (G.2.1, 411, .inl ss)), ((a 2), .inl (G.2.1, 1644, .inl was)), ((a 3), .inl (G.2.1, 411, .inl beg)), ((a 4), .inl (G.2.1, 411, .inl asi)), ((a 5), .inl (G.2.2.1, 60, .inl txt)), ((a 6), .inl (G.2.1, 4, .inl got)), ((a 7), .inl (G.2.1, 4, .inl row)), ((a 8), .inl (G.2.1, 4, .inl oth))] H → va_D (va_A w0 s.heap.size) [((a 0), .inr (5, [.ref (a 1), .ref (a 2), .ref (a 3), .ref (a 4), .int sta, .ref (a 5), .int typ, .int att, .int rea, .ref (a 6), .ref (a 7), .ref (a 8)])), ((a 1), .inl (G.2.1, 411, .inl ss)), ((a 2), .inl (G.2.1, 1644, .inl was)), ((a 3), .inl (G.2.1, 411, .inl beg)), ((a 4), .inl (G.2.1, 411, .inl asi)), ((a 5), .inl (G.2.2.1, 60, .inl txt)), ((a 6), .inl (G.2.1, 4, .inl got)), ((a 7), .inl (G.2.1, 4, .inl row)), ((a 8), .inl (G.2.1, 4, .inl oth))] → va_S (va_A w0 s.heap.size) s.heap H locs → ∀ ls, lv_has ls 5 [(0, .ref (a 0)), (1, .int x1), (2, .int x2), (3, .int x3), (4, .int x4)] → gW p l e (headSpec wsX6_makes rmX6_makes).room s m args below meth c G w0 none (modW G a u.1 u.2.1 u.2.2.1 u.2.2.2.1 u.2.2.2.2.1 u.2.2.2.2.2.1 u.2.2.2.2.2.2.1 u.2.2.2.2.2.2.2.1 u.2.2.2.2.2.2.2.2.1 u.2.2.2.2.2.2.2.2.2.1 u.2.2.2.2.2.2.2.2.2.2.1 u.2.2.2.2.2.2.2.2.2.2.2) H locs 56 ls [] := by
  obtain ⟨hx, hb, hr, hts, hown, hlocks, hml, hK⟩ := id C0
  have hA : ∀ q : Nat, s.heap.size ≤ q → va_A w0 s.heap.size q := fun q h => Or.inr h
  intro x1 x2 x3 x4 ss was beg asi sta txt typ att rea got row oth u hf H locs hP hD hS ls hl
  unfold fX6_makes_b56 at hf
  refine lv_iload_n hx hb dX6_makes_56 rfl (lv_at hl 1 rfl) ?_
  refine lv_iconst (v := (1 : Int32)) hx hb dX6_makes_57 (by decide) ?_
  refine lv_icmp_ne (tgt := 101) hx hb dX6_makes_58 (by decide) (fun c4 => ?_) (fun c4 => ?_)
  · have hf := g_ifF c4 hf
    cases hf
    exact g_vretC hx hb hr hlocks hP hD hS dX6_makes_101
  · have hf := g_ifT c4 hf
    refine lv_iload_n hx hb dX6_makes_61 rfl (lv_at hl 2 rfl) ?_
    refine lv_if_ne (tgt := 101) hx hb dX6_makes_62 (by decide) (fun c5 => ?_) (fun c5 => ?_)
    · have hf := g_ifF c5 hf
      cases hf
      exact g_vretC hx hb hr hlocks hP hD hS dX6_makes_101
    · have hf := g_ifT c5 hf
      refine lv_aload_n hx hb dX6_makes_65 rfl (lv_at hl 0 rfl) ?_
      refine va_get (D := G.1) (ci := 5) (v := .ref (a 7)) (C := RX6) (T := TX6) (N := 12) hx hb hts hX6 hown hK.1 hP 0 rfl rfl 10 (by decide) (hts _ tw_598) (fun _ h9 => h9) rfl dX6_makes_66 ?_
      refine lv_iconst (v := (1 : Int32)) hx hb dX6_makes_69 (by decide) ?_
      refine lv_iload_n hx hb dX6_makes_70 rfl (lv_at hl 3 rfl) ?_
      refine lv_bipush (v := (10 : Int32)) hx hb dX6_makes_71 (by decide) ?_
      refine lv_idiv hx hb dX6_makes_73 (by decide) ?_
      obtain ⟨g6, hf⟩ := g_gdS hf
      refine va_iast hx hb hK.1 hP hD hS 7 0 rfl rfl (g_in_vp g6) dX6_makes_74 (fun H locs hP hD hS => ?_)
      have hP : va_P G.1 vwCl [((a 0), .inr (5, [.ref (a 1), .ref (a 2), .ref (a 3), .ref (a 4), .int sta, .ref (a 5), .int typ, .int att, .int rea, .ref (a 6), .ref (a 7), .ref (a 8)])), ((a 1), .inl (G.2.1, 411, .inl ss)), ((a 2), .inl (G.2.1, 1644, .inl was)), ((a 3), .inl (G.2.1, 411, .inl beg)), ((a 4), .inl (G.2.1, 411, .inl asi)), ((a 5), .inl (G.2.2.1, 60, .inl txt)), ((a 6), .inl (G.2.1, 4, .inl got)), ((a 7), .inl (G.2.1, 4, .inl (upd row (1 : Int32).toNatClampNeg (x3 / (10 : Int32))))), ((a 8), .inl (G.2.1, 4, .inl oth))] H := hP
      have hD : va_D (va_A w0 s.heap.size) [((a 0), .inr (5, [.ref (a 1), .ref (a 2), .ref (a 3), .ref (a 4), .int sta, .ref (a 5), .int typ, .int att, .int rea, .ref (a 6), .ref (a 7), .ref (a 8)])), ((a 1), .inl (G.2.1, 411, .inl ss)), ((a 2), .inl (G.2.1, 1644, .inl was)), ((a 3), .inl (G.2.1, 411, .inl beg)), ((a 4), .inl (G.2.1, 411, .inl asi)), ((a 5), .inl (G.2.2.1, 60, .inl txt)), ((a 6), .inl (G.2.1, 4, .inl got)), ((a 7), .inl (G.2.1, 4, .inl (upd row (1 : Int32).toNatClampNeg (x3 / (10 : Int32))))), ((a 8), .inl (G.2.1, 4, .inl oth))] := hD
      refine lv_aload_n hx hb dX6_makes_75 rfl (lv_at hl 0 rfl) ?_
      refine va_get (D := G.1) (ci := 5) (v := .ref (a 7)) (C := RX6) (T := TX6) (N := 12) hx hb hts hX6 hown hK.1 hP 0 rfl rfl 10 (by decide) (hts _ tw_598) (fun _ h9 => h9) rfl dX6_makes_76 ?_
      refine lv_iconst (v := (2 : Int32)) hx hb dX6_makes_79 (by decide) ?_
      refine lv_iload_n hx hb dX6_makes_80 rfl (lv_at hl 3 rfl) ?_
      refine lv_bipush (v := (10 : Int32)) hx hb dX6_makes_81 (by decide) ?_
      refine lv_irem hx hb dX6_makes_83 (by decide) ?_
      obtain ⟨g7, hf⟩ := g_gdS hf
      refine va_iast hx hb hK.1 hP hD hS 7 0 rfl rfl (g_in_vp g7) dX6_makes_84 (fun H locs hP hD hS => ?_)
      have hP : va_P G.1 vwCl [((a 0), .inr (5, [.ref (a 1), .ref (a 2), .ref (a 3), .ref (a 4), .int sta, .ref (a 5), .int typ, .int att, .int rea, .ref (a 6), .ref (a 7), .ref (a 8)])), ((a 1), .inl (G.2.1, 411, .inl ss)), ((a 2), .inl (G.2.1, 1644, .inl was)), ((a 3), .inl (G.2.1, 411, .inl beg)), ((a 4), .inl (G.2.1, 411, .inl asi)), ((a 5), .inl (G.2.2.1, 60, .inl txt)), ((a 6), .inl (G.2.1, 4, .inl got)), ((a 7), .inl (G.2.1, 4, .inl (upd (upd row (1 : Int32).toNatClampNeg (x3 / (10 : Int32))) (2 : Int32).toNatClampNeg (x3 - x3 / (10 : Int32) * (10 : Int32))))), ((a 8), .inl (G.2.1, 4, .inl oth))] H := hP
      have hD : va_D (va_A w0 s.heap.size) [((a 0), .inr (5, [.ref (a 1), .ref (a 2), .ref (a 3), .ref (a 4), .int sta, .ref (a 5), .int typ, .int att, .int rea, .ref (a 6), .ref (a 7), .ref (a 8)])), ((a 1), .inl (G.2.1, 411, .inl ss)), ((a 2), .inl (G.2.1, 1644, .inl was)), ((a 3), .inl (G.2.1, 411, .inl beg)), ((a 4), .inl (G.2.1, 411, .inl asi)), ((a 5), .inl (G.2.2.1, 60, .inl txt)), ((a 6), .inl (G.2.1, 4, .inl got)), ((a 7), .inl (G.2.1, 4, .inl (upd (upd row (1 : Int32).toNatClampNeg (x3 / (10 : Int32))) (2 : Int32).toNatClampNeg (x3 - x3 / (10 : Int32) * (10 : Int32))))), ((a 8), .inl (G.2.1, 4, .inl oth))] := hD
      refine lv_aload_n hx hb dX6_makes_85 rfl (lv_at hl 0 rfl) ?_
      refine va_get (D := G.1) (ci := 5) (v := .ref (a 7)) (C := RX6) (T := TX6) (N := 12) hx hb hts hX6 hown hK.1 hP 0 rfl rfl 10 (by decide) (hts _ tw_598) (fun _ h9 => h9) rfl dX6_makes_86 ?_
      refine lv_iconst (v := (3 : Int32)) hx hb dX6_makes_89 (by decide) ?_
      refine lv_iload hx hb dX6_makes_90 (lv_at hl 4 rfl) ?_
      refine lv_if_ne (tgt := 99) hx hb dX6_makes_92 (by decide) (fun c8 => ?_) (fun c8 => ?_)
      · have hf := g_ifF c8 hf
        refine lv_iconst (v := (1 : Int32)) hx hb dX6_makes_99 (by decide) ?_
        obtain ⟨g9, hf⟩ := g_gdS hf
        refine va_iast hx hb hK.1 hP hD hS 7 0 rfl rfl (g_in_vp g9) dX6_makes_100 (fun H locs hP hD hS => ?_)
        have hP : va_P G.1 vwCl [((a 0), .inr (5, [.ref (a 1), .ref (a 2), .ref (a 3), .ref (a 4), .int sta, .ref (a 5), .int typ, .int att, .int rea, .ref (a 6), .ref (a 7), .ref (a 8)])), ((a 1), .inl (G.2.1, 411, .inl ss)), ((a 2), .inl (G.2.1, 1644, .inl was)), ((a 3), .inl (G.2.1, 411, .inl beg)), ((a 4), .inl (G.2.1, 411, .inl asi)), ((a 5), .inl (G.2.2.1, 60, .inl txt)), ((a 6), .inl (G.2.1, 4, .inl got)), ((a 7), .inl (G.2.1, 4, .inl (upd (upd (upd row (1 : Int32).toNatClampNeg (x3 / (10 : Int32))) (2 : Int32).toNatClampNeg (x3 - x3 / (10 : Int32) * (10 : Int32))) (3 : Int32).toNatClampNeg (1 : Int32)))), ((a 8), .inl (G.2.1, 4, .inl oth))] H := hP
        have hD : va_D (va_A w0 s.heap.size) [((a 0), .inr (5, [.ref (a 1), .ref (a 2), .ref (a 3), .ref (a 4), .int sta, .ref (a 5), .int typ, .int att, .int rea, .ref (a 6), .ref (a 7), .ref (a 8)])), ((a 1), .inl (G.2.1, 411, .inl ss)), ((a 2), .inl (G.2.1, 1644, .inl was)), ((a 3), .inl (G.2.1, 411, .inl beg)), ((a 4), .inl (G.2.1, 411, .inl asi)), ((a 5), .inl (G.2.2.1, 60, .inl txt)), ((a 6), .inl (G.2.1, 4, .inl got)), ((a 7), .inl (G.2.1, 4, .inl (upd (upd (upd row (1 : Int32).toNatClampNeg (x3 / (10 : Int32))) (2 : Int32).toNatClampNeg (x3 - x3 / (10 : Int32) * (10 : Int32))) (3 : Int32).toNatClampNeg (1 : Int32)))), ((a 8), .inl (G.2.1, 4, .inl oth))] := hD
        cases hf
        exact g_vretC hx hb hr hlocks hP hD hS dX6_makes_101
      · have hf := g_ifT c8 hf
        refine lv_iconst (v := (0 : Int32)) hx hb dX6_makes_95 (by decide) ?_
        refine lv_goto (tgt := 100) hx hb dX6_makes_96 (by decide) ?_
        obtain ⟨g10, hf⟩ := g_gdS hf
        refine va_iast hx hb hK.1 hP hD hS 7 0 rfl rfl (g_in_vp g10) dX6_makes_100 (fun H locs hP hD hS => ?_)
        have hP : va_P G.1 vwCl [((a 0), .inr (5, [.ref (a 1), .ref (a 2), .ref (a 3), .ref (a 4), .int sta, .ref (a 5), .int typ, .int att, .int rea, .ref (a 6), .ref (a 7), .ref (a 8)])), ((a 1), .inl (G.2.1, 411, .inl ss)), ((a 2), .inl (G.2.1, 1644, .inl was)), ((a 3), .inl (G.2.1, 411, .inl beg)), ((a 4), .inl (G.2.1, 411, .inl asi)), ((a 5), .inl (G.2.2.1, 60, .inl txt)), ((a 6), .inl (G.2.1, 4, .inl got)), ((a 7), .inl (G.2.1, 4, .inl (upd (upd (upd row (1 : Int32).toNatClampNeg (x3 / (10 : Int32))) (2 : Int32).toNatClampNeg (x3 - x3 / (10 : Int32) * (10 : Int32))) (3 : Int32).toNatClampNeg (0 : Int32)))), ((a 8), .inl (G.2.1, 4, .inl oth))] H := hP
        have hD : va_D (va_A w0 s.heap.size) [((a 0), .inr (5, [.ref (a 1), .ref (a 2), .ref (a 3), .ref (a 4), .int sta, .ref (a 5), .int typ, .int att, .int rea, .ref (a 6), .ref (a 7), .ref (a 8)])), ((a 1), .inl (G.2.1, 411, .inl ss)), ((a 2), .inl (G.2.1, 1644, .inl was)), ((a 3), .inl (G.2.1, 411, .inl beg)), ((a 4), .inl (G.2.1, 411, .inl asi)), ((a 5), .inl (G.2.2.1, 60, .inl txt)), ((a 6), .inl (G.2.1, 4, .inl got)), ((a 7), .inl (G.2.1, 4, .inl (upd (upd (upd row (1 : Int32).toNatClampNeg (x3 / (10 : Int32))) (2 : Int32).toNatClampNeg (x3 - x3 / (10 : Int32) * (10 : Int32))) (3 : Int32).toNatClampNeg (0 : Int32)))), ((a 8), .inl (G.2.1, 4, .inl oth))] := hD
        cases hf
        exact g_vretC hx hb hr hlocks hP hD hS dX6_makes_101
def fX6_makes (p0 : Int32) (p1 : Int32) (ss : Nat → Int32) (was : Nat → Int32) (beg : Nat → Int32) (asi : Nat → Int32) (sta : Int32) (txt : Nat → Int32) (typ : Int32) (att : Int32) (rea : Int32) (got : Nat → Int32) (row : Nat → Int32) (oth : Nat → Int32) : Option ((Nat → Int32) × (Nat → Int32) × (Nat → Int32) × (Nat → Int32) × Int32 × (Nat → Int32) × Int32 × Int32 × Int32 × (Nat → Int32) × (Nat → Int32) × (Nat → Int32)) := g_gd (g_in (1 : Int32) 4) (g_gd (g_in (2 : Int32) 4) ((if p0 = (0 : Int32) then (if p1 = (1 : Int32) then g_gd (g_in (1 : Int32) 4) (g_gd (g_in (3 : Int32) 4) (g_gd (g_in (2 : Int32) 4) (g_gd (g_in (3 : Int32) 4) (fX6_makes_b56 p0 p1 (row (1 : Int32).toNatClampNeg) (row (2 : Int32).toNatClampNeg) ss was beg asi sta txt typ att rea got (upd (upd (upd row (1 : Int32).toNatClampNeg (((10 : Int32) * (row (1 : Int32).toNatClampNeg)) + (row (2 : Int32).toNatClampNeg))) (2 : Int32).toNatClampNeg ((upd row (1 : Int32).toNatClampNeg (((10 : Int32) * (row (1 : Int32).toNatClampNeg)) + (row (2 : Int32).toNatClampNeg))) (3 : Int32).toNatClampNeg)) (3 : Int32).toNatClampNeg (0 : Int32)) oth)))) else fX6_makes_b56 p0 p1 (row (1 : Int32).toNatClampNeg) (row (2 : Int32).toNatClampNeg) ss was beg asi sta txt typ att rea got row oth) else fX6_makes_b56 p0 p1 (row (1 : Int32).toNatClampNeg) (row (2 : Int32).toNatClampNeg) ss was beg asi sta txt typ att rea got row oth)))
set_option maxHeartbeats 4000000 in
set_option maxRecDepth 100000 in
theorem qX6_makes (l : Launch) (G : gT) (a : Nat → Nat) {p0 : Int32} {p1 : Int32} {ss : Nat → Int32} {was : Nat → Int32} {beg : Nat → Int32} {asi : Nat → Int32} {sta : Int32} {txt : Nat → Int32} {typ : Int32} {att : Int32} {rea : Int32} {got : Nat → Int32} {row : Nat → Int32} {oth : Nat → Int32} {u : (Nat → Int32) × (Nat → Int32) × (Nat → Int32) × (Nat → Int32) × Int32 × (Nat → Int32) × Int32 × Int32 × Int32 × (Nat → Int32) × (Nat → Int32) × (Nat → Int32)} (hf : fX6_makes p0 p1 ss was beg asi sta txt typ att rea got row oth = some u) : gC l G yX6_makes wsX6_makes rmX6_makes [.ref (a 0), .int p0, .int p1] (modW G a ss was beg asi sta txt typ att rea got row oth) none (modW G a u.1 u.2.1 u.2.2.1 u.2.2.2.1 u.2.2.2.2.1 u.2.2.2.2.2.1 u.2.2.2.2.2.2.1 u.2.2.2.2.2.2.2.1 u.2.2.2.2.2.2.2.2.1 u.2.2.2.2.2.2.2.2.2.1 u.2.2.2.2.2.2.2.2.2.2.1 u.2.2.2.2.2.2.2.2.2.2.2) := by
  refine gC.of (cc := cX6_makes) (maxL := 5) (ret := none) (by decide) rfl (Nat.le_of_ble_eq_true rfl) ?_
  intro p e s m below meth c C0 hP hD hS ls hl
  obtain ⟨hx, hb, hr, hts, hown, hlocks, hml, hK⟩ := id C0
  have hl : lv_has ls 5 [(0, .ref (a 0)), (1, .int p0), (2, .int p1)] := hl
  have hA : ∀ q : Nat, s.heap.size ≤ q → va_A (modW G a ss was beg asi sta txt typ att rea got row oth) s.heap.size q := fun q h => Or.inr h
  have hP : va_P G.1 vwCl [((a 0), .inr (5, [.ref (a 1), .ref (a 2), .ref (a 3), .ref (a 4), .int sta, .ref (a 5), .int typ, .int att, .int rea, .ref (a 6), .ref (a 7), .ref (a 8)])), ((a 1), .inl (G.2.1, 411, .inl ss)), ((a 2), .inl (G.2.1, 1644, .inl was)), ((a 3), .inl (G.2.1, 411, .inl beg)), ((a 4), .inl (G.2.1, 411, .inl asi)), ((a 5), .inl (G.2.2.1, 60, .inl txt)), ((a 6), .inl (G.2.1, 4, .inl got)), ((a 7), .inl (G.2.1, 4, .inl row)), ((a 8), .inl (G.2.1, 4, .inl oth))] s.heap := hP
  have hD : va_D (va_A (modW G a ss was beg asi sta txt typ att rea got row oth) s.heap.size) [((a 0), .inr (5, [.ref (a 1), .ref (a 2), .ref (a 3), .ref (a 4), .int sta, .ref (a 5), .int typ, .int att, .int rea, .ref (a 6), .ref (a 7), .ref (a 8)])), ((a 1), .inl (G.2.1, 411, .inl ss)), ((a 2), .inl (G.2.1, 1644, .inl was)), ((a 3), .inl (G.2.1, 411, .inl beg)), ((a 4), .inl (G.2.1, 411, .inl asi)), ((a 5), .inl (G.2.2.1, 60, .inl txt)), ((a 6), .inl (G.2.1, 4, .inl got)), ((a 7), .inl (G.2.1, 4, .inl row)), ((a 8), .inl (G.2.1, 4, .inl oth))] := hD
  unfold fX6_makes at hf
  refine lv_aload_n hx hb dX6_makes_0 rfl (lv_at hl 0 rfl) ?_
  refine va_get (D := G.1) (ci := 5) (v := .ref (a 7)) (C := RX6) (T := TX6) (N := 12) hx hb hts hX6 hown hK.1 hP 0 rfl rfl 10 (by decide) (hts _ tw_598) (fun _ h9 => h9) rfl dX6_makes_1 ?_
  refine lv_iconst (v := (1 : Int32)) hx hb dX6_makes_4 (by decide) ?_
  obtain ⟨g1, hf⟩ := g_gdS hf
  refine va_iald hx hb hK.1 hP 7 0 rfl rfl (g_in_vp g1) dX6_makes_5 ?_
  refine lv_istore_n (lv' := [(3, .int (row (1 : Int32).toNatClampNeg)), (0, .ref (a 0)), (1, .int p0), (2, .int p1)]) hx hb dX6_makes_6 rfl hl (by decide) rfl (fun ls hl => ?_)
  refine lv_aload_n hx hb dX6_makes_7 rfl (lv_at hl 1 rfl) ?_
  refine va_get (D := G.1) (ci := 5) (v := .ref (a 7)) (C := RX6) (T := TX6) (N := 12) hx hb hts hX6 hown hK.1 hP 0 rfl rfl 10 (by decide) (hts _ tw_598) (fun _ h9 => h9) rfl dX6_makes_8 ?_
  refine lv_iconst (v := (2 : Int32)) hx hb dX6_makes_11 (by decide) ?_
  obtain ⟨g2, hf⟩ := g_gdS hf
  refine va_iald hx hb hK.1 hP 7 0 rfl rfl (g_in_vp g2) dX6_makes_12 ?_
  refine lv_istore (lv' := [(4, .int (row (2 : Int32).toNatClampNeg)), (3, .int (row (1 : Int32).toNatClampNeg)), (0, .ref (a 0)), (1, .int p0), (2, .int p1)]) hx hb dX6_makes_13 hl (by decide) rfl (fun ls hl => ?_)
  refine lv_iload_n hx hb dX6_makes_15 rfl (lv_at hl 3 rfl) ?_
  refine lv_if_ne (tgt := 56) hx hb dX6_makes_16 (by decide) (fun c3 => ?_) (fun c3 => ?_)
  · have hf := g_ifF c3 hf
    exact kX6_makes_b56 C0 _ _ _ _ _ _ _ _ _ _ _ _ _ _ _ _ _ hf _ _ hP hD hS ls (lv_sub hl [2, 3, 4, 1, 0] rfl)
  · have hf := g_ifT c3 hf
    refine lv_iload_n hx hb dX6_makes_19 rfl (lv_at hl 4 rfl) ?_
    refine lv_iconst (v := (1 : Int32)) hx hb dX6_makes_20 (by decide) ?_
    refine lv_icmp_ne (tgt := 56) hx hb dX6_makes_21 (by decide) (fun c11 => ?_) (fun c11 => ?_)
    · have hf := g_ifF c11 hf
      exact kX6_makes_b56 C0 _ _ _ _ _ _ _ _ _ _ _ _ _ _ _ _ _ hf _ _ hP hD hS ls (lv_sub hl [2, 3, 4, 1, 0] rfl)
    · have hf := g_ifT c11 hf
      refine lv_aload_n hx hb dX6_makes_24 rfl (lv_at hl 2 rfl) ?_
      refine va_get (D := G.1) (ci := 5) (v := .ref (a 7)) (C := RX6) (T := TX6) (N := 12) hx hb hts hX6 hown hK.1 hP 0 rfl rfl 10 (by decide) (hts _ tw_598) (fun _ h9 => h9) rfl dX6_makes_25 ?_
      refine lv_iconst (v := (1 : Int32)) hx hb dX6_makes_28 (by decide) ?_
      refine lv_bipush (v := (10 : Int32)) hx hb dX6_makes_29 (by decide) ?_
      refine lv_iload_n hx hb dX6_makes_31 rfl (lv_at hl 1 rfl) ?_
      refine lv_imul hx hb dX6_makes_32 ?_
      refine lv_iload hx hb dX6_makes_33 (lv_at hl 0 rfl) ?_
      refine lv_iadd hx hb dX6_makes_35 ?_
      obtain ⟨g12, hf⟩ := g_gdS hf
      refine va_iast hx hb hK.1 hP hD hS 7 0 rfl rfl (g_in_vp g12) dX6_makes_36 (fun H locs hP hD hS => ?_)
      have hP : va_P G.1 vwCl [((a 0), .inr (5, [.ref (a 1), .ref (a 2), .ref (a 3), .ref (a 4), .int sta, .ref (a 5), .int typ, .int att, .int rea, .ref (a 6), .ref (a 7), .ref (a 8)])), ((a 1), .inl (G.2.1, 411, .inl ss)), ((a 2), .inl (G.2.1, 1644, .inl was)), ((a 3), .inl (G.2.1, 411, .inl beg)), ((a 4), .inl (G.2.1, 411, .inl asi)), ((a 5), .inl (G.2.2.1, 60, .inl txt)), ((a 6), .inl (G.2.1, 4, .inl got)), ((a 7), .inl (G.2.1, 4, .inl (upd row (1 : Int32).toNatClampNeg (((10 : Int32) * (row (1 : Int32).toNatClampNeg)) + (row (2 : Int32).toNatClampNeg))))), ((a 8), .inl (G.2.1, 4, .inl oth))] H := hP
      have hD : va_D (va_A (modW G a ss was beg asi sta txt typ att rea got row oth) s.heap.size) [((a 0), .inr (5, [.ref (a 1), .ref (a 2), .ref (a 3), .ref (a 4), .int sta, .ref (a 5), .int typ, .int att, .int rea, .ref (a 6), .ref (a 7), .ref (a 8)])), ((a 1), .inl (G.2.1, 411, .inl ss)), ((a 2), .inl (G.2.1, 1644, .inl was)), ((a 3), .inl (G.2.1, 411, .inl beg)), ((a 4), .inl (G.2.1, 411, .inl asi)), ((a 5), .inl (G.2.2.1, 60, .inl txt)), ((a 6), .inl (G.2.1, 4, .inl got)), ((a 7), .inl (G.2.1, 4, .inl (upd row (1 : Int32).toNatClampNeg (((10 : Int32) * (row (1 : Int32).toNatClampNeg)) + (row (2 : Int32).toNatClampNeg))))), ((a 8), .inl (G.2.1, 4, .inl oth))] := hD
      refine lv_aload_n hx hb dX6_makes_37 rfl (lv_at hl 2 rfl) ?_
      refine va_get (D := G.1) (ci := 5) (v := .ref (a 7)) (C := RX6) (T := TX6) (N := 12) hx hb hts hX6 hown hK.1 hP 0 rfl rfl 10 (by decide) (hts _ tw_598) (fun _ h9 => h9) rfl dX6_makes_38 ?_
      refine lv_iconst (v := (2 : Int32)) hx hb dX6_makes_41 (by decide) ?_
      refine lv_aload_n hx hb dX6_makes_42 rfl (lv_at hl 2 rfl) ?_
      refine va_get (D := G.1) (ci := 5) (v := .ref (a 7)) (C := RX6) (T := TX6) (N := 12) hx hb hts hX6 hown hK.1 hP 0 rfl rfl 10 (by decide) (hts _ tw_598) (fun _ h9 => h9) rfl dX6_makes_43 ?_
      refine lv_iconst (v := (3 : Int32)) hx hb dX6_makes_46 (by decide) ?_
      obtain ⟨g13, hf⟩ := g_gdS hf
      refine va_iald hx hb hK.1 hP 7 0 rfl rfl (g_in_vp g13) dX6_makes_47 ?_
      obtain ⟨g14, hf⟩ := g_gdS hf
      refine va_iast hx hb hK.1 hP hD hS 7 0 rfl rfl (g_in_vp g14) dX6_makes_48 (fun H locs hP hD hS => ?_)
      have hP : va_P G.1 vwCl [((a 0), .inr (5, [.ref (a 1), .ref (a 2), .ref (a 3), .ref (a 4), .int sta, .ref (a 5), .int typ, .int att, .int rea, .ref (a 6), .ref (a 7), .ref (a 8)])), ((a 1), .inl (G.2.1, 411, .inl ss)), ((a 2), .inl (G.2.1, 1644, .inl was)), ((a 3), .inl (G.2.1, 411, .inl beg)), ((a 4), .inl (G.2.1, 411, .inl asi)), ((a 5), .inl (G.2.2.1, 60, .inl txt)), ((a 6), .inl (G.2.1, 4, .inl got)), ((a 7), .inl (G.2.1, 4, .inl (upd (upd row (1 : Int32).toNatClampNeg (((10 : Int32) * (row (1 : Int32).toNatClampNeg)) + (row (2 : Int32).toNatClampNeg))) (2 : Int32).toNatClampNeg ((upd row (1 : Int32).toNatClampNeg (((10 : Int32) * (row (1 : Int32).toNatClampNeg)) + (row (2 : Int32).toNatClampNeg))) (3 : Int32).toNatClampNeg)))), ((a 8), .inl (G.2.1, 4, .inl oth))] H := hP
      have hD : va_D (va_A (modW G a ss was beg asi sta txt typ att rea got row oth) s.heap.size) [((a 0), .inr (5, [.ref (a 1), .ref (a 2), .ref (a 3), .ref (a 4), .int sta, .ref (a 5), .int typ, .int att, .int rea, .ref (a 6), .ref (a 7), .ref (a 8)])), ((a 1), .inl (G.2.1, 411, .inl ss)), ((a 2), .inl (G.2.1, 1644, .inl was)), ((a 3), .inl (G.2.1, 411, .inl beg)), ((a 4), .inl (G.2.1, 411, .inl asi)), ((a 5), .inl (G.2.2.1, 60, .inl txt)), ((a 6), .inl (G.2.1, 4, .inl got)), ((a 7), .inl (G.2.1, 4, .inl (upd (upd row (1 : Int32).toNatClampNeg (((10 : Int32) * (row (1 : Int32).toNatClampNeg)) + (row (2 : Int32).toNatClampNeg))) (2 : Int32).toNatClampNeg ((upd row (1 : Int32).toNatClampNeg (((10 : Int32) * (row (1 : Int32).toNatClampNeg)) + (row (2 : Int32).toNatClampNeg))) (3 : Int32).toNatClampNeg)))), ((a 8), .inl (G.2.1, 4, .inl oth))] := hD
      refine lv_aload_n hx hb dX6_makes_49 rfl (lv_at hl 2 rfl) ?_
      refine va_get (D := G.1) (ci := 5) (v := .ref (a 7)) (C := RX6) (T := TX6) (N := 12) hx hb hts hX6 hown hK.1 hP 0 rfl rfl 10 (by decide) (hts _ tw_598) (fun _ h9 => h9) rfl dX6_makes_50 ?_
      refine lv_iconst (v := (3 : Int32)) hx hb dX6_makes_53 (by decide) ?_
      refine lv_iconst (v := (0 : Int32)) hx hb dX6_makes_54 (by decide) ?_
      obtain ⟨g15, hf⟩ := g_gdS hf
      refine va_iast hx hb hK.1 hP hD hS 7 0 rfl rfl (g_in_vp g15) dX6_makes_55 (fun H locs hP hD hS => ?_)
      have hP : va_P G.1 vwCl [((a 0), .inr (5, [.ref (a 1), .ref (a 2), .ref (a 3), .ref (a 4), .int sta, .ref (a 5), .int typ, .int att, .int rea, .ref (a 6), .ref (a 7), .ref (a 8)])), ((a 1), .inl (G.2.1, 411, .inl ss)), ((a 2), .inl (G.2.1, 1644, .inl was)), ((a 3), .inl (G.2.1, 411, .inl beg)), ((a 4), .inl (G.2.1, 411, .inl asi)), ((a 5), .inl (G.2.2.1, 60, .inl txt)), ((a 6), .inl (G.2.1, 4, .inl got)), ((a 7), .inl (G.2.1, 4, .inl (upd (upd (upd row (1 : Int32).toNatClampNeg (((10 : Int32) * (row (1 : Int32).toNatClampNeg)) + (row (2 : Int32).toNatClampNeg))) (2 : Int32).toNatClampNeg ((upd row (1 : Int32).toNatClampNeg (((10 : Int32) * (row (1 : Int32).toNatClampNeg)) + (row (2 : Int32).toNatClampNeg))) (3 : Int32).toNatClampNeg)) (3 : Int32).toNatClampNeg (0 : Int32)))), ((a 8), .inl (G.2.1, 4, .inl oth))] H := hP
      have hD : va_D (va_A (modW G a ss was beg asi sta txt typ att rea got row oth) s.heap.size) [((a 0), .inr (5, [.ref (a 1), .ref (a 2), .ref (a 3), .ref (a 4), .int sta, .ref (a 5), .int typ, .int att, .int rea, .ref (a 6), .ref (a 7), .ref (a 8)])), ((a 1), .inl (G.2.1, 411, .inl ss)), ((a 2), .inl (G.2.1, 1644, .inl was)), ((a 3), .inl (G.2.1, 411, .inl beg)), ((a 4), .inl (G.2.1, 411, .inl asi)), ((a 5), .inl (G.2.2.1, 60, .inl txt)), ((a 6), .inl (G.2.1, 4, .inl got)), ((a 7), .inl (G.2.1, 4, .inl (upd (upd (upd row (1 : Int32).toNatClampNeg (((10 : Int32) * (row (1 : Int32).toNatClampNeg)) + (row (2 : Int32).toNatClampNeg))) (2 : Int32).toNatClampNeg ((upd row (1 : Int32).toNatClampNeg (((10 : Int32) * (row (1 : Int32).toNatClampNeg)) + (row (2 : Int32).toNatClampNeg))) (3 : Int32).toNatClampNeg)) (3 : Int32).toNatClampNeg (0 : Int32)))), ((a 8), .inl (G.2.1, 4, .inl oth))] := hD
      exact kX6_makes_b56 C0 _ _ _ _ _ _ _ _ _ _ _ _ _ _ _ _ _ hf _ _ hP hD hS ls (lv_sub hl [2, 3, 4, 1, 0] rfl)
-- TwoShapesModel.takes(II)V
abbrev rmX6_takes : Room := { frames := 2, cells := 0, slots := 0, locals := 44 }
def fX6_takes_b2 : Nat → Int32 → Int32 → Int32 → (Nat → Int32) → (Nat → Int32) → (Nat → Int32) → (Nat → Int32) → Int32 → (Nat → Int32) → Int32 → Int32 → Int32 → (Nat → Int32) → (Nat → Int32) → (Nat → Int32) → Option ((Nat → Int32) × (Nat → Int32) × (Nat → Int32) × (Nat → Int32) × Int32 × (Nat → Int32) × Int32 × Int32 × Int32 × (Nat → Int32) × (Nat → Int32) × (Nat → Int32))
  | 0, _, _, _, _, _, _, _, _, _, _, _, _, _, _, _ => none
  | n + 1, x1, x2, x3, ss, was, beg, asi, sta, txt, typ, att, rea, got, row, oth => (if (4 : Int32) ≤ x3 then some (ss, was, beg, asi, sta, txt, typ, att, rea, got, row, oth) else ((fX6_of x1 x2 ((1 : Int32) + x3) ss was beg asi sta txt typ att rea got row oth).bind fun r2 => g_gd (g_in x3 4) (fX6_takes_b2 n x1 x2 (x3 + (1 : Int32)) ss was beg asi sta txt typ att rea got (upd row x3.toNatClampNeg r2) oth)))
set_option maxHeartbeats 4000000 in
set_option maxRecDepth 100000 in
theorem kX6_takes_b2 {p : Program} {l : Launch} {e : Env} {s : State} {m : MethodId} {args : Array Value} {below : List Frame} {meth : Method} {c : Code} {G : gT} {a : Nat → Nat} {w0 : va_W} (C0 : gX p s m args meth c cX6_takes 4 none RX6 G) :
    ∀ (n : Nat) (x1 : Int32) (x2 : Int32) (x3 : Int32) (ss : Nat → Int32) (was : Nat → Int32) (beg : Nat → Int32) (asi : Nat → Int32) (sta : Int32) (txt : Nat → Int32) (typ : Int32) (att : Int32) (rea : Int32) (got : Nat → Int32) (row : Nat → Int32) (oth : Nat → Int32) (u : (Nat → Int32) × (Nat → Int32) × (Nat → Int32) × (Nat → Int32) × Int32 × (Nat → Int32) × Int32 × Int32 × Int32 × (Nat → Int32) × (Nat → Int32) × (Nat → Int32)), fX6_takes_b2 n x1 x2 x3 ss was beg asi sta txt typ att rea got row oth = some u → ∀ (H : Heap) (locs : List Loc), va_P G.1 vwCl [((a 0), .inr (5, [.ref (a 1), .ref (a 2), .ref (a 3), .ref (a 4), .int sta, .ref (a 5), .int typ, .int att, .int rea, .ref (a 6), .ref (a 7), .ref (a 8)])), ((a 1), .inl (G.2.1, 411, .inl ss)), ((a 2), .inl (G.2.1, 1644, .inl was)), ((a 3), .inl (G.2.1, 411, .inl beg)), ((a 4), .inl (G.2.1, 411, .inl asi)), ((a 5), .inl (G.2.2.1, 60, .inl txt)), ((a 6), .inl (G.2.1, 4, .inl got)), ((a 7), .inl (G.2.1, 4, .inl row)), ((a 8), .inl (G.2.1, 4, .inl oth))] H → va_D (va_A w0 s.heap.size) [((a 0), .inr (5, [.ref (a 1), .ref (a 2), .ref (a 3), .ref (a 4), .int sta, .ref (a 5), .int typ, .int att, .int rea, .ref (a 6), .ref (a 7), .ref (a 8)])), ((a 1), .inl (G.2.1, 411, .inl ss)), ((a 2), .inl (G.2.1, 1644, .inl was)), ((a 3), .inl (G.2.1, 411, .inl beg)), ((a 4), .inl (G.2.1, 411, .inl asi)), ((a 5), .inl (G.2.2.1, 60, .inl txt)), ((a 6), .inl (G.2.1, 4, .inl got)), ((a 7), .inl (G.2.1, 4, .inl row)), ((a 8), .inl (G.2.1, 4, .inl oth))] → va_S (va_A w0 s.heap.size) s.heap H locs → ∀ ls, lv_has ls 4 [(0, .ref (a 0)), (1, .int x1), (2, .int x2), (3, .int x3)] → gW p l e (headSpec wsX6_takes rmX6_takes).room s m args below meth c G w0 none (modW G a u.1 u.2.1 u.2.2.1 u.2.2.2.1 u.2.2.2.2.1 u.2.2.2.2.2.1 u.2.2.2.2.2.2.1 u.2.2.2.2.2.2.2.1 u.2.2.2.2.2.2.2.2.1 u.2.2.2.2.2.2.2.2.2.1 u.2.2.2.2.2.2.2.2.2.2.1 u.2.2.2.2.2.2.2.2.2.2.2) H locs 2 ls [] := by
  obtain ⟨hx, hb, hr, hts, hown, hlocks, hml, hK⟩ := id C0
  have hA : ∀ q : Nat, s.heap.size ≤ q → va_A w0 s.heap.size q := fun q h => Or.inr h
  intro n
  induction n with
  | zero =>
    intro x1 x2 x3 ss was beg asi sta txt typ att rea got row oth u hf H locs hP hD hS ls hl
    have hf : (none : Option ((Nat → Int32) × (Nat → Int32) × (Nat → Int32) × (Nat → Int32) × Int32 × (Nat → Int32) × Int32 × Int32 × Int32 × (Nat → Int32) × (Nat → Int32) × (Nat → Int32))) = some u := hf
    cases hf
  | succ n ih =>
    intro x1 x2 x3 ss was beg asi sta txt typ att rea got row oth u hf H locs hP hD hS ls hl
    rw [fX6_takes_b2] at hf
    refine lv_iload_n hx hb dX6_takes_2 rfl (lv_at hl 3 rfl) ?_
    refine lv_iconst (v := (4 : Int32)) hx hb dX6_takes_3 (by decide) ?_
    refine lv_icmp_ge (tgt := 28) hx hb dX6_takes_4 (by decide) (fun c1 => ?_) (fun c1 => ?_)
    · have hf := g_ifT c1 hf
      cases hf
      exact g_vretC hx hb hr hlocks hP hD hS dX6_takes_28
    · have hf := g_ifF c1 hf
      refine lv_aload_n hx hb dX6_takes_7 rfl (lv_at hl 0 rfl) ?_
      refine va_get (D := G.1) (ci := 5) (v := .ref (a 7)) (C := RX6) (T := TX6) (N := 12) hx hb hts hX6 hown hK.1 hP 0 rfl rfl 10 (by decide) (hts _ tw_598) (fun _ h9 => h9) rfl dX6_takes_8 ?_
      refine lv_iload_n hx hb dX6_takes_11 rfl (lv_at hl 3 rfl) ?_
      refine lv_aload_n hx hb dX6_takes_12 rfl (lv_at hl 0 rfl) ?_
      refine lv_iload_n hx hb dX6_takes_13 rfl (lv_at hl 1 rfl) ?_
      refine lv_iload_n hx hb dX6_takes_14 rfl (lv_at hl 2 rfl) ?_
      refine lv_iconst (v := (1 : Int32)) hx hb dX6_takes_15 (by decide) ?_
      refine lv_iload_n hx hb dX6_takes_16 rfl (lv_at hl 3 rfl) ?_
      refine lv_iadd hx hb dX6_takes_17 ?_
      obtain ⟨r2, e3, hf⟩ := g_bdS hf
      refine g_contR (st1 := [.int r2, .int x3, .ref (a 7)]) (g_runVR (As := [.int x1, .int x2, .int ((1 : Int32) + x3)]) (rest := [.int x3, .ref (a 7)]) ⟨hx, hb, hml, hown, hts⟩ (qX6_of l G a e3) (cwV 3 hts (TB_V TB_id tw_643 tw_645 tw_12 tw_54 tw_646) rfl rfl rfl (by decide +kernel) ⟨Nat.le_of_ble_eq_true rfl, Nat.le_of_ble_eq_true rfl⟩) hK (hP.sub [0, 1, 2, 3, 4, 5, 6, 7, 8] rfl) 0 rfl rfl rfl hl.1 rfl (Nat.le_of_ble_eq_true rfl) dX6_takes_18) rfl ?_
      obtain ⟨g4, hf⟩ := g_gdS hf
      refine va_iast hx hb hK.1 hP hD hS 7 0 rfl rfl (g_in_vp g4) dX6_takes_21 (fun H locs hP hD hS => ?_)
      have hP : va_P G.1 vwCl [((a 0), .inr (5, [.ref (a 1), .ref (a 2), .ref (a 3), .ref (a 4), .int sta, .ref (a 5), .int typ, .int att, .int rea, .ref (a 6), .ref (a 7), .ref (a 8)])), ((a 1), .inl (G.2.1, 411, .inl ss)), ((a 2), .inl (G.2.1, 1644, .inl was)), ((a 3), .inl (G.2.1, 411, .inl beg)), ((a 4), .inl (G.2.1, 411, .inl asi)), ((a 5), .inl (G.2.2.1, 60, .inl txt)), ((a 6), .inl (G.2.1, 4, .inl got)), ((a 7), .inl (G.2.1, 4, .inl (upd row x3.toNatClampNeg r2))), ((a 8), .inl (G.2.1, 4, .inl oth))] H := hP
      have hD : va_D (va_A w0 s.heap.size) [((a 0), .inr (5, [.ref (a 1), .ref (a 2), .ref (a 3), .ref (a 4), .int sta, .ref (a 5), .int typ, .int att, .int rea, .ref (a 6), .ref (a 7), .ref (a 8)])), ((a 1), .inl (G.2.1, 411, .inl ss)), ((a 2), .inl (G.2.1, 1644, .inl was)), ((a 3), .inl (G.2.1, 411, .inl beg)), ((a 4), .inl (G.2.1, 411, .inl asi)), ((a 5), .inl (G.2.2.1, 60, .inl txt)), ((a 6), .inl (G.2.1, 4, .inl got)), ((a 7), .inl (G.2.1, 4, .inl (upd row x3.toNatClampNeg r2))), ((a 8), .inl (G.2.1, 4, .inl oth))] := hD
      refine lv_iinc (v := (x3 + (1 : Int32))) (lv' := [(3, .int (x3 + (1 : Int32))), (0, .ref (a 0)), (1, .int x1), (2, .int x2)]) hx hb dX6_takes_22 hl (k := 3) rfl rfl (by decide) rfl (fun ls hl => ?_)
      refine lv_goto (tgt := 2) hx hb dX6_takes_25 (by decide) ?_
      exact ih _ _ _ _ _ _ _ _ _ _ _ _ _ _ _ _ hf _ _ hP hD hS ls (lv_sub hl [1, 2, 3, 0] rfl)
def fX6_takes (p0 : Int32) (p1 : Int32) (ss : Nat → Int32) (was : Nat → Int32) (beg : Nat → Int32) (asi : Nat → Int32) (sta : Int32) (txt : Nat → Int32) (typ : Int32) (att : Int32) (rea : Int32) (got : Nat → Int32) (row : Nat → Int32) (oth : Nat → Int32) : Option ((Nat → Int32) × (Nat → Int32) × (Nat → Int32) × (Nat → Int32) × Int32 × (Nat → Int32) × Int32 × Int32 × Int32 × (Nat → Int32) × (Nat → Int32) × (Nat → Int32)) := fX6_takes_b2 2000 p0 p1 (0 : Int32) ss was beg asi sta txt typ att rea got row oth
set_option maxHeartbeats 4000000 in
set_option maxRecDepth 100000 in
theorem qX6_takes (l : Launch) (G : gT) (a : Nat → Nat) {p0 : Int32} {p1 : Int32} {ss : Nat → Int32} {was : Nat → Int32} {beg : Nat → Int32} {asi : Nat → Int32} {sta : Int32} {txt : Nat → Int32} {typ : Int32} {att : Int32} {rea : Int32} {got : Nat → Int32} {row : Nat → Int32} {oth : Nat → Int32} {u : (Nat → Int32) × (Nat → Int32) × (Nat → Int32) × (Nat → Int32) × Int32 × (Nat → Int32) × Int32 × Int32 × Int32 × (Nat → Int32) × (Nat → Int32) × (Nat → Int32)} (hf : fX6_takes p0 p1 ss was beg asi sta txt typ att rea got row oth = some u) : gC l G yX6_takes wsX6_takes rmX6_takes [.ref (a 0), .int p0, .int p1] (modW G a ss was beg asi sta txt typ att rea got row oth) none (modW G a u.1 u.2.1 u.2.2.1 u.2.2.2.1 u.2.2.2.2.1 u.2.2.2.2.2.1 u.2.2.2.2.2.2.1 u.2.2.2.2.2.2.2.1 u.2.2.2.2.2.2.2.2.1 u.2.2.2.2.2.2.2.2.2.1 u.2.2.2.2.2.2.2.2.2.2.1 u.2.2.2.2.2.2.2.2.2.2.2) := by
  refine gC.of (cc := cX6_takes) (maxL := 4) (ret := none) (by decide) rfl (Nat.le_of_ble_eq_true rfl) ?_
  intro p e s m below meth c C0 hP hD hS ls hl
  obtain ⟨hx, hb, hr, hts, hown, hlocks, hml, hK⟩ := id C0
  have hl : lv_has ls 4 [(0, .ref (a 0)), (1, .int p0), (2, .int p1)] := hl
  have hA : ∀ q : Nat, s.heap.size ≤ q → va_A (modW G a ss was beg asi sta txt typ att rea got row oth) s.heap.size q := fun q h => Or.inr h
  have hP : va_P G.1 vwCl [((a 0), .inr (5, [.ref (a 1), .ref (a 2), .ref (a 3), .ref (a 4), .int sta, .ref (a 5), .int typ, .int att, .int rea, .ref (a 6), .ref (a 7), .ref (a 8)])), ((a 1), .inl (G.2.1, 411, .inl ss)), ((a 2), .inl (G.2.1, 1644, .inl was)), ((a 3), .inl (G.2.1, 411, .inl beg)), ((a 4), .inl (G.2.1, 411, .inl asi)), ((a 5), .inl (G.2.2.1, 60, .inl txt)), ((a 6), .inl (G.2.1, 4, .inl got)), ((a 7), .inl (G.2.1, 4, .inl row)), ((a 8), .inl (G.2.1, 4, .inl oth))] s.heap := hP
  have hD : va_D (va_A (modW G a ss was beg asi sta txt typ att rea got row oth) s.heap.size) [((a 0), .inr (5, [.ref (a 1), .ref (a 2), .ref (a 3), .ref (a 4), .int sta, .ref (a 5), .int typ, .int att, .int rea, .ref (a 6), .ref (a 7), .ref (a 8)])), ((a 1), .inl (G.2.1, 411, .inl ss)), ((a 2), .inl (G.2.1, 1644, .inl was)), ((a 3), .inl (G.2.1, 411, .inl beg)), ((a 4), .inl (G.2.1, 411, .inl asi)), ((a 5), .inl (G.2.2.1, 60, .inl txt)), ((a 6), .inl (G.2.1, 4, .inl got)), ((a 7), .inl (G.2.1, 4, .inl row)), ((a 8), .inl (G.2.1, 4, .inl oth))] := hD
  unfold fX6_takes at hf
  refine lv_iconst (v := (0 : Int32)) hx hb dX6_takes_0 (by decide) ?_
  refine lv_istore_n (lv' := [(3, .int (0 : Int32)), (0, .ref (a 0)), (1, .int p0), (2, .int p1)]) hx hb dX6_takes_1 rfl hl (by decide) rfl (fun ls hl => ?_)
  exact kX6_takes_b2 C0 2000 _ _ _ _ _ _ _ _ _ _ _ _ _ _ _ _ hf _ _ hP hD hS ls (lv_sub hl [1, 2, 3, 0] rfl)
-- TwoShapesModel.lays(III)V
abbrev rmX6_lays : Room := { frames := 1, cells := 0, slots := 0, locals := 21 }
def fX6_lays_b20 : Nat → Int32 → Int32 → (Nat → Int32) → (Nat → Int32) → (Nat → Int32) → (Nat → Int32) → Int32 → (Nat → Int32) → Int32 → Int32 → Int32 → (Nat → Int32) → (Nat → Int32) → (Nat → Int32) → Option ((Nat → Int32) × (Nat → Int32) × (Nat → Int32) × (Nat → Int32) × Int32 × (Nat → Int32) × Int32 × Int32 × Int32 × (Nat → Int32) × (Nat → Int32) × (Nat → Int32))
  | 0, _, _, _, _, _, _, _, _, _, _, _, _, _, _ => none
  | n + 1, x4, x5, ss, was, beg, asi, sta, txt, typ, att, rea, got, row, oth => (if (4 : Int32) ≤ x5 then some (ss, was, beg, asi, sta, txt, typ, att, rea, got, row, oth) else g_gd (g_in (0 : Int32) 4) ((if (row (0 : Int32).toNatClampNeg) = (0 : Int32) then g_gd (g_in ((x4 + (1 : Int32)) + x5) 411) (fX6_lays_b20 n x4 (x5 + (1 : Int32)) (upd ss ((x4 + (1 : Int32)) + x5).toNatClampNeg (0 : Int32)) was beg asi sta txt typ att rea got row oth) else g_gd (g_in x5 4) (g_gd (g_in ((x4 + (1 : Int32)) + x5) 411) (fX6_lays_b20 n x4 (x5 + (1 : Int32)) (upd ss ((x4 + (1 : Int32)) + x5).toNatClampNeg (row x5.toNatClampNeg)) was beg asi sta txt typ att rea got row oth)))))
set_option maxHeartbeats 4000000 in
set_option maxRecDepth 100000 in
theorem kX6_lays_b20 {p : Program} {l : Launch} {e : Env} {s : State} {m : MethodId} {args : Array Value} {below : List Frame} {meth : Method} {c : Code} {G : gT} {a : Nat → Nat} {w0 : va_W} (C0 : gX p s m args meth c cX6_lays 6 none RX6 G) :
    ∀ (n : Nat) (x4 : Int32) (x5 : Int32) (ss : Nat → Int32) (was : Nat → Int32) (beg : Nat → Int32) (asi : Nat → Int32) (sta : Int32) (txt : Nat → Int32) (typ : Int32) (att : Int32) (rea : Int32) (got : Nat → Int32) (row : Nat → Int32) (oth : Nat → Int32) (u : (Nat → Int32) × (Nat → Int32) × (Nat → Int32) × (Nat → Int32) × Int32 × (Nat → Int32) × Int32 × Int32 × Int32 × (Nat → Int32) × (Nat → Int32) × (Nat → Int32)), fX6_lays_b20 n x4 x5 ss was beg asi sta txt typ att rea got row oth = some u → ∀ (H : Heap) (locs : List Loc), va_P G.1 vwCl [((a 0), .inr (5, [.ref (a 1), .ref (a 2), .ref (a 3), .ref (a 4), .int sta, .ref (a 5), .int typ, .int att, .int rea, .ref (a 6), .ref (a 7), .ref (a 8)])), ((a 1), .inl (G.2.1, 411, .inl ss)), ((a 2), .inl (G.2.1, 1644, .inl was)), ((a 3), .inl (G.2.1, 411, .inl beg)), ((a 4), .inl (G.2.1, 411, .inl asi)), ((a 5), .inl (G.2.2.1, 60, .inl txt)), ((a 6), .inl (G.2.1, 4, .inl got)), ((a 7), .inl (G.2.1, 4, .inl row)), ((a 8), .inl (G.2.1, 4, .inl oth))] H → va_D (va_A w0 s.heap.size) [((a 0), .inr (5, [.ref (a 1), .ref (a 2), .ref (a 3), .ref (a 4), .int sta, .ref (a 5), .int typ, .int att, .int rea, .ref (a 6), .ref (a 7), .ref (a 8)])), ((a 1), .inl (G.2.1, 411, .inl ss)), ((a 2), .inl (G.2.1, 1644, .inl was)), ((a 3), .inl (G.2.1, 411, .inl beg)), ((a 4), .inl (G.2.1, 411, .inl asi)), ((a 5), .inl (G.2.2.1, 60, .inl txt)), ((a 6), .inl (G.2.1, 4, .inl got)), ((a 7), .inl (G.2.1, 4, .inl row)), ((a 8), .inl (G.2.1, 4, .inl oth))] → va_S (va_A w0 s.heap.size) s.heap H locs → ∀ ls, lv_has ls 6 [(0, .ref (a 0)), (4, .int x4), (5, .int x5)] → gW p l e (headSpec wsX6_lays rmX6_lays).room s m args below meth c G w0 none (modW G a u.1 u.2.1 u.2.2.1 u.2.2.2.1 u.2.2.2.2.1 u.2.2.2.2.2.1 u.2.2.2.2.2.2.1 u.2.2.2.2.2.2.2.1 u.2.2.2.2.2.2.2.2.1 u.2.2.2.2.2.2.2.2.2.1 u.2.2.2.2.2.2.2.2.2.2.1 u.2.2.2.2.2.2.2.2.2.2.2) H locs 20 ls [] := by
  obtain ⟨hx, hb, hr, hts, hown, hlocks, hml, hK⟩ := id C0
  have hA : ∀ q : Nat, s.heap.size ≤ q → va_A w0 s.heap.size q := fun q h => Or.inr h
  intro n
  induction n with
  | zero =>
    intro x4 x5 ss was beg asi sta txt typ att rea got row oth u hf H locs hP hD hS ls hl
    have hf : (none : Option ((Nat → Int32) × (Nat → Int32) × (Nat → Int32) × (Nat → Int32) × Int32 × (Nat → Int32) × Int32 × Int32 × Int32 × (Nat → Int32) × (Nat → Int32) × (Nat → Int32))) = some u := hf
    cases hf
  | succ n ih =>
    intro x4 x5 ss was beg asi sta txt typ att rea got row oth u hf H locs hP hD hS ls hl
    rw [fX6_lays_b20] at hf
    refine lv_iload hx hb dX6_lays_20 (lv_at hl 2 rfl) ?_
    refine lv_iconst (v := (4 : Int32)) hx hb dX6_lays_22 (by decide) ?_
    refine lv_icmp_ge (tgt := 64) hx hb dX6_lays_23 (by decide) (fun c4 => ?_) (fun c4 => ?_)
    · have hf := g_ifT c4 hf
      cases hf
      exact g_vretC hx hb hr hlocks hP hD hS dX6_lays_64
    · have hf := g_ifF c4 hf
      refine lv_aload_n hx hb dX6_lays_26 rfl (lv_at hl 0 rfl) ?_
      refine va_get (D := G.1) (ci := 5) (v := .ref (a 1)) (C := RX6) (T := TX6) (N := 12) hx hb hts hX6 hown hK.1 hP 0 rfl rfl 0 (by decide) (hts _ tw_588) (fun _ h9 => h9) rfl dX6_lays_27 ?_
      refine lv_iload hx hb dX6_lays_30 (lv_at hl 1 rfl) ?_
      refine lv_iconst (v := (1 : Int32)) hx hb dX6_lays_32 (by decide) ?_
      refine lv_iadd hx hb dX6_lays_33 ?_
      refine lv_iload hx hb dX6_lays_34 (lv_at hl 2 rfl) ?_
      refine lv_iadd hx hb dX6_lays_36 ?_
      refine lv_aload_n hx hb dX6_lays_37 rfl (lv_at hl 0 rfl) ?_
      refine va_get (D := G.1) (ci := 5) (v := .ref (a 7)) (C := RX6) (T := TX6) (N := 12) hx hb hts hX6 hown hK.1 hP 0 rfl rfl 10 (by decide) (hts _ tw_598) (fun _ h9 => h9) rfl dX6_lays_38 ?_
      refine lv_iconst (v := (0 : Int32)) hx hb dX6_lays_41 (by decide) ?_
      obtain ⟨g5, hf⟩ := g_gdS hf
      refine va_iald hx hb hK.1 hP 7 0 rfl rfl (g_in_vp g5) dX6_lays_42 ?_
      refine lv_if_ne (tgt := 50) hx hb dX6_lays_43 (by decide) (fun c6 => ?_) (fun c6 => ?_)
      · have hf := g_ifF c6 hf
        refine lv_aload_n hx hb dX6_lays_50 rfl (lv_at hl 0 rfl) ?_
        refine va_get (D := G.1) (ci := 5) (v := .ref (a 7)) (C := RX6) (T := TX6) (N := 12) hx hb hts hX6 hown hK.1 hP 0 rfl rfl 10 (by decide) (hts _ tw_598) (fun _ h9 => h9) rfl dX6_lays_51 ?_
        refine lv_iload hx hb dX6_lays_54 (lv_at hl 2 rfl) ?_
        obtain ⟨g7, hf⟩ := g_gdS hf
        refine va_iald hx hb hK.1 hP 7 0 rfl rfl (g_in_vp g7) dX6_lays_56 ?_
        obtain ⟨g8, hf⟩ := g_gdS hf
        refine va_iast hx hb hK.1 hP hD hS 1 0 rfl rfl (g_in_vp g8) dX6_lays_57 (fun H locs hP hD hS => ?_)
        have hP : va_P G.1 vwCl [((a 0), .inr (5, [.ref (a 1), .ref (a 2), .ref (a 3), .ref (a 4), .int sta, .ref (a 5), .int typ, .int att, .int rea, .ref (a 6), .ref (a 7), .ref (a 8)])), ((a 1), .inl (G.2.1, 411, .inl (upd ss ((x4 + (1 : Int32)) + x5).toNatClampNeg (row x5.toNatClampNeg)))), ((a 2), .inl (G.2.1, 1644, .inl was)), ((a 3), .inl (G.2.1, 411, .inl beg)), ((a 4), .inl (G.2.1, 411, .inl asi)), ((a 5), .inl (G.2.2.1, 60, .inl txt)), ((a 6), .inl (G.2.1, 4, .inl got)), ((a 7), .inl (G.2.1, 4, .inl row)), ((a 8), .inl (G.2.1, 4, .inl oth))] H := hP
        have hD : va_D (va_A w0 s.heap.size) [((a 0), .inr (5, [.ref (a 1), .ref (a 2), .ref (a 3), .ref (a 4), .int sta, .ref (a 5), .int typ, .int att, .int rea, .ref (a 6), .ref (a 7), .ref (a 8)])), ((a 1), .inl (G.2.1, 411, .inl (upd ss ((x4 + (1 : Int32)) + x5).toNatClampNeg (row x5.toNatClampNeg)))), ((a 2), .inl (G.2.1, 1644, .inl was)), ((a 3), .inl (G.2.1, 411, .inl beg)), ((a 4), .inl (G.2.1, 411, .inl asi)), ((a 5), .inl (G.2.2.1, 60, .inl txt)), ((a 6), .inl (G.2.1, 4, .inl got)), ((a 7), .inl (G.2.1, 4, .inl row)), ((a 8), .inl (G.2.1, 4, .inl oth))] := hD
        refine lv_iinc (v := (x5 + (1 : Int32))) (lv' := [(5, .int (x5 + (1 : Int32))), (0, .ref (a 0)), (4, .int x4)]) hx hb dX6_lays_58 hl (k := 2) rfl rfl (by decide) rfl (fun ls hl => ?_)
        refine lv_goto (tgt := 20) hx hb dX6_lays_61 (by decide) ?_
        exact ih _ _ _ _ _ _ _ _ _ _ _ _ _ _ _ hf _ _ hP hD hS ls (lv_sub hl [1, 2, 0] rfl)
      · have hf := g_ifT c6 hf
        refine lv_iconst (v := (0 : Int32)) hx hb dX6_lays_46 (by decide) ?_
        refine lv_goto (tgt := 57) hx hb dX6_lays_47 (by decide) ?_
        obtain ⟨g9, hf⟩ := g_gdS hf
        refine va_iast hx hb hK.1 hP hD hS 1 0 rfl rfl (g_in_vp g9) dX6_lays_57 (fun H locs hP hD hS => ?_)
        have hP : va_P G.1 vwCl [((a 0), .inr (5, [.ref (a 1), .ref (a 2), .ref (a 3), .ref (a 4), .int sta, .ref (a 5), .int typ, .int att, .int rea, .ref (a 6), .ref (a 7), .ref (a 8)])), ((a 1), .inl (G.2.1, 411, .inl (upd ss ((x4 + (1 : Int32)) + x5).toNatClampNeg (0 : Int32)))), ((a 2), .inl (G.2.1, 1644, .inl was)), ((a 3), .inl (G.2.1, 411, .inl beg)), ((a 4), .inl (G.2.1, 411, .inl asi)), ((a 5), .inl (G.2.2.1, 60, .inl txt)), ((a 6), .inl (G.2.1, 4, .inl got)), ((a 7), .inl (G.2.1, 4, .inl row)), ((a 8), .inl (G.2.1, 4, .inl oth))] H := hP
        have hD : va_D (va_A w0 s.heap.size) [((a 0), .inr (5, [.ref (a 1), .ref (a 2), .ref (a 3), .ref (a 4), .int sta, .ref (a 5), .int typ, .int att, .int rea, .ref (a 6), .ref (a 7), .ref (a 8)])), ((a 1), .inl (G.2.1, 411, .inl (upd ss ((x4 + (1 : Int32)) + x5).toNatClampNeg (0 : Int32)))), ((a 2), .inl (G.2.1, 1644, .inl was)), ((a 3), .inl (G.2.1, 411, .inl beg)), ((a 4), .inl (G.2.1, 411, .inl asi)), ((a 5), .inl (G.2.2.1, 60, .inl txt)), ((a 6), .inl (G.2.1, 4, .inl got)), ((a 7), .inl (G.2.1, 4, .inl row)), ((a 8), .inl (G.2.1, 4, .inl oth))] := hD
        refine lv_iinc (v := (x5 + (1 : Int32))) (lv' := [(5, .int (x5 + (1 : Int32))), (0, .ref (a 0)), (4, .int x4)]) hx hb dX6_lays_58 hl (k := 2) rfl rfl (by decide) rfl (fun ls hl => ?_)
        refine lv_goto (tgt := 20) hx hb dX6_lays_61 (by decide) ?_
        exact ih _ _ _ _ _ _ _ _ _ _ _ _ _ _ _ hf _ _ hP hD hS ls (lv_sub hl [1, 2, 0] rfl)
def fX6_lays (p0 : Int32) (p1 : Int32) (p2 : Int32) (ss : Nat → Int32) (was : Nat → Int32) (beg : Nat → Int32) (asi : Nat → Int32) (sta : Int32) (txt : Nat → Int32) (typ : Int32) (att : Int32) (rea : Int32) (got : Nat → Int32) (row : Nat → Int32) (oth : Nat → Int32) : Option ((Nat → Int32) × (Nat → Int32) × (Nat → Int32) × (Nat → Int32) × Int32 × (Nat → Int32) × Int32 × Int32 × Int32 × (Nat → Int32) × (Nat → Int32) × (Nat → Int32)) := ((fX6_place p0 p1).bind fun r1 => g_gd (g_in (r1 + (0 : Int32)) 411) (fX6_lays_b20 2000 r1 (0 : Int32) (upd ss (r1 + (0 : Int32)).toNatClampNeg p2) was beg asi sta txt typ att rea got row oth))
set_option maxHeartbeats 4000000 in
set_option maxRecDepth 100000 in
theorem qX6_lays (l : Launch) (G : gT) (a : Nat → Nat) {p0 : Int32} {p1 : Int32} {p2 : Int32} {ss : Nat → Int32} {was : Nat → Int32} {beg : Nat → Int32} {asi : Nat → Int32} {sta : Int32} {txt : Nat → Int32} {typ : Int32} {att : Int32} {rea : Int32} {got : Nat → Int32} {row : Nat → Int32} {oth : Nat → Int32} {u : (Nat → Int32) × (Nat → Int32) × (Nat → Int32) × (Nat → Int32) × Int32 × (Nat → Int32) × Int32 × Int32 × Int32 × (Nat → Int32) × (Nat → Int32) × (Nat → Int32)} (hf : fX6_lays p0 p1 p2 ss was beg asi sta txt typ att rea got row oth = some u) : gC l G yX6_lays wsX6_lays rmX6_lays [.ref (a 0), .int p0, .int p1, .int p2] (modW G a ss was beg asi sta txt typ att rea got row oth) none (modW G a u.1 u.2.1 u.2.2.1 u.2.2.2.1 u.2.2.2.2.1 u.2.2.2.2.2.1 u.2.2.2.2.2.2.1 u.2.2.2.2.2.2.2.1 u.2.2.2.2.2.2.2.2.1 u.2.2.2.2.2.2.2.2.2.1 u.2.2.2.2.2.2.2.2.2.2.1 u.2.2.2.2.2.2.2.2.2.2.2) := by
  refine gC.of (cc := cX6_lays) (maxL := 6) (ret := none) (by decide) rfl (Nat.le_of_ble_eq_true rfl) ?_
  intro p e s m below meth c C0 hP hD hS ls hl
  obtain ⟨hx, hb, hr, hts, hown, hlocks, hml, hK⟩ := id C0
  have hl : lv_has ls 6 [(0, .ref (a 0)), (1, .int p0), (2, .int p1), (3, .int p2)] := hl
  have hA : ∀ q : Nat, s.heap.size ≤ q → va_A (modW G a ss was beg asi sta txt typ att rea got row oth) s.heap.size q := fun q h => Or.inr h
  have hP : va_P G.1 vwCl [((a 0), .inr (5, [.ref (a 1), .ref (a 2), .ref (a 3), .ref (a 4), .int sta, .ref (a 5), .int typ, .int att, .int rea, .ref (a 6), .ref (a 7), .ref (a 8)])), ((a 1), .inl (G.2.1, 411, .inl ss)), ((a 2), .inl (G.2.1, 1644, .inl was)), ((a 3), .inl (G.2.1, 411, .inl beg)), ((a 4), .inl (G.2.1, 411, .inl asi)), ((a 5), .inl (G.2.2.1, 60, .inl txt)), ((a 6), .inl (G.2.1, 4, .inl got)), ((a 7), .inl (G.2.1, 4, .inl row)), ((a 8), .inl (G.2.1, 4, .inl oth))] s.heap := hP
  have hD : va_D (va_A (modW G a ss was beg asi sta txt typ att rea got row oth) s.heap.size) [((a 0), .inr (5, [.ref (a 1), .ref (a 2), .ref (a 3), .ref (a 4), .int sta, .ref (a 5), .int typ, .int att, .int rea, .ref (a 6), .ref (a 7), .ref (a 8)])), ((a 1), .inl (G.2.1, 411, .inl ss)), ((a 2), .inl (G.2.1, 1644, .inl was)), ((a 3), .inl (G.2.1, 411, .inl beg)), ((a 4), .inl (G.2.1, 411, .inl asi)), ((a 5), .inl (G.2.2.1, 60, .inl txt)), ((a 6), .inl (G.2.1, 4, .inl got)), ((a 7), .inl (G.2.1, 4, .inl row)), ((a 8), .inl (G.2.1, 4, .inl oth))] := hD
  unfold fX6_lays at hf
  refine lv_iload_n hx hb dX6_lays_0 rfl (lv_at hl 1 rfl) ?_
  refine lv_iload_n hx hb dX6_lays_1 rfl (lv_at hl 2 rfl) ?_
  obtain ⟨r1, e2, hf⟩ := g_bdS hf
  refine g_contR (st1 := [.int r1]) (g_runSR (As := [.int p0, .int p1]) (rest := []) ⟨hx, hb, hml, hown, hts⟩ (qX6_place l G e2) (va_cwS 2 hts (TB_S TB_id tw_647 tw_648 tw_54 tw_649) rfl rfl rfl (by decide +kernel) ⟨Nat.le_of_ble_eq_true rfl, Nat.le_of_ble_eq_true rfl⟩) hK (hP.sub [] rfl) rfl hl.1 rfl (Nat.le_of_ble_eq_true rfl) dX6_lays_2) rfl ?_
  refine lv_istore (lv' := [(4, .int r1), (0, .ref (a 0)), (1, .int p0), (2, .int p1), (3, .int p2)]) hx hb dX6_lays_5 hl (by decide) rfl (fun ls hl => ?_)
  refine lv_aload_n hx hb dX6_lays_7 rfl (lv_at hl 1 rfl) ?_
  refine va_get (D := G.1) (ci := 5) (v := .ref (a 1)) (C := RX6) (T := TX6) (N := 12) hx hb hts hX6 hown hK.1 hP 0 rfl rfl 0 (by decide) (hts _ tw_588) (fun _ h9 => h9) rfl dX6_lays_8 ?_
  refine lv_iload hx hb dX6_lays_11 (lv_at hl 0 rfl) ?_
  refine lv_iconst (v := (0 : Int32)) hx hb dX6_lays_13 (by decide) ?_
  refine lv_iadd hx hb dX6_lays_14 ?_
  refine lv_iload_n hx hb dX6_lays_15 rfl (lv_at hl 4 rfl) ?_
  obtain ⟨g3, hf⟩ := g_gdS hf
  refine va_iast hx hb hK.1 hP hD hS 1 0 rfl rfl (g_in_vp g3) dX6_lays_16 (fun H locs hP hD hS => ?_)
  have hP : va_P G.1 vwCl [((a 0), .inr (5, [.ref (a 1), .ref (a 2), .ref (a 3), .ref (a 4), .int sta, .ref (a 5), .int typ, .int att, .int rea, .ref (a 6), .ref (a 7), .ref (a 8)])), ((a 1), .inl (G.2.1, 411, .inl (upd ss (r1 + (0 : Int32)).toNatClampNeg p2))), ((a 2), .inl (G.2.1, 1644, .inl was)), ((a 3), .inl (G.2.1, 411, .inl beg)), ((a 4), .inl (G.2.1, 411, .inl asi)), ((a 5), .inl (G.2.2.1, 60, .inl txt)), ((a 6), .inl (G.2.1, 4, .inl got)), ((a 7), .inl (G.2.1, 4, .inl row)), ((a 8), .inl (G.2.1, 4, .inl oth))] H := hP
  have hD : va_D (va_A (modW G a ss was beg asi sta txt typ att rea got row oth) s.heap.size) [((a 0), .inr (5, [.ref (a 1), .ref (a 2), .ref (a 3), .ref (a 4), .int sta, .ref (a 5), .int typ, .int att, .int rea, .ref (a 6), .ref (a 7), .ref (a 8)])), ((a 1), .inl (G.2.1, 411, .inl (upd ss (r1 + (0 : Int32)).toNatClampNeg p2))), ((a 2), .inl (G.2.1, 1644, .inl was)), ((a 3), .inl (G.2.1, 411, .inl beg)), ((a 4), .inl (G.2.1, 411, .inl asi)), ((a 5), .inl (G.2.2.1, 60, .inl txt)), ((a 6), .inl (G.2.1, 4, .inl got)), ((a 7), .inl (G.2.1, 4, .inl row)), ((a 8), .inl (G.2.1, 4, .inl oth))] := hD
  refine lv_iconst (v := (0 : Int32)) hx hb dX6_lays_17 (by decide) ?_
  refine lv_istore (lv' := [(5, .int (0 : Int32)), (4, .int r1), (0, .ref (a 0)), (1, .int p0), (2, .int p1), (3, .int p2)]) hx hb dX6_lays_18 hl (by decide) rfl (fun ls hl => ?_)
  exact kX6_lays_b20 C0 2000 _ _ _ _ _ _ _ _ _ _ _ _ _ _ _ hf _ _ hP hD hS ls (lv_sub hl [2, 1, 0] rfl)
-- TwoShapesModel.rows(I)I
abbrev rmX6_rows : Room := { frames := 2, cells := 0, slots := 0, locals := 44 }
def fX6_rows_b4 : Nat → Int32 → Int32 → Int32 → (Nat → Int32) → (Nat → Int32) → (Nat → Int32) → (Nat → Int32) → Int32 → (Nat → Int32) → Int32 → Int32 → Int32 → (Nat → Int32) → (Nat → Int32) → (Nat → Int32) → Option (Int32)
  | 0, _, _, _, _, _, _, _, _, _, _, _, _, _, _, _ => none
  | n + 1, x1, x2, x3, ss, was, beg, asi, sta, txt, typ, att, rea, got, row, oth => (if (31 : Int32) ≤ x3 then some (x2) else ((fX6_of x1 x3 (1 : Int32) ss was beg asi sta txt typ att rea got row oth).bind fun r2 => fX6_rows_b4 n x1 (x2 + r2) (x3 + (1 : Int32)) ss was beg asi sta txt typ att rea got row oth))
set_option maxHeartbeats 4000000 in
set_option maxRecDepth 100000 in
theorem kX6_rows_b4 {p : Program} {l : Launch} {e : Env} {s : State} {m : MethodId} {args : Array Value} {below : List Frame} {meth : Method} {c : Code} {G : gT} {a : Nat → Nat} (C0 : gX p s m args meth c cX6_rows 4 (some .int) RX6 G) :
    ∀ (n : Nat) (x1 : Int32) (x2 : Int32) (x3 : Int32) (ss : Nat → Int32) (was : Nat → Int32) (beg : Nat → Int32) (asi : Nat → Int32) (sta : Int32) (txt : Nat → Int32) (typ : Int32) (att : Int32) (rea : Int32) (got : Nat → Int32) (row : Nat → Int32) (oth : Nat → Int32) (u : Int32), fX6_rows_b4 n x1 x2 x3 ss was beg asi sta txt typ att rea got row oth = some u → va_P G.1 vwCl [((a 0), .inr (5, [.ref (a 1), .ref (a 2), .ref (a 3), .ref (a 4), .int sta, .ref (a 5), .int typ, .int att, .int rea, .ref (a 6), .ref (a 7), .ref (a 8)])), ((a 1), .inl (G.2.1, 411, .inl ss)), ((a 2), .inl (G.2.1, 1644, .inl was)), ((a 3), .inl (G.2.1, 411, .inl beg)), ((a 4), .inl (G.2.1, 411, .inl asi)), ((a 5), .inl (G.2.2.1, 60, .inl txt)), ((a 6), .inl (G.2.1, 4, .inl got)), ((a 7), .inl (G.2.1, 4, .inl row)), ((a 8), .inl (G.2.1, 4, .inl oth))] s.heap → ∀ ls, lv_has ls 4 [(0, .ref (a 0)), (1, .int x1), (2, .int x2), (3, .int x3)] → gV p l e (headSpec wsX6_rows rmX6_rows).room s m args below meth c (some (.int u)) 4 ls [] := by
  obtain ⟨hx, hb, hr, hts, hown, hlocks, hml, hK⟩ := id C0
  intro n
  induction n with
  | zero =>
    intro x1 x2 x3 ss was beg asi sta txt typ att rea got row oth u hf hP ls hl
    have hf : (none : Option (Int32)) = some u := hf
    cases hf
  | succ n ih =>
    intro x1 x2 x3 ss was beg asi sta txt typ att rea got row oth u hf hP ls hl
    rw [fX6_rows_b4] at hf
    refine lv_iload_n hx hb dX6_rows_4 rfl (lv_at hl 3 rfl) ?_
    refine lv_bipush (v := (31 : Int32)) hx hb dX6_rows_5 (by decide) ?_
    refine lv_icmp_ge (tgt := 26) hx hb dX6_rows_7 (by decide) (fun c1 => ?_) (fun c1 => ?_)
    · have hf := g_ifT c1 hf
      refine lv_iload_n hx hb dX6_rows_26 rfl (lv_at hl 2 rfl) ?_
      cases hf
      exact g_iretR hx hb hr hlocks dX6_rows_27
    · have hf := g_ifF c1 hf
      refine lv_iload_n hx hb dX6_rows_10 rfl (lv_at hl 2 rfl) ?_
      refine lv_aload_n hx hb dX6_rows_11 rfl (lv_at hl 0 rfl) ?_
      refine lv_iload_n hx hb dX6_rows_12 rfl (lv_at hl 1 rfl) ?_
      refine lv_iload_n hx hb dX6_rows_13 rfl (lv_at hl 3 rfl) ?_
      refine lv_iconst (v := (1 : Int32)) hx hb dX6_rows_14 (by decide) ?_
      obtain ⟨r2, e3, hf⟩ := g_bdS hf
      refine g_contR (st1 := [.int r2, .int x2]) (g_runVR (As := [.int x1, .int x3, .int (1 : Int32)]) (rest := [.int x2]) ⟨hx, hb, hml, hown, hts⟩ (qX6_of l G a e3) (cwV 3 hts (TB_V TB_id tw_643 tw_645 tw_12 tw_54 tw_646) rfl rfl rfl (by decide +kernel) ⟨Nat.le_of_ble_eq_true rfl, Nat.le_of_ble_eq_true rfl⟩) hK (hP.sub [0, 1, 2, 3, 4, 5, 6, 7, 8] rfl) 0 rfl rfl rfl hl.1 rfl (Nat.le_of_ble_eq_true rfl) dX6_rows_15) rfl ?_
      refine lv_iadd hx hb dX6_rows_18 ?_
      refine lv_istore_n (lv' := [(2, .int (x2 + r2)), (0, .ref (a 0)), (1, .int x1), (3, .int x3)]) hx hb dX6_rows_19 rfl hl (by decide) rfl (fun ls hl => ?_)
      refine lv_iinc (v := (x3 + (1 : Int32))) (lv' := [(3, .int (x3 + (1 : Int32))), (2, .int (x2 + r2)), (0, .ref (a 0)), (1, .int x1)]) hx hb dX6_rows_20 hl (k := 3) rfl rfl (by decide) rfl (fun ls hl => ?_)
      refine lv_goto (tgt := 4) hx hb dX6_rows_23 (by decide) ?_
      exact ih _ _ _ _ _ _ _ _ _ _ _ _ _ _ _ _ hf hP ls (lv_sub hl [2, 3, 1, 0] rfl)
def fX6_rows (p0 : Int32) (ss : Nat → Int32) (was : Nat → Int32) (beg : Nat → Int32) (asi : Nat → Int32) (sta : Int32) (txt : Nat → Int32) (typ : Int32) (att : Int32) (rea : Int32) (got : Nat → Int32) (row : Nat → Int32) (oth : Nat → Int32) : Option (Int32) := fX6_rows_b4 2000 p0 (0 : Int32) (0 : Int32) ss was beg asi sta txt typ att rea got row oth
set_option maxHeartbeats 4000000 in
set_option maxRecDepth 100000 in
theorem qX6_rows (l : Launch) (G : gT) (a : Nat → Nat) {p0 : Int32} {ss : Nat → Int32} {was : Nat → Int32} {beg : Nat → Int32} {asi : Nat → Int32} {sta : Int32} {txt : Nat → Int32} {typ : Int32} {att : Int32} {rea : Int32} {got : Nat → Int32} {row : Nat → Int32} {oth : Nat → Int32} {u : Int32} (hf : fX6_rows p0 ss was beg asi sta txt typ att rea got row oth = some u) : gR l G yX6_rows wsX6_rows rmX6_rows [.ref (a 0), .int p0] (modW G a ss was beg asi sta txt typ att rea got row oth) (some (.int u)) := by
  refine gR.of (cc := cX6_rows) (maxL := 4) (ret := (some .int)) (by decide) rfl (Nat.le_of_ble_eq_true rfl) ?_
  intro p e s m below meth c C0 hP ls hl
  obtain ⟨hx, hb, hr, hts, hown, hlocks, hml, hK⟩ := id C0
  have hl : lv_has ls 4 [(0, .ref (a 0)), (1, .int p0)] := hl
  have hP : va_P G.1 vwCl [((a 0), .inr (5, [.ref (a 1), .ref (a 2), .ref (a 3), .ref (a 4), .int sta, .ref (a 5), .int typ, .int att, .int rea, .ref (a 6), .ref (a 7), .ref (a 8)])), ((a 1), .inl (G.2.1, 411, .inl ss)), ((a 2), .inl (G.2.1, 1644, .inl was)), ((a 3), .inl (G.2.1, 411, .inl beg)), ((a 4), .inl (G.2.1, 411, .inl asi)), ((a 5), .inl (G.2.2.1, 60, .inl txt)), ((a 6), .inl (G.2.1, 4, .inl got)), ((a 7), .inl (G.2.1, 4, .inl row)), ((a 8), .inl (G.2.1, 4, .inl oth))] s.heap := hP
  unfold fX6_rows at hf
  refine lv_iconst (v := (0 : Int32)) hx hb dX6_rows_0 (by decide) ?_
  refine lv_istore_n (lv' := [(2, .int (0 : Int32)), (0, .ref (a 0)), (1, .int p0)]) hx hb dX6_rows_1 rfl hl (by decide) rfl (fun ls hl => ?_)
  refine lv_iconst (v := (0 : Int32)) hx hb dX6_rows_2 (by decide) ?_
  refine lv_istore_n (lv' := [(3, .int (0 : Int32)), (2, .int (0 : Int32)), (0, .ref (a 0)), (1, .int p0)]) hx hb dX6_rows_3 rfl hl (by decide) rfl (fun ls hl => ?_)
  exact kX6_rows_b4 C0 2000 _ _ _ _ _ _ _ _ _ _ _ _ _ _ _ _ hf hP ls (lv_sub hl [2, 3, 1, 0] rfl)
-- TwoShapesModel.clears(I)V
abbrev rmX6_clears : Room := { frames := 0, cells := 0, slots := 0, locals := 0 }
def fX6_clears_b2 : Nat → Int32 → Int32 → (Nat → Int32) → (Nat → Int32) → (Nat → Int32) → (Nat → Int32) → Int32 → (Nat → Int32) → Int32 → Int32 → Int32 → (Nat → Int32) → (Nat → Int32) → (Nat → Int32) → Option ((Nat → Int32) × (Nat → Int32) × (Nat → Int32) × (Nat → Int32) × Int32 × (Nat → Int32) × Int32 × Int32 × Int32 × (Nat → Int32) × (Nat → Int32) × (Nat → Int32))
  | 0, _, _, _, _, _, _, _, _, _, _, _, _, _, _ => none
  | n + 1, x1, x2, ss, was, beg, asi, sta, txt, typ, att, rea, got, row, oth => (if (155 : Int32) ≤ x2 then some (ss, was, beg, asi, sta, txt, typ, att, rea, got, row, oth) else g_gd (g_in (((101 : Int32) + ((155 : Int32) * x1)) + x2) 411) (fX6_clears_b2 n x1 (x2 + (1 : Int32)) (upd ss (((101 : Int32) + ((155 : Int32) * x1)) + x2).toNatClampNeg (0 : Int32)) was beg asi sta txt typ att rea got row oth))
set_option maxHeartbeats 4000000 in
set_option maxRecDepth 100000 in
theorem kX6_clears_b2 {p : Program} {l : Launch} {e : Env} {s : State} {m : MethodId} {args : Array Value} {below : List Frame} {meth : Method} {c : Code} {G : gT} {a : Nat → Nat} {w0 : va_W} (C0 : gX p s m args meth c cX6_clears 3 none RX6 G) :
    ∀ (n : Nat) (x1 : Int32) (x2 : Int32) (ss : Nat → Int32) (was : Nat → Int32) (beg : Nat → Int32) (asi : Nat → Int32) (sta : Int32) (txt : Nat → Int32) (typ : Int32) (att : Int32) (rea : Int32) (got : Nat → Int32) (row : Nat → Int32) (oth : Nat → Int32) (u : (Nat → Int32) × (Nat → Int32) × (Nat → Int32) × (Nat → Int32) × Int32 × (Nat → Int32) × Int32 × Int32 × Int32 × (Nat → Int32) × (Nat → Int32) × (Nat → Int32)), fX6_clears_b2 n x1 x2 ss was beg asi sta txt typ att rea got row oth = some u → ∀ (H : Heap) (locs : List Loc), va_P G.1 vwCl [((a 0), .inr (5, [.ref (a 1), .ref (a 2), .ref (a 3), .ref (a 4), .int sta, .ref (a 5), .int typ, .int att, .int rea, .ref (a 6), .ref (a 7), .ref (a 8)])), ((a 1), .inl (G.2.1, 411, .inl ss)), ((a 2), .inl (G.2.1, 1644, .inl was)), ((a 3), .inl (G.2.1, 411, .inl beg)), ((a 4), .inl (G.2.1, 411, .inl asi)), ((a 5), .inl (G.2.2.1, 60, .inl txt)), ((a 6), .inl (G.2.1, 4, .inl got)), ((a 7), .inl (G.2.1, 4, .inl row)), ((a 8), .inl (G.2.1, 4, .inl oth))] H → va_D (va_A w0 s.heap.size) [((a 0), .inr (5, [.ref (a 1), .ref (a 2), .ref (a 3), .ref (a 4), .int sta, .ref (a 5), .int typ, .int att, .int rea, .ref (a 6), .ref (a 7), .ref (a 8)])), ((a 1), .inl (G.2.1, 411, .inl ss)), ((a 2), .inl (G.2.1, 1644, .inl was)), ((a 3), .inl (G.2.1, 411, .inl beg)), ((a 4), .inl (G.2.1, 411, .inl asi)), ((a 5), .inl (G.2.2.1, 60, .inl txt)), ((a 6), .inl (G.2.1, 4, .inl got)), ((a 7), .inl (G.2.1, 4, .inl row)), ((a 8), .inl (G.2.1, 4, .inl oth))] → va_S (va_A w0 s.heap.size) s.heap H locs → ∀ ls, lv_has ls 3 [(0, .ref (a 0)), (1, .int x1), (2, .int x2)] → gW p l e (headSpec wsX6_clears rmX6_clears).room s m args below meth c G w0 none (modW G a u.1 u.2.1 u.2.2.1 u.2.2.2.1 u.2.2.2.2.1 u.2.2.2.2.2.1 u.2.2.2.2.2.2.1 u.2.2.2.2.2.2.2.1 u.2.2.2.2.2.2.2.2.1 u.2.2.2.2.2.2.2.2.2.1 u.2.2.2.2.2.2.2.2.2.2.1 u.2.2.2.2.2.2.2.2.2.2.2) H locs 2 ls [] := by
  obtain ⟨hx, hb, hr, hts, hown, hlocks, hml, hK⟩ := id C0
  have hA : ∀ q : Nat, s.heap.size ≤ q → va_A w0 s.heap.size q := fun q h => Or.inr h
  intro n
  induction n with
  | zero =>
    intro x1 x2 ss was beg asi sta txt typ att rea got row oth u hf H locs hP hD hS ls hl
    have hf : (none : Option ((Nat → Int32) × (Nat → Int32) × (Nat → Int32) × (Nat → Int32) × Int32 × (Nat → Int32) × Int32 × Int32 × Int32 × (Nat → Int32) × (Nat → Int32) × (Nat → Int32))) = some u := hf
    cases hf
  | succ n ih =>
    intro x1 x2 ss was beg asi sta txt typ att rea got row oth u hf H locs hP hD hS ls hl
    rw [fX6_clears_b2] at hf
    refine lv_iload_n hx hb dX6_clears_2 rfl (lv_at hl 2 rfl) ?_
    refine lv_sipush (v := (155 : Int32)) hx hb dX6_clears_3 (by decide) ?_
    refine lv_icmp_ge (tgt := 31) hx hb dX6_clears_6 (by decide) (fun c1 => ?_) (fun c1 => ?_)
    · have hf := g_ifT c1 hf
      cases hf
      exact g_vretC hx hb hr hlocks hP hD hS dX6_clears_31
    · have hf := g_ifF c1 hf
      refine lv_aload_n hx hb dX6_clears_9 rfl (lv_at hl 0 rfl) ?_
      refine va_get (D := G.1) (ci := 5) (v := .ref (a 1)) (C := RX6) (T := TX6) (N := 12) hx hb hts hX6 hown hK.1 hP 0 rfl rfl 0 (by decide) (hts _ tw_588) (fun _ h9 => h9) rfl dX6_clears_10 ?_
      refine lv_bipush (v := (101 : Int32)) hx hb dX6_clears_13 (by decide) ?_
      refine lv_sipush (v := (155 : Int32)) hx hb dX6_clears_15 (by decide) ?_
      refine lv_iload_n hx hb dX6_clears_18 rfl (lv_at hl 1 rfl) ?_
      refine lv_imul hx hb dX6_clears_19 ?_
      refine lv_iadd hx hb dX6_clears_20 ?_
      refine lv_iload_n hx hb dX6_clears_21 rfl (lv_at hl 2 rfl) ?_
      refine lv_iadd hx hb dX6_clears_22 ?_
      refine lv_iconst (v := (0 : Int32)) hx hb dX6_clears_23 (by decide) ?_
      obtain ⟨g2, hf⟩ := g_gdS hf
      refine va_iast hx hb hK.1 hP hD hS 1 0 rfl rfl (g_in_vp g2) dX6_clears_24 (fun H locs hP hD hS => ?_)
      have hP : va_P G.1 vwCl [((a 0), .inr (5, [.ref (a 1), .ref (a 2), .ref (a 3), .ref (a 4), .int sta, .ref (a 5), .int typ, .int att, .int rea, .ref (a 6), .ref (a 7), .ref (a 8)])), ((a 1), .inl (G.2.1, 411, .inl (upd ss (((101 : Int32) + ((155 : Int32) * x1)) + x2).toNatClampNeg (0 : Int32)))), ((a 2), .inl (G.2.1, 1644, .inl was)), ((a 3), .inl (G.2.1, 411, .inl beg)), ((a 4), .inl (G.2.1, 411, .inl asi)), ((a 5), .inl (G.2.2.1, 60, .inl txt)), ((a 6), .inl (G.2.1, 4, .inl got)), ((a 7), .inl (G.2.1, 4, .inl row)), ((a 8), .inl (G.2.1, 4, .inl oth))] H := hP
      have hD : va_D (va_A w0 s.heap.size) [((a 0), .inr (5, [.ref (a 1), .ref (a 2), .ref (a 3), .ref (a 4), .int sta, .ref (a 5), .int typ, .int att, .int rea, .ref (a 6), .ref (a 7), .ref (a 8)])), ((a 1), .inl (G.2.1, 411, .inl (upd ss (((101 : Int32) + ((155 : Int32) * x1)) + x2).toNatClampNeg (0 : Int32)))), ((a 2), .inl (G.2.1, 1644, .inl was)), ((a 3), .inl (G.2.1, 411, .inl beg)), ((a 4), .inl (G.2.1, 411, .inl asi)), ((a 5), .inl (G.2.2.1, 60, .inl txt)), ((a 6), .inl (G.2.1, 4, .inl got)), ((a 7), .inl (G.2.1, 4, .inl row)), ((a 8), .inl (G.2.1, 4, .inl oth))] := hD
      refine lv_iinc (v := (x2 + (1 : Int32))) (lv' := [(2, .int (x2 + (1 : Int32))), (0, .ref (a 0)), (1, .int x1)]) hx hb dX6_clears_25 hl (k := 2) rfl rfl (by decide) rfl (fun ls hl => ?_)
      refine lv_goto (tgt := 2) hx hb dX6_clears_28 (by decide) ?_
      exact ih _ _ _ _ _ _ _ _ _ _ _ _ _ _ _ hf _ _ hP hD hS ls (lv_sub hl [1, 2, 0] rfl)
def fX6_clears (p0 : Int32) (ss : Nat → Int32) (was : Nat → Int32) (beg : Nat → Int32) (asi : Nat → Int32) (sta : Int32) (txt : Nat → Int32) (typ : Int32) (att : Int32) (rea : Int32) (got : Nat → Int32) (row : Nat → Int32) (oth : Nat → Int32) : Option ((Nat → Int32) × (Nat → Int32) × (Nat → Int32) × (Nat → Int32) × Int32 × (Nat → Int32) × Int32 × Int32 × Int32 × (Nat → Int32) × (Nat → Int32) × (Nat → Int32)) := fX6_clears_b2 2000 p0 (0 : Int32) ss was beg asi sta txt typ att rea got row oth
set_option maxHeartbeats 4000000 in
set_option maxRecDepth 100000 in
theorem qX6_clears (l : Launch) (G : gT) (a : Nat → Nat) {p0 : Int32} {ss : Nat → Int32} {was : Nat → Int32} {beg : Nat → Int32} {asi : Nat → Int32} {sta : Int32} {txt : Nat → Int32} {typ : Int32} {att : Int32} {rea : Int32} {got : Nat → Int32} {row : Nat → Int32} {oth : Nat → Int32} {u : (Nat → Int32) × (Nat → Int32) × (Nat → Int32) × (Nat → Int32) × Int32 × (Nat → Int32) × Int32 × Int32 × Int32 × (Nat → Int32) × (Nat → Int32) × (Nat → Int32)} (hf : fX6_clears p0 ss was beg asi sta txt typ att rea got row oth = some u) : gC l G yX6_clears wsX6_clears rmX6_clears [.ref (a 0), .int p0] (modW G a ss was beg asi sta txt typ att rea got row oth) none (modW G a u.1 u.2.1 u.2.2.1 u.2.2.2.1 u.2.2.2.2.1 u.2.2.2.2.2.1 u.2.2.2.2.2.2.1 u.2.2.2.2.2.2.2.1 u.2.2.2.2.2.2.2.2.1 u.2.2.2.2.2.2.2.2.2.1 u.2.2.2.2.2.2.2.2.2.2.1 u.2.2.2.2.2.2.2.2.2.2.2) := by
  refine gC.of (cc := cX6_clears) (maxL := 3) (ret := none) (by decide) rfl (Nat.le_of_ble_eq_true rfl) ?_
  intro p e s m below meth c C0 hP hD hS ls hl
  obtain ⟨hx, hb, hr, hts, hown, hlocks, hml, hK⟩ := id C0
  have hl : lv_has ls 3 [(0, .ref (a 0)), (1, .int p0)] := hl
  have hA : ∀ q : Nat, s.heap.size ≤ q → va_A (modW G a ss was beg asi sta txt typ att rea got row oth) s.heap.size q := fun q h => Or.inr h
  have hP : va_P G.1 vwCl [((a 0), .inr (5, [.ref (a 1), .ref (a 2), .ref (a 3), .ref (a 4), .int sta, .ref (a 5), .int typ, .int att, .int rea, .ref (a 6), .ref (a 7), .ref (a 8)])), ((a 1), .inl (G.2.1, 411, .inl ss)), ((a 2), .inl (G.2.1, 1644, .inl was)), ((a 3), .inl (G.2.1, 411, .inl beg)), ((a 4), .inl (G.2.1, 411, .inl asi)), ((a 5), .inl (G.2.2.1, 60, .inl txt)), ((a 6), .inl (G.2.1, 4, .inl got)), ((a 7), .inl (G.2.1, 4, .inl row)), ((a 8), .inl (G.2.1, 4, .inl oth))] s.heap := hP
  have hD : va_D (va_A (modW G a ss was beg asi sta txt typ att rea got row oth) s.heap.size) [((a 0), .inr (5, [.ref (a 1), .ref (a 2), .ref (a 3), .ref (a 4), .int sta, .ref (a 5), .int typ, .int att, .int rea, .ref (a 6), .ref (a 7), .ref (a 8)])), ((a 1), .inl (G.2.1, 411, .inl ss)), ((a 2), .inl (G.2.1, 1644, .inl was)), ((a 3), .inl (G.2.1, 411, .inl beg)), ((a 4), .inl (G.2.1, 411, .inl asi)), ((a 5), .inl (G.2.2.1, 60, .inl txt)), ((a 6), .inl (G.2.1, 4, .inl got)), ((a 7), .inl (G.2.1, 4, .inl row)), ((a 8), .inl (G.2.1, 4, .inl oth))] := hD
  unfold fX6_clears at hf
  refine lv_iconst (v := (0 : Int32)) hx hb dX6_clears_0 (by decide) ?_
  refine lv_istore_n (lv' := [(2, .int (0 : Int32)), (0, .ref (a 0)), (1, .int p0)]) hx hb dX6_clears_1 rfl hl (by decide) rfl (fun ls hl => ?_)
  exact kX6_clears_b2 C0 2000 _ _ _ _ _ _ _ _ _ _ _ _ _ _ _ hf _ _ hP hD hS ls (lv_sub hl [1, 2, 0] rfl)
-- TwoShapesModel.differs(I)Z
abbrev rmX6_differs : Room := { frames := 3, cells := 0, slots := 0, locals := 67 }
def fX6_differs_b55 : Nat → Int32 → Int32 → Int32 → (Nat → Int32) → (Nat → Int32) → (Nat → Int32) → (Nat → Int32) → Int32 → (Nat → Int32) → Int32 → Int32 → Int32 → (Nat → Int32) → (Nat → Int32) → (Nat → Int32) → Option (Int32 × (Nat → Int32) × (Nat → Int32) × (Nat → Int32) × (Nat → Int32) × Int32 × (Nat → Int32) × Int32 × Int32 × Int32 × (Nat → Int32) × (Nat → Int32) × (Nat → Int32))
  | 0, _, _, _, _, _, _, _, _, _, _, _, _, _, _, _ => none
  | n + 1, x1, x2, x3, ss, was, beg, asi, sta, txt, typ, att, rea, got, row, oth => (if (4 : Int32) ≤ x3 then g_gd (g_bl x2) (some (x2, ss, was, beg, asi, sta, txt, typ, att, rea, got, row, oth)) else (if x2 = (0 : Int32) then g_gd (g_in (0 : Int32) 4) ((if (row (0 : Int32).toNatClampNeg) = (1 : Int32) then g_gd (g_in x3 4) (((fX6_of (0 : Int32) x1 ((1 : Int32) + x3) ss was beg asi sta txt typ att rea got row oth).bind fun r20 => (if (row x3.toNatClampNeg) = r20 then fX6_differs_b55 n x1 (0 : Int32) (x3 + (1 : Int32)) ss was beg asi sta txt typ att rea got row oth else fX6_differs_b55 n x1 (1 : Int32) (x3 + (1 : Int32)) ss was beg asi sta txt typ att rea got row oth))) else fX6_differs_b55 n x1 (0 : Int32) (x3 + (1 : Int32)) ss was beg asi sta txt typ att rea got row oth)) else fX6_differs_b55 n x1 (1 : Int32) (x3 + (1 : Int32)) ss was beg asi sta txt typ att rea got row oth))
set_option maxHeartbeats 4000000 in
set_option maxRecDepth 100000 in
theorem kX6_differs_b55 {p : Program} {l : Launch} {e : Env} {s : State} {m : MethodId} {args : Array Value} {below : List Frame} {meth : Method} {c : Code} {G : gT} {a : Nat → Nat} {w0 : va_W} (C0 : gX p s m args meth c cX6_differs 4 (some .boolean) RX6 G) :
    ∀ (n : Nat) (x1 : Int32) (x2 : Int32) (x3 : Int32) (ss : Nat → Int32) (was : Nat → Int32) (beg : Nat → Int32) (asi : Nat → Int32) (sta : Int32) (txt : Nat → Int32) (typ : Int32) (att : Int32) (rea : Int32) (got : Nat → Int32) (row : Nat → Int32) (oth : Nat → Int32) (u : Int32 × (Nat → Int32) × (Nat → Int32) × (Nat → Int32) × (Nat → Int32) × Int32 × (Nat → Int32) × Int32 × Int32 × Int32 × (Nat → Int32) × (Nat → Int32) × (Nat → Int32)), fX6_differs_b55 n x1 x2 x3 ss was beg asi sta txt typ att rea got row oth = some u → ∀ (H : Heap) (locs : List Loc), va_P G.1 vwCl [((a 0), .inr (5, [.ref (a 1), .ref (a 2), .ref (a 3), .ref (a 4), .int sta, .ref (a 5), .int typ, .int att, .int rea, .ref (a 6), .ref (a 7), .ref (a 8)])), ((a 1), .inl (G.2.1, 411, .inl ss)), ((a 2), .inl (G.2.1, 1644, .inl was)), ((a 3), .inl (G.2.1, 411, .inl beg)), ((a 4), .inl (G.2.1, 411, .inl asi)), ((a 5), .inl (G.2.2.1, 60, .inl txt)), ((a 6), .inl (G.2.1, 4, .inl got)), ((a 7), .inl (G.2.1, 4, .inl row)), ((a 8), .inl (G.2.1, 4, .inl oth))] H → va_D (va_A w0 s.heap.size) [((a 0), .inr (5, [.ref (a 1), .ref (a 2), .ref (a 3), .ref (a 4), .int sta, .ref (a 5), .int typ, .int att, .int rea, .ref (a 6), .ref (a 7), .ref (a 8)])), ((a 1), .inl (G.2.1, 411, .inl ss)), ((a 2), .inl (G.2.1, 1644, .inl was)), ((a 3), .inl (G.2.1, 411, .inl beg)), ((a 4), .inl (G.2.1, 411, .inl asi)), ((a 5), .inl (G.2.2.1, 60, .inl txt)), ((a 6), .inl (G.2.1, 4, .inl got)), ((a 7), .inl (G.2.1, 4, .inl row)), ((a 8), .inl (G.2.1, 4, .inl oth))] → va_S (va_A w0 s.heap.size) s.heap H locs → ∀ ls, lv_has ls 4 [(0, .ref (a 0)), (1, .int x1), (2, .int x2), (3, .int x3)] → gW p l e (headSpec wsX6_differs rmX6_differs).room s m args below meth c G w0 (some (.int u.1)) (modW G a u.2.1 u.2.2.1 u.2.2.2.1 u.2.2.2.2.1 u.2.2.2.2.2.1 u.2.2.2.2.2.2.1 u.2.2.2.2.2.2.2.1 u.2.2.2.2.2.2.2.2.1 u.2.2.2.2.2.2.2.2.2.1 u.2.2.2.2.2.2.2.2.2.2.1 u.2.2.2.2.2.2.2.2.2.2.2.1 u.2.2.2.2.2.2.2.2.2.2.2.2) H locs 55 ls [] := by
  obtain ⟨hx, hb, hr, hts, hown, hlocks, hml, hK⟩ := id C0
  have hA : ∀ q : Nat, s.heap.size ≤ q → va_A w0 s.heap.size q := fun q h => Or.inr h
  intro n
  induction n with
  | zero =>
    intro x1 x2 x3 ss was beg asi sta txt typ att rea got row oth u hf H locs hP hD hS ls hl
    have hf : (none : Option (Int32 × (Nat → Int32) × (Nat → Int32) × (Nat → Int32) × (Nat → Int32) × Int32 × (Nat → Int32) × Int32 × Int32 × Int32 × (Nat → Int32) × (Nat → Int32) × (Nat → Int32))) = some u := hf
    cases hf
  | succ n ih =>
    intro x1 x2 x3 ss was beg asi sta txt typ att rea got row oth u hf H locs hP hD hS ls hl
    rw [fX6_differs_b55] at hf
    refine lv_iload_n hx hb dX6_differs_55 rfl (lv_at hl 3 rfl) ?_
    refine lv_iconst (v := (4 : Int32)) hx hb dX6_differs_56 (by decide) ?_
    refine lv_icmp_ge (tgt := 104) hx hb dX6_differs_57 (by decide) (fun c14 => ?_) (fun c14 => ?_)
    · have hf := g_ifT c14 hf
      refine lv_iload_n hx hb dX6_differs_104 rfl (lv_at hl 2 rfl) ?_
      obtain ⟨g15, hf⟩ := g_gdS hf
      cases hf
      exact g_zretC hx hb hr hlocks (g_nb g15) hP hD hS dX6_differs_105
    · have hf := g_ifF c14 hf
      refine lv_iload_n hx hb dX6_differs_60 rfl (lv_at hl 2 rfl) ?_
      refine lv_if_ne (tgt := 92) hx hb dX6_differs_61 (by decide) (fun c16 => ?_) (fun c16 => ?_)
      · have hf := g_ifF c16 hf
        refine lv_iconst (v := (1 : Int32)) hx hb dX6_differs_92 (by decide) ?_
        refine lv_goto (tgt := 97) hx hb dX6_differs_93 (by decide) ?_
        refine lv_istore_n (lv' := [(2, .int (1 : Int32)), (0, .ref (a 0)), (1, .int x1), (3, .int x3)]) hx hb dX6_differs_97 rfl hl (by decide) rfl (fun ls hl => ?_)
        refine lv_iinc (v := (x3 + (1 : Int32))) (lv' := [(3, .int (x3 + (1 : Int32))), (2, .int (1 : Int32)), (0, .ref (a 0)), (1, .int x1)]) hx hb dX6_differs_98 hl (k := 3) rfl rfl (by decide) rfl (fun ls hl => ?_)
        refine lv_goto (tgt := 55) hx hb dX6_differs_101 (by decide) ?_
        exact ih _ _ _ _ _ _ _ _ _ _ _ _ _ _ _ _ hf _ _ hP hD hS ls (lv_sub hl [2, 3, 1, 0] rfl)
      · have hf := g_ifT c16 hf
        refine lv_aload_n hx hb dX6_differs_64 rfl (lv_at hl 0 rfl) ?_
        refine va_get (D := G.1) (ci := 5) (v := .ref (a 7)) (C := RX6) (T := TX6) (N := 12) hx hb hts hX6 hown hK.1 hP 0 rfl rfl 10 (by decide) (hts _ tw_598) (fun _ h9 => h9) rfl dX6_differs_65 ?_
        refine lv_iconst (v := (0 : Int32)) hx hb dX6_differs_68 (by decide) ?_
        obtain ⟨g17, hf⟩ := g_gdS hf
        refine va_iald hx hb hK.1 hP 7 0 rfl rfl (g_in_vp g17) dX6_differs_69 ?_
        refine lv_iconst (v := (1 : Int32)) hx hb dX6_differs_70 (by decide) ?_
        refine lv_icmp_ne (tgt := 96) hx hb dX6_differs_71 (by decide) (fun c18 => ?_) (fun c18 => ?_)
        · have hf := g_ifF c18 hf
          refine lv_iconst (v := (0 : Int32)) hx hb dX6_differs_96 (by decide) ?_
          refine lv_istore_n (lv' := [(2, .int (0 : Int32)), (0, .ref (a 0)), (1, .int x1), (3, .int x3)]) hx hb dX6_differs_97 rfl hl (by decide) rfl (fun ls hl => ?_)
          refine lv_iinc (v := (x3 + (1 : Int32))) (lv' := [(3, .int (x3 + (1 : Int32))), (2, .int (0 : Int32)), (0, .ref (a 0)), (1, .int x1)]) hx hb dX6_differs_98 hl (k := 3) rfl rfl (by decide) rfl (fun ls hl => ?_)
          refine lv_goto (tgt := 55) hx hb dX6_differs_101 (by decide) ?_
          exact ih _ _ _ _ _ _ _ _ _ _ _ _ _ _ _ _ hf _ _ hP hD hS ls (lv_sub hl [2, 3, 1, 0] rfl)
        · have hf := g_ifT c18 hf
          refine lv_aload_n hx hb dX6_differs_74 rfl (lv_at hl 0 rfl) ?_
          refine va_get (D := G.1) (ci := 5) (v := .ref (a 7)) (C := RX6) (T := TX6) (N := 12) hx hb hts hX6 hown hK.1 hP 0 rfl rfl 10 (by decide) (hts _ tw_598) (fun _ h9 => h9) rfl dX6_differs_75 ?_
          refine lv_iload_n hx hb dX6_differs_78 rfl (lv_at hl 3 rfl) ?_
          obtain ⟨g19, hf⟩ := g_gdS hf
          refine va_iald hx hb hK.1 hP 7 0 rfl rfl (g_in_vp g19) dX6_differs_79 ?_
          refine lv_aload_n hx hb dX6_differs_80 rfl (lv_at hl 0 rfl) ?_
          refine lv_iconst (v := (0 : Int32)) hx hb dX6_differs_81 (by decide) ?_
          refine lv_iload_n hx hb dX6_differs_82 rfl (lv_at hl 1 rfl) ?_
          refine lv_iconst (v := (1 : Int32)) hx hb dX6_differs_83 (by decide) ?_
          refine lv_iload_n hx hb dX6_differs_84 rfl (lv_at hl 3 rfl) ?_
          refine lv_iadd hx hb dX6_differs_85 ?_
          obtain ⟨r20, e21, hf⟩ := g_bdS hf
          refine g_contR (st1 := [.int r20, .int (row x3.toNatClampNeg)]) (g_runVR (As := [.int (0 : Int32), .int x1, .int ((1 : Int32) + x3)]) (rest := [.int (row x3.toNatClampNeg)]) ⟨hx, hb, hml, hown, hts⟩ (qX6_of l G a e21) (cwV 3 hts (TB_V TB_id tw_643 tw_645 tw_12 tw_54 tw_646) rfl rfl rfl (by decide +kernel) ⟨Nat.le_of_ble_eq_true rfl, Nat.le_of_ble_eq_true rfl⟩) hK (hP.sub [0, 1, 2, 3, 4, 5, 6, 7, 8] rfl) 0 rfl rfl rfl hl.1 rfl (Nat.le_of_ble_eq_true rfl) dX6_differs_86) rfl ?_
          refine lv_icmp_eq (tgt := 96) hx hb dX6_differs_89 (by decide) (fun c22 => ?_) (fun c22 => ?_)
          · have hf := g_ifT c22 hf
            refine lv_iconst (v := (0 : Int32)) hx hb dX6_differs_96 (by decide) ?_
            refine lv_istore_n (lv' := [(2, .int (0 : Int32)), (0, .ref (a 0)), (1, .int x1), (3, .int x3)]) hx hb dX6_differs_97 rfl hl (by decide) rfl (fun ls hl => ?_)
            refine lv_iinc (v := (x3 + (1 : Int32))) (lv' := [(3, .int (x3 + (1 : Int32))), (2, .int (0 : Int32)), (0, .ref (a 0)), (1, .int x1)]) hx hb dX6_differs_98 hl (k := 3) rfl rfl (by decide) rfl (fun ls hl => ?_)
            refine lv_goto (tgt := 55) hx hb dX6_differs_101 (by decide) ?_
            exact ih _ _ _ _ _ _ _ _ _ _ _ _ _ _ _ _ hf _ _ hP hD hS ls (lv_sub hl [2, 3, 1, 0] rfl)
          · have hf := g_ifF c22 hf
            refine lv_iconst (v := (1 : Int32)) hx hb dX6_differs_92 (by decide) ?_
            refine lv_goto (tgt := 97) hx hb dX6_differs_93 (by decide) ?_
            refine lv_istore_n (lv' := [(2, .int (1 : Int32)), (0, .ref (a 0)), (1, .int x1), (3, .int x3)]) hx hb dX6_differs_97 rfl hl (by decide) rfl (fun ls hl => ?_)
            refine lv_iinc (v := (x3 + (1 : Int32))) (lv' := [(3, .int (x3 + (1 : Int32))), (2, .int (1 : Int32)), (0, .ref (a 0)), (1, .int x1)]) hx hb dX6_differs_98 hl (k := 3) rfl rfl (by decide) rfl (fun ls hl => ?_)
            refine lv_goto (tgt := 55) hx hb dX6_differs_101 (by decide) ?_
            exact ih _ _ _ _ _ _ _ _ _ _ _ _ _ _ _ _ hf _ _ hP hD hS ls (lv_sub hl [2, 3, 1, 0] rfl)
def fX6_differs (p0 : Int32) (ss : Nat → Int32) (was : Nat → Int32) (beg : Nat → Int32) (asi : Nat → Int32) (sta : Int32) (txt : Nat → Int32) (typ : Int32) (att : Int32) (rea : Int32) (got : Nat → Int32) (row : Nat → Int32) (oth : Nat → Int32) : Option (Int32 × (Nat → Int32) × (Nat → Int32) × (Nat → Int32) × (Nat → Int32) × Int32 × (Nat → Int32) × Int32 × Int32 × Int32 × (Nat → Int32) × (Nat → Int32) × (Nat → Int32)) := ((fX6_of (0 : Int32) p0 (0 : Int32) ss was beg asi sta txt typ att rea got row oth).bind fun r1 => ((fX6_of (1 : Int32) p0 (0 : Int32) ss was beg asi sta txt typ att rea got row oth).bind fun r3 => (if r1 = r3 then ((fX6_takes (1 : Int32) p0 ss was beg asi sta txt typ att rea got row oth).bind fun r6 => ((fX6_makes (1 : Int32) (0 : Int32) r6.1 r6.2.1 r6.2.2.1 r6.2.2.2.1 r6.2.2.2.2.1 r6.2.2.2.2.2.1 r6.2.2.2.2.2.2.1 r6.2.2.2.2.2.2.2.1 r6.2.2.2.2.2.2.2.2.1 r6.2.2.2.2.2.2.2.2.2.1 r6.2.2.2.2.2.2.2.2.2.2.1 r6.2.2.2.2.2.2.2.2.2.2.2).bind fun r8 => g_gd (g_in (0 : Int32) 4) (((fX6_of (0 : Int32) p0 (1 : Int32) r8.1 r8.2.1 r8.2.2.1 r8.2.2.2.1 r8.2.2.2.2.1 r8.2.2.2.2.2.1 r8.2.2.2.2.2.2.1 r8.2.2.2.2.2.2.2.1 r8.2.2.2.2.2.2.2.2.1 r8.2.2.2.2.2.2.2.2.2.1 r8.2.2.2.2.2.2.2.2.2.2.1 r8.2.2.2.2.2.2.2.2.2.2.2).bind fun r11 => (if (r8.2.2.2.2.2.2.2.2.2.2.1 (0 : Int32).toNatClampNeg) = r11 then fX6_differs_b55 2000 p0 (0 : Int32) (1 : Int32) r8.1 r8.2.1 r8.2.2.1 r8.2.2.2.1 r8.2.2.2.2.1 r8.2.2.2.2.2.1 r8.2.2.2.2.2.2.1 r8.2.2.2.2.2.2.2.1 r8.2.2.2.2.2.2.2.2.1 r8.2.2.2.2.2.2.2.2.2.1 r8.2.2.2.2.2.2.2.2.2.2.1 r8.2.2.2.2.2.2.2.2.2.2.2 else fX6_differs_b55 2000 p0 (1 : Int32) (1 : Int32) r8.1 r8.2.1 r8.2.2.1 r8.2.2.2.1 r8.2.2.2.2.1 r8.2.2.2.2.2.1 r8.2.2.2.2.2.2.1 r8.2.2.2.2.2.2.2.1 r8.2.2.2.2.2.2.2.2.1 r8.2.2.2.2.2.2.2.2.2.1 r8.2.2.2.2.2.2.2.2.2.2.1 r8.2.2.2.2.2.2.2.2.2.2.2))))) else some ((1 : Int32), ss, was, beg, asi, sta, txt, typ, att, rea, got, row, oth))))
set_option maxHeartbeats 4000000 in
set_option maxRecDepth 100000 in
theorem qX6_differs (l : Launch) (G : gT) (a : Nat → Nat) {p0 : Int32} {ss : Nat → Int32} {was : Nat → Int32} {beg : Nat → Int32} {asi : Nat → Int32} {sta : Int32} {txt : Nat → Int32} {typ : Int32} {att : Int32} {rea : Int32} {got : Nat → Int32} {row : Nat → Int32} {oth : Nat → Int32} {u : Int32 × (Nat → Int32) × (Nat → Int32) × (Nat → Int32) × (Nat → Int32) × Int32 × (Nat → Int32) × Int32 × Int32 × Int32 × (Nat → Int32) × (Nat → Int32) × (Nat → Int32)} (hf : fX6_differs p0 ss was beg asi sta txt typ att rea got row oth = some u) : gC l G yX6_differs wsX6_differs rmX6_differs [.ref (a 0), .int p0] (modW G a ss was beg asi sta txt typ att rea got row oth) (some (.int u.1)) (modW G a u.2.1 u.2.2.1 u.2.2.2.1 u.2.2.2.2.1 u.2.2.2.2.2.1 u.2.2.2.2.2.2.1 u.2.2.2.2.2.2.2.1 u.2.2.2.2.2.2.2.2.1 u.2.2.2.2.2.2.2.2.2.1 u.2.2.2.2.2.2.2.2.2.2.1 u.2.2.2.2.2.2.2.2.2.2.2.1 u.2.2.2.2.2.2.2.2.2.2.2.2) := by
  refine gC.of (cc := cX6_differs) (maxL := 4) (ret := (some .boolean)) (by decide) rfl (Nat.le_of_ble_eq_true rfl) ?_
  intro p e s m below meth c C0 hP hD hS ls hl
  obtain ⟨hx, hb, hr, hts, hown, hlocks, hml, hK⟩ := id C0
  have hl : lv_has ls 4 [(0, .ref (a 0)), (1, .int p0)] := hl
  have hA : ∀ q : Nat, s.heap.size ≤ q → va_A (modW G a ss was beg asi sta txt typ att rea got row oth) s.heap.size q := fun q h => Or.inr h
  have hP : va_P G.1 vwCl [((a 0), .inr (5, [.ref (a 1), .ref (a 2), .ref (a 3), .ref (a 4), .int sta, .ref (a 5), .int typ, .int att, .int rea, .ref (a 6), .ref (a 7), .ref (a 8)])), ((a 1), .inl (G.2.1, 411, .inl ss)), ((a 2), .inl (G.2.1, 1644, .inl was)), ((a 3), .inl (G.2.1, 411, .inl beg)), ((a 4), .inl (G.2.1, 411, .inl asi)), ((a 5), .inl (G.2.2.1, 60, .inl txt)), ((a 6), .inl (G.2.1, 4, .inl got)), ((a 7), .inl (G.2.1, 4, .inl row)), ((a 8), .inl (G.2.1, 4, .inl oth))] s.heap := hP
  have hD : va_D (va_A (modW G a ss was beg asi sta txt typ att rea got row oth) s.heap.size) [((a 0), .inr (5, [.ref (a 1), .ref (a 2), .ref (a 3), .ref (a 4), .int sta, .ref (a 5), .int typ, .int att, .int rea, .ref (a 6), .ref (a 7), .ref (a 8)])), ((a 1), .inl (G.2.1, 411, .inl ss)), ((a 2), .inl (G.2.1, 1644, .inl was)), ((a 3), .inl (G.2.1, 411, .inl beg)), ((a 4), .inl (G.2.1, 411, .inl asi)), ((a 5), .inl (G.2.2.1, 60, .inl txt)), ((a 6), .inl (G.2.1, 4, .inl got)), ((a 7), .inl (G.2.1, 4, .inl row)), ((a 8), .inl (G.2.1, 4, .inl oth))] := hD
  unfold fX6_differs at hf
  refine lv_aload_n hx hb dX6_differs_0 rfl (lv_at hl 0 rfl) ?_
  refine lv_iconst (v := (0 : Int32)) hx hb dX6_differs_1 (by decide) ?_
  refine lv_iload_n hx hb dX6_differs_2 rfl (lv_at hl 1 rfl) ?_
  refine lv_iconst (v := (0 : Int32)) hx hb dX6_differs_3 (by decide) ?_
  obtain ⟨r1, e2, hf⟩ := g_bdS hf
  refine g_contR (st1 := [.int r1]) (g_runVR (As := [.int (0 : Int32), .int p0, .int (0 : Int32)]) (rest := []) ⟨hx, hb, hml, hown, hts⟩ (qX6_of l G a e2) (cwV 3 hts (TB_V TB_id tw_643 tw_645 tw_12 tw_54 tw_646) rfl rfl rfl (by decide +kernel) ⟨Nat.le_of_ble_eq_true rfl, Nat.le_of_ble_eq_true rfl⟩) hK (hP.sub [0, 1, 2, 3, 4, 5, 6, 7, 8] rfl) 0 rfl rfl rfl hl.1 rfl (Nat.le_of_ble_eq_true rfl) dX6_differs_4) rfl ?_
  refine lv_aload_n hx hb dX6_differs_7 rfl (lv_at hl 0 rfl) ?_
  refine lv_iconst (v := (1 : Int32)) hx hb dX6_differs_8 (by decide) ?_
  refine lv_iload_n hx hb dX6_differs_9 rfl (lv_at hl 1 rfl) ?_
  refine lv_iconst (v := (0 : Int32)) hx hb dX6_differs_10 (by decide) ?_
  obtain ⟨r3, e4, hf⟩ := g_bdS hf
  refine g_contR (st1 := [.int r3, .int r1]) (g_runVR (As := [.int (1 : Int32), .int p0, .int (0 : Int32)]) (rest := [.int r1]) ⟨hx, hb, hml, hown, hts⟩ (qX6_of l G a e4) (cwV 3 hts (TB_V TB_id tw_643 tw_645 tw_12 tw_54 tw_646) rfl rfl rfl (by decide +kernel) ⟨Nat.le_of_ble_eq_true rfl, Nat.le_of_ble_eq_true rfl⟩) hK (hP.sub [0, 1, 2, 3, 4, 5, 6, 7, 8] rfl) 0 rfl rfl rfl hl.1 rfl (Nat.le_of_ble_eq_true rfl) dX6_differs_11) rfl ?_
  refine lv_icmp_eq (tgt := 19) hx hb dX6_differs_14 (by decide) (fun c5 => ?_) (fun c5 => ?_)
  · have hf := g_ifT c5 hf
    refine lv_aload_n hx hb dX6_differs_19 rfl (lv_at hl 0 rfl) ?_
    refine lv_iconst (v := (1 : Int32)) hx hb dX6_differs_20 (by decide) ?_
    refine lv_iload_n hx hb dX6_differs_21 rfl (lv_at hl 1 rfl) ?_
    obtain ⟨r6, e7, hf⟩ := g_bdS hf
    refine g_contC (st1 := []) (g_runVC (As := [.int (1 : Int32), .int p0]) (rest := []) ⟨hx, hb, hml, hown, hts⟩ (qX6_takes l G a e7) (cwV 2 hts (TB_V TB_id tw_675 tw_677 tw_18 tw_54 tw_678) rfl rfl rfl (by decide +kernel) ⟨Nat.le_of_ble_eq_true rfl, Nat.le_of_ble_eq_true rfl⟩) hK (hP.sub [0, 1, 2, 3, 4, 5, 6, 7, 8] rfl) (hD.sub [0, 1, 2, 3, 4, 5, 6, 7, 8] (by decide) rfl) 0 rfl rfl rfl hl.1 rfl (Nat.le_of_ble_eq_true rfl) dX6_differs_22) rfl hP hD hS hA [0, 1, 2, 3, 4, 5, 6, 7, 8] rfl rfl (fun H locs hP hD hS => ?_)
    have hP : va_P G.1 vwCl [((a 0), .inr (5, [.ref (a 1), .ref (a 2), .ref (a 3), .ref (a 4), .int r6.2.2.2.2.1, .ref (a 5), .int r6.2.2.2.2.2.2.1, .int r6.2.2.2.2.2.2.2.1, .int r6.2.2.2.2.2.2.2.2.1, .ref (a 6), .ref (a 7), .ref (a 8)])), ((a 1), .inl (G.2.1, 411, .inl r6.1)), ((a 2), .inl (G.2.1, 1644, .inl r6.2.1)), ((a 3), .inl (G.2.1, 411, .inl r6.2.2.1)), ((a 4), .inl (G.2.1, 411, .inl r6.2.2.2.1)), ((a 5), .inl (G.2.2.1, 60, .inl r6.2.2.2.2.2.1)), ((a 6), .inl (G.2.1, 4, .inl r6.2.2.2.2.2.2.2.2.2.1)), ((a 7), .inl (G.2.1, 4, .inl r6.2.2.2.2.2.2.2.2.2.2.1)), ((a 8), .inl (G.2.1, 4, .inl r6.2.2.2.2.2.2.2.2.2.2.2))] H := hP
    have hD : va_D (va_A (modW G a ss was beg asi sta txt typ att rea got row oth) s.heap.size) [((a 0), .inr (5, [.ref (a 1), .ref (a 2), .ref (a 3), .ref (a 4), .int r6.2.2.2.2.1, .ref (a 5), .int r6.2.2.2.2.2.2.1, .int r6.2.2.2.2.2.2.2.1, .int r6.2.2.2.2.2.2.2.2.1, .ref (a 6), .ref (a 7), .ref (a 8)])), ((a 1), .inl (G.2.1, 411, .inl r6.1)), ((a 2), .inl (G.2.1, 1644, .inl r6.2.1)), ((a 3), .inl (G.2.1, 411, .inl r6.2.2.1)), ((a 4), .inl (G.2.1, 411, .inl r6.2.2.2.1)), ((a 5), .inl (G.2.2.1, 60, .inl r6.2.2.2.2.2.1)), ((a 6), .inl (G.2.1, 4, .inl r6.2.2.2.2.2.2.2.2.2.1)), ((a 7), .inl (G.2.1, 4, .inl r6.2.2.2.2.2.2.2.2.2.2.1)), ((a 8), .inl (G.2.1, 4, .inl r6.2.2.2.2.2.2.2.2.2.2.2))] := hD
    refine lv_aload_n hx hb dX6_differs_25 rfl (lv_at hl 0 rfl) ?_
    refine lv_iconst (v := (1 : Int32)) hx hb dX6_differs_26 (by decide) ?_
    refine lv_iconst (v := (0 : Int32)) hx hb dX6_differs_27 (by decide) ?_
    obtain ⟨r8, e9, hf⟩ := g_bdS hf
    refine g_contC (st1 := []) (g_runVC (As := [.int (1 : Int32), .int (0 : Int32)]) (rest := []) ⟨hx, hb, hml, hown, hts⟩ (qX6_makes l G a e9) (cwV 2 hts (TB_V TB_id tw_679 tw_681 tw_19 tw_54 tw_682) rfl rfl rfl (by decide +kernel) ⟨Nat.le_of_ble_eq_true rfl, Nat.le_of_ble_eq_true rfl⟩) hK (hP.sub [0, 1, 2, 3, 4, 5, 6, 7, 8] rfl) (hD.sub [0, 1, 2, 3, 4, 5, 6, 7, 8] (by decide) rfl) 0 rfl rfl rfl hl.1 rfl (Nat.le_of_ble_eq_true rfl) dX6_differs_28) rfl hP hD hS hA [0, 1, 2, 3, 4, 5, 6, 7, 8] rfl rfl (fun H locs hP hD hS => ?_)
    have hP : va_P G.1 vwCl [((a 0), .inr (5, [.ref (a 1), .ref (a 2), .ref (a 3), .ref (a 4), .int r8.2.2.2.2.1, .ref (a 5), .int r8.2.2.2.2.2.2.1, .int r8.2.2.2.2.2.2.2.1, .int r8.2.2.2.2.2.2.2.2.1, .ref (a 6), .ref (a 7), .ref (a 8)])), ((a 1), .inl (G.2.1, 411, .inl r8.1)), ((a 2), .inl (G.2.1, 1644, .inl r8.2.1)), ((a 3), .inl (G.2.1, 411, .inl r8.2.2.1)), ((a 4), .inl (G.2.1, 411, .inl r8.2.2.2.1)), ((a 5), .inl (G.2.2.1, 60, .inl r8.2.2.2.2.2.1)), ((a 6), .inl (G.2.1, 4, .inl r8.2.2.2.2.2.2.2.2.2.1)), ((a 7), .inl (G.2.1, 4, .inl r8.2.2.2.2.2.2.2.2.2.2.1)), ((a 8), .inl (G.2.1, 4, .inl r8.2.2.2.2.2.2.2.2.2.2.2))] H := hP
    have hD : va_D (va_A (modW G a ss was beg asi sta txt typ att rea got row oth) s.heap.size) [((a 0), .inr (5, [.ref (a 1), .ref (a 2), .ref (a 3), .ref (a 4), .int r8.2.2.2.2.1, .ref (a 5), .int r8.2.2.2.2.2.2.1, .int r8.2.2.2.2.2.2.2.1, .int r8.2.2.2.2.2.2.2.2.1, .ref (a 6), .ref (a 7), .ref (a 8)])), ((a 1), .inl (G.2.1, 411, .inl r8.1)), ((a 2), .inl (G.2.1, 1644, .inl r8.2.1)), ((a 3), .inl (G.2.1, 411, .inl r8.2.2.1)), ((a 4), .inl (G.2.1, 411, .inl r8.2.2.2.1)), ((a 5), .inl (G.2.2.1, 60, .inl r8.2.2.2.2.2.1)), ((a 6), .inl (G.2.1, 4, .inl r8.2.2.2.2.2.2.2.2.2.1)), ((a 7), .inl (G.2.1, 4, .inl r8.2.2.2.2.2.2.2.2.2.2.1)), ((a 8), .inl (G.2.1, 4, .inl r8.2.2.2.2.2.2.2.2.2.2.2))] := hD
    refine lv_aload_n hx hb dX6_differs_31 rfl (lv_at hl 0 rfl) ?_
    refine va_get (D := G.1) (ci := 5) (v := .ref (a 7)) (C := RX6) (T := TX6) (N := 12) hx hb hts hX6 hown hK.1 hP 0 rfl rfl 10 (by decide) (hts _ tw_598) (fun _ h9 => h9) rfl dX6_differs_32 ?_
    refine lv_iconst (v := (0 : Int32)) hx hb dX6_differs_35 (by decide) ?_
    obtain ⟨g10, hf⟩ := g_gdS hf
    refine va_iald hx hb hK.1 hP 7 0 rfl rfl (g_in_vp g10) dX6_differs_36 ?_
    refine lv_aload_n hx hb dX6_differs_37 rfl (lv_at hl 0 rfl) ?_
    refine lv_iconst (v := (0 : Int32)) hx hb dX6_differs_38 (by decide) ?_
    refine lv_iload_n hx hb dX6_differs_39 rfl (lv_at hl 1 rfl) ?_
    refine lv_iconst (v := (1 : Int32)) hx hb dX6_differs_40 (by decide) ?_
    obtain ⟨r11, e12, hf⟩ := g_bdS hf
    refine g_contR (st1 := [.int r11, .int (r8.2.2.2.2.2.2.2.2.2.2.1 (0 : Int32).toNatClampNeg)]) (g_runVR (As := [.int (0 : Int32), .int p0, .int (1 : Int32)]) (rest := [.int (r8.2.2.2.2.2.2.2.2.2.2.1 (0 : Int32).toNatClampNeg)]) ⟨hx, hb, hml, hown, hts⟩ (qX6_of l G a e12) (cwV 3 hts (TB_V TB_id tw_643 tw_645 tw_12 tw_54 tw_646) rfl rfl rfl (by decide +kernel) ⟨Nat.le_of_ble_eq_true rfl, Nat.le_of_ble_eq_true rfl⟩) hK (hP.sub [0, 1, 2, 3, 4, 5, 6, 7, 8] rfl) 0 rfl rfl rfl hl.1 rfl (Nat.le_of_ble_eq_true rfl) dX6_differs_41) rfl ?_
    refine lv_icmp_eq (tgt := 51) hx hb dX6_differs_44 (by decide) (fun c13 => ?_) (fun c13 => ?_)
    · have hf := g_ifT c13 hf
      refine lv_iconst (v := (0 : Int32)) hx hb dX6_differs_51 (by decide) ?_
      refine lv_istore_n (lv' := [(2, .int (0 : Int32)), (0, .ref (a 0)), (1, .int p0)]) hx hb dX6_differs_52 rfl hl (by decide) rfl (fun ls hl => ?_)
      refine lv_iconst (v := (1 : Int32)) hx hb dX6_differs_53 (by decide) ?_
      refine lv_istore_n (lv' := [(3, .int (1 : Int32)), (2, .int (0 : Int32)), (0, .ref (a 0)), (1, .int p0)]) hx hb dX6_differs_54 rfl hl (by decide) rfl (fun ls hl => ?_)
      exact kX6_differs_b55 C0 2000 _ _ _ _ _ _ _ _ _ _ _ _ _ _ _ _ hf _ _ hP hD hS ls (lv_sub hl [2, 3, 1, 0] rfl)
    · have hf := g_ifF c13 hf
      refine lv_iconst (v := (1 : Int32)) hx hb dX6_differs_47 (by decide) ?_
      refine lv_goto (tgt := 52) hx hb dX6_differs_48 (by decide) ?_
      refine lv_istore_n (lv' := [(2, .int (1 : Int32)), (0, .ref (a 0)), (1, .int p0)]) hx hb dX6_differs_52 rfl hl (by decide) rfl (fun ls hl => ?_)
      refine lv_iconst (v := (1 : Int32)) hx hb dX6_differs_53 (by decide) ?_
      refine lv_istore_n (lv' := [(3, .int (1 : Int32)), (2, .int (1 : Int32)), (0, .ref (a 0)), (1, .int p0)]) hx hb dX6_differs_54 rfl hl (by decide) rfl (fun ls hl => ?_)
      exact kX6_differs_b55 C0 2000 _ _ _ _ _ _ _ _ _ _ _ _ _ _ _ _ hf _ _ hP hD hS ls (lv_sub hl [2, 3, 1, 0] rfl)
  · have hf := g_ifF c5 hf
    refine lv_iconst (v := (1 : Int32)) hx hb dX6_differs_17 (by decide) ?_
    cases hf
    exact g_zretC hx hb hr hlocks g_nb1 hP hD hS dX6_differs_18
-- TwoShapesModel.differing()I
abbrev rmX6_differing : Room := { frames := 4, cells := 0, slots := 0, locals := 90 }
def fX6_differing_b4 : Nat → Int32 → Int32 → (Nat → Int32) → (Nat → Int32) → (Nat → Int32) → (Nat → Int32) → Int32 → (Nat → Int32) → Int32 → Int32 → Int32 → (Nat → Int32) → (Nat → Int32) → (Nat → Int32) → Option (Int32 × (Nat → Int32) × (Nat → Int32) × (Nat → Int32) × (Nat → Int32) × Int32 × (Nat → Int32) × Int32 × Int32 × Int32 × (Nat → Int32) × (Nat → Int32) × (Nat → Int32))
  | 0, _, _, _, _, _, _, _, _, _, _, _, _, _, _ => none
  | n + 1, x1, x2, ss, was, beg, asi, sta, txt, typ, att, rea, got, row, oth => (if (31 : Int32) ≤ x2 then some (x1, ss, was, beg, asi, sta, txt, typ, att, rea, got, row, oth) else ((fX6_differs x2 ss was beg asi sta txt typ att rea got row oth).bind fun r2 => (if r2.1 = (0 : Int32) then fX6_differing_b4 n (x1 ||| (0 : Int32)) (x2 + (1 : Int32)) r2.2.1 r2.2.2.1 r2.2.2.2.1 r2.2.2.2.2.1 r2.2.2.2.2.2.1 r2.2.2.2.2.2.2.1 r2.2.2.2.2.2.2.2.1 r2.2.2.2.2.2.2.2.2.1 r2.2.2.2.2.2.2.2.2.2.1 r2.2.2.2.2.2.2.2.2.2.2.1 r2.2.2.2.2.2.2.2.2.2.2.2.1 r2.2.2.2.2.2.2.2.2.2.2.2.2 else fX6_differing_b4 n (x1 ||| ((1 : Int32) <<< (x2 &&& 31))) (x2 + (1 : Int32)) r2.2.1 r2.2.2.1 r2.2.2.2.1 r2.2.2.2.2.1 r2.2.2.2.2.2.1 r2.2.2.2.2.2.2.1 r2.2.2.2.2.2.2.2.1 r2.2.2.2.2.2.2.2.2.1 r2.2.2.2.2.2.2.2.2.2.1 r2.2.2.2.2.2.2.2.2.2.2.1 r2.2.2.2.2.2.2.2.2.2.2.2.1 r2.2.2.2.2.2.2.2.2.2.2.2.2)))
set_option maxHeartbeats 4000000 in
set_option maxRecDepth 100000 in
theorem kX6_differing_b4 {p : Program} {l : Launch} {e : Env} {s : State} {m : MethodId} {args : Array Value} {below : List Frame} {meth : Method} {c : Code} {G : gT} {a : Nat → Nat} {w0 : va_W} (C0 : gX p s m args meth c cX6_differing 3 (some .int) RX6 G) :
    ∀ (n : Nat) (x1 : Int32) (x2 : Int32) (ss : Nat → Int32) (was : Nat → Int32) (beg : Nat → Int32) (asi : Nat → Int32) (sta : Int32) (txt : Nat → Int32) (typ : Int32) (att : Int32) (rea : Int32) (got : Nat → Int32) (row : Nat → Int32) (oth : Nat → Int32) (u : Int32 × (Nat → Int32) × (Nat → Int32) × (Nat → Int32) × (Nat → Int32) × Int32 × (Nat → Int32) × Int32 × Int32 × Int32 × (Nat → Int32) × (Nat → Int32) × (Nat → Int32)), fX6_differing_b4 n x1 x2 ss was beg asi sta txt typ att rea got row oth = some u → ∀ (H : Heap) (locs : List Loc), va_P G.1 vwCl [((a 0), .inr (5, [.ref (a 1), .ref (a 2), .ref (a 3), .ref (a 4), .int sta, .ref (a 5), .int typ, .int att, .int rea, .ref (a 6), .ref (a 7), .ref (a 8)])), ((a 1), .inl (G.2.1, 411, .inl ss)), ((a 2), .inl (G.2.1, 1644, .inl was)), ((a 3), .inl (G.2.1, 411, .inl beg)), ((a 4), .inl (G.2.1, 411, .inl asi)), ((a 5), .inl (G.2.2.1, 60, .inl txt)), ((a 6), .inl (G.2.1, 4, .inl got)), ((a 7), .inl (G.2.1, 4, .inl row)), ((a 8), .inl (G.2.1, 4, .inl oth))] H → va_D (va_A w0 s.heap.size) [((a 0), .inr (5, [.ref (a 1), .ref (a 2), .ref (a 3), .ref (a 4), .int sta, .ref (a 5), .int typ, .int att, .int rea, .ref (a 6), .ref (a 7), .ref (a 8)])), ((a 1), .inl (G.2.1, 411, .inl ss)), ((a 2), .inl (G.2.1, 1644, .inl was)), ((a 3), .inl (G.2.1, 411, .inl beg)), ((a 4), .inl (G.2.1, 411, .inl asi)), ((a 5), .inl (G.2.2.1, 60, .inl txt)), ((a 6), .inl (G.2.1, 4, .inl got)), ((a 7), .inl (G.2.1, 4, .inl row)), ((a 8), .inl (G.2.1, 4, .inl oth))] → va_S (va_A w0 s.heap.size) s.heap H locs → ∀ ls, lv_has ls 3 [(0, .ref (a 0)), (1, .int x1), (2, .int x2)] → gW p l e (headSpec wsX6_differing rmX6_differing).room s m args below meth c G w0 (some (.int u.1)) (modW G a u.2.1 u.2.2.1 u.2.2.2.1 u.2.2.2.2.1 u.2.2.2.2.2.1 u.2.2.2.2.2.2.1 u.2.2.2.2.2.2.2.1 u.2.2.2.2.2.2.2.2.1 u.2.2.2.2.2.2.2.2.2.1 u.2.2.2.2.2.2.2.2.2.2.1 u.2.2.2.2.2.2.2.2.2.2.2.1 u.2.2.2.2.2.2.2.2.2.2.2.2) H locs 4 ls [] := by
  obtain ⟨hx, hb, hr, hts, hown, hlocks, hml, hK⟩ := id C0
  have hA : ∀ q : Nat, s.heap.size ≤ q → va_A w0 s.heap.size q := fun q h => Or.inr h
  intro n
  induction n with
  | zero =>
    intro x1 x2 ss was beg asi sta txt typ att rea got row oth u hf H locs hP hD hS ls hl
    have hf : (none : Option (Int32 × (Nat → Int32) × (Nat → Int32) × (Nat → Int32) × (Nat → Int32) × Int32 × (Nat → Int32) × Int32 × Int32 × Int32 × (Nat → Int32) × (Nat → Int32) × (Nat → Int32))) = some u := hf
    cases hf
  | succ n ih =>
    intro x1 x2 ss was beg asi sta txt typ att rea got row oth u hf H locs hP hD hS ls hl
    rw [fX6_differing_b4] at hf
    refine lv_iload_n hx hb dX6_differing_4 rfl (lv_at hl 2 rfl) ?_
    refine lv_bipush (v := (31 : Int32)) hx hb dX6_differing_5 (by decide) ?_
    refine lv_icmp_ge (tgt := 34) hx hb dX6_differing_7 (by decide) (fun c1 => ?_) (fun c1 => ?_)
    · have hf := g_ifT c1 hf
      refine lv_iload_n hx hb dX6_differing_34 rfl (lv_at hl 1 rfl) ?_
      cases hf
      exact g_iretC hx hb hr hlocks hP hD hS dX6_differing_35
    · have hf := g_ifF c1 hf
      refine lv_iload_n hx hb dX6_differing_10 rfl (lv_at hl 1 rfl) ?_
      refine lv_aload_n hx hb dX6_differing_11 rfl (lv_at hl 0 rfl) ?_
      refine lv_iload_n hx hb dX6_differing_12 rfl (lv_at hl 2 rfl) ?_
      obtain ⟨r2, e3, hf⟩ := g_bdS hf
      refine g_contC (st1 := [.int r2.1, .int x1]) (g_runVC (As := [.int x2]) (rest := [.int x1]) ⟨hx, hb, hml, hown, hts⟩ (qX6_differs l G a e3) (cwV 1 hts (TB_V TB_id tw_671 tw_673 tw_17 tw_54 tw_674) rfl rfl rfl (by decide +kernel) ⟨Nat.le_of_ble_eq_true rfl, Nat.le_of_ble_eq_true rfl⟩) hK (hP.sub [0, 1, 2, 3, 4, 5, 6, 7, 8] rfl) (hD.sub [0, 1, 2, 3, 4, 5, 6, 7, 8] (by decide) rfl) 0 rfl rfl rfl hl.1 rfl (Nat.le_of_ble_eq_true rfl) dX6_differing_13) rfl hP hD hS hA [0, 1, 2, 3, 4, 5, 6, 7, 8] rfl rfl (fun H locs hP hD hS => ?_)
      have hP : va_P G.1 vwCl [((a 0), .inr (5, [.ref (a 1), .ref (a 2), .ref (a 3), .ref (a 4), .int r2.2.2.2.2.2.1, .ref (a 5), .int r2.2.2.2.2.2.2.2.1, .int r2.2.2.2.2.2.2.2.2.1, .int r2.2.2.2.2.2.2.2.2.2.1, .ref (a 6), .ref (a 7), .ref (a 8)])), ((a 1), .inl (G.2.1, 411, .inl r2.2.1)), ((a 2), .inl (G.2.1, 1644, .inl r2.2.2.1)), ((a 3), .inl (G.2.1, 411, .inl r2.2.2.2.1)), ((a 4), .inl (G.2.1, 411, .inl r2.2.2.2.2.1)), ((a 5), .inl (G.2.2.1, 60, .inl r2.2.2.2.2.2.2.1)), ((a 6), .inl (G.2.1, 4, .inl r2.2.2.2.2.2.2.2.2.2.2.1)), ((a 7), .inl (G.2.1, 4, .inl r2.2.2.2.2.2.2.2.2.2.2.2.1)), ((a 8), .inl (G.2.1, 4, .inl r2.2.2.2.2.2.2.2.2.2.2.2.2))] H := hP
      have hD : va_D (va_A w0 s.heap.size) [((a 0), .inr (5, [.ref (a 1), .ref (a 2), .ref (a 3), .ref (a 4), .int r2.2.2.2.2.2.1, .ref (a 5), .int r2.2.2.2.2.2.2.2.1, .int r2.2.2.2.2.2.2.2.2.1, .int r2.2.2.2.2.2.2.2.2.2.1, .ref (a 6), .ref (a 7), .ref (a 8)])), ((a 1), .inl (G.2.1, 411, .inl r2.2.1)), ((a 2), .inl (G.2.1, 1644, .inl r2.2.2.1)), ((a 3), .inl (G.2.1, 411, .inl r2.2.2.2.1)), ((a 4), .inl (G.2.1, 411, .inl r2.2.2.2.2.1)), ((a 5), .inl (G.2.2.1, 60, .inl r2.2.2.2.2.2.2.1)), ((a 6), .inl (G.2.1, 4, .inl r2.2.2.2.2.2.2.2.2.2.2.1)), ((a 7), .inl (G.2.1, 4, .inl r2.2.2.2.2.2.2.2.2.2.2.2.1)), ((a 8), .inl (G.2.1, 4, .inl r2.2.2.2.2.2.2.2.2.2.2.2.2))] := hD
      refine lv_if_eq (tgt := 25) hx hb dX6_differing_16 (by decide) (fun c4 => ?_) (fun c4 => ?_)
      · have hf := g_ifT c4 hf
        refine lv_iconst (v := (0 : Int32)) hx hb dX6_differing_25 (by decide) ?_
        refine lv_ior hx hb dX6_differing_26 ?_
        refine lv_istore_n (lv' := [(1, .int (x1 ||| (0 : Int32))), (0, .ref (a 0)), (2, .int x2)]) hx hb dX6_differing_27 rfl hl (by decide) rfl (fun ls hl => ?_)
        refine lv_iinc (v := (x2 + (1 : Int32))) (lv' := [(2, .int (x2 + (1 : Int32))), (1, .int (x1 ||| (0 : Int32))), (0, .ref (a 0))]) hx hb dX6_differing_28 hl (k := 2) rfl rfl (by decide) rfl (fun ls hl => ?_)
        refine lv_goto (tgt := 4) hx hb dX6_differing_31 (by decide) ?_
        exact ih _ _ _ _ _ _ _ _ _ _ _ _ _ _ _ hf _ _ hP hD hS ls (lv_sub hl [2, 1, 0] rfl)
      · have hf := g_ifF c4 hf
        refine lv_iconst (v := (1 : Int32)) hx hb dX6_differing_19 (by decide) ?_
        refine lv_iload_n hx hb dX6_differing_20 rfl (lv_at hl 2 rfl) ?_
        refine lv_ishl hx hb dX6_differing_21 ?_
        refine lv_goto (tgt := 26) hx hb dX6_differing_22 (by decide) ?_
        refine lv_ior hx hb dX6_differing_26 ?_
        refine lv_istore_n (lv' := [(1, .int (x1 ||| ((1 : Int32) <<< (x2 &&& 31)))), (0, .ref (a 0)), (2, .int x2)]) hx hb dX6_differing_27 rfl hl (by decide) rfl (fun ls hl => ?_)
        refine lv_iinc (v := (x2 + (1 : Int32))) (lv' := [(2, .int (x2 + (1 : Int32))), (1, .int (x1 ||| ((1 : Int32) <<< (x2 &&& 31)))), (0, .ref (a 0))]) hx hb dX6_differing_28 hl (k := 2) rfl rfl (by decide) rfl (fun ls hl => ?_)
        refine lv_goto (tgt := 4) hx hb dX6_differing_31 (by decide) ?_
        exact ih _ _ _ _ _ _ _ _ _ _ _ _ _ _ _ hf _ _ hP hD hS ls (lv_sub hl [2, 1, 0] rfl)
def fX6_differing (ss : Nat → Int32) (was : Nat → Int32) (beg : Nat → Int32) (asi : Nat → Int32) (sta : Int32) (txt : Nat → Int32) (typ : Int32) (att : Int32) (rea : Int32) (got : Nat → Int32) (row : Nat → Int32) (oth : Nat → Int32) : Option (Int32 × (Nat → Int32) × (Nat → Int32) × (Nat → Int32) × (Nat → Int32) × Int32 × (Nat → Int32) × Int32 × Int32 × Int32 × (Nat → Int32) × (Nat → Int32) × (Nat → Int32)) := fX6_differing_b4 2000 (0 : Int32) (0 : Int32) ss was beg asi sta txt typ att rea got row oth
set_option maxHeartbeats 4000000 in
set_option maxRecDepth 100000 in
theorem qX6_differing (l : Launch) (G : gT) (a : Nat → Nat) {ss : Nat → Int32} {was : Nat → Int32} {beg : Nat → Int32} {asi : Nat → Int32} {sta : Int32} {txt : Nat → Int32} {typ : Int32} {att : Int32} {rea : Int32} {got : Nat → Int32} {row : Nat → Int32} {oth : Nat → Int32} {u : Int32 × (Nat → Int32) × (Nat → Int32) × (Nat → Int32) × (Nat → Int32) × Int32 × (Nat → Int32) × Int32 × Int32 × Int32 × (Nat → Int32) × (Nat → Int32) × (Nat → Int32)} (hf : fX6_differing ss was beg asi sta txt typ att rea got row oth = some u) : gC l G yX6_differing wsX6_differing rmX6_differing [.ref (a 0)] (modW G a ss was beg asi sta txt typ att rea got row oth) (some (.int u.1)) (modW G a u.2.1 u.2.2.1 u.2.2.2.1 u.2.2.2.2.1 u.2.2.2.2.2.1 u.2.2.2.2.2.2.1 u.2.2.2.2.2.2.2.1 u.2.2.2.2.2.2.2.2.1 u.2.2.2.2.2.2.2.2.2.1 u.2.2.2.2.2.2.2.2.2.2.1 u.2.2.2.2.2.2.2.2.2.2.2.1 u.2.2.2.2.2.2.2.2.2.2.2.2) := by
  refine gC.of (cc := cX6_differing) (maxL := 3) (ret := (some .int)) (by decide) rfl (Nat.le_of_ble_eq_true rfl) ?_
  intro p e s m below meth c C0 hP hD hS ls hl
  obtain ⟨hx, hb, hr, hts, hown, hlocks, hml, hK⟩ := id C0
  have hl : lv_has ls 3 [(0, .ref (a 0))] := hl
  have hA : ∀ q : Nat, s.heap.size ≤ q → va_A (modW G a ss was beg asi sta txt typ att rea got row oth) s.heap.size q := fun q h => Or.inr h
  have hP : va_P G.1 vwCl [((a 0), .inr (5, [.ref (a 1), .ref (a 2), .ref (a 3), .ref (a 4), .int sta, .ref (a 5), .int typ, .int att, .int rea, .ref (a 6), .ref (a 7), .ref (a 8)])), ((a 1), .inl (G.2.1, 411, .inl ss)), ((a 2), .inl (G.2.1, 1644, .inl was)), ((a 3), .inl (G.2.1, 411, .inl beg)), ((a 4), .inl (G.2.1, 411, .inl asi)), ((a 5), .inl (G.2.2.1, 60, .inl txt)), ((a 6), .inl (G.2.1, 4, .inl got)), ((a 7), .inl (G.2.1, 4, .inl row)), ((a 8), .inl (G.2.1, 4, .inl oth))] s.heap := hP
  have hD : va_D (va_A (modW G a ss was beg asi sta txt typ att rea got row oth) s.heap.size) [((a 0), .inr (5, [.ref (a 1), .ref (a 2), .ref (a 3), .ref (a 4), .int sta, .ref (a 5), .int typ, .int att, .int rea, .ref (a 6), .ref (a 7), .ref (a 8)])), ((a 1), .inl (G.2.1, 411, .inl ss)), ((a 2), .inl (G.2.1, 1644, .inl was)), ((a 3), .inl (G.2.1, 411, .inl beg)), ((a 4), .inl (G.2.1, 411, .inl asi)), ((a 5), .inl (G.2.2.1, 60, .inl txt)), ((a 6), .inl (G.2.1, 4, .inl got)), ((a 7), .inl (G.2.1, 4, .inl row)), ((a 8), .inl (G.2.1, 4, .inl oth))] := hD
  unfold fX6_differing at hf
  refine lv_iconst (v := (0 : Int32)) hx hb dX6_differing_0 (by decide) ?_
  refine lv_istore_n (lv' := [(1, .int (0 : Int32)), (0, .ref (a 0))]) hx hb dX6_differing_1 rfl hl (by decide) rfl (fun ls hl => ?_)
  refine lv_iconst (v := (0 : Int32)) hx hb dX6_differing_2 (by decide) ?_
  refine lv_istore_n (lv' := [(2, .int (0 : Int32)), (1, .int (0 : Int32)), (0, .ref (a 0))]) hx hb dX6_differing_3 rfl hl (by decide) rfl (fun ls hl => ?_)
  exact kX6_differing_b4 C0 2000 _ _ _ _ _ _ _ _ _ _ _ _ _ _ _ hf _ _ hP hD hS ls (lv_sub hl [2, 1, 0] rfl)
-- TwoShapesModel.isReady()Z
abbrev rmX6_isReady : Room := { frames := 5, cells := 0, slots := 0, locals := 112 }
def fX6_isReady (ss : Nat → Int32) (was : Nat → Int32) (beg : Nat → Int32) (asi : Nat → Int32) (sta : Int32) (txt : Nat → Int32) (typ : Int32) (att : Int32) (rea : Int32) (got : Nat → Int32) (row : Nat → Int32) (oth : Nat → Int32) : Option (Int32 × (Nat → Int32) × (Nat → Int32) × (Nat → Int32) × (Nat → Int32) × Int32 × (Nat → Int32) × Int32 × Int32 × Int32 × (Nat → Int32) × (Nat → Int32) × (Nat → Int32)) := g_gd (g_in (0 : Int32) 411) ((if (ss (0 : Int32).toNatClampNeg) = (1 : Int32) then g_gd (g_in (2 : Int32) 411) ((if (ss (2 : Int32).toNatClampNeg) = (31 : Int32) then g_gd (g_in (3 : Int32) 411) ((if (ss (3 : Int32).toNatClampNeg) = (0 : Int32) then ((fX6_differing ss was beg asi sta txt typ att rea got row oth).bind fun r7 => (if r7.1 = (0 : Int32) then some ((1 : Int32), r7.2.1, r7.2.2.1, r7.2.2.2.1, r7.2.2.2.2.1, r7.2.2.2.2.2.1, r7.2.2.2.2.2.2.1, r7.2.2.2.2.2.2.2.1, r7.2.2.2.2.2.2.2.2.1, r7.2.2.2.2.2.2.2.2.2.1, r7.2.2.2.2.2.2.2.2.2.2.1, r7.2.2.2.2.2.2.2.2.2.2.2.1, r7.2.2.2.2.2.2.2.2.2.2.2.2) else some ((0 : Int32), r7.2.1, r7.2.2.1, r7.2.2.2.1, r7.2.2.2.2.1, r7.2.2.2.2.2.1, r7.2.2.2.2.2.2.1, r7.2.2.2.2.2.2.2.1, r7.2.2.2.2.2.2.2.2.1, r7.2.2.2.2.2.2.2.2.2.1, r7.2.2.2.2.2.2.2.2.2.2.1, r7.2.2.2.2.2.2.2.2.2.2.2.1, r7.2.2.2.2.2.2.2.2.2.2.2.2))) else some ((0 : Int32), ss, was, beg, asi, sta, txt, typ, att, rea, got, row, oth))) else some ((0 : Int32), ss, was, beg, asi, sta, txt, typ, att, rea, got, row, oth))) else some ((0 : Int32), ss, was, beg, asi, sta, txt, typ, att, rea, got, row, oth)))
set_option maxHeartbeats 4000000 in
set_option maxRecDepth 100000 in
theorem qX6_isReady (l : Launch) (G : gT) (a : Nat → Nat) {ss : Nat → Int32} {was : Nat → Int32} {beg : Nat → Int32} {asi : Nat → Int32} {sta : Int32} {txt : Nat → Int32} {typ : Int32} {att : Int32} {rea : Int32} {got : Nat → Int32} {row : Nat → Int32} {oth : Nat → Int32} {u : Int32 × (Nat → Int32) × (Nat → Int32) × (Nat → Int32) × (Nat → Int32) × Int32 × (Nat → Int32) × Int32 × Int32 × Int32 × (Nat → Int32) × (Nat → Int32) × (Nat → Int32)} (hf : fX6_isReady ss was beg asi sta txt typ att rea got row oth = some u) : gC l G yX6_isReady wsX6_isReady rmX6_isReady [.ref (a 0)] (modW G a ss was beg asi sta txt typ att rea got row oth) (some (.int u.1)) (modW G a u.2.1 u.2.2.1 u.2.2.2.1 u.2.2.2.2.1 u.2.2.2.2.2.1 u.2.2.2.2.2.2.1 u.2.2.2.2.2.2.2.1 u.2.2.2.2.2.2.2.2.1 u.2.2.2.2.2.2.2.2.2.1 u.2.2.2.2.2.2.2.2.2.2.1 u.2.2.2.2.2.2.2.2.2.2.2.1 u.2.2.2.2.2.2.2.2.2.2.2.2) := by
  refine gC.of (cc := cX6_isReady) (maxL := 1) (ret := (some .boolean)) (by decide) rfl (Nat.le_of_ble_eq_true rfl) ?_
  intro p e s m below meth c C0 hP hD hS ls hl
  obtain ⟨hx, hb, hr, hts, hown, hlocks, hml, hK⟩ := id C0
  have hl : lv_has ls 1 [(0, .ref (a 0))] := hl
  have hA : ∀ q : Nat, s.heap.size ≤ q → va_A (modW G a ss was beg asi sta txt typ att rea got row oth) s.heap.size q := fun q h => Or.inr h
  have hP : va_P G.1 vwCl [((a 0), .inr (5, [.ref (a 1), .ref (a 2), .ref (a 3), .ref (a 4), .int sta, .ref (a 5), .int typ, .int att, .int rea, .ref (a 6), .ref (a 7), .ref (a 8)])), ((a 1), .inl (G.2.1, 411, .inl ss)), ((a 2), .inl (G.2.1, 1644, .inl was)), ((a 3), .inl (G.2.1, 411, .inl beg)), ((a 4), .inl (G.2.1, 411, .inl asi)), ((a 5), .inl (G.2.2.1, 60, .inl txt)), ((a 6), .inl (G.2.1, 4, .inl got)), ((a 7), .inl (G.2.1, 4, .inl row)), ((a 8), .inl (G.2.1, 4, .inl oth))] s.heap := hP
  have hD : va_D (va_A (modW G a ss was beg asi sta txt typ att rea got row oth) s.heap.size) [((a 0), .inr (5, [.ref (a 1), .ref (a 2), .ref (a 3), .ref (a 4), .int sta, .ref (a 5), .int typ, .int att, .int rea, .ref (a 6), .ref (a 7), .ref (a 8)])), ((a 1), .inl (G.2.1, 411, .inl ss)), ((a 2), .inl (G.2.1, 1644, .inl was)), ((a 3), .inl (G.2.1, 411, .inl beg)), ((a 4), .inl (G.2.1, 411, .inl asi)), ((a 5), .inl (G.2.2.1, 60, .inl txt)), ((a 6), .inl (G.2.1, 4, .inl got)), ((a 7), .inl (G.2.1, 4, .inl row)), ((a 8), .inl (G.2.1, 4, .inl oth))] := hD
  unfold fX6_isReady at hf
  refine lv_aload_n hx hb dX6_isReady_0 rfl (lv_at hl 0 rfl) ?_
  refine va_get (D := G.1) (ci := 5) (v := .ref (a 1)) (C := RX6) (T := TX6) (N := 12) hx hb hts hX6 hown hK.1 hP 0 rfl rfl 0 (by decide) (hts _ tw_588) (fun _ h9 => h9) rfl dX6_isReady_1 ?_
  refine lv_iconst (v := (0 : Int32)) hx hb dX6_isReady_4 (by decide) ?_
  obtain ⟨g1, hf⟩ := g_gdS hf
  refine va_iald hx hb hK.1 hP 1 0 rfl rfl (g_in_vp g1) dX6_isReady_5 ?_
  refine lv_iconst (v := (1 : Int32)) hx hb dX6_isReady_6 (by decide) ?_
  refine lv_icmp_ne (tgt := 41) hx hb dX6_isReady_7 (by decide) (fun c2 => ?_) (fun c2 => ?_)
  · have hf := g_ifF c2 hf
    refine lv_iconst (v := (0 : Int32)) hx hb dX6_isReady_41 (by decide) ?_
    cases hf
    exact g_zretC hx hb hr hlocks g_nb0 hP hD hS dX6_isReady_42
  · have hf := g_ifT c2 hf
    refine lv_aload_n hx hb dX6_isReady_10 rfl (lv_at hl 0 rfl) ?_
    refine va_get (D := G.1) (ci := 5) (v := .ref (a 1)) (C := RX6) (T := TX6) (N := 12) hx hb hts hX6 hown hK.1 hP 0 rfl rfl 0 (by decide) (hts _ tw_588) (fun _ h9 => h9) rfl dX6_isReady_11 ?_
    refine lv_iconst (v := (2 : Int32)) hx hb dX6_isReady_14 (by decide) ?_
    obtain ⟨g3, hf⟩ := g_gdS hf
    refine va_iald hx hb hK.1 hP 1 0 rfl rfl (g_in_vp g3) dX6_isReady_15 ?_
    refine lv_bipush (v := (31 : Int32)) hx hb dX6_isReady_16 (by decide) ?_
    refine lv_icmp_ne (tgt := 41) hx hb dX6_isReady_18 (by decide) (fun c4 => ?_) (fun c4 => ?_)
    · have hf := g_ifF c4 hf
      refine lv_iconst (v := (0 : Int32)) hx hb dX6_isReady_41 (by decide) ?_
      cases hf
      exact g_zretC hx hb hr hlocks g_nb0 hP hD hS dX6_isReady_42
    · have hf := g_ifT c4 hf
      refine lv_aload_n hx hb dX6_isReady_21 rfl (lv_at hl 0 rfl) ?_
      refine va_get (D := G.1) (ci := 5) (v := .ref (a 1)) (C := RX6) (T := TX6) (N := 12) hx hb hts hX6 hown hK.1 hP 0 rfl rfl 0 (by decide) (hts _ tw_588) (fun _ h9 => h9) rfl dX6_isReady_22 ?_
      refine lv_iconst (v := (3 : Int32)) hx hb dX6_isReady_25 (by decide) ?_
      obtain ⟨g5, hf⟩ := g_gdS hf
      refine va_iald hx hb hK.1 hP 1 0 rfl rfl (g_in_vp g5) dX6_isReady_26 ?_
      refine lv_if_ne (tgt := 41) hx hb dX6_isReady_27 (by decide) (fun c6 => ?_) (fun c6 => ?_)
      · have hf := g_ifF c6 hf
        refine lv_iconst (v := (0 : Int32)) hx hb dX6_isReady_41 (by decide) ?_
        cases hf
        exact g_zretC hx hb hr hlocks g_nb0 hP hD hS dX6_isReady_42
      · have hf := g_ifT c6 hf
        refine lv_aload_n hx hb dX6_isReady_30 rfl (lv_at hl 0 rfl) ?_
        obtain ⟨r7, e8, hf⟩ := g_bdS hf
        refine g_contC (st1 := [.int r7.1]) (g_runVC (As := []) (rest := []) ⟨hx, hb, hml, hown, hts⟩ (qX6_differing l G a e8) (cwV 0 hts (TB_V TB_id tw_667 tw_669 tw_16 tw_54 tw_670) rfl rfl rfl (by decide +kernel) ⟨Nat.le_of_ble_eq_true rfl, Nat.le_of_ble_eq_true rfl⟩) hK (hP.sub [0, 1, 2, 3, 4, 5, 6, 7, 8] rfl) (hD.sub [0, 1, 2, 3, 4, 5, 6, 7, 8] (by decide) rfl) 0 rfl rfl rfl hl.1 rfl (Nat.le_of_ble_eq_true rfl) dX6_isReady_31) rfl hP hD hS hA [0, 1, 2, 3, 4, 5, 6, 7, 8] rfl rfl (fun H locs hP hD hS => ?_)
        have hP : va_P G.1 vwCl [((a 0), .inr (5, [.ref (a 1), .ref (a 2), .ref (a 3), .ref (a 4), .int r7.2.2.2.2.2.1, .ref (a 5), .int r7.2.2.2.2.2.2.2.1, .int r7.2.2.2.2.2.2.2.2.1, .int r7.2.2.2.2.2.2.2.2.2.1, .ref (a 6), .ref (a 7), .ref (a 8)])), ((a 1), .inl (G.2.1, 411, .inl r7.2.1)), ((a 2), .inl (G.2.1, 1644, .inl r7.2.2.1)), ((a 3), .inl (G.2.1, 411, .inl r7.2.2.2.1)), ((a 4), .inl (G.2.1, 411, .inl r7.2.2.2.2.1)), ((a 5), .inl (G.2.2.1, 60, .inl r7.2.2.2.2.2.2.1)), ((a 6), .inl (G.2.1, 4, .inl r7.2.2.2.2.2.2.2.2.2.2.1)), ((a 7), .inl (G.2.1, 4, .inl r7.2.2.2.2.2.2.2.2.2.2.2.1)), ((a 8), .inl (G.2.1, 4, .inl r7.2.2.2.2.2.2.2.2.2.2.2.2))] H := hP
        have hD : va_D (va_A (modW G a ss was beg asi sta txt typ att rea got row oth) s.heap.size) [((a 0), .inr (5, [.ref (a 1), .ref (a 2), .ref (a 3), .ref (a 4), .int r7.2.2.2.2.2.1, .ref (a 5), .int r7.2.2.2.2.2.2.2.1, .int r7.2.2.2.2.2.2.2.2.1, .int r7.2.2.2.2.2.2.2.2.2.1, .ref (a 6), .ref (a 7), .ref (a 8)])), ((a 1), .inl (G.2.1, 411, .inl r7.2.1)), ((a 2), .inl (G.2.1, 1644, .inl r7.2.2.1)), ((a 3), .inl (G.2.1, 411, .inl r7.2.2.2.1)), ((a 4), .inl (G.2.1, 411, .inl r7.2.2.2.2.1)), ((a 5), .inl (G.2.2.1, 60, .inl r7.2.2.2.2.2.2.1)), ((a 6), .inl (G.2.1, 4, .inl r7.2.2.2.2.2.2.2.2.2.2.1)), ((a 7), .inl (G.2.1, 4, .inl r7.2.2.2.2.2.2.2.2.2.2.2.1)), ((a 8), .inl (G.2.1, 4, .inl r7.2.2.2.2.2.2.2.2.2.2.2.2))] := hD
        refine lv_if_ne (tgt := 41) hx hb dX6_isReady_34 (by decide) (fun c9 => ?_) (fun c9 => ?_)
        · have hf := g_ifF c9 hf
          refine lv_iconst (v := (0 : Int32)) hx hb dX6_isReady_41 (by decide) ?_
          cases hf
          exact g_zretC hx hb hr hlocks g_nb0 hP hD hS dX6_isReady_42
        · have hf := g_ifT c9 hf
          refine lv_iconst (v := (1 : Int32)) hx hb dX6_isReady_37 (by decide) ?_
          refine lv_goto (tgt := 42) hx hb dX6_isReady_38 (by decide) ?_
          cases hf
          exact g_zretC hx hb hr hlocks g_nb1 hP hD hS dX6_isReady_42
-- TwoShapesModel.begin()I
abbrev rmX6_begin : Room := { frames := 3, cells := 0, slots := 0, locals := 67 }
def fX6_begin (ss : Nat → Int32) (was : Nat → Int32) (beg : Nat → Int32) (asi : Nat → Int32) (sta : Int32) (txt : Nat → Int32) (typ : Int32) (att : Int32) (rea : Int32) (got : Nat → Int32) (row : Nat → Int32) (oth : Nat → Int32) : Option (Int32 × (Nat → Int32) × (Nat → Int32) × (Nat → Int32) × (Nat → Int32) × Int32 × (Nat → Int32) × Int32 × Int32 × Int32 × (Nat → Int32) × (Nat → Int32) × (Nat → Int32)) := g_gd (g_in (0 : Int32) 411) ((if (ss (0 : Int32).toNatClampNeg) = (0 : Int32) then ((fX6_keeps ss was beg asi sta txt typ att rea got row oth).bind fun r3 => g_gd (g_in (0 : Int32) 411) (g_gd (g_in (2 : Int32) 411) (((fX6_clears (1 : Int32) (upd (upd r3.1 (0 : Int32).toNatClampNeg (1 : Int32)) (2 : Int32).toNatClampNeg (0 : Int32)) r3.2.1 r3.2.2.1 r3.2.2.2.1 r3.2.2.2.2.1 r3.2.2.2.2.2.1 r3.2.2.2.2.2.2.1 r3.2.2.2.2.2.2.2.1 r3.2.2.2.2.2.2.2.2.1 r3.2.2.2.2.2.2.2.2.2.1 r3.2.2.2.2.2.2.2.2.2.2.1 r3.2.2.2.2.2.2.2.2.2.2.2).bind fun r7 => ((fX6_rows (0 : Int32) r7.1 r7.2.1 r7.2.2.1 r7.2.2.2.1 r7.2.2.2.2.1 r7.2.2.2.2.2.1 r7.2.2.2.2.2.2.1 r7.2.2.2.2.2.2.2.1 r7.2.2.2.2.2.2.2.2.1 r7.2.2.2.2.2.2.2.2.2.1 r7.2.2.2.2.2.2.2.2.2.2.1 r7.2.2.2.2.2.2.2.2.2.2.2).bind fun r9 => ((fX6_acted r9 r7.1 r7.2.1 r7.2.2.1 r7.2.2.2.1 r7.2.2.2.2.1 r7.2.2.2.2.2.1 r7.2.2.2.2.2.2.1 r7.2.2.2.2.2.2.2.1 r7.2.2.2.2.2.2.2.2.1 r7.2.2.2.2.2.2.2.2.2.1 r7.2.2.2.2.2.2.2.2.2.2.1 r7.2.2.2.2.2.2.2.2.2.2.2).bind fun r11 => some (r11.1, r11.2.1, r11.2.2.1, r11.2.2.2.1, r11.2.2.2.2.1, r11.2.2.2.2.2.1, r11.2.2.2.2.2.2.1, r11.2.2.2.2.2.2.2.1, r11.2.2.2.2.2.2.2.2.1, r11.2.2.2.2.2.2.2.2.2.1, r11.2.2.2.2.2.2.2.2.2.2.1, r11.2.2.2.2.2.2.2.2.2.2.2.1, r11.2.2.2.2.2.2.2.2.2.2.2.2))))))) else some ((-1000002 : Int32), ss, was, beg, asi, sta, txt, typ, att, rea, got, row, oth)))
set_option maxHeartbeats 4000000 in
set_option maxRecDepth 100000 in
theorem qX6_begin (l : Launch) (G : gT) (a : Nat → Nat) {ss : Nat → Int32} {was : Nat → Int32} {beg : Nat → Int32} {asi : Nat → Int32} {sta : Int32} {txt : Nat → Int32} {typ : Int32} {att : Int32} {rea : Int32} {got : Nat → Int32} {row : Nat → Int32} {oth : Nat → Int32} {u : Int32 × (Nat → Int32) × (Nat → Int32) × (Nat → Int32) × (Nat → Int32) × Int32 × (Nat → Int32) × Int32 × Int32 × Int32 × (Nat → Int32) × (Nat → Int32) × (Nat → Int32)} (hf : fX6_begin ss was beg asi sta txt typ att rea got row oth = some u) : gC l G yX6_begin wsX6_begin rmX6_begin [.ref (a 0)] (modW G a ss was beg asi sta txt typ att rea got row oth) (some (.int u.1)) (modW G a u.2.1 u.2.2.1 u.2.2.2.1 u.2.2.2.2.1 u.2.2.2.2.2.1 u.2.2.2.2.2.2.1 u.2.2.2.2.2.2.2.1 u.2.2.2.2.2.2.2.2.1 u.2.2.2.2.2.2.2.2.2.1 u.2.2.2.2.2.2.2.2.2.2.1 u.2.2.2.2.2.2.2.2.2.2.2.1 u.2.2.2.2.2.2.2.2.2.2.2.2) := by
  refine gC.of (cc := cX6_begin) (maxL := 1) (ret := (some .int)) (by decide) rfl (Nat.le_of_ble_eq_true rfl) ?_
  intro p e s m below meth c C0 hP hD hS ls hl
  obtain ⟨hx, hb, hr, hts, hown, hlocks, hml, hK⟩ := id C0
  have hl : lv_has ls 1 [(0, .ref (a 0))] := hl
  have hA : ∀ q : Nat, s.heap.size ≤ q → va_A (modW G a ss was beg asi sta txt typ att rea got row oth) s.heap.size q := fun q h => Or.inr h
  have hP : va_P G.1 vwCl [((a 0), .inr (5, [.ref (a 1), .ref (a 2), .ref (a 3), .ref (a 4), .int sta, .ref (a 5), .int typ, .int att, .int rea, .ref (a 6), .ref (a 7), .ref (a 8)])), ((a 1), .inl (G.2.1, 411, .inl ss)), ((a 2), .inl (G.2.1, 1644, .inl was)), ((a 3), .inl (G.2.1, 411, .inl beg)), ((a 4), .inl (G.2.1, 411, .inl asi)), ((a 5), .inl (G.2.2.1, 60, .inl txt)), ((a 6), .inl (G.2.1, 4, .inl got)), ((a 7), .inl (G.2.1, 4, .inl row)), ((a 8), .inl (G.2.1, 4, .inl oth))] s.heap := hP
  have hD : va_D (va_A (modW G a ss was beg asi sta txt typ att rea got row oth) s.heap.size) [((a 0), .inr (5, [.ref (a 1), .ref (a 2), .ref (a 3), .ref (a 4), .int sta, .ref (a 5), .int typ, .int att, .int rea, .ref (a 6), .ref (a 7), .ref (a 8)])), ((a 1), .inl (G.2.1, 411, .inl ss)), ((a 2), .inl (G.2.1, 1644, .inl was)), ((a 3), .inl (G.2.1, 411, .inl beg)), ((a 4), .inl (G.2.1, 411, .inl asi)), ((a 5), .inl (G.2.2.1, 60, .inl txt)), ((a 6), .inl (G.2.1, 4, .inl got)), ((a 7), .inl (G.2.1, 4, .inl row)), ((a 8), .inl (G.2.1, 4, .inl oth))] := hD
  unfold fX6_begin at hf
  refine lv_aload_n hx hb dX6_begin_0 rfl (lv_at hl 0 rfl) ?_
  refine va_get (D := G.1) (ci := 5) (v := .ref (a 1)) (C := RX6) (T := TX6) (N := 12) hx hb hts hX6 hown hK.1 hP 0 rfl rfl 0 (by decide) (hts _ tw_588) (fun _ h9 => h9) rfl dX6_begin_1 ?_
  refine lv_iconst (v := (0 : Int32)) hx hb dX6_begin_4 (by decide) ?_
  obtain ⟨g1, hf⟩ := g_gdS hf
  refine va_iald hx hb hK.1 hP 1 0 rfl rfl (g_in_vp g1) dX6_begin_5 ?_
  refine lv_if_eq (tgt := 12) hx hb dX6_begin_6 (by decide) (fun c2 => ?_) (fun c2 => ?_)
  · have hf := g_ifT c2 hf
    refine lv_aload_n hx hb dX6_begin_12 rfl (lv_at hl 0 rfl) ?_
    obtain ⟨r3, e4, hf⟩ := g_bdS hf
    refine g_contC (st1 := []) (g_runVC (As := []) (rest := []) ⟨hx, hb, hml, hown, hts⟩ (qX6_keeps l G a e4) (cwV 0 hts (TB_V TB_id tw_631 tw_633 tw_9 tw_54 tw_634) rfl rfl rfl (by decide +kernel) ⟨Nat.le_of_ble_eq_true rfl, Nat.le_of_ble_eq_true rfl⟩) hK (hP.sub [0, 1, 2, 3, 4, 5, 6, 7, 8] rfl) (hD.sub [0, 1, 2, 3, 4, 5, 6, 7, 8] (by decide) rfl) 0 rfl rfl rfl hl.1 rfl (Nat.le_of_ble_eq_true rfl) dX6_begin_13) rfl hP hD hS hA [0, 1, 2, 3, 4, 5, 6, 7, 8] rfl rfl (fun H locs hP hD hS => ?_)
    have hP : va_P G.1 vwCl [((a 0), .inr (5, [.ref (a 1), .ref (a 2), .ref (a 3), .ref (a 4), .int r3.2.2.2.2.1, .ref (a 5), .int r3.2.2.2.2.2.2.1, .int r3.2.2.2.2.2.2.2.1, .int r3.2.2.2.2.2.2.2.2.1, .ref (a 6), .ref (a 7), .ref (a 8)])), ((a 1), .inl (G.2.1, 411, .inl r3.1)), ((a 2), .inl (G.2.1, 1644, .inl r3.2.1)), ((a 3), .inl (G.2.1, 411, .inl r3.2.2.1)), ((a 4), .inl (G.2.1, 411, .inl r3.2.2.2.1)), ((a 5), .inl (G.2.2.1, 60, .inl r3.2.2.2.2.2.1)), ((a 6), .inl (G.2.1, 4, .inl r3.2.2.2.2.2.2.2.2.2.1)), ((a 7), .inl (G.2.1, 4, .inl r3.2.2.2.2.2.2.2.2.2.2.1)), ((a 8), .inl (G.2.1, 4, .inl r3.2.2.2.2.2.2.2.2.2.2.2))] H := hP
    have hD : va_D (va_A (modW G a ss was beg asi sta txt typ att rea got row oth) s.heap.size) [((a 0), .inr (5, [.ref (a 1), .ref (a 2), .ref (a 3), .ref (a 4), .int r3.2.2.2.2.1, .ref (a 5), .int r3.2.2.2.2.2.2.1, .int r3.2.2.2.2.2.2.2.1, .int r3.2.2.2.2.2.2.2.2.1, .ref (a 6), .ref (a 7), .ref (a 8)])), ((a 1), .inl (G.2.1, 411, .inl r3.1)), ((a 2), .inl (G.2.1, 1644, .inl r3.2.1)), ((a 3), .inl (G.2.1, 411, .inl r3.2.2.1)), ((a 4), .inl (G.2.1, 411, .inl r3.2.2.2.1)), ((a 5), .inl (G.2.2.1, 60, .inl r3.2.2.2.2.2.1)), ((a 6), .inl (G.2.1, 4, .inl r3.2.2.2.2.2.2.2.2.2.1)), ((a 7), .inl (G.2.1, 4, .inl r3.2.2.2.2.2.2.2.2.2.2.1)), ((a 8), .inl (G.2.1, 4, .inl r3.2.2.2.2.2.2.2.2.2.2.2))] := hD
    refine lv_aload_n hx hb dX6_begin_16 rfl (lv_at hl 0 rfl) ?_
    refine va_get (D := G.1) (ci := 5) (v := .ref (a 1)) (C := RX6) (T := TX6) (N := 12) hx hb hts hX6 hown hK.1 hP 0 rfl rfl 0 (by decide) (hts _ tw_588) (fun _ h9 => h9) rfl dX6_begin_17 ?_
    refine lv_iconst (v := (0 : Int32)) hx hb dX6_begin_20 (by decide) ?_
    refine lv_iconst (v := (1 : Int32)) hx hb dX6_begin_21 (by decide) ?_
    obtain ⟨g5, hf⟩ := g_gdS hf
    refine va_iast hx hb hK.1 hP hD hS 1 0 rfl rfl (g_in_vp g5) dX6_begin_22 (fun H locs hP hD hS => ?_)
    have hP : va_P G.1 vwCl [((a 0), .inr (5, [.ref (a 1), .ref (a 2), .ref (a 3), .ref (a 4), .int r3.2.2.2.2.1, .ref (a 5), .int r3.2.2.2.2.2.2.1, .int r3.2.2.2.2.2.2.2.1, .int r3.2.2.2.2.2.2.2.2.1, .ref (a 6), .ref (a 7), .ref (a 8)])), ((a 1), .inl (G.2.1, 411, .inl (upd r3.1 (0 : Int32).toNatClampNeg (1 : Int32)))), ((a 2), .inl (G.2.1, 1644, .inl r3.2.1)), ((a 3), .inl (G.2.1, 411, .inl r3.2.2.1)), ((a 4), .inl (G.2.1, 411, .inl r3.2.2.2.1)), ((a 5), .inl (G.2.2.1, 60, .inl r3.2.2.2.2.2.1)), ((a 6), .inl (G.2.1, 4, .inl r3.2.2.2.2.2.2.2.2.2.1)), ((a 7), .inl (G.2.1, 4, .inl r3.2.2.2.2.2.2.2.2.2.2.1)), ((a 8), .inl (G.2.1, 4, .inl r3.2.2.2.2.2.2.2.2.2.2.2))] H := hP
    have hD : va_D (va_A (modW G a ss was beg asi sta txt typ att rea got row oth) s.heap.size) [((a 0), .inr (5, [.ref (a 1), .ref (a 2), .ref (a 3), .ref (a 4), .int r3.2.2.2.2.1, .ref (a 5), .int r3.2.2.2.2.2.2.1, .int r3.2.2.2.2.2.2.2.1, .int r3.2.2.2.2.2.2.2.2.1, .ref (a 6), .ref (a 7), .ref (a 8)])), ((a 1), .inl (G.2.1, 411, .inl (upd r3.1 (0 : Int32).toNatClampNeg (1 : Int32)))), ((a 2), .inl (G.2.1, 1644, .inl r3.2.1)), ((a 3), .inl (G.2.1, 411, .inl r3.2.2.1)), ((a 4), .inl (G.2.1, 411, .inl r3.2.2.2.1)), ((a 5), .inl (G.2.2.1, 60, .inl r3.2.2.2.2.2.1)), ((a 6), .inl (G.2.1, 4, .inl r3.2.2.2.2.2.2.2.2.2.1)), ((a 7), .inl (G.2.1, 4, .inl r3.2.2.2.2.2.2.2.2.2.2.1)), ((a 8), .inl (G.2.1, 4, .inl r3.2.2.2.2.2.2.2.2.2.2.2))] := hD
    refine lv_aload_n hx hb dX6_begin_23 rfl (lv_at hl 0 rfl) ?_
    refine va_get (D := G.1) (ci := 5) (v := .ref (a 1)) (C := RX6) (T := TX6) (N := 12) hx hb hts hX6 hown hK.1 hP 0 rfl rfl 0 (by decide) (hts _ tw_588) (fun _ h9 => h9) rfl dX6_begin_24 ?_
    refine lv_iconst (v := (2 : Int32)) hx hb dX6_begin_27 (by decide) ?_
    refine lv_iconst (v := (0 : Int32)) hx hb dX6_begin_28 (by decide) ?_
    obtain ⟨g6, hf⟩ := g_gdS hf
    refine va_iast hx hb hK.1 hP hD hS 1 0 rfl rfl (g_in_vp g6) dX6_begin_29 (fun H locs hP hD hS => ?_)
    have hP : va_P G.1 vwCl [((a 0), .inr (5, [.ref (a 1), .ref (a 2), .ref (a 3), .ref (a 4), .int r3.2.2.2.2.1, .ref (a 5), .int r3.2.2.2.2.2.2.1, .int r3.2.2.2.2.2.2.2.1, .int r3.2.2.2.2.2.2.2.2.1, .ref (a 6), .ref (a 7), .ref (a 8)])), ((a 1), .inl (G.2.1, 411, .inl (upd (upd r3.1 (0 : Int32).toNatClampNeg (1 : Int32)) (2 : Int32).toNatClampNeg (0 : Int32)))), ((a 2), .inl (G.2.1, 1644, .inl r3.2.1)), ((a 3), .inl (G.2.1, 411, .inl r3.2.2.1)), ((a 4), .inl (G.2.1, 411, .inl r3.2.2.2.1)), ((a 5), .inl (G.2.2.1, 60, .inl r3.2.2.2.2.2.1)), ((a 6), .inl (G.2.1, 4, .inl r3.2.2.2.2.2.2.2.2.2.1)), ((a 7), .inl (G.2.1, 4, .inl r3.2.2.2.2.2.2.2.2.2.2.1)), ((a 8), .inl (G.2.1, 4, .inl r3.2.2.2.2.2.2.2.2.2.2.2))] H := hP
    have hD : va_D (va_A (modW G a ss was beg asi sta txt typ att rea got row oth) s.heap.size) [((a 0), .inr (5, [.ref (a 1), .ref (a 2), .ref (a 3), .ref (a 4), .int r3.2.2.2.2.1, .ref (a 5), .int r3.2.2.2.2.2.2.1, .int r3.2.2.2.2.2.2.2.1, .int r3.2.2.2.2.2.2.2.2.1, .ref (a 6), .ref (a 7), .ref (a 8)])), ((a 1), .inl (G.2.1, 411, .inl (upd (upd r3.1 (0 : Int32).toNatClampNeg (1 : Int32)) (2 : Int32).toNatClampNeg (0 : Int32)))), ((a 2), .inl (G.2.1, 1644, .inl r3.2.1)), ((a 3), .inl (G.2.1, 411, .inl r3.2.2.1)), ((a 4), .inl (G.2.1, 411, .inl r3.2.2.2.1)), ((a 5), .inl (G.2.2.1, 60, .inl r3.2.2.2.2.2.1)), ((a 6), .inl (G.2.1, 4, .inl r3.2.2.2.2.2.2.2.2.2.1)), ((a 7), .inl (G.2.1, 4, .inl r3.2.2.2.2.2.2.2.2.2.2.1)), ((a 8), .inl (G.2.1, 4, .inl r3.2.2.2.2.2.2.2.2.2.2.2))] := hD
    refine lv_aload_n hx hb dX6_begin_30 rfl (lv_at hl 0 rfl) ?_
    refine lv_iconst (v := (1 : Int32)) hx hb dX6_begin_31 (by decide) ?_
    obtain ⟨r7, e8, hf⟩ := g_bdS hf
    refine g_contC (st1 := []) (g_runVC (As := [.int (1 : Int32)]) (rest := []) ⟨hx, hb, hml, hown, hts⟩ (qX6_clears l G a e8) (cwV 1 hts (TB_V TB_id tw_635 tw_637 tw_10 tw_54 tw_638) rfl rfl rfl (by decide +kernel) ⟨Nat.le_of_ble_eq_true rfl, Nat.le_of_ble_eq_true rfl⟩) hK (hP.sub [0, 1, 2, 3, 4, 5, 6, 7, 8] rfl) (hD.sub [0, 1, 2, 3, 4, 5, 6, 7, 8] (by decide) rfl) 0 rfl rfl rfl hl.1 rfl (Nat.le_of_ble_eq_true rfl) dX6_begin_32) rfl hP hD hS hA [0, 1, 2, 3, 4, 5, 6, 7, 8] rfl rfl (fun H locs hP hD hS => ?_)
    have hP : va_P G.1 vwCl [((a 0), .inr (5, [.ref (a 1), .ref (a 2), .ref (a 3), .ref (a 4), .int r7.2.2.2.2.1, .ref (a 5), .int r7.2.2.2.2.2.2.1, .int r7.2.2.2.2.2.2.2.1, .int r7.2.2.2.2.2.2.2.2.1, .ref (a 6), .ref (a 7), .ref (a 8)])), ((a 1), .inl (G.2.1, 411, .inl r7.1)), ((a 2), .inl (G.2.1, 1644, .inl r7.2.1)), ((a 3), .inl (G.2.1, 411, .inl r7.2.2.1)), ((a 4), .inl (G.2.1, 411, .inl r7.2.2.2.1)), ((a 5), .inl (G.2.2.1, 60, .inl r7.2.2.2.2.2.1)), ((a 6), .inl (G.2.1, 4, .inl r7.2.2.2.2.2.2.2.2.2.1)), ((a 7), .inl (G.2.1, 4, .inl r7.2.2.2.2.2.2.2.2.2.2.1)), ((a 8), .inl (G.2.1, 4, .inl r7.2.2.2.2.2.2.2.2.2.2.2))] H := hP
    have hD : va_D (va_A (modW G a ss was beg asi sta txt typ att rea got row oth) s.heap.size) [((a 0), .inr (5, [.ref (a 1), .ref (a 2), .ref (a 3), .ref (a 4), .int r7.2.2.2.2.1, .ref (a 5), .int r7.2.2.2.2.2.2.1, .int r7.2.2.2.2.2.2.2.1, .int r7.2.2.2.2.2.2.2.2.1, .ref (a 6), .ref (a 7), .ref (a 8)])), ((a 1), .inl (G.2.1, 411, .inl r7.1)), ((a 2), .inl (G.2.1, 1644, .inl r7.2.1)), ((a 3), .inl (G.2.1, 411, .inl r7.2.2.1)), ((a 4), .inl (G.2.1, 411, .inl r7.2.2.2.1)), ((a 5), .inl (G.2.2.1, 60, .inl r7.2.2.2.2.2.1)), ((a 6), .inl (G.2.1, 4, .inl r7.2.2.2.2.2.2.2.2.2.1)), ((a 7), .inl (G.2.1, 4, .inl r7.2.2.2.2.2.2.2.2.2.2.1)), ((a 8), .inl (G.2.1, 4, .inl r7.2.2.2.2.2.2.2.2.2.2.2))] := hD
    refine lv_aload_n hx hb dX6_begin_35 rfl (lv_at hl 0 rfl) ?_
    refine lv_aload_n hx hb dX6_begin_36 rfl (lv_at hl 0 rfl) ?_
    refine lv_iconst (v := (0 : Int32)) hx hb dX6_begin_37 (by decide) ?_
    obtain ⟨r9, e10, hf⟩ := g_bdS hf
    refine g_contR (st1 := [.int r9, .ref (a 0)]) (g_runVR (As := [.int (0 : Int32)]) (rest := [.ref (a 0)]) ⟨hx, hb, hml, hown, hts⟩ (qX6_rows l G a e10) (cwV 1 hts (TB_V TB_id tw_639 tw_641 tw_11 tw_54 tw_642) rfl rfl rfl (by decide +kernel) ⟨Nat.le_of_ble_eq_true rfl, Nat.le_of_ble_eq_true rfl⟩) hK (hP.sub [0, 1, 2, 3, 4, 5, 6, 7, 8] rfl) 0 rfl rfl rfl hl.1 rfl (Nat.le_of_ble_eq_true rfl) dX6_begin_38) rfl ?_
    obtain ⟨r11, e12, hf⟩ := g_bdS hf
    refine g_contC (st1 := [.int r11.1]) (g_runVC (As := [.int r9]) (rest := []) ⟨hx, hb, hml, hown, hts⟩ (qX6_acted l G a e12) (cwV 1 hts (TB_V TB_id tw_650 tw_652 tw_13 tw_54 tw_653) rfl rfl rfl (by decide +kernel) ⟨Nat.le_of_ble_eq_true rfl, Nat.le_of_ble_eq_true rfl⟩) hK (hP.sub [0, 1, 2, 3, 4, 5, 6, 7, 8] rfl) (hD.sub [0, 1, 2, 3, 4, 5, 6, 7, 8] (by decide) rfl) 0 rfl rfl rfl hl.1 rfl (Nat.le_of_ble_eq_true rfl) dX6_begin_41) rfl hP hD hS hA [0, 1, 2, 3, 4, 5, 6, 7, 8] rfl rfl (fun H locs hP hD hS => ?_)
    have hP : va_P G.1 vwCl [((a 0), .inr (5, [.ref (a 1), .ref (a 2), .ref (a 3), .ref (a 4), .int r11.2.2.2.2.2.1, .ref (a 5), .int r11.2.2.2.2.2.2.2.1, .int r11.2.2.2.2.2.2.2.2.1, .int r11.2.2.2.2.2.2.2.2.2.1, .ref (a 6), .ref (a 7), .ref (a 8)])), ((a 1), .inl (G.2.1, 411, .inl r11.2.1)), ((a 2), .inl (G.2.1, 1644, .inl r11.2.2.1)), ((a 3), .inl (G.2.1, 411, .inl r11.2.2.2.1)), ((a 4), .inl (G.2.1, 411, .inl r11.2.2.2.2.1)), ((a 5), .inl (G.2.2.1, 60, .inl r11.2.2.2.2.2.2.1)), ((a 6), .inl (G.2.1, 4, .inl r11.2.2.2.2.2.2.2.2.2.2.1)), ((a 7), .inl (G.2.1, 4, .inl r11.2.2.2.2.2.2.2.2.2.2.2.1)), ((a 8), .inl (G.2.1, 4, .inl r11.2.2.2.2.2.2.2.2.2.2.2.2))] H := hP
    have hD : va_D (va_A (modW G a ss was beg asi sta txt typ att rea got row oth) s.heap.size) [((a 0), .inr (5, [.ref (a 1), .ref (a 2), .ref (a 3), .ref (a 4), .int r11.2.2.2.2.2.1, .ref (a 5), .int r11.2.2.2.2.2.2.2.1, .int r11.2.2.2.2.2.2.2.2.1, .int r11.2.2.2.2.2.2.2.2.2.1, .ref (a 6), .ref (a 7), .ref (a 8)])), ((a 1), .inl (G.2.1, 411, .inl r11.2.1)), ((a 2), .inl (G.2.1, 1644, .inl r11.2.2.1)), ((a 3), .inl (G.2.1, 411, .inl r11.2.2.2.1)), ((a 4), .inl (G.2.1, 411, .inl r11.2.2.2.2.1)), ((a 5), .inl (G.2.2.1, 60, .inl r11.2.2.2.2.2.2.1)), ((a 6), .inl (G.2.1, 4, .inl r11.2.2.2.2.2.2.2.2.2.2.1)), ((a 7), .inl (G.2.1, 4, .inl r11.2.2.2.2.2.2.2.2.2.2.2.1)), ((a 8), .inl (G.2.1, 4, .inl r11.2.2.2.2.2.2.2.2.2.2.2.2))] := hD
    cases hf
    exact g_iretC hx hb hr hlocks hP hD hS dX6_begin_44
  · have hf := g_ifF c2 hf
    refine lv_ldc (v := (-1000002 : Int32)) hx hb hown (hts _ tw_630) dX6_begin_9 ?_
    cases hf
    exact g_iretC hx hb hr hlocks hP hD hS dX6_begin_11
-- TwoShapesModel.turns()I
abbrev rmX6_turns : Room := { frames := 6, cells := 0, slots := 0, locals := 132 }
def fX6_turns (ss : Nat → Int32) (was : Nat → Int32) (beg : Nat → Int32) (asi : Nat → Int32) (sta : Int32) (txt : Nat → Int32) (typ : Int32) (att : Int32) (rea : Int32) (got : Nat → Int32) (row : Nat → Int32) (oth : Nat → Int32) : Option (Int32 × (Nat → Int32) × (Nat → Int32) × (Nat → Int32) × (Nat → Int32) × Int32 × (Nat → Int32) × Int32 × Int32 × Int32 × (Nat → Int32) × (Nat → Int32) × (Nat → Int32)) := ((fX6_isReady ss was beg asi sta txt typ att rea got row oth).bind fun r1 => (if r1.1 = (0 : Int32) then some ((-1000002 : Int32), r1.2.1, r1.2.2.1, r1.2.2.2.1, r1.2.2.2.2.1, r1.2.2.2.2.2.1, r1.2.2.2.2.2.2.1, r1.2.2.2.2.2.2.2.1, r1.2.2.2.2.2.2.2.2.1, r1.2.2.2.2.2.2.2.2.2.1, r1.2.2.2.2.2.2.2.2.2.2.1, r1.2.2.2.2.2.2.2.2.2.2.2.1, r1.2.2.2.2.2.2.2.2.2.2.2.2) else g_gd (g_in (0 : Int32) 411) (((fX6_rows (1 : Int32) (upd r1.2.1 (0 : Int32).toNatClampNeg (2 : Int32)) r1.2.2.1 r1.2.2.2.1 r1.2.2.2.2.1 r1.2.2.2.2.2.1 r1.2.2.2.2.2.2.1 r1.2.2.2.2.2.2.2.1 r1.2.2.2.2.2.2.2.2.1 r1.2.2.2.2.2.2.2.2.2.1 r1.2.2.2.2.2.2.2.2.2.2.1 r1.2.2.2.2.2.2.2.2.2.2.2.1 r1.2.2.2.2.2.2.2.2.2.2.2.2).bind fun r5 => some (r5, (upd r1.2.1 (0 : Int32).toNatClampNeg (2 : Int32)), r1.2.2.1, r1.2.2.2.1, r1.2.2.2.2.1, r1.2.2.2.2.2.1, r1.2.2.2.2.2.2.1, r1.2.2.2.2.2.2.2.1, r1.2.2.2.2.2.2.2.2.1, r1.2.2.2.2.2.2.2.2.2.1, r1.2.2.2.2.2.2.2.2.2.2.1, r1.2.2.2.2.2.2.2.2.2.2.2.1, r1.2.2.2.2.2.2.2.2.2.2.2.2)))))
set_option maxHeartbeats 4000000 in
set_option maxRecDepth 100000 in
theorem qX6_turns (l : Launch) (G : gT) (a : Nat → Nat) {ss : Nat → Int32} {was : Nat → Int32} {beg : Nat → Int32} {asi : Nat → Int32} {sta : Int32} {txt : Nat → Int32} {typ : Int32} {att : Int32} {rea : Int32} {got : Nat → Int32} {row : Nat → Int32} {oth : Nat → Int32} {u : Int32 × (Nat → Int32) × (Nat → Int32) × (Nat → Int32) × (Nat → Int32) × Int32 × (Nat → Int32) × Int32 × Int32 × Int32 × (Nat → Int32) × (Nat → Int32) × (Nat → Int32)} (hf : fX6_turns ss was beg asi sta txt typ att rea got row oth = some u) : gC l G yX6_turns wsX6_turns rmX6_turns [.ref (a 0)] (modW G a ss was beg asi sta txt typ att rea got row oth) (some (.int u.1)) (modW G a u.2.1 u.2.2.1 u.2.2.2.1 u.2.2.2.2.1 u.2.2.2.2.2.1 u.2.2.2.2.2.2.1 u.2.2.2.2.2.2.2.1 u.2.2.2.2.2.2.2.2.1 u.2.2.2.2.2.2.2.2.2.1 u.2.2.2.2.2.2.2.2.2.2.1 u.2.2.2.2.2.2.2.2.2.2.2.1 u.2.2.2.2.2.2.2.2.2.2.2.2) := by
  refine gC.of (cc := cX6_turns) (maxL := 1) (ret := (some .int)) (by decide) rfl (Nat.le_of_ble_eq_true rfl) ?_
  intro p e s m below meth c C0 hP hD hS ls hl
  obtain ⟨hx, hb, hr, hts, hown, hlocks, hml, hK⟩ := id C0
  have hl : lv_has ls 1 [(0, .ref (a 0))] := hl
  have hA : ∀ q : Nat, s.heap.size ≤ q → va_A (modW G a ss was beg asi sta txt typ att rea got row oth) s.heap.size q := fun q h => Or.inr h
  have hP : va_P G.1 vwCl [((a 0), .inr (5, [.ref (a 1), .ref (a 2), .ref (a 3), .ref (a 4), .int sta, .ref (a 5), .int typ, .int att, .int rea, .ref (a 6), .ref (a 7), .ref (a 8)])), ((a 1), .inl (G.2.1, 411, .inl ss)), ((a 2), .inl (G.2.1, 1644, .inl was)), ((a 3), .inl (G.2.1, 411, .inl beg)), ((a 4), .inl (G.2.1, 411, .inl asi)), ((a 5), .inl (G.2.2.1, 60, .inl txt)), ((a 6), .inl (G.2.1, 4, .inl got)), ((a 7), .inl (G.2.1, 4, .inl row)), ((a 8), .inl (G.2.1, 4, .inl oth))] s.heap := hP
  have hD : va_D (va_A (modW G a ss was beg asi sta txt typ att rea got row oth) s.heap.size) [((a 0), .inr (5, [.ref (a 1), .ref (a 2), .ref (a 3), .ref (a 4), .int sta, .ref (a 5), .int typ, .int att, .int rea, .ref (a 6), .ref (a 7), .ref (a 8)])), ((a 1), .inl (G.2.1, 411, .inl ss)), ((a 2), .inl (G.2.1, 1644, .inl was)), ((a 3), .inl (G.2.1, 411, .inl beg)), ((a 4), .inl (G.2.1, 411, .inl asi)), ((a 5), .inl (G.2.2.1, 60, .inl txt)), ((a 6), .inl (G.2.1, 4, .inl got)), ((a 7), .inl (G.2.1, 4, .inl row)), ((a 8), .inl (G.2.1, 4, .inl oth))] := hD
  unfold fX6_turns at hf
  refine lv_aload_n hx hb dX6_turns_0 rfl (lv_at hl 0 rfl) ?_
  obtain ⟨r1, e2, hf⟩ := g_bdS hf
  refine g_contC (st1 := [.int r1.1]) (g_runVC (As := []) (rest := []) ⟨hx, hb, hml, hown, hts⟩ (qX6_isReady l G a e2) (cwV 0 hts (TB_V TB_id tw_663 tw_665 tw_15 tw_54 tw_666) rfl rfl rfl (by decide +kernel) ⟨Nat.le_of_ble_eq_true rfl, Nat.le_of_ble_eq_true rfl⟩) hK (hP.sub [0, 1, 2, 3, 4, 5, 6, 7, 8] rfl) (hD.sub [0, 1, 2, 3, 4, 5, 6, 7, 8] (by decide) rfl) 0 rfl rfl rfl hl.1 rfl (Nat.le_of_ble_eq_true rfl) dX6_turns_1) rfl hP hD hS hA [0, 1, 2, 3, 4, 5, 6, 7, 8] rfl rfl (fun H locs hP hD hS => ?_)
  have hP : va_P G.1 vwCl [((a 0), .inr (5, [.ref (a 1), .ref (a 2), .ref (a 3), .ref (a 4), .int r1.2.2.2.2.2.1, .ref (a 5), .int r1.2.2.2.2.2.2.2.1, .int r1.2.2.2.2.2.2.2.2.1, .int r1.2.2.2.2.2.2.2.2.2.1, .ref (a 6), .ref (a 7), .ref (a 8)])), ((a 1), .inl (G.2.1, 411, .inl r1.2.1)), ((a 2), .inl (G.2.1, 1644, .inl r1.2.2.1)), ((a 3), .inl (G.2.1, 411, .inl r1.2.2.2.1)), ((a 4), .inl (G.2.1, 411, .inl r1.2.2.2.2.1)), ((a 5), .inl (G.2.2.1, 60, .inl r1.2.2.2.2.2.2.1)), ((a 6), .inl (G.2.1, 4, .inl r1.2.2.2.2.2.2.2.2.2.2.1)), ((a 7), .inl (G.2.1, 4, .inl r1.2.2.2.2.2.2.2.2.2.2.2.1)), ((a 8), .inl (G.2.1, 4, .inl r1.2.2.2.2.2.2.2.2.2.2.2.2))] H := hP
  have hD : va_D (va_A (modW G a ss was beg asi sta txt typ att rea got row oth) s.heap.size) [((a 0), .inr (5, [.ref (a 1), .ref (a 2), .ref (a 3), .ref (a 4), .int r1.2.2.2.2.2.1, .ref (a 5), .int r1.2.2.2.2.2.2.2.1, .int r1.2.2.2.2.2.2.2.2.1, .int r1.2.2.2.2.2.2.2.2.2.1, .ref (a 6), .ref (a 7), .ref (a 8)])), ((a 1), .inl (G.2.1, 411, .inl r1.2.1)), ((a 2), .inl (G.2.1, 1644, .inl r1.2.2.1)), ((a 3), .inl (G.2.1, 411, .inl r1.2.2.2.1)), ((a 4), .inl (G.2.1, 411, .inl r1.2.2.2.2.1)), ((a 5), .inl (G.2.2.1, 60, .inl r1.2.2.2.2.2.2.1)), ((a 6), .inl (G.2.1, 4, .inl r1.2.2.2.2.2.2.2.2.2.2.1)), ((a 7), .inl (G.2.1, 4, .inl r1.2.2.2.2.2.2.2.2.2.2.2.1)), ((a 8), .inl (G.2.1, 4, .inl r1.2.2.2.2.2.2.2.2.2.2.2.2))] := hD
  refine lv_if_ne (tgt := 10) hx hb dX6_turns_4 (by decide) (fun c3 => ?_) (fun c3 => ?_)
  · have hf := g_ifF c3 hf
    refine lv_aload_n hx hb dX6_turns_10 rfl (lv_at hl 0 rfl) ?_
    refine va_get (D := G.1) (ci := 5) (v := .ref (a 1)) (C := RX6) (T := TX6) (N := 12) hx hb hts hX6 hown hK.1 hP 0 rfl rfl 0 (by decide) (hts _ tw_588) (fun _ h9 => h9) rfl dX6_turns_11 ?_
    refine lv_iconst (v := (0 : Int32)) hx hb dX6_turns_14 (by decide) ?_
    refine lv_iconst (v := (2 : Int32)) hx hb dX6_turns_15 (by decide) ?_
    obtain ⟨g4, hf⟩ := g_gdS hf
    refine va_iast hx hb hK.1 hP hD hS 1 0 rfl rfl (g_in_vp g4) dX6_turns_16 (fun H locs hP hD hS => ?_)
    have hP : va_P G.1 vwCl [((a 0), .inr (5, [.ref (a 1), .ref (a 2), .ref (a 3), .ref (a 4), .int r1.2.2.2.2.2.1, .ref (a 5), .int r1.2.2.2.2.2.2.2.1, .int r1.2.2.2.2.2.2.2.2.1, .int r1.2.2.2.2.2.2.2.2.2.1, .ref (a 6), .ref (a 7), .ref (a 8)])), ((a 1), .inl (G.2.1, 411, .inl (upd r1.2.1 (0 : Int32).toNatClampNeg (2 : Int32)))), ((a 2), .inl (G.2.1, 1644, .inl r1.2.2.1)), ((a 3), .inl (G.2.1, 411, .inl r1.2.2.2.1)), ((a 4), .inl (G.2.1, 411, .inl r1.2.2.2.2.1)), ((a 5), .inl (G.2.2.1, 60, .inl r1.2.2.2.2.2.2.1)), ((a 6), .inl (G.2.1, 4, .inl r1.2.2.2.2.2.2.2.2.2.2.1)), ((a 7), .inl (G.2.1, 4, .inl r1.2.2.2.2.2.2.2.2.2.2.2.1)), ((a 8), .inl (G.2.1, 4, .inl r1.2.2.2.2.2.2.2.2.2.2.2.2))] H := hP
    have hD : va_D (va_A (modW G a ss was beg asi sta txt typ att rea got row oth) s.heap.size) [((a 0), .inr (5, [.ref (a 1), .ref (a 2), .ref (a 3), .ref (a 4), .int r1.2.2.2.2.2.1, .ref (a 5), .int r1.2.2.2.2.2.2.2.1, .int r1.2.2.2.2.2.2.2.2.1, .int r1.2.2.2.2.2.2.2.2.2.1, .ref (a 6), .ref (a 7), .ref (a 8)])), ((a 1), .inl (G.2.1, 411, .inl (upd r1.2.1 (0 : Int32).toNatClampNeg (2 : Int32)))), ((a 2), .inl (G.2.1, 1644, .inl r1.2.2.1)), ((a 3), .inl (G.2.1, 411, .inl r1.2.2.2.1)), ((a 4), .inl (G.2.1, 411, .inl r1.2.2.2.2.1)), ((a 5), .inl (G.2.2.1, 60, .inl r1.2.2.2.2.2.2.1)), ((a 6), .inl (G.2.1, 4, .inl r1.2.2.2.2.2.2.2.2.2.2.1)), ((a 7), .inl (G.2.1, 4, .inl r1.2.2.2.2.2.2.2.2.2.2.2.1)), ((a 8), .inl (G.2.1, 4, .inl r1.2.2.2.2.2.2.2.2.2.2.2.2))] := hD
    refine lv_aload_n hx hb dX6_turns_17 rfl (lv_at hl 0 rfl) ?_
    refine lv_iconst (v := (1 : Int32)) hx hb dX6_turns_18 (by decide) ?_
    obtain ⟨r5, e6, hf⟩ := g_bdS hf
    refine g_contR (st1 := [.int r5]) (g_runVR (As := [.int (1 : Int32)]) (rest := []) ⟨hx, hb, hml, hown, hts⟩ (qX6_rows l G a e6) (cwV 1 hts (TB_V TB_id tw_639 tw_641 tw_11 tw_54 tw_642) rfl rfl rfl (by decide +kernel) ⟨Nat.le_of_ble_eq_true rfl, Nat.le_of_ble_eq_true rfl⟩) hK (hP.sub [0, 1, 2, 3, 4, 5, 6, 7, 8] rfl) 0 rfl rfl rfl hl.1 rfl (Nat.le_of_ble_eq_true rfl) dX6_turns_19) rfl ?_
    cases hf
    exact g_iretC hx hb hr hlocks hP hD hS dX6_turns_22
  · have hf := g_ifT c3 hf
    refine lv_ldc (v := (-1000002 : Int32)) hx hb hown (hts _ tw_630) dX6_turns_7 ?_
    cases hf
    exact g_iretC hx hb hr hlocks hP hD hS dX6_turns_9
-- TwoShapesModel.turn()I
abbrev rmX6_turn : Room := { frames := 7, cells := 0, slots := 0, locals := 152 }
def fX6_turn (ss : Nat → Int32) (was : Nat → Int32) (beg : Nat → Int32) (asi : Nat → Int32) (sta : Int32) (txt : Nat → Int32) (typ : Int32) (att : Int32) (rea : Int32) (got : Nat → Int32) (row : Nat → Int32) (oth : Nat → Int32) : Option (Int32 × (Nat → Int32) × (Nat → Int32) × (Nat → Int32) × (Nat → Int32) × Int32 × (Nat → Int32) × Int32 × Int32 × Int32 × (Nat → Int32) × (Nat → Int32) × (Nat → Int32)) := ((fX6_keeps ss was beg asi sta txt typ att rea got row oth).bind fun r1 => ((fX6_turns r1.1 r1.2.1 r1.2.2.1 r1.2.2.2.1 r1.2.2.2.2.1 r1.2.2.2.2.2.1 r1.2.2.2.2.2.2.1 r1.2.2.2.2.2.2.2.1 r1.2.2.2.2.2.2.2.2.1 r1.2.2.2.2.2.2.2.2.2.1 r1.2.2.2.2.2.2.2.2.2.2.1 r1.2.2.2.2.2.2.2.2.2.2.2).bind fun r3 => ((fX6_acted r3.1 r3.2.1 r3.2.2.1 r3.2.2.2.1 r3.2.2.2.2.1 r3.2.2.2.2.2.1 r3.2.2.2.2.2.2.1 r3.2.2.2.2.2.2.2.1 r3.2.2.2.2.2.2.2.2.1 r3.2.2.2.2.2.2.2.2.2.1 r3.2.2.2.2.2.2.2.2.2.2.1 r3.2.2.2.2.2.2.2.2.2.2.2.1 r3.2.2.2.2.2.2.2.2.2.2.2.2).bind fun r5 => some (r5.1, r5.2.1, r5.2.2.1, r5.2.2.2.1, r5.2.2.2.2.1, r5.2.2.2.2.2.1, r5.2.2.2.2.2.2.1, r5.2.2.2.2.2.2.2.1, r5.2.2.2.2.2.2.2.2.1, r5.2.2.2.2.2.2.2.2.2.1, r5.2.2.2.2.2.2.2.2.2.2.1, r5.2.2.2.2.2.2.2.2.2.2.2.1, r5.2.2.2.2.2.2.2.2.2.2.2.2))))
set_option maxHeartbeats 4000000 in
set_option maxRecDepth 100000 in
theorem qX6_turn (l : Launch) (G : gT) (a : Nat → Nat) {ss : Nat → Int32} {was : Nat → Int32} {beg : Nat → Int32} {asi : Nat → Int32} {sta : Int32} {txt : Nat → Int32} {typ : Int32} {att : Int32} {rea : Int32} {got : Nat → Int32} {row : Nat → Int32} {oth : Nat → Int32} {u : Int32 × (Nat → Int32) × (Nat → Int32) × (Nat → Int32) × (Nat → Int32) × Int32 × (Nat → Int32) × Int32 × Int32 × Int32 × (Nat → Int32) × (Nat → Int32) × (Nat → Int32)} (hf : fX6_turn ss was beg asi sta txt typ att rea got row oth = some u) : gC l G yX6_turn wsX6_turn rmX6_turn [.ref (a 0)] (modW G a ss was beg asi sta txt typ att rea got row oth) (some (.int u.1)) (modW G a u.2.1 u.2.2.1 u.2.2.2.1 u.2.2.2.2.1 u.2.2.2.2.2.1 u.2.2.2.2.2.2.1 u.2.2.2.2.2.2.2.1 u.2.2.2.2.2.2.2.2.1 u.2.2.2.2.2.2.2.2.2.1 u.2.2.2.2.2.2.2.2.2.2.1 u.2.2.2.2.2.2.2.2.2.2.2.1 u.2.2.2.2.2.2.2.2.2.2.2.2) := by
  refine gC.of (cc := cX6_turn) (maxL := 1) (ret := (some .int)) (by decide) rfl (Nat.le_of_ble_eq_true rfl) ?_
  intro p e s m below meth c C0 hP hD hS ls hl
  obtain ⟨hx, hb, hr, hts, hown, hlocks, hml, hK⟩ := id C0
  have hl : lv_has ls 1 [(0, .ref (a 0))] := hl
  have hA : ∀ q : Nat, s.heap.size ≤ q → va_A (modW G a ss was beg asi sta txt typ att rea got row oth) s.heap.size q := fun q h => Or.inr h
  have hP : va_P G.1 vwCl [((a 0), .inr (5, [.ref (a 1), .ref (a 2), .ref (a 3), .ref (a 4), .int sta, .ref (a 5), .int typ, .int att, .int rea, .ref (a 6), .ref (a 7), .ref (a 8)])), ((a 1), .inl (G.2.1, 411, .inl ss)), ((a 2), .inl (G.2.1, 1644, .inl was)), ((a 3), .inl (G.2.1, 411, .inl beg)), ((a 4), .inl (G.2.1, 411, .inl asi)), ((a 5), .inl (G.2.2.1, 60, .inl txt)), ((a 6), .inl (G.2.1, 4, .inl got)), ((a 7), .inl (G.2.1, 4, .inl row)), ((a 8), .inl (G.2.1, 4, .inl oth))] s.heap := hP
  have hD : va_D (va_A (modW G a ss was beg asi sta txt typ att rea got row oth) s.heap.size) [((a 0), .inr (5, [.ref (a 1), .ref (a 2), .ref (a 3), .ref (a 4), .int sta, .ref (a 5), .int typ, .int att, .int rea, .ref (a 6), .ref (a 7), .ref (a 8)])), ((a 1), .inl (G.2.1, 411, .inl ss)), ((a 2), .inl (G.2.1, 1644, .inl was)), ((a 3), .inl (G.2.1, 411, .inl beg)), ((a 4), .inl (G.2.1, 411, .inl asi)), ((a 5), .inl (G.2.2.1, 60, .inl txt)), ((a 6), .inl (G.2.1, 4, .inl got)), ((a 7), .inl (G.2.1, 4, .inl row)), ((a 8), .inl (G.2.1, 4, .inl oth))] := hD
  unfold fX6_turn at hf
  refine lv_aload_n hx hb dX6_turn_0 rfl (lv_at hl 0 rfl) ?_
  obtain ⟨r1, e2, hf⟩ := g_bdS hf
  refine g_contC (st1 := []) (g_runVC (As := []) (rest := []) ⟨hx, hb, hml, hown, hts⟩ (qX6_keeps l G a e2) (cwV 0 hts (TB_V TB_id tw_631 tw_633 tw_9 tw_54 tw_634) rfl rfl rfl (by decide +kernel) ⟨Nat.le_of_ble_eq_true rfl, Nat.le_of_ble_eq_true rfl⟩) hK (hP.sub [0, 1, 2, 3, 4, 5, 6, 7, 8] rfl) (hD.sub [0, 1, 2, 3, 4, 5, 6, 7, 8] (by decide) rfl) 0 rfl rfl rfl hl.1 rfl (Nat.le_of_ble_eq_true rfl) dX6_turn_1) rfl hP hD hS hA [0, 1, 2, 3, 4, 5, 6, 7, 8] rfl rfl (fun H locs hP hD hS => ?_)
  have hP : va_P G.1 vwCl [((a 0), .inr (5, [.ref (a 1), .ref (a 2), .ref (a 3), .ref (a 4), .int r1.2.2.2.2.1, .ref (a 5), .int r1.2.2.2.2.2.2.1, .int r1.2.2.2.2.2.2.2.1, .int r1.2.2.2.2.2.2.2.2.1, .ref (a 6), .ref (a 7), .ref (a 8)])), ((a 1), .inl (G.2.1, 411, .inl r1.1)), ((a 2), .inl (G.2.1, 1644, .inl r1.2.1)), ((a 3), .inl (G.2.1, 411, .inl r1.2.2.1)), ((a 4), .inl (G.2.1, 411, .inl r1.2.2.2.1)), ((a 5), .inl (G.2.2.1, 60, .inl r1.2.2.2.2.2.1)), ((a 6), .inl (G.2.1, 4, .inl r1.2.2.2.2.2.2.2.2.2.1)), ((a 7), .inl (G.2.1, 4, .inl r1.2.2.2.2.2.2.2.2.2.2.1)), ((a 8), .inl (G.2.1, 4, .inl r1.2.2.2.2.2.2.2.2.2.2.2))] H := hP
  have hD : va_D (va_A (modW G a ss was beg asi sta txt typ att rea got row oth) s.heap.size) [((a 0), .inr (5, [.ref (a 1), .ref (a 2), .ref (a 3), .ref (a 4), .int r1.2.2.2.2.1, .ref (a 5), .int r1.2.2.2.2.2.2.1, .int r1.2.2.2.2.2.2.2.1, .int r1.2.2.2.2.2.2.2.2.1, .ref (a 6), .ref (a 7), .ref (a 8)])), ((a 1), .inl (G.2.1, 411, .inl r1.1)), ((a 2), .inl (G.2.1, 1644, .inl r1.2.1)), ((a 3), .inl (G.2.1, 411, .inl r1.2.2.1)), ((a 4), .inl (G.2.1, 411, .inl r1.2.2.2.1)), ((a 5), .inl (G.2.2.1, 60, .inl r1.2.2.2.2.2.1)), ((a 6), .inl (G.2.1, 4, .inl r1.2.2.2.2.2.2.2.2.2.1)), ((a 7), .inl (G.2.1, 4, .inl r1.2.2.2.2.2.2.2.2.2.2.1)), ((a 8), .inl (G.2.1, 4, .inl r1.2.2.2.2.2.2.2.2.2.2.2))] := hD
  refine lv_aload_n hx hb dX6_turn_4 rfl (lv_at hl 0 rfl) ?_
  refine lv_aload_n hx hb dX6_turn_5 rfl (lv_at hl 0 rfl) ?_
  obtain ⟨r3, e4, hf⟩ := g_bdS hf
  refine g_contC (st1 := [.int r3.1, .ref (a 0)]) (g_runVC (As := []) (rest := [.ref (a 0)]) ⟨hx, hb, hml, hown, hts⟩ (qX6_turns l G a e4) (cwV 0 hts (TB_V TB_id tw_659 tw_661 tw_14 tw_54 tw_662) rfl rfl rfl (by decide +kernel) ⟨Nat.le_of_ble_eq_true rfl, Nat.le_of_ble_eq_true rfl⟩) hK (hP.sub [0, 1, 2, 3, 4, 5, 6, 7, 8] rfl) (hD.sub [0, 1, 2, 3, 4, 5, 6, 7, 8] (by decide) rfl) 0 rfl rfl rfl hl.1 rfl (Nat.le_of_ble_eq_true rfl) dX6_turn_6) rfl hP hD hS hA [0, 1, 2, 3, 4, 5, 6, 7, 8] rfl rfl (fun H locs hP hD hS => ?_)
  have hP : va_P G.1 vwCl [((a 0), .inr (5, [.ref (a 1), .ref (a 2), .ref (a 3), .ref (a 4), .int r3.2.2.2.2.2.1, .ref (a 5), .int r3.2.2.2.2.2.2.2.1, .int r3.2.2.2.2.2.2.2.2.1, .int r3.2.2.2.2.2.2.2.2.2.1, .ref (a 6), .ref (a 7), .ref (a 8)])), ((a 1), .inl (G.2.1, 411, .inl r3.2.1)), ((a 2), .inl (G.2.1, 1644, .inl r3.2.2.1)), ((a 3), .inl (G.2.1, 411, .inl r3.2.2.2.1)), ((a 4), .inl (G.2.1, 411, .inl r3.2.2.2.2.1)), ((a 5), .inl (G.2.2.1, 60, .inl r3.2.2.2.2.2.2.1)), ((a 6), .inl (G.2.1, 4, .inl r3.2.2.2.2.2.2.2.2.2.2.1)), ((a 7), .inl (G.2.1, 4, .inl r3.2.2.2.2.2.2.2.2.2.2.2.1)), ((a 8), .inl (G.2.1, 4, .inl r3.2.2.2.2.2.2.2.2.2.2.2.2))] H := hP
  have hD : va_D (va_A (modW G a ss was beg asi sta txt typ att rea got row oth) s.heap.size) [((a 0), .inr (5, [.ref (a 1), .ref (a 2), .ref (a 3), .ref (a 4), .int r3.2.2.2.2.2.1, .ref (a 5), .int r3.2.2.2.2.2.2.2.1, .int r3.2.2.2.2.2.2.2.2.1, .int r3.2.2.2.2.2.2.2.2.2.1, .ref (a 6), .ref (a 7), .ref (a 8)])), ((a 1), .inl (G.2.1, 411, .inl r3.2.1)), ((a 2), .inl (G.2.1, 1644, .inl r3.2.2.1)), ((a 3), .inl (G.2.1, 411, .inl r3.2.2.2.1)), ((a 4), .inl (G.2.1, 411, .inl r3.2.2.2.2.1)), ((a 5), .inl (G.2.2.1, 60, .inl r3.2.2.2.2.2.2.1)), ((a 6), .inl (G.2.1, 4, .inl r3.2.2.2.2.2.2.2.2.2.2.1)), ((a 7), .inl (G.2.1, 4, .inl r3.2.2.2.2.2.2.2.2.2.2.2.1)), ((a 8), .inl (G.2.1, 4, .inl r3.2.2.2.2.2.2.2.2.2.2.2.2))] := hD
  obtain ⟨r5, e6, hf⟩ := g_bdS hf
  refine g_contC (st1 := [.int r5.1]) (g_runVC (As := [.int r3.1]) (rest := []) ⟨hx, hb, hml, hown, hts⟩ (qX6_acted l G a e6) (cwV 1 hts (TB_V TB_id tw_650 tw_652 tw_13 tw_54 tw_653) rfl rfl rfl (by decide +kernel) ⟨Nat.le_of_ble_eq_true rfl, Nat.le_of_ble_eq_true rfl⟩) hK (hP.sub [0, 1, 2, 3, 4, 5, 6, 7, 8] rfl) (hD.sub [0, 1, 2, 3, 4, 5, 6, 7, 8] (by decide) rfl) 0 rfl rfl rfl hl.1 rfl (Nat.le_of_ble_eq_true rfl) dX6_turn_9) rfl hP hD hS hA [0, 1, 2, 3, 4, 5, 6, 7, 8] rfl rfl (fun H locs hP hD hS => ?_)
  have hP : va_P G.1 vwCl [((a 0), .inr (5, [.ref (a 1), .ref (a 2), .ref (a 3), .ref (a 4), .int r5.2.2.2.2.2.1, .ref (a 5), .int r5.2.2.2.2.2.2.2.1, .int r5.2.2.2.2.2.2.2.2.1, .int r5.2.2.2.2.2.2.2.2.2.1, .ref (a 6), .ref (a 7), .ref (a 8)])), ((a 1), .inl (G.2.1, 411, .inl r5.2.1)), ((a 2), .inl (G.2.1, 1644, .inl r5.2.2.1)), ((a 3), .inl (G.2.1, 411, .inl r5.2.2.2.1)), ((a 4), .inl (G.2.1, 411, .inl r5.2.2.2.2.1)), ((a 5), .inl (G.2.2.1, 60, .inl r5.2.2.2.2.2.2.1)), ((a 6), .inl (G.2.1, 4, .inl r5.2.2.2.2.2.2.2.2.2.2.1)), ((a 7), .inl (G.2.1, 4, .inl r5.2.2.2.2.2.2.2.2.2.2.2.1)), ((a 8), .inl (G.2.1, 4, .inl r5.2.2.2.2.2.2.2.2.2.2.2.2))] H := hP
  have hD : va_D (va_A (modW G a ss was beg asi sta txt typ att rea got row oth) s.heap.size) [((a 0), .inr (5, [.ref (a 1), .ref (a 2), .ref (a 3), .ref (a 4), .int r5.2.2.2.2.2.1, .ref (a 5), .int r5.2.2.2.2.2.2.2.1, .int r5.2.2.2.2.2.2.2.2.1, .int r5.2.2.2.2.2.2.2.2.2.1, .ref (a 6), .ref (a 7), .ref (a 8)])), ((a 1), .inl (G.2.1, 411, .inl r5.2.1)), ((a 2), .inl (G.2.1, 1644, .inl r5.2.2.1)), ((a 3), .inl (G.2.1, 411, .inl r5.2.2.2.1)), ((a 4), .inl (G.2.1, 411, .inl r5.2.2.2.2.1)), ((a 5), .inl (G.2.2.1, 60, .inl r5.2.2.2.2.2.2.1)), ((a 6), .inl (G.2.1, 4, .inl r5.2.2.2.2.2.2.2.2.2.2.1)), ((a 7), .inl (G.2.1, 4, .inl r5.2.2.2.2.2.2.2.2.2.2.2.1)), ((a 8), .inl (G.2.1, 4, .inl r5.2.2.2.2.2.2.2.2.2.2.2.2))] := hD
  cases hf
  exact g_iretC hx hb hr hlocks hP hD hS dX6_turn_12
-- TwoShapesModel.turnsBack()I
abbrev rmX6_turnsBack : Room := { frames := 1, cells := 0, slots := 0, locals := 22 }
def fX6_turnsBack_b50 (t0 : Int32) (t1 : Int32) (ss : Nat → Int32) (was : Nat → Int32) (beg : Nat → Int32) (asi : Nat → Int32) (sta : Int32) (txt : Nat → Int32) (typ : Int32) (att : Int32) (rea : Int32) (got : Nat → Int32) (row : Nat → Int32) (oth : Nat → Int32) : Option (Int32 × (Nat → Int32) × (Nat → Int32) × (Nat → Int32) × (Nat → Int32) × Int32 × (Nat → Int32) × Int32 × Int32 × Int32 × (Nat → Int32) × (Nat → Int32) × (Nat → Int32)) := g_gd (g_in t1 411) (g_gd (g_in (0 : Int32) 411) ((if ((upd ss t1.toNatClampNeg t0) (0 : Int32).toNatClampNeg) = (0 : Int32) then ((fX6_clears (1 : Int32) (upd ss t1.toNatClampNeg t0) was beg asi sta txt typ att rea got row oth).bind fun r14 => g_gd (g_in (0 : Int32) 411) (some ((r14.1 (0 : Int32).toNatClampNeg), r14.1, r14.2.1, r14.2.2.1, r14.2.2.2.1, r14.2.2.2.2.1, r14.2.2.2.2.2.1, r14.2.2.2.2.2.2.1, r14.2.2.2.2.2.2.2.1, r14.2.2.2.2.2.2.2.2.1, r14.2.2.2.2.2.2.2.2.2.1, r14.2.2.2.2.2.2.2.2.2.2.1, r14.2.2.2.2.2.2.2.2.2.2.2))) else g_gd (g_in (0 : Int32) 411) (some (((upd ss t1.toNatClampNeg t0) (0 : Int32).toNatClampNeg), (upd ss t1.toNatClampNeg t0), was, beg, asi, sta, txt, typ, att, rea, got, row, oth)))))
set_option maxHeartbeats 4000000 in
set_option maxRecDepth 100000 in
theorem kX6_turnsBack_b50 {p : Program} {l : Launch} {e : Env} {s : State} {m : MethodId} {args : Array Value} {below : List Frame} {meth : Method} {c : Code} {G : gT} {a : Nat → Nat} {w0 : va_W} (C0 : gX p s m args meth c cX6_turnsBack 1 (some .int) RX6 G) :
    ∀ (t0 : Int32) (t1 : Int32) (ss : Nat → Int32) (was : Nat → Int32) (beg : Nat → Int32) (asi : Nat → Int32) (sta : Int32) (txt : Nat → Int32) (typ : Int32) (att : Int32) (rea : Int32) (got : Nat → Int32) (row : Nat → Int32) (oth : Nat → Int32) (u : Int32 × (Nat → Int32) × (Nat → Int32) × (Nat → Int32) × (Nat → Int32) × Int32 × (Nat → Int32) × Int32 × Int32 × Int32 × (Nat → Int32) × (Nat → Int32) × (Nat → Int32)), fX6_turnsBack_b50 t0 t1 ss was beg asi sta txt typ att rea got row oth = some u → ∀ (H : Heap) (locs : List Loc), va_P G.1 vwCl [((a 0), .inr (5, [.ref (a 1), .ref (a 2), .ref (a 3), .ref (a 4), .int sta, .ref (a 5), .int typ, .int att, .int rea, .ref (a 6), .ref (a 7), .ref (a 8)])), ((a 1), .inl (G.2.1, 411, .inl ss)), ((a 2), .inl (G.2.1, 1644, .inl was)), ((a 3), .inl (G.2.1, 411, .inl beg)), ((a 4), .inl (G.2.1, 411, .inl asi)), ((a 5), .inl (G.2.2.1, 60, .inl txt)), ((a 6), .inl (G.2.1, 4, .inl got)), ((a 7), .inl (G.2.1, 4, .inl row)), ((a 8), .inl (G.2.1, 4, .inl oth))] H → va_D (va_A w0 s.heap.size) [((a 0), .inr (5, [.ref (a 1), .ref (a 2), .ref (a 3), .ref (a 4), .int sta, .ref (a 5), .int typ, .int att, .int rea, .ref (a 6), .ref (a 7), .ref (a 8)])), ((a 1), .inl (G.2.1, 411, .inl ss)), ((a 2), .inl (G.2.1, 1644, .inl was)), ((a 3), .inl (G.2.1, 411, .inl beg)), ((a 4), .inl (G.2.1, 411, .inl asi)), ((a 5), .inl (G.2.2.1, 60, .inl txt)), ((a 6), .inl (G.2.1, 4, .inl got)), ((a 7), .inl (G.2.1, 4, .inl row)), ((a 8), .inl (G.2.1, 4, .inl oth))] → va_S (va_A w0 s.heap.size) s.heap H locs → ∀ ls, lv_has ls 1 [(0, .ref (a 0))] → gW p l e (headSpec wsX6_turnsBack rmX6_turnsBack).room s m args below meth c G w0 (some (.int u.1)) (modW G a u.2.1 u.2.2.1 u.2.2.2.1 u.2.2.2.2.1 u.2.2.2.2.2.1 u.2.2.2.2.2.2.1 u.2.2.2.2.2.2.2.1 u.2.2.2.2.2.2.2.2.1 u.2.2.2.2.2.2.2.2.2.1 u.2.2.2.2.2.2.2.2.2.2.1 u.2.2.2.2.2.2.2.2.2.2.2.1 u.2.2.2.2.2.2.2.2.2.2.2.2) H locs 50 ls [.int t0, .int t1, .ref (a 1)] := by
  obtain ⟨hx, hb, hr, hts, hown, hlocks, hml, hK⟩ := id C0
  have hA : ∀ q : Nat, s.heap.size ≤ q → va_A w0 s.heap.size q := fun q h => Or.inr h
  intro t0 t1 ss was beg asi sta txt typ att rea got row oth u hf H locs hP hD hS ls hl
  unfold fX6_turnsBack_b50 at hf
  obtain ⟨g10, hf⟩ := g_gdS hf
  refine va_iast hx hb hK.1 hP hD hS 1 0 rfl rfl (g_in_vp g10) dX6_turnsBack_50 (fun H locs hP hD hS => ?_)
  have hP : va_P G.1 vwCl [((a 0), .inr (5, [.ref (a 1), .ref (a 2), .ref (a 3), .ref (a 4), .int sta, .ref (a 5), .int typ, .int att, .int rea, .ref (a 6), .ref (a 7), .ref (a 8)])), ((a 1), .inl (G.2.1, 411, .inl (upd ss t1.toNatClampNeg t0))), ((a 2), .inl (G.2.1, 1644, .inl was)), ((a 3), .inl (G.2.1, 411, .inl beg)), ((a 4), .inl (G.2.1, 411, .inl asi)), ((a 5), .inl (G.2.2.1, 60, .inl txt)), ((a 6), .inl (G.2.1, 4, .inl got)), ((a 7), .inl (G.2.1, 4, .inl row)), ((a 8), .inl (G.2.1, 4, .inl oth))] H := hP
  have hD : va_D (va_A w0 s.heap.size) [((a 0), .inr (5, [.ref (a 1), .ref (a 2), .ref (a 3), .ref (a 4), .int sta, .ref (a 5), .int typ, .int att, .int rea, .ref (a 6), .ref (a 7), .ref (a 8)])), ((a 1), .inl (G.2.1, 411, .inl (upd ss t1.toNatClampNeg t0))), ((a 2), .inl (G.2.1, 1644, .inl was)), ((a 3), .inl (G.2.1, 411, .inl beg)), ((a 4), .inl (G.2.1, 411, .inl asi)), ((a 5), .inl (G.2.2.1, 60, .inl txt)), ((a 6), .inl (G.2.1, 4, .inl got)), ((a 7), .inl (G.2.1, 4, .inl row)), ((a 8), .inl (G.2.1, 4, .inl oth))] := hD
  refine lv_aload_n hx hb dX6_turnsBack_51 rfl (lv_at hl 0 rfl) ?_
  refine va_get (D := G.1) (ci := 5) (v := .ref (a 1)) (C := RX6) (T := TX6) (N := 12) hx hb hts hX6 hown hK.1 hP 0 rfl rfl 0 (by decide) (hts _ tw_588) (fun _ h9 => h9) rfl dX6_turnsBack_52 ?_
  refine lv_iconst (v := (0 : Int32)) hx hb dX6_turnsBack_55 (by decide) ?_
  obtain ⟨g11, hf⟩ := g_gdS hf
  refine va_iald hx hb hK.1 hP 1 0 rfl rfl (g_in_vp g11) dX6_turnsBack_56 ?_
  refine lv_if_ne (tgt := 65) hx hb dX6_turnsBack_57 (by decide) (fun c12 => ?_) (fun c12 => ?_)
  · have hf := g_ifF c12 hf
    refine lv_aload_n hx hb dX6_turnsBack_65 rfl (lv_at hl 0 rfl) ?_
    refine va_get (D := G.1) (ci := 5) (v := .ref (a 1)) (C := RX6) (T := TX6) (N := 12) hx hb hts hX6 hown hK.1 hP 0 rfl rfl 0 (by decide) (hts _ tw_588) (fun _ h9 => h9) rfl dX6_turnsBack_66 ?_
    refine lv_iconst (v := (0 : Int32)) hx hb dX6_turnsBack_69 (by decide) ?_
    obtain ⟨g13, hf⟩ := g_gdS hf
    refine va_iald hx hb hK.1 hP 1 0 rfl rfl (g_in_vp g13) dX6_turnsBack_70 ?_
    cases hf
    exact g_iretC hx hb hr hlocks hP hD hS dX6_turnsBack_71
  · have hf := g_ifT c12 hf
    refine lv_aload_n hx hb dX6_turnsBack_60 rfl (lv_at hl 0 rfl) ?_
    refine lv_iconst (v := (1 : Int32)) hx hb dX6_turnsBack_61 (by decide) ?_
    obtain ⟨r14, e15, hf⟩ := g_bdS hf
    refine g_contC (st1 := []) (g_runVC (As := [.int (1 : Int32)]) (rest := []) ⟨hx, hb, hml, hown, hts⟩ (qX6_clears l G a e15) (cwV 1 hts (TB_V TB_id tw_635 tw_637 tw_10 tw_54 tw_638) rfl rfl rfl (by decide +kernel) ⟨Nat.le_of_ble_eq_true rfl, Nat.le_of_ble_eq_true rfl⟩) hK (hP.sub [0, 1, 2, 3, 4, 5, 6, 7, 8] rfl) (hD.sub [0, 1, 2, 3, 4, 5, 6, 7, 8] (by decide) rfl) 0 rfl rfl rfl hl.1 rfl (Nat.le_of_ble_eq_true rfl) dX6_turnsBack_62) rfl hP hD hS hA [0, 1, 2, 3, 4, 5, 6, 7, 8] rfl rfl (fun H locs hP hD hS => ?_)
    have hP : va_P G.1 vwCl [((a 0), .inr (5, [.ref (a 1), .ref (a 2), .ref (a 3), .ref (a 4), .int r14.2.2.2.2.1, .ref (a 5), .int r14.2.2.2.2.2.2.1, .int r14.2.2.2.2.2.2.2.1, .int r14.2.2.2.2.2.2.2.2.1, .ref (a 6), .ref (a 7), .ref (a 8)])), ((a 1), .inl (G.2.1, 411, .inl r14.1)), ((a 2), .inl (G.2.1, 1644, .inl r14.2.1)), ((a 3), .inl (G.2.1, 411, .inl r14.2.2.1)), ((a 4), .inl (G.2.1, 411, .inl r14.2.2.2.1)), ((a 5), .inl (G.2.2.1, 60, .inl r14.2.2.2.2.2.1)), ((a 6), .inl (G.2.1, 4, .inl r14.2.2.2.2.2.2.2.2.2.1)), ((a 7), .inl (G.2.1, 4, .inl r14.2.2.2.2.2.2.2.2.2.2.1)), ((a 8), .inl (G.2.1, 4, .inl r14.2.2.2.2.2.2.2.2.2.2.2))] H := hP
    have hD : va_D (va_A w0 s.heap.size) [((a 0), .inr (5, [.ref (a 1), .ref (a 2), .ref (a 3), .ref (a 4), .int r14.2.2.2.2.1, .ref (a 5), .int r14.2.2.2.2.2.2.1, .int r14.2.2.2.2.2.2.2.1, .int r14.2.2.2.2.2.2.2.2.1, .ref (a 6), .ref (a 7), .ref (a 8)])), ((a 1), .inl (G.2.1, 411, .inl r14.1)), ((a 2), .inl (G.2.1, 1644, .inl r14.2.1)), ((a 3), .inl (G.2.1, 411, .inl r14.2.2.1)), ((a 4), .inl (G.2.1, 411, .inl r14.2.2.2.1)), ((a 5), .inl (G.2.2.1, 60, .inl r14.2.2.2.2.2.1)), ((a 6), .inl (G.2.1, 4, .inl r14.2.2.2.2.2.2.2.2.2.1)), ((a 7), .inl (G.2.1, 4, .inl r14.2.2.2.2.2.2.2.2.2.2.1)), ((a 8), .inl (G.2.1, 4, .inl r14.2.2.2.2.2.2.2.2.2.2.2))] := hD
    refine lv_aload_n hx hb dX6_turnsBack_65 rfl (lv_at hl 0 rfl) ?_
    refine va_get (D := G.1) (ci := 5) (v := .ref (a 1)) (C := RX6) (T := TX6) (N := 12) hx hb hts hX6 hown hK.1 hP 0 rfl rfl 0 (by decide) (hts _ tw_588) (fun _ h9 => h9) rfl dX6_turnsBack_66 ?_
    refine lv_iconst (v := (0 : Int32)) hx hb dX6_turnsBack_69 (by decide) ?_
    obtain ⟨g16, hf⟩ := g_gdS hf
    refine va_iald hx hb hK.1 hP 1 0 rfl rfl (g_in_vp g16) dX6_turnsBack_70 ?_
    cases hf
    exact g_iretC hx hb hr hlocks hP hD hS dX6_turnsBack_71
def fX6_turnsBack (ss : Nat → Int32) (was : Nat → Int32) (beg : Nat → Int32) (asi : Nat → Int32) (sta : Int32) (txt : Nat → Int32) (typ : Int32) (att : Int32) (rea : Int32) (got : Nat → Int32) (row : Nat → Int32) (oth : Nat → Int32) : Option (Int32 × (Nat → Int32) × (Nat → Int32) × (Nat → Int32) × (Nat → Int32) × Int32 × (Nat → Int32) × Int32 × Int32 × Int32 × (Nat → Int32) × (Nat → Int32) × (Nat → Int32)) := ((fX6_areBoth ss was beg asi sta txt typ att rea got row oth).bind fun r1 => (if r1 = (0 : Int32) then some ((-1000002 : Int32), ss, was, beg, asi, sta, txt, typ, att, rea, got, row, oth) else g_gd (g_in (3 : Int32) 411) ((if (ss (3 : Int32).toNatClampNeg) ≤ (0 : Int32) then g_gd (g_in (0 : Int32) 411) (g_gd (g_in (0 : Int32) 411) (g_gd (g_in (0 : Int32) 411) ((if ((upd ss (0 : Int32).toNatClampNeg ((ss (0 : Int32).toNatClampNeg) - (1 : Int32))) (0 : Int32).toNatClampNeg) = (1 : Int32) then fX6_turnsBack_b50 (31 : Int32) (2 : Int32) (upd ss (0 : Int32).toNatClampNeg ((ss (0 : Int32).toNatClampNeg) - (1 : Int32))) was beg asi sta txt typ att rea got row oth else fX6_turnsBack_b50 (0 : Int32) (2 : Int32) (upd ss (0 : Int32).toNatClampNeg ((ss (0 : Int32).toNatClampNeg) - (1 : Int32))) was beg asi sta txt typ att rea got row oth)))) else some ((-1000002 : Int32), ss, was, beg, asi, sta, txt, typ, att, rea, got, row, oth)))))
set_option maxHeartbeats 4000000 in
set_option maxRecDepth 100000 in
theorem qX6_turnsBack (l : Launch) (G : gT) (a : Nat → Nat) {ss : Nat → Int32} {was : Nat → Int32} {beg : Nat → Int32} {asi : Nat → Int32} {sta : Int32} {txt : Nat → Int32} {typ : Int32} {att : Int32} {rea : Int32} {got : Nat → Int32} {row : Nat → Int32} {oth : Nat → Int32} {u : Int32 × (Nat → Int32) × (Nat → Int32) × (Nat → Int32) × (Nat → Int32) × Int32 × (Nat → Int32) × Int32 × Int32 × Int32 × (Nat → Int32) × (Nat → Int32) × (Nat → Int32)} (hf : fX6_turnsBack ss was beg asi sta txt typ att rea got row oth = some u) : gC l G yX6_turnsBack wsX6_turnsBack rmX6_turnsBack [.ref (a 0)] (modW G a ss was beg asi sta txt typ att rea got row oth) (some (.int u.1)) (modW G a u.2.1 u.2.2.1 u.2.2.2.1 u.2.2.2.2.1 u.2.2.2.2.2.1 u.2.2.2.2.2.2.1 u.2.2.2.2.2.2.2.1 u.2.2.2.2.2.2.2.2.1 u.2.2.2.2.2.2.2.2.2.1 u.2.2.2.2.2.2.2.2.2.2.1 u.2.2.2.2.2.2.2.2.2.2.2.1 u.2.2.2.2.2.2.2.2.2.2.2.2) := by
  refine gC.of (cc := cX6_turnsBack) (maxL := 1) (ret := (some .int)) (by decide) rfl (Nat.le_of_ble_eq_true rfl) ?_
  intro p e s m below meth c C0 hP hD hS ls hl
  obtain ⟨hx, hb, hr, hts, hown, hlocks, hml, hK⟩ := id C0
  have hl : lv_has ls 1 [(0, .ref (a 0))] := hl
  have hA : ∀ q : Nat, s.heap.size ≤ q → va_A (modW G a ss was beg asi sta txt typ att rea got row oth) s.heap.size q := fun q h => Or.inr h
  have hP : va_P G.1 vwCl [((a 0), .inr (5, [.ref (a 1), .ref (a 2), .ref (a 3), .ref (a 4), .int sta, .ref (a 5), .int typ, .int att, .int rea, .ref (a 6), .ref (a 7), .ref (a 8)])), ((a 1), .inl (G.2.1, 411, .inl ss)), ((a 2), .inl (G.2.1, 1644, .inl was)), ((a 3), .inl (G.2.1, 411, .inl beg)), ((a 4), .inl (G.2.1, 411, .inl asi)), ((a 5), .inl (G.2.2.1, 60, .inl txt)), ((a 6), .inl (G.2.1, 4, .inl got)), ((a 7), .inl (G.2.1, 4, .inl row)), ((a 8), .inl (G.2.1, 4, .inl oth))] s.heap := hP
  have hD : va_D (va_A (modW G a ss was beg asi sta txt typ att rea got row oth) s.heap.size) [((a 0), .inr (5, [.ref (a 1), .ref (a 2), .ref (a 3), .ref (a 4), .int sta, .ref (a 5), .int typ, .int att, .int rea, .ref (a 6), .ref (a 7), .ref (a 8)])), ((a 1), .inl (G.2.1, 411, .inl ss)), ((a 2), .inl (G.2.1, 1644, .inl was)), ((a 3), .inl (G.2.1, 411, .inl beg)), ((a 4), .inl (G.2.1, 411, .inl asi)), ((a 5), .inl (G.2.2.1, 60, .inl txt)), ((a 6), .inl (G.2.1, 4, .inl got)), ((a 7), .inl (G.2.1, 4, .inl row)), ((a 8), .inl (G.2.1, 4, .inl oth))] := hD
  unfold fX6_turnsBack at hf
  refine lv_aload_n hx hb dX6_turnsBack_0 rfl (lv_at hl 0 rfl) ?_
  obtain ⟨r1, e2, hf⟩ := g_bdS hf
  refine g_contR (st1 := [.int r1]) (g_runVR (As := []) (rest := []) ⟨hx, hb, hml, hown, hts⟩ (qX6_areBoth l G a e2) (cwV 0 hts (TB_V TB_id tw_691 tw_693 tw_21 tw_54 tw_694) rfl rfl rfl (by decide +kernel) ⟨Nat.le_of_ble_eq_true rfl, Nat.le_of_ble_eq_true rfl⟩) hK (hP.sub [0, 1, 2, 3, 4, 5, 6, 7, 8] rfl) 0 rfl rfl rfl hl.1 rfl (Nat.le_of_ble_eq_true rfl) dX6_turnsBack_1) rfl ?_
  refine lv_if_eq (tgt := 16) hx hb dX6_turnsBack_4 (by decide) (fun c3 => ?_) (fun c3 => ?_)
  · have hf := g_ifT c3 hf
    refine lv_ldc (v := (-1000002 : Int32)) hx hb hown (hts _ tw_630) dX6_turnsBack_16 ?_
    cases hf
    exact g_iretC hx hb hr hlocks hP hD hS dX6_turnsBack_18
  · have hf := g_ifF c3 hf
    refine lv_aload_n hx hb dX6_turnsBack_7 rfl (lv_at hl 0 rfl) ?_
    refine va_get (D := G.1) (ci := 5) (v := .ref (a 1)) (C := RX6) (T := TX6) (N := 12) hx hb hts hX6 hown hK.1 hP 0 rfl rfl 0 (by decide) (hts _ tw_588) (fun _ h9 => h9) rfl dX6_turnsBack_8 ?_
    refine lv_iconst (v := (3 : Int32)) hx hb dX6_turnsBack_11 (by decide) ?_
    obtain ⟨g4, hf⟩ := g_gdS hf
    refine va_iald hx hb hK.1 hP 1 0 rfl rfl (g_in_vp g4) dX6_turnsBack_12 ?_
    refine lv_if_le (tgt := 19) hx hb dX6_turnsBack_13 (by decide) (fun c5 => ?_) (fun c5 => ?_)
    · have hf := g_ifT c5 hf
      refine lv_aload_n hx hb dX6_turnsBack_19 rfl (lv_at hl 0 rfl) ?_
      refine va_get (D := G.1) (ci := 5) (v := .ref (a 1)) (C := RX6) (T := TX6) (N := 12) hx hb hts hX6 hown hK.1 hP 0 rfl rfl 0 (by decide) (hts _ tw_588) (fun _ h9 => h9) rfl dX6_turnsBack_20 ?_
      refine lv_iconst (v := (0 : Int32)) hx hb dX6_turnsBack_23 (by decide) ?_
      refine lv_dup2_11 hx hb dX6_turnsBack_24 rfl rfl ?_
      obtain ⟨g6, hf⟩ := g_gdS hf
      refine va_iald hx hb hK.1 hP 1 0 rfl rfl (g_in_vp g6) dX6_turnsBack_25 ?_
      refine lv_iconst (v := (1 : Int32)) hx hb dX6_turnsBack_26 (by decide) ?_
      refine lv_isub hx hb dX6_turnsBack_27 ?_
      obtain ⟨g7, hf⟩ := g_gdS hf
      refine va_iast hx hb hK.1 hP hD hS 1 0 rfl rfl (g_in_vp g7) dX6_turnsBack_28 (fun H locs hP hD hS => ?_)
      have hP : va_P G.1 vwCl [((a 0), .inr (5, [.ref (a 1), .ref (a 2), .ref (a 3), .ref (a 4), .int sta, .ref (a 5), .int typ, .int att, .int rea, .ref (a 6), .ref (a 7), .ref (a 8)])), ((a 1), .inl (G.2.1, 411, .inl (upd ss (0 : Int32).toNatClampNeg ((ss (0 : Int32).toNatClampNeg) - (1 : Int32))))), ((a 2), .inl (G.2.1, 1644, .inl was)), ((a 3), .inl (G.2.1, 411, .inl beg)), ((a 4), .inl (G.2.1, 411, .inl asi)), ((a 5), .inl (G.2.2.1, 60, .inl txt)), ((a 6), .inl (G.2.1, 4, .inl got)), ((a 7), .inl (G.2.1, 4, .inl row)), ((a 8), .inl (G.2.1, 4, .inl oth))] H := hP
      have hD : va_D (va_A (modW G a ss was beg asi sta txt typ att rea got row oth) s.heap.size) [((a 0), .inr (5, [.ref (a 1), .ref (a 2), .ref (a 3), .ref (a 4), .int sta, .ref (a 5), .int typ, .int att, .int rea, .ref (a 6), .ref (a 7), .ref (a 8)])), ((a 1), .inl (G.2.1, 411, .inl (upd ss (0 : Int32).toNatClampNeg ((ss (0 : Int32).toNatClampNeg) - (1 : Int32))))), ((a 2), .inl (G.2.1, 1644, .inl was)), ((a 3), .inl (G.2.1, 411, .inl beg)), ((a 4), .inl (G.2.1, 411, .inl asi)), ((a 5), .inl (G.2.2.1, 60, .inl txt)), ((a 6), .inl (G.2.1, 4, .inl got)), ((a 7), .inl (G.2.1, 4, .inl row)), ((a 8), .inl (G.2.1, 4, .inl oth))] := hD
      refine lv_aload_n hx hb dX6_turnsBack_29 rfl (lv_at hl 0 rfl) ?_
      refine va_get (D := G.1) (ci := 5) (v := .ref (a 1)) (C := RX6) (T := TX6) (N := 12) hx hb hts hX6 hown hK.1 hP 0 rfl rfl 0 (by decide) (hts _ tw_588) (fun _ h9 => h9) rfl dX6_turnsBack_30 ?_
      refine lv_iconst (v := (2 : Int32)) hx hb dX6_turnsBack_33 (by decide) ?_
      refine lv_aload_n hx hb dX6_turnsBack_34 rfl (lv_at hl 0 rfl) ?_
      refine va_get (D := G.1) (ci := 5) (v := .ref (a 1)) (C := RX6) (T := TX6) (N := 12) hx hb hts hX6 hown hK.1 hP 0 rfl rfl 0 (by decide) (hts _ tw_588) (fun _ h9 => h9) rfl dX6_turnsBack_35 ?_
      refine lv_iconst (v := (0 : Int32)) hx hb dX6_turnsBack_38 (by decide) ?_
      obtain ⟨g8, hf⟩ := g_gdS hf
      refine va_iald hx hb hK.1 hP 1 0 rfl rfl (g_in_vp g8) dX6_turnsBack_39 ?_
      refine lv_iconst (v := (1 : Int32)) hx hb dX6_turnsBack_40 (by decide) ?_
      refine lv_icmp_ne (tgt := 49) hx hb dX6_turnsBack_41 (by decide) (fun c9 => ?_) (fun c9 => ?_)
      · have hf := g_ifF c9 hf
        refine lv_iconst (v := (0 : Int32)) hx hb dX6_turnsBack_49 (by decide) ?_
        exact kX6_turnsBack_b50 C0 _ _ _ _ _ _ _ _ _ _ _ _ _ _ _ hf _ _ hP hD hS ls (lv_sub hl [0] rfl)
      · have hf := g_ifT c9 hf
        refine lv_bipush (v := (31 : Int32)) hx hb dX6_turnsBack_44 (by decide) ?_
        refine lv_goto (tgt := 50) hx hb dX6_turnsBack_46 (by decide) ?_
        exact kX6_turnsBack_b50 C0 _ _ _ _ _ _ _ _ _ _ _ _ _ _ _ hf _ _ hP hD hS ls (lv_sub hl [0] rfl)
    · have hf := g_ifF c5 hf
      refine lv_ldc (v := (-1000002 : Int32)) hx hb hown (hts _ tw_630) dX6_turnsBack_16 ?_
      cases hf
      exact g_iretC hx hb hr hlocks hP hD hS dX6_turnsBack_18
-- TwoShapesModel.back()I
abbrev rmX6_back : Room := { frames := 2, cells := 0, slots := 0, locals := 42 }
def fX6_back (ss : Nat → Int32) (was : Nat → Int32) (beg : Nat → Int32) (asi : Nat → Int32) (sta : Int32) (txt : Nat → Int32) (typ : Int32) (att : Int32) (rea : Int32) (got : Nat → Int32) (row : Nat → Int32) (oth : Nat → Int32) : Option (Int32 × (Nat → Int32) × (Nat → Int32) × (Nat → Int32) × (Nat → Int32) × Int32 × (Nat → Int32) × Int32 × Int32 × Int32 × (Nat → Int32) × (Nat → Int32) × (Nat → Int32)) := ((fX6_keeps ss was beg asi sta txt typ att rea got row oth).bind fun r1 => ((fX6_turnsBack r1.1 r1.2.1 r1.2.2.1 r1.2.2.2.1 r1.2.2.2.2.1 r1.2.2.2.2.2.1 r1.2.2.2.2.2.2.1 r1.2.2.2.2.2.2.2.1 r1.2.2.2.2.2.2.2.2.1 r1.2.2.2.2.2.2.2.2.2.1 r1.2.2.2.2.2.2.2.2.2.2.1 r1.2.2.2.2.2.2.2.2.2.2.2).bind fun r3 => ((fX6_acted r3.1 r3.2.1 r3.2.2.1 r3.2.2.2.1 r3.2.2.2.2.1 r3.2.2.2.2.2.1 r3.2.2.2.2.2.2.1 r3.2.2.2.2.2.2.2.1 r3.2.2.2.2.2.2.2.2.1 r3.2.2.2.2.2.2.2.2.2.1 r3.2.2.2.2.2.2.2.2.2.2.1 r3.2.2.2.2.2.2.2.2.2.2.2.1 r3.2.2.2.2.2.2.2.2.2.2.2.2).bind fun r5 => some (r5.1, r5.2.1, r5.2.2.1, r5.2.2.2.1, r5.2.2.2.2.1, r5.2.2.2.2.2.1, r5.2.2.2.2.2.2.1, r5.2.2.2.2.2.2.2.1, r5.2.2.2.2.2.2.2.2.1, r5.2.2.2.2.2.2.2.2.2.1, r5.2.2.2.2.2.2.2.2.2.2.1, r5.2.2.2.2.2.2.2.2.2.2.2.1, r5.2.2.2.2.2.2.2.2.2.2.2.2))))
set_option maxHeartbeats 4000000 in
set_option maxRecDepth 100000 in
theorem qX6_back (l : Launch) (G : gT) (a : Nat → Nat) {ss : Nat → Int32} {was : Nat → Int32} {beg : Nat → Int32} {asi : Nat → Int32} {sta : Int32} {txt : Nat → Int32} {typ : Int32} {att : Int32} {rea : Int32} {got : Nat → Int32} {row : Nat → Int32} {oth : Nat → Int32} {u : Int32 × (Nat → Int32) × (Nat → Int32) × (Nat → Int32) × (Nat → Int32) × Int32 × (Nat → Int32) × Int32 × Int32 × Int32 × (Nat → Int32) × (Nat → Int32) × (Nat → Int32)} (hf : fX6_back ss was beg asi sta txt typ att rea got row oth = some u) : gC l G yX6_back wsX6_back rmX6_back [.ref (a 0)] (modW G a ss was beg asi sta txt typ att rea got row oth) (some (.int u.1)) (modW G a u.2.1 u.2.2.1 u.2.2.2.1 u.2.2.2.2.1 u.2.2.2.2.2.1 u.2.2.2.2.2.2.1 u.2.2.2.2.2.2.2.1 u.2.2.2.2.2.2.2.2.1 u.2.2.2.2.2.2.2.2.2.1 u.2.2.2.2.2.2.2.2.2.2.1 u.2.2.2.2.2.2.2.2.2.2.2.1 u.2.2.2.2.2.2.2.2.2.2.2.2) := by
  refine gC.of (cc := cX6_back) (maxL := 1) (ret := (some .int)) (by decide) rfl (Nat.le_of_ble_eq_true rfl) ?_
  intro p e s m below meth c C0 hP hD hS ls hl
  obtain ⟨hx, hb, hr, hts, hown, hlocks, hml, hK⟩ := id C0
  have hl : lv_has ls 1 [(0, .ref (a 0))] := hl
  have hA : ∀ q : Nat, s.heap.size ≤ q → va_A (modW G a ss was beg asi sta txt typ att rea got row oth) s.heap.size q := fun q h => Or.inr h
  have hP : va_P G.1 vwCl [((a 0), .inr (5, [.ref (a 1), .ref (a 2), .ref (a 3), .ref (a 4), .int sta, .ref (a 5), .int typ, .int att, .int rea, .ref (a 6), .ref (a 7), .ref (a 8)])), ((a 1), .inl (G.2.1, 411, .inl ss)), ((a 2), .inl (G.2.1, 1644, .inl was)), ((a 3), .inl (G.2.1, 411, .inl beg)), ((a 4), .inl (G.2.1, 411, .inl asi)), ((a 5), .inl (G.2.2.1, 60, .inl txt)), ((a 6), .inl (G.2.1, 4, .inl got)), ((a 7), .inl (G.2.1, 4, .inl row)), ((a 8), .inl (G.2.1, 4, .inl oth))] s.heap := hP
  have hD : va_D (va_A (modW G a ss was beg asi sta txt typ att rea got row oth) s.heap.size) [((a 0), .inr (5, [.ref (a 1), .ref (a 2), .ref (a 3), .ref (a 4), .int sta, .ref (a 5), .int typ, .int att, .int rea, .ref (a 6), .ref (a 7), .ref (a 8)])), ((a 1), .inl (G.2.1, 411, .inl ss)), ((a 2), .inl (G.2.1, 1644, .inl was)), ((a 3), .inl (G.2.1, 411, .inl beg)), ((a 4), .inl (G.2.1, 411, .inl asi)), ((a 5), .inl (G.2.2.1, 60, .inl txt)), ((a 6), .inl (G.2.1, 4, .inl got)), ((a 7), .inl (G.2.1, 4, .inl row)), ((a 8), .inl (G.2.1, 4, .inl oth))] := hD
  unfold fX6_back at hf
  refine lv_aload_n hx hb dX6_back_0 rfl (lv_at hl 0 rfl) ?_
  obtain ⟨r1, e2, hf⟩ := g_bdS hf
  refine g_contC (st1 := []) (g_runVC (As := []) (rest := []) ⟨hx, hb, hml, hown, hts⟩ (qX6_keeps l G a e2) (cwV 0 hts (TB_V TB_id tw_631 tw_633 tw_9 tw_54 tw_634) rfl rfl rfl (by decide +kernel) ⟨Nat.le_of_ble_eq_true rfl, Nat.le_of_ble_eq_true rfl⟩) hK (hP.sub [0, 1, 2, 3, 4, 5, 6, 7, 8] rfl) (hD.sub [0, 1, 2, 3, 4, 5, 6, 7, 8] (by decide) rfl) 0 rfl rfl rfl hl.1 rfl (Nat.le_of_ble_eq_true rfl) dX6_back_1) rfl hP hD hS hA [0, 1, 2, 3, 4, 5, 6, 7, 8] rfl rfl (fun H locs hP hD hS => ?_)
  have hP : va_P G.1 vwCl [((a 0), .inr (5, [.ref (a 1), .ref (a 2), .ref (a 3), .ref (a 4), .int r1.2.2.2.2.1, .ref (a 5), .int r1.2.2.2.2.2.2.1, .int r1.2.2.2.2.2.2.2.1, .int r1.2.2.2.2.2.2.2.2.1, .ref (a 6), .ref (a 7), .ref (a 8)])), ((a 1), .inl (G.2.1, 411, .inl r1.1)), ((a 2), .inl (G.2.1, 1644, .inl r1.2.1)), ((a 3), .inl (G.2.1, 411, .inl r1.2.2.1)), ((a 4), .inl (G.2.1, 411, .inl r1.2.2.2.1)), ((a 5), .inl (G.2.2.1, 60, .inl r1.2.2.2.2.2.1)), ((a 6), .inl (G.2.1, 4, .inl r1.2.2.2.2.2.2.2.2.2.1)), ((a 7), .inl (G.2.1, 4, .inl r1.2.2.2.2.2.2.2.2.2.2.1)), ((a 8), .inl (G.2.1, 4, .inl r1.2.2.2.2.2.2.2.2.2.2.2))] H := hP
  have hD : va_D (va_A (modW G a ss was beg asi sta txt typ att rea got row oth) s.heap.size) [((a 0), .inr (5, [.ref (a 1), .ref (a 2), .ref (a 3), .ref (a 4), .int r1.2.2.2.2.1, .ref (a 5), .int r1.2.2.2.2.2.2.1, .int r1.2.2.2.2.2.2.2.1, .int r1.2.2.2.2.2.2.2.2.1, .ref (a 6), .ref (a 7), .ref (a 8)])), ((a 1), .inl (G.2.1, 411, .inl r1.1)), ((a 2), .inl (G.2.1, 1644, .inl r1.2.1)), ((a 3), .inl (G.2.1, 411, .inl r1.2.2.1)), ((a 4), .inl (G.2.1, 411, .inl r1.2.2.2.1)), ((a 5), .inl (G.2.2.1, 60, .inl r1.2.2.2.2.2.1)), ((a 6), .inl (G.2.1, 4, .inl r1.2.2.2.2.2.2.2.2.2.1)), ((a 7), .inl (G.2.1, 4, .inl r1.2.2.2.2.2.2.2.2.2.2.1)), ((a 8), .inl (G.2.1, 4, .inl r1.2.2.2.2.2.2.2.2.2.2.2))] := hD
  refine lv_aload_n hx hb dX6_back_4 rfl (lv_at hl 0 rfl) ?_
  refine lv_aload_n hx hb dX6_back_5 rfl (lv_at hl 0 rfl) ?_
  obtain ⟨r3, e4, hf⟩ := g_bdS hf
  refine g_contC (st1 := [.int r3.1, .ref (a 0)]) (g_runVC (As := []) (rest := [.ref (a 0)]) ⟨hx, hb, hml, hown, hts⟩ (qX6_turnsBack l G a e4) (cwV 0 hts (TB_V TB_id tw_687 tw_689 tw_20 tw_54 tw_690) rfl rfl rfl (by decide +kernel) ⟨Nat.le_of_ble_eq_true rfl, Nat.le_of_ble_eq_true rfl⟩) hK (hP.sub [0, 1, 2, 3, 4, 5, 6, 7, 8] rfl) (hD.sub [0, 1, 2, 3, 4, 5, 6, 7, 8] (by decide) rfl) 0 rfl rfl rfl hl.1 rfl (Nat.le_of_ble_eq_true rfl) dX6_back_6) rfl hP hD hS hA [0, 1, 2, 3, 4, 5, 6, 7, 8] rfl rfl (fun H locs hP hD hS => ?_)
  have hP : va_P G.1 vwCl [((a 0), .inr (5, [.ref (a 1), .ref (a 2), .ref (a 3), .ref (a 4), .int r3.2.2.2.2.2.1, .ref (a 5), .int r3.2.2.2.2.2.2.2.1, .int r3.2.2.2.2.2.2.2.2.1, .int r3.2.2.2.2.2.2.2.2.2.1, .ref (a 6), .ref (a 7), .ref (a 8)])), ((a 1), .inl (G.2.1, 411, .inl r3.2.1)), ((a 2), .inl (G.2.1, 1644, .inl r3.2.2.1)), ((a 3), .inl (G.2.1, 411, .inl r3.2.2.2.1)), ((a 4), .inl (G.2.1, 411, .inl r3.2.2.2.2.1)), ((a 5), .inl (G.2.2.1, 60, .inl r3.2.2.2.2.2.2.1)), ((a 6), .inl (G.2.1, 4, .inl r3.2.2.2.2.2.2.2.2.2.2.1)), ((a 7), .inl (G.2.1, 4, .inl r3.2.2.2.2.2.2.2.2.2.2.2.1)), ((a 8), .inl (G.2.1, 4, .inl r3.2.2.2.2.2.2.2.2.2.2.2.2))] H := hP
  have hD : va_D (va_A (modW G a ss was beg asi sta txt typ att rea got row oth) s.heap.size) [((a 0), .inr (5, [.ref (a 1), .ref (a 2), .ref (a 3), .ref (a 4), .int r3.2.2.2.2.2.1, .ref (a 5), .int r3.2.2.2.2.2.2.2.1, .int r3.2.2.2.2.2.2.2.2.1, .int r3.2.2.2.2.2.2.2.2.2.1, .ref (a 6), .ref (a 7), .ref (a 8)])), ((a 1), .inl (G.2.1, 411, .inl r3.2.1)), ((a 2), .inl (G.2.1, 1644, .inl r3.2.2.1)), ((a 3), .inl (G.2.1, 411, .inl r3.2.2.2.1)), ((a 4), .inl (G.2.1, 411, .inl r3.2.2.2.2.1)), ((a 5), .inl (G.2.2.1, 60, .inl r3.2.2.2.2.2.2.1)), ((a 6), .inl (G.2.1, 4, .inl r3.2.2.2.2.2.2.2.2.2.2.1)), ((a 7), .inl (G.2.1, 4, .inl r3.2.2.2.2.2.2.2.2.2.2.2.1)), ((a 8), .inl (G.2.1, 4, .inl r3.2.2.2.2.2.2.2.2.2.2.2.2))] := hD
  obtain ⟨r5, e6, hf⟩ := g_bdS hf
  refine g_contC (st1 := [.int r5.1]) (g_runVC (As := [.int r3.1]) (rest := []) ⟨hx, hb, hml, hown, hts⟩ (qX6_acted l G a e6) (cwV 1 hts (TB_V TB_id tw_650 tw_652 tw_13 tw_54 tw_653) rfl rfl rfl (by decide +kernel) ⟨Nat.le_of_ble_eq_true rfl, Nat.le_of_ble_eq_true rfl⟩) hK (hP.sub [0, 1, 2, 3, 4, 5, 6, 7, 8] rfl) (hD.sub [0, 1, 2, 3, 4, 5, 6, 7, 8] (by decide) rfl) 0 rfl rfl rfl hl.1 rfl (Nat.le_of_ble_eq_true rfl) dX6_back_9) rfl hP hD hS hA [0, 1, 2, 3, 4, 5, 6, 7, 8] rfl rfl (fun H locs hP hD hS => ?_)
  have hP : va_P G.1 vwCl [((a 0), .inr (5, [.ref (a 1), .ref (a 2), .ref (a 3), .ref (a 4), .int r5.2.2.2.2.2.1, .ref (a 5), .int r5.2.2.2.2.2.2.2.1, .int r5.2.2.2.2.2.2.2.2.1, .int r5.2.2.2.2.2.2.2.2.2.1, .ref (a 6), .ref (a 7), .ref (a 8)])), ((a 1), .inl (G.2.1, 411, .inl r5.2.1)), ((a 2), .inl (G.2.1, 1644, .inl r5.2.2.1)), ((a 3), .inl (G.2.1, 411, .inl r5.2.2.2.1)), ((a 4), .inl (G.2.1, 411, .inl r5.2.2.2.2.1)), ((a 5), .inl (G.2.2.1, 60, .inl r5.2.2.2.2.2.2.1)), ((a 6), .inl (G.2.1, 4, .inl r5.2.2.2.2.2.2.2.2.2.2.1)), ((a 7), .inl (G.2.1, 4, .inl r5.2.2.2.2.2.2.2.2.2.2.2.1)), ((a 8), .inl (G.2.1, 4, .inl r5.2.2.2.2.2.2.2.2.2.2.2.2))] H := hP
  have hD : va_D (va_A (modW G a ss was beg asi sta txt typ att rea got row oth) s.heap.size) [((a 0), .inr (5, [.ref (a 1), .ref (a 2), .ref (a 3), .ref (a 4), .int r5.2.2.2.2.2.1, .ref (a 5), .int r5.2.2.2.2.2.2.2.1, .int r5.2.2.2.2.2.2.2.2.1, .int r5.2.2.2.2.2.2.2.2.2.1, .ref (a 6), .ref (a 7), .ref (a 8)])), ((a 1), .inl (G.2.1, 411, .inl r5.2.1)), ((a 2), .inl (G.2.1, 1644, .inl r5.2.2.1)), ((a 3), .inl (G.2.1, 411, .inl r5.2.2.2.1)), ((a 4), .inl (G.2.1, 411, .inl r5.2.2.2.2.1)), ((a 5), .inl (G.2.2.1, 60, .inl r5.2.2.2.2.2.2.1)), ((a 6), .inl (G.2.1, 4, .inl r5.2.2.2.2.2.2.2.2.2.2.1)), ((a 7), .inl (G.2.1, 4, .inl r5.2.2.2.2.2.2.2.2.2.2.2.1)), ((a 8), .inl (G.2.1, 4, .inl r5.2.2.2.2.2.2.2.2.2.2.2.2))] := hD
  cases hf
  exact g_iretC hx hb hr hlocks hP hD hS dX6_back_12
-- TwoShapesModel.strange()I
abbrev rmX6_strange : Room := { frames := 2, cells := 0, slots := 0, locals := 44 }
def fX6_strange_b4 : Nat → Int32 → Int32 → (Nat → Int32) → (Nat → Int32) → (Nat → Int32) → (Nat → Int32) → Int32 → (Nat → Int32) → Int32 → Int32 → Int32 → (Nat → Int32) → (Nat → Int32) → (Nat → Int32) → Option (Int32)
  | 0, _, _, _, _, _, _, _, _, _, _, _, _, _, _ => none
  | n + 1, x1, x2, ss, was, beg, asi, sta, txt, typ, att, rea, got, row, oth => (if (31 : Int32) ≤ x2 then some (x1) else ((fX6_of (1 : Int32) x2 (1 : Int32) ss was beg asi sta txt typ att rea got row oth).bind fun r2 => (if r2 = (1 : Int32) then ((fX6_of (1 : Int32) x2 (3 : Int32) ss was beg asi sta txt typ att rea got row oth).bind fun r5 => (if r5 ≤ (1 : Int32) then fX6_strange_b4 n (x1 + (0 : Int32)) (x2 + (1 : Int32)) ss was beg asi sta txt typ att rea got row oth else fX6_strange_b4 n (x1 + (1 : Int32)) (x2 + (1 : Int32)) ss was beg asi sta txt typ att rea got row oth)) else fX6_strange_b4 n (x1 + (0 : Int32)) (x2 + (1 : Int32)) ss was beg asi sta txt typ att rea got row oth)))
set_option maxHeartbeats 4000000 in
set_option maxRecDepth 100000 in
theorem kX6_strange_b4 {p : Program} {l : Launch} {e : Env} {s : State} {m : MethodId} {args : Array Value} {below : List Frame} {meth : Method} {c : Code} {G : gT} {a : Nat → Nat} (C0 : gX p s m args meth c cX6_strange 3 (some .int) RX6 G) :
    ∀ (n : Nat) (x1 : Int32) (x2 : Int32) (ss : Nat → Int32) (was : Nat → Int32) (beg : Nat → Int32) (asi : Nat → Int32) (sta : Int32) (txt : Nat → Int32) (typ : Int32) (att : Int32) (rea : Int32) (got : Nat → Int32) (row : Nat → Int32) (oth : Nat → Int32) (u : Int32), fX6_strange_b4 n x1 x2 ss was beg asi sta txt typ att rea got row oth = some u → va_P G.1 vwCl [((a 0), .inr (5, [.ref (a 1), .ref (a 2), .ref (a 3), .ref (a 4), .int sta, .ref (a 5), .int typ, .int att, .int rea, .ref (a 6), .ref (a 7), .ref (a 8)])), ((a 1), .inl (G.2.1, 411, .inl ss)), ((a 2), .inl (G.2.1, 1644, .inl was)), ((a 3), .inl (G.2.1, 411, .inl beg)), ((a 4), .inl (G.2.1, 411, .inl asi)), ((a 5), .inl (G.2.2.1, 60, .inl txt)), ((a 6), .inl (G.2.1, 4, .inl got)), ((a 7), .inl (G.2.1, 4, .inl row)), ((a 8), .inl (G.2.1, 4, .inl oth))] s.heap → ∀ ls, lv_has ls 3 [(0, .ref (a 0)), (1, .int x1), (2, .int x2)] → gV p l e (headSpec wsX6_strange rmX6_strange).room s m args below meth c (some (.int u)) 4 ls [] := by
  obtain ⟨hx, hb, hr, hts, hown, hlocks, hml, hK⟩ := id C0
  intro n
  induction n with
  | zero =>
    intro x1 x2 ss was beg asi sta txt typ att rea got row oth u hf hP ls hl
    have hf : (none : Option (Int32)) = some u := hf
    cases hf
  | succ n ih =>
    intro x1 x2 ss was beg asi sta txt typ att rea got row oth u hf hP ls hl
    rw [fX6_strange_b4] at hf
    refine lv_iload_n hx hb dX6_strange_4 rfl (lv_at hl 2 rfl) ?_
    refine lv_bipush (v := (31 : Int32)) hx hb dX6_strange_5 (by decide) ?_
    refine lv_icmp_ge (tgt := 46) hx hb dX6_strange_7 (by decide) (fun c1 => ?_) (fun c1 => ?_)
    · have hf := g_ifT c1 hf
      refine lv_iload_n hx hb dX6_strange_46 rfl (lv_at hl 1 rfl) ?_
      cases hf
      exact g_iretR hx hb hr hlocks dX6_strange_47
    · have hf := g_ifF c1 hf
      refine lv_iload_n hx hb dX6_strange_10 rfl (lv_at hl 1 rfl) ?_
      refine lv_aload_n hx hb dX6_strange_11 rfl (lv_at hl 0 rfl) ?_
      refine lv_iconst (v := (1 : Int32)) hx hb dX6_strange_12 (by decide) ?_
      refine lv_iload_n hx hb dX6_strange_13 rfl (lv_at hl 2 rfl) ?_
      refine lv_iconst (v := (1 : Int32)) hx hb dX6_strange_14 (by decide) ?_
      obtain ⟨r2, e3, hf⟩ := g_bdS hf
      refine g_contR (st1 := [.int r2, .int x1]) (g_runVR (As := [.int (1 : Int32), .int x2, .int (1 : Int32)]) (rest := [.int x1]) ⟨hx, hb, hml, hown, hts⟩ (qX6_of l G a e3) (cwV 3 hts (TB_V TB_id tw_643 tw_645 tw_12 tw_54 tw_646) rfl rfl rfl (by decide +kernel) ⟨Nat.le_of_ble_eq_true rfl, Nat.le_of_ble_eq_true rfl⟩) hK (hP.sub [0, 1, 2, 3, 4, 5, 6, 7, 8] rfl) 0 rfl rfl rfl hl.1 rfl (Nat.le_of_ble_eq_true rfl) dX6_strange_15) rfl ?_
      refine lv_iconst (v := (1 : Int32)) hx hb dX6_strange_18 (by decide) ?_
      refine lv_icmp_ne (tgt := 37) hx hb dX6_strange_19 (by decide) (fun c4 => ?_) (fun c4 => ?_)
      · have hf := g_ifF c4 hf
        refine lv_iconst (v := (0 : Int32)) hx hb dX6_strange_37 (by decide) ?_
        refine lv_iadd hx hb dX6_strange_38 ?_
        refine lv_istore_n (lv' := [(1, .int (x1 + (0 : Int32))), (0, .ref (a 0)), (2, .int x2)]) hx hb dX6_strange_39 rfl hl (by decide) rfl (fun ls hl => ?_)
        refine lv_iinc (v := (x2 + (1 : Int32))) (lv' := [(2, .int (x2 + (1 : Int32))), (1, .int (x1 + (0 : Int32))), (0, .ref (a 0))]) hx hb dX6_strange_40 hl (k := 2) rfl rfl (by decide) rfl (fun ls hl => ?_)
        refine lv_goto (tgt := 4) hx hb dX6_strange_43 (by decide) ?_
        exact ih _ _ _ _ _ _ _ _ _ _ _ _ _ _ _ hf hP ls (lv_sub hl [2, 1, 0] rfl)
      · have hf := g_ifT c4 hf
        refine lv_aload_n hx hb dX6_strange_22 rfl (lv_at hl 0 rfl) ?_
        refine lv_iconst (v := (1 : Int32)) hx hb dX6_strange_23 (by decide) ?_
        refine lv_iload_n hx hb dX6_strange_24 rfl (lv_at hl 2 rfl) ?_
        refine lv_iconst (v := (3 : Int32)) hx hb dX6_strange_25 (by decide) ?_
        obtain ⟨r5, e6, hf⟩ := g_bdS hf
        refine g_contR (st1 := [.int r5, .int x1]) (g_runVR (As := [.int (1 : Int32), .int x2, .int (3 : Int32)]) (rest := [.int x1]) ⟨hx, hb, hml, hown, hts⟩ (qX6_of l G a e6) (cwV 3 hts (TB_V TB_id tw_643 tw_645 tw_12 tw_54 tw_646) rfl rfl rfl (by decide +kernel) ⟨Nat.le_of_ble_eq_true rfl, Nat.le_of_ble_eq_true rfl⟩) hK (hP.sub [0, 1, 2, 3, 4, 5, 6, 7, 8] rfl) 0 rfl rfl rfl hl.1 rfl (Nat.le_of_ble_eq_true rfl) dX6_strange_26) rfl ?_
        refine lv_iconst (v := (1 : Int32)) hx hb dX6_strange_29 (by decide) ?_
        refine lv_icmp_le (tgt := 37) hx hb dX6_strange_30 (by decide) (fun c7 => ?_) (fun c7 => ?_)
        · have hf := g_ifT c7 hf
          refine lv_iconst (v := (0 : Int32)) hx hb dX6_strange_37 (by decide) ?_
          refine lv_iadd hx hb dX6_strange_38 ?_
          refine lv_istore_n (lv' := [(1, .int (x1 + (0 : Int32))), (0, .ref (a 0)), (2, .int x2)]) hx hb dX6_strange_39 rfl hl (by decide) rfl (fun ls hl => ?_)
          refine lv_iinc (v := (x2 + (1 : Int32))) (lv' := [(2, .int (x2 + (1 : Int32))), (1, .int (x1 + (0 : Int32))), (0, .ref (a 0))]) hx hb dX6_strange_40 hl (k := 2) rfl rfl (by decide) rfl (fun ls hl => ?_)
          refine lv_goto (tgt := 4) hx hb dX6_strange_43 (by decide) ?_
          exact ih _ _ _ _ _ _ _ _ _ _ _ _ _ _ _ hf hP ls (lv_sub hl [2, 1, 0] rfl)
        · have hf := g_ifF c7 hf
          refine lv_iconst (v := (1 : Int32)) hx hb dX6_strange_33 (by decide) ?_
          refine lv_goto (tgt := 38) hx hb dX6_strange_34 (by decide) ?_
          refine lv_iadd hx hb dX6_strange_38 ?_
          refine lv_istore_n (lv' := [(1, .int (x1 + (1 : Int32))), (0, .ref (a 0)), (2, .int x2)]) hx hb dX6_strange_39 rfl hl (by decide) rfl (fun ls hl => ?_)
          refine lv_iinc (v := (x2 + (1 : Int32))) (lv' := [(2, .int (x2 + (1 : Int32))), (1, .int (x1 + (1 : Int32))), (0, .ref (a 0))]) hx hb dX6_strange_40 hl (k := 2) rfl rfl (by decide) rfl (fun ls hl => ?_)
          refine lv_goto (tgt := 4) hx hb dX6_strange_43 (by decide) ?_
          exact ih _ _ _ _ _ _ _ _ _ _ _ _ _ _ _ hf hP ls (lv_sub hl [2, 1, 0] rfl)
def fX6_strange (ss : Nat → Int32) (was : Nat → Int32) (beg : Nat → Int32) (asi : Nat → Int32) (sta : Int32) (txt : Nat → Int32) (typ : Int32) (att : Int32) (rea : Int32) (got : Nat → Int32) (row : Nat → Int32) (oth : Nat → Int32) : Option (Int32) := fX6_strange_b4 2000 (0 : Int32) (0 : Int32) ss was beg asi sta txt typ att rea got row oth
set_option maxHeartbeats 4000000 in
set_option maxRecDepth 100000 in
theorem qX6_strange (l : Launch) (G : gT) (a : Nat → Nat) {ss : Nat → Int32} {was : Nat → Int32} {beg : Nat → Int32} {asi : Nat → Int32} {sta : Int32} {txt : Nat → Int32} {typ : Int32} {att : Int32} {rea : Int32} {got : Nat → Int32} {row : Nat → Int32} {oth : Nat → Int32} {u : Int32} (hf : fX6_strange ss was beg asi sta txt typ att rea got row oth = some u) : gR l G yX6_strange wsX6_strange rmX6_strange [.ref (a 0)] (modW G a ss was beg asi sta txt typ att rea got row oth) (some (.int u)) := by
  refine gR.of (cc := cX6_strange) (maxL := 3) (ret := (some .int)) (by decide) rfl (Nat.le_of_ble_eq_true rfl) ?_
  intro p e s m below meth c C0 hP ls hl
  obtain ⟨hx, hb, hr, hts, hown, hlocks, hml, hK⟩ := id C0
  have hl : lv_has ls 3 [(0, .ref (a 0))] := hl
  have hP : va_P G.1 vwCl [((a 0), .inr (5, [.ref (a 1), .ref (a 2), .ref (a 3), .ref (a 4), .int sta, .ref (a 5), .int typ, .int att, .int rea, .ref (a 6), .ref (a 7), .ref (a 8)])), ((a 1), .inl (G.2.1, 411, .inl ss)), ((a 2), .inl (G.2.1, 1644, .inl was)), ((a 3), .inl (G.2.1, 411, .inl beg)), ((a 4), .inl (G.2.1, 411, .inl asi)), ((a 5), .inl (G.2.2.1, 60, .inl txt)), ((a 6), .inl (G.2.1, 4, .inl got)), ((a 7), .inl (G.2.1, 4, .inl row)), ((a 8), .inl (G.2.1, 4, .inl oth))] s.heap := hP
  unfold fX6_strange at hf
  refine lv_iconst (v := (0 : Int32)) hx hb dX6_strange_0 (by decide) ?_
  refine lv_istore_n (lv' := [(1, .int (0 : Int32)), (0, .ref (a 0))]) hx hb dX6_strange_1 rfl hl (by decide) rfl (fun ls hl => ?_)
  refine lv_iconst (v := (0 : Int32)) hx hb dX6_strange_2 (by decide) ?_
  refine lv_istore_n (lv' := [(2, .int (0 : Int32)), (1, .int (0 : Int32)), (0, .ref (a 0))]) hx hb dX6_strange_3 rfl hl (by decide) rfl (fun ls hl => ?_)
  exact kX6_strange_b4 C0 2000 _ _ _ _ _ _ _ _ _ _ _ _ _ _ _ hf hP ls (lv_sub hl [2, 1, 0] rfl)
-- TwoShapesModel.drop()I
abbrev rmX6_drop : Room := { frames := 5, cells := 0, slots := 0, locals := 112 }
def fX6_drop (ss : Nat → Int32) (was : Nat → Int32) (beg : Nat → Int32) (asi : Nat → Int32) (sta : Int32) (txt : Nat → Int32) (typ : Int32) (att : Int32) (rea : Int32) (got : Nat → Int32) (row : Nat → Int32) (oth : Nat → Int32) : Option (Int32 × (Nat → Int32) × (Nat → Int32) × (Nat → Int32) × (Nat → Int32) × Int32 × (Nat → Int32) × Int32 × Int32 × Int32 × (Nat → Int32) × (Nat → Int32) × (Nat → Int32)) := g_gd (g_in (0 : Int32) 411) ((if (ss (0 : Int32).toNatClampNeg) = (2 : Int32) then g_gd (g_in (3 : Int32) 411) ((if (0 : Int32) < (ss (3 : Int32).toNatClampNeg) then some ((-1000002 : Int32), ss, was, beg, asi, sta, txt, typ, att, rea, got, row, oth) else ((fX6_differing ss was beg asi sta txt typ att rea got row oth).bind fun r5 => (if r5.1 = (0 : Int32) then ((fX6_keeps r5.2.1 r5.2.2.1 r5.2.2.2.1 r5.2.2.2.2.1 r5.2.2.2.2.2.1 r5.2.2.2.2.2.2.1 r5.2.2.2.2.2.2.2.1 r5.2.2.2.2.2.2.2.2.1 r5.2.2.2.2.2.2.2.2.2.1 r5.2.2.2.2.2.2.2.2.2.2.1 r5.2.2.2.2.2.2.2.2.2.2.2.1 r5.2.2.2.2.2.2.2.2.2.2.2.2).bind fun r8 => g_gd (g_in (0 : Int32) 411) (((fX6_clears (0 : Int32) (upd r8.1 (0 : Int32).toNatClampNeg (3 : Int32)) r8.2.1 r8.2.2.1 r8.2.2.2.1 r8.2.2.2.2.1 r8.2.2.2.2.2.1 r8.2.2.2.2.2.2.1 r8.2.2.2.2.2.2.2.1 r8.2.2.2.2.2.2.2.2.1 r8.2.2.2.2.2.2.2.2.2.1 r8.2.2.2.2.2.2.2.2.2.2.1 r8.2.2.2.2.2.2.2.2.2.2.2).bind fun r11 => ((fX6_strange r11.1 r11.2.1 r11.2.2.1 r11.2.2.2.1 r11.2.2.2.2.1 r11.2.2.2.2.2.1 r11.2.2.2.2.2.2.1 r11.2.2.2.2.2.2.2.1 r11.2.2.2.2.2.2.2.2.1 r11.2.2.2.2.2.2.2.2.2.1 r11.2.2.2.2.2.2.2.2.2.2.1 r11.2.2.2.2.2.2.2.2.2.2.2).bind fun r13 => ((fX6_acted r13 r11.1 r11.2.1 r11.2.2.1 r11.2.2.2.1 r11.2.2.2.2.1 r11.2.2.2.2.2.1 r11.2.2.2.2.2.2.1 r11.2.2.2.2.2.2.2.1 r11.2.2.2.2.2.2.2.2.1 r11.2.2.2.2.2.2.2.2.2.1 r11.2.2.2.2.2.2.2.2.2.2.1 r11.2.2.2.2.2.2.2.2.2.2.2).bind fun r15 => some (r15.1, r15.2.1, r15.2.2.1, r15.2.2.2.1, r15.2.2.2.2.1, r15.2.2.2.2.2.1, r15.2.2.2.2.2.2.1, r15.2.2.2.2.2.2.2.1, r15.2.2.2.2.2.2.2.2.1, r15.2.2.2.2.2.2.2.2.2.1, r15.2.2.2.2.2.2.2.2.2.2.1, r15.2.2.2.2.2.2.2.2.2.2.2.1, r15.2.2.2.2.2.2.2.2.2.2.2.2)))))) else some ((-1000002 : Int32), r5.2.1, r5.2.2.1, r5.2.2.2.1, r5.2.2.2.2.1, r5.2.2.2.2.2.1, r5.2.2.2.2.2.2.1, r5.2.2.2.2.2.2.2.1, r5.2.2.2.2.2.2.2.2.1, r5.2.2.2.2.2.2.2.2.2.1, r5.2.2.2.2.2.2.2.2.2.2.1, r5.2.2.2.2.2.2.2.2.2.2.2.1, r5.2.2.2.2.2.2.2.2.2.2.2.2))))) else some ((-1000002 : Int32), ss, was, beg, asi, sta, txt, typ, att, rea, got, row, oth)))
set_option maxHeartbeats 4000000 in
set_option maxRecDepth 100000 in
theorem qX6_drop (l : Launch) (G : gT) (a : Nat → Nat) {ss : Nat → Int32} {was : Nat → Int32} {beg : Nat → Int32} {asi : Nat → Int32} {sta : Int32} {txt : Nat → Int32} {typ : Int32} {att : Int32} {rea : Int32} {got : Nat → Int32} {row : Nat → Int32} {oth : Nat → Int32} {u : Int32 × (Nat → Int32) × (Nat → Int32) × (Nat → Int32) × (Nat → Int32) × Int32 × (Nat → Int32) × Int32 × Int32 × Int32 × (Nat → Int32) × (Nat → Int32) × (Nat → Int32)} (hf : fX6_drop ss was beg asi sta txt typ att rea got row oth = some u) : gC l G yX6_drop wsX6_drop rmX6_drop [.ref (a 0)] (modW G a ss was beg asi sta txt typ att rea got row oth) (some (.int u.1)) (modW G a u.2.1 u.2.2.1 u.2.2.2.1 u.2.2.2.2.1 u.2.2.2.2.2.1 u.2.2.2.2.2.2.1 u.2.2.2.2.2.2.2.1 u.2.2.2.2.2.2.2.2.1 u.2.2.2.2.2.2.2.2.2.1 u.2.2.2.2.2.2.2.2.2.2.1 u.2.2.2.2.2.2.2.2.2.2.2.1 u.2.2.2.2.2.2.2.2.2.2.2.2) := by
  refine gC.of (cc := cX6_drop) (maxL := 1) (ret := (some .int)) (by decide) rfl (Nat.le_of_ble_eq_true rfl) ?_
  intro p e s m below meth c C0 hP hD hS ls hl
  obtain ⟨hx, hb, hr, hts, hown, hlocks, hml, hK⟩ := id C0
  have hl : lv_has ls 1 [(0, .ref (a 0))] := hl
  have hA : ∀ q : Nat, s.heap.size ≤ q → va_A (modW G a ss was beg asi sta txt typ att rea got row oth) s.heap.size q := fun q h => Or.inr h
  have hP : va_P G.1 vwCl [((a 0), .inr (5, [.ref (a 1), .ref (a 2), .ref (a 3), .ref (a 4), .int sta, .ref (a 5), .int typ, .int att, .int rea, .ref (a 6), .ref (a 7), .ref (a 8)])), ((a 1), .inl (G.2.1, 411, .inl ss)), ((a 2), .inl (G.2.1, 1644, .inl was)), ((a 3), .inl (G.2.1, 411, .inl beg)), ((a 4), .inl (G.2.1, 411, .inl asi)), ((a 5), .inl (G.2.2.1, 60, .inl txt)), ((a 6), .inl (G.2.1, 4, .inl got)), ((a 7), .inl (G.2.1, 4, .inl row)), ((a 8), .inl (G.2.1, 4, .inl oth))] s.heap := hP
  have hD : va_D (va_A (modW G a ss was beg asi sta txt typ att rea got row oth) s.heap.size) [((a 0), .inr (5, [.ref (a 1), .ref (a 2), .ref (a 3), .ref (a 4), .int sta, .ref (a 5), .int typ, .int att, .int rea, .ref (a 6), .ref (a 7), .ref (a 8)])), ((a 1), .inl (G.2.1, 411, .inl ss)), ((a 2), .inl (G.2.1, 1644, .inl was)), ((a 3), .inl (G.2.1, 411, .inl beg)), ((a 4), .inl (G.2.1, 411, .inl asi)), ((a 5), .inl (G.2.2.1, 60, .inl txt)), ((a 6), .inl (G.2.1, 4, .inl got)), ((a 7), .inl (G.2.1, 4, .inl row)), ((a 8), .inl (G.2.1, 4, .inl oth))] := hD
  unfold fX6_drop at hf
  refine lv_aload_n hx hb dX6_drop_0 rfl (lv_at hl 0 rfl) ?_
  refine va_get (D := G.1) (ci := 5) (v := .ref (a 1)) (C := RX6) (T := TX6) (N := 12) hx hb hts hX6 hown hK.1 hP 0 rfl rfl 0 (by decide) (hts _ tw_588) (fun _ h9 => h9) rfl dX6_drop_1 ?_
  refine lv_iconst (v := (0 : Int32)) hx hb dX6_drop_4 (by decide) ?_
  obtain ⟨g1, hf⟩ := g_gdS hf
  refine va_iald hx hb hK.1 hP 1 0 rfl rfl (g_in_vp g1) dX6_drop_5 ?_
  refine lv_iconst (v := (2 : Int32)) hx hb dX6_drop_6 (by decide) ?_
  refine lv_icmp_ne (tgt := 26) hx hb dX6_drop_7 (by decide) (fun c2 => ?_) (fun c2 => ?_)
  · have hf := g_ifF c2 hf
    refine lv_ldc (v := (-1000002 : Int32)) hx hb hown (hts _ tw_630) dX6_drop_26 ?_
    cases hf
    exact g_iretC hx hb hr hlocks hP hD hS dX6_drop_28
  · have hf := g_ifT c2 hf
    refine lv_aload_n hx hb dX6_drop_10 rfl (lv_at hl 0 rfl) ?_
    refine va_get (D := G.1) (ci := 5) (v := .ref (a 1)) (C := RX6) (T := TX6) (N := 12) hx hb hts hX6 hown hK.1 hP 0 rfl rfl 0 (by decide) (hts _ tw_588) (fun _ h9 => h9) rfl dX6_drop_11 ?_
    refine lv_iconst (v := (3 : Int32)) hx hb dX6_drop_14 (by decide) ?_
    obtain ⟨g3, hf⟩ := g_gdS hf
    refine va_iald hx hb hK.1 hP 1 0 rfl rfl (g_in_vp g3) dX6_drop_15 ?_
    refine lv_if_gt (tgt := 26) hx hb dX6_drop_16 (by decide) (fun c4 => ?_) (fun c4 => ?_)
    · have hf := g_ifT c4 hf
      refine lv_ldc (v := (-1000002 : Int32)) hx hb hown (hts _ tw_630) dX6_drop_26 ?_
      cases hf
      exact g_iretC hx hb hr hlocks hP hD hS dX6_drop_28
    · have hf := g_ifF c4 hf
      refine lv_aload_n hx hb dX6_drop_19 rfl (lv_at hl 0 rfl) ?_
      obtain ⟨r5, e6, hf⟩ := g_bdS hf
      refine g_contC (st1 := [.int r5.1]) (g_runVC (As := []) (rest := []) ⟨hx, hb, hml, hown, hts⟩ (qX6_differing l G a e6) (cwV 0 hts (TB_V TB_id tw_667 tw_669 tw_16 tw_54 tw_670) rfl rfl rfl (by decide +kernel) ⟨Nat.le_of_ble_eq_true rfl, Nat.le_of_ble_eq_true rfl⟩) hK (hP.sub [0, 1, 2, 3, 4, 5, 6, 7, 8] rfl) (hD.sub [0, 1, 2, 3, 4, 5, 6, 7, 8] (by decide) rfl) 0 rfl rfl rfl hl.1 rfl (Nat.le_of_ble_eq_true rfl) dX6_drop_20) rfl hP hD hS hA [0, 1, 2, 3, 4, 5, 6, 7, 8] rfl rfl (fun H locs hP hD hS => ?_)
      have hP : va_P G.1 vwCl [((a 0), .inr (5, [.ref (a 1), .ref (a 2), .ref (a 3), .ref (a 4), .int r5.2.2.2.2.2.1, .ref (a 5), .int r5.2.2.2.2.2.2.2.1, .int r5.2.2.2.2.2.2.2.2.1, .int r5.2.2.2.2.2.2.2.2.2.1, .ref (a 6), .ref (a 7), .ref (a 8)])), ((a 1), .inl (G.2.1, 411, .inl r5.2.1)), ((a 2), .inl (G.2.1, 1644, .inl r5.2.2.1)), ((a 3), .inl (G.2.1, 411, .inl r5.2.2.2.1)), ((a 4), .inl (G.2.1, 411, .inl r5.2.2.2.2.1)), ((a 5), .inl (G.2.2.1, 60, .inl r5.2.2.2.2.2.2.1)), ((a 6), .inl (G.2.1, 4, .inl r5.2.2.2.2.2.2.2.2.2.2.1)), ((a 7), .inl (G.2.1, 4, .inl r5.2.2.2.2.2.2.2.2.2.2.2.1)), ((a 8), .inl (G.2.1, 4, .inl r5.2.2.2.2.2.2.2.2.2.2.2.2))] H := hP
      have hD : va_D (va_A (modW G a ss was beg asi sta txt typ att rea got row oth) s.heap.size) [((a 0), .inr (5, [.ref (a 1), .ref (a 2), .ref (a 3), .ref (a 4), .int r5.2.2.2.2.2.1, .ref (a 5), .int r5.2.2.2.2.2.2.2.1, .int r5.2.2.2.2.2.2.2.2.1, .int r5.2.2.2.2.2.2.2.2.2.1, .ref (a 6), .ref (a 7), .ref (a 8)])), ((a 1), .inl (G.2.1, 411, .inl r5.2.1)), ((a 2), .inl (G.2.1, 1644, .inl r5.2.2.1)), ((a 3), .inl (G.2.1, 411, .inl r5.2.2.2.1)), ((a 4), .inl (G.2.1, 411, .inl r5.2.2.2.2.1)), ((a 5), .inl (G.2.2.1, 60, .inl r5.2.2.2.2.2.2.1)), ((a 6), .inl (G.2.1, 4, .inl r5.2.2.2.2.2.2.2.2.2.2.1)), ((a 7), .inl (G.2.1, 4, .inl r5.2.2.2.2.2.2.2.2.2.2.2.1)), ((a 8), .inl (G.2.1, 4, .inl r5.2.2.2.2.2.2.2.2.2.2.2.2))] := hD
      refine lv_if_eq (tgt := 29) hx hb dX6_drop_23 (by decide) (fun c7 => ?_) (fun c7 => ?_)
      · have hf := g_ifT c7 hf
        refine lv_aload_n hx hb dX6_drop_29 rfl (lv_at hl 0 rfl) ?_
        obtain ⟨r8, e9, hf⟩ := g_bdS hf
        refine g_contC (st1 := []) (g_runVC (As := []) (rest := []) ⟨hx, hb, hml, hown, hts⟩ (qX6_keeps l G a e9) (cwV 0 hts (TB_V TB_id tw_631 tw_633 tw_9 tw_54 tw_634) rfl rfl rfl (by decide +kernel) ⟨Nat.le_of_ble_eq_true rfl, Nat.le_of_ble_eq_true rfl⟩) hK (hP.sub [0, 1, 2, 3, 4, 5, 6, 7, 8] rfl) (hD.sub [0, 1, 2, 3, 4, 5, 6, 7, 8] (by decide) rfl) 0 rfl rfl rfl hl.1 rfl (Nat.le_of_ble_eq_true rfl) dX6_drop_30) rfl hP hD hS hA [0, 1, 2, 3, 4, 5, 6, 7, 8] rfl rfl (fun H locs hP hD hS => ?_)
        have hP : va_P G.1 vwCl [((a 0), .inr (5, [.ref (a 1), .ref (a 2), .ref (a 3), .ref (a 4), .int r8.2.2.2.2.1, .ref (a 5), .int r8.2.2.2.2.2.2.1, .int r8.2.2.2.2.2.2.2.1, .int r8.2.2.2.2.2.2.2.2.1, .ref (a 6), .ref (a 7), .ref (a 8)])), ((a 1), .inl (G.2.1, 411, .inl r8.1)), ((a 2), .inl (G.2.1, 1644, .inl r8.2.1)), ((a 3), .inl (G.2.1, 411, .inl r8.2.2.1)), ((a 4), .inl (G.2.1, 411, .inl r8.2.2.2.1)), ((a 5), .inl (G.2.2.1, 60, .inl r8.2.2.2.2.2.1)), ((a 6), .inl (G.2.1, 4, .inl r8.2.2.2.2.2.2.2.2.2.1)), ((a 7), .inl (G.2.1, 4, .inl r8.2.2.2.2.2.2.2.2.2.2.1)), ((a 8), .inl (G.2.1, 4, .inl r8.2.2.2.2.2.2.2.2.2.2.2))] H := hP
        have hD : va_D (va_A (modW G a ss was beg asi sta txt typ att rea got row oth) s.heap.size) [((a 0), .inr (5, [.ref (a 1), .ref (a 2), .ref (a 3), .ref (a 4), .int r8.2.2.2.2.1, .ref (a 5), .int r8.2.2.2.2.2.2.1, .int r8.2.2.2.2.2.2.2.1, .int r8.2.2.2.2.2.2.2.2.1, .ref (a 6), .ref (a 7), .ref (a 8)])), ((a 1), .inl (G.2.1, 411, .inl r8.1)), ((a 2), .inl (G.2.1, 1644, .inl r8.2.1)), ((a 3), .inl (G.2.1, 411, .inl r8.2.2.1)), ((a 4), .inl (G.2.1, 411, .inl r8.2.2.2.1)), ((a 5), .inl (G.2.2.1, 60, .inl r8.2.2.2.2.2.1)), ((a 6), .inl (G.2.1, 4, .inl r8.2.2.2.2.2.2.2.2.2.1)), ((a 7), .inl (G.2.1, 4, .inl r8.2.2.2.2.2.2.2.2.2.2.1)), ((a 8), .inl (G.2.1, 4, .inl r8.2.2.2.2.2.2.2.2.2.2.2))] := hD
        refine lv_aload_n hx hb dX6_drop_33 rfl (lv_at hl 0 rfl) ?_
        refine va_get (D := G.1) (ci := 5) (v := .ref (a 1)) (C := RX6) (T := TX6) (N := 12) hx hb hts hX6 hown hK.1 hP 0 rfl rfl 0 (by decide) (hts _ tw_588) (fun _ h9 => h9) rfl dX6_drop_34 ?_
        refine lv_iconst (v := (0 : Int32)) hx hb dX6_drop_37 (by decide) ?_
        refine lv_iconst (v := (3 : Int32)) hx hb dX6_drop_38 (by decide) ?_
        obtain ⟨g10, hf⟩ := g_gdS hf
        refine va_iast hx hb hK.1 hP hD hS 1 0 rfl rfl (g_in_vp g10) dX6_drop_39 (fun H locs hP hD hS => ?_)
        have hP : va_P G.1 vwCl [((a 0), .inr (5, [.ref (a 1), .ref (a 2), .ref (a 3), .ref (a 4), .int r8.2.2.2.2.1, .ref (a 5), .int r8.2.2.2.2.2.2.1, .int r8.2.2.2.2.2.2.2.1, .int r8.2.2.2.2.2.2.2.2.1, .ref (a 6), .ref (a 7), .ref (a 8)])), ((a 1), .inl (G.2.1, 411, .inl (upd r8.1 (0 : Int32).toNatClampNeg (3 : Int32)))), ((a 2), .inl (G.2.1, 1644, .inl r8.2.1)), ((a 3), .inl (G.2.1, 411, .inl r8.2.2.1)), ((a 4), .inl (G.2.1, 411, .inl r8.2.2.2.1)), ((a 5), .inl (G.2.2.1, 60, .inl r8.2.2.2.2.2.1)), ((a 6), .inl (G.2.1, 4, .inl r8.2.2.2.2.2.2.2.2.2.1)), ((a 7), .inl (G.2.1, 4, .inl r8.2.2.2.2.2.2.2.2.2.2.1)), ((a 8), .inl (G.2.1, 4, .inl r8.2.2.2.2.2.2.2.2.2.2.2))] H := hP
        have hD : va_D (va_A (modW G a ss was beg asi sta txt typ att rea got row oth) s.heap.size) [((a 0), .inr (5, [.ref (a 1), .ref (a 2), .ref (a 3), .ref (a 4), .int r8.2.2.2.2.1, .ref (a 5), .int r8.2.2.2.2.2.2.1, .int r8.2.2.2.2.2.2.2.1, .int r8.2.2.2.2.2.2.2.2.1, .ref (a 6), .ref (a 7), .ref (a 8)])), ((a 1), .inl (G.2.1, 411, .inl (upd r8.1 (0 : Int32).toNatClampNeg (3 : Int32)))), ((a 2), .inl (G.2.1, 1644, .inl r8.2.1)), ((a 3), .inl (G.2.1, 411, .inl r8.2.2.1)), ((a 4), .inl (G.2.1, 411, .inl r8.2.2.2.1)), ((a 5), .inl (G.2.2.1, 60, .inl r8.2.2.2.2.2.1)), ((a 6), .inl (G.2.1, 4, .inl r8.2.2.2.2.2.2.2.2.2.1)), ((a 7), .inl (G.2.1, 4, .inl r8.2.2.2.2.2.2.2.2.2.2.1)), ((a 8), .inl (G.2.1, 4, .inl r8.2.2.2.2.2.2.2.2.2.2.2))] := hD
        refine lv_aload_n hx hb dX6_drop_40 rfl (lv_at hl 0 rfl) ?_
        refine lv_iconst (v := (0 : Int32)) hx hb dX6_drop_41 (by decide) ?_
        obtain ⟨r11, e12, hf⟩ := g_bdS hf
        refine g_contC (st1 := []) (g_runVC (As := [.int (0 : Int32)]) (rest := []) ⟨hx, hb, hml, hown, hts⟩ (qX6_clears l G a e12) (cwV 1 hts (TB_V TB_id tw_635 tw_637 tw_10 tw_54 tw_638) rfl rfl rfl (by decide +kernel) ⟨Nat.le_of_ble_eq_true rfl, Nat.le_of_ble_eq_true rfl⟩) hK (hP.sub [0, 1, 2, 3, 4, 5, 6, 7, 8] rfl) (hD.sub [0, 1, 2, 3, 4, 5, 6, 7, 8] (by decide) rfl) 0 rfl rfl rfl hl.1 rfl (Nat.le_of_ble_eq_true rfl) dX6_drop_42) rfl hP hD hS hA [0, 1, 2, 3, 4, 5, 6, 7, 8] rfl rfl (fun H locs hP hD hS => ?_)
        have hP : va_P G.1 vwCl [((a 0), .inr (5, [.ref (a 1), .ref (a 2), .ref (a 3), .ref (a 4), .int r11.2.2.2.2.1, .ref (a 5), .int r11.2.2.2.2.2.2.1, .int r11.2.2.2.2.2.2.2.1, .int r11.2.2.2.2.2.2.2.2.1, .ref (a 6), .ref (a 7), .ref (a 8)])), ((a 1), .inl (G.2.1, 411, .inl r11.1)), ((a 2), .inl (G.2.1, 1644, .inl r11.2.1)), ((a 3), .inl (G.2.1, 411, .inl r11.2.2.1)), ((a 4), .inl (G.2.1, 411, .inl r11.2.2.2.1)), ((a 5), .inl (G.2.2.1, 60, .inl r11.2.2.2.2.2.1)), ((a 6), .inl (G.2.1, 4, .inl r11.2.2.2.2.2.2.2.2.2.1)), ((a 7), .inl (G.2.1, 4, .inl r11.2.2.2.2.2.2.2.2.2.2.1)), ((a 8), .inl (G.2.1, 4, .inl r11.2.2.2.2.2.2.2.2.2.2.2))] H := hP
        have hD : va_D (va_A (modW G a ss was beg asi sta txt typ att rea got row oth) s.heap.size) [((a 0), .inr (5, [.ref (a 1), .ref (a 2), .ref (a 3), .ref (a 4), .int r11.2.2.2.2.1, .ref (a 5), .int r11.2.2.2.2.2.2.1, .int r11.2.2.2.2.2.2.2.1, .int r11.2.2.2.2.2.2.2.2.1, .ref (a 6), .ref (a 7), .ref (a 8)])), ((a 1), .inl (G.2.1, 411, .inl r11.1)), ((a 2), .inl (G.2.1, 1644, .inl r11.2.1)), ((a 3), .inl (G.2.1, 411, .inl r11.2.2.1)), ((a 4), .inl (G.2.1, 411, .inl r11.2.2.2.1)), ((a 5), .inl (G.2.2.1, 60, .inl r11.2.2.2.2.2.1)), ((a 6), .inl (G.2.1, 4, .inl r11.2.2.2.2.2.2.2.2.2.1)), ((a 7), .inl (G.2.1, 4, .inl r11.2.2.2.2.2.2.2.2.2.2.1)), ((a 8), .inl (G.2.1, 4, .inl r11.2.2.2.2.2.2.2.2.2.2.2))] := hD
        refine lv_aload_n hx hb dX6_drop_45 rfl (lv_at hl 0 rfl) ?_
        refine lv_aload_n hx hb dX6_drop_46 rfl (lv_at hl 0 rfl) ?_
        obtain ⟨r13, e14, hf⟩ := g_bdS hf
        refine g_contR (st1 := [.int r13, .ref (a 0)]) (g_runVR (As := []) (rest := [.ref (a 0)]) ⟨hx, hb, hml, hown, hts⟩ (qX6_strange l G a e14) (cwV 0 hts (TB_V TB_id tw_699 tw_701 tw_22 tw_54 tw_702) rfl rfl rfl (by decide +kernel) ⟨Nat.le_of_ble_eq_true rfl, Nat.le_of_ble_eq_true rfl⟩) hK (hP.sub [0, 1, 2, 3, 4, 5, 6, 7, 8] rfl) 0 rfl rfl rfl hl.1 rfl (Nat.le_of_ble_eq_true rfl) dX6_drop_47) rfl ?_
        obtain ⟨r15, e16, hf⟩ := g_bdS hf
        refine g_contC (st1 := [.int r15.1]) (g_runVC (As := [.int r13]) (rest := []) ⟨hx, hb, hml, hown, hts⟩ (qX6_acted l G a e16) (cwV 1 hts (TB_V TB_id tw_650 tw_652 tw_13 tw_54 tw_653) rfl rfl rfl (by decide +kernel) ⟨Nat.le_of_ble_eq_true rfl, Nat.le_of_ble_eq_true rfl⟩) hK (hP.sub [0, 1, 2, 3, 4, 5, 6, 7, 8] rfl) (hD.sub [0, 1, 2, 3, 4, 5, 6, 7, 8] (by decide) rfl) 0 rfl rfl rfl hl.1 rfl (Nat.le_of_ble_eq_true rfl) dX6_drop_50) rfl hP hD hS hA [0, 1, 2, 3, 4, 5, 6, 7, 8] rfl rfl (fun H locs hP hD hS => ?_)
        have hP : va_P G.1 vwCl [((a 0), .inr (5, [.ref (a 1), .ref (a 2), .ref (a 3), .ref (a 4), .int r15.2.2.2.2.2.1, .ref (a 5), .int r15.2.2.2.2.2.2.2.1, .int r15.2.2.2.2.2.2.2.2.1, .int r15.2.2.2.2.2.2.2.2.2.1, .ref (a 6), .ref (a 7), .ref (a 8)])), ((a 1), .inl (G.2.1, 411, .inl r15.2.1)), ((a 2), .inl (G.2.1, 1644, .inl r15.2.2.1)), ((a 3), .inl (G.2.1, 411, .inl r15.2.2.2.1)), ((a 4), .inl (G.2.1, 411, .inl r15.2.2.2.2.1)), ((a 5), .inl (G.2.2.1, 60, .inl r15.2.2.2.2.2.2.1)), ((a 6), .inl (G.2.1, 4, .inl r15.2.2.2.2.2.2.2.2.2.2.1)), ((a 7), .inl (G.2.1, 4, .inl r15.2.2.2.2.2.2.2.2.2.2.2.1)), ((a 8), .inl (G.2.1, 4, .inl r15.2.2.2.2.2.2.2.2.2.2.2.2))] H := hP
        have hD : va_D (va_A (modW G a ss was beg asi sta txt typ att rea got row oth) s.heap.size) [((a 0), .inr (5, [.ref (a 1), .ref (a 2), .ref (a 3), .ref (a 4), .int r15.2.2.2.2.2.1, .ref (a 5), .int r15.2.2.2.2.2.2.2.1, .int r15.2.2.2.2.2.2.2.2.1, .int r15.2.2.2.2.2.2.2.2.2.1, .ref (a 6), .ref (a 7), .ref (a 8)])), ((a 1), .inl (G.2.1, 411, .inl r15.2.1)), ((a 2), .inl (G.2.1, 1644, .inl r15.2.2.1)), ((a 3), .inl (G.2.1, 411, .inl r15.2.2.2.1)), ((a 4), .inl (G.2.1, 411, .inl r15.2.2.2.2.1)), ((a 5), .inl (G.2.2.1, 60, .inl r15.2.2.2.2.2.2.1)), ((a 6), .inl (G.2.1, 4, .inl r15.2.2.2.2.2.2.2.2.2.2.1)), ((a 7), .inl (G.2.1, 4, .inl r15.2.2.2.2.2.2.2.2.2.2.2.1)), ((a 8), .inl (G.2.1, 4, .inl r15.2.2.2.2.2.2.2.2.2.2.2.2))] := hD
        cases hf
        exact g_iretC hx hb hr hlocks hP hD hS dX6_drop_53
      · have hf := g_ifF c7 hf
        refine lv_ldc (v := (-1000002 : Int32)) hx hb hown (hts _ tw_630) dX6_drop_26 ?_
        cases hf
        exact g_iretC hx hb hr hlocks hP hD hS dX6_drop_28
