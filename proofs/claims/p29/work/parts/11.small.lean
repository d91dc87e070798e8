-- TwoShapes.isBelow(II)Z
abbrev rmX5_isBelow : Room := { frames := 0, cells := 0, slots := 0, locals := 0 }
def fX5_isBelow (p0 : Int32) (p1 : Int32) : Option (Int32) := (if p0 < (0 : Int32) then some ((0 : Int32)) else (if p1 ≤ p0 then some ((0 : Int32)) else some ((1 : Int32))))
set_option maxHeartbeats 4000000 in
set_option maxRecDepth 100000 in
theorem qX5_isBelow (l : Launch) (G : gT)  {p0 : Int32} {p1 : Int32} {u : Int32} (hf : fX5_isBelow p0 p1 = some u) : gR l G yX5_isBelow wsX5_isBelow rmX5_isBelow [.int p0, .int p1] [] (some (.int u)) := by
  refine gR.of (cc := cX5_isBelow) (maxL := 2) (ret := (some .boolean)) (by decide) rfl (Nat.le_of_ble_eq_true rfl) ?_
  intro p e s m below meth c C0 hP ls hl
  obtain ⟨hx, hb, hr, hts, hown, hlocks, hml, hK⟩ := id C0
  have hl : lv_has ls 2 [(0, .int p0), (1, .int p1)] := hl
  have hP : va_P G.1 vwCl [] s.heap := hP
  unfold fX5_isBelow at hf
  refine lv_iload_n hx hb dX5_isBelow_0 rfl (lv_at hl 0 rfl) ?_
  refine lv_if_lt (tgt := 13) hx hb dX5_isBelow_1 (by decide) (fun c1 => ?_) (fun c1 => ?_)
  · have hf := g_ifT c1 hf
    refine lv_iconst (v := (0 : Int32)) hx hb dX5_isBelow_13 (by decide) ?_
    cases hf
    exact g_zretR hx hb hr hlocks g_nb0 dX5_isBelow_14
  · have hf := g_ifF c1 hf
    refine lv_iload_n hx hb dX5_isBelow_4 rfl (lv_at hl 0 rfl) ?_
    refine lv_iload_n hx hb dX5_isBelow_5 rfl (lv_at hl 1 rfl) ?_
    refine lv_icmp_ge (tgt := 13) hx hb dX5_isBelow_6 (by decide) (fun c2 => ?_) (fun c2 => ?_)
    · have hf := g_ifT c2 hf
      refine lv_iconst (v := (0 : Int32)) hx hb dX5_isBelow_13 (by decide) ?_
      cases hf
      exact g_zretR hx hb hr hlocks g_nb0 dX5_isBelow_14
    · have hf := g_ifF c2 hf
      refine lv_iconst (v := (1 : Int32)) hx hb dX5_isBelow_9 (by decide) ?_
      refine lv_goto (tgt := 14) hx hb dX5_isBelow_10 (by decide) ?_
      cases hf
      exact g_zretR hx hb hr hlocks g_nb1 dX5_isBelow_14
-- TwoShapes$Row.ofNew(II)I
abbrev rmX2_ofNew : Room := { frames := 0, cells := 0, slots := 0, locals := 0 }
def fX2_ofNew (p0 : Int32) (p1 : Int32) : Option (Int32) := some ((((4 : Int32) * p0) + p1))
set_option maxHeartbeats 4000000 in
set_option maxRecDepth 100000 in
theorem qX2_ofNew (l : Launch) (G : gT)  {p0 : Int32} {p1 : Int32} {u : Int32} (hf : fX2_ofNew p0 p1 = some u) : gR l G yX2_ofNew wsX2_ofNew rmX2_ofNew [.int p0, .int p1] [] (some (.int u)) := by
  refine gR.of (cc := cX2_ofNew) (maxL := 2) (ret := (some .int)) (by decide) rfl (Nat.le_of_ble_eq_true rfl) ?_
  intro p e s m below meth c C0 hP ls hl
  obtain ⟨hx, hb, hr, hts, hown, hlocks, hml, hK⟩ := id C0
  have hl : lv_has ls 2 [(0, .int p0), (1, .int p1)] := hl
  have hP : va_P G.1 vwCl [] s.heap := hP
  unfold fX2_ofNew at hf
  refine lv_iconst (v := (4 : Int32)) hx hb dX2_ofNew_0 (by decide) ?_
  refine lv_iload_n hx hb dX2_ofNew_1 rfl (lv_at hl 0 rfl) ?_
  refine lv_imul hx hb dX2_ofNew_2 ?_
  refine lv_iload_n hx hb dX2_ofNew_3 rfl (lv_at hl 1 rfl) ?_
  refine lv_iadd hx hb dX2_ofNew_4 ?_
  cases hf
  exact g_iretR hx hb hr hlocks dX2_ofNew_5
-- TwoShapes$Row.ofOld(III)I
abbrev rmX2_ofOld : Room := { frames := 1, cells := 0, slots := 0, locals := 21 }
def fX2_ofOld (p0 : Int32) (p1 : Int32) (p2 : Int32) : Option (Int32) := ((fX2_ofNew (((10 : Int32) * p0) + p1) p2).bind fun r1 => some (r1))
set_option maxHeartbeats 4000000 in
set_option maxRecDepth 100000 in
theorem qX2_ofOld (l : Launch) (G : gT)  {p0 : Int32} {p1 : Int32} {p2 : Int32} {u : Int32} (hf : fX2_ofOld p0 p1 p2 = some u) : gR l G yX2_ofOld wsX2_ofOld rmX2_ofOld [.int p0, .int p1, .int p2] [] (some (.int u)) := by
  refine gR.of (cc := cX2_ofOld) (maxL := 3) (ret := (some .int)) (by decide) rfl (Nat.le_of_ble_eq_true rfl) ?_
  intro p e s m below meth c C0 hP ls hl
  obtain ⟨hx, hb, hr, hts, hown, hlocks, hml, hK⟩ := id C0
  have hl : lv_has ls 3 [(0, .int p0), (1, .int p1), (2, .int p2)] := hl
  have hP : va_P G.1 vwCl [] s.heap := hP
  unfold fX2_ofOld at hf
  refine lv_bipush (v := (10 : Int32)) hx hb dX2_ofOld_0 (by decide) ?_
  refine lv_iload_n hx hb dX2_ofOld_2 rfl (lv_at hl 0 rfl) ?_
  refine lv_imul hx hb dX2_ofOld_3 ?_
  refine lv_iload_n hx hb dX2_ofOld_4 rfl (lv_at hl 1 rfl) ?_
  refine lv_iadd hx hb dX2_ofOld_5 ?_
  refine lv_iload_n hx hb dX2_ofOld_6 rfl (lv_at hl 2 rfl) ?_
  obtain ⟨r1, e2, hf⟩ := g_bdS hf
  refine g_contR (st1 := [.int r1]) (g_runSR (As := [.int (((10 : Int32) * p0) + p1), .int p2]) (rest := []) ⟨hx, hb, hml, hown, hts⟩ (qX2_ofNew l G e2) (va_cwS 2 hts (TB_S TB_id tw_352 tw_323 tw_10 tw_324) rfl rfl rfl (by decide +kernel) ⟨Nat.le_of_ble_eq_true rfl, Nat.le_of_ble_eq_true rfl⟩) hK (hP.sub [] rfl) rfl hl.1 rfl (Nat.le_of_ble_eq_true rfl) dX2_ofOld_7) rfl ?_
  cases hf
  exact g_iretR hx hb hr hlocks dX2_ofOld_10
-- TwoShapes$Row.isStrange(I)Z
abbrev rmX2_isStrange : Room := { frames := 0, cells := 0, slots := 0, locals := 0 }
def fX2_isStrange (p0 : Int32) : Option (Int32) := (if p0 = (-1 : Int32) then some ((0 : Int32)) else (if (p0 - p0 / (4 : Int32) * (4 : Int32)) ≤ (1 : Int32) then some ((0 : Int32)) else some ((1 : Int32))))
set_option maxHeartbeats 4000000 in
set_option maxRecDepth 100000 in
theorem qX2_isStrange (l : Launch) (G : gT)  {p0 : Int32} {u : Int32} (hf : fX2_isStrange p0 = some u) : gR l G yX2_isStrange wsX2_isStrange rmX2_isStrange [.int p0] [] (some (.int u)) := by
  refine gR.of (cc := cX2_isStrange) (maxL := 1) (ret := (some .boolean)) (by decide) rfl (Nat.le_of_ble_eq_true rfl) ?_
  intro p e s m below meth c C0 hP ls hl
  obtain ⟨hx, hb, hr, hts, hown, hlocks, hml, hK⟩ := id C0
  have hl : lv_has ls 1 [(0, .int p0)] := hl
  have hP : va_P G.1 vwCl [] s.heap := hP
  unfold fX2_isStrange at hf
  refine lv_iload_n hx hb dX2_isStrange_0 rfl (lv_at hl 0 rfl) ?_
  refine lv_iconst (v := (-1 : Int32)) hx hb dX2_isStrange_1 (by decide) ?_
  refine lv_icmp_eq (tgt := 16) hx hb dX2_isStrange_2 (by decide) (fun c1 => ?_) (fun c1 => ?_)
  · have hf := g_ifT c1 hf
    refine lv_iconst (v := (0 : Int32)) hx hb dX2_isStrange_16 (by decide) ?_
    cases hf
    exact g_zretR hx hb hr hlocks g_nb0 dX2_isStrange_17
  · have hf := g_ifF c1 hf
    refine lv_iload_n hx hb dX2_isStrange_5 rfl (lv_at hl 0 rfl) ?_
    refine lv_iconst (v := (4 : Int32)) hx hb dX2_isStrange_6 (by decide) ?_
    refine lv_irem hx hb dX2_isStrange_7 (by decide) ?_
    refine lv_iconst (v := (1 : Int32)) hx hb dX2_isStrange_8 (by decide) ?_
    refine lv_icmp_le (tgt := 16) hx hb dX2_isStrange_9 (by decide) (fun c2 => ?_) (fun c2 => ?_)
    · have hf := g_ifT c2 hf
      refine lv_iconst (v := (0 : Int32)) hx hb dX2_isStrange_16 (by decide) ?_
      cases hf
      exact g_zretR hx hb hr hlocks g_nb0 dX2_isStrange_17
    · have hf := g_ifF c2 hf
      refine lv_iconst (v := (1 : Int32)) hx hb dX2_isStrange_12 (by decide) ?_
      refine lv_goto (tgt := 17) hx hb dX2_isStrange_13 (by decide) ?_
      cases hf
      exact g_zretR hx hb hr hlocks g_nb1 dX2_isStrange_17
-- TwoShapes$Row.madeOver(II)I
abbrev rmX2_madeOver : Room := { frames := 0, cells := 0, slots := 0, locals := 0 }
def fX2_madeOver (p0 : Int32) (p1 : Int32) : Option (Int32) := (if p1 = (1 : Int32) then some (p0) else (if p0 = (-1 : Int32) then some (p0) else (if (p0 - p0 / (4 : Int32) * (4 : Int32)) ≤ (1 : Int32) then some (p0) else some (((p0 - (p0 - p0 / (4 : Int32) * (4 : Int32))) + (1 : Int32))))))
set_option maxHeartbeats 4000000 in
set_option maxRecDepth 100000 in
theorem qX2_madeOver (l : Launch) (G : gT)  {p0 : Int32} {p1 : Int32} {u : Int32} (hf : fX2_madeOver p0 p1 = some u) : gR l G yX2_madeOver wsX2_madeOver rmX2_madeOver [.int p0, .int p1] [] (some (.int u)) := by
  refine gR.of (cc := cX2_madeOver) (maxL := 3) (ret := (some .int)) (by decide) rfl (Nat.le_of_ble_eq_true rfl) ?_
  intro p e s m below meth c C0 hP ls hl
  obtain ⟨hx, hb, hr, hts, hown, hlocks, hml, hK⟩ := id C0
  have hl : lv_has ls 3 [(0, .int p0), (1, .int p1)] := hl
  have hP : va_P G.1 vwCl [] s.heap := hP
  unfold fX2_madeOver at hf
  refine lv_iload_n hx hb dX2_madeOver_0 rfl (lv_at hl 1 rfl) ?_
  refine lv_iconst (v := (1 : Int32)) hx hb dX2_madeOver_1 (by decide) ?_
  refine lv_icmp_eq (tgt := 10) hx hb dX2_madeOver_2 (by decide) (fun c1 => ?_) (fun c1 => ?_)
  · have hf := g_ifT c1 hf
    refine lv_iload_n hx hb dX2_madeOver_10 rfl (lv_at hl 0 rfl) ?_
    cases hf
    exact g_iretR hx hb hr hlocks dX2_madeOver_11
  · have hf := g_ifF c1 hf
    refine lv_iload_n hx hb dX2_madeOver_5 rfl (lv_at hl 0 rfl) ?_
    refine lv_iconst (v := (-1 : Int32)) hx hb dX2_madeOver_6 (by decide) ?_
    refine lv_icmp_ne (tgt := 12) hx hb dX2_madeOver_7 (by decide) (fun c2 => ?_) (fun c2 => ?_)
    · have hf := g_ifF c2 hf
      refine lv_iload_n hx hb dX2_madeOver_12 rfl (lv_at hl 0 rfl) ?_
      refine lv_iconst (v := (4 : Int32)) hx hb dX2_madeOver_13 (by decide) ?_
      refine lv_irem hx hb dX2_madeOver_14 (by decide) ?_
      refine lv_istore_n (lv' := [(2, .int (p0 - p0 / (4 : Int32) * (4 : Int32))), (0, .int p0), (1, .int p1)]) hx hb dX2_madeOver_15 rfl hl (by decide) rfl (fun ls hl => ?_)
      refine lv_iload_n hx hb dX2_madeOver_16 rfl (lv_at hl 0 rfl) ?_
      refine lv_iconst (v := (1 : Int32)) hx hb dX2_madeOver_17 (by decide) ?_
      refine lv_icmp_le (tgt := 29) hx hb dX2_madeOver_18 (by decide) (fun c3 => ?_) (fun c3 => ?_)
      · have hf := g_ifT c3 hf
        refine lv_iload_n hx hb dX2_madeOver_29 rfl (lv_at hl 1 rfl) ?_
        cases hf
        exact g_iretR hx hb hr hlocks dX2_madeOver_30
      · have hf := g_ifF c3 hf
        refine lv_iload_n hx hb dX2_madeOver_21 rfl (lv_at hl 1 rfl) ?_
        refine lv_iload_n hx hb dX2_madeOver_22 rfl (lv_at hl 0 rfl) ?_
        refine lv_isub hx hb dX2_madeOver_23 ?_
        refine lv_iconst (v := (1 : Int32)) hx hb dX2_madeOver_24 (by decide) ?_
        refine lv_iadd hx hb dX2_madeOver_25 ?_
        refine lv_goto (tgt := 30) hx hb dX2_madeOver_26 (by decide) ?_
        cases hf
        exact g_iretR hx hb hr hlocks dX2_madeOver_30
    · have hf := g_ifT c2 hf
      refine lv_iload_n hx hb dX2_madeOver_10 rfl (lv_at hl 0 rfl) ?_
      cases hf
      exact g_iretR hx hb hr hlocks dX2_madeOver_11
-- TwoShapes$Row.number(III)I
abbrev rmX2_number : Room := { frames := 0, cells := 0, slots := 0, locals := 0 }
def fX2_number (p0 : Int32) (p1 : Int32) (p2 : Int32) : Option (Int32) := (if p1 = (1 : Int32) then (if p2 = (0 : Int32) then some ((p0 / (4 : Int32))) else some ((p0 - p0 / (4 : Int32) * (4 : Int32)))) else (if p2 = (2 : Int32) then some ((p0 - p0 / (4 : Int32) * (4 : Int32))) else (if p2 = (0 : Int32) then some (((p0 / (4 : Int32)) / (10 : Int32))) else some (((p0 / (4 : Int32)) - (p0 / (4 : Int32)) / (10 : Int32) * (10 : Int32))))))
set_option maxHeartbeats 4000000 in
set_option maxRecDepth 100000 in
theorem qX2_number (l : Launch) (G : gT)  {p0 : Int32} {p1 : Int32} {p2 : Int32} {u : Int32} (hf : fX2_number p0 p1 p2 = some u) : gR l G yX2_number wsX2_number rmX2_number [.int p0, .int p1, .int p2] [] (some (.int u)) := by
  refine gR.of (cc := cX2_number) (maxL := 5) (ret := (some .int)) (by decide) rfl (Nat.le_of_ble_eq_true rfl) ?_
  intro p e s m below meth c C0 hP ls hl
  obtain ⟨hx, hb, hr, hts, hown, hlocks, hml, hK⟩ := id C0
  have hl : lv_has ls 5 [(0, .int p0), (1, .int p1), (2, .int p2)] := hl
  have hP : va_P G.1 vwCl [] s.heap := hP
  unfold fX2_number at hf
  refine lv_iload_n hx hb dX2_number_0 rfl (lv_at hl 0 rfl) ?_
  refine lv_iconst (v := (4 : Int32)) hx hb dX2_number_1 (by decide) ?_
  refine lv_idiv hx hb dX2_number_2 (by decide) ?_
  refine lv_istore_n (lv' := [(3, .int (p0 / (4 : Int32))), (0, .int p0), (1, .int p1), (2, .int p2)]) hx hb dX2_number_3 rfl hl (by decide) rfl (fun ls hl => ?_)
  refine lv_iload_n hx hb dX2_number_4 rfl (lv_at hl 1 rfl) ?_
  refine lv_iconst (v := (4 : Int32)) hx hb dX2_number_5 (by decide) ?_
  refine lv_irem hx hb dX2_number_6 (by decide) ?_
  refine lv_istore (lv' := [(4, .int (p0 - p0 / (4 : Int32) * (4 : Int32))), (3, .int (p0 / (4 : Int32))), (0, .int p0), (1, .int p1), (2, .int p2)]) hx hb dX2_number_7 hl (by decide) rfl (fun ls hl => ?_)
  refine lv_iload_n hx hb dX2_number_9 rfl (lv_at hl 3 rfl) ?_
  refine lv_iconst (v := (1 : Int32)) hx hb dX2_number_10 (by decide) ?_
  refine lv_icmp_ne (tgt := 25) hx hb dX2_number_11 (by decide) (fun c1 => ?_) (fun c1 => ?_)
  · have hf := g_ifF c1 hf
    refine lv_iload_n hx hb dX2_number_25 rfl (lv_at hl 4 rfl) ?_
    refine lv_iconst (v := (2 : Int32)) hx hb dX2_number_26 (by decide) ?_
    refine lv_icmp_ne (tgt := 33) hx hb dX2_number_27 (by decide) (fun c2 => ?_) (fun c2 => ?_)
    · have hf := g_ifF c2 hf
      refine lv_iload_n hx hb dX2_number_33 rfl (lv_at hl 4 rfl) ?_
      refine lv_if_ne (tgt := 44) hx hb dX2_number_34 (by decide) (fun c3 => ?_) (fun c3 => ?_)
      · have hf := g_ifF c3 hf
        refine lv_iload_n hx hb dX2_number_44 rfl (lv_at hl 1 rfl) ?_
        refine lv_bipush (v := (10 : Int32)) hx hb dX2_number_45 (by decide) ?_
        refine lv_irem hx hb dX2_number_47 (by decide) ?_
        cases hf
        exact g_iretR hx hb hr hlocks dX2_number_48
      · have hf := g_ifT c3 hf
        refine lv_iload_n hx hb dX2_number_37 rfl (lv_at hl 1 rfl) ?_
        refine lv_bipush (v := (10 : Int32)) hx hb dX2_number_38 (by decide) ?_
        refine lv_idiv hx hb dX2_number_40 (by decide) ?_
        refine lv_goto (tgt := 48) hx hb dX2_number_41 (by decide) ?_
        cases hf
        exact g_iretR hx hb hr hlocks dX2_number_48
    · have hf := g_ifT c2 hf
      refine lv_iload hx hb dX2_number_30 (lv_at hl 0 rfl) ?_
      cases hf
      exact g_iretR hx hb hr hlocks dX2_number_32
  · have hf := g_ifT c1 hf
    refine lv_iload_n hx hb dX2_number_14 rfl (lv_at hl 4 rfl) ?_
    refine lv_if_ne (tgt := 22) hx hb dX2_number_15 (by decide) (fun c4 => ?_) (fun c4 => ?_)
    · have hf := g_ifF c4 hf
      refine lv_iload hx hb dX2_number_22 (lv_at hl 0 rfl) ?_
      cases hf
      exact g_iretR hx hb hr hlocks dX2_number_24
    · have hf := g_ifT c4 hf
      refine lv_iload_n hx hb dX2_number_18 rfl (lv_at hl 1 rfl) ?_
      refine lv_goto (tgt := 24) hx hb dX2_number_19 (by decide) ?_
      cases hf
      exact g_iretR hx hb hr hlocks dX2_number_24
-- TwoShapes$Shape.clear()V
abbrev rmX3_clear : Room := { frames := 0, cells := 0, slots := 0, locals := 0 }
def fX3_clear_b2 : Nat → Int32 → Int32 → (Nat → Int32) → (Nat → Int32) → Option ((Nat → Int32) × (Nat → Int32))
  | 0, _, _, _, _ => none
  | n + 1, nu, x1, ver, row => (if (31 : Int32) ≤ x1 then some (ver, row) else g_gd (g_in x1 31) (g_gd (g_in x1 31) (fX3_clear_b2 n nu (x1 + (1 : Int32)) (upd ver x1.toNatClampNeg (0 : Int32)) (upd row x1.toNatClampNeg (-1 : Int32)))))
set_option maxHeartbeats 4000000 in
set_option maxRecDepth 100000 in
theorem kX3_clear_b2 {p : Program} {l : Launch} {e : Env} {s : State} {m : MethodId} {args : Array Value} {below : List Frame} {meth : Method} {c : Code} {G : gT} {h0 h1 h2 : Nat} {w0 : va_W} (C0 : gX p s m args meth c cX3_clear 2 none RX3 G) :
    ∀ (n : Nat) (nu : Int32) (x1 : Int32) (ver : Nat → Int32) (row : Nat → Int32) (u : (Nat → Int32) × (Nat → Int32)), fX3_clear_b2 n nu x1 ver row = some u → ∀ (H : Heap) (locs : List Loc), va_P G.1 vwCl [(h0, .inr (2, [.int nu, .ref h1, .ref h2])), (h1, .inl (G.2.1, 31, .inl ver)), (h2, .inl (G.2.1, 31, .inl row))] H → va_D (va_A w0 s.heap.size) [(h0, .inr (2, [.int nu, .ref h1, .ref h2])), (h1, .inl (G.2.1, 31, .inl ver)), (h2, .inl (G.2.1, 31, .inl row))] → va_S (va_A w0 s.heap.size) s.heap H locs → ∀ ls, lv_has ls 2 [(0, .ref h0), (1, .int x1)] → gW p l e (headSpec wsX3_clear rmX3_clear).room s m args below meth c G w0 none (shapeW G h0 h1 h2 nu u.1 u.2) H locs 2 ls [] := by
  obtain ⟨hx, hb, hr, hts, hown, hlocks, hml, hK⟩ := id C0
  have hA : ∀ q : Nat, s.heap.size ≤ q → va_A w0 s.heap.size q := fun q h => Or.inr h
  intro n
  induction n with
  | zero =>
    intro nu x1 ver row u hf H locs hP hD hS ls hl
    have hf : (none : Option ((Nat → Int32) × (Nat → Int32))) = some u := hf
    cases hf
  | succ n ih =>
    intro nu x1 ver row u hf H locs hP hD hS ls hl
    rw [fX3_clear_b2] at hf
    refine lv_iload_n hx hb dX3_clear_2 rfl (lv_at hl 1 rfl) ?_
    refine lv_bipush (v := (31 : Int32)) hx hb dX3_clear_3 (by decide) ?_
    refine lv_icmp_ge (tgt := 28) hx hb dX3_clear_5 (by decide) (fun c1 => ?_) (fun c1 => ?_)
    · have hf := g_ifT c1 hf
      cases hf
      exact g_vretC hx hb hr hlocks hP hD hS dX3_clear_28
    · have hf := g_ifF c1 hf
      refine lv_aload_n hx hb dX3_clear_8 rfl (lv_at hl 0 rfl) ?_
      refine va_get (D := G.1) (ci := 2) (v := .ref h1) (C := RX3) (T := TX3) (N := 3) hx hb hts hX3 hown hK.1 hP 0 rfl rfl 1 (by decide) (hts _ tw_40) (fun _ h9 => h9) rfl dX3_clear_9 ?_
      refine lv_iload_n hx hb dX3_clear_12 rfl (lv_at hl 1 rfl) ?_
      refine lv_iconst (v := (0 : Int32)) hx hb dX3_clear_13 (by decide) ?_
      obtain ⟨g2, hf⟩ := g_gdS hf
      refine va_iast hx hb hK.1 hP hD hS 1 0 rfl rfl (g_in_vp g2) dX3_clear_14 (fun H locs hP hD hS => ?_)
      have hP : va_P G.1 vwCl [(h0, .inr (2, [.int nu, .ref h1, .ref h2])), (h1, .inl (G.2.1, 31, .inl (upd ver x1.toNatClampNeg (0 : Int32)))), (h2, .inl (G.2.1, 31, .inl row))] H := hP
      have hD : va_D (va_A w0 s.heap.size) [(h0, .inr (2, [.int nu, .ref h1, .ref h2])), (h1, .inl (G.2.1, 31, .inl (upd ver x1.toNatClampNeg (0 : Int32)))), (h2, .inl (G.2.1, 31, .inl row))] := hD
      refine lv_aload_n hx hb dX3_clear_15 rfl (lv_at hl 0 rfl) ?_
      refine va_get (D := G.1) (ci := 2) (v := .ref h2) (C := RX3) (T := TX3) (N := 3) hx hb hts hX3 hown hK.1 hP 0 rfl rfl 2 (by decide) (hts _ tw_43) (fun _ h9 => h9) rfl dX3_clear_16 ?_
      refine lv_iload_n hx hb dX3_clear_19 rfl (lv_at hl 1 rfl) ?_
      refine lv_iconst (v := (-1 : Int32)) hx hb dX3_clear_20 (by decide) ?_
      obtain ⟨g3, hf⟩ := g_gdS hf
      refine va_iast hx hb hK.1 hP hD hS 2 0 rfl rfl (g_in_vp g3) dX3_clear_21 (fun H locs hP hD hS => ?_)
      have hP : va_P G.1 vwCl [(h0, .inr (2, [.int nu, .ref h1, .ref h2])), (h1, .inl (G.2.1, 31, .inl (upd ver x1.toNatClampNeg (0 : Int32)))), (h2, .inl (G.2.1, 31, .inl (upd row x1.toNatClampNeg (-1 : Int32))))] H := hP
      have hD : va_D (va_A w0 s.heap.size) [(h0, .inr (2, [.int nu, .ref h1, .ref h2])), (h1, .inl (G.2.1, 31, .inl (upd ver x1.toNatClampNeg (0 : Int32)))), (h2, .inl (G.2.1, 31, .inl (upd row x1.toNatClampNeg (-1 : Int32))))] := hD
      refine lv_iinc (v := (x1 + (1 : Int32))) (lv' := [(1, .int (x1 + (1 : Int32))), (0, .ref h0)]) hx hb dX3_clear_22 hl (k := 1) rfl rfl (by decide) rfl (fun ls hl => ?_)
      refine lv_goto (tgt := 2) hx hb dX3_clear_25 (by decide) ?_
      exact ih _ _ _ _ _ hf _ _ hP hD hS ls (lv_sub hl [1, 0] rfl)
def fX3_clear (nu : Int32) (ver : Nat → Int32) (row : Nat → Int32) : Option ((Nat → Int32) × (Nat → Int32)) := fX3_clear_b2 2000 nu (0 : Int32) ver row
set_option maxHeartbeats 4000000 in
set_option maxRecDepth 100000 in
theorem qX3_clear (l : Launch) (G : gT) (h0 h1 h2 : Nat) {nu : Int32} {ver : Nat → Int32} {row : Nat → Int32} {u : (Nat → Int32) × (Nat → Int32)} (hf : fX3_clear nu ver row = some u) : gC l G yX3_clear wsX3_clear rmX3_clear [.ref h0] (shapeW G h0 h1 h2 nu ver row) none (shapeW G h0 h1 h2 nu u.1 u.2) := by
  refine gC.of (cc := cX3_clear) (maxL := 2) (ret := none) (by decide) rfl (Nat.le_of_ble_eq_true rfl) ?_
  intro p e s m below meth c C0 hP hD hS ls hl
  obtain ⟨hx, hb, hr, hts, hown, hlocks, hml, hK⟩ := id C0
  have hl : lv_has ls 2 [(0, .ref h0)] := hl
  have hA : ∀ q : Nat, s.heap.size ≤ q → va_A (shapeW G h0 h1 h2 nu ver row) s.heap.size q := fun q h => Or.inr h
  have hP : va_P G.1 vwCl [(h0, .inr (2, [.int nu, .ref h1, .ref h2])), (h1, .inl (G.2.1, 31, .inl ver)), (h2, .inl (G.2.1, 31, .inl row))] s.heap := hP
  have hD : va_D (va_A (shapeW G h0 h1 h2 nu ver row) s.heap.size) [(h0, .inr (2, [.int nu, .ref h1, .ref h2])), (h1, .inl (G.2.1, 31, .inl ver)), (h2, .inl (G.2.1, 31, .inl row))] := hD
  unfold fX3_clear at hf
  refine lv_iconst (v := (0 : Int32)) hx hb dX3_clear_0 (by decide) ?_
  refine lv_istore_n (lv' := [(1, .int (0 : Int32)), (0, .ref h0)]) hx hb dX3_clear_1 rfl hl (by decide) rfl (fun ls hl => ?_)
  exact kX3_clear_b2 C0 2000 _ _ _ _ _ hf _ _ hP hD hS ls (lv_sub hl [1, 0] rfl)
-- TwoShapes$Shape.copyFrom(LTwoShapes$Shape;)V
abbrev rmX3_copyFrom : Room := { frames := 1, cells := 0, slots := 0, locals := 40 }
def fX3_copyFrom (nu : Int32) (onu : Int32) (ver : Nat → Int32) (row : Nat → Int32) (over : Nat → Int32) (orow : Nat → Int32) : Option ((Nat → Int32) × (Nat → Int32)) := some ((va_cpy over ver 0 0 31), (va_cpy orow row 0 0 31))
set_option maxHeartbeats 4000000 in
set_option maxRecDepth 100000 in
theorem qX3_copyFrom (l : Launch) (G : gT) (h0 h1 h2 : Nat) (k0 k1 k2 : Nat) {nu : Int32} {onu : Int32} {ver : Nat → Int32} {row : Nat → Int32} {over : Nat → Int32} {orow : Nat → Int32} {u : (Nat → Int32) × (Nat → Int32)} (hf : fX3_copyFrom nu onu ver row over orow = some u) : gC l G yX3_copyFrom wsX3_copyFrom rmX3_copyFrom [.ref h0, .ref k0] (shapeW G h0 h1 h2 nu ver row ++ shapeW G k0 k1 k2 onu over orow) none (shapeW G h0 h1 h2 nu u.1 u.2 ++ shapeW G k0 k1 k2 onu over orow) := by
  refine gC.of (cc := cX3_copyFrom) (maxL := 2) (ret := none) (by decide) rfl (Nat.le_of_ble_eq_true rfl) ?_
  intro p e s m below meth c C0 hP hD hS ls hl
  obtain ⟨hx, hb, hr, hts, hown, hlocks, hml, hK⟩ := id C0
  have hl : lv_has ls 2 [(0, .ref h0), (1, .ref k0)] := hl
  have hA : ∀ q : Nat, s.heap.size ≤ q → va_A (shapeW G h0 h1 h2 nu ver row ++ shapeW G k0 k1 k2 onu over orow) s.heap.size q := fun q h => Or.inr h
  have hP : va_P G.1 vwCl [(h0, .inr (2, [.int nu, .ref h1, .ref h2])), (h1, .inl (G.2.1, 31, .inl ver)), (h2, .inl (G.2.1, 31, .inl row)), (k0, .inr (2, [.int onu, .ref k1, .ref k2])), (k1, .inl (G.2.1, 31, .inl over)), (k2, .inl (G.2.1, 31, .inl orow))] s.heap := hP
  have hD : va_D (va_A (shapeW G h0 h1 h2 nu ver row ++ shapeW G k0 k1 k2 onu over orow) s.heap.size) [(h0, .inr (2, [.int nu, .ref h1, .ref h2])), (h1, .inl (G.2.1, 31, .inl ver)), (h2, .inl (G.2.1, 31, .inl row)), (k0, .inr (2, [.int onu, .ref k1, .ref k2])), (k1, .inl (G.2.1, 31, .inl over)), (k2, .inl (G.2.1, 31, .inl orow))] := hD
  unfold fX3_copyFrom at hf
  refine lv_aload_n hx hb dX3_copyFrom_0 rfl (lv_at hl 1 rfl) ?_
  refine va_get (D := G.1) (ci := 2) (v := .ref k1) (C := RX3) (T := TX3) (N := 3) hx hb hts hX3 hown hK.1 hP 3 rfl rfl 1 (by decide) (hts _ tw_40) (fun _ h9 => h9) rfl dX3_copyFrom_1 ?_
  refine lv_iconst (v := (0 : Int32)) hx hb dX3_copyFrom_4 (by decide) ?_
  refine lv_aload_n hx hb dX3_copyFrom_5 rfl (lv_at hl 0 rfl) ?_
  refine va_get (D := G.1) (ci := 2) (v := .ref h1) (C := RX3) (T := TX3) (N := 3) hx hb hts hX3 hown hK.1 hP 0 rfl rfl 1 (by decide) (hts _ tw_40) (fun _ h9 => h9) rfl dX3_copyFrom_6 ?_
  refine lv_iconst (v := (0 : Int32)) hx hb dX3_copyFrom_9 (by decide) ?_
  refine lv_bipush (v := (31 : Int32)) hx hb dX3_copyFrom_10 (by decide) ?_
  refine va_copyi hx hb (by rw [hml]; exact hl.1.symm) hown (hts _ tw_176) (hts _ tw_178) (hts _ tw_177) (hts _ tw_11) hK.1 hP hD hS 4 1 0 0 (ty := .int) rfl rfl rfl rfl rfl (by decide) (by decide) (by decide) (by decide) (by decide) (fun _ _ => rfl) (by decide) (by decide) dX3_copyFrom_12 (fun H locs hP hD hS => ?_)
  have hP : va_P G.1 vwCl [(h0, .inr (2, [.int nu, .ref h1, .ref h2])), (h1, .inl (G.2.1, 31, .inl (va_cpy over ver 0 0 31))), (h2, .inl (G.2.1, 31, .inl row)), (k0, .inr (2, [.int onu, .ref k1, .ref k2])), (k1, .inl (G.2.1, 31, .inl over)), (k2, .inl (G.2.1, 31, .inl orow))] H := hP
  have hD : va_D (va_A (shapeW G h0 h1 h2 nu ver row ++ shapeW G k0 k1 k2 onu over orow) s.heap.size) [(h0, .inr (2, [.int nu, .ref h1, .ref h2])), (h1, .inl (G.2.1, 31, .inl (va_cpy over ver 0 0 31))), (h2, .inl (G.2.1, 31, .inl row)), (k0, .inr (2, [.int onu, .ref k1, .ref k2])), (k1, .inl (G.2.1, 31, .inl over)), (k2, .inl (G.2.1, 31, .inl orow))] := hD
  refine lv_aload_n hx hb dX3_copyFrom_15 rfl (lv_at hl 1 rfl) ?_
  refine va_get (D := G.1) (ci := 2) (v := .ref k2) (C := RX3) (T := TX3) (N := 3) hx hb hts hX3 hown hK.1 hP 3 rfl rfl 2 (by decide) (hts _ tw_43) (fun _ h9 => h9) rfl dX3_copyFrom_16 ?_
  refine lv_iconst (v := (0 : Int32)) hx hb dX3_copyFrom_19 (by decide) ?_
  refine lv_aload_n hx hb dX3_copyFrom_20 rfl (lv_at hl 0 rfl) ?_
  refine va_get (D := G.1) (ci := 2) (v := .ref h2) (C := RX3) (T := TX3) (N := 3) hx hb hts hX3 hown hK.1 hP 0 rfl rfl 2 (by decide) (hts _ tw_43) (fun _ h9 => h9) rfl dX3_copyFrom_21 ?_
  refine lv_iconst (v := (0 : Int32)) hx hb dX3_copyFrom_24 (by decide) ?_
  refine lv_bipush (v := (31 : Int32)) hx hb dX3_copyFrom_25 (by decide) ?_
  refine va_copyi hx hb (by rw [hml]; exact hl.1.symm) hown (hts _ tw_176) (hts _ tw_178) (hts _ tw_177) (hts _ tw_11) hK.1 hP hD hS 5 2 0 0 (ty := .int) rfl rfl rfl rfl rfl (by decide) (by decide) (by decide) (by decide) (by decide) (fun _ _ => rfl) (by decide) (by decide) dX3_copyFrom_27 (fun H locs hP hD hS => ?_)
  have hP : va_P G.1 vwCl [(h0, .inr (2, [.int nu, .ref h1, .ref h2])), (h1, .inl (G.2.1, 31, .inl (va_cpy over ver 0 0 31))), (h2, .inl (G.2.1, 31, .inl (va_cpy orow row 0 0 31))), (k0, .inr (2, [.int onu, .ref k1, .ref k2])), (k1, .inl (G.2.1, 31, .inl over)), (k2, .inl (G.2.1, 31, .inl orow))] H := hP
  have hD : va_D (va_A (shapeW G h0 h1 h2 nu ver row ++ shapeW G k0 k1 k2 onu over orow) s.heap.size) [(h0, .inr (2, [.int nu, .ref h1, .ref h2])), (h1, .inl (G.2.1, 31, .inl (va_cpy over ver 0 0 31))), (h2, .inl (G.2.1, 31, .inl (va_cpy orow row 0 0 31))), (k0, .inr (2, [.int onu, .ref k1, .ref k2])), (k1, .inl (G.2.1, 31, .inl over)), (k2, .inl (G.2.1, 31, .inl orow))] := hD
  cases hf
  exact g_vretC hx hb hr hlocks hP hD hS dX3_copyFrom_30
-- TwoShapes$Shape.take(III)V
abbrev rmX3_take : Room := { frames := 1, cells := 0, slots := 0, locals := 22 }
def fX3_take (p0 : Int32) (p1 : Int32) (p2 : Int32) (nu : Int32) (ver : Nat → Int32) (row : Nat → Int32) : Option ((Nat → Int32) × (Nat → Int32)) := g_gd (g_in p0 31) ((if p1 < (ver p0.toNatClampNeg) then some (ver, row) else g_gd (g_in p0 31) (((fX2_madeOver p2 nu).bind fun r4 => g_gd (g_in p0 31) (some ((upd ver p0.toNatClampNeg p1), (upd row p0.toNatClampNeg r4)))))))
set_option maxHeartbeats 4000000 in
set_option maxRecDepth 100000 in
theorem qX3_take (l : Launch) (G : gT) (h0 h1 h2 : Nat) {p0 : Int32} {p1 : Int32} {p2 : Int32} {nu : Int32} {ver : Nat → Int32} {row : Nat → Int32} {u : (Nat → Int32) × (Nat → Int32)} (hf : fX3_take p0 p1 p2 nu ver row = some u) : gC l G yX3_take wsX3_take rmX3_take [.ref h0, .int p0, .int p1, .int p2] (shapeW G h0 h1 h2 nu ver row) none (shapeW G h0 h1 h2 nu u.1 u.2) := by
  refine gC.of (cc := cX3_take) (maxL := 4) (ret := none) (by decide) rfl (Nat.le_of_ble_eq_true rfl) ?_
  intro p e s m below meth c C0 hP hD hS ls hl
  obtain ⟨hx, hb, hr, hts, hown, hlocks, hml, hK⟩ := id C0
  have hl : lv_has ls 4 [(0, .ref h0), (1, .int p0), (2, .int p1), (3, .int p2)] := hl
  have hA : ∀ q : Nat, s.heap.size ≤ q → va_A (shapeW G h0 h1 h2 nu ver row) s.heap.size q := fun q h => Or.inr h
  have hP : va_P G.1 vwCl [(h0, .inr (2, [.int nu, .ref h1, .ref h2])), (h1, .inl (G.2.1, 31, .inl ver)), (h2, .inl (G.2.1, 31, .inl row))] s.heap := hP
  have hD : va_D (va_A (shapeW G h0 h1 h2 nu ver row) s.heap.size) [(h0, .inr (2, [.int nu, .ref h1, .ref h2])), (h1, .inl (G.2.1, 31, .inl ver)), (h2, .inl (G.2.1, 31, .inl row))] := hD
  unfold fX3_take at hf
  refine lv_iload_n hx hb dX3_take_0 rfl (lv_at hl 2 rfl) ?_
  refine lv_aload_n hx hb dX3_take_1 rfl (lv_at hl 0 rfl) ?_
  refine va_get (D := G.1) (ci := 2) (v := .ref h1) (C := RX3) (T := TX3) (N := 3) hx hb hts hX3 hown hK.1 hP 0 rfl rfl 1 (by decide) (hts _ tw_40) (fun _ h9 => h9) rfl dX3_take_2 ?_
  refine lv_iload_n hx hb dX3_take_5 rfl (lv_at hl 1 rfl) ?_
  obtain ⟨g1, hf⟩ := g_gdS hf
  refine va_iald hx hb hK.1 hP 1 0 rfl rfl (g_in_vp g1) dX3_take_6 ?_
  refine lv_icmp_lt (tgt := 31) hx hb dX3_take_7 (by decide) (fun c2 => ?_) (fun c2 => ?_)
  · have hf := g_ifT c2 hf
    cases hf
    exact g_vretC hx hb hr hlocks hP hD hS dX3_take_31
  · have hf := g_ifF c2 hf
    refine lv_aload_n hx hb dX3_take_10 rfl (lv_at hl 0 rfl) ?_
    refine va_get (D := G.1) (ci := 2) (v := .ref h1) (C := RX3) (T := TX3) (N := 3) hx hb hts hX3 hown hK.1 hP 0 rfl rfl 1 (by decide) (hts _ tw_40) (fun _ h9 => h9) rfl dX3_take_11 ?_
    refine lv_iload_n hx hb dX3_take_14 rfl (lv_at hl 1 rfl) ?_
    refine lv_iload_n hx hb dX3_take_15 rfl (lv_at hl 2 rfl) ?_
    obtain ⟨g3, hf⟩ := g_gdS hf
    refine va_iast hx hb hK.1 hP hD hS 1 0 rfl rfl (g_in_vp g3) dX3_take_16 (fun H locs hP hD hS => ?_)
    have hP : va_P G.1 vwCl [(h0, .inr (2, [.int nu, .ref h1, .ref h2])), (h1, .inl (G.2.1, 31, .inl (upd ver p0.toNatClampNeg p1))), (h2, .inl (G.2.1, 31, .inl row))] H := hP
    have hD : va_D (va_A (shapeW G h0 h1 h2 nu ver row) s.heap.size) [(h0, .inr (2, [.int nu, .ref h1, .ref h2])), (h1, .inl (G.2.1, 31, .inl (upd ver p0.toNatClampNeg p1))), (h2, .inl (G.2.1, 31, .inl row))] := hD
    refine lv_aload_n hx hb dX3_take_17 rfl (lv_at hl 0 rfl) ?_
    refine va_get (D := G.1) (ci := 2) (v := .ref h2) (C := RX3) (T := TX3) (N := 3) hx hb hts hX3 hown hK.1 hP 0 rfl rfl 2 (by decide) (hts _ tw_43) (fun _ h9 => h9) rfl dX3_take_18 ?_
    refine lv_iload_n hx hb dX3_take_21 rfl (lv_at hl 1 rfl) ?_
    refine lv_iload_n hx hb dX3_take_22 rfl (lv_at hl 3 rfl) ?_
    refine lv_aload_n hx hb dX3_take_23 rfl (lv_at hl 0 rfl) ?_
    refine va_get (D := G.1) (ci := 2) (v := .int nu) (C := RX3) (T := TX3) (N := 3) hx hb hts hX3 hown hK.1 hP 0 rfl rfl 0 (by decide) (hts _ tw_39) (fun _ h9 => h9) rfl dX3_take_24 ?_
    obtain ⟨r4, e5, hf⟩ := g_bdS hf
    refine g_contR (st1 := [.int r4, .int p0, .ref h2]) (g_runSR (As := [.int p2, .int nu]) (rest := [.int p0, .ref h2]) ⟨hx, hb, hml, hown, hts⟩ (qX2_madeOver l G e5) (va_cwS 2 hts (TB_S TB_id tw_336 tw_218 tw_10 tw_219) rfl rfl rfl (by decide +kernel) ⟨Nat.le_of_ble_eq_true rfl, Nat.le_of_ble_eq_true rfl⟩) hK (hP.sub [] rfl) rfl hl.1 rfl (Nat.le_of_ble_eq_true rfl) dX3_take_27) rfl ?_
    obtain ⟨g6, hf⟩ := g_gdS hf
    refine va_iast hx hb hK.1 hP hD hS 2 0 rfl rfl (g_in_vp g6) dX3_take_30 (fun H locs hP hD hS => ?_)
    have hP : va_P G.1 vwCl [(h0, .inr (2, [.int nu, .ref h1, .ref h2])), (h1, .inl (G.2.1, 31, .inl (upd ver p0.toNatClampNeg p1))), (h2, .inl (G.2.1, 31, .inl (upd row p0.toNatClampNeg r4)))] H := hP
    have hD : va_D (va_A (shapeW G h0 h1 h2 nu ver row) s.heap.size) [(h0, .inr (2, [.int nu, .ref h1, .ref h2])), (h1, .inl (G.2.1, 31, .inl (upd ver p0.toNatClampNeg p1))), (h2, .inl (G.2.1, 31, .inl (upd row p0.toNatClampNeg r4)))] := hD
    cases hf
    exact g_vretC hx hb hr hlocks hP hD hS dX3_take_31
-- TwoShapes$Shape.takeFrom(LTwoShapes$Shape;I)V
abbrev rmX3_takeFrom : Room := { frames := 2, cells := 0, slots := 0, locals := 45 }
def fX3_takeFrom (p1 : Int32) (nu : Int32) (onu : Int32) (ver : Nat → Int32) (row : Nat → Int32) (over : Nat → Int32) (orow : Nat → Int32) : Option ((Nat → Int32) × (Nat → Int32)) := g_gd (g_in p1 31) (g_gd (g_in p1 31) (((fX3_take p1 (over p1.toNatClampNeg) (orow p1.toNatClampNeg) nu ver row).bind fun r3 => some (r3.1, r3.2))))
set_option maxHeartbeats 4000000 in
set_option maxRecDepth 100000 in
theorem qX3_takeFrom (l : Launch) (G : gT) (h0 h1 h2 : Nat) (k0 k1 k2 : Nat) {p1 : Int32} {nu : Int32} {onu : Int32} {ver : Nat → Int32} {row : Nat → Int32} {over : Nat → Int32} {orow : Nat → Int32} {u : (Nat → Int32) × (Nat → Int32)} (hf : fX3_takeFrom p1 nu onu ver row over orow = some u) : gC l G yX3_takeFrom wsX3_takeFrom rmX3_takeFrom [.ref h0, .ref k0, .int p1] (shapeW G h0 h1 h2 nu ver row ++ shapeW G k0 k1 k2 onu over orow) none (shapeW G h0 h1 h2 nu u.1 u.2 ++ shapeW G k0 k1 k2 onu over orow) := by
  refine gC.of (cc := cX3_takeFrom) (maxL := 3) (ret := none) (by decide) rfl (Nat.le_of_ble_eq_true rfl) ?_
  intro p e s m below meth c C0 hP hD hS ls hl
  obtain ⟨hx, hb, hr, hts, hown, hlocks, hml, hK⟩ := id C0
  have hl : lv_has ls 3 [(0, .ref h0), (1, .ref k0), (2, .int p1)] := hl
  have hA : ∀ q : Nat, s.heap.size ≤ q → va_A (shapeW G h0 h1 h2 nu ver row ++ shapeW G k0 k1 k2 onu over orow) s.heap.size q := fun q h => Or.inr h
  have hP : va_P G.1 vwCl [(h0, .inr (2, [.int nu, .ref h1, .ref h2])), (h1, .inl (G.2.1, 31, .inl ver)), (h2, .inl (G.2.1, 31, .inl row)), (k0, .inr (2, [.int onu, .ref k1, .ref k2])), (k1, .inl (G.2.1, 31, .inl over)), (k2, .inl (G.2.1, 31, .inl orow))] s.heap := hP
  have hD : va_D (va_A (shapeW G h0 h1 h2 nu ver row ++ shapeW G k0 k1 k2 onu over orow) s.heap.size) [(h0, .inr (2, [.int nu, .ref h1, .ref h2])), (h1, .inl (G.2.1, 31, .inl ver)), (h2, .inl (G.2.1, 31, .inl row)), (k0, .inr (2, [.int onu, .ref k1, .ref k2])), (k1, .inl (G.2.1, 31, .inl over)), (k2, .inl (G.2.1, 31, .inl orow))] := hD
  unfold fX3_takeFrom at hf
  refine lv_aload_n hx hb dX3_takeFrom_0 rfl (lv_at hl 0 rfl) ?_
  refine lv_iload_n hx hb dX3_takeFrom_1 rfl (lv_at hl 2 rfl) ?_
  refine lv_aload_n hx hb dX3_takeFrom_2 rfl (lv_at hl 1 rfl) ?_
  refine va_get (D := G.1) (ci := 2) (v := .ref k1) (C := RX3) (T := TX3) (N := 3) hx hb hts hX3 hown hK.1 hP 3 rfl rfl 1 (by decide) (hts _ tw_40) (fun _ h9 => h9) rfl dX3_takeFrom_3 ?_
  refine lv_iload_n hx hb dX3_takeFrom_6 rfl (lv_at hl 2 rfl) ?_
  obtain ⟨g1, hf⟩ := g_gdS hf
  refine va_iald hx hb hK.1 hP 4 0 rfl rfl (g_in_vp g1) dX3_takeFrom_7 ?_
  refine lv_aload_n hx hb dX3_takeFrom_8 rfl (lv_at hl 1 rfl) ?_
  refine va_get (D := G.1) (ci := 2) (v := .ref k2) (C := RX3) (T := TX3) (N := 3) hx hb hts hX3 hown hK.1 hP 3 rfl rfl 2 (by decide) (hts _ tw_43) (fun _ h9 => h9) rfl dX3_takeFrom_9 ?_
  refine lv_iload_n hx hb dX3_takeFrom_12 rfl (lv_at hl 2 rfl) ?_
  obtain ⟨g2, hf⟩ := g_gdS hf
  refine va_iald hx hb hK.1 hP 5 0 rfl rfl (g_in_vp g2) dX3_takeFrom_13 ?_
  obtain ⟨r3, e4, hf⟩ := g_bdS hf
  refine g_contC (st1 := []) (g_runVC (As := [.int p1, .int (over p1.toNatClampNeg), .int (orow p1.toNatClampNeg)]) (rest := []) ⟨hx, hb, hml, hown, hts⟩ (qX3_take l G h0 h1 h2 e4) (cwV 3 hts (TB_V TB_id tw_399 tw_333 tw_334 tw_7 tw_335) rfl rfl rfl (by decide +kernel) ⟨Nat.le_of_ble_eq_true rfl, Nat.le_of_ble_eq_true rfl⟩) hK (hP.sub [0, 1, 2] rfl) (hD.sub [0, 1, 2] (by decide) rfl) 0 rfl rfl rfl hl.1 rfl (Nat.le_of_ble_eq_true rfl) dX3_takeFrom_14) rfl hP hD hS hA [0, 1, 2] rfl rfl (fun H locs hP hD hS => ?_)
  have hP : va_P G.1 vwCl [(h0, .inr (2, [.int nu, .ref h1, .ref h2])), (h1, .inl (G.2.1, 31, .inl r3.1)), (h2, .inl (G.2.1, 31, .inl r3.2)), (k0, .inr (2, [.int onu, .ref k1, .ref k2])), (k1, .inl (G.2.1, 31, .inl over)), (k2, .inl (G.2.1, 31, .inl orow))] H := hP
  have hD : va_D (va_A (shapeW G h0 h1 h2 nu ver row ++ shapeW G k0 k1 k2 onu over orow) s.heap.size) [(h0, .inr (2, [.int nu, .ref h1, .ref h2])), (h1, .inl (G.2.1, 31, .inl r3.1)), (h2, .inl (G.2.1, 31, .inl r3.2)), (k0, .inr (2, [.int onu, .ref k1, .ref k2])), (k1, .inl (G.2.1, 31, .inl over)), (k2, .inl (G.2.1, 31, .inl orow))] := hD
  cases hf
  exact g_vretC hx hb hr hlocks hP hD hS dX3_takeFrom_17
-- TwoShapes$Shape.rows()I
abbrev rmX3_rows : Room := { frames := 0, cells := 0, slots := 0, locals := 0 }
def fX3_rows_b4 : Nat → Int32 → Int32 → Int32 → (Nat → Int32) → (Nat → Int32) → Option (Int32)
  | 0, _, _, _, _, _ => none
  | n + 1, nu, x1, x2, ver, row => (if (31 : Int32) ≤ x2 then some (x1) else g_gd (g_in x2 31) ((if (row x2.toNatClampNeg) = (-1 : Int32) then fX3_rows_b4 n nu (x1 + (0 : Int32)) (x2 + (1 : Int32)) ver row else fX3_rows_b4 n nu (x1 + (1 : Int32)) (x2 + (1 : Int32)) ver row)))
set_option maxHeartbeats 4000000 in
set_option maxRecDepth 100000 in
theorem kX3_rows_b4 {p : Program} {l : Launch} {e : Env} {s : State} {m : MethodId} {args : Array Value} {below : List Frame} {meth : Method} {c : Code} {G : gT} {h0 h1 h2 : Nat} (C0 : gX p s m args meth c cX3_rows 3 (some .int) RX3 G) :
    ∀ (n : Nat) (nu : Int32) (x1 : Int32) (x2 : Int32) (ver : Nat → Int32) (row : Nat → Int32) (u : Int32), fX3_rows_b4 n nu x1 x2 ver row = some u → va_P G.1 vwCl [(h0, .inr (2, [.int nu, .ref h1, .ref h2])), (h1, .inl (G.2.1, 31, .inl ver)), (h2, .inl (G.2.1, 31, .inl row))] s.heap → ∀ ls, lv_has ls 3 [(0, .ref h0), (1, .int x1), (2, .int x2)] → gV p l e (headSpec wsX3_rows rmX3_rows).room s m args below meth c (some (.int u)) 4 ls [] := by
  obtain ⟨hx, hb, hr, hts, hown, hlocks, hml, hK⟩ := id C0
  intro n
  induction n with
  | zero =>
    intro nu x1 x2 ver row u hf hP ls hl
    have hf : (none : Option (Int32)) = some u := hf
    cases hf
  | succ n ih =>
    intro nu x1 x2 ver row u hf hP ls hl
    rw [fX3_rows_b4] at hf
    refine lv_iload_n hx hb dX3_rows_4 rfl (lv_at hl 2 rfl) ?_
    refine lv_bipush (v := (31 : Int32)) hx hb dX3_rows_5 (by decide) ?_
    refine lv_icmp_ge (tgt := 34) hx hb dX3_rows_7 (by decide) (fun c1 => ?_) (fun c1 => ?_)
    · have hf := g_ifT c1 hf
      refine lv_iload_n hx hb dX3_rows_34 rfl (lv_at hl 1 rfl) ?_
      cases hf
      exact g_iretR hx hb hr hlocks dX3_rows_35
    · have hf := g_ifF c1 hf
      refine lv_iload_n hx hb dX3_rows_10 rfl (lv_at hl 1 rfl) ?_
      refine lv_aload_n hx hb dX3_rows_11 rfl (lv_at hl 0 rfl) ?_
      refine va_get (D := G.1) (ci := 2) (v := .ref h2) (C := RX3) (T := TX3) (N := 3) hx hb hts hX3 hown hK.1 hP 0 rfl rfl 2 (by decide) (hts _ tw_43) (fun _ h9 => h9) rfl dX3_rows_12 ?_
      refine lv_iload_n hx hb dX3_rows_15 rfl (lv_at hl 2 rfl) ?_
      obtain ⟨g2, hf⟩ := g_gdS hf
      refine va_iald hx hb hK.1 hP 2 0 rfl rfl (g_in_vp g2) dX3_rows_16 ?_
      refine lv_iconst (v := (-1 : Int32)) hx hb dX3_rows_17 (by decide) ?_
      refine lv_icmp_ne (tgt := 25) hx hb dX3_rows_18 (by decide) (fun c3 => ?_) (fun c3 => ?_)
      · have hf := g_ifF c3 hf
        refine lv_iconst (v := (1 : Int32)) hx hb dX3_rows_25 (by decide) ?_
        refine lv_iadd hx hb dX3_rows_26 ?_
        refine lv_istore_n (lv' := [(1, .int (x1 + (1 : Int32))), (0, .ref h0), (2, .int x2)]) hx hb dX3_rows_27 rfl hl (by decide) rfl (fun ls hl => ?_)
        refine lv_iinc (v := (x2 + (1 : Int32))) (lv' := [(2, .int (x2 + (1 : Int32))), (1, .int (x1 + (1 : Int32))), (0, .ref h0)]) hx hb dX3_rows_28 hl (k := 2) rfl rfl (by decide) rfl (fun ls hl => ?_)
        refine lv_goto (tgt := 4) hx hb dX3_rows_31 (by decide) ?_
        exact ih _ _ _ _ _ _ hf hP ls (lv_sub hl [2, 1, 0] rfl)
      · have hf := g_ifT c3 hf
        refine lv_iconst (v := (0 : Int32)) hx hb dX3_rows_21 (by decide) ?_
        refine lv_goto (tgt := 26) hx hb dX3_rows_22 (by decide) ?_
        refine lv_iadd hx hb dX3_rows_26 ?_
        refine lv_istore_n (lv' := [(1, .int (x1 + (0 : Int32))), (0, .ref h0), (2, .int x2)]) hx hb dX3_rows_27 rfl hl (by decide) rfl (fun ls hl => ?_)
        refine lv_iinc (v := (x2 + (1 : Int32))) (lv' := [(2, .int (x2 + (1 : Int32))), (1, .int (x1 + (0 : Int32))), (0, .ref h0)]) hx hb dX3_rows_28 hl (k := 2) rfl rfl (by decide) rfl (fun ls hl => ?_)
        refine lv_goto (tgt := 4) hx hb dX3_rows_31 (by decide) ?_
        exact ih _ _ _ _ _ _ hf hP ls (lv_sub hl [2, 1, 0] rfl)
def fX3_rows (nu : Int32) (ver : Nat → Int32) (row : Nat → Int32) : Option (Int32) := fX3_rows_b4 2000 nu (0 : Int32) (0 : Int32) ver row
set_option maxHeartbeats 4000000 in
set_option maxRecDepth 100000 in
theorem qX3_rows (l : Launch) (G : gT) (h0 h1 h2 : Nat) {nu : Int32} {ver : Nat → Int32} {row : Nat → Int32} {u : Int32} (hf : fX3_rows nu ver row = some u) : gR l G yX3_rows wsX3_rows rmX3_rows [.ref h0] (shapeW G h0 h1 h2 nu ver row) (some (.int u)) := by
  refine gR.of (cc := cX3_rows) (maxL := 3) (ret := (some .int)) (by decide) rfl (Nat.le_of_ble_eq_true rfl) ?_
  intro p e s m below meth c C0 hP ls hl
  obtain ⟨hx, hb, hr, hts, hown, hlocks, hml, hK⟩ := id C0
  have hl : lv_has ls 3 [(0, .ref h0)] := hl
  have hP : va_P G.1 vwCl [(h0, .inr (2, [.int nu, .ref h1, .ref h2])), (h1, .inl (G.2.1, 31, .inl ver)), (h2, .inl (G.2.1, 31, .inl row))] s.heap := hP
  unfold fX3_rows at hf
  refine lv_iconst (v := (0 : Int32)) hx hb dX3_rows_0 (by decide) ?_
  refine lv_istore_n (lv' := [(1, .int (0 : Int32)), (0, .ref h0)]) hx hb dX3_rows_1 rfl hl (by decide) rfl (fun ls hl => ?_)
  refine lv_iconst (v := (0 : Int32)) hx hb dX3_rows_2 (by decide) ?_
  refine lv_istore_n (lv' := [(2, .int (0 : Int32)), (1, .int (0 : Int32)), (0, .ref h0)]) hx hb dX3_rows_3 rfl hl (by decide) rfl (fun ls hl => ?_)
  exact kX3_rows_b4 C0 2000 _ _ _ _ _ _ hf hP ls (lv_sub hl [2, 1, 0] rfl)
-- TwoShapes$Shape.strangeRows()I
abbrev rmX3_strangeRows : Room := { frames := 1, cells := 0, slots := 0, locals := 20 }
def fX3_strangeRows_b4 : Nat → Int32 → Int32 → Int32 → (Nat → Int32) → (Nat → Int32) → Option (Int32)
  | 0, _, _, _, _, _ => none
  | n + 1, nu, x1, x2, ver, row => (if (31 : Int32) ≤ x2 then some (x1) else g_gd (g_in x2 31) (((fX2_isStrange (row x2.toNatClampNeg)).bind fun r3 => (if r3 = (0 : Int32) then fX3_strangeRows_b4 n nu (x1 + (0 : Int32)) (x2 + (1 : Int32)) ver row else fX3_strangeRows_b4 n nu (x1 + (1 : Int32)) (x2 + (1 : Int32)) ver row))))
set_option maxHeartbeats 4000000 in
set_option maxRecDepth 100000 in
theorem kX3_strangeRows_b4 {p : Program} {l : Launch} {e : Env} {s : State} {m : MethodId} {args : Array Value} {below : List Frame} {meth : Method} {c : Code} {G : gT} {h0 h1 h2 : Nat} (C0 : gX p s m args meth c cX3_strangeRows 3 (some .int) RX3 G) :
    ∀ (n : Nat) (nu : Int32) (x1 : Int32) (x2 : Int32) (ver : Nat → Int32) (row : Nat → Int32) (u : Int32), fX3_strangeRows_b4 n nu x1 x2 ver row = some u → va_P G.1 vwCl [(h0, .inr (2, [.int nu, .ref h1, .ref h2])), (h1, .inl (G.2.1, 31, .inl ver)), (h2, .inl (G.2.1, 31, .inl row))] s.heap → ∀ ls, lv_has ls 3 [(0, .ref h0), (1, .int x1), (2, .int x2)] → gV p l e (headSpec wsX3_strangeRows rmX3_strangeRows).room s m args below meth c (some (.int u)) 4 ls [] := by
  obtain ⟨hx, hb, hr, hts, hown, hlocks, hml, hK⟩ := id C0
  intro n
  induction n with
  | zero =>
    intro nu x1 x2 ver row u hf hP ls hl
    have hf : (none : Option (Int32)) = some u := hf
    cases hf
  | succ n ih =>
    intro nu x1 x2 ver row u hf hP ls hl
    rw [fX3_strangeRows_b4] at hf
    refine lv_iload_n hx hb dX3_strangeRows_4 rfl (lv_at hl 2 rfl) ?_
    refine lv_bipush (v := (31 : Int32)) hx hb dX3_strangeRows_5 (by decide) ?_
    refine lv_icmp_ge (tgt := 36) hx hb dX3_strangeRows_7 (by decide) (fun c1 => ?_) (fun c1 => ?_)
    · have hf := g_ifT c1 hf
      refine lv_iload_n hx hb dX3_strangeRows_36 rfl (lv_at hl 1 rfl) ?_
      cases hf
      exact g_iretR hx hb hr hlocks dX3_strangeRows_37
    · have hf := g_ifF c1 hf
      refine lv_iload_n hx hb dX3_strangeRows_10 rfl (lv_at hl 1 rfl) ?_
      refine lv_aload_n hx hb dX3_strangeRows_11 rfl (lv_at hl 0 rfl) ?_
      refine va_get (D := G.1) (ci := 2) (v := .ref h2) (C := RX3) (T := TX3) (N := 3) hx hb hts hX3 hown hK.1 hP 0 rfl rfl 2 (by decide) (hts _ tw_43) (fun _ h9 => h9) rfl dX3_strangeRows_12 ?_
      refine lv_iload_n hx hb dX3_strangeRows_15 rfl (lv_at hl 2 rfl) ?_
      obtain ⟨g2, hf⟩ := g_gdS hf
      refine va_iald hx hb hK.1 hP 2 0 rfl rfl (g_in_vp g2) dX3_strangeRows_16 ?_
      obtain ⟨r3, e4, hf⟩ := g_bdS hf
      refine g_contR (st1 := [.int r3, .int x1]) (g_runSR (As := [.int (row x2.toNatClampNeg)]) (rest := [.int x1]) ⟨hx, hb, hml, hown, hts⟩ (qX2_isStrange l G e4) (va_cwS 1 hts (TB_S TB_id tw_251 tw_252 tw_10 tw_253) rfl rfl rfl (by decide +kernel) ⟨Nat.le_of_ble_eq_true rfl, Nat.le_of_ble_eq_true rfl⟩) hK (hP.sub [] rfl) rfl hl.1 rfl (Nat.le_of_ble_eq_true rfl) dX3_strangeRows_17) rfl ?_
      refine lv_if_eq (tgt := 27) hx hb dX3_strangeRows_20 (by decide) (fun c5 => ?_) (fun c5 => ?_)
      · have hf := g_ifT c5 hf
        refine lv_iconst (v := (0 : Int32)) hx hb dX3_strangeRows_27 (by decide) ?_
        refine lv_iadd hx hb dX3_strangeRows_28 ?_
        refine lv_istore_n (lv' := [(1, .int (x1 + (0 : Int32))), (0, .ref h0), (2, .int x2)]) hx hb dX3_strangeRows_29 rfl hl (by decide) rfl (fun ls hl => ?_)
        refine lv_iinc (v := (x2 + (1 : Int32))) (lv' := [(2, .int (x2 + (1 : Int32))), (1, .int (x1 + (0 : Int32))), (0, .ref h0)]) hx hb dX3_strangeRows_30 hl (k := 2) rfl rfl (by decide) rfl (fun ls hl => ?_)
        refine lv_goto (tgt := 4) hx hb dX3_strangeRows_33 (by decide) ?_
        exact ih _ _ _ _ _ _ hf hP ls (lv_sub hl [2, 1, 0] rfl)
      · have hf := g_ifF c5 hf
        refine lv_iconst (v := (1 : Int32)) hx hb dX3_strangeRows_23 (by decide) ?_
        refine lv_goto (tgt := 28) hx hb dX3_strangeRows_24 (by decide) ?_
        refine lv_iadd hx hb dX3_strangeRows_28 ?_
        refine lv_istore_n (lv' := [(1, .int (x1 + (1 : Int32))), (0, .ref h0), (2, .int x2)]) hx hb dX3_strangeRows_29 rfl hl (by decide) rfl (fun ls hl => ?_)
        refine lv_iinc (v := (x2 + (1 : Int32))) (lv' := [(2, .int (x2 + (1 : Int32))), (1, .int (x1 + (1 : Int32))), (0, .ref h0)]) hx hb dX3_strangeRows_30 hl (k := 2) rfl rfl (by decide) rfl (fun ls hl => ?_)
        refine lv_goto (tgt := 4) hx hb dX3_strangeRows_33 (by decide) ?_
        exact ih _ _ _ _ _ _ hf hP ls (lv_sub hl [2, 1, 0] rfl)
def fX3_strangeRows (nu : Int32) (ver : Nat → Int32) (row : Nat → Int32) : Option (Int32) := fX3_strangeRows_b4 2000 nu (0 : Int32) (0 : Int32) ver row
set_option maxHeartbeats 4000000 in
set_option maxRecDepth 100000 in
theorem qX3_strangeRows (l : Launch) (G : gT) (h0 h1 h2 : Nat) {nu : Int32} {ver : Nat → Int32} {row : Nat → Int32} {u : Int32} (hf : fX3_strangeRows nu ver row = some u) : gR l G yX3_strangeRows wsX3_strangeRows rmX3_strangeRows [.ref h0] (shapeW G h0 h1 h2 nu ver row) (some (.int u)) := by
  refine gR.of (cc := cX3_strangeRows) (maxL := 3) (ret := (some .int)) (by decide) rfl (Nat.le_of_ble_eq_true rfl) ?_
  intro p e s m below meth c C0 hP ls hl
  obtain ⟨hx, hb, hr, hts, hown, hlocks, hml, hK⟩ := id C0
  have hl : lv_has ls 3 [(0, .ref h0)] := hl
  have hP : va_P G.1 vwCl [(h0, .inr (2, [.int nu, .ref h1, .ref h2])), (h1, .inl (G.2.1, 31, .inl ver)), (h2, .inl (G.2.1, 31, .inl row))] s.heap := hP
  unfold fX3_strangeRows at hf
  refine lv_iconst (v := (0 : Int32)) hx hb dX3_strangeRows_0 (by decide) ?_
  refine lv_istore_n (lv' := [(1, .int (0 : Int32)), (0, .ref h0)]) hx hb dX3_strangeRows_1 rfl hl (by decide) rfl (fun ls hl => ?_)
  refine lv_iconst (v := (0 : Int32)) hx hb dX3_strangeRows_2 (by decide) ?_
  refine lv_istore_n (lv' := [(2, .int (0 : Int32)), (1, .int (0 : Int32)), (0, .ref h0)]) hx hb dX3_strangeRows_3 rfl hl (by decide) rfl (fun ls hl => ?_)
  exact kX3_strangeRows_b4 C0 2000 _ _ _ _ _ _ hf hP ls (lv_sub hl [2, 1, 0] rfl)
-- TwoShapes$Shape.known()I
abbrev rmX3_known : Room := { frames := 0, cells := 0, slots := 0, locals := 0 }
def fX3_known_b4 : Nat → Int32 → Int32 → Int32 → (Nat → Int32) → (Nat → Int32) → Option (Int32)
  | 0, _, _, _, _, _ => none
  | n + 1, nu, x1, x2, ver, row => (if (31 : Int32) ≤ x2 then some (x1) else g_gd (g_in x2 31) ((if (ver x2.toNatClampNeg) = (0 : Int32) then fX3_known_b4 n nu (x1 + (0 : Int32)) (x2 + (1 : Int32)) ver row else fX3_known_b4 n nu (x1 + (1 : Int32)) (x2 + (1 : Int32)) ver row)))
set_option maxHeartbeats 4000000 in
set_option maxRecDepth 100000 in
theorem kX3_known_b4 {p : Program} {l : Launch} {e : Env} {s : State} {m : MethodId} {args : Array Value} {below : List Frame} {meth : Method} {c : Code} {G : gT} {h0 h1 h2 : Nat} (C0 : gX p s m args meth c cX3_known 3 (some .int) RX3 G) :
    ∀ (n : Nat) (nu : Int32) (x1 : Int32) (x2 : Int32) (ver : Nat → Int32) (row : Nat → Int32) (u : Int32), fX3_known_b4 n nu x1 x2 ver row = some u → va_P G.1 vwCl [(h0, .inr (2, [.int nu, .ref h1, .ref h2])), (h1, .inl (G.2.1, 31, .inl ver)), (h2, .inl (G.2.1, 31, .inl row))] s.heap → ∀ ls, lv_has ls 3 [(0, .ref h0), (1, .int x1), (2, .int x2)] → gV p l e (headSpec wsX3_known rmX3_known).room s m args below meth c (some (.int u)) 4 ls [] := by
  obtain ⟨hx, hb, hr, hts, hown, hlocks, hml, hK⟩ := id C0
  intro n
  induction n with
  | zero =>
    intro nu x1 x2 ver row u hf hP ls hl
    have hf : (none : Option (Int32)) = some u := hf
    cases hf
  | succ n ih =>
    intro nu x1 x2 ver row u hf hP ls hl
    rw [fX3_known_b4] at hf
    refine lv_iload_n hx hb dX3_known_4 rfl (lv_at hl 2 rfl) ?_
    refine lv_bipush (v := (31 : Int32)) hx hb dX3_known_5 (by decide) ?_
    refine lv_icmp_ge (tgt := 33) hx hb dX3_known_7 (by decide) (fun c1 => ?_) (fun c1 => ?_)
    · have hf := g_ifT c1 hf
      refine lv_iload_n hx hb dX3_known_33 rfl (lv_at hl 1 rfl) ?_
      cases hf
      exact g_iretR hx hb hr hlocks dX3_known_34
    · have hf := g_ifF c1 hf
      refine lv_iload_n hx hb dX3_known_10 rfl (lv_at hl 1 rfl) ?_
      refine lv_aload_n hx hb dX3_known_11 rfl (lv_at hl 0 rfl) ?_
      refine va_get (D := G.1) (ci := 2) (v := .ref h1) (C := RX3) (T := TX3) (N := 3) hx hb hts hX3 hown hK.1 hP 0 rfl rfl 1 (by decide) (hts _ tw_40) (fun _ h9 => h9) rfl dX3_known_12 ?_
      refine lv_iload_n hx hb dX3_known_15 rfl (lv_at hl 2 rfl) ?_
      obtain ⟨g2, hf⟩ := g_gdS hf
      refine va_iald hx hb hK.1 hP 1 0 rfl rfl (g_in_vp g2) dX3_known_16 ?_
      refine lv_if_ne (tgt := 24) hx hb dX3_known_17 (by decide) (fun c3 => ?_) (fun c3 => ?_)
      · have hf := g_ifF c3 hf
        refine lv_iconst (v := (1 : Int32)) hx hb dX3_known_24 (by decide) ?_
        refine lv_iadd hx hb dX3_known_25 ?_
        refine lv_istore_n (lv' := [(1, .int (x1 + (1 : Int32))), (0, .ref h0), (2, .int x2)]) hx hb dX3_known_26 rfl hl (by decide) rfl (fun ls hl => ?_)
        refine lv_iinc (v := (x2 + (1 : Int32))) (lv' := [(2, .int (x2 + (1 : Int32))), (1, .int (x1 + (1 : Int32))), (0, .ref h0)]) hx hb dX3_known_27 hl (k := 2) rfl rfl (by decide) rfl (fun ls hl => ?_)
        refine lv_goto (tgt := 4) hx hb dX3_known_30 (by decide) ?_
        exact ih _ _ _ _ _ _ hf hP ls (lv_sub hl [2, 1, 0] rfl)
      · have hf := g_ifT c3 hf
        refine lv_iconst (v := (0 : Int32)) hx hb dX3_known_20 (by decide) ?_
        refine lv_goto (tgt := 25) hx hb dX3_known_21 (by decide) ?_
        refine lv_iadd hx hb dX3_known_25 ?_
        refine lv_istore_n (lv' := [(1, .int (x1 + (0 : Int32))), (0, .ref h0), (2, .int x2)]) hx hb dX3_known_26 rfl hl (by decide) rfl (fun ls hl => ?_)
        refine lv_iinc (v := (x2 + (1 : Int32))) (lv' := [(2, .int (x2 + (1 : Int32))), (1, .int (x1 + (0 : Int32))), (0, .ref h0)]) hx hb dX3_known_27 hl (k := 2) rfl rfl (by decide) rfl (fun ls hl => ?_)
        refine lv_goto (tgt := 4) hx hb dX3_known_30 (by decide) ?_
        exact ih _ _ _ _ _ _ hf hP ls (lv_sub hl [2, 1, 0] rfl)
def fX3_known (nu : Int32) (ver : Nat → Int32) (row : Nat → Int32) : Option (Int32) := fX3_known_b4 2000 nu (0 : Int32) (0 : Int32) ver row
set_option maxHeartbeats 4000000 in
set_option maxRecDepth 100000 in
theorem qX3_known (l : Launch) (G : gT) (h0 h1 h2 : Nat) {nu : Int32} {ver : Nat → Int32} {row : Nat → Int32} {u : Int32} (hf : fX3_known nu ver row = some u) : gR l G yX3_known wsX3_known rmX3_known [.ref h0] (shapeW G h0 h1 h2 nu ver row) (some (.int u)) := by
  refine gR.of (cc := cX3_known) (maxL := 3) (ret := (some .int)) (by decide) rfl (Nat.le_of_ble_eq_true rfl) ?_
  intro p e s m below meth c C0 hP ls hl
  obtain ⟨hx, hb, hr, hts, hown, hlocks, hml, hK⟩ := id C0
  have hl : lv_has ls 3 [(0, .ref h0)] := hl
  have hP : va_P G.1 vwCl [(h0, .inr (2, [.int nu, .ref h1, .ref h2])), (h1, .inl (G.2.1, 31, .inl ver)), (h2, .inl (G.2.1, 31, .inl row))] s.heap := hP
  unfold fX3_known at hf
  refine lv_iconst (v := (0 : Int32)) hx hb dX3_known_0 (by decide) ?_
  refine lv_istore_n (lv' := [(1, .int (0 : Int32)), (0, .ref h0)]) hx hb dX3_known_1 rfl hl (by decide) rfl (fun ls hl => ?_)
  refine lv_iconst (v := (0 : Int32)) hx hb dX3_known_2 (by decide) ?_
  refine lv_istore_n (lv' := [(2, .int (0 : Int32)), (1, .int (0 : Int32)), (0, .ref h0)]) hx hb dX3_known_3 rfl hl (by decide) rfl (fun ls hl => ?_)
  exact kX3_known_b4 C0 2000 _ _ _ _ _ _ hf hP ls (lv_sub hl [2, 1, 0] rfl)
-- TwoShapes$Queue.copyFrom(LTwoShapes$Queue;)V
abbrev rmX1_copyFrom : Room := { frames := 1, cells := 0, slots := 0, locals := 40 }
def fX1_copyFrom (len : Int32) (qk : Nat → Int32) (qv : Nat → Int32) (qr : Nat → Int32) (olen : Int32) (oqk : Nat → Int32) (oqv : Nat → Int32) (oqr : Nat → Int32) : Option (Int32 × (Nat → Int32) × (Nat → Int32) × (Nat → Int32)) := some (olen, (va_cpy oqk qk 0 0 8), (va_cpy oqv qv 0 0 8), (va_cpy oqr qr 0 0 8))
set_option maxHeartbeats 4000000 in
set_option maxRecDepth 100000 in
theorem qX1_copyFrom (l : Launch) (G : gT) (h0 h1 h2 h3 : Nat) (k0 k1 k2 k3 : Nat) {len : Int32} {qk : Nat → Int32} {qv : Nat → Int32} {qr : Nat → Int32} {olen : Int32} {oqk : Nat → Int32} {oqv : Nat → Int32} {oqr : Nat → Int32} {u : Int32 × (Nat → Int32) × (Nat → Int32) × (Nat → Int32)} (hf : fX1_copyFrom len qk qv qr olen oqk oqv oqr = some u) : gC l G yX1_copyFrom wsX1_copyFrom rmX1_copyFrom [.ref h0, .ref k0] (queueW G h0 h1 h2 h3 len qk qv qr ++ queueW G k0 k1 k2 k3 olen oqk oqv oqr) none (queueW G h0 h1 h2 h3 u.1 u.2.1 u.2.2.1 u.2.2.2 ++ queueW G k0 k1 k2 k3 olen oqk oqv oqr) := by
  refine gC.of (cc := cX1_copyFrom) (maxL := 2) (ret := none) (by decide) rfl (Nat.le_of_ble_eq_true rfl) ?_
  intro p e s m below meth c C0 hP hD hS ls hl
  obtain ⟨hx, hb, hr, hts, hown, hlocks, hml, hK⟩ := id C0
  have hl : lv_has ls 2 [(0, .ref h0), (1, .ref k0)] := hl
  have hA : ∀ q : Nat, s.heap.size ≤ q → va_A (queueW G h0 h1 h2 h3 len qk qv qr ++ queueW G k0 k1 k2 k3 olen oqk oqv oqr) s.heap.size q := fun q h => Or.inr h
  have hP : va_P G.1 vwCl [(h0, .inr (1, [.int len, .ref h1, .ref h2, .ref h3])), (h1, .inl (G.2.1, 8, .inl qk)), (h2, .inl (G.2.1, 8, .inl qv)), (h3, .inl (G.2.1, 8, .inl qr)), (k0, .inr (1, [.int olen, .ref k1, .ref k2, .ref k3])), (k1, .inl (G.2.1, 8, .inl oqk)), (k2, .inl (G.2.1, 8, .inl oqv)), (k3, .inl (G.2.1, 8, .inl oqr))] s.heap := hP
  have hD : va_D (va_A (queueW G h0 h1 h2 h3 len qk qv qr ++ queueW G k0 k1 k2 k3 olen oqk oqv oqr) s.heap.size) [(h0, .inr (1, [.int len, .ref h1, .ref h2, .ref h3])), (h1, .inl (G.2.1, 8, .inl qk)), (h2, .inl (G.2.1, 8, .inl qv)), (h3, .inl (G.2.1, 8, .inl qr)), (k0, .inr (1, [.int olen, .ref k1, .ref k2, .ref k3])), (k1, .inl (G.2.1, 8, .inl oqk)), (k2, .inl (G.2.1, 8, .inl oqv)), (k3, .inl (G.2.1, 8, .inl oqr))] := hD
  unfold fX1_copyFrom at hf
  refine lv_aload_n hx hb dX1_copyFrom_0 rfl (lv_at hl 0 rfl) ?_
  refine lv_aload_n hx hb dX1_copyFrom_1 rfl (lv_at hl 1 rfl) ?_
  refine va_get (D := G.1) (ci := 1) (v := .int olen) (C := RX1) (T := TX1) (N := 4) hx hb hts hX1 hown hK.1 hP 4 rfl rfl 0 (by decide) (hts _ tw_60) (fun _ h9 => h9) rfl dX1_copyFrom_2 ?_
  refine va_put (D := G.1) (ci := 1) (v := .int olen) (ty := .int) (C := RX1) (T := TX1) (N := 4) hx hb hts hX1 tyX1 tyX1_ok nmX1 hown hK.1 hP hD hS 0 rfl rfl 0 (by decide) (hts _ tw_60) (fun _ h9 => h9) rfl (by decide +kernel) rfl rfl (Nat.le_of_ble_eq_true rfl) dX1_copyFrom_5 (fun H locs hP hD hS => ?_)
  have hP : va_P G.1 vwCl [(h0, .inr (1, [.int olen, .ref h1, .ref h2, .ref h3])), (h1, .inl (G.2.1, 8, .inl qk)), (h2, .inl (G.2.1, 8, .inl qv)), (h3, .inl (G.2.1, 8, .inl qr)), (k0, .inr (1, [.int olen, .ref k1, .ref k2, .ref k3])), (k1, .inl (G.2.1, 8, .inl oqk)), (k2, .inl (G.2.1, 8, .inl oqv)), (k3, .inl (G.2.1, 8, .inl oqr))] H := hP
  have hD : va_D (va_A (queueW G h0 h1 h2 h3 len qk qv qr ++ queueW G k0 k1 k2 k3 olen oqk oqv oqr) s.heap.size) [(h0, .inr (1, [.int olen, .ref h1, .ref h2, .ref h3])), (h1, .inl (G.2.1, 8, .inl qk)), (h2, .inl (G.2.1, 8, .inl qv)), (h3, .inl (G.2.1, 8, .inl qr)), (k0, .inr (1, [.int olen, .ref k1, .ref k2, .ref k3])), (k1, .inl (G.2.1, 8, .inl oqk)), (k2, .inl (G.2.1, 8, .inl oqv)), (k3, .inl (G.2.1, 8, .inl oqr))] := hD
  refine lv_aload_n hx hb dX1_copyFrom_8 rfl (lv_at hl 1 rfl) ?_
  refine va_get (D := G.1) (ci := 1) (v := .ref k1) (C := RX1) (T := TX1) (N := 4) hx hb hts hX1 hown hK.1 hP 4 rfl rfl 1 (by decide) (hts _ tw_63) (fun _ h9 => h9) rfl dX1_copyFrom_9 ?_
  refine lv_iconst (v := (0 : Int32)) hx hb dX1_copyFrom_12 (by decide) ?_
  refine lv_aload_n hx hb dX1_copyFrom_13 rfl (lv_at hl 0 rfl) ?_
  refine va_get (D := G.1) (ci := 1) (v := .ref h1) (C := RX1) (T := TX1) (N := 4) hx hb hts hX1 hown hK.1 hP 0 rfl rfl 1 (by decide) (hts _ tw_63) (fun _ h9 => h9) rfl dX1_copyFrom_14 ?_
  refine lv_iconst (v := (0 : Int32)) hx hb dX1_copyFrom_17 (by decide) ?_
  refine lv_bipush (v := (8 : Int32)) hx hb dX1_copyFrom_18 (by decide) ?_
  refine va_copyi hx hb (by rw [hml]; exact hl.1.symm) hown (hts _ tw_183) (hts _ tw_178) (hts _ tw_177) (hts _ tw_11) hK.1 hP hD hS 5 1 0 0 (ty := .int) rfl rfl rfl rfl rfl (by decide) (by decide) (by decide) (by decide) (by decide) (fun _ _ => rfl) (by decide) (by decide) dX1_copyFrom_20 (fun H locs hP hD hS => ?_)
  have hP : va_P G.1 vwCl [(h0, .inr (1, [.int olen, .ref h1, .ref h2, .ref h3])), (h1, .inl (G.2.1, 8, .inl (va_cpy oqk qk 0 0 8))), (h2, .inl (G.2.1, 8, .inl qv)), (h3, .inl (G.2.1, 8, .inl qr)), (k0, .inr (1, [.int olen, .ref k1, .ref k2, .ref k3])), (k1, .inl (G.2.1, 8, .inl oqk)), (k2, .inl (G.2.1, 8, .inl oqv)), (k3, .inl (G.2.1, 8, .inl oqr))] H := hP
  have hD : va_D (va_A (queueW G h0 h1 h2 h3 len qk qv qr ++ queueW G k0 k1 k2 k3 olen oqk oqv oqr) s.heap.size) [(h0, .inr (1, [.int olen, .ref h1, .ref h2, .ref h3])), (h1, .inl (G.2.1, 8, .inl (va_cpy oqk qk 0 0 8))), (h2, .inl (G.2.1, 8, .inl qv)), (h3, .inl (G.2.1, 8, .inl qr)), (k0, .inr (1, [.int olen, .ref k1, .ref k2, .ref k3])), (k1, .inl (G.2.1, 8, .inl oqk)), (k2, .inl (G.2.1, 8, .inl oqv)), (k3, .inl (G.2.1, 8, .inl oqr))] := hD
  refine lv_aload_n hx hb dX1_copyFrom_23 rfl (lv_at hl 1 rfl) ?_
  refine va_get (D := G.1) (ci := 1) (v := .ref k2) (C := RX1) (T := TX1) (N := 4) hx hb hts hX1 hown hK.1 hP 4 rfl rfl 2 (by decide) (hts _ tw_65) (fun _ h9 => h9) rfl dX1_copyFrom_24 ?_
  refine lv_iconst (v := (0 : Int32)) hx hb dX1_copyFrom_27 (by decide) ?_
  refine lv_aload_n hx hb dX1_copyFrom_28 rfl (lv_at hl 0 rfl) ?_
  refine va_get (D := G.1) (ci := 1) (v := .ref h2) (C := RX1) (T := TX1) (N := 4) hx hb hts hX1 hown hK.1 hP 0 rfl rfl 2 (by decide) (hts _ tw_65) (fun _ h9 => h9) rfl dX1_copyFrom_29 ?_
  refine lv_iconst (v := (0 : Int32)) hx hb dX1_copyFrom_32 (by decide) ?_
  refine lv_bipush (v := (8 : Int32)) hx hb dX1_copyFrom_33 (by decide) ?_
  refine va_copyi hx hb (by rw [hml]; exact hl.1.symm) hown (hts _ tw_183) (hts _ tw_178) (hts _ tw_177) (hts _ tw_11) hK.1 hP hD hS 6 2 0 0 (ty := .int) rfl rfl rfl rfl rfl (by decide) (by decide) (by decide) (by decide) (by decide) (fun _ _ => rfl) (by decide) (by decide) dX1_copyFrom_35 (fun H locs hP hD hS => ?_)
  have hP : va_P G.1 vwCl [(h0, .inr (1, [.int olen, .ref h1, .ref h2, .ref h3])), (h1, .inl (G.2.1, 8, .inl (va_cpy oqk qk 0 0 8))), (h2, .inl (G.2.1, 8, .inl (va_cpy oqv qv 0 0 8))), (h3, .inl (G.2.1, 8, .inl qr)), (k0, .inr (1, [.int olen, .ref k1, .ref k2, .ref k3])), (k1, .inl (G.2.1, 8, .inl oqk)), (k2, .inl (G.2.1, 8, .inl oqv)), (k3, .inl (G.2.1, 8, .inl oqr))] H := hP
  have hD : va_D (va_A (queueW G h0 h1 h2 h3 len qk qv qr ++ queueW G k0 k1 k2 k3 olen oqk oqv oqr) s.heap.size) [(h0, .inr (1, [.int olen, .ref h1, .ref h2, .ref h3])), (h1, .inl (G.2.1, 8, .inl (va_cpy oqk qk 0 0 8))), (h2, .inl (G.2.1, 8, .inl (va_cpy oqv qv 0 0 8))), (h3, .inl (G.2.1, 8, .inl qr)), (k0, .inr (1, [.int olen, .ref k1, .ref k2, .ref k3])), (k1, .inl (G.2.1, 8, .inl oqk)), (k2, .inl (G.2.1, 8, .inl oqv)), (k3, .inl (G.2.1, 8, .inl oqr))] := hD
  refine lv_aload_n hx hb dX1_copyFrom_38 rfl (lv_at hl 1 rfl) ?_
  refine va_get (D := G.1) (ci := 1) (v := .ref k3) (C := RX1) (T := TX1) (N := 4) hx hb hts hX1 hown hK.1 hP 4 rfl rfl 3 (by decide) (hts _ tw_67) (fun _ h9 => h9) rfl dX1_copyFrom_39 ?_
  refine lv_iconst (v := (0 : Int32)) hx hb dX1_copyFrom_42 (by decide) ?_
  refine lv_aload_n hx hb dX1_copyFrom_43 rfl (lv_at hl 0 rfl) ?_
  refine va_get (D := G.1) (ci := 1) (v := .ref h3) (C := RX1) (T := TX1) (N := 4) hx hb hts hX1 hown hK.1 hP 0 rfl rfl 3 (by decide) (hts _ tw_67) (fun _ h9 => h9) rfl dX1_copyFrom_44 ?_
  refine lv_iconst (v := (0 : Int32)) hx hb dX1_copyFrom_47 (by decide) ?_
  refine lv_bipush (v := (8 : Int32)) hx hb dX1_copyFrom_48 (by decide) ?_
  refine va_copyi hx hb (by rw [hml]; exact hl.1.symm) hown (hts _ tw_183) (hts _ tw_178) (hts _ tw_177) (hts _ tw_11) hK.1 hP hD hS 7 3 0 0 (ty := .int) rfl rfl rfl rfl rfl (by decide) (by decide) (by decide) (by decide) (by decide) (fun _ _ => rfl) (by decide) (by decide) dX1_copyFrom_50 (fun H locs hP hD hS => ?_)
  have hP : va_P G.1 vwCl [(h0, .inr (1, [.int olen, .ref h1, .ref h2, .ref h3])), (h1, .inl (G.2.1, 8, .inl (va_cpy oqk qk 0 0 8))), (h2, .inl (G.2.1, 8, .inl (va_cpy oqv qv 0 0 8))), (h3, .inl (G.2.1, 8, .inl (va_cpy oqr qr 0 0 8))), (k0, .inr (1, [.int olen, .ref k1, .ref k2, .ref k3])), (k1, .inl (G.2.1, 8, .inl oqk)), (k2, .inl (G.2.1, 8, .inl oqv)), (k3, .inl (G.2.1, 8, .inl oqr))] H := hP
  have hD : va_D (va_A (queueW G h0 h1 h2 h3 len qk qv qr ++ queueW G k0 k1 k2 k3 olen oqk oqv oqr) s.heap.size) [(h0, .inr (1, [.int olen, .ref h1, .ref h2, .ref h3])), (h1, .inl (G.2.1, 8, .inl (va_cpy oqk qk 0 0 8))), (h2, .inl (G.2.1, 8, .inl (va_cpy oqv qv 0 0 8))), (h3, .inl (G.2.1, 8, .inl (va_cpy oqr qr 0 0 8))), (k0, .inr (1, [.int olen, .ref k1, .ref k2, .ref k3])), (k1, .inl (G.2.1, 8, .inl oqk)), (k2, .inl (G.2.1, 8, .inl oqv)), (k3, .inl (G.2.1, 8, .inl oqr))] := hD
  cases hf
  exact g_vretC hx hb hr hlocks hP hD hS dX1_copyFrom_53
-- TwoShapes$Queue.append(III)V
abbrev rmX1_append : Room := { frames := 0, cells := 0, slots := 0, locals := 0 }
def fX1_append (p0 : Int32) (p1 : Int32) (p2 : Int32) (len : Int32) (qk : Nat → Int32) (qv : Nat → Int32) (qr : Nat → Int32) : Option (Int32 × (Nat → Int32) × (Nat → Int32) × (Nat → Int32)) := (if (8 : Int32) ≤ len then some (len, qk, qv, qr) else g_gd (g_in len 8) (g_gd (g_in len 8) (g_gd (g_in len 8) (some ((len + (1 : Int32)), (upd qk len.toNatClampNeg p0), (upd qv len.toNatClampNeg p1), (upd qr len.toNatClampNeg p2))))))
set_option maxHeartbeats 4000000 in
set_option maxRecDepth 100000 in
theorem qX1_append (l : Launch) (G : gT) (h0 h1 h2 h3 : Nat) {p0 : Int32} {p1 : Int32} {p2 : Int32} {len : Int32} {qk : Nat → Int32} {qv : Nat → Int32} {qr : Nat → Int32} {u : Int32 × (Nat → Int32) × (Nat → Int32) × (Nat → Int32)} (hf : fX1_append p0 p1 p2 len qk qv qr = some u) : gC l G yX1_append wsX1_append rmX1_append [.ref h0, .int p0, .int p1, .int p2] (queueW G h0 h1 h2 h3 len qk qv qr) none (queueW G h0 h1 h2 h3 u.1 u.2.1 u.2.2.1 u.2.2.2) := by
  refine gC.of (cc := cX1_append) (maxL := 4) (ret := none) (by decide) rfl (Nat.le_of_ble_eq_true rfl) ?_
  intro p e s m below meth c C0 hP hD hS ls hl
  obtain ⟨hx, hb, hr, hts, hown, hlocks, hml, hK⟩ := id C0
  have hl : lv_has ls 4 [(0, .ref h0), (1, .int p0), (2, .int p1), (3, .int p2)] := hl
  have hA : ∀ q : Nat, s.heap.size ≤ q → va_A (queueW G h0 h1 h2 h3 len qk qv qr) s.heap.size q := fun q h => Or.inr h
  have hP : va_P G.1 vwCl [(h0, .inr (1, [.int len, .ref h1, .ref h2, .ref h3])), (h1, .inl (G.2.1, 8, .inl qk)), (h2, .inl (G.2.1, 8, .inl qv)), (h3, .inl (G.2.1, 8, .inl qr))] s.heap := hP
  have hD : va_D (va_A (queueW G h0 h1 h2 h3 len qk qv qr) s.heap.size) [(h0, .inr (1, [.int len, .ref h1, .ref h2, .ref h3])), (h1, .inl (G.2.1, 8, .inl qk)), (h2, .inl (G.2.1, 8, .inl qv)), (h3, .inl (G.2.1, 8, .inl qr))] := hD
  unfold fX1_append at hf
  refine lv_aload_n hx hb dX1_append_0 rfl (lv_at hl 0 rfl) ?_
  refine va_get (D := G.1) (ci := 1) (v := .int len) (C := RX1) (T := TX1) (N := 4) hx hb hts hX1 hown hK.1 hP 0 rfl rfl 0 (by decide) (hts _ tw_60) (fun _ h9 => h9) rfl dX1_append_1 ?_
  refine lv_bipush (v := (8 : Int32)) hx hb dX1_append_4 (by decide) ?_
  refine lv_icmp_ge (tgt := 49) hx hb dX1_append_6 (by decide) (fun c1 => ?_) (fun c1 => ?_)
  · have hf := g_ifT c1 hf
    cases hf
    exact g_vretC hx hb hr hlocks hP hD hS dX1_append_49
  · have hf := g_ifF c1 hf
    refine lv_aload_n hx hb dX1_append_9 rfl (lv_at hl 0 rfl) ?_
    refine va_get (D := G.1) (ci := 1) (v := .ref h1) (C := RX1) (T := TX1) (N := 4) hx hb hts hX1 hown hK.1 hP 0 rfl rfl 1 (by decide) (hts _ tw_63) (fun _ h9 => h9) rfl dX1_append_10 ?_
    refine lv_aload_n hx hb dX1_append_13 rfl (lv_at hl 0 rfl) ?_
    refine va_get (D := G.1) (ci := 1) (v := .int len) (C := RX1) (T := TX1) (N := 4) hx hb hts hX1 hown hK.1 hP 0 rfl rfl 0 (by decide) (hts _ tw_60) (fun _ h9 => h9) rfl dX1_append_14 ?_
    refine lv_iload_n hx hb dX1_append_17 rfl (lv_at hl 1 rfl) ?_
    obtain ⟨g2, hf⟩ := g_gdS hf
    refine va_iast hx hb hK.1 hP hD hS 1 0 rfl rfl (g_in_vp g2) dX1_append_18 (fun H locs hP hD hS => ?_)
    have hP : va_P G.1 vwCl [(h0, .inr (1, [.int len, .ref h1, .ref h2, .ref h3])), (h1, .inl (G.2.1, 8, .inl (upd qk len.toNatClampNeg p0))), (h2, .inl (G.2.1, 8, .inl qv)), (h3, .inl (G.2.1, 8, .inl qr))] H := hP
    have hD : va_D (va_A (queueW G h0 h1 h2 h3 len qk qv qr) s.heap.size) [(h0, .inr (1, [.int len, .ref h1, .ref h2, .ref h3])), (h1, .inl (G.2.1, 8, .inl (upd qk len.toNatClampNeg p0))), (h2, .inl (G.2.1, 8, .inl qv)), (h3, .inl (G.2.1, 8, .inl qr))] := hD
    refine lv_aload_n hx hb dX1_append_19 rfl (lv_at hl 0 rfl) ?_
    refine va_get (D := G.1) (ci := 1) (v := .ref h2) (C := RX1) (T := TX1) (N := 4) hx hb hts hX1 hown hK.1 hP 0 rfl rfl 2 (by decide) (hts _ tw_65) (fun _ h9 => h9) rfl dX1_append_20 ?_
    refine lv_aload_n hx hb dX1_append_23 rfl (lv_at hl 0 rfl) ?_
    refine va_get (D := G.1) (ci := 1) (v := .int len) (C := RX1) (T := TX1) (N := 4) hx hb hts hX1 hown hK.1 hP 0 rfl rfl 0 (by decide) (hts _ tw_60) (fun _ h9 => h9) rfl dX1_append_24 ?_
    refine lv_iload_n hx hb dX1_append_27 rfl (lv_at hl 2 rfl) ?_
    obtain ⟨g3, hf⟩ := g_gdS hf
    refine va_iast hx hb hK.1 hP hD hS 2 0 rfl rfl (g_in_vp g3) dX1_append_28 (fun H locs hP hD hS => ?_)
    have hP : va_P G.1 vwCl [(h0, .inr (1, [.int len, .ref h1, .ref h2, .ref h3])), (h1, .inl (G.2.1, 8, .inl (upd qk len.toNatClampNeg p0))), (h2, .inl (G.2.1, 8, .inl (upd qv len.toNatClampNeg p1))), (h3, .inl (G.2.1, 8, .inl qr))] H := hP
    have hD : va_D (va_A (queueW G h0 h1 h2 h3 len qk qv qr) s.heap.size) [(h0, .inr (1, [.int len, .ref h1, .ref h2, .ref h3])), (h1, .inl (G.2.1, 8, .inl (upd qk len.toNatClampNeg p0))), (h2, .inl (G.2.1, 8, .inl (upd qv len.toNatClampNeg p1))), (h3, .inl (G.2.1, 8, .inl qr))] := hD
    refine lv_aload_n hx hb dX1_append_29 rfl (lv_at hl 0 rfl) ?_
    refine va_get (D := G.1) (ci := 1) (v := .ref h3) (C := RX1) (T := TX1) (N := 4) hx hb hts hX1 hown hK.1 hP 0 rfl rfl 3 (by decide) (hts _ tw_67) (fun _ h9 => h9) rfl dX1_append_30 ?_
    refine lv_aload_n hx hb dX1_append_33 rfl (lv_at hl 0 rfl) ?_
    refine va_get (D := G.1) (ci := 1) (v := .int len) (C := RX1) (T := TX1) (N := 4) hx hb hts hX1 hown hK.1 hP 0 rfl rfl 0 (by decide) (hts _ tw_60) (fun _ h9 => h9) rfl dX1_append_34 ?_
    refine lv_iload_n hx hb dX1_append_37 rfl (lv_at hl 3 rfl) ?_
    obtain ⟨g4, hf⟩ := g_gdS hf
    refine va_iast hx hb hK.1 hP hD hS 3 0 rfl rfl (g_in_vp g4) dX1_append_38 (fun H locs hP hD hS => ?_)
    have hP : va_P G.1 vwCl [(h0, .inr (1, [.int len, .ref h1, .ref h2, .ref h3])), (h1, .inl (G.2.1, 8, .inl (upd qk len.toNatClampNeg p0))), (h2, .inl (G.2.1, 8, .inl (upd qv len.toNatClampNeg p1))), (h3, .inl (G.2.1, 8, .inl (upd qr len.toNatClampNeg p2)))] H := hP
    have hD : va_D (va_A (queueW G h0 h1 h2 h3 len qk qv qr) s.heap.size) [(h0, .inr (1, [.int len, .ref h1, .ref h2, .ref h3])), (h1, .inl (G.2.1, 8, .inl (upd qk len.toNatClampNeg p0))), (h2, .inl (G.2.1, 8, .inl (upd qv len.toNatClampNeg p1))), (h3, .inl (G.2.1, 8, .inl (upd qr len.toNatClampNeg p2)))] := hD
    refine lv_aload_n hx hb dX1_append_39 rfl (lv_at hl 0 rfl) ?_
    refine lv_dup hx hb dX1_append_40 rfl ?_
    refine va_get (D := G.1) (ci := 1) (v := .int len) (C := RX1) (T := TX1) (N := 4) hx hb hts hX1 hown hK.1 hP 0 rfl rfl 0 (by decide) (hts _ tw_60) (fun _ h9 => h9) rfl dX1_append_41 ?_
    refine lv_iconst (v := (1 : Int32)) hx hb dX1_append_44 (by decide) ?_
    refine lv_iadd hx hb dX1_append_45 ?_
    refine va_put (D := G.1) (ci := 1) (v := .int (len + (1 : Int32))) (ty := .int) (C := RX1) (T := TX1) (N := 4) hx hb hts hX1 tyX1 tyX1_ok nmX1 hown hK.1 hP hD hS 0 rfl rfl 0 (by decide) (hts _ tw_60) (fun _ h9 => h9) rfl (by decide +kernel) rfl rfl (Nat.le_of_ble_eq_true rfl) dX1_append_46 (fun H locs hP hD hS => ?_)
    have hP : va_P G.1 vwCl [(h0, .inr (1, [.int (len + (1 : Int32)), .ref h1, .ref h2, .ref h3])), (h1, .inl (G.2.1, 8, .inl (upd qk len.toNatClampNeg p0))), (h2, .inl (G.2.1, 8, .inl (upd qv len.toNatClampNeg p1))), (h3, .inl (G.2.1, 8, .inl (upd qr len.toNatClampNeg p2)))] H := hP
    have hD : va_D (va_A (queueW G h0 h1 h2 h3 len qk qv qr) s.heap.size) [(h0, .inr (1, [.int (len + (1 : Int32)), .ref h1, .ref h2, .ref h3])), (h1, .inl (G.2.1, 8, .inl (upd qk len.toNatClampNeg p0))), (h2, .inl (G.2.1, 8, .inl (upd qv len.toNatClampNeg p1))), (h3, .inl (G.2.1, 8, .inl (upd qr len.toNatClampNeg p2)))] := hD
    cases hf
    exact g_vretC hx hb hr hlocks hP hD hS dX1_append_49
-- TwoShapes$Queue.shorten(I)V
abbrev rmX1_shorten : Room := { frames := 1, cells := 0, slots := 0, locals := 14 }
def fX1_shorten_b13 : Nat → Int32 → Int32 → Int32 → Int32 → (Nat → Int32) → (Nat → Int32) → (Nat → Int32) → Option (Int32 × (Nat → Int32) × (Nat → Int32) × (Nat → Int32))
  | 0, _, _, _, _, _, _, _ => none
  | n + 1, x1, x2, x3, len, qk, qv, qr => (if x2 ≤ x3 then some (x2, qk, qv, qr) else g_gd (g_in (x3 + x1) 8) (g_gd (g_in x3 8) (g_gd (g_in (x3 + x1) 8) (g_gd (g_in x3 8) (g_gd (g_in (x3 + x1) 8) (g_gd (g_in x3 8) (fX1_shorten_b13 n x1 x2 (x3 + (1 : Int32)) len (upd qk x3.toNatClampNeg (qk (x3 + x1).toNatClampNeg)) (upd qv x3.toNatClampNeg (qv (x3 + x1).toNatClampNeg)) (upd qr x3.toNatClampNeg (qr (x3 + x1).toNatClampNeg)))))))))
set_option maxHeartbeats 4000000 in
set_option maxRecDepth 100000 in
theorem kX1_shorten_b13 {p : Program} {l : Launch} {e : Env} {s : State} {m : MethodId} {args : Array Value} {below : List Frame} {meth : Method} {c : Code} {G : gT} {h0 h1 h2 h3 : Nat} {w0 : va_W} (C0 : gX p s m args meth c cX1_shorten 4 none RX1 G) :
    ∀ (n : Nat) (x1 : Int32) (x2 : Int32) (x3 : Int32) (len : Int32) (qk : Nat → Int32) (qv : Nat → Int32) (qr : Nat → Int32) (u : Int32 × (Nat → Int32) × (Nat → Int32) × (Nat → Int32)), fX1_shorten_b13 n x1 x2 x3 len qk qv qr = some u → ∀ (H : Heap) (locs : List Loc), va_P G.1 vwCl [(h0, .inr (1, [.int len, .ref h1, .ref h2, .ref h3])), (h1, .inl (G.2.1, 8, .inl qk)), (h2, .inl (G.2.1, 8, .inl qv)), (h3, .inl (G.2.1, 8, .inl qr))] H → va_D (va_A w0 s.heap.size) [(h0, .inr (1, [.int len, .ref h1, .ref h2, .ref h3])), (h1, .inl (G.2.1, 8, .inl qk)), (h2, .inl (G.2.1, 8, .inl qv)), (h3, .inl (G.2.1, 8, .inl qr))] → va_S (va_A w0 s.heap.size) s.heap H locs → ∀ ls, lv_has ls 4 [(0, .ref h0), (1, .int x1), (2, .int x2), (3, .int x3)] → gW p l e (headSpec wsX1_shorten rmX1_shorten).room s m args below meth c G w0 none (queueW G h0 h1 h2 h3 u.1 u.2.1 u.2.2.1 u.2.2.2) H locs 13 ls [] := by
  obtain ⟨hx, hb, hr, hts, hown, hlocks, hml, hK⟩ := id C0
  have hA : ∀ q : Nat, s.heap.size ≤ q → va_A w0 s.heap.size q := fun q h => Or.inr h
  intro n
  induction n with
  | zero =>
    intro x1 x2 x3 len qk qv qr u hf H locs hP hD hS ls hl
    have hf : (none : Option (Int32 × (Nat → Int32) × (Nat → Int32) × (Nat → Int32))) = some u := hf
    cases hf
  | succ n ih =>
    intro x1 x2 x3 len qk qv qr u hf H locs hP hD hS ls hl
    rw [fX1_shorten_b13] at hf
    refine lv_iload_n hx hb dX1_shorten_13 rfl (lv_at hl 3 rfl) ?_
    refine lv_iload_n hx hb dX1_shorten_14 rfl (lv_at hl 2 rfl) ?_
    refine lv_icmp_ge (tgt := 66) hx hb dX1_shorten_15 (by decide) (fun c1 => ?_) (fun c1 => ?_)
    · have hf := g_ifT c1 hf
      refine lv_aload_n hx hb dX1_shorten_66 rfl (lv_at hl 0 rfl) ?_
      refine lv_iload_n hx hb dX1_shorten_67 rfl (lv_at hl 2 rfl) ?_
      refine va_put (D := G.1) (ci := 1) (v := .int x2) (ty := .int) (C := RX1) (T := TX1) (N := 4) hx hb hts hX1 tyX1 tyX1_ok nmX1 hown hK.1 hP hD hS 0 rfl rfl 0 (by decide) (hts _ tw_60) (fun _ h9 => h9) rfl (by decide +kernel) rfl rfl (Nat.le_of_ble_eq_true rfl) dX1_shorten_68 (fun H locs hP hD hS => ?_)
      have hP : va_P G.1 vwCl [(h0, .inr (1, [.int x2, .ref h1, .ref h2, .ref h3])), (h1, .inl (G.2.1, 8, .inl qk)), (h2, .inl (G.2.1, 8, .inl qv)), (h3, .inl (G.2.1, 8, .inl qr))] H := hP
      have hD : va_D (va_A w0 s.heap.size) [(h0, .inr (1, [.int x2, .ref h1, .ref h2, .ref h3])), (h1, .inl (G.2.1, 8, .inl qk)), (h2, .inl (G.2.1, 8, .inl qv)), (h3, .inl (G.2.1, 8, .inl qr))] := hD
      cases hf
      exact g_vretC hx hb hr hlocks hP hD hS dX1_shorten_71
    · have hf := g_ifF c1 hf
      refine lv_aload_n hx hb dX1_shorten_18 rfl (lv_at hl 0 rfl) ?_
      refine va_get (D := G.1) (ci := 1) (v := .ref h1) (C := RX1) (T := TX1) (N := 4) hx hb hts hX1 hown hK.1 hP 0 rfl rfl 1 (by decide) (hts _ tw_63) (fun _ h9 => h9) rfl dX1_shorten_19 ?_
      refine lv_iload_n hx hb dX1_shorten_22 rfl (lv_at hl 3 rfl) ?_
      refine lv_aload_n hx hb dX1_shorten_23 rfl (lv_at hl 0 rfl) ?_
      refine va_get (D := G.1) (ci := 1) (v := .ref h1) (C := RX1) (T := TX1) (N := 4) hx hb hts hX1 hown hK.1 hP 0 rfl rfl 1 (by decide) (hts _ tw_63) (fun _ h9 => h9) rfl dX1_shorten_24 ?_
      refine lv_iload_n hx hb dX1_shorten_27 rfl (lv_at hl 3 rfl) ?_
      refine lv_iload_n hx hb dX1_shorten_28 rfl (lv_at hl 1 rfl) ?_
      refine lv_iadd hx hb dX1_shorten_29 ?_
      obtain ⟨g2, hf⟩ := g_gdS hf
      refine va_iald hx hb hK.1 hP 1 0 rfl rfl (g_in_vp g2) dX1_shorten_30 ?_
      obtain ⟨g3, hf⟩ := g_gdS hf
      refine va_iast hx hb hK.1 hP hD hS 1 0 rfl rfl (g_in_vp g3) dX1_shorten_31 (fun H locs hP hD hS => ?_)
      have hP : va_P G.1 vwCl [(h0, .inr (1, [.int len, .ref h1, .ref h2, .ref h3])), (h1, .inl (G.2.1, 8, .inl (upd qk x3.toNatClampNeg (qk (x3 + x1).toNatClampNeg)))), (h2, .inl (G.2.1, 8, .inl qv)), (h3, .inl (G.2.1, 8, .inl qr))] H := hP
      have hD : va_D (va_A w0 s.heap.size) [(h0, .inr (1, [.int len, .ref h1, .ref h2, .ref h3])), (h1, .inl (G.2.1, 8, .inl (upd qk x3.toNatClampNeg (qk (x3 + x1).toNatClampNeg)))), (h2, .inl (G.2.1, 8, .inl qv)), (h3, .inl (G.2.1, 8, .inl qr))] := hD
      refine lv_aload_n hx hb dX1_shorten_32 rfl (lv_at hl 0 rfl) ?_
      refine va_get (D := G.1) (ci := 1) (v := .ref h2) (C := RX1) (T := TX1) (N := 4) hx hb hts hX1 hown hK.1 hP 0 rfl rfl 2 (by decide) (hts _ tw_65) (fun _ h9 => h9) rfl dX1_shorten_33 ?_
      refine lv_iload_n hx hb dX1_shorten_36 rfl (lv_at hl 3 rfl) ?_
      refine lv_aload_n hx hb dX1_shorten_37 rfl (lv_at hl 0 rfl) ?_
      refine va_get (D := G.1) (ci := 1) (v := .ref h2) (C := RX1) (T := TX1) (N := 4) hx hb hts hX1 hown hK.1 hP 0 rfl rfl 2 (by decide) (hts _ tw_65) (fun _ h9 => h9) rfl dX1_shorten_38 ?_
      refine lv_iload_n hx hb dX1_shorten_41 rfl (lv_at hl 3 rfl) ?_
      refine lv_iload_n hx hb dX1_shorten_42 rfl (lv_at hl 1 rfl) ?_
      refine lv_iadd hx hb dX1_shorten_43 ?_
      obtain ⟨g4, hf⟩ := g_gdS hf
      refine va_iald hx hb hK.1 hP 2 0 rfl rfl (g_in_vp g4) dX1_shorten_44 ?_
      obtain ⟨g5, hf⟩ := g_gdS hf
      refine va_iast hx hb hK.1 hP hD hS 2 0 rfl rfl (g_in_vp g5) dX1_shorten_45 (fun H locs hP hD hS => ?_)
      have hP : va_P G.1 vwCl [(h0, .inr (1, [.int len, .ref h1, .ref h2, .ref h3])), (h1, .inl (G.2.1, 8, .inl (upd qk x3.toNatClampNeg (qk (x3 + x1).toNatClampNeg)))), (h2, .inl (G.2.1, 8, .inl (upd qv x3.toNatClampNeg (qv (x3 + x1).toNatClampNeg)))), (h3, .inl (G.2.1, 8, .inl qr))] H := hP
      have hD : va_D (va_A w0 s.heap.size) [(h0, .inr (1, [.int len, .ref h1, .ref h2, .ref h3])), (h1, .inl (G.2.1, 8, .inl (upd qk x3.toNatClampNeg (qk (x3 + x1).toNatClampNeg)))), (h2, .inl (G.2.1, 8, .inl (upd qv x3.toNatClampNeg (qv (x3 + x1).toNatClampNeg)))), (h3, .inl (G.2.1, 8, .inl qr))] := hD
      refine lv_aload_n hx hb dX1_shorten_46 rfl (lv_at hl 0 rfl) ?_
      refine va_get (D := G.1) (ci := 1) (v := .ref h3) (C := RX1) (T := TX1) (N := 4) hx hb hts hX1 hown hK.1 hP 0 rfl rfl 3 (by decide) (hts _ tw_67) (fun _ h9 => h9) rfl dX1_shorten_47 ?_
      refine lv_iload_n hx hb dX1_shorten_50 rfl (lv_at hl 3 rfl) ?_
      refine lv_aload_n hx hb dX1_shorten_51 rfl (lv_at hl 0 rfl) ?_
      refine va_get (D := G.1) (ci := 1) (v := .ref h3) (C := RX1) (T := TX1) (N := 4) hx hb hts hX1 hown hK.1 hP 0 rfl rfl 3 (by decide) (hts _ tw_67) (fun _ h9 => h9) rfl dX1_shorten_52 ?_
      refine lv_iload_n hx hb dX1_shorten_55 rfl (lv_at hl 3 rfl) ?_
      refine lv_iload_n hx hb dX1_shorten_56 rfl (lv_at hl 1 rfl) ?_
      refine lv_iadd hx hb dX1_shorten_57 ?_
      obtain ⟨g6, hf⟩ := g_gdS hf
      refine va_iald hx hb hK.1 hP 3 0 rfl rfl (g_in_vp g6) dX1_shorten_58 ?_
      obtain ⟨g7, hf⟩ := g_gdS hf
      refine va_iast hx hb hK.1 hP hD hS 3 0 rfl rfl (g_in_vp g7) dX1_shorten_59 (fun H locs hP hD hS => ?_)
      have hP : va_P G.1 vwCl [(h0, .inr (1, [.int len, .ref h1, .ref h2, .ref h3])), (h1, .inl (G.2.1, 8, .inl (upd qk x3.toNatClampNeg (qk (x3 + x1).toNatClampNeg)))), (h2, .inl (G.2.1, 8, .inl (upd qv x3.toNatClampNeg (qv (x3 + x1).toNatClampNeg)))), (h3, .inl (G.2.1, 8, .inl (upd qr x3.toNatClampNeg (qr (x3 + x1).toNatClampNeg))))] H := hP
      have hD : va_D (va_A w0 s.heap.size) [(h0, .inr (1, [.int len, .ref h1, .ref h2, .ref h3])), (h1, .inl (G.2.1, 8, .inl (upd qk x3.toNatClampNeg (qk (x3 + x1).toNatClampNeg)))), (h2, .inl (G.2.1, 8, .inl (upd qv x3.toNatClampNeg (qv (x3 + x1).toNatClampNeg)))), (h3, .inl (G.2.1, 8, .inl (upd qr x3.toNatClampNeg (qr (x3 + x1).toNatClampNeg))))] := hD
      refine lv_iinc (v := (x3 + (1 : Int32))) (lv' := [(3, .int (x3 + (1 : Int32))), (0, .ref h0), (1, .int x1), (2, .int x2)]) hx hb dX1_shorten_60 hl (k := 3) rfl rfl (by decide) rfl (fun ls hl => ?_)
      refine lv_goto (tgt := 13) hx hb dX1_shorten_63 (by decide) ?_
      exact ih _ _ _ _ _ _ _ _ hf _ _ hP hD hS ls (lv_sub hl [1, 2, 3, 0] rfl)
def fX1_shorten (p0 : Int32) (len : Int32) (qk : Nat → Int32) (qv : Nat → Int32) (qr : Nat → Int32) : Option (Int32 × (Nat → Int32) × (Nat → Int32) × (Nat → Int32)) := fX1_shorten_b13 2000 p0 (if (0 : Int32) < (len - p0) then (len - p0) else (0 : Int32)) (0 : Int32) len qk qv qr
set_option maxHeartbeats 4000000 in
set_option maxRecDepth 100000 in
theorem qX1_shorten (l : Launch) (G : gT) (h0 h1 h2 h3 : Nat) {p0 : Int32} {len : Int32} {qk : Nat → Int32} {qv : Nat → Int32} {qr : Nat → Int32} {u : Int32 × (Nat → Int32) × (Nat → Int32) × (Nat → Int32)} (hf : fX1_shorten p0 len qk qv qr = some u) : gC l G yX1_shorten wsX1_shorten rmX1_shorten [.ref h0, .int p0] (queueW G h0 h1 h2 h3 len qk qv qr) none (queueW G h0 h1 h2 h3 u.1 u.2.1 u.2.2.1 u.2.2.2) := by
  refine gC.of (cc := cX1_shorten) (maxL := 4) (ret := none) (by decide) rfl (Nat.le_of_ble_eq_true rfl) ?_
  intro p e s m below meth c C0 hP hD hS ls hl
  obtain ⟨hx, hb, hr, hts, hown, hlocks, hml, hK⟩ := id C0
  have hl : lv_has ls 4 [(0, .ref h0), (1, .int p0)] := hl
  have hA : ∀ q : Nat, s.heap.size ≤ q → va_A (queueW G h0 h1 h2 h3 len qk qv qr) s.heap.size q := fun q h => Or.inr h
  have hP : va_P G.1 vwCl [(h0, .inr (1, [.int len, .ref h1, .ref h2, .ref h3])), (h1, .inl (G.2.1, 8, .inl qk)), (h2, .inl (G.2.1, 8, .inl qv)), (h3, .inl (G.2.1, 8, .inl qr))] s.heap := hP
  have hD : va_D (va_A (queueW G h0 h1 h2 h3 len qk qv qr) s.heap.size) [(h0, .inr (1, [.int len, .ref h1, .ref h2, .ref h3])), (h1, .inl (G.2.1, 8, .inl qk)), (h2, .inl (G.2.1, 8, .inl qv)), (h3, .inl (G.2.1, 8, .inl qr))] := hD
  unfold fX1_shorten at hf
  refine lv_iconst (v := (0 : Int32)) hx hb dX1_shorten_0 (by decide) ?_
  refine lv_aload_n hx hb dX1_shorten_1 rfl (lv_at hl 0 rfl) ?_
  refine va_get (D := G.1) (ci := 1) (v := .int len) (C := RX1) (T := TX1) (N := 4) hx hb hts hX1 hown hK.1 hP 0 rfl rfl 0 (by decide) (hts _ tw_60) (fun _ h9 => h9) rfl dX1_shorten_2 ?_
  refine lv_iload_n hx hb dX1_shorten_5 rfl (lv_at hl 1 rfl) ?_
  refine lv_isub hx hb dX1_shorten_6 ?_
  refine va_mmax hx hb (by rw [hml]; exact hl.1.symm) hown (hts _ tw_384) (hts _ tw_385) (hts _ tw_12) (hts _ tw_386) (by decide) (by decide) (Nat.zero_le _) (Nat.zero_le _) dX1_shorten_7 ?_
  refine lv_istore_n (lv' := [(2, .int (if (0 : Int32) < (len - p0) then (len - p0) else (0 : Int32))), (0, .ref h0), (1, .int p0)]) hx hb dX1_shorten_10 rfl hl (by decide) rfl (fun ls hl => ?_)
  refine lv_iconst (v := (0 : Int32)) hx hb dX1_shorten_11 (by decide) ?_
  refine lv_istore_n (lv' := [(3, .int (0 : Int32)), (2, .int (if (0 : Int32) < (len - p0) then (len - p0) else (0 : Int32))), (0, .ref h0), (1, .int p0)]) hx hb dX1_shorten_12 rfl hl (by decide) rfl (fun ls hl => ?_)
  exact kX1_shorten_b13 C0 2000 _ _ _ _ _ _ _ _ hf _ _ hP hD hS ls (lv_sub hl [2, 3, 1, 0] rfl)
-- TwoShapes$Queue.latestOf(I)I
abbrev rmX1_latestOf : Room := { frames := 0, cells := 0, slots := 0, locals := 0 }
def fX1_latestOf_b7 : Nat → Int32 → Int32 → Int32 → (Nat → Int32) → (Nat → Int32) → (Nat → Int32) → Option (Int32)
  | 0, _, _, _, _, _, _ => none
  | n + 1, x1, x2, len, qk, qv, qr => (if x2 < (0 : Int32) then some ((-1 : Int32)) else g_gd (g_in x2 8) ((if (qk x2.toNatClampNeg) = x1 then some (x2) else fX1_latestOf_b7 n x1 (x2 + (-1 : Int32)) len qk qv qr)))
set_option maxHeartbeats 4000000 in
set_option maxRecDepth 100000 in
theorem kX1_latestOf_b7 {p : Program} {l : Launch} {e : Env} {s : State} {m : MethodId} {args : Array Value} {below : List Frame} {meth : Method} {c : Code} {G : gT} {h0 h1 h2 h3 : Nat} (C0 : gX p s m args meth c cX1_latestOf 3 (some .int) RX1 G) :
    ∀ (n : Nat) (x1 : Int32) (x2 : Int32) (len : Int32) (qk : Nat → Int32) (qv : Nat → Int32) (qr : Nat → Int32) (u : Int32), fX1_latestOf_b7 n x1 x2 len qk qv qr = some u → va_P G.1 vwCl [(h0, .inr (1, [.int len, .ref h1, .ref h2, .ref h3])), (h1, .inl (G.2.1, 8, .inl qk)), (h2, .inl (G.2.1, 8, .inl qv)), (h3, .inl (G.2.1, 8, .inl qr))] s.heap → ∀ ls, lv_has ls 3 [(0, .ref h0), (1, .int x1), (2, .int x2)] → gV p l e (headSpec wsX1_latestOf rmX1_latestOf).room s m args below meth c (some (.int u)) 7 ls [] := by
  obtain ⟨hx, hb, hr, hts, hown, hlocks, hml, hK⟩ := id C0
  intro n
  induction n with
  | zero =>
    intro x1 x2 len qk qv qr u hf hP ls hl
    have hf : (none : Option (Int32)) = some u := hf
    cases hf
  | succ n ih =>
    intro x1 x2 len qk qv qr u hf hP ls hl
    rw [fX1_latestOf_b7] at hf
    refine lv_iload_n hx hb dX1_latestOf_7 rfl (lv_at hl 2 rfl) ?_
    refine lv_if_lt (tgt := 29) hx hb dX1_latestOf_8 (by decide) (fun c1 => ?_) (fun c1 => ?_)
    · have hf := g_ifT c1 hf
      refine lv_iconst (v := (-1 : Int32)) hx hb dX1_latestOf_29 (by decide) ?_
      cases hf
      exact g_iretR hx hb hr hlocks dX1_latestOf_30
    · have hf := g_ifF c1 hf
      refine lv_aload_n hx hb dX1_latestOf_11 rfl (lv_at hl 0 rfl) ?_
      refine va_get (D := G.1) (ci := 1) (v := .ref h1) (C := RX1) (T := TX1) (N := 4) hx hb hts hX1 hown hK.1 hP 0 rfl rfl 1 (by decide) (hts _ tw_63) (fun _ h9 => h9) rfl dX1_latestOf_12 ?_
      refine lv_iload_n hx hb dX1_latestOf_15 rfl (lv_at hl 2 rfl) ?_
      obtain ⟨g2, hf⟩ := g_gdS hf
      refine va_iald hx hb hK.1 hP 1 0 rfl rfl (g_in_vp g2) dX1_latestOf_16 ?_
      refine lv_iload_n hx hb dX1_latestOf_17 rfl (lv_at hl 1 rfl) ?_
      refine lv_icmp_ne (tgt := 23) hx hb dX1_latestOf_18 (by decide) (fun c3 => ?_) (fun c3 => ?_)
      · have hf := g_ifF c3 hf
        refine lv_iinc (v := (x2 + (-1 : Int32))) (lv' := [(2, .int (x2 + (-1 : Int32))), (0, .ref h0), (1, .int x1)]) hx hb dX1_latestOf_23 hl (k := 2) rfl rfl (by decide) rfl (fun ls hl => ?_)
        refine lv_goto (tgt := 7) hx hb dX1_latestOf_26 (by decide) ?_
        exact ih _ _ _ _ _ _ _ hf hP ls (lv_sub hl [1, 2, 0] rfl)
      · have hf := g_ifT c3 hf
        refine lv_iload_n hx hb dX1_latestOf_21 rfl (lv_at hl 2 rfl) ?_
        cases hf
        exact g_iretR hx hb hr hlocks dX1_latestOf_22
def fX1_latestOf (p0 : Int32) (len : Int32) (qk : Nat → Int32) (qv : Nat → Int32) (qr : Nat → Int32) : Option (Int32) := fX1_latestOf_b7 2000 p0 (len - (1 : Int32)) len qk qv qr
set_option maxHeartbeats 4000000 in
set_option maxRecDepth 100000 in
theorem qX1_latestOf (l : Launch) (G : gT) (h0 h1 h2 h3 : Nat) {p0 : Int32} {len : Int32} {qk : Nat → Int32} {qv : Nat → Int32} {qr : Nat → Int32} {u : Int32} (hf : fX1_latestOf p0 len qk qv qr = some u) : gR l G yX1_latestOf wsX1_latestOf rmX1_latestOf [.ref h0, .int p0] (queueW G h0 h1 h2 h3 len qk qv qr) (some (.int u)) := by
  refine gR.of (cc := cX1_latestOf) (maxL := 3) (ret := (some .int)) (by decide) rfl (Nat.le_of_ble_eq_true rfl) ?_
  intro p e s m below meth c C0 hP ls hl
  obtain ⟨hx, hb, hr, hts, hown, hlocks, hml, hK⟩ := id C0
  have hl : lv_has ls 3 [(0, .ref h0), (1, .int p0)] := hl
  have hP : va_P G.1 vwCl [(h0, .inr (1, [.int len, .ref h1, .ref h2, .ref h3])), (h1, .inl (G.2.1, 8, .inl qk)), (h2, .inl (G.2.1, 8, .inl qv)), (h3, .inl (G.2.1, 8, .inl qr))] s.heap := hP
  unfold fX1_latestOf at hf
  refine lv_aload_n hx hb dX1_latestOf_0 rfl (lv_at hl 0 rfl) ?_
  refine va_get (D := G.1) (ci := 1) (v := .int len) (C := RX1) (T := TX1) (N := 4) hx hb hts hX1 hown hK.1 hP 0 rfl rfl 0 (by decide) (hts _ tw_60) (fun _ h9 => h9) rfl dX1_latestOf_1 ?_
  refine lv_iconst (v := (1 : Int32)) hx hb dX1_latestOf_4 (by decide) ?_
  refine lv_isub hx hb dX1_latestOf_5 ?_
  refine lv_istore_n (lv' := [(2, .int (len - (1 : Int32))), (0, .ref h0), (1, .int p0)]) hx hb dX1_latestOf_6 rfl hl (by decide) rfl (fun ls hl => ?_)
  exact kX1_latestOf_b7 C0 2000 _ _ _ _ _ _ _ hf hP ls (lv_sub hl [1, 2, 0] rfl)
