-- TwoShapes$Orders.append(I)V
abbrev rmX0_append : Room := { frames := 0, cells := 0, slots := 0, locals := 0 }
def fX0_append (p0 : Int32) (len : Int32) (tx : Nat → Int32) (gi : Int32) (pl : Int32) (re : Int32) (ki : Int32) (nu : Nat → Int32) : Option (Int32 × (Nat → Int32) × Int32 × Int32 × Int32 × Int32 × (Nat → Int32)) := (if (60 : Int32) ≤ len then some (len, tx, gi, pl, re, ki, nu) else g_gd (g_in len 60) (some ((len + (1 : Int32)), (upd tx len.toNatClampNeg p0), gi, pl, re, ki, nu)))
set_option maxHeartbeats 4000000 in
set_option maxRecDepth 100000 in
theorem qX0_append (l : Launch) (G : gT) (h0 h1 h2 : Nat) {p0 : Int32} {len : Int32} {tx : Nat → Int32} {gi : Int32} {pl : Int32} {re : Int32} {ki : Int32} {nu : Nat → Int32} {u : Int32 × (Nat → Int32) × Int32 × Int32 × Int32 × Int32 × (Nat → Int32)} (hf : fX0_append p0 len tx gi pl re ki nu = some u) : gC l G yX0_append wsX0_append rmX0_append [.ref h0, .int p0] (ordW G h0 h1 h2 len tx gi pl re ki nu) none (ordW G h0 h1 h2 u.1 u.2.1 u.2.2.1 u.2.2.2.1 u.2.2.2.2.1 u.2.2.2.2.2.1 u.2.2.2.2.2.2) := by
  refine gC.of (cc := cX0_append) (maxL := 2) (ret := none) (by decide) rfl (Nat.le_of_ble_eq_true rfl) ?_
  intro p e s m below meth c C0 hP hD hS ls hl
  obtain ⟨hx, hb, hr, hts, hown, hlocks, hml, hK⟩ := id C0
  have hl : lv_has ls 2 [(0, .ref h0), (1, .int p0)] := hl
  have hA : ∀ q : Nat, s.heap.size ≤ q → va_A (ordW G h0 h1 h2 len tx gi pl re ki nu) s.heap.size q := fun q h => Or.inr h
  have hP : va_P G.1 vwCl [(h0, .inr (0, [.int len, .ref h1, .int gi, .int pl, .int re, .int ki, .ref h2])), (h1, .inl (G.2.1, 60, .inl tx)), (h2, .inl (G.2.1, 4, .inl nu))] s.heap := hP
  have hD : va_D (va_A (ordW G h0 h1 h2 len tx gi pl re ki nu) s.heap.size) [(h0, .inr (0, [.int len, .ref h1, .int gi, .int pl, .int re, .int ki, .ref h2])), (h1, .inl (G.2.1, 60, .inl tx)), (h2, .inl (G.2.1, 4, .inl nu))] := hD
  unfold fX0_append at hf
  refine lv_aload_n hx hb dX0_append_0 rfl (lv_at hl 0 rfl) ?_
  refine va_get (D := G.1) (ci := 0) (v := .int len) (C := RX0) (T := TX0) (N := 7) hx hb hts hX0 hown hK.1 hP 0 rfl rfl 0 (by decide) (hts _ tw_174) (fun _ h9 => h9) rfl dX0_append_1 ?_
  refine lv_bipush (v := (60 : Int32)) hx hb dX0_append_4 (by decide) ?_
  refine lv_icmp_ge (tgt := 29) hx hb dX0_append_6 (by decide) (fun c1 => ?_) (fun c1 => ?_)
  · have hf := g_ifT c1 hf
    cases hf
    exact g_vretC hx hb hr hlocks hP hD hS dX0_append_29
  · have hf := g_ifF c1 hf
    refine lv_aload_n hx hb dX0_append_9 rfl (lv_at hl 0 rfl) ?_
    refine va_get (D := G.1) (ci := 0) (v := .ref h1) (C := RX0) (T := TX0) (N := 7) hx hb hts hX0 hown hK.1 hP 0 rfl rfl 1 (by decide) (hts _ tw_176) (fun _ h9 => h9) rfl dX0_append_10 ?_
    refine lv_aload_n hx hb dX0_append_13 rfl (lv_at hl 0 rfl) ?_
    refine va_get (D := G.1) (ci := 0) (v := .int len) (C := RX0) (T := TX0) (N := 7) hx hb hts hX0 hown hK.1 hP 0 rfl rfl 0 (by decide) (hts _ tw_174) (fun _ h9 => h9) rfl dX0_append_14 ?_
    refine lv_iload_n hx hb dX0_append_17 rfl (lv_at hl 1 rfl) ?_
    obtain ⟨g2, hf⟩ := g_gdS hf
    refine va_iast hx hb hK.1 hP hD hS 1 0 rfl rfl (g_in_vp g2) dX0_append_18 (fun H locs hP hD hS => ?_)
    have hP : va_P G.1 vwCl [(h0, .inr (0, [.int len, .ref h1, .int gi, .int pl, .int re, .int ki, .ref h2])), (h1, .inl (G.2.1, 60, .inl (upd tx len.toNatClampNeg p0))), (h2, .inl (G.2.1, 4, .inl nu))] H := hP
    have hD : va_D (va_A (ordW G h0 h1 h2 len tx gi pl re ki nu) s.heap.size) [(h0, .inr (0, [.int len, .ref h1, .int gi, .int pl, .int re, .int ki, .ref h2])), (h1, .inl (G.2.1, 60, .inl (upd tx len.toNatClampNeg p0))), (h2, .inl (G.2.1, 4, .inl nu))] := hD
    refine lv_aload_n hx hb dX0_append_19 rfl (lv_at hl 0 rfl) ?_
    refine lv_dup hx hb dX0_append_20 rfl ?_
    refine va_get (D := G.1) (ci := 0) (v := .int len) (C := RX0) (T := TX0) (N := 7) hx hb hts hX0 hown hK.1 hP 0 rfl rfl 0 (by decide) (hts _ tw_174) (fun _ h9 => h9) rfl dX0_append_21 ?_
    refine lv_iconst (v := (1 : Int32)) hx hb dX0_append_24 (by decide) ?_
    refine lv_iadd hx hb dX0_append_25 ?_
    refine va_put (D := G.1) (ci := 0) (v := .int (len + (1 : Int32))) (ty := .int) (C := RX0) (T := TX0) (N := 7) hx hb hts hX0 tyX0 tyX0_ok nmX0 hown hK.1 hP hD hS 0 rfl rfl 0 (by decide) (hts _ tw_174) (fun _ h9 => h9) rfl (by decide +kernel) rfl rfl (Nat.le_of_ble_eq_true rfl) dX0_append_26 (fun H locs hP hD hS => ?_)
    have hP : va_P G.1 vwCl [(h0, .inr (0, [.int (len + (1 : Int32)), .ref h1, .int gi, .int pl, .int re, .int ki, .ref h2])), (h1, .inl (G.2.1, 60, .inl (upd tx len.toNatClampNeg p0))), (h2, .inl (G.2.1, 4, .inl nu))] H := hP
    have hD : va_D (va_A (ordW G h0 h1 h2 len tx gi pl re ki nu) s.heap.size) [(h0, .inr (0, [.int (len + (1 : Int32)), .ref h1, .int gi, .int pl, .int re, .int ki, .ref h2])), (h1, .inl (G.2.1, 60, .inl (upd tx len.toNatClampNeg p0))), (h2, .inl (G.2.1, 4, .inl nu))] := hD
    cases hf
    exact g_vretC hx hb hr hlocks hP hD hS dX0_append_29
-- TwoShapes$Orders.signAt(I)I
abbrev rmX0_signAt : Room := { frames := 1, cells := 0, slots := 0, locals := 21 }
def fX0_signAt (p0 : Int32) (len : Int32) (tx : Nat → Int32) (gi : Int32) (pl : Int32) (re : Int32) (ki : Int32) (nu : Nat → Int32) : Option (Int32) := ((fX5_isBelow p0 len).bind fun r1 => (if r1 = (0 : Int32) then some ((-1 : Int32)) else g_gd (g_in p0 60) (some ((tx p0.toNatClampNeg)))))
set_option maxHeartbeats 4000000 in
set_option maxRecDepth 100000 in
theorem qX0_signAt (l : Launch) (G : gT) (h0 h1 h2 : Nat) {p0 : Int32} {len : Int32} {tx : Nat → Int32} {gi : Int32} {pl : Int32} {re : Int32} {ki : Int32} {nu : Nat → Int32} {u : Int32} (hf : fX0_signAt p0 len tx gi pl re ki nu = some u) : gR l G yX0_signAt wsX0_signAt rmX0_signAt [.ref h0, .int p0] (ordW G h0 h1 h2 len tx gi pl re ki nu) (some (.int u)) := by
  refine gR.of (cc := cX0_signAt) (maxL := 2) (ret := (some .int)) (by decide) rfl (Nat.le_of_ble_eq_true rfl) ?_
  intro p e s m below meth c C0 hP ls hl
  obtain ⟨hx, hb, hr, hts, hown, hlocks, hml, hK⟩ := id C0
  have hl : lv_has ls 2 [(0, .ref h0), (1, .int p0)] := hl
  have hP : va_P G.1 vwCl [(h0, .inr (0, [.int len, .ref h1, .int gi, .int pl, .int re, .int ki, .ref h2])), (h1, .inl (G.2.1, 60, .inl tx)), (h2, .inl (G.2.1, 4, .inl nu))] s.heap := hP
  unfold fX0_signAt at hf
  refine lv_iload_n hx hb dX0_signAt_0 rfl (lv_at hl 1 rfl) ?_
  refine lv_aload_n hx hb dX0_signAt_1 rfl (lv_at hl 0 rfl) ?_
  refine va_get (D := G.1) (ci := 0) (v := .int len) (C := RX0) (T := TX0) (N := 7) hx hb hts hX0 hown hK.1 hP 0 rfl rfl 0 (by decide) (hts _ tw_174) (fun _ h9 => h9) rfl dX0_signAt_2 ?_
  obtain ⟨r1, e2, hf⟩ := g_bdS hf
  refine g_contR (st1 := [.int r1]) (g_runSNR (As := [.int p0, .int len]) (rest := []) ⟨hx, hb, hml, hown, hts⟩ (qX5_isBelow l G e2) ⟨va_cnB 2 hts (TB_C TB_id tw_311) rfl rfl rfl hK.2.2.1 (hts _ tw_49) (by decide +kernel) ⟨Nat.le_of_ble_eq_true rfl, Nat.le_of_ble_eq_true rfl⟩, hts _ tw_310, trivial⟩ hK (hP.sub [] rfl) rfl hl.1 rfl (Nat.le_of_ble_eq_true rfl) dX0_signAt_5) rfl ?_
  refine lv_if_eq (tgt := 20) hx hb dX0_signAt_8 (by decide) (fun c3 => ?_) (fun c3 => ?_)
  · have hf := g_ifT c3 hf
    refine lv_iconst (v := (-1 : Int32)) hx hb dX0_signAt_20 (by decide) ?_
    cases hf
    exact g_iretR hx hb hr hlocks dX0_signAt_21
  · have hf := g_ifF c3 hf
    refine lv_aload_n hx hb dX0_signAt_11 rfl (lv_at hl 0 rfl) ?_
    refine va_get (D := G.1) (ci := 0) (v := .ref h1) (C := RX0) (T := TX0) (N := 7) hx hb hts hX0 hown hK.1 hP 0 rfl rfl 1 (by decide) (hts _ tw_176) (fun _ h9 => h9) rfl dX0_signAt_12 ?_
    refine lv_iload_n hx hb dX0_signAt_15 rfl (lv_at hl 1 rfl) ?_
    obtain ⟨g4, hf⟩ := g_gdS hf
    refine va_iald hx hb hK.1 hP 1 0 rfl rfl (g_in_vp g4) dX0_signAt_16 ?_
    refine lv_goto (tgt := 21) hx hb dX0_signAt_17 (by decide) ?_
    cases hf
    exact g_iretR hx hb hr hlocks dX0_signAt_21
-- TwoShapes$Orders.numbersOf(I)I
abbrev rmX0_numbersOf : Room := { frames := 0, cells := 0, slots := 0, locals := 0 }
def fX0_numbersOf (p0 : Int32) : Option (Int32) := ((if p0 = (98 : Int32) then some ((1 : Int32)) else (if p0 = (100 : Int32) then some ((1 : Int32)) else (if p0 = (107 : Int32) then some ((0 : Int32)) else (if p0 = (109 : Int32) then some ((1 : Int32)) else (if p0 = (110 : Int32) then some ((3 : Int32)) else (if p0 = (111 : Int32) then some ((4 : Int32)) else (if p0 = (116 : Int32) then some ((0 : Int32)) else (if p0 = (120 : Int32) then some ((1 : Int32)) else some ((-1 : Int32)))))))))))
set_option maxHeartbeats 4000000 in
set_option maxRecDepth 100000 in
theorem qX0_numbersOf (l : Launch) (G : gT)  {p0 : Int32} {u : Int32} (hf : fX0_numbersOf p0 = some u) : gR l G yX0_numbersOf wsX0_numbersOf rmX0_numbersOf [.int p0] [] (some (.int u)) := by
  refine gR.of (cc := cX0_numbersOf) (maxL := 1) (ret := (some .int)) (by decide) rfl (Nat.le_of_ble_eq_true rfl) ?_
  intro p e s m below meth c C0 hP ls hl
  obtain ⟨hx, hb, hr, hts, hown, hlocks, hml, hK⟩ := id C0
  have hl : lv_has ls 1 [(0, .int p0)] := hl
  have hP : va_P G.1 vwCl [] s.heap := hP
  unfold fX0_numbersOf at hf
  refine lv_iload_n hx hb dX0_numbersOf_0 rfl (lv_at hl 0 rfl) ?_
  by_cases c1 : p0 = (98 : Int32)
  · have hf := g_ifT c1 hf
    refine g_tsw (tgt := 112) (off := 111) hx hb dX0_numbersOf_1 (by rw [c1]; decide) (by decide) (by decide) ?_
    refine lv_iconst (v := (1 : Int32)) hx hb dX0_numbersOf_112 (by decide) ?_
    cases hf
    exact g_iretR hx hb hr hlocks dX0_numbersOf_113
  have hf := g_ifF c1 hf
  by_cases c2 : p0 = (100 : Int32)
  · have hf := g_ifT c2 hf
    refine g_tsw (tgt := 112) (off := 111) hx hb dX0_numbersOf_1 (by rw [c2]; decide) (by decide) (by decide) ?_
    refine lv_iconst (v := (1 : Int32)) hx hb dX0_numbersOf_112 (by decide) ?_
    cases hf
    exact g_iretR hx hb hr hlocks dX0_numbersOf_113
  have hf := g_ifF c2 hf
  by_cases c3 : p0 = (107 : Int32)
  · have hf := g_ifT c3 hf
    refine g_tsw (tgt := 114) (off := 113) hx hb dX0_numbersOf_1 (by rw [c3]; decide) (by decide) (by decide) ?_
    refine lv_iconst (v := (0 : Int32)) hx hb dX0_numbersOf_114 (by decide) ?_
    cases hf
    exact g_iretR hx hb hr hlocks dX0_numbersOf_115
  have hf := g_ifF c3 hf
  by_cases c4 : p0 = (109 : Int32)
  · have hf := g_ifT c4 hf
    refine g_tsw (tgt := 112) (off := 111) hx hb dX0_numbersOf_1 (by rw [c4]; decide) (by decide) (by decide) ?_
    refine lv_iconst (v := (1 : Int32)) hx hb dX0_numbersOf_112 (by decide) ?_
    cases hf
    exact g_iretR hx hb hr hlocks dX0_numbersOf_113
  have hf := g_ifF c4 hf
  by_cases c5 : p0 = (110 : Int32)
  · have hf := g_ifT c5 hf
    refine g_tsw (tgt := 110) (off := 109) hx hb dX0_numbersOf_1 (by rw [c5]; decide) (by decide) (by decide) ?_
    refine lv_iconst (v := (3 : Int32)) hx hb dX0_numbersOf_110 (by decide) ?_
    cases hf
    exact g_iretR hx hb hr hlocks dX0_numbersOf_111
  have hf := g_ifF c5 hf
  by_cases c6 : p0 = (111 : Int32)
  · have hf := g_ifT c6 hf
    refine g_tsw (tgt := 108) (off := 107) hx hb dX0_numbersOf_1 (by rw [c6]; decide) (by decide) (by decide) ?_
    refine lv_iconst (v := (4 : Int32)) hx hb dX0_numbersOf_108 (by decide) ?_
    cases hf
    exact g_iretR hx hb hr hlocks dX0_numbersOf_109
  have hf := g_ifF c6 hf
  by_cases c7 : p0 = (116 : Int32)
  · have hf := g_ifT c7 hf
    refine g_tsw (tgt := 114) (off := 113) hx hb dX0_numbersOf_1 (by rw [c7]; decide) (by decide) (by decide) ?_
    refine lv_iconst (v := (0 : Int32)) hx hb dX0_numbersOf_114 (by decide) ?_
    cases hf
    exact g_iretR hx hb hr hlocks dX0_numbersOf_115
  have hf := g_ifF c7 hf
  by_cases c8 : p0 = (120 : Int32)
  · have hf := g_ifT c8 hf
    refine g_tsw (tgt := 112) (off := 111) hx hb dX0_numbersOf_1 (by rw [c8]; decide) (by decide) (by decide) ?_
    refine lv_iconst (v := (1 : Int32)) hx hb dX0_numbersOf_112 (by decide) ?_
    cases hf
    exact g_iretR hx hb hr hlocks dX0_numbersOf_113
  have hf := g_ifF c8 hf
  refine g_tsw (tgt := 116) (off := 115) hx hb dX0_numbersOf_1 (g_swd (115) (98) (120) #[111, 115, 111, 115, 115, 115, 115, 115, 115, 113, 115, 111, 109, 107, 115, 115, 115, 115, 113, 115, 115, 115, 111] [98, 100, 107, 109, 110, 111, 116, 120] (by decide) (by decide) (by simp only [List.mem_cons, List.not_mem_nil, or_false, not_or]; exact ⟨lv_neT c1 rfl, lv_neT c2 rfl, lv_neT c3 rfl, lv_neT c4 rfl, lv_neT c5 rfl, lv_neT c6 rfl, lv_neT c7 rfl, lv_neT c8 rfl⟩)) (by decide) (by decide) ?_
  refine lv_iconst (v := (-1 : Int32)) hx hb dX0_numbersOf_116 (by decide) ?_
  cases hf
  exact g_iretR hx hb hr hlocks dX0_numbersOf_117
-- TwoShapes$Orders.digitsEnd(I)I
abbrev rmX0_digitsEnd : Room := { frames := 2, cells := 0, slots := 0, locals := 42 }
def fX0_digitsEnd_b2 : Nat → Int32 → Int32 → Int32 → (Nat → Int32) → Int32 → Int32 → Int32 → Int32 → (Nat → Int32) → Option (Int32)
  | 0, _, _, _, _, _, _, _, _, _ => none
  | n + 1, x1, x2, len, tx, gi, pl, re, ki, nu => (if (x1 + (3 : Int32)) ≤ x2 then some (x2) else ((fX0_signAt x2 len tx gi pl re ki nu).bind fun r2 => (if r2 < (48 : Int32) then some (x2) else ((fX0_signAt x2 len tx gi pl re ki nu).bind fun r5 => (if (57 : Int32) < r5 then some (x2) else fX0_digitsEnd_b2 n x1 (x2 + (1 : Int32)) len tx gi pl re ki nu)))))
set_option maxHeartbeats 4000000 in
set_option maxRecDepth 100000 in
theorem kX0_digitsEnd_b2 {p : Program} {l : Launch} {e : Env} {s : State} {m : MethodId} {args : Array Value} {below : List Frame} {meth : Method} {c : Code} {G : gT} {h0 h1 h2 : Nat} (C0 : gX p s m args meth c cX0_digitsEnd 3 (some .int) RX0 G) :
    ∀ (n : Nat) (x1 : Int32) (x2 : Int32) (len : Int32) (tx : Nat → Int32) (gi : Int32) (pl : Int32) (re : Int32) (ki : Int32) (nu : Nat → Int32) (u : Int32), fX0_digitsEnd_b2 n x1 x2 len tx gi pl re ki nu = some u → va_P G.1 vwCl [(h0, .inr (0, [.int len, .ref h1, .int gi, .int pl, .int re, .int ki, .ref h2])), (h1, .inl (G.2.1, 60, .inl tx)), (h2, .inl (G.2.1, 4, .inl nu))] s.heap → ∀ ls, lv_has ls 3 [(0, .ref h0), (1, .int x1), (2, .int x2)] → gV p l e (headSpec wsX0_digitsEnd rmX0_digitsEnd).room s m args below meth c (some (.int u)) 2 ls [] := by
  obtain ⟨hx, hb, hr, hts, hown, hlocks, hml, hK⟩ := id C0
  intro n
  induction n with
  | zero =>
    intro x1 x2 len tx gi pl re ki nu u hf hP ls hl
    have hf : (none : Option (Int32)) = some u := hf
    cases hf
  | succ n ih =>
    intro x1 x2 len tx gi pl re ki nu u hf hP ls hl
    rw [fX0_digitsEnd_b2] at hf
    refine lv_iload_n hx hb dX0_digitsEnd_2 rfl (lv_at hl 2 rfl) ?_
    refine lv_iload_n hx hb dX0_digitsEnd_3 rfl (lv_at hl 1 rfl) ?_
    refine lv_iconst (v := (3 : Int32)) hx hb dX0_digitsEnd_4 (by decide) ?_
    refine lv_iadd hx hb dX0_digitsEnd_5 ?_
    refine lv_icmp_ge (tgt := 35) hx hb dX0_digitsEnd_6 (by decide) (fun c1 => ?_) (fun c1 => ?_)
    · have hf := g_ifT c1 hf
      refine lv_iload_n hx hb dX0_digitsEnd_35 rfl (lv_at hl 2 rfl) ?_
      cases hf
      exact g_iretR hx hb hr hlocks dX0_digitsEnd_36
    · have hf := g_ifF c1 hf
      refine lv_aload_n hx hb dX0_digitsEnd_9 rfl (lv_at hl 0 rfl) ?_
      refine lv_iload_n hx hb dX0_digitsEnd_10 rfl (lv_at hl 2 rfl) ?_
      obtain ⟨r2, e3, hf⟩ := g_bdS hf
      refine g_contR (st1 := [.int r2]) (g_runVR (As := [.int x2]) (rest := []) ⟨hx, hb, hml, hown, hts⟩ (qX0_signAt l G h0 h1 h2 e3) (cwV 1 hts (TB_V TB_id tw_546 tw_548 tw_5 tw_53 tw_549) rfl rfl rfl (by decide +kernel) ⟨Nat.le_of_ble_eq_true rfl, Nat.le_of_ble_eq_true rfl⟩) hK (hP.sub [0, 1, 2] rfl) 0 rfl rfl rfl hl.1 rfl (Nat.le_of_ble_eq_true rfl) dX0_digitsEnd_11) rfl ?_
      refine lv_bipush (v := (48 : Int32)) hx hb dX0_digitsEnd_14 (by decide) ?_
      refine lv_icmp_lt (tgt := 35) hx hb dX0_digitsEnd_16 (by decide) (fun c4 => ?_) (fun c4 => ?_)
      · have hf := g_ifT c4 hf
        refine lv_iload_n hx hb dX0_digitsEnd_35 rfl (lv_at hl 2 rfl) ?_
        cases hf
        exact g_iretR hx hb hr hlocks dX0_digitsEnd_36
      · have hf := g_ifF c4 hf
        refine lv_aload_n hx hb dX0_digitsEnd_19 rfl (lv_at hl 0 rfl) ?_
        refine lv_iload_n hx hb dX0_digitsEnd_20 rfl (lv_at hl 2 rfl) ?_
        obtain ⟨r5, e6, hf⟩ := g_bdS hf
        refine g_contR (st1 := [.int r5]) (g_runVR (As := [.int x2]) (rest := []) ⟨hx, hb, hml, hown, hts⟩ (qX0_signAt l G h0 h1 h2 e6) (cwV 1 hts (TB_V TB_id tw_546 tw_548 tw_5 tw_53 tw_549) rfl rfl rfl (by decide +kernel) ⟨Nat.le_of_ble_eq_true rfl, Nat.le_of_ble_eq_true rfl⟩) hK (hP.sub [0, 1, 2] rfl) 0 rfl rfl rfl hl.1 rfl (Nat.le_of_ble_eq_true rfl) dX0_digitsEnd_21) rfl ?_
        refine lv_bipush (v := (57 : Int32)) hx hb dX0_digitsEnd_24 (by decide) ?_
        refine lv_icmp_gt (tgt := 35) hx hb dX0_digitsEnd_26 (by decide) (fun c7 => ?_) (fun c7 => ?_)
        · have hf := g_ifT c7 hf
          refine lv_iload_n hx hb dX0_digitsEnd_35 rfl (lv_at hl 2 rfl) ?_
          cases hf
          exact g_iretR hx hb hr hlocks dX0_digitsEnd_36
        · have hf := g_ifF c7 hf
          refine lv_iinc (v := (x2 + (1 : Int32))) (lv' := [(2, .int (x2 + (1 : Int32))), (0, .ref h0), (1, .int x1)]) hx hb dX0_digitsEnd_29 hl (k := 2) rfl rfl (by decide) rfl (fun ls hl => ?_)
          refine lv_goto (tgt := 2) hx hb dX0_digitsEnd_32 (by decide) ?_
          exact ih _ _ _ _ _ _ _ _ _ _ hf hP ls (lv_sub hl [1, 2, 0] rfl)
def fX0_digitsEnd (p0 : Int32) (len : Int32) (tx : Nat → Int32) (gi : Int32) (pl : Int32) (re : Int32) (ki : Int32) (nu : Nat → Int32) : Option (Int32) := fX0_digitsEnd_b2 2000 p0 p0 len tx gi pl re ki nu
set_option maxHeartbeats 4000000 in
set_option maxRecDepth 100000 in
theorem qX0_digitsEnd (l : Launch) (G : gT) (h0 h1 h2 : Nat) {p0 : Int32} {len : Int32} {tx : Nat → Int32} {gi : Int32} {pl : Int32} {re : Int32} {ki : Int32} {nu : Nat → Int32} {u : Int32} (hf : fX0_digitsEnd p0 len tx gi pl re ki nu = some u) : gR l G yX0_digitsEnd wsX0_digitsEnd rmX0_digitsEnd [.ref h0, .int p0] (ordW G h0 h1 h2 len tx gi pl re ki nu) (some (.int u)) := by
  refine gR.of (cc := cX0_digitsEnd) (maxL := 3) (ret := (some .int)) (by decide) rfl (Nat.le_of_ble_eq_true rfl) ?_
  intro p e s m below meth c C0 hP ls hl
  obtain ⟨hx, hb, hr, hts, hown, hlocks, hml, hK⟩ := id C0
  have hl : lv_has ls 3 [(0, .ref h0), (1, .int p0)] := hl
  have hP : va_P G.1 vwCl [(h0, .inr (0, [.int len, .ref h1, .int gi, .int pl, .int re, .int ki, .ref h2])), (h1, .inl (G.2.1, 60, .inl tx)), (h2, .inl (G.2.1, 4, .inl nu))] s.heap := hP
  unfold fX0_digitsEnd at hf
  refine lv_iload_n hx hb dX0_digitsEnd_0 rfl (lv_at hl 1 rfl) ?_
  refine lv_istore_n (lv' := [(2, .int p0), (0, .ref h0), (1, .int p0)]) hx hb dX0_digitsEnd_1 rfl hl (by decide) rfl (fun ls hl => ?_)
  exact kX0_digitsEnd_b2 C0 2000 _ _ _ _ _ _ _ _ _ _ hf hP ls (lv_sub hl [1, 2, 0] rfl)
-- TwoShapes$Orders.valueOf(II)I
abbrev rmX0_valueOf : Room := { frames := 2, cells := 0, slots := 0, locals := 42 }
def fX0_valueOf_b5 : Nat → Int32 → Int32 → Int32 → Int32 → (Nat → Int32) → Int32 → Int32 → Int32 → Int32 → (Nat → Int32) → Option (Int32)
  | 0, _, _, _, _, _, _, _, _, _, _ => none
  | n + 1, x2, x3, x4, len, tx, gi, pl, re, ki, nu => (if x2 ≤ x4 then some (x3) else ((fX0_signAt x4 len tx gi pl re ki nu).bind fun r2 => fX0_valueOf_b5 n x2 ((((10 : Int32) * x3) + r2) - (48 : Int32)) (x4 + (1 : Int32)) len tx gi pl re ki nu))
set_option maxHeartbeats 4000000 in
set_option maxRecDepth 100000 in
theorem kX0_valueOf_b5 {p : Program} {l : Launch} {e : Env} {s : State} {m : MethodId} {args : Array Value} {below : List Frame} {meth : Method} {c : Code} {G : gT} {h0 h1 h2 : Nat} (C0 : gX p s m args meth c cX0_valueOf 5 (some .int) RX0 G) :
    ∀ (n : Nat) (x2 : Int32) (x3 : Int32) (x4 : Int32) (len : Int32) (tx : Nat → Int32) (gi : Int32) (pl : Int32) (re : Int32) (ki : Int32) (nu : Nat → Int32) (u : Int32), fX0_valueOf_b5 n x2 x3 x4 len tx gi pl re ki nu = some u → va_P G.1 vwCl [(h0, .inr (0, [.int len, .ref h1, .int gi, .int pl, .int re, .int ki, .ref h2])), (h1, .inl (G.2.1, 60, .inl tx)), (h2, .inl (G.2.1, 4, .inl nu))] s.heap → ∀ ls, lv_has ls 5 [(0, .ref h0), (2, .int x2), (3, .int x3), (4, .int x4)] → gV p l e (headSpec wsX0_valueOf rmX0_valueOf).room s m args below meth c (some (.int u)) 5 ls [] := by
  obtain ⟨hx, hb, hr, hts, hown, hlocks, hml, hK⟩ := id C0
  intro n
  induction n with
  | zero =>
    intro x2 x3 x4 len tx gi pl re ki nu u hf hP ls hl
    have hf : (none : Option (Int32)) = some u := hf
    cases hf
  | succ n ih =>
    intro x2 x3 x4 len tx gi pl re ki nu u hf hP ls hl
    rw [fX0_valueOf_b5] at hf
    refine lv_iload hx hb dX0_valueOf_5 (lv_at hl 3 rfl) ?_
    refine lv_iload_n hx hb dX0_valueOf_7 rfl (lv_at hl 1 rfl) ?_
    refine lv_icmp_ge (tgt := 32) hx hb dX0_valueOf_8 (by decide) (fun c1 => ?_) (fun c1 => ?_)
    · have hf := g_ifT c1 hf
      refine lv_iload_n hx hb dX0_valueOf_32 rfl (lv_at hl 2 rfl) ?_
      cases hf
      exact g_iretR hx hb hr hlocks dX0_valueOf_33
    · have hf := g_ifF c1 hf
      refine lv_bipush (v := (10 : Int32)) hx hb dX0_valueOf_11 (by decide) ?_
      refine lv_iload_n hx hb dX0_valueOf_13 rfl (lv_at hl 2 rfl) ?_
      refine lv_imul hx hb dX0_valueOf_14 ?_
      refine lv_aload_n hx hb dX0_valueOf_15 rfl (lv_at hl 0 rfl) ?_
      refine lv_iload hx hb dX0_valueOf_16 (lv_at hl 3 rfl) ?_
      obtain ⟨r2, e3, hf⟩ := g_bdS hf
      refine g_contR (st1 := [.int r2, .int ((10 : Int32) * x3)]) (g_runVR (As := [.int x4]) (rest := [.int ((10 : Int32) * x3)]) ⟨hx, hb, hml, hown, hts⟩ (qX0_signAt l G h0 h1 h2 e3) (cwV 1 hts (TB_V TB_id tw_546 tw_548 tw_5 tw_53 tw_549) rfl rfl rfl (by decide +kernel) ⟨Nat.le_of_ble_eq_true rfl, Nat.le_of_ble_eq_true rfl⟩) hK (hP.sub [0, 1, 2] rfl) 0 rfl rfl rfl hl.1 rfl (Nat.le_of_ble_eq_true rfl) dX0_valueOf_18) rfl ?_
      refine lv_iadd hx hb dX0_valueOf_21 ?_
      refine lv_bipush (v := (48 : Int32)) hx hb dX0_valueOf_22 (by decide) ?_
      refine lv_isub hx hb dX0_valueOf_24 ?_
      refine lv_istore_n (lv' := [(3, .int ((((10 : Int32) * x3) + r2) - (48 : Int32))), (0, .ref h0), (2, .int x2), (4, .int x4)]) hx hb dX0_valueOf_25 rfl hl (by decide) rfl (fun ls hl => ?_)
      refine lv_iinc (v := (x4 + (1 : Int32))) (lv' := [(4, .int (x4 + (1 : Int32))), (3, .int ((((10 : Int32) * x3) + r2) - (48 : Int32))), (0, .ref h0), (2, .int x2)]) hx hb dX0_valueOf_26 hl (k := 3) rfl rfl (by decide) rfl (fun ls hl => ?_)
      refine lv_goto (tgt := 5) hx hb dX0_valueOf_29 (by decide) ?_
      exact ih _ _ _ _ _ _ _ _ _ _ _ hf hP ls (lv_sub hl [2, 3, 1, 0] rfl)
def fX0_valueOf (p0 : Int32) (p1 : Int32) (len : Int32) (tx : Nat → Int32) (gi : Int32) (pl : Int32) (re : Int32) (ki : Int32) (nu : Nat → Int32) : Option (Int32) := fX0_valueOf_b5 2000 p1 (0 : Int32) p0 len tx gi pl re ki nu
set_option maxHeartbeats 4000000 in
set_option maxRecDepth 100000 in
theorem qX0_valueOf (l : Launch) (G : gT) (h0 h1 h2 : Nat) {p0 : Int32} {p1 : Int32} {len : Int32} {tx : Nat → Int32} {gi : Int32} {pl : Int32} {re : Int32} {ki : Int32} {nu : Nat → Int32} {u : Int32} (hf : fX0_valueOf p0 p1 len tx gi pl re ki nu = some u) : gR l G yX0_valueOf wsX0_valueOf rmX0_valueOf [.ref h0, .int p0, .int p1] (ordW G h0 h1 h2 len tx gi pl re ki nu) (some (.int u)) := by
  refine gR.of (cc := cX0_valueOf) (maxL := 5) (ret := (some .int)) (by decide) rfl (Nat.le_of_ble_eq_true rfl) ?_
  intro p e s m below meth c C0 hP ls hl
  obtain ⟨hx, hb, hr, hts, hown, hlocks, hml, hK⟩ := id C0
  have hl : lv_has ls 5 [(0, .ref h0), (1, .int p0), (2, .int p1)] := hl
  have hP : va_P G.1 vwCl [(h0, .inr (0, [.int len, .ref h1, .int gi, .int pl, .int re, .int ki, .ref h2])), (h1, .inl (G.2.1, 60, .inl tx)), (h2, .inl (G.2.1, 4, .inl nu))] s.heap := hP
  unfold fX0_valueOf at hf
  refine lv_iconst (v := (0 : Int32)) hx hb dX0_valueOf_0 (by decide) ?_
  refine lv_istore_n (lv' := [(3, .int (0 : Int32)), (0, .ref h0), (1, .int p0), (2, .int p1)]) hx hb dX0_valueOf_1 rfl hl (by decide) rfl (fun ls hl => ?_)
  refine lv_iload_n hx hb dX0_valueOf_2 rfl (lv_at hl 2 rfl) ?_
  refine lv_istore (lv' := [(4, .int p0), (3, .int (0 : Int32)), (0, .ref h0), (1, .int p0), (2, .int p1)]) hx hb dX0_valueOf_3 hl (by decide) rfl (fun ls hl => ?_)
  exact kX0_valueOf_b5 C0 2000 _ _ _ _ _ _ _ _ _ _ _ hf hP ls (lv_sub hl [2, 4, 1, 0] rfl)
-- TwoShapes$Orders.readOrder(I)I
abbrev rmX0_readOrder : Room := { frames := 3, cells := 0, slots := 0, locals := 66 }
def fX0_readOrder_b31 : Nat → Int32 → Int32 → Int32 → Int32 → (Nat → Int32) → Int32 → Int32 → Int32 → Int32 → (Nat → Int32) → Option (Int32 × Int32 × (Nat → Int32) × Int32 × Int32 × Int32 × Int32 × (Nat → Int32))
  | 0, _, _, _, _, _, _, _, _, _, _ => none
  | n + 1, x2, x3, x4, len, tx, gi, pl, re, ki, nu => (if x2 ≤ x4 then ((fX0_signAt x3 len tx gi pl re ki nu).bind fun r7 => (if r7 = (59 : Int32) then some ((x3 + (1 : Int32)), len, tx, gi, pl, re, ki, nu) else some ((-1 : Int32), len, tx, gi, pl, re, ki, nu))) else (if x4 ≤ (0 : Int32) then ((fX0_digitsEnd x3 len tx gi pl re ki nu).bind fun r11 => (if r11 = x3 then some ((-1 : Int32), len, tx, gi, pl, re, ki, nu) else ((fX0_valueOf x3 r11 len tx gi pl re ki nu).bind fun r14 => g_gd (g_in x4 4) (fX0_readOrder_b31 n x2 r11 (x4 + (1 : Int32)) len tx gi pl re ki (upd nu x4.toNatClampNeg r14))))) else ((fX0_signAt x3 len tx gi pl re ki nu).bind fun r17 => (if r17 = (44 : Int32) then ((fX0_digitsEnd (x3 + (1 : Int32)) len tx gi pl re ki nu).bind fun r20 => (if r20 = (x3 + (1 : Int32)) then some ((-1 : Int32), len, tx, gi, pl, re, ki, nu) else ((fX0_valueOf (x3 + (1 : Int32)) r20 len tx gi pl re ki nu).bind fun r23 => g_gd (g_in x4 4) (fX0_readOrder_b31 n x2 r20 (x4 + (1 : Int32)) len tx gi pl re ki (upd nu x4.toNatClampNeg r23))))) else some ((-1 : Int32), len, tx, gi, pl, re, ki, nu)))))
set_option maxHeartbeats 4000000 in
set_option maxRecDepth 100000 in
theorem kX0_readOrder_b31 {p : Program} {l : Launch} {e : Env} {s : State} {m : MethodId} {args : Array Value} {below : List Frame} {meth : Method} {c : Code} {G : gT} {h0 h1 h2 : Nat} {w0 : va_W} (C0 : gX p s m args meth c cX0_readOrder 6 (some .int) RX0 G) :
    ∀ (n : Nat) (x2 : Int32) (x3 : Int32) (x4 : Int32) (len : Int32) (tx : Nat → Int32) (gi : Int32) (pl : Int32) (re : Int32) (ki : Int32) (nu : Nat → Int32) (u : Int32 × Int32 × (Nat → Int32) × Int32 × Int32 × Int32 × Int32 × (Nat → Int32)), fX0_readOrder_b31 n x2 x3 x4 len tx gi pl re ki nu = some u → ∀ (H : Heap) (locs : List Loc), va_P G.1 vwCl [(h0, .inr (0, [.int len, .ref h1, .int gi, .int pl, .int re, .int ki, .ref h2])), (h1, .inl (G.2.1, 60, .inl tx)), (h2, .inl (G.2.1, 4, .inl nu))] H → va_D (va_A w0 s.heap.size) [(h0, .inr (0, [.int len, .ref h1, .int gi, .int pl, .int re, .int ki, .ref h2])), (h1, .inl (G.2.1, 60, .inl tx)), (h2, .inl (G.2.1, 4, .inl nu))] → va_S (va_A w0 s.heap.size) s.heap H locs → ∀ ls, lv_has ls 6 [(0, .ref h0), (2, .int x2), (3, .int x3), (4, .int x4)] → gW p l e (headSpec wsX0_readOrder rmX0_readOrder).room s m args below meth c G w0 (some (.int u.1)) (ordW G h0 h1 h2 u.2.1 u.2.2.1 u.2.2.2.1 u.2.2.2.2.1 u.2.2.2.2.2.1 u.2.2.2.2.2.2.1 u.2.2.2.2.2.2.2) H locs 31 ls [] := by
  obtain ⟨hx, hb, hr, hts, hown, hlocks, hml, hK⟩ := id C0
  have hA : ∀ q : Nat, s.heap.size ≤ q → va_A w0 s.heap.size q := fun q h => Or.inr h
  intro n
  induction n with
  | zero =>
    intro x2 x3 x4 len tx gi pl re ki nu u hf H locs hP hD hS ls hl
    have hf : (none : Option (Int32 × Int32 × (Nat → Int32) × Int32 × Int32 × Int32 × Int32 × (Nat → Int32))) = some u := hf
    cases hf
  | succ n ih =>
    intro x2 x3 x4 len tx gi pl re ki nu u hf H locs hP hD hS ls hl
    rw [fX0_readOrder_b31] at hf
    refine lv_iload hx hb dX0_readOrder_31 (lv_at hl 3 rfl) ?_
    refine lv_iload_n hx hb dX0_readOrder_33 rfl (lv_at hl 1 rfl) ?_
    refine lv_icmp_ge (tgt := 95) hx hb dX0_readOrder_34 (by decide) (fun c6 => ?_) (fun c6 => ?_)
    · have hf := g_ifT c6 hf
      refine lv_aload_n hx hb dX0_readOrder_95 rfl (lv_at hl 0 rfl) ?_
      refine lv_iload_n hx hb dX0_readOrder_96 rfl (lv_at hl 2 rfl) ?_
      obtain ⟨r7, e8, hf⟩ := g_bdS hf
      refine g_contR (st1 := [.int r7]) (g_runVR (As := [.int x3]) (rest := []) ⟨hx, hb, hml, hown, hts⟩ (qX0_signAt l G h0 h1 h2 e8) (cwV 1 hts (TB_V TB_id tw_546 tw_548 tw_5 tw_53 tw_549) rfl rfl rfl (by decide +kernel) ⟨Nat.le_of_ble_eq_true rfl, Nat.le_of_ble_eq_true rfl⟩) hK (hP.sub [0, 1, 2] rfl) 0 rfl rfl rfl hl.1 rfl (Nat.le_of_ble_eq_true rfl) dX0_readOrder_97) rfl ?_
      refine lv_bipush (v := (59 : Int32)) hx hb dX0_readOrder_100 (by decide) ?_
      refine lv_icmp_ne (tgt := 111) hx hb dX0_readOrder_102 (by decide) (fun c9 => ?_) (fun c9 => ?_)
      · have hf := g_ifF c9 hf
        refine lv_iconst (v := (-1 : Int32)) hx hb dX0_readOrder_111 (by decide) ?_
        cases hf
        exact g_iretC hx hb hr hlocks hP hD hS dX0_readOrder_112
      · have hf := g_ifT c9 hf
        refine lv_iload_n hx hb dX0_readOrder_105 rfl (lv_at hl 2 rfl) ?_
        refine lv_iconst (v := (1 : Int32)) hx hb dX0_readOrder_106 (by decide) ?_
        refine lv_iadd hx hb dX0_readOrder_107 ?_
        refine lv_goto (tgt := 112) hx hb dX0_readOrder_108 (by decide) ?_
        cases hf
        exact g_iretC hx hb hr hlocks hP hD hS dX0_readOrder_112
    · have hf := g_ifF c6 hf
      refine lv_iload hx hb dX0_readOrder_37 (lv_at hl 3 rfl) ?_
      refine lv_if_le (tgt := 57) hx hb dX0_readOrder_39 (by decide) (fun c10 => ?_) (fun c10 => ?_)
      · have hf := g_ifT c10 hf
        refine lv_aload_n hx hb dX0_readOrder_57 rfl (lv_at hl 0 rfl) ?_
        refine lv_iload_n hx hb dX0_readOrder_58 rfl (lv_at hl 2 rfl) ?_
        obtain ⟨r11, e12, hf⟩ := g_bdS hf
        refine g_contR (st1 := [.int r11]) (g_runVR (As := [.int x3]) (rest := []) ⟨hx, hb, hml, hown, hts⟩ (qX0_digitsEnd l G h0 h1 h2 e12) (cwV 1 hts (TB_V TB_id tw_554 tw_556 tw_6 tw_53 tw_557) rfl rfl rfl (by decide +kernel) ⟨Nat.le_of_ble_eq_true rfl, Nat.le_of_ble_eq_true rfl⟩) hK (hP.sub [0, 1, 2] rfl) 0 rfl rfl rfl hl.1 rfl (Nat.le_of_ble_eq_true rfl) dX0_readOrder_59) rfl ?_
        refine lv_istore (lv' := [(5, .int r11), (0, .ref h0), (2, .int x2), (3, .int x3), (4, .int x4)]) hx hb dX0_readOrder_62 hl (by decide) rfl (fun ls hl => ?_)
        refine lv_iload hx hb dX0_readOrder_64 (lv_at hl 0 rfl) ?_
        refine lv_iload_n hx hb dX0_readOrder_66 rfl (lv_at hl 3 rfl) ?_
        refine lv_icmp_ne (tgt := 72) hx hb dX0_readOrder_67 (by decide) (fun c13 => ?_) (fun c13 => ?_)
        · have hf := g_ifF c13 hf
          refine lv_aload_n hx hb dX0_readOrder_72 rfl (lv_at hl 1 rfl) ?_
          refine va_get (D := G.1) (ci := 0) (v := .ref h2) (C := RX0) (T := TX0) (N := 7) hx hb hts hX0 hown hK.1 hP 0 rfl rfl 6 (by decide) (hts _ tw_184) (fun _ h9 => h9) rfl dX0_readOrder_73 ?_
          refine lv_iload hx hb dX0_readOrder_76 (lv_at hl 4 rfl) ?_
          refine lv_aload_n hx hb dX0_readOrder_78 rfl (lv_at hl 1 rfl) ?_
          refine lv_iload_n hx hb dX0_readOrder_79 rfl (lv_at hl 3 rfl) ?_
          refine lv_iload hx hb dX0_readOrder_80 (lv_at hl 0 rfl) ?_
          obtain ⟨r14, e15, hf⟩ := g_bdS hf
          refine g_contR (st1 := [.int r14, .int x4, .ref h2]) (g_runVR (As := [.int x3, .int r11]) (rest := [.int x4, .ref h2]) ⟨hx, hb, hml, hown, hts⟩ (qX0_valueOf l G h0 h1 h2 e15) (cwV 2 hts (TB_V TB_id tw_558 tw_560 tw_7 tw_53 tw_561) rfl rfl rfl (by decide +kernel) ⟨Nat.le_of_ble_eq_true rfl, Nat.le_of_ble_eq_true rfl⟩) hK (hP.sub [0, 1, 2] rfl) 0 rfl rfl rfl hl.1 rfl (Nat.le_of_ble_eq_true rfl) dX0_readOrder_82) rfl ?_
          obtain ⟨g16, hf⟩ := g_gdS hf
          refine va_iast hx hb hK.1 hP hD hS 2 0 rfl rfl (g_in_vp g16) dX0_readOrder_85 (fun H locs hP hD hS => ?_)
          have hP : va_P G.1 vwCl [(h0, .inr (0, [.int len, .ref h1, .int gi, .int pl, .int re, .int ki, .ref h2])), (h1, .inl (G.2.1, 60, .inl tx)), (h2, .inl (G.2.1, 4, .inl (upd nu x4.toNatClampNeg r14)))] H := hP
          have hD : va_D (va_A w0 s.heap.size) [(h0, .inr (0, [.int len, .ref h1, .int gi, .int pl, .int re, .int ki, .ref h2])), (h1, .inl (G.2.1, 60, .inl tx)), (h2, .inl (G.2.1, 4, .inl (upd nu x4.toNatClampNeg r14)))] := hD
          refine lv_iload hx hb dX0_readOrder_86 (lv_at hl 0 rfl) ?_
          refine lv_istore_n (lv' := [(3, .int r11), (5, .int r11), (0, .ref h0), (2, .int x2), (4, .int x4)]) hx hb dX0_readOrder_88 rfl hl (by decide) rfl (fun ls hl => ?_)
          refine lv_iinc (v := (x4 + (1 : Int32))) (lv' := [(4, .int (x4 + (1 : Int32))), (3, .int r11), (5, .int r11), (0, .ref h0), (2, .int x2)]) hx hb dX0_readOrder_89 hl (k := 4) rfl rfl (by decide) rfl (fun ls hl => ?_)
          refine lv_goto (tgt := 31) hx hb dX0_readOrder_92 (by decide) ?_
          exact ih _ _ _ _ _ _ _ _ _ _ _ hf _ _ hP hD hS ls (lv_sub hl [3, 4, 1, 0] rfl)
        · have hf := g_ifT c13 hf
          refine lv_iconst (v := (-1 : Int32)) hx hb dX0_readOrder_70 (by decide) ?_
          cases hf
          exact g_iretC hx hb hr hlocks hP hD hS dX0_readOrder_71
      · have hf := g_ifF c10 hf
        refine lv_aload_n hx hb dX0_readOrder_42 rfl (lv_at hl 0 rfl) ?_
        refine lv_iload_n hx hb dX0_readOrder_43 rfl (lv_at hl 2 rfl) ?_
        obtain ⟨r17, e18, hf⟩ := g_bdS hf
        refine g_contR (st1 := [.int r17]) (g_runVR (As := [.int x3]) (rest := []) ⟨hx, hb, hml, hown, hts⟩ (qX0_signAt l G h0 h1 h2 e18) (cwV 1 hts (TB_V TB_id tw_546 tw_548 tw_5 tw_53 tw_549) rfl rfl rfl (by decide +kernel) ⟨Nat.le_of_ble_eq_true rfl, Nat.le_of_ble_eq_true rfl⟩) hK (hP.sub [0, 1, 2] rfl) 0 rfl rfl rfl hl.1 rfl (Nat.le_of_ble_eq_true rfl) dX0_readOrder_44) rfl ?_
        refine lv_bipush (v := (44 : Int32)) hx hb dX0_readOrder_47 (by decide) ?_
        refine lv_icmp_eq (tgt := 54) hx hb dX0_readOrder_49 (by decide) (fun c19 => ?_) (fun c19 => ?_)
        · have hf := g_ifT c19 hf
          refine lv_iinc (v := (x3 + (1 : Int32))) (lv' := [(3, .int (x3 + (1 : Int32))), (0, .ref h0), (2, .int x2), (4, .int x4)]) hx hb dX0_readOrder_54 hl (k := 2) rfl rfl (by decide) rfl (fun ls hl => ?_)
          refine lv_aload_n hx hb dX0_readOrder_57 rfl (lv_at hl 1 rfl) ?_
          refine lv_iload_n hx hb dX0_readOrder_58 rfl (lv_at hl 0 rfl) ?_
          obtain ⟨r20, e21, hf⟩ := g_bdS hf
          refine g_contR (st1 := [.int r20]) (g_runVR (As := [.int (x3 + (1 : Int32))]) (rest := []) ⟨hx, hb, hml, hown, hts⟩ (qX0_digitsEnd l G h0 h1 h2 e21) (cwV 1 hts (TB_V TB_id tw_554 tw_556 tw_6 tw_53 tw_557) rfl rfl rfl (by decide +kernel) ⟨Nat.le_of_ble_eq_true rfl, Nat.le_of_ble_eq_true rfl⟩) hK (hP.sub [0, 1, 2] rfl) 0 rfl rfl rfl hl.1 rfl (Nat.le_of_ble_eq_true rfl) dX0_readOrder_59) rfl ?_
          refine lv_istore (lv' := [(5, .int r20), (3, .int (x3 + (1 : Int32))), (0, .ref h0), (2, .int x2), (4, .int x4)]) hx hb dX0_readOrder_62 hl (by decide) rfl (fun ls hl => ?_)
          refine lv_iload hx hb dX0_readOrder_64 (lv_at hl 0 rfl) ?_
          refine lv_iload_n hx hb dX0_readOrder_66 rfl (lv_at hl 1 rfl) ?_
          refine lv_icmp_ne (tgt := 72) hx hb dX0_readOrder_67 (by decide) (fun c22 => ?_) (fun c22 => ?_)
          · have hf := g_ifF c22 hf
            refine lv_aload_n hx hb dX0_readOrder_72 rfl (lv_at hl 2 rfl) ?_
            refine va_get (D := G.1) (ci := 0) (v := .ref h2) (C := RX0) (T := TX0) (N := 7) hx hb hts hX0 hown hK.1 hP 0 rfl rfl 6 (by decide) (hts _ tw_184) (fun _ h9 => h9) rfl dX0_readOrder_73 ?_
            refine lv_iload hx hb dX0_readOrder_76 (lv_at hl 4 rfl) ?_
            refine lv_aload_n hx hb dX0_readOrder_78 rfl (lv_at hl 2 rfl) ?_
            refine lv_iload_n hx hb dX0_readOrder_79 rfl (lv_at hl 1 rfl) ?_
            refine lv_iload hx hb dX0_readOrder_80 (lv_at hl 0 rfl) ?_
            obtain ⟨r23, e24, hf⟩ := g_bdS hf
            refine g_contR (st1 := [.int r23, .int x4, .ref h2]) (g_runVR (As := [.int (x3 + (1 : Int32)), .int r20]) (rest := [.int x4, .ref h2]) ⟨hx, hb, hml, hown, hts⟩ (qX0_valueOf l G h0 h1 h2 e24) (cwV 2 hts (TB_V TB_id tw_558 tw_560 tw_7 tw_53 tw_561) rfl rfl rfl (by decide +kernel) ⟨Nat.le_of_ble_eq_true rfl, Nat.le_of_ble_eq_true rfl⟩) hK (hP.sub [0, 1, 2] rfl) 0 rfl rfl rfl hl.1 rfl (Nat.le_of_ble_eq_true rfl) dX0_readOrder_82) rfl ?_
            obtain ⟨g25, hf⟩ := g_gdS hf
            refine va_iast hx hb hK.1 hP hD hS 2 0 rfl rfl (g_in_vp g25) dX0_readOrder_85 (fun H locs hP hD hS => ?_)
            have hP : va_P G.1 vwCl [(h0, .inr (0, [.int len, .ref h1, .int gi, .int pl, .int re, .int ki, .ref h2])), (h1, .inl (G.2.1, 60, .inl tx)), (h2, .inl (G.2.1, 4, .inl (upd nu x4.toNatClampNeg r23)))] H := hP
            have hD : va_D (va_A w0 s.heap.size) [(h0, .inr (0, [.int len, .ref h1, .int gi, .int pl, .int re, .int ki, .ref h2])), (h1, .inl (G.2.1, 60, .inl tx)), (h2, .inl (G.2.1, 4, .inl (upd nu x4.toNatClampNeg r23)))] := hD
            refine lv_iload hx hb dX0_readOrder_86 (lv_at hl 0 rfl) ?_
            refine lv_istore_n (lv' := [(3, .int r20), (5, .int r20), (0, .ref h0), (2, .int x2), (4, .int x4)]) hx hb dX0_readOrder_88 rfl hl (by decide) rfl (fun ls hl => ?_)
            refine lv_iinc (v := (x4 + (1 : Int32))) (lv' := [(4, .int (x4 + (1 : Int32))), (3, .int r20), (5, .int r20), (0, .ref h0), (2, .int x2)]) hx hb dX0_readOrder_89 hl (k := 4) rfl rfl (by decide) rfl (fun ls hl => ?_)
            refine lv_goto (tgt := 31) hx hb dX0_readOrder_92 (by decide) ?_
            exact ih _ _ _ _ _ _ _ _ _ _ _ hf _ _ hP hD hS ls (lv_sub hl [3, 4, 1, 0] rfl)
          · have hf := g_ifT c22 hf
            refine lv_iconst (v := (-1 : Int32)) hx hb dX0_readOrder_70 (by decide) ?_
            cases hf
            exact g_iretC hx hb hr hlocks hP hD hS dX0_readOrder_71
        · have hf := g_ifF c19 hf
          refine lv_iconst (v := (-1 : Int32)) hx hb dX0_readOrder_52 (by decide) ?_
          cases hf
          exact g_iretC hx hb hr hlocks hP hD hS dX0_readOrder_53
def fX0_readOrder (p0 : Int32) (len : Int32) (tx : Nat → Int32) (gi : Int32) (pl : Int32) (re : Int32) (ki : Int32) (nu : Nat → Int32) : Option (Int32 × Int32 × (Nat → Int32) × Int32 × Int32 × Int32 × Int32 × (Nat → Int32)) := ((fX0_signAt p0 len tx gi pl re ki nu).bind fun r1 => ((fX0_numbersOf r1).bind fun r3 => (if r3 = (-1 : Int32) then some ((-1 : Int32), len, tx, gi, pl, re, r1, nu) else fX0_readOrder_b31 2000 r3 (p0 + (1 : Int32)) (0 : Int32) len tx gi pl re r1 nu)))
set_option maxHeartbeats 4000000 in
set_option maxRecDepth 100000 in
theorem qX0_readOrder (l : Launch) (G : gT) (h0 h1 h2 : Nat) {p0 : Int32} {len : Int32} {tx : Nat → Int32} {gi : Int32} {pl : Int32} {re : Int32} {ki : Int32} {nu : Nat → Int32} {u : Int32 × Int32 × (Nat → Int32) × Int32 × Int32 × Int32 × Int32 × (Nat → Int32)} (hf : fX0_readOrder p0 len tx gi pl re ki nu = some u) : gC l G yX0_readOrder wsX0_readOrder rmX0_readOrder [.ref h0, .int p0] (ordW G h0 h1 h2 len tx gi pl re ki nu) (some (.int u.1)) (ordW G h0 h1 h2 u.2.1 u.2.2.1 u.2.2.2.1 u.2.2.2.2.1 u.2.2.2.2.2.1 u.2.2.2.2.2.2.1 u.2.2.2.2.2.2.2) := by
  refine gC.of (cc := cX0_readOrder) (maxL := 6) (ret := (some .int)) (by decide) rfl (Nat.le_of_ble_eq_true rfl) ?_
  intro p e s m below meth c C0 hP hD hS ls hl
  obtain ⟨hx, hb, hr, hts, hown, hlocks, hml, hK⟩ := id C0
  have hl : lv_has ls 6 [(0, .ref h0), (1, .int p0)] := hl
  have hA : ∀ q : Nat, s.heap.size ≤ q → va_A (ordW G h0 h1 h2 len tx gi pl re ki nu) s.heap.size q := fun q h => Or.inr h
  have hP : va_P G.1 vwCl [(h0, .inr (0, [.int len, .ref h1, .int gi, .int pl, .int re, .int ki, .ref h2])), (h1, .inl (G.2.1, 60, .inl tx)), (h2, .inl (G.2.1, 4, .inl nu))] s.heap := hP
  have hD : va_D (va_A (ordW G h0 h1 h2 len tx gi pl re ki nu) s.heap.size) [(h0, .inr (0, [.int len, .ref h1, .int gi, .int pl, .int re, .int ki, .ref h2])), (h1, .inl (G.2.1, 60, .inl tx)), (h2, .inl (G.2.1, 4, .inl nu))] := hD
  unfold fX0_readOrder at hf
  refine lv_aload_n hx hb dX0_readOrder_0 rfl (lv_at hl 0 rfl) ?_
  refine lv_aload_n hx hb dX0_readOrder_1 rfl (lv_at hl 0 rfl) ?_
  refine lv_iload_n hx hb dX0_readOrder_2 rfl (lv_at hl 1 rfl) ?_
  obtain ⟨r1, e2, hf⟩ := g_bdS hf
  refine g_contR (st1 := [.int r1, .ref h0]) (g_runVR (As := [.int p0]) (rest := [.ref h0]) ⟨hx, hb, hml, hown, hts⟩ (qX0_signAt l G h0 h1 h2 e2) (cwV 1 hts (TB_V TB_id tw_546 tw_548 tw_5 tw_53 tw_549) rfl rfl rfl (by decide +kernel) ⟨Nat.le_of_ble_eq_true rfl, Nat.le_of_ble_eq_true rfl⟩) hK (hP.sub [0, 1, 2] rfl) 0 rfl rfl rfl hl.1 rfl (Nat.le_of_ble_eq_true rfl) dX0_readOrder_3) rfl ?_
  refine va_put (D := G.1) (ci := 0) (v := .int r1) (ty := .int) (C := RX0) (T := TX0) (N := 7) hx hb hts hX0 tyX0 tyX0_ok nmX0 hown hK.1 hP hD hS 0 rfl rfl 5 (by decide) (hts _ tw_183) (fun _ h9 => h9) rfl (by decide +kernel) rfl rfl (Nat.le_of_ble_eq_true rfl) dX0_readOrder_6 (fun H locs hP hD hS => ?_)
  have hP : va_P G.1 vwCl [(h0, .inr (0, [.int len, .ref h1, .int gi, .int pl, .int re, .int r1, .ref h2])), (h1, .inl (G.2.1, 60, .inl tx)), (h2, .inl (G.2.1, 4, .inl nu))] H := hP
  have hD : va_D (va_A (ordW G h0 h1 h2 len tx gi pl re ki nu) s.heap.size) [(h0, .inr (0, [.int len, .ref h1, .int gi, .int pl, .int re, .int r1, .ref h2])), (h1, .inl (G.2.1, 60, .inl tx)), (h2, .inl (G.2.1, 4, .inl nu))] := hD
  refine lv_aload_n hx hb dX0_readOrder_9 rfl (lv_at hl 0 rfl) ?_
  refine va_get (D := G.1) (ci := 0) (v := .int r1) (C := RX0) (T := TX0) (N := 7) hx hb hts hX0 hown hK.1 hP 0 rfl rfl 5 (by decide) (hts _ tw_183) (fun _ h9 => h9) rfl dX0_readOrder_10 ?_
  obtain ⟨r3, e4, hf⟩ := g_bdS hf
  refine g_contR (st1 := [.int r3]) (g_runSR (As := [.int r1]) (rest := []) ⟨hx, hb, hml, hown, hts⟩ (qX0_numbersOf l G e4) (va_cwS 1 hts (TB_S TB_id tw_551 tw_552 tw_53 tw_553) rfl rfl rfl (by decide +kernel) ⟨Nat.le_of_ble_eq_true rfl, Nat.le_of_ble_eq_true rfl⟩) hK (hP.sub [] rfl) rfl hl.1 rfl (Nat.le_of_ble_eq_true rfl) dX0_readOrder_13) rfl ?_
  refine lv_istore_n (lv' := [(2, .int r3), (0, .ref h0), (1, .int p0)]) hx hb dX0_readOrder_16 rfl hl (by decide) rfl (fun ls hl => ?_)
  refine lv_iload_n hx hb dX0_readOrder_17 rfl (lv_at hl 0 rfl) ?_
  refine lv_iconst (v := (-1 : Int32)) hx hb dX0_readOrder_18 (by decide) ?_
  refine lv_icmp_ne (tgt := 24) hx hb dX0_readOrder_19 (by decide) (fun c5 => ?_) (fun c5 => ?_)
  · have hf := g_ifF c5 hf
    refine lv_iload_n hx hb dX0_readOrder_24 rfl (lv_at hl 2 rfl) ?_
    refine lv_iconst (v := (1 : Int32)) hx hb dX0_readOrder_25 (by decide) ?_
    refine lv_iadd hx hb dX0_readOrder_26 ?_
    refine lv_istore_n (lv' := [(3, .int (p0 + (1 : Int32))), (2, .int r3), (0, .ref h0), (1, .int p0)]) hx hb dX0_readOrder_27 rfl hl (by decide) rfl (fun ls hl => ?_)
    refine lv_iconst (v := (0 : Int32)) hx hb dX0_readOrder_28 (by decide) ?_
    refine lv_istore (lv' := [(4, .int (0 : Int32)), (3, .int (p0 + (1 : Int32))), (2, .int r3), (0, .ref h0), (1, .int p0)]) hx hb dX0_readOrder_29 hl (by decide) rfl (fun ls hl => ?_)
    exact kX0_readOrder_b31 C0 2000 _ _ _ _ _ _ _ _ _ _ _ hf _ _ hP hD hS ls (lv_sub hl [3, 2, 1, 0] rfl)
  · have hf := g_ifT c5 hf
    refine lv_iconst (v := (-1 : Int32)) hx hb dX0_readOrder_22 (by decide) ?_
    cases hf
    exact g_iretC hx hb hr hlocks hP hD hS dX0_readOrder_23
-- TwoShapes$Orders.reasonOf(I)I
abbrev rmX0_reasonOf : Room := { frames := 0, cells := 0, slots := 0, locals := 0 }
def fX0_reasonOf (p0 : Int32) : Option (Int32) := (if p0 < (0 : Int32) then (if p0 = (-1000001 : Int32) then some ((2 : Int32)) else some ((3 : Int32))) else some ((0 : Int32)))
set_option maxHeartbeats 4000000 in
set_option maxRecDepth 100000 in
theorem qX0_reasonOf (l : Launch) (G : gT)  {p0 : Int32} {u : Int32} (hf : fX0_reasonOf p0 = some u) : gR l G yX0_reasonOf wsX0_reasonOf rmX0_reasonOf [.int p0] [] (some (.int u)) := by
  refine gR.of (cc := cX0_reasonOf) (maxL := 1) (ret := (some .int)) (by decide) rfl (Nat.le_of_ble_eq_true rfl) ?_
  intro p e s m below meth c C0 hP ls hl
  obtain ⟨hx, hb, hr, hts, hown, hlocks, hml, hK⟩ := id C0
  have hl : lv_has ls 1 [(0, .int p0)] := hl
  have hP : va_P G.1 vwCl [] s.heap := hP
  unfold fX0_reasonOf at hf
  refine lv_iload_n hx hb dX0_reasonOf_0 rfl (lv_at hl 0 rfl) ?_
  refine lv_if_lt (tgt := 6) hx hb dX0_reasonOf_1 (by decide) (fun c1 => ?_) (fun c1 => ?_)
  · have hf := g_ifT c1 hf
    refine lv_iload_n hx hb dX0_reasonOf_6 rfl (lv_at hl 0 rfl) ?_
    refine lv_ldc (v := (-1000001 : Int32)) hx hb hown (hts _ tw_577) dX0_reasonOf_7 ?_
    refine lv_icmp_ne (tgt := 16) hx hb dX0_reasonOf_9 (by decide) (fun c2 => ?_) (fun c2 => ?_)
    · have hf := g_ifF c2 hf
      refine lv_iconst (v := (3 : Int32)) hx hb dX0_reasonOf_16 (by decide) ?_
      cases hf
      exact g_iretR hx hb hr hlocks dX0_reasonOf_17
    · have hf := g_ifT c2 hf
      refine lv_iconst (v := (2 : Int32)) hx hb dX0_reasonOf_12 (by decide) ?_
      refine lv_goto (tgt := 17) hx hb dX0_reasonOf_13 (by decide) ?_
      cases hf
      exact g_iretR hx hb hr hlocks dX0_reasonOf_17
  · have hf := g_ifF c1 hf
    refine lv_iconst (v := (0 : Int32)) hx hb dX0_reasonOf_4 (by decide) ?_
    cases hf
    exact g_iretR hx hb hr hlocks dX0_reasonOf_5
-- TwoShapes$Orders.give(LTwoShapes$Table;)I
abbrev rmX0_give : Room := { frames := 4, cells := 0, slots := 0, locals := 92 }
def fX0_give (len : Int32) (tx : Nat → Int32) (gi : Int32) (pl : Int32) (re : Int32) (ki : Int32) (nu : Nat → Int32) (tph : Int32) (tla : Int32) (tpo : Int32) (tlo : Int32) (tov : Nat → Int32) (torr : Nat → Int32) (tnv : Nat → Int32) (tnr : Nat → Int32) (tql : Int32) (tqk : Nat → Int32) (tqv : Nat → Int32) (tqr : Nat → Int32) (twr : Nat → Int32) (twa : Int32) (twc : Nat → Int32) (twk : Nat → Int32) : Option (Int32 × Int32 × (Nat → Int32) × Int32 × Int32 × Int32 × Int32 × (Nat → Int32) × Int32 × Int32 × Int32 × Int32 × (Nat → Int32) × (Nat → Int32) × (Nat → Int32) × (Nat → Int32) × Int32 × (Nat → Int32) × (Nat → Int32) × (Nat → Int32) × (Nat → Int32) × Int32 × (Nat → Int32) × (Nat → Int32)) := ((if ki = (98 : Int32) then g_gd (g_in (0 : Int32) 4) (((fX4_fillKeys (nu (0 : Int32).toNatClampNeg) tph tla tpo tlo tov torr tnv tnr tql tqk tqv tqr twr twa twc twk).bind fun r3 => some (r3.1, len, tx, gi, pl, re, ki, nu, r3.2.1, r3.2.2.1, r3.2.2.2.1, r3.2.2.2.2.1, r3.2.2.2.2.2.1, r3.2.2.2.2.2.2.1, r3.2.2.2.2.2.2.2.1, r3.2.2.2.2.2.2.2.2.1, r3.2.2.2.2.2.2.2.2.2.1, r3.2.2.2.2.2.2.2.2.2.2.1, r3.2.2.2.2.2.2.2.2.2.2.2.1, r3.2.2.2.2.2.2.2.2.2.2.2.2.1, r3.2.2.2.2.2.2.2.2.2.2.2.2.2.1, r3.2.2.2.2.2.2.2.2.2.2.2.2.2.2.1, r3.2.2.2.2.2.2.2.2.2.2.2.2.2.2.2.1, r3.2.2.2.2.2.2.2.2.2.2.2.2.2.2.2.2))) else (if ki = (100 : Int32) then g_gd (g_in (0 : Int32) 4) (((fX4_drainQueue (nu (0 : Int32).toNatClampNeg) tph tla tpo tlo tov torr tnv tnr tql tqk tqv tqr twr twa twc twk).bind fun r7 => some (r7.1, len, tx, gi, pl, re, ki, nu, r7.2.1, r7.2.2.1, r7.2.2.2.1, r7.2.2.2.2.1, r7.2.2.2.2.2.1, r7.2.2.2.2.2.2.1, r7.2.2.2.2.2.2.2.1, r7.2.2.2.2.2.2.2.2.1, r7.2.2.2.2.2.2.2.2.2.1, r7.2.2.2.2.2.2.2.2.2.2.1, r7.2.2.2.2.2.2.2.2.2.2.2.1, r7.2.2.2.2.2.2.2.2.2.2.2.2.1, r7.2.2.2.2.2.2.2.2.2.2.2.2.2.1, r7.2.2.2.2.2.2.2.2.2.2.2.2.2.2.1, r7.2.2.2.2.2.2.2.2.2.2.2.2.2.2.2.1, r7.2.2.2.2.2.2.2.2.2.2.2.2.2.2.2.2))) else (if ki = (109 : Int32) then g_gd (g_in (0 : Int32) 4) (((fX4_mendKey (nu (0 : Int32).toNatClampNeg) tph tla tpo tlo tov torr tnv tnr tql tqk tqv tqr twr twa twc twk).bind fun r11 => some (r11.1, len, tx, gi, pl, re, ki, nu, r11.2.1, r11.2.2.1, r11.2.2.2.1, r11.2.2.2.2.1, r11.2.2.2.2.2.1, r11.2.2.2.2.2.2.1, r11.2.2.2.2.2.2.2.1, r11.2.2.2.2.2.2.2.2.1, r11.2.2.2.2.2.2.2.2.2.1, r11.2.2.2.2.2.2.2.2.2.2.1, r11.2.2.2.2.2.2.2.2.2.2.2.1, r11.2.2.2.2.2.2.2.2.2.2.2.2.1, r11.2.2.2.2.2.2.2.2.2.2.2.2.2.1, r11.2.2.2.2.2.2.2.2.2.2.2.2.2.2.1, r11.2.2.2.2.2.2.2.2.2.2.2.2.2.2.2.1, r11.2.2.2.2.2.2.2.2.2.2.2.2.2.2.2.2))) else (if ki = (110 : Int32) then g_gd (g_in (0 : Int32) 4) (g_gd (g_in (1 : Int32) 4) (g_gd (g_in (2 : Int32) 4) (((fX4_putNew (nu (0 : Int32).toNatClampNeg) (nu (1 : Int32).toNatClampNeg) (nu (2 : Int32).toNatClampNeg) tph tla tpo tlo tov torr tnv tnr tql tqk tqv tqr twr twa twc twk).bind fun r17 => some (r17.1, len, tx, gi, pl, re, ki, nu, r17.2.1, r17.2.2.1, r17.2.2.2.1, r17.2.2.2.2.1, r17.2.2.2.2.2.1, r17.2.2.2.2.2.2.1, r17.2.2.2.2.2.2.2.1, r17.2.2.2.2.2.2.2.2.1, r17.2.2.2.2.2.2.2.2.2.1, r17.2.2.2.2.2.2.2.2.2.2.1, r17.2.2.2.2.2.2.2.2.2.2.2.1, r17.2.2.2.2.2.2.2.2.2.2.2.2.1, r17.2.2.2.2.2.2.2.2.2.2.2.2.2.1, r17.2.2.2.2.2.2.2.2.2.2.2.2.2.2.1, r17.2.2.2.2.2.2.2.2.2.2.2.2.2.2.2.1, r17.2.2.2.2.2.2.2.2.2.2.2.2.2.2.2.2))))) else (if ki = (111 : Int32) then g_gd (g_in (0 : Int32) 4) (g_gd (g_in (1 : Int32) 4) (g_gd (g_in (2 : Int32) 4) (g_gd (g_in (3 : Int32) 4) (((fX4_putOld (nu (0 : Int32).toNatClampNeg) (nu (1 : Int32).toNatClampNeg) (nu (2 : Int32).toNatClampNeg) (nu (3 : Int32).toNatClampNeg) tph tla tpo tlo tov torr tnv tnr tql tqk tqv tqr twr twa twc twk).bind fun r24 => some (r24.1, len, tx, gi, pl, re, ki, nu, r24.2.1, r24.2.2.1, r24.2.2.2.1, r24.2.2.2.2.1, r24.2.2.2.2.2.1, r24.2.2.2.2.2.2.1, r24.2.2.2.2.2.2.2.1, r24.2.2.2.2.2.2.2.2.1, r24.2.2.2.2.2.2.2.2.2.1, r24.2.2.2.2.2.2.2.2.2.2.1, r24.2.2.2.2.2.2.2.2.2.2.2.1, r24.2.2.2.2.2.2.2.2.2.2.2.2.1, r24.2.2.2.2.2.2.2.2.2.2.2.2.2.1, r24.2.2.2.2.2.2.2.2.2.2.2.2.2.2.1, r24.2.2.2.2.2.2.2.2.2.2.2.2.2.2.2.1, r24.2.2.2.2.2.2.2.2.2.2.2.2.2.2.2.2)))))) else (if ki = (116 : Int32) then ((fX4_turnOver tph tla tpo tlo tov torr tnv tnr tql tqk tqv tqr twr twa twc twk).bind fun r27 => some (r27.1, len, tx, gi, pl, re, ki, nu, r27.2.1, r27.2.2.1, r27.2.2.2.1, r27.2.2.2.2.1, r27.2.2.2.2.2.1, r27.2.2.2.2.2.2.1, r27.2.2.2.2.2.2.2.1, r27.2.2.2.2.2.2.2.2.1, r27.2.2.2.2.2.2.2.2.2.1, r27.2.2.2.2.2.2.2.2.2.2.1, r27.2.2.2.2.2.2.2.2.2.2.2.1, r27.2.2.2.2.2.2.2.2.2.2.2.2.1, r27.2.2.2.2.2.2.2.2.2.2.2.2.2.1, r27.2.2.2.2.2.2.2.2.2.2.2.2.2.2.1, r27.2.2.2.2.2.2.2.2.2.2.2.2.2.2.2.1, r27.2.2.2.2.2.2.2.2.2.2.2.2.2.2.2.2)) else (if ki = (120 : Int32) then g_gd (g_in (0 : Int32) 4) (((fX4_takeAway (nu (0 : Int32).toNatClampNeg) tph tla tpo tlo tov torr tnv tnr tql tqk tqv tqr twr twa twc twk).bind fun r31 => some (r31.1, len, tx, gi, pl, re, ki, nu, r31.2.1, r31.2.2.1, r31.2.2.2.1, r31.2.2.2.2.1, r31.2.2.2.2.2.1, r31.2.2.2.2.2.2.1, r31.2.2.2.2.2.2.2.1, r31.2.2.2.2.2.2.2.2.1, r31.2.2.2.2.2.2.2.2.2.1, r31.2.2.2.2.2.2.2.2.2.2.1, r31.2.2.2.2.2.2.2.2.2.2.2.1, r31.2.2.2.2.2.2.2.2.2.2.2.2.1, r31.2.2.2.2.2.2.2.2.2.2.2.2.2.1, r31.2.2.2.2.2.2.2.2.2.2.2.2.2.2.1, r31.2.2.2.2.2.2.2.2.2.2.2.2.2.2.2.1, r31.2.2.2.2.2.2.2.2.2.2.2.2.2.2.2.2))) else ((fX4_turnBack tph tla tpo tlo tov torr tnv tnr tql tqk tqv tqr twr twa twc twk).bind fun r33 => some (r33.1, len, tx, gi, pl, re, ki, nu, r33.2.1, r33.2.2.1, r33.2.2.2.1, r33.2.2.2.2.1, r33.2.2.2.2.2.1, r33.2.2.2.2.2.2.1, r33.2.2.2.2.2.2.2.1, r33.2.2.2.2.2.2.2.2.1, r33.2.2.2.2.2.2.2.2.2.1, r33.2.2.2.2.2.2.2.2.2.2.1, r33.2.2.2.2.2.2.2.2.2.2.2.1, r33.2.2.2.2.2.2.2.2.2.2.2.2.1, r33.2.2.2.2.2.2.2.2.2.2.2.2.2.1, r33.2.2.2.2.2.2.2.2.2.2.2.2.2.2.1, r33.2.2.2.2.2.2.2.2.2.2.2.2.2.2.2.1, r33.2.2.2.2.2.2.2.2.2.2.2.2.2.2.2.2))))))))))
set_option maxHeartbeats 4000000 in
set_option maxRecDepth 100000 in
theorem qX0_give (l : Launch) (G : gT) (h0 h1 h2 : Nat) (a : Nat → Nat) {len : Int32} {tx : Nat → Int32} {gi : Int32} {pl : Int32} {re : Int32} {ki : Int32} {nu : Nat → Int32} {tph : Int32} {tla : Int32} {tpo : Int32} {tlo : Int32} {tov : Nat → Int32} {torr : Nat → Int32} {tnv : Nat → Int32} {tnr : Nat → Int32} {tql : Int32} {tqk : Nat → Int32} {tqv : Nat → Int32} {tqr : Nat → Int32} {twr : Nat → Int32} {twa : Int32} {twc : Nat → Int32} {twk : Nat → Int32} {u : Int32 × Int32 × (Nat → Int32) × Int32 × Int32 × Int32 × Int32 × (Nat → Int32) × Int32 × Int32 × Int32 × Int32 × (Nat → Int32) × (Nat → Int32) × (Nat → Int32) × (Nat → Int32) × Int32 × (Nat → Int32) × (Nat → Int32) × (Nat → Int32) × (Nat → Int32) × Int32 × (Nat → Int32) × (Nat → Int32)} (hf : fX0_give len tx gi pl re ki nu tph tla tpo tlo tov torr tnv tnr tql tqk tqv tqr twr twa twc twk = some u) : gC l G yX0_give wsX0_give rmX0_give [.ref h0, .ref (a 0)] (ordW G h0 h1 h2 len tx gi pl re ki nu ++ tabW G a tph tla tpo tlo tov torr tnv tnr tql tqk tqv tqr twr twa twc twk) (some (.int u.1)) (ordW G h0 h1 h2 u.2.1 u.2.2.1 u.2.2.2.1 u.2.2.2.2.1 u.2.2.2.2.2.1 u.2.2.2.2.2.2.1 u.2.2.2.2.2.2.2.1 ++ tabW G a u.2.2.2.2.2.2.2.2.1 u.2.2.2.2.2.2.2.2.2.1 u.2.2.2.2.2.2.2.2.2.2.1 u.2.2.2.2.2.2.2.2.2.2.2.1 u.2.2.2.2.2.2.2.2.2.2.2.2.1 u.2.2.2.2.2.2.2.2.2.2.2.2.2.1 u.2.2.2.2.2.2.2.2.2.2.2.2.2.2.1 u.2.2.2.2.2.2.2.2.2.2.2.2.2.2.2.1 u.2.2.2.2.2.2.2.2.2.2.2.2.2.2.2.2.1 u.2.2.2.2.2.2.2.2.2.2.2.2.2.2.2.2.2.1 u.2.2.2.2.2.2.2.2.2.2.2.2.2.2.2.2.2.2.1 u.2.2.2.2.2.2.2.2.2.2.2.2.2.2.2.2.2.2.2.1 u.2.2.2.2.2.2.2.2.2.2.2.2.2.2.2.2.2.2.2.2.1 u.2.2.2.2.2.2.2.2.2.2.2.2.2.2.2.2.2.2.2.2.2.1 u.2.2.2.2.2.2.2.2.2.2.2.2.2.2.2.2.2.2.2.2.2.2.1 u.2.2.2.2.2.2.2.2.2.2.2.2.2.2.2.2.2.2.2.2.2.2.2) := by
  refine gC.of (cc := cX0_give) (maxL := 2) (ret := (some .int)) (by decide) rfl (Nat.le_of_ble_eq_true rfl) ?_
  intro p e s m below meth c C0 hP hD hS ls hl
  obtain ⟨hx, hb, hr, hts, hown, hlocks, hml, hK⟩ := id C0
  have hl : lv_has ls 2 [(0, .ref h0), (1, .ref (a 0))] := hl
  have hA : ∀ q : Nat, s.heap.size ≤ q → va_A (ordW G h0 h1 h2 len tx gi pl re ki nu ++ tabW G a tph tla tpo tlo tov torr tnv tnr tql tqk tqv tqr twr twa twc twk) s.heap.size q := fun q h => Or.inr h
  have hP : va_P G.1 vwCl [(h0, .inr (0, [.int len, .ref h1, .int gi, .int pl, .int re, .int ki, .ref h2])), (h1, .inl (G.2.1, 60, .inl tx)), (h2, .inl (G.2.1, 4, .inl nu)), ((a 0), .inr (3, [.int tph, .int tla, .int tpo, .int tlo, .ref (a 1), .ref (a 4), .ref (a 7), .ref (a 11), .int twa, .ref (a 12), .ref (a 13)])), ((a 1), .inr (2, [.int 0, .ref (a 2), .ref (a 3)])), ((a 2), .inl (G.2.1, 31, .inl tov)), ((a 3), .inl (G.2.1, 31, .inl torr)), ((a 4), .inr (2, [.int 1, .ref (a 5), .ref (a 6)])), ((a 5), .inl (G.2.1, 31, .inl tnv)), ((a 6), .inl (G.2.1, 31, .inl tnr)), ((a 7), .inr (1, [.int tql, .ref (a 8), .ref (a 9), .ref (a 10)])), ((a 8), .inl (G.2.1, 8, .inl tqk)), ((a 9), .inl (G.2.1, 8, .inl tqv)), ((a 10), .inl (G.2.1, 8, .inl tqr)), ((a 11), .inl (G.2.1, 31, .inl twr)), ((a 12), .inl (G.2.1, 3, .inl twc)), ((a 13), .inl (G.2.1, 3, .inl twk))] s.heap := hP
  have hD : va_D (va_A (ordW G h0 h1 h2 len tx gi pl re ki nu ++ tabW G a tph tla tpo tlo tov torr tnv tnr tql tqk tqv tqr twr twa twc twk) s.heap.size) [(h0, .inr (0, [.int len, .ref h1, .int gi, .int pl, .int re, .int ki, .ref h2])), (h1, .inl (G.2.1, 60, .inl tx)), (h2, .inl (G.2.1, 4, .inl nu)), ((a 0), .inr (3, [.int tph, .int tla, .int tpo, .int tlo, .ref (a 1), .ref (a 4), .ref (a 7), .ref (a 11), .int twa, .ref (a 12), .ref (a 13)])), ((a 1), .inr (2, [.int 0, .ref (a 2), .ref (a 3)])), ((a 2), .inl (G.2.1, 31, .inl tov)), ((a 3), .inl (G.2.1, 31, .inl torr)), ((a 4), .inr (2, [.int 1, .ref (a 5), .ref (a 6)])), ((a 5), .inl (G.2.1, 31, .inl tnv)), ((a 6), .inl (G.2.1, 31, .inl tnr)), ((a 7), .inr (1, [.int tql, .ref (a 8), .ref (a 9), .ref (a 10)])), ((a 8), .inl (G.2.1, 8, .inl tqk)), ((a 9), .inl (G.2.1, 8, .inl tqv)), ((a 10), .inl (G.2.1, 8, .inl tqr)), ((a 11), .inl (G.2.1, 31, .inl twr)), ((a 12), .inl (G.2.1, 3, .inl twc)), ((a 13), .inl (G.2.1, 3, .inl twk))] := hD
  unfold fX0_give at hf
  refine lv_aload_n hx hb dX0_give_0 rfl (lv_at hl 0 rfl) ?_
  refine va_get (D := G.1) (ci := 0) (v := .int ki) (C := RX0) (T := TX0) (N := 7) hx hb hts hX0 hown hK.1 hP 0 rfl rfl 5 (by decide) (hts _ tw_183) (fun _ h9 => h9) rfl dX0_give_1 ?_
  by_cases c1 : ki = (98 : Int32)
  · have hf := g_ifT c1 hf
    refine g_tsw (tgt := 186) (off := 182) hx hb dX0_give_4 (by rw [c1]; decide) (by decide) (by decide) ?_
    refine lv_aload_n hx hb dX0_give_186 rfl (lv_at hl 1 rfl) ?_
    refine lv_aload_n hx hb dX0_give_187 rfl (lv_at hl 0 rfl) ?_
    refine va_get (D := G.1) (ci := 0) (v := .ref h2) (C := RX0) (T := TX0) (N := 7) hx hb hts hX0 hown hK.1 hP 0 rfl rfl 6 (by decide) (hts _ tw_184) (fun _ h9 => h9) rfl dX0_give_188 ?_
    refine lv_iconst (v := (0 : Int32)) hx hb dX0_give_191 (by decide) ?_
    obtain ⟨g2, hf⟩ := g_gdS hf
    refine va_iald hx hb hK.1 hP 2 0 rfl rfl (g_in_vp g2) dX0_give_192 ?_
    obtain ⟨r3, e4, hf⟩ := g_bdS hf
    refine g_contC (st1 := [.int r3.1]) (g_runVC (As := [.int (nu (0 : Int32).toNatClampNeg)]) (rest := []) ⟨hx, hb, hml, hown, hts⟩ (qX4_fillKeys l G a e4) (cwV 1 hts (TB_V TB_id tw_570 tw_390 tw_391 tw_50 tw_392) rfl rfl rfl (by decide +kernel) ⟨Nat.le_of_ble_eq_true rfl, Nat.le_of_ble_eq_true rfl⟩) hK (hP.sub [3, 4, 5, 6, 7, 8, 9, 10, 11, 12, 13, 14, 15, 16] rfl) (hD.sub [3, 4, 5, 6, 7, 8, 9, 10, 11, 12, 13, 14, 15, 16] (by decide) rfl) 0 rfl rfl rfl hl.1 rfl (Nat.le_of_ble_eq_true rfl) dX0_give_193) rfl hP hD hS hA [3, 4, 5, 6, 7, 8, 9, 10, 11, 12, 13, 14, 15, 16] rfl rfl (fun H locs hP hD hS => ?_)
    have hP : va_P G.1 vwCl [(h0, .inr (0, [.int len, .ref h1, .int gi, .int pl, .int re, .int ki, .ref h2])), (h1, .inl (G.2.1, 60, .inl tx)), (h2, .inl (G.2.1, 4, .inl nu)), ((a 0), .inr (3, [.int r3.2.1, .int r3.2.2.1, .int r3.2.2.2.1, .int r3.2.2.2.2.1, .ref (a 1), .ref (a 4), .ref (a 7), .ref (a 11), .int r3.2.2.2.2.2.2.2.2.2.2.2.2.2.2.1, .ref (a 12), .ref (a 13)])), ((a 1), .inr (2, [.int 0, .ref (a 2), .ref (a 3)])), ((a 2), .inl (G.2.1, 31, .inl r3.2.2.2.2.2.1)), ((a 3), .inl (G.2.1, 31, .inl r3.2.2.2.2.2.2.1)), ((a 4), .inr (2, [.int 1, .ref (a 5), .ref (a 6)])), ((a 5), .inl (G.2.1, 31, .inl r3.2.2.2.2.2.2.2.1)), ((a 6), .inl (G.2.1, 31, .inl r3.2.2.2.2.2.2.2.2.1)), ((a 7), .inr (1, [.int r3.2.2.2.2.2.2.2.2.2.1, .ref (a 8), .ref (a 9), .ref (a 10)])), ((a 8), .inl (G.2.1, 8, .inl r3.2.2.2.2.2.2.2.2.2.2.1)), ((a 9), .inl (G.2.1, 8, .inl r3.2.2.2.2.2.2.2.2.2.2.2.1)), ((a 10), .inl (G.2.1, 8, .inl r3.2.2.2.2.2.2.2.2.2.2.2.2.1)), ((a 11), .inl (G.2.1, 31, .inl r3.2.2.2.2.2.2.2.2.2.2.2.2.2.1)), ((a 12), .inl (G.2.1, 3, .inl r3.2.2.2.2.2.2.2.2.2.2.2.2.2.2.2.1)), ((a 13), .inl (G.2.1, 3, .inl r3.2.2.2.2.2.2.2.2.2.2.2.2.2.2.2.2))] H := hP
    have hD : va_D (va_A (ordW G h0 h1 h2 len tx gi pl re ki nu ++ tabW G a tph tla tpo tlo tov torr tnv tnr tql tqk tqv tqr twr twa twc twk) s.heap.size) [(h0, .inr (0, [.int len, .ref h1, .int gi, .int pl, .int re, .int ki, .ref h2])), (h1, .inl (G.2.1, 60, .inl tx)), (h2, .inl (G.2.1, 4, .inl nu)), ((a 0), .inr (3, [.int r3.2.1, .int r3.2.2.1, .int r3.2.2.2.1, .int r3.2.2.2.2.1, .ref (a 1), .ref (a 4), .ref (a 7), .ref (a 11), .int r3.2.2.2.2.2.2.2.2.2.2.2.2.2.2.1, .ref (a 12), .ref (a 13)])), ((a 1), .inr (2, [.int 0, .ref (a 2), .ref (a 3)])), ((a 2), .inl (G.2.1, 31, .inl r3.2.2.2.2.2.1)), ((a 3), .inl (G.2.1, 31, .inl r3.2.2.2.2.2.2.1)), ((a 4), .inr (2, [.int 1, .ref (a 5), .ref (a 6)])), ((a 5), .inl (G.2.1, 31, .inl r3.2.2.2.2.2.2.2.1)), ((a 6), .inl (G.2.1, 31, .inl r3.2.2.2.2.2.2.2.2.1)), ((a 7), .inr (1, [.int r3.2.2.2.2.2.2.2.2.2.1, .ref (a 8), .ref (a 9), .ref (a 10)])), ((a 8), .inl (G.2.1, 8, .inl r3.2.2.2.2.2.2.2.2.2.2.1)), ((a 9), .inl (G.2.1, 8, .inl r3.2.2.2.2.2.2.2.2.2.2.2.1)), ((a 10), .inl (G.2.1, 8, .inl r3.2.2.2.2.2.2.2.2.2.2.2.2.1)), ((a 11), .inl (G.2.1, 31, .inl r3.2.2.2.2.2.2.2.2.2.2.2.2.2.1)), ((a 12), .inl (G.2.1, 3, .inl r3.2.2.2.2.2.2.2.2.2.2.2.2.2.2.2.1)), ((a 13), .inl (G.2.1, 3, .inl r3.2.2.2.2.2.2.2.2.2.2.2.2.2.2.2.2))] := hD
    cases hf
    exact g_iretC hx hb hr hlocks hP hD hS dX0_give_196
  have hf := g_ifF c1 hf
  by_cases c5 : ki = (100 : Int32)
  · have hf := g_ifT c5 hf
    refine g_tsw (tgt := 175) (off := 171) hx hb dX0_give_4 (by rw [c5]; decide) (by decide) (by decide) ?_
    refine lv_aload_n hx hb dX0_give_175 rfl (lv_at hl 1 rfl) ?_
    refine lv_aload_n hx hb dX0_give_176 rfl (lv_at hl 0 rfl) ?_
    refine va_get (D := G.1) (ci := 0) (v := .ref h2) (C := RX0) (T := TX0) (N := 7) hx hb hts hX0 hown hK.1 hP 0 rfl rfl 6 (by decide) (hts _ tw_184) (fun _ h9 => h9) rfl dX0_give_177 ?_
    refine lv_iconst (v := (0 : Int32)) hx hb dX0_give_180 (by decide) ?_
    obtain ⟨g6, hf⟩ := g_gdS hf
    refine va_iald hx hb hK.1 hP 2 0 rfl rfl (g_in_vp g6) dX0_give_181 ?_
    obtain ⟨r7, e8, hf⟩ := g_bdS hf
    refine g_contC (st1 := [.int r7.1]) (g_runVC (As := [.int (nu (0 : Int32).toNatClampNeg)]) (rest := []) ⟨hx, hb, hml, hown, hts⟩ (qX4_drainQueue l G a e8) (cwV 1 hts (TB_V TB_id tw_569 tw_364 tw_365 tw_50 tw_366) rfl rfl rfl (by decide +kernel) ⟨Nat.le_of_ble_eq_true rfl, Nat.le_of_ble_eq_true rfl⟩) hK (hP.sub [3, 4, 5, 6, 7, 8, 9, 10, 11, 12, 13, 14, 15, 16] rfl) (hD.sub [3, 4, 5, 6, 7, 8, 9, 10, 11, 12, 13, 14, 15, 16] (by decide) rfl) 0 rfl rfl rfl hl.1 rfl (Nat.le_of_ble_eq_true rfl) dX0_give_182) rfl hP hD hS hA [3, 4, 5, 6, 7, 8, 9, 10, 11, 12, 13, 14, 15, 16] rfl rfl (fun H locs hP hD hS => ?_)
    have hP : va_P G.1 vwCl [(h0, .inr (0, [.int len, .ref h1, .int gi, .int pl, .int re, .int ki, .ref h2])), (h1, .inl (G.2.1, 60, .inl tx)), (h2, .inl (G.2.1, 4, .inl nu)), ((a 0), .inr (3, [.int r7.2.1, .int r7.2.2.1, .int r7.2.2.2.1, .int r7.2.2.2.2.1, .ref (a 1), .ref (a 4), .ref (a 7), .ref (a 11), .int r7.2.2.2.2.2.2.2.2.2.2.2.2.2.2.1, .ref (a 12), .ref (a 13)])), ((a 1), .inr (2, [.int 0, .ref (a 2), .ref (a 3)])), ((a 2), .inl (G.2.1, 31, .inl r7.2.2.2.2.2.1)), ((a 3), .inl (G.2.1, 31, .inl r7.2.2.2.2.2.2.1)), ((a 4), .inr (2, [.int 1, .ref (a 5), .ref (a 6)])), ((a 5), .inl (G.2.1, 31, .inl r7.2.2.2.2.2.2.2.1)), ((a 6), .inl (G.2.1, 31, .inl r7.2.2.2.2.2.2.2.2.1)), ((a 7), .inr (1, [.int r7.2.2.2.2.2.2.2.2.2.1, .ref (a 8), .ref (a 9), .ref (a 10)])), ((a 8), .inl (G.2.1, 8, .inl r7.2.2.2.2.2.2.2.2.2.2.1)), ((a 9), .inl (G.2.1, 8, .inl r7.2.2.2.2.2.2.2.2.2.2.2.1)), ((a 10), .inl (G.2.1, 8, .inl r7.2.2.2.2.2.2.2.2.2.2.2.2.1)), ((a 11), .inl (G.2.1, 31, .inl r7.2.2.2.2.2.2.2.2.2.2.2.2.2.1)), ((a 12), .inl (G.2.1, 3, .inl r7.2.2.2.2.2.2.2.2.2.2.2.2.2.2.2.1)), ((a 13), .inl (G.2.1, 3, .inl r7.2.2.2.2.2.2.2.2.2.2.2.2.2.2.2.2))] H := hP
    have hD : va_D (va_A (ordW G h0 h1 h2 len tx gi pl re ki nu ++ tabW G a tph tla tpo tlo tov torr tnv tnr tql tqk tqv tqr twr twa twc twk) s.heap.size) [(h0, .inr (0, [.int len, .ref h1, .int gi, .int pl, .int re, .int ki, .ref h2])), (h1, .inl (G.2.1, 60, .inl tx)), (h2, .inl (G.2.1, 4, .inl nu)), ((a 0), .inr (3, [.int r7.2.1, .int r7.2.2.1, .int r7.2.2.2.1, .int r7.2.2.2.2.1, .ref (a 1), .ref (a 4), .ref (a 7), .ref (a 11), .int r7.2.2.2.2.2.2.2.2.2.2.2.2.2.2.1, .ref (a 12), .ref (a 13)])), ((a 1), .inr (2, [.int 0, .ref (a 2), .ref (a 3)])), ((a 2), .inl (G.2.1, 31, .inl r7.2.2.2.2.2.1)), ((a 3), .inl (G.2.1, 31, .inl r7.2.2.2.2.2.2.1)), ((a 4), .inr (2, [.int 1, .ref (a 5), .ref (a 6)])), ((a 5), .inl (G.2.1, 31, .inl r7.2.2.2.2.2.2.2.1)), ((a 6), .inl (G.2.1, 31, .inl r7.2.2.2.2.2.2.2.2.1)), ((a 7), .inr (1, [.int r7.2.2.2.2.2.2.2.2.2.1, .ref (a 8), .ref (a 9), .ref (a 10)])), ((a 8), .inl (G.2.1, 8, .inl r7.2.2.2.2.2.2.2.2.2.2.1)), ((a 9), .inl (G.2.1, 8, .inl r7.2.2.2.2.2.2.2.2.2.2.2.1)), ((a 10), .inl (G.2.1, 8, .inl r7.2.2.2.2.2.2.2.2.2.2.2.2.1)), ((a 11), .inl (G.2.1, 31, .inl r7.2.2.2.2.2.2.2.2.2.2.2.2.2.1)), ((a 12), .inl (G.2.1, 3, .inl r7.2.2.2.2.2.2.2.2.2.2.2.2.2.2.2.1)), ((a 13), .inl (G.2.1, 3, .inl r7.2.2.2.2.2.2.2.2.2.2.2.2.2.2.2.2))] := hD
    cases hf
    exact g_iretC hx hb hr hlocks hP hD hS dX0_give_185
  have hf := g_ifF c5 hf
  by_cases c9 : ki = (109 : Int32)
  · have hf := g_ifT c9 hf
    refine g_tsw (tgt := 197) (off := 193) hx hb dX0_give_4 (by rw [c9]; decide) (by decide) (by decide) ?_
    refine lv_aload_n hx hb dX0_give_197 rfl (lv_at hl 1 rfl) ?_
    refine lv_aload_n hx hb dX0_give_198 rfl (lv_at hl 0 rfl) ?_
    refine va_get (D := G.1) (ci := 0) (v := .ref h2) (C := RX0) (T := TX0) (N := 7) hx hb hts hX0 hown hK.1 hP 0 rfl rfl 6 (by decide) (hts _ tw_184) (fun _ h9 => h9) rfl dX0_give_199 ?_
    refine lv_iconst (v := (0 : Int32)) hx hb dX0_give_202 (by decide) ?_
    obtain ⟨g10, hf⟩ := g_gdS hf
    refine va_iald hx hb hK.1 hP 2 0 rfl rfl (g_in_vp g10) dX0_give_203 ?_
    obtain ⟨r11, e12, hf⟩ := g_bdS hf
    refine g_contC (st1 := [.int r11.1]) (g_runVC (As := [.int (nu (0 : Int32).toNatClampNeg)]) (rest := []) ⟨hx, hb, hml, hown, hts⟩ (qX4_mendKey l G a e12) (cwV 1 hts (TB_V TB_id tw_571 tw_411 tw_412 tw_50 tw_413) rfl rfl rfl (by decide +kernel) ⟨Nat.le_of_ble_eq_true rfl, Nat.le_of_ble_eq_true rfl⟩) hK (hP.sub [3, 4, 5, 6, 7, 8, 9, 10, 11, 12, 13, 14, 15, 16] rfl) (hD.sub [3, 4, 5, 6, 7, 8, 9, 10, 11, 12, 13, 14, 15, 16] (by decide) rfl) 0 rfl rfl rfl hl.1 rfl (Nat.le_of_ble_eq_true rfl) dX0_give_204) rfl hP hD hS hA [3, 4, 5, 6, 7, 8, 9, 10, 11, 12, 13, 14, 15, 16] rfl rfl (fun H locs hP hD hS => ?_)
    have hP : va_P G.1 vwCl [(h0, .inr (0, [.int len, .ref h1, .int gi, .int pl, .int re, .int ki, .ref h2])), (h1, .inl (G.2.1, 60, .inl tx)), (h2, .inl (G.2.1, 4, .inl nu)), ((a 0), .inr (3, [.int r11.2.1, .int r11.2.2.1, .int r11.2.2.2.1, .int r11.2.2.2.2.1, .ref (a 1), .ref (a 4), .ref (a 7), .ref (a 11), .int r11.2.2.2.2.2.2.2.2.2.2.2.2.2.2.1, .ref (a 12), .ref (a 13)])), ((a 1), .inr (2, [.int 0, .ref (a 2), .ref (a 3)])), ((a 2), .inl (G.2.1, 31, .inl r11.2.2.2.2.2.1)), ((a 3), .inl (G.2.1, 31, .inl r11.2.2.2.2.2.2.1)), ((a 4), .inr (2, [.int 1, .ref (a 5), .ref (a 6)])), ((a 5), .inl (G.2.1, 31, .inl r11.2.2.2.2.2.2.2.1)), ((a 6), .inl (G.2.1, 31, .inl r11.2.2.2.2.2.2.2.2.1)), ((a 7), .inr (1, [.int r11.2.2.2.2.2.2.2.2.2.1, .ref (a 8), .ref (a 9), .ref (a 10)])), ((a 8), .inl (G.2.1, 8, .inl r11.2.2.2.2.2.2.2.2.2.2.1)), ((a 9), .inl (G.2.1, 8, .inl r11.2.2.2.2.2.2.2.2.2.2.2.1)), ((a 10), .inl (G.2.1, 8, .inl r11.2.2.2.2.2.2.2.2.2.2.2.2.1)), ((a 11), .inl (G.2.1, 31, .inl r11.2.2.2.2.2.2.2.2.2.2.2.2.2.1)), ((a 12), .inl (G.2.1, 3, .inl r11.2.2.2.2.2.2.2.2.2.2.2.2.2.2.2.1)), ((a 13), .inl (G.2.1, 3, .inl r11.2.2.2.2.2.2.2.2.2.2.2.2.2.2.2.2))] H := hP
    have hD : va_D (va_A (ordW G h0 h1 h2 len tx gi pl re ki nu ++ tabW G a tph tla tpo tlo tov torr tnv tnr tql tqk tqv tqr twr twa twc twk) s.heap.size) [(h0, .inr (0, [.int len, .ref h1, .int gi, .int pl, .int re, .int ki, .ref h2])), (h1, .inl (G.2.1, 60, .inl tx)), (h2, .inl (G.2.1, 4, .inl nu)), ((a 0), .inr (3, [.int r11.2.1, .int r11.2.2.1, .int r11.2.2.2.1, .int r11.2.2.2.2.1, .ref (a 1), .ref (a 4), .ref (a 7), .ref (a 11), .int r11.2.2.2.2.2.2.2.2.2.2.2.2.2.2.1, .ref (a 12), .ref (a 13)])), ((a 1), .inr (2, [.int 0, .ref (a 2), .ref (a 3)])), ((a 2), .inl (G.2.1, 31, .inl r11.2.2.2.2.2.1)), ((a 3), .inl (G.2.1, 31, .inl r11.2.2.2.2.2.2.1)), ((a 4), .inr (2, [.int 1, .ref (a 5), .ref (a 6)])), ((a 5), .inl (G.2.1, 31, .inl r11.2.2.2.2.2.2.2.1)), ((a 6), .inl (G.2.1, 31, .inl r11.2.2.2.2.2.2.2.2.1)), ((a 7), .inr (1, [.int r11.2.2.2.2.2.2.2.2.2.1, .ref (a 8), .ref (a 9), .ref (a 10)])), ((a 8), .inl (G.2.1, 8, .inl r11.2.2.2.2.2.2.2.2.2.2.1)), ((a 9), .inl (G.2.1, 8, .inl r11.2.2.2.2.2.2.2.2.2.2.2.1)), ((a 10), .inl (G.2.1, 8, .inl r11.2.2.2.2.2.2.2.2.2.2.2.2.1)), ((a 11), .inl (G.2.1, 31, .inl r11.2.2.2.2.2.2.2.2.2.2.2.2.2.1)), ((a 12), .inl (G.2.1, 3, .inl r11.2.2.2.2.2.2.2.2.2.2.2.2.2.2.2.1)), ((a 13), .inl (G.2.1, 3, .inl r11.2.2.2.2.2.2.2.2.2.2.2.2.2.2.2.2))] := hD
    cases hf
    exact g_iretC hx hb hr hlocks hP hD hS dX0_give_207
  have hf := g_ifF c9 hf
  by_cases c13 : ki = (110 : Int32)
  · have hf := g_ifT c13 hf
    refine g_tsw (tgt := 141) (off := 137) hx hb dX0_give_4 (by rw [c13]; decide) (by decide) (by decide) ?_
    refine lv_aload_n hx hb dX0_give_141 rfl (lv_at hl 1 rfl) ?_
    refine lv_aload_n hx hb dX0_give_142 rfl (lv_at hl 0 rfl) ?_
    refine va_get (D := G.1) (ci := 0) (v := .ref h2) (C := RX0) (T := TX0) (N := 7) hx hb hts hX0 hown hK.1 hP 0 rfl rfl 6 (by decide) (hts _ tw_184) (fun _ h9 => h9) rfl dX0_give_143 ?_
    refine lv_iconst (v := (0 : Int32)) hx hb dX0_give_146 (by decide) ?_
    obtain ⟨g14, hf⟩ := g_gdS hf
    refine va_iald hx hb hK.1 hP 2 0 rfl rfl (g_in_vp g14) dX0_give_147 ?_
    refine lv_aload_n hx hb dX0_give_148 rfl (lv_at hl 0 rfl) ?_
    refine va_get (D := G.1) (ci := 0) (v := .ref h2) (C := RX0) (T := TX0) (N := 7) hx hb hts hX0 hown hK.1 hP 0 rfl rfl 6 (by decide) (hts _ tw_184) (fun _ h9 => h9) rfl dX0_give_149 ?_
    refine lv_iconst (v := (1 : Int32)) hx hb dX0_give_152 (by decide) ?_
    obtain ⟨g15, hf⟩ := g_gdS hf
    refine va_iald hx hb hK.1 hP 2 0 rfl rfl (g_in_vp g15) dX0_give_153 ?_
    refine lv_aload_n hx hb dX0_give_154 rfl (lv_at hl 0 rfl) ?_
    refine va_get (D := G.1) (ci := 0) (v := .ref h2) (C := RX0) (T := TX0) (N := 7) hx hb hts hX0 hown hK.1 hP 0 rfl rfl 6 (by decide) (hts _ tw_184) (fun _ h9 => h9) rfl dX0_give_155 ?_
    refine lv_iconst (v := (2 : Int32)) hx hb dX0_give_158 (by decide) ?_
    obtain ⟨g16, hf⟩ := g_gdS hf
    refine va_iald hx hb hK.1 hP 2 0 rfl rfl (g_in_vp g16) dX0_give_159 ?_
    obtain ⟨r17, e18, hf⟩ := g_bdS hf
    refine g_contC (st1 := [.int r17.1]) (g_runVC (As := [.int (nu (0 : Int32).toNatClampNeg), .int (nu (1 : Int32).toNatClampNeg), .int (nu (2 : Int32).toNatClampNeg)]) (rest := []) ⟨hx, hb, hml, hown, hts⟩ (qX4_putNew l G a e18) (cwV 3 hts (TB_V TB_id tw_567 tw_347 tw_348 tw_50 tw_349) rfl rfl rfl (by decide +kernel) ⟨Nat.le_of_ble_eq_true rfl, Nat.le_of_ble_eq_true rfl⟩) hK (hP.sub [3, 4, 5, 6, 7, 8, 9, 10, 11, 12, 13, 14, 15, 16] rfl) (hD.sub [3, 4, 5, 6, 7, 8, 9, 10, 11, 12, 13, 14, 15, 16] (by decide) rfl) 0 rfl rfl rfl hl.1 rfl (Nat.le_of_ble_eq_true rfl) dX0_give_160) rfl hP hD hS hA [3, 4, 5, 6, 7, 8, 9, 10, 11, 12, 13, 14, 15, 16] rfl rfl (fun H locs hP hD hS => ?_)
    have hP : va_P G.1 vwCl [(h0, .inr (0, [.int len, .ref h1, .int gi, .int pl, .int re, .int ki, .ref h2])), (h1, .inl (G.2.1, 60, .inl tx)), (h2, .inl (G.2.1, 4, .inl nu)), ((a 0), .inr (3, [.int r17.2.1, .int r17.2.2.1, .int r17.2.2.2.1, .int r17.2.2.2.2.1, .ref (a 1), .ref (a 4), .ref (a 7), .ref (a 11), .int r17.2.2.2.2.2.2.2.2.2.2.2.2.2.2.1, .ref (a 12), .ref (a 13)])), ((a 1), .inr (2, [.int 0, .ref (a 2), .ref (a 3)])), ((a 2), .inl (G.2.1, 31, .inl r17.2.2.2.2.2.1)), ((a 3), .inl (G.2.1, 31, .inl r17.2.2.2.2.2.2.1)), ((a 4), .inr (2, [.int 1, .ref (a 5), .ref (a 6)])), ((a 5), .inl (G.2.1, 31, .inl r17.2.2.2.2.2.2.2.1)), ((a 6), .inl (G.2.1, 31, .inl r17.2.2.2.2.2.2.2.2.1)), ((a 7), .inr (1, [.int r17.2.2.2.2.2.2.2.2.2.1, .ref (a 8), .ref (a 9), .ref (a 10)])), ((a 8), .inl (G.2.1, 8, .inl r17.2.2.2.2.2.2.2.2.2.2.1)), ((a 9), .inl (G.2.1, 8, .inl r17.2.2.2.2.2.2.2.2.2.2.2.1)), ((a 10), .inl (G.2.1, 8, .inl r17.2.2.2.2.2.2.2.2.2.2.2.2.1)), ((a 11), .inl (G.2.1, 31, .inl r17.2.2.2.2.2.2.2.2.2.2.2.2.2.1)), ((a 12), .inl (G.2.1, 3, .inl r17.2.2.2.2.2.2.2.2.2.2.2.2.2.2.2.1)), ((a 13), .inl (G.2.1, 3, .inl r17.2.2.2.2.2.2.2.2.2.2.2.2.2.2.2.2))] H := hP
    have hD : va_D (va_A (ordW G h0 h1 h2 len tx gi pl re ki nu ++ tabW G a tph tla tpo tlo tov torr tnv tnr tql tqk tqv tqr twr twa twc twk) s.heap.size) [(h0, .inr (0, [.int len, .ref h1, .int gi, .int pl, .int re, .int ki, .ref h2])), (h1, .inl (G.2.1, 60, .inl tx)), (h2, .inl (G.2.1, 4, .inl nu)), ((a 0), .inr (3, [.int r17.2.1, .int r17.2.2.1, .int r17.2.2.2.1, .int r17.2.2.2.2.1, .ref (a 1), .ref (a 4), .ref (a 7), .ref (a 11), .int r17.2.2.2.2.2.2.2.2.2.2.2.2.2.2.1, .ref (a 12), .ref (a 13)])), ((a 1), .inr (2, [.int 0, .ref (a 2), .ref (a 3)])), ((a 2), .inl (G.2.1, 31, .inl r17.2.2.2.2.2.1)), ((a 3), .inl (G.2.1, 31, .inl r17.2.2.2.2.2.2.1)), ((a 4), .inr (2, [.int 1, .ref (a 5), .ref (a 6)])), ((a 5), .inl (G.2.1, 31, .inl r17.2.2.2.2.2.2.2.1)), ((a 6), .inl (G.2.1, 31, .inl r17.2.2.2.2.2.2.2.2.1)), ((a 7), .inr (1, [.int r17.2.2.2.2.2.2.2.2.2.1, .ref (a 8), .ref (a 9), .ref (a 10)])), ((a 8), .inl (G.2.1, 8, .inl r17.2.2.2.2.2.2.2.2.2.2.1)), ((a 9), .inl (G.2.1, 8, .inl r17.2.2.2.2.2.2.2.2.2.2.2.1)), ((a 10), .inl (G.2.1, 8, .inl r17.2.2.2.2.2.2.2.2.2.2.2.2.1)), ((a 11), .inl (G.2.1, 31, .inl r17.2.2.2.2.2.2.2.2.2.2.2.2.2.1)), ((a 12), .inl (G.2.1, 3, .inl r17.2.2.2.2.2.2.2.2.2.2.2.2.2.2.2.1)), ((a 13), .inl (G.2.1, 3, .inl r17.2.2.2.2.2.2.2.2.2.2.2.2.2.2.2.2))] := hD
    cases hf
    exact g_iretC hx hb hr hlocks hP hD hS dX0_give_163
  have hf := g_ifF c13 hf
  by_cases c19 : ki = (111 : Int32)
  · have hf := g_ifT c19 hf
    refine g_tsw (tgt := 112) (off := 108) hx hb dX0_give_4 (by rw [c19]; decide) (by decide) (by decide) ?_
    refine lv_aload_n hx hb dX0_give_112 rfl (lv_at hl 1 rfl) ?_
    refine lv_aload_n hx hb dX0_give_113 rfl (lv_at hl 0 rfl) ?_
    refine va_get (D := G.1) (ci := 0) (v := .ref h2) (C := RX0) (T := TX0) (N := 7) hx hb hts hX0 hown hK.1 hP 0 rfl rfl 6 (by decide) (hts _ tw_184) (fun _ h9 => h9) rfl dX0_give_114 ?_
    refine lv_iconst (v := (0 : Int32)) hx hb dX0_give_117 (by decide) ?_
    obtain ⟨g20, hf⟩ := g_gdS hf
    refine va_iald hx hb hK.1 hP 2 0 rfl rfl (g_in_vp g20) dX0_give_118 ?_
    refine lv_aload_n hx hb dX0_give_119 rfl (lv_at hl 0 rfl) ?_
    refine va_get (D := G.1) (ci := 0) (v := .ref h2) (C := RX0) (T := TX0) (N := 7) hx hb hts hX0 hown hK.1 hP 0 rfl rfl 6 (by decide) (hts _ tw_184) (fun _ h9 => h9) rfl dX0_give_120 ?_
    refine lv_iconst (v := (1 : Int32)) hx hb dX0_give_123 (by decide) ?_
    obtain ⟨g21, hf⟩ := g_gdS hf
    refine va_iald hx hb hK.1 hP 2 0 rfl rfl (g_in_vp g21) dX0_give_124 ?_
    refine lv_aload_n hx hb dX0_give_125 rfl (lv_at hl 0 rfl) ?_
    refine va_get (D := G.1) (ci := 0) (v := .ref h2) (C := RX0) (T := TX0) (N := 7) hx hb hts hX0 hown hK.1 hP 0 rfl rfl 6 (by decide) (hts _ tw_184) (fun _ h9 => h9) rfl dX0_give_126 ?_
    refine lv_iconst (v := (2 : Int32)) hx hb dX0_give_129 (by decide) ?_
    obtain ⟨g22, hf⟩ := g_gdS hf
    refine va_iald hx hb hK.1 hP 2 0 rfl rfl (g_in_vp g22) dX0_give_130 ?_
    refine lv_aload_n hx hb dX0_give_131 rfl (lv_at hl 0 rfl) ?_
    refine va_get (D := G.1) (ci := 0) (v := .ref h2) (C := RX0) (T := TX0) (N := 7) hx hb hts hX0 hown hK.1 hP 0 rfl rfl 6 (by decide) (hts _ tw_184) (fun _ h9 => h9) rfl dX0_give_132 ?_
    refine lv_iconst (v := (3 : Int32)) hx hb dX0_give_135 (by decide) ?_
    obtain ⟨g23, hf⟩ := g_gdS hf
    refine va_iald hx hb hK.1 hP 2 0 rfl rfl (g_in_vp g23) dX0_give_136 ?_
    obtain ⟨r24, e25, hf⟩ := g_bdS hf
    refine g_contC (st1 := [.int r24.1]) (g_runVC (As := [.int (nu (0 : Int32).toNatClampNeg), .int (nu (1 : Int32).toNatClampNeg), .int (nu (2 : Int32).toNatClampNeg), .int (nu (3 : Int32).toNatClampNeg)]) (rest := []) ⟨hx, hb, hml, hown, hts⟩ (qX4_putOld l G a e25) (cwV 4 hts (TB_V TB_id tw_566 tw_306 tw_307 tw_50 tw_308) rfl rfl rfl (by decide +kernel) ⟨Nat.le_of_ble_eq_true rfl, Nat.le_of_ble_eq_true rfl⟩) hK (hP.sub [3, 4, 5, 6, 7, 8, 9, 10, 11, 12, 13, 14, 15, 16] rfl) (hD.sub [3, 4, 5, 6, 7, 8, 9, 10, 11, 12, 13, 14, 15, 16] (by decide) rfl) 0 rfl rfl rfl hl.1 rfl (Nat.le_of_ble_eq_true rfl) dX0_give_137) rfl hP hD hS hA [3, 4, 5, 6, 7, 8, 9, 10, 11, 12, 13, 14, 15, 16] rfl rfl (fun H locs hP hD hS => ?_)
    have hP : va_P G.1 vwCl [(h0, .inr (0, [.int len, .ref h1, .int gi, .int pl, .int re, .int ki, .ref h2])), (h1, .inl (G.2.1, 60, .inl tx)), (h2, .inl (G.2.1, 4, .inl nu)), ((a 0), .inr (3, [.int r24.2.1, .int r24.2.2.1, .int r24.2.2.2.1, .int r24.2.2.2.2.1, .ref (a 1), .ref (a 4), .ref (a 7), .ref (a 11), .int r24.2.2.2.2.2.2.2.2.2.2.2.2.2.2.1, .ref (a 12), .ref (a 13)])), ((a 1), .inr (2, [.int 0, .ref (a 2), .ref (a 3)])), ((a 2), .inl (G.2.1, 31, .inl r24.2.2.2.2.2.1)), ((a 3), .inl (G.2.1, 31, .inl r24.2.2.2.2.2.2.1)), ((a 4), .inr (2, [.int 1, .ref (a 5), .ref (a 6)])), ((a 5), .inl (G.2.1, 31, .inl r24.2.2.2.2.2.2.2.1)), ((a 6), .inl (G.2.1, 31, .inl r24.2.2.2.2.2.2.2.2.1)), ((a 7), .inr (1, [.int r24.2.2.2.2.2.2.2.2.2.1, .ref (a 8), .ref (a 9), .ref (a 10)])), ((a 8), .inl (G.2.1, 8, .inl r24.2.2.2.2.2.2.2.2.2.2.1)), ((a 9), .inl (G.2.1, 8, .inl r24.2.2.2.2.2.2.2.2.2.2.2.1)), ((a 10), .inl (G.2.1, 8, .inl r24.2.2.2.2.2.2.2.2.2.2.2.2.1)), ((a 11), .inl (G.2.1, 31, .inl r24.2.2.2.2.2.2.2.2.2.2.2.2.2.1)), ((a 12), .inl (G.2.1, 3, .inl r24.2.2.2.2.2.2.2.2.2.2.2.2.2.2.2.1)), ((a 13), .inl (G.2.1, 3, .inl r24.2.2.2.2.2.2.2.2.2.2.2.2.2.2.2.2))] H := hP
    have hD : va_D (va_A (ordW G h0 h1 h2 len tx gi pl re ki nu ++ tabW G a tph tla tpo tlo tov torr tnv tnr tql tqk tqv tqr twr twa twc twk) s.heap.size) [(h0, .inr (0, [.int len, .ref h1, .int gi, .int pl, .int re, .int ki, .ref h2])), (h1, .inl (G.2.1, 60, .inl tx)), (h2, .inl (G.2.1, 4, .inl nu)), ((a 0), .inr (3, [.int r24.2.1, .int r24.2.2.1, .int r24.2.2.2.1, .int r24.2.2.2.2.1, .ref (a 1), .ref (a 4), .ref (a 7), .ref (a 11), .int r24.2.2.2.2.2.2.2.2.2.2.2.2.2.2.1, .ref (a 12), .ref (a 13)])), ((a 1), .inr (2, [.int 0, .ref (a 2), .ref (a 3)])), ((a 2), .inl (G.2.1, 31, .inl r24.2.2.2.2.2.1)), ((a 3), .inl (G.2.1, 31, .inl r24.2.2.2.2.2.2.1)), ((a 4), .inr (2, [.int 1, .ref (a 5), .ref (a 6)])), ((a 5), .inl (G.2.1, 31, .inl r24.2.2.2.2.2.2.2.1)), ((a 6), .inl (G.2.1, 31, .inl r24.2.2.2.2.2.2.2.2.1)), ((a 7), .inr (1, [.int r24.2.2.2.2.2.2.2.2.2.1, .ref (a 8), .ref (a 9), .ref (a 10)])), ((a 8), .inl (G.2.1, 8, .inl r24.2.2.2.2.2.2.2.2.2.2.1)), ((a 9), .inl (G.2.1, 8, .inl r24.2.2.2.2.2.2.2.2.2.2.2.1)), ((a 10), .inl (G.2.1, 8, .inl r24.2.2.2.2.2.2.2.2.2.2.2.2.1)), ((a 11), .inl (G.2.1, 31, .inl r24.2.2.2.2.2.2.2.2.2.2.2.2.2.1)), ((a 12), .inl (G.2.1, 3, .inl r24.2.2.2.2.2.2.2.2.2.2.2.2.2.2.2.1)), ((a 13), .inl (G.2.1, 3, .inl r24.2.2.2.2.2.2.2.2.2.2.2.2.2.2.2.2))] := hD
    cases hf
    exact g_iretC hx hb hr hlocks hP hD hS dX0_give_140
  have hf := g_ifF c19 hf
  by_cases c26 : ki = (116 : Int32)
  · have hf := g_ifT c26 hf
    refine g_tsw (tgt := 208) (off := 204) hx hb dX0_give_4 (by rw [c26]; decide) (by decide) (by decide) ?_
    refine lv_aload_n hx hb dX0_give_208 rfl (lv_at hl 1 rfl) ?_
    obtain ⟨r27, e28, hf⟩ := g_bdS hf
    refine g_contC (st1 := [.int r27.1]) (g_runVC (As := []) (rest := []) ⟨hx, hb, hml, hown, hts⟩ (qX4_turnOver l G a e28) (cwV 0 hts (TB_V TB_id tw_572 tw_259 tw_260 tw_50 tw_261) rfl rfl rfl (by decide +kernel) ⟨Nat.le_of_ble_eq_true rfl, Nat.le_of_ble_eq_true rfl⟩) hK (hP.sub [3, 4, 5, 6, 7, 8, 9, 10, 11, 12, 13, 14, 15, 16] rfl) (hD.sub [3, 4, 5, 6, 7, 8, 9, 10, 11, 12, 13, 14, 15, 16] (by decide) rfl) 0 rfl rfl rfl hl.1 rfl (Nat.le_of_ble_eq_true rfl) dX0_give_209) rfl hP hD hS hA [3, 4, 5, 6, 7, 8, 9, 10, 11, 12, 13, 14, 15, 16] rfl rfl (fun H locs hP hD hS => ?_)
    have hP : va_P G.1 vwCl [(h0, .inr (0, [.int len, .ref h1, .int gi, .int pl, .int re, .int ki, .ref h2])), (h1, .inl (G.2.1, 60, .inl tx)), (h2, .inl (G.2.1, 4, .inl nu)), ((a 0), .inr (3, [.int r27.2.1, .int r27.2.2.1, .int r27.2.2.2.1, .int r27.2.2.2.2.1, .ref (a 1), .ref (a 4), .ref (a 7), .ref (a 11), .int r27.2.2.2.2.2.2.2.2.2.2.2.2.2.2.1, .ref (a 12), .ref (a 13)])), ((a 1), .inr (2, [.int 0, .ref (a 2), .ref (a 3)])), ((a 2), .inl (G.2.1, 31, .inl r27.2.2.2.2.2.1)), ((a 3), .inl (G.2.1, 31, .inl r27.2.2.2.2.2.2.1)), ((a 4), .inr (2, [.int 1, .ref (a 5), .ref (a 6)])), ((a 5), .inl (G.2.1, 31, .inl r27.2.2.2.2.2.2.2.1)), ((a 6), .inl (G.2.1, 31, .inl r27.2.2.2.2.2.2.2.2.1)), ((a 7), .inr (1, [.int r27.2.2.2.2.2.2.2.2.2.1, .ref (a 8), .ref (a 9), .ref (a 10)])), ((a 8), .inl (G.2.1, 8, .inl r27.2.2.2.2.2.2.2.2.2.2.1)), ((a 9), .inl (G.2.1, 8, .inl r27.2.2.2.2.2.2.2.2.2.2.2.1)), ((a 10), .inl (G.2.1, 8, .inl r27.2.2.2.2.2.2.2.2.2.2.2.2.1)), ((a 11), .inl (G.2.1, 31, .inl r27.2.2.2.2.2.2.2.2.2.2.2.2.2.1)), ((a 12), .inl (G.2.1, 3, .inl r27.2.2.2.2.2.2.2.2.2.2.2.2.2.2.2.1)), ((a 13), .inl (G.2.1, 3, .inl r27.2.2.2.2.2.2.2.2.2.2.2.2.2.2.2.2))] H := hP
    have hD : va_D (va_A (ordW G h0 h1 h2 len tx gi pl re ki nu ++ tabW G a tph tla tpo tlo tov torr tnv tnr tql tqk tqv tqr twr twa twc twk) s.heap.size) [(h0, .inr (0, [.int len, .ref h1, .int gi, .int pl, .int re, .int ki, .ref h2])), (h1, .inl (G.2.1, 60, .inl tx)), (h2, .inl (G.2.1, 4, .inl nu)), ((a 0), .inr (3, [.int r27.2.1, .int r27.2.2.1, .int r27.2.2.2.1, .int r27.2.2.2.2.1, .ref (a 1), .ref (a 4), .ref (a 7), .ref (a 11), .int r27.2.2.2.2.2.2.2.2.2.2.2.2.2.2.1, .ref (a 12), .ref (a 13)])), ((a 1), .inr (2, [.int 0, .ref (a 2), .ref (a 3)])), ((a 2), .inl (G.2.1, 31, .inl r27.2.2.2.2.2.1)), ((a 3), .inl (G.2.1, 31, .inl r27.2.2.2.2.2.2.1)), ((a 4), .inr (2, [.int 1, .ref (a 5), .ref (a 6)])), ((a 5), .inl (G.2.1, 31, .inl r27.2.2.2.2.2.2.2.1)), ((a 6), .inl (G.2.1, 31, .inl r27.2.2.2.2.2.2.2.2.1)), ((a 7), .inr (1, [.int r27.2.2.2.2.2.2.2.2.2.1, .ref (a 8), .ref (a 9), .ref (a 10)])), ((a 8), .inl (G.2.1, 8, .inl r27.2.2.2.2.2.2.2.2.2.2.1)), ((a 9), .inl (G.2.1, 8, .inl r27.2.2.2.2.2.2.2.2.2.2.2.1)), ((a 10), .inl (G.2.1, 8, .inl r27.2.2.2.2.2.2.2.2.2.2.2.2.1)), ((a 11), .inl (G.2.1, 31, .inl r27.2.2.2.2.2.2.2.2.2.2.2.2.2.1)), ((a 12), .inl (G.2.1, 3, .inl r27.2.2.2.2.2.2.2.2.2.2.2.2.2.2.2.1)), ((a 13), .inl (G.2.1, 3, .inl r27.2.2.2.2.2.2.2.2.2.2.2.2.2.2.2.2))] := hD
    cases hf
    exact g_iretC hx hb hr hlocks hP hD hS dX0_give_212
  have hf := g_ifF c26 hf
  by_cases c29 : ki = (120 : Int32)
  · have hf := g_ifT c29 hf
    refine g_tsw (tgt := 164) (off := 160) hx hb dX0_give_4 (by rw [c29]; decide) (by decide) (by decide) ?_
    refine lv_aload_n hx hb dX0_give_164 rfl (lv_at hl 1 rfl) ?_
    refine lv_aload_n hx hb dX0_give_165 rfl (lv_at hl 0 rfl) ?_
    refine va_get (D := G.1) (ci := 0) (v := .ref h2) (C := RX0) (T := TX0) (N := 7) hx hb hts hX0 hown hK.1 hP 0 rfl rfl 6 (by decide) (hts _ tw_184) (fun _ h9 => h9) rfl dX0_give_166 ?_
    refine lv_iconst (v := (0 : Int32)) hx hb dX0_give_169 (by decide) ?_
    obtain ⟨g30, hf⟩ := g_gdS hf
    refine va_iald hx hb hK.1 hP 2 0 rfl rfl (g_in_vp g30) dX0_give_170 ?_
    obtain ⟨r31, e32, hf⟩ := g_bdS hf
    refine g_contC (st1 := [.int r31.1]) (g_runVC (As := [.int (nu (0 : Int32).toNatClampNeg)]) (rest := []) ⟨hx, hb, hml, hown, hts⟩ (qX4_takeAway l G a e32) (cwV 1 hts (TB_V TB_id tw_568 tw_356 tw_357 tw_50 tw_358) rfl rfl rfl (by decide +kernel) ⟨Nat.le_of_ble_eq_true rfl, Nat.le_of_ble_eq_true rfl⟩) hK (hP.sub [3, 4, 5, 6, 7, 8, 9, 10, 11, 12, 13, 14, 15, 16] rfl) (hD.sub [3, 4, 5, 6, 7, 8, 9, 10, 11, 12, 13, 14, 15, 16] (by decide) rfl) 0 rfl rfl rfl hl.1 rfl (Nat.le_of_ble_eq_true rfl) dX0_give_171) rfl hP hD hS hA [3, 4, 5, 6, 7, 8, 9, 10, 11, 12, 13, 14, 15, 16] rfl rfl (fun H locs hP hD hS => ?_)
    have hP : va_P G.1 vwCl [(h0, .inr (0, [.int len, .ref h1, .int gi, .int pl, .int re, .int ki, .ref h2])), (h1, .inl (G.2.1, 60, .inl tx)), (h2, .inl (G.2.1, 4, .inl nu)), ((a 0), .inr (3, [.int r31.2.1, .int r31.2.2.1, .int r31.2.2.2.1, .int r31.2.2.2.2.1, .ref (a 1), .ref (a 4), .ref (a 7), .ref (a 11), .int r31.2.2.2.2.2.2.2.2.2.2.2.2.2.2.1, .ref (a 12), .ref (a 13)])), ((a 1), .inr (2, [.int 0, .ref (a 2), .ref (a 3)])), ((a 2), .inl (G.2.1, 31, .inl r31.2.2.2.2.2.1)), ((a 3), .inl (G.2.1, 31, .inl r31.2.2.2.2.2.2.1)), ((a 4), .inr (2, [.int 1, .ref (a 5), .ref (a 6)])), ((a 5), .inl (G.2.1, 31, .inl r31.2.2.2.2.2.2.2.1)), ((a 6), .inl (G.2.1, 31, .inl r31.2.2.2.2.2.2.2.2.1)), ((a 7), .inr (1, [.int r31.2.2.2.2.2.2.2.2.2.1, .ref (a 8), .ref (a 9), .ref (a 10)])), ((a 8), .inl (G.2.1, 8, .inl r31.2.2.2.2.2.2.2.2.2.2.1)), ((a 9), .inl (G.2.1, 8, .inl r31.2.2.2.2.2.2.2.2.2.2.2.1)), ((a 10), .inl (G.2.1, 8, .inl r31.2.2.2.2.2.2.2.2.2.2.2.2.1)), ((a 11), .inl (G.2.1, 31, .inl r31.2.2.2.2.2.2.2.2.2.2.2.2.2.1)), ((a 12), .inl (G.2.1, 3, .inl r31.2.2.2.2.2.2.2.2.2.2.2.2.2.2.2.1)), ((a 13), .inl (G.2.1, 3, .inl r31.2.2.2.2.2.2.2.2.2.2.2.2.2.2.2.2))] H := hP
    have hD : va_D (va_A (ordW G h0 h1 h2 len tx gi pl re ki nu ++ tabW G a tph tla tpo tlo tov torr tnv tnr tql tqk tqv tqr twr twa twc twk) s.heap.size) [(h0, .inr (0, [.int len, .ref h1, .int gi, .int pl, .int re, .int ki, .ref h2])), (h1, .inl (G.2.1, 60, .inl tx)), (h2, .inl (G.2.1, 4, .inl nu)), ((a 0), .inr (3, [.int r31.2.1, .int r31.2.2.1, .int r31.2.2.2.1, .int r31.2.2.2.2.1, .ref (a 1), .ref (a 4), .ref (a 7), .ref (a 11), .int r31.2.2.2.2.2.2.2.2.2.2.2.2.2.2.1, .ref (a 12), .ref (a 13)])), ((a 1), .inr (2, [.int 0, .ref (a 2), .ref (a 3)])), ((a 2), .inl (G.2.1, 31, .inl r31.2.2.2.2.2.1)), ((a 3), .inl (G.2.1, 31, .inl r31.2.2.2.2.2.2.1)), ((a 4), .inr (2, [.int 1, .ref (a 5), .ref (a 6)])), ((a 5), .inl (G.2.1, 31, .inl r31.2.2.2.2.2.2.2.1)), ((a 6), .inl (G.2.1, 31, .inl r31.2.2.2.2.2.2.2.2.1)), ((a 7), .inr (1, [.int r31.2.2.2.2.2.2.2.2.2.1, .ref (a 8), .ref (a 9), .ref (a 10)])), ((a 8), .inl (G.2.1, 8, .inl r31.2.2.2.2.2.2.2.2.2.2.1)), ((a 9), .inl (G.2.1, 8, .inl r31.2.2.2.2.2.2.2.2.2.2.2.1)), ((a 10), .inl (G.2.1, 8, .inl r31.2.2.2.2.2.2.2.2.2.2.2.2.1)), ((a 11), .inl (G.2.1, 31, .inl r31.2.2.2.2.2.2.2.2.2.2.2.2.2.1)), ((a 12), .inl (G.2.1, 3, .inl r31.2.2.2.2.2.2.2.2.2.2.2.2.2.2.2.1)), ((a 13), .inl (G.2.1, 3, .inl r31.2.2.2.2.2.2.2.2.2.2.2.2.2.2.2.2))] := hD
    cases hf
    exact g_iretC hx hb hr hlocks hP hD hS dX0_give_174
  have hf := g_ifF c29 hf
  refine g_tsw (tgt := 213) (off := 209) hx hb dX0_give_4 (g_swd (209) (98) (120) #[182, 209, 171, 209, 209, 209, 209, 209, 209, 209, 209, 193, 137, 108, 209, 209, 209, 209, 204, 209, 209, 209, 160] [98, 100, 109, 110, 111, 116, 120] (by decide) (by decide) (by simp only [List.mem_cons, List.not_mem_nil, or_false, not_or]; exact ⟨lv_neT c1 rfl, lv_neT c5 rfl, lv_neT c9 rfl, lv_neT c13 rfl, lv_neT c19 rfl, lv_neT c26 rfl, lv_neT c29 rfl⟩)) (by decide) (by decide) ?_
  refine lv_aload_n hx hb dX0_give_213 rfl (lv_at hl 1 rfl) ?_
  obtain ⟨r33, e34, hf⟩ := g_bdS hf
  refine g_contC (st1 := [.int r33.1]) (g_runVC (As := []) (rest := []) ⟨hx, hb, hml, hown, hts⟩ (qX4_turnBack l G a e34) (cwV 0 hts (TB_V TB_id tw_573 tw_278 tw_279 tw_50 tw_280) rfl rfl rfl (by decide +kernel) ⟨Nat.le_of_ble_eq_true rfl, Nat.le_of_ble_eq_true rfl⟩) hK (hP.sub [3, 4, 5, 6, 7, 8, 9, 10, 11, 12, 13, 14, 15, 16] rfl) (hD.sub [3, 4, 5, 6, 7, 8, 9, 10, 11, 12, 13, 14, 15, 16] (by decide) rfl) 0 rfl rfl rfl hl.1 rfl (Nat.le_of_ble_eq_true rfl) dX0_give_214) rfl hP hD hS hA [3, 4, 5, 6, 7, 8, 9, 10, 11, 12, 13, 14, 15, 16] rfl rfl (fun H locs hP hD hS => ?_)
  have hP : va_P G.1 vwCl [(h0, .inr (0, [.int len, .ref h1, .int gi, .int pl, .int re, .int ki, .ref h2])), (h1, .inl (G.2.1, 60, .inl tx)), (h2, .inl (G.2.1, 4, .inl nu)), ((a 0), .inr (3, [.int r33.2.1, .int r33.2.2.1, .int r33.2.2.2.1, .int r33.2.2.2.2.1, .ref (a 1), .ref (a 4), .ref (a 7), .ref (a 11), .int r33.2.2.2.2.2.2.2.2.2.2.2.2.2.2.1, .ref (a 12), .ref (a 13)])), ((a 1), .inr (2, [.int 0, .ref (a 2), .ref (a 3)])), ((a 2), .inl (G.2.1, 31, .inl r33.2.2.2.2.2.1)), ((a 3), .inl (G.2.1, 31, .inl r33.2.2.2.2.2.2.1)), ((a 4), .inr (2, [.int 1, .ref (a 5), .ref (a 6)])), ((a 5), .inl (G.2.1, 31, .inl r33.2.2.2.2.2.2.2.1)), ((a 6), .inl (G.2.1, 31, .inl r33.2.2.2.2.2.2.2.2.1)), ((a 7), .inr (1, [.int r33.2.2.2.2.2.2.2.2.2.1, .ref (a 8), .ref (a 9), .ref (a 10)])), ((a 8), .inl (G.2.1, 8, .inl r33.2.2.2.2.2.2.2.2.2.2.1)), ((a 9), .inl (G.2.1, 8, .inl r33.2.2.2.2.2.2.2.2.2.2.2.1)), ((a 10), .inl (G.2.1, 8, .inl r33.2.2.2.2.2.2.2.2.2.2.2.2.1)), ((a 11), .inl (G.2.1, 31, .inl r33.2.2.2.2.2.2.2.2.2.2.2.2.2.1)), ((a 12), .inl (G.2.1, 3, .inl r33.2.2.2.2.2.2.2.2.2.2.2.2.2.2.2.1)), ((a 13), .inl (G.2.1, 3, .inl r33.2.2.2.2.2.2.2.2.2.2.2.2.2.2.2.2))] H := hP
  have hD : va_D (va_A (ordW G h0 h1 h2 len tx gi pl re ki nu ++ tabW G a tph tla tpo tlo tov torr tnv tnr tql tqk tqv tqr twr twa twc twk) s.heap.size) [(h0, .inr (0, [.int len, .ref h1, .int gi, .int pl, .int re, .int ki, .ref h2])), (h1, .inl (G.2.1, 60, .inl tx)), (h2, .inl (G.2.1, 4, .inl nu)), ((a 0), .inr (3, [.int r33.2.1, .int r33.2.2.1, .int r33.2.2.2.1, .int r33.2.2.2.2.1, .ref (a 1), .ref (a 4), .ref (a 7), .ref (a 11), .int r33.2.2.2.2.2.2.2.2.2.2.2.2.2.2.1, .ref (a 12), .ref (a 13)])), ((a 1), .inr (2, [.int 0, .ref (a 2), .ref (a 3)])), ((a 2), .inl (G.2.1, 31, .inl r33.2.2.2.2.2.1)), ((a 3), .inl (G.2.1, 31, .inl r33.2.2.2.2.2.2.1)), ((a 4), .inr (2, [.int 1, .ref (a 5), .ref (a 6)])), ((a 5), .inl (G.2.1, 31, .inl r33.2.2.2.2.2.2.2.1)), ((a 6), .inl (G.2.1, 31, .inl r33.2.2.2.2.2.2.2.2.1)), ((a 7), .inr (1, [.int r33.2.2.2.2.2.2.2.2.2.1, .ref (a 8), .ref (a 9), .ref (a 10)])), ((a 8), .inl (G.2.1, 8, .inl r33.2.2.2.2.2.2.2.2.2.2.1)), ((a 9), .inl (G.2.1, 8, .inl r33.2.2.2.2.2.2.2.2.2.2.2.1)), ((a 10), .inl (G.2.1, 8, .inl r33.2.2.2.2.2.2.2.2.2.2.2.2.1)), ((a 11), .inl (G.2.1, 31, .inl r33.2.2.2.2.2.2.2.2.2.2.2.2.2.1)), ((a 12), .inl (G.2.1, 3, .inl r33.2.2.2.2.2.2.2.2.2.2.2.2.2.2.2.1)), ((a 13), .inl (G.2.1, 3, .inl r33.2.2.2.2.2.2.2.2.2.2.2.2.2.2.2.2))] := hD
  cases hf
  exact g_iretC hx hb hr hlocks hP hD hS dX0_give_217
-- TwoShapes$Orders.giveAll(LTwoShapes$Table;)V
abbrev rmX0_giveAll : Room := { frames := 5, cells := 0, slots := 0, locals := 113 }
def fX0_giveAll_b15 : Nat → Int32 → (Nat → Int32) → Int32 → Int32 → Int32 → Int32 → (Nat → Int32) → Int32 → Int32 → Int32 → Int32 → (Nat → Int32) → (Nat → Int32) → (Nat → Int32) → (Nat → Int32) → Int32 → (Nat → Int32) → (Nat → Int32) → (Nat → Int32) → (Nat → Int32) → Int32 → (Nat → Int32) → (Nat → Int32) → Option (Int32 × (Nat → Int32) × Int32 × Int32 × Int32 × Int32 × (Nat → Int32) × Int32 × Int32 × Int32 × Int32 × (Nat → Int32) × (Nat → Int32) × (Nat → Int32) × (Nat → Int32) × Int32 × (Nat → Int32) × (Nat → Int32) × (Nat → Int32) × (Nat → Int32) × Int32 × (Nat → Int32) × (Nat → Int32))
  | 0, _, _, _, _, _, _, _, _, _, _, _, _, _, _, _, _, _, _, _, _, _, _, _ => none
  | n + 1, len, tx, gi, pl, re, ki, nu, tph, tla, tpo, tlo, tov, torr, tnv, tnr, tql, tqk, tqv, tqr, twr, twa, twc, twk => (if (60 : Int32) ≤ gi then some (len, tx, gi, pl, re, ki, nu, tph, tla, tpo, tlo, tov, torr, tnv, tnr, tql, tqk, tqv, tqr, twr, twa, twc, twk) else (if len ≤ pl then some (len, tx, gi, pl, re, ki, nu, tph, tla, tpo, tlo, tov, torr, tnv, tnr, tql, tqk, tqv, tqr, twr, twa, twc, twk) else ((fX0_readOrder pl len tx gi pl re ki nu).bind fun r3 => (if r3.1 = (-1 : Int32) then some (r3.2.1, r3.2.2.1, r3.2.2.2.1, r3.2.2.2.2.1, (1 : Int32), r3.2.2.2.2.2.2.1, r3.2.2.2.2.2.2.2, tph, tla, tpo, tlo, tov, torr, tnv, tnr, tql, tqk, tqv, tqr, twr, twa, twc, twk) else ((fX0_give r3.2.1 r3.2.2.1 r3.2.2.2.1 r3.2.2.2.2.1 r3.2.2.2.2.2.1 r3.2.2.2.2.2.2.1 r3.2.2.2.2.2.2.2 tph tla tpo tlo tov torr tnv tnr tql tqk tqv tqr twr twa twc twk).bind fun r6 => ((fX0_reasonOf r6.1).bind fun r8 => (if r8 = (0 : Int32) then fX0_giveAll_b15 n r6.2.1 r6.2.2.1 (r6.2.2.2.1 + (1 : Int32)) r3.1 r8 r6.2.2.2.2.2.2.1 r6.2.2.2.2.2.2.2.1 r6.2.2.2.2.2.2.2.2.1 r6.2.2.2.2.2.2.2.2.2.1 r6.2.2.2.2.2.2.2.2.2.2.1 r6.2.2.2.2.2.2.2.2.2.2.2.1 r6.2.2.2.2.2.2.2.2.2.2.2.2.1 r6.2.2.2.2.2.2.2.2.2.2.2.2.2.1 r6.2.2.2.2.2.2.2.2.2.2.2.2.2.2.1 r6.2.2.2.2.2.2.2.2.2.2.2.2.2.2.2.1 r6.2.2.2.2.2.2.2.2.2.2.2.2.2.2.2.2.1 r6.2.2.2.2.2.2.2.2.2.2.2.2.2.2.2.2.2.1 r6.2.2.2.2.2.2.2.2.2.2.2.2.2.2.2.2.2.2.1 r6.2.2.2.2.2.2.2.2.2.2.2.2.2.2.2.2.2.2.2.1 r6.2.2.2.2.2.2.2.2.2.2.2.2.2.2.2.2.2.2.2.2.1 r6.2.2.2.2.2.2.2.2.2.2.2.2.2.2.2.2.2.2.2.2.2.1 r6.2.2.2.2.2.2.2.2.2.2.2.2.2.2.2.2.2.2.2.2.2.2.1 r6.2.2.2.2.2.2.2.2.2.2.2.2.2.2.2.2.2.2.2.2.2.2.2 else some (r6.2.1, r6.2.2.1, r6.2.2.2.1, r6.2.2.2.2.1, r8, r6.2.2.2.2.2.2.1, r6.2.2.2.2.2.2.2.1, r6.2.2.2.2.2.2.2.2.1, r6.2.2.2.2.2.2.2.2.2.1, r6.2.2.2.2.2.2.2.2.2.2.1, r6.2.2.2.2.2.2.2.2.2.2.2.1, r6.2.2.2.2.2.2.2.2.2.2.2.2.1, r6.2.2.2.2.2.2.2.2.2.2.2.2.2.1, r6.2.2.2.2.2.2.2.2.2.2.2.2.2.2.1, r6.2.2.2.2.2.2.2.2.2.2.2.2.2.2.2.1, r6.2.2.2.2.2.2.2.2.2.2.2.2.2.2.2.2.1, r6.2.2.2.2.2.2.2.2.2.2.2.2.2.2.2.2.2.1, r6.2.2.2.2.2.2.2.2.2.2.2.2.2.2.2.2.2.2.1, r6.2.2.2.2.2.2.2.2.2.2.2.2.2.2.2.2.2.2.2.1, r6.2.2.2.2.2.2.2.2.2.2.2.2.2.2.2.2.2.2.2.2.1, r6.2.2.2.2.2.2.2.2.2.2.2.2.2.2.2.2.2.2.2.2.2.1, r6.2.2.2.2.2.2.2.2.2.2.2.2.2.2.2.2.2.2.2.2.2.2.1, r6.2.2.2.2.2.2.2.2.2.2.2.2.2.2.2.2.2.2.2.2.2.2.2))))))))
set_option maxHeartbeats 4000000 in
set_option maxRecDepth 100000 in
theorem kX0_giveAll_b15 {p : Program} {l : Launch} {e : Env} {s : State} {m : MethodId} {args : Array Value} {below : List Frame} {meth : Method} {c : Code} {G : gT} {h0 h1 h2 : Nat} {a : Nat → Nat} {w0 : va_W} (C0 : gX p s m args meth c cX0_giveAll 3 none RX0 G) :
    ∀ (n : Nat) (len : Int32) (tx : Nat → Int32) (gi : Int32) (pl : Int32) (re : Int32) (ki : Int32) (nu : Nat → Int32) (tph : Int32) (tla : Int32) (tpo : Int32) (tlo : Int32) (tov : Nat → Int32) (torr : Nat → Int32) (tnv : Nat → Int32) (tnr : Nat → Int32) (tql : Int32) (tqk : Nat → Int32) (tqv : Nat → Int32) (tqr : Nat → Int32) (twr : Nat → Int32) (twa : Int32) (twc : Nat → Int32) (twk : Nat → Int32) (u : Int32 × (Nat → Int32) × Int32 × Int32 × Int32 × Int32 × (Nat → Int32) × Int32 × Int32 × Int32 × Int32 × (Nat → Int32) × (Nat → Int32) × (Nat → Int32) × (Nat → Int32) × Int32 × (Nat → Int32) × (Nat → Int32) × (Nat → Int32) × (Nat → Int32) × Int32 × (Nat → Int32) × (Nat → Int32)), fX0_giveAll_b15 n len tx gi pl re ki nu tph tla tpo tlo tov torr tnv tnr tql tqk tqv tqr twr twa twc twk = some u → ∀ (H : Heap) (locs : List Loc), va_P G.1 vwCl [(h0, .inr (0, [.int len, .ref h1, .int gi, .int pl, .int re, .int ki, .ref h2])), (h1, .inl (G.2.1, 60, .inl tx)), (h2, .inl (G.2.1, 4, .inl nu)), ((a 0), .inr (3, [.int tph, .int tla, .int tpo, .int tlo, .ref (a 1), .ref (a 4), .ref (a 7), .ref (a 11), .int twa, .ref (a 12), .ref (a 13)])), ((a 1), .inr (2, [.int 0, .ref (a 2), .ref (a 3)])), ((a 2), .inl (G.2.1, 31, .inl tov)), ((a 3), .inl (G.2.1, 31, .inl torr)), ((a 4), .inr (2, [.int 1, .ref (a 5), .ref (a 6)])), ((a 5), .inl (G.2.1, 31, .inl tnv)), ((a 6), .inl (G.2.1, 31, .inl tnr)), ((a 7), .inr (1, [.int tql, .ref (a 8), .ref (a 9), .ref (a 10)])), ((a 8), .inl (G.2.1, 8, .inl tqk)), ((a 9), .inl (G.2.1, 8, .inl tqv)), ((a 10), .inl (G.2.1, 8, .inl tqr)), ((a 11), .inl (G.2.1, 31, .inl twr)), ((a 12), .inl (G.2.1, 3, .inl twc)), ((a 13), .inl (G.2.1, 3, .inl twk))] H → va_D (va_A w0 s.heap.size) [(h0, .inr (0, [.int len, .ref h1, .int gi, .int pl, .int re, .int ki, .ref h2])), (h1, .inl (G.2.1, 60, .inl tx)), (h2, .inl (G.2.1, 4, .inl nu)), ((a 0), .inr (3, [.int tph, .int tla, .int tpo, .int tlo, .ref (a 1), .ref (a 4), .ref (a 7), .ref (a 11), .int twa, .ref (a 12), .ref (a 13)])), ((a 1), .inr (2, [.int 0, .ref (a 2), .ref (a 3)])), ((a 2), .inl (G.2.1, 31, .inl tov)), ((a 3), .inl (G.2.1, 31, .inl torr)), ((a 4), .inr (2, [.int 1, .ref (a 5), .ref (a 6)])), ((a 5), .inl (G.2.1, 31, .inl tnv)), ((a 6), .inl (G.2.1, 31, .inl tnr)), ((a 7), .inr (1, [.int tql, .ref (a 8), .ref (a 9), .ref (a 10)])), ((a 8), .inl (G.2.1, 8, .inl tqk)), ((a 9), .inl (G.2.1, 8, .inl tqv)), ((a 10), .inl (G.2.1, 8, .inl tqr)), ((a 11), .inl (G.2.1, 31, .inl twr)), ((a 12), .inl (G.2.1, 3, .inl twc)), ((a 13), .inl (G.2.1, 3, .inl twk))] → va_S (va_A w0 s.heap.size) s.heap H locs → ∀ ls, lv_has ls 3 [(0, .ref h0), (1, .ref (a 0))] → gW p l e (headSpec wsX0_giveAll rmX0_giveAll).room s m args below meth c G w0 none (ordW G h0 h1 h2 u.1 u.2.1 u.2.2.1 u.2.2.2.1 u.2.2.2.2.1 u.2.2.2.2.2.1 u.2.2.2.2.2.2.1 ++ tabW G a u.2.2.2.2.2.2.2.1 u.2.2.2.2.2.2.2.2.1 u.2.2.2.2.2.2.2.2.2.1 u.2.2.2.2.2.2.2.2.2.2.1 u.2.2.2.2.2.2.2.2.2.2.2.1 u.2.2.2.2.2.2.2.2.2.2.2.2.1 u.2.2.2.2.2.2.2.2.2.2.2.2.2.1 u.2.2.2.2.2.2.2.2.2.2.2.2.2.2.1 u.2.2.2.2.2.2.2.2.2.2.2.2.2.2.2.1 u.2.2.2.2.2.2.2.2.2.2.2.2.2.2.2.2.1 u.2.2.2.2.2.2.2.2.2.2.2.2.2.2.2.2.2.1 u.2.2.2.2.2.2.2.2.2.2.2.2.2.2.2.2.2.2.1 u.2.2.2.2.2.2.2.2.2.2.2.2.2.2.2.2.2.2.2.1 u.2.2.2.2.2.2.2.2.2.2.2.2.2.2.2.2.2.2.2.2.1 u.2.2.2.2.2.2.2.2.2.2.2.2.2.2.2.2.2.2.2.2.2.1 u.2.2.2.2.2.2.2.2.2.2.2.2.2.2.2.2.2.2.2.2.2.2) H locs 15 ls [] := by
  obtain ⟨hx, hb, hr, hts, hown, hlocks, hml, hK⟩ := id C0
  have hA : ∀ q : Nat, s.heap.size ≤ q → va_A w0 s.heap.size q := fun q h => Or.inr h
  intro n
  induction n with
  | zero =>
    intro len tx gi pl re ki nu tph tla tpo tlo tov torr tnv tnr tql tqk tqv tqr twr twa twc twk u hf H locs hP hD hS ls hl
    have hf : (none : Option (Int32 × (Nat → Int32) × Int32 × Int32 × Int32 × Int32 × (Nat → Int32) × Int32 × Int32 × Int32 × Int32 × (Nat → Int32) × (Nat → Int32) × (Nat → Int32) × (Nat → Int32) × Int32 × (Nat → Int32) × (Nat → Int32) × (Nat → Int32) × (Nat → Int32) × Int32 × (Nat → Int32) × (Nat → Int32))) = some u := hf
    cases hf
  | succ n ih =>
    intro len tx gi pl re ki nu tph tla tpo tlo tov torr tnv tnr tql tqk tqv tqr twr twa twc twk u hf H locs hP hD hS ls hl
    rw [fX0_giveAll_b15] at hf
    refine lv_aload_n hx hb dX0_giveAll_15 rfl (lv_at hl 0 rfl) ?_
    refine va_get (D := G.1) (ci := 0) (v := .int gi) (C := RX0) (T := TX0) (N := 7) hx hb hts hX0 hown hK.1 hP 0 rfl rfl 2 (by decide) (hts _ tw_177) (fun _ h9 => h9) rfl dX0_giveAll_16 ?_
    refine lv_bipush (v := (60 : Int32)) hx hb dX0_giveAll_19 (by decide) ?_
    refine lv_icmp_ge (tgt := 91) hx hb dX0_giveAll_21 (by decide) (fun c1 => ?_) (fun c1 => ?_)
    · have hf := g_ifT c1 hf
      cases hf
      exact g_vretC hx hb hr hlocks hP hD hS dX0_giveAll_91
    · have hf := g_ifF c1 hf
      refine lv_aload_n hx hb dX0_giveAll_24 rfl (lv_at hl 0 rfl) ?_
      refine va_get (D := G.1) (ci := 0) (v := .int pl) (C := RX0) (T := TX0) (N := 7) hx hb hts hX0 hown hK.1 hP 0 rfl rfl 3 (by decide) (hts _ tw_179) (fun _ h9 => h9) rfl dX0_giveAll_25 ?_
      refine lv_aload_n hx hb dX0_giveAll_28 rfl (lv_at hl 0 rfl) ?_
      refine va_get (D := G.1) (ci := 0) (v := .int len) (C := RX0) (T := TX0) (N := 7) hx hb hts hX0 hown hK.1 hP 0 rfl rfl 0 (by decide) (hts _ tw_174) (fun _ h9 => h9) rfl dX0_giveAll_29 ?_
      refine lv_icmp_ge (tgt := 91) hx hb dX0_giveAll_32 (by decide) (fun c2 => ?_) (fun c2 => ?_)
      · have hf := g_ifT c2 hf
        cases hf
        exact g_vretC hx hb hr hlocks hP hD hS dX0_giveAll_91
      · have hf := g_ifF c2 hf
        refine lv_aload_n hx hb dX0_giveAll_35 rfl (lv_at hl 0 rfl) ?_
        refine lv_aload_n hx hb dX0_giveAll_36 rfl (lv_at hl 0 rfl) ?_
        refine va_get (D := G.1) (ci := 0) (v := .int pl) (C := RX0) (T := TX0) (N := 7) hx hb hts hX0 hown hK.1 hP 0 rfl rfl 3 (by decide) (hts _ tw_179) (fun _ h9 => h9) rfl dX0_giveAll_37 ?_
        obtain ⟨r3, e4, hf⟩ := g_bdS hf
        refine g_contC (st1 := [.int r3.1]) (g_runVC (As := [.int pl]) (rest := []) ⟨hx, hb, hml, hown, hts⟩ (qX0_readOrder l G h0 h1 h2 e4) (cwV 1 hts (TB_V TB_id tw_542 tw_544 tw_4 tw_53 tw_545) rfl rfl rfl (by decide +kernel) ⟨Nat.le_of_ble_eq_true rfl, Nat.le_of_ble_eq_true rfl⟩) hK (hP.sub [0, 1, 2] rfl) (hD.sub [0, 1, 2] (by decide) rfl) 0 rfl rfl rfl hl.1 rfl (Nat.le_of_ble_eq_true rfl) dX0_giveAll_40) rfl hP hD hS hA [0, 1, 2] rfl rfl (fun H locs hP hD hS => ?_)
        have hP : va_P G.1 vwCl [(h0, .inr (0, [.int r3.2.1, .ref h1, .int r3.2.2.2.1, .int r3.2.2.2.2.1, .int r3.2.2.2.2.2.1, .int r3.2.2.2.2.2.2.1, .ref h2])), (h1, .inl (G.2.1, 60, .inl r3.2.2.1)), (h2, .inl (G.2.1, 4, .inl r3.2.2.2.2.2.2.2)), ((a 0), .inr (3, [.int tph, .int tla, .int tpo, .int tlo, .ref (a 1), .ref (a 4), .ref (a 7), .ref (a 11), .int twa, .ref (a 12), .ref (a 13)])), ((a 1), .inr (2, [.int 0, .ref (a 2), .ref (a 3)])), ((a 2), .inl (G.2.1, 31, .inl tov)), ((a 3), .inl (G.2.1, 31, .inl torr)), ((a 4), .inr (2, [.int 1, .ref (a 5), .ref (a 6)])), ((a 5), .inl (G.2.1, 31, .inl tnv)), ((a 6), .inl (G.2.1, 31, .inl tnr)), ((a 7), .inr (1, [.int tql, .ref (a 8), .ref (a 9), .ref (a 10)])), ((a 8), .inl (G.2.1, 8, .inl tqk)), ((a 9), .inl (G.2.1, 8, .inl tqv)), ((a 10), .inl (G.2.1, 8, .inl tqr)), ((a 11), .inl (G.2.1, 31, .inl twr)), ((a 12), .inl (G.2.1, 3, .inl twc)), ((a 13), .inl (G.2.1, 3, .inl twk))] H := hP
        have hD : va_D (va_A w0 s.heap.size) [(h0, .inr (0, [.int r3.2.1, .ref h1, .int r3.2.2.2.1, .int r3.2.2.2.2.1, .int r3.2.2.2.2.2.1, .int r3.2.2.2.2.2.2.1, .ref h2])), (h1, .inl (G.2.1, 60, .inl r3.2.2.1)), (h2, .inl (G.2.1, 4, .inl r3.2.2.2.2.2.2.2)), ((a 0), .inr (3, [.int tph, .int tla, .int tpo, .int tlo, .ref (a 1), .ref (a 4), .ref (a 7), .ref (a 11), .int twa, .ref (a 12), .ref (a 13)])), ((a 1), .inr (2, [.int 0, .ref (a 2), .ref (a 3)])), ((a 2), .inl (G.2.1, 31, .inl tov)), ((a 3), .inl (G.2.1, 31, .inl torr)), ((a 4), .inr (2, [.int 1, .ref (a 5), .ref (a 6)])), ((a 5), .inl (G.2.1, 31, .inl tnv)), ((a 6), .inl (G.2.1, 31, .inl tnr)), ((a 7), .inr (1, [.int tql, .ref (a 8), .ref (a 9), .ref (a 10)])), ((a 8), .inl (G.2.1, 8, .inl tqk)), ((a 9), .inl (G.2.1, 8, .inl tqv)), ((a 10), .inl (G.2.1, 8, .inl tqr)), ((a 11), .inl (G.2.1, 31, .inl twr)), ((a 12), .inl (G.2.1, 3, .inl twc)), ((a 13), .inl (G.2.1, 3, .inl twk))] := hD
        refine lv_istore_n (lv' := [(2, .int r3.1), (0, .ref h0), (1, .ref (a 0))]) hx hb dX0_giveAll_43 rfl hl (by decide) rfl (fun ls hl => ?_)
        refine lv_aload_n hx hb dX0_giveAll_44 rfl (lv_at hl 1 rfl) ?_
        refine lv_iload_n hx hb dX0_giveAll_45 rfl (lv_at hl 0 rfl) ?_
        refine lv_iconst (v := (-1 : Int32)) hx hb dX0_giveAll_46 (by decide) ?_
        refine lv_icmp_ne (tgt := 54) hx hb dX0_giveAll_47 (by decide) (fun c5 => ?_) (fun c5 => ?_)
        · have hf := g_ifF c5 hf
          refine lv_aload_n hx hb dX0_giveAll_54 rfl (lv_at hl 1 rfl) ?_
          refine lv_aload_n hx hb dX0_giveAll_55 rfl (lv_at hl 2 rfl) ?_
          obtain ⟨r6, e7, hf⟩ := g_bdS hf
          refine g_contC (st1 := [.int r6.1, .ref h0]) (g_runVC (As := [.ref (a 0)]) (rest := [.ref h0]) ⟨hx, hb, hml, hown, hts⟩ (qX0_give l G h0 h1 h2 a e7) (cwV 1 hts (TB_V TB_id tw_562 tw_564 tw_8 tw_53 tw_565) rfl rfl rfl (by decide +kernel) ⟨Nat.le_of_ble_eq_true rfl, Nat.le_of_ble_eq_true rfl⟩) hK (hP.sub [0, 1, 2, 3, 4, 5, 6, 7, 8, 9, 10, 11, 12, 13, 14, 15, 16] rfl) (hD.sub [0, 1, 2, 3, 4, 5, 6, 7, 8, 9, 10, 11, 12, 13, 14, 15, 16] (by decide) rfl) 0 rfl rfl rfl hl.1 rfl (Nat.le_of_ble_eq_true rfl) dX0_giveAll_56) rfl hP hD hS hA [0, 1, 2, 3, 4, 5, 6, 7, 8, 9, 10, 11, 12, 13, 14, 15, 16] rfl rfl (fun H locs hP hD hS => ?_)
          have hP : va_P G.1 vwCl [(h0, .inr (0, [.int r6.2.1, .ref h1, .int r6.2.2.2.1, .int r6.2.2.2.2.1, .int r6.2.2.2.2.2.1, .int r6.2.2.2.2.2.2.1, .ref h2])), (h1, .inl (G.2.1, 60, .inl r6.2.2.1)), (h2, .inl (G.2.1, 4, .inl r6.2.2.2.2.2.2.2.1)), ((a 0), .inr (3, [.int r6.2.2.2.2.2.2.2.2.1, .int r6.2.2.2.2.2.2.2.2.2.1, .int r6.2.2.2.2.2.2.2.2.2.2.1, .int r6.2.2.2.2.2.2.2.2.2.2.2.1, .ref (a 1), .ref (a 4), .ref (a 7), .ref (a 11), .int r6.2.2.2.2.2.2.2.2.2.2.2.2.2.2.2.2.2.2.2.2.2.1, .ref (a 12), .ref (a 13)])), ((a 1), .inr (2, [.int 0, .ref (a 2), .ref (a 3)])), ((a 2), .inl (G.2.1, 31, .inl r6.2.2.2.2.2.2.2.2.2.2.2.2.1)), ((a 3), .inl (G.2.1, 31, .inl r6.2.2.2.2.2.2.2.2.2.2.2.2.2.1)), ((a 4), .inr (2, [.int 1, .ref (a 5), .ref (a 6)])), ((a 5), .inl (G.2.1, 31, .inl r6.2.2.2.2.2.2.2.2.2.2.2.2.2.2.1)), ((a 6), .inl (G.2.1, 31, .inl r6.2.2.2.2.2.2.2.2.2.2.2.2.2.2.2.1)), ((a 7), .inr (1, [.int r6.2.2.2.2.2.2.2.2.2.2.2.2.2.2.2.2.1, .ref (a 8), .ref (a 9), .ref (a 10)])), ((a 8), .inl (G.2.1, 8, .inl r6.2.2.2.2.2.2.2.2.2.2.2.2.2.2.2.2.2.1)), ((a 9), .inl (G.2.1, 8, .inl r6.2.2.2.2.2.2.2.2.2.2.2.2.2.2.2.2.2.2.1)), ((a 10), .inl (G.2.1, 8, .inl r6.2.2.2.2.2.2.2.2.2.2.2.2.2.2.2.2.2.2.2.1)), ((a 11), .inl (G.2.1, 31, .inl r6.2.2.2.2.2.2.2.2.2.2.2.2.2.2.2.2.2.2.2.2.1)), ((a 12), .inl (G.2.1, 3, .inl r6.2.2.2.2.2.2.2.2.2.2.2.2.2.2.2.2.2.2.2.2.2.2.1)), ((a 13), .inl (G.2.1, 3, .inl r6.2.2.2.2.2.2.2.2.2.2.2.2.2.2.2.2.2.2.2.2.2.2.2))] H := hP
          have hD : va_D (va_A w0 s.heap.size) [(h0, .inr (0, [.int r6.2.1, .ref h1, .int r6.2.2.2.1, .int r6.2.2.2.2.1, .int r6.2.2.2.2.2.1, .int r6.2.2.2.2.2.2.1, .ref h2])), (h1, .inl (G.2.1, 60, .inl r6.2.2.1)), (h2, .inl (G.2.1, 4, .inl r6.2.2.2.2.2.2.2.1)), ((a 0), .inr (3, [.int r6.2.2.2.2.2.2.2.2.1, .int r6.2.2.2.2.2.2.2.2.2.1, .int r6.2.2.2.2.2.2.2.2.2.2.1, .int r6.2.2.2.2.2.2.2.2.2.2.2.1, .ref (a 1), .ref (a 4), .ref (a 7), .ref (a 11), .int r6.2.2.2.2.2.2.2.2.2.2.2.2.2.2.2.2.2.2.2.2.2.1, .ref (a 12), .ref (a 13)])), ((a 1), .inr (2, [.int 0, .ref (a 2), .ref (a 3)])), ((a 2), .inl (G.2.1, 31, .inl r6.2.2.2.2.2.2.2.2.2.2.2.2.1)), ((a 3), .inl (G.2.1, 31, .inl r6.2.2.2.2.2.2.2.2.2.2.2.2.2.1)), ((a 4), .inr (2, [.int 1, .ref (a 5), .ref (a 6)])), ((a 5), .inl (G.2.1, 31, .inl r6.2.2.2.2.2.2.2.2.2.2.2.2.2.2.1)), ((a 6), .inl (G.2.1, 31, .inl r6.2.2.2.2.2.2.2.2.2.2.2.2.2.2.2.1)), ((a 7), .inr (1, [.int r6.2.2.2.2.2.2.2.2.2.2.2.2.2.2.2.2.1, .ref (a 8), .ref (a 9), .ref (a 10)])), ((a 8), .inl (G.2.1, 8, .inl r6.2.2.2.2.2.2.2.2.2.2.2.2.2.2.2.2.2.1)), ((a 9), .inl (G.2.1, 8, .inl r6.2.2.2.2.2.2.2.2.2.2.2.2.2.2.2.2.2.2.1)), ((a 10), .inl (G.2.1, 8, .inl r6.2.2.2.2.2.2.2.2.2.2.2.2.2.2.2.2.2.2.2.1)), ((a 11), .inl (G.2.1, 31, .inl r6.2.2.2.2.2.2.2.2.2.2.2.2.2.2.2.2.2.2.2.2.1)), ((a 12), .inl (G.2.1, 3, .inl r6.2.2.2.2.2.2.2.2.2.2.2.2.2.2.2.2.2.2.2.2.2.2.1)), ((a 13), .inl (G.2.1, 3, .inl r6.2.2.2.2.2.2.2.2.2.2.2.2.2.2.2.2.2.2.2.2.2.2.2))] := hD
          obtain ⟨r8, e9, hf⟩ := g_bdS hf
          refine g_contR (st1 := [.int r8, .ref h0]) (g_runSR (As := [.int r6.1]) (rest := [.ref h0]) ⟨hx, hb, hml, hown, hts⟩ (qX0_reasonOf l G e9) (va_cwS 1 hts (TB_S TB_id tw_574 tw_575 tw_53 tw_576) rfl rfl rfl (by decide +kernel) ⟨Nat.le_of_ble_eq_true rfl, Nat.le_of_ble_eq_true rfl⟩) hK (hP.sub [] rfl) rfl hl.1 rfl (Nat.le_of_ble_eq_true rfl) dX0_giveAll_59) rfl ?_
          refine va_put (D := G.1) (ci := 0) (v := .int r8) (ty := .int) (C := RX0) (T := TX0) (N := 7) hx hb hts hX0 tyX0 tyX0_ok nmX0 hown hK.1 hP hD hS 0 rfl rfl 4 (by decide) (hts _ tw_181) (fun _ h9 => h9) rfl (by decide +kernel) rfl rfl (Nat.le_of_ble_eq_true rfl) dX0_giveAll_62 (fun H locs hP hD hS => ?_)
          have hP : va_P G.1 vwCl [(h0, .inr (0, [.int r6.2.1, .ref h1, .int r6.2.2.2.1, .int r6.2.2.2.2.1, .int r8, .int r6.2.2.2.2.2.2.1, .ref h2])), (h1, .inl (G.2.1, 60, .inl r6.2.2.1)), (h2, .inl (G.2.1, 4, .inl r6.2.2.2.2.2.2.2.1)), ((a 0), .inr (3, [.int r6.2.2.2.2.2.2.2.2.1, .int r6.2.2.2.2.2.2.2.2.2.1, .int r6.2.2.2.2.2.2.2.2.2.2.1, .int r6.2.2.2.2.2.2.2.2.2.2.2.1, .ref (a 1), .ref (a 4), .ref (a 7), .ref (a 11), .int r6.2.2.2.2.2.2.2.2.2.2.2.2.2.2.2.2.2.2.2.2.2.1, .ref (a 12), .ref (a 13)])), ((a 1), .inr (2, [.int 0, .ref (a 2), .ref (a 3)])), ((a 2), .inl (G.2.1, 31, .inl r6.2.2.2.2.2.2.2.2.2.2.2.2.1)), ((a 3), .inl (G.2.1, 31, .inl r6.2.2.2.2.2.2.2.2.2.2.2.2.2.1)), ((a 4), .inr (2, [.int 1, .ref (a 5), .ref (a 6)])), ((a 5), .inl (G.2.1, 31, .inl r6.2.2.2.2.2.2.2.2.2.2.2.2.2.2.1)), ((a 6), .inl (G.2.1, 31, .inl r6.2.2.2.2.2.2.2.2.2.2.2.2.2.2.2.1)), ((a 7), .inr (1, [.int r6.2.2.2.2.2.2.2.2.2.2.2.2.2.2.2.2.1, .ref (a 8), .ref (a 9), .ref (a 10)])), ((a 8), .inl (G.2.1, 8, .inl r6.2.2.2.2.2.2.2.2.2.2.2.2.2.2.2.2.2.1)), ((a 9), .inl (G.2.1, 8, .inl r6.2.2.2.2.2.2.2.2.2.2.2.2.2.2.2.2.2.2.1)), ((a 10), .inl (G.2.1, 8, .inl r6.2.2.2.2.2.2.2.2.2.2.2.2.2.2.2.2.2.2.2.1)), ((a 11), .inl (G.2.1, 31, .inl r6.2.2.2.2.2.2.2.2.2.2.2.2.2.2.2.2.2.2.2.2.1)), ((a 12), .inl (G.2.1, 3, .inl r6.2.2.2.2.2.2.2.2.2.2.2.2.2.2.2.2.2.2.2.2.2.2.1)), ((a 13), .inl (G.2.1, 3, .inl r6.2.2.2.2.2.2.2.2.2.2.2.2.2.2.2.2.2.2.2.2.2.2.2))] H := hP
          have hD : va_D (va_A w0 s.heap.size) [(h0, .inr (0, [.int r6.2.1, .ref h1, .int r6.2.2.2.1, .int r6.2.2.2.2.1, .int r8, .int r6.2.2.2.2.2.2.1, .ref h2])), (h1, .inl (G.2.1, 60, .inl r6.2.2.1)), (h2, .inl (G.2.1, 4, .inl r6.2.2.2.2.2.2.2.1)), ((a 0), .inr (3, [.int r6.2.2.2.2.2.2.2.2.1, .int r6.2.2.2.2.2.2.2.2.2.1, .int r6.2.2.2.2.2.2.2.2.2.2.1, .int r6.2.2.2.2.2.2.2.2.2.2.2.1, .ref (a 1), .ref (a 4), .ref (a 7), .ref (a 11), .int r6.2.2.2.2.2.2.2.2.2.2.2.2.2.2.2.2.2.2.2.2.2.1, .ref (a 12), .ref (a 13)])), ((a 1), .inr (2, [.int 0, .ref (a 2), .ref (a 3)])), ((a 2), .inl (G.2.1, 31, .inl r6.2.2.2.2.2.2.2.2.2.2.2.2.1)), ((a 3), .inl (G.2.1, 31, .inl r6.2.2.2.2.2.2.2.2.2.2.2.2.2.1)), ((a 4), .inr (2, [.int 1, .ref (a 5), .ref (a 6)])), ((a 5), .inl (G.2.1, 31, .inl r6.2.2.2.2.2.2.2.2.2.2.2.2.2.2.1)), ((a 6), .inl (G.2.1, 31, .inl r6.2.2.2.2.2.2.2.2.2.2.2.2.2.2.2.1)), ((a 7), .inr (1, [.int r6.2.2.2.2.2.2.2.2.2.2.2.2.2.2.2.2.1, .ref (a 8), .ref (a 9), .ref (a 10)])), ((a 8), .inl (G.2.1, 8, .inl r6.2.2.2.2.2.2.2.2.2.2.2.2.2.2.2.2.2.1)), ((a 9), .inl (G.2.1, 8, .inl r6.2.2.2.2.2.2.2.2.2.2.2.2.2.2.2.2.2.2.1)), ((a 10), .inl (G.2.1, 8, .inl r6.2.2.2.2.2.2.2.2.2.2.2.2.2.2.2.2.2.2.2.1)), ((a 11), .inl (G.2.1, 31, .inl r6.2.2.2.2.2.2.2.2.2.2.2.2.2.2.2.2.2.2.2.2.1)), ((a 12), .inl (G.2.1, 3, .inl r6.2.2.2.2.2.2.2.2.2.2.2.2.2.2.2.2.2.2.2.2.2.2.1)), ((a 13), .inl (G.2.1, 3, .inl r6.2.2.2.2.2.2.2.2.2.2.2.2.2.2.2.2.2.2.2.2.2.2.2))] := hD
          refine lv_aload_n hx hb dX0_giveAll_65 rfl (lv_at hl 1 rfl) ?_
          refine va_get (D := G.1) (ci := 0) (v := .int r8) (C := RX0) (T := TX0) (N := 7) hx hb hts hX0 hown hK.1 hP 0 rfl rfl 4 (by decide) (hts _ tw_181) (fun _ h9 => h9) rfl dX0_giveAll_66 ?_
          refine lv_if_eq (tgt := 73) hx hb dX0_giveAll_69 (by decide) (fun c10 => ?_) (fun c10 => ?_)
          · have hf := g_ifT c10 hf
            refine lv_aload_n hx hb dX0_giveAll_73 rfl (lv_at hl 1 rfl) ?_
            refine lv_dup hx hb dX0_giveAll_74 rfl ?_
            refine va_get (D := G.1) (ci := 0) (v := .int r6.2.2.2.1) (C := RX0) (T := TX0) (N := 7) hx hb hts hX0 hown hK.1 hP 0 rfl rfl 2 (by decide) (hts _ tw_177) (fun _ h9 => h9) rfl dX0_giveAll_75 ?_
            refine lv_iconst (v := (1 : Int32)) hx hb dX0_giveAll_78 (by decide) ?_
            refine lv_iadd hx hb dX0_giveAll_79 ?_
            refine va_put (D := G.1) (ci := 0) (v := .int (r6.2.2.2.1 + (1 : Int32))) (ty := .int) (C := RX0) (T := TX0) (N := 7) hx hb hts hX0 tyX0 tyX0_ok nmX0 hown hK.1 hP hD hS 0 rfl rfl 2 (by decide) (hts _ tw_177) (fun _ h9 => h9) rfl (by decide +kernel) rfl rfl (Nat.le_of_ble_eq_true rfl) dX0_giveAll_80 (fun H locs hP hD hS => ?_)
            have hP : va_P G.1 vwCl [(h0, .inr (0, [.int r6.2.1, .ref h1, .int (r6.2.2.2.1 + (1 : Int32)), .int r6.2.2.2.2.1, .int r8, .int r6.2.2.2.2.2.2.1, .ref h2])), (h1, .inl (G.2.1, 60, .inl r6.2.2.1)), (h2, .inl (G.2.1, 4, .inl r6.2.2.2.2.2.2.2.1)), ((a 0), .inr (3, [.int r6.2.2.2.2.2.2.2.2.1, .int r6.2.2.2.2.2.2.2.2.2.1, .int r6.2.2.2.2.2.2.2.2.2.2.1, .int r6.2.2.2.2.2.2.2.2.2.2.2.1, .ref (a 1), .ref (a 4), .ref (a 7), .ref (a 11), .int r6.2.2.2.2.2.2.2.2.2.2.2.2.2.2.2.2.2.2.2.2.2.1, .ref (a 12), .ref (a 13)])), ((a 1), .inr (2, [.int 0, .ref (a 2), .ref (a 3)])), ((a 2), .inl (G.2.1, 31, .inl r6.2.2.2.2.2.2.2.2.2.2.2.2.1)), ((a 3), .inl (G.2.1, 31, .inl r6.2.2.2.2.2.2.2.2.2.2.2.2.2.1)), ((a 4), .inr (2, [.int 1, .ref (a 5), .ref (a 6)])), ((a 5), .inl (G.2.1, 31, .inl r6.2.2.2.2.2.2.2.2.2.2.2.2.2.2.1)), ((a 6), .inl (G.2.1, 31, .inl r6.2.2.2.2.2.2.2.2.2.2.2.2.2.2.2.1)), ((a 7), .inr (1, [.int r6.2.2.2.2.2.2.2.2.2.2.2.2.2.2.2.2.1, .ref (a 8), .ref (a 9), .ref (a 10)])), ((a 8), .inl (G.2.1, 8, .inl r6.2.2.2.2.2.2.2.2.2.2.2.2.2.2.2.2.2.1)), ((a 9), .inl (G.2.1, 8, .inl r6.2.2.2.2.2.2.2.2.2.2.2.2.2.2.2.2.2.2.1)), ((a 10), .inl (G.2.1, 8, .inl r6.2.2.2.2.2.2.2.2.2.2.2.2.2.2.2.2.2.2.2.1)), ((a 11), .inl (G.2.1, 31, .inl r6.2.2.2.2.2.2.2.2.2.2.2.2.2.2.2.2.2.2.2.2.1)), ((a 12), .inl (G.2.1, 3, .inl r6.2.2.2.2.2.2.2.2.2.2.2.2.2.2.2.2.2.2.2.2.2.2.1)), ((a 13), .inl (G.2.1, 3, .inl r6.2.2.2.2.2.2.2.2.2.2.2.2.2.2.2.2.2.2.2.2.2.2.2))] H := hP
            have hD : va_D (va_A w0 s.heap.size) [(h0, .inr (0, [.int r6.2.1, .ref h1, .int (r6.2.2.2.1 + (1 : Int32)), .int r6.2.2.2.2.1, .int r8, .int r6.2.2.2.2.2.2.1, .ref h2])), (h1, .inl (G.2.1, 60, .inl r6.2.2.1)), (h2, .inl (G.2.1, 4, .inl r6.2.2.2.2.2.2.2.1)), ((a 0), .inr (3, [.int r6.2.2.2.2.2.2.2.2.1, .int r6.2.2.2.2.2.2.2.2.2.1, .int r6.2.2.2.2.2.2.2.2.2.2.1, .int r6.2.2.2.2.2.2.2.2.2.2.2.1, .ref (a 1), .ref (a 4), .ref (a 7), .ref (a 11), .int r6.2.2.2.2.2.2.2.2.2.2.2.2.2.2.2.2.2.2.2.2.2.1, .ref (a 12), .ref (a 13)])), ((a 1), .inr (2, [.int 0, .ref (a 2), .ref (a 3)])), ((a 2), .inl (G.2.1, 31, .inl r6.2.2.2.2.2.2.2.2.2.2.2.2.1)), ((a 3), .inl (G.2.1, 31, .inl r6.2.2.2.2.2.2.2.2.2.2.2.2.2.1)), ((a 4), .inr (2, [.int 1, .ref (a 5), .ref (a 6)])), ((a 5), .inl (G.2.1, 31, .inl r6.2.2.2.2.2.2.2.2.2.2.2.2.2.2.1)), ((a 6), .inl (G.2.1, 31, .inl r6.2.2.2.2.2.2.2.2.2.2.2.2.2.2.2.1)), ((a 7), .inr (1, [.int r6.2.2.2.2.2.2.2.2.2.2.2.2.2.2.2.2.1, .ref (a 8), .ref (a 9), .ref (a 10)])), ((a 8), .inl (G.2.1, 8, .inl r6.2.2.2.2.2.2.2.2.2.2.2.2.2.2.2.2.2.1)), ((a 9), .inl (G.2.1, 8, .inl r6.2.2.2.2.2.2.2.2.2.2.2.2.2.2.2.2.2.2.1)), ((a 10), .inl (G.2.1, 8, .inl r6.2.2.2.2.2.2.2.2.2.2.2.2.2.2.2.2.2.2.2.1)), ((a 11), .inl (G.2.1, 31, .inl r6.2.2.2.2.2.2.2.2.2.2.2.2.2.2.2.2.2.2.2.2.1)), ((a 12), .inl (G.2.1, 3, .inl r6.2.2.2.2.2.2.2.2.2.2.2.2.2.2.2.2.2.2.2.2.2.2.1)), ((a 13), .inl (G.2.1, 3, .inl r6.2.2.2.2.2.2.2.2.2.2.2.2.2.2.2.2.2.2.2.2.2.2.2))] := hD
            refine lv_aload_n hx hb dX0_giveAll_83 rfl (lv_at hl 1 rfl) ?_
            refine lv_iload_n hx hb dX0_giveAll_84 rfl (lv_at hl 0 rfl) ?_
            refine va_put (D := G.1) (ci := 0) (v := .int r3.1) (ty := .int) (C := RX0) (T := TX0) (N := 7) hx hb hts hX0 tyX0 tyX0_ok nmX0 hown hK.1 hP hD hS 0 rfl rfl 3 (by decide) (hts _ tw_179) (fun _ h9 => h9) rfl (by decide +kernel) rfl rfl (Nat.le_of_ble_eq_true rfl) dX0_giveAll_85 (fun H locs hP hD hS => ?_)
            have hP : va_P G.1 vwCl [(h0, .inr (0, [.int r6.2.1, .ref h1, .int (r6.2.2.2.1 + (1 : Int32)), .int r3.1, .int r8, .int r6.2.2.2.2.2.2.1, .ref h2])), (h1, .inl (G.2.1, 60, .inl r6.2.2.1)), (h2, .inl (G.2.1, 4, .inl r6.2.2.2.2.2.2.2.1)), ((a 0), .inr (3, [.int r6.2.2.2.2.2.2.2.2.1, .int r6.2.2.2.2.2.2.2.2.2.1, .int r6.2.2.2.2.2.2.2.2.2.2.1, .int r6.2.2.2.2.2.2.2.2.2.2.2.1, .ref (a 1), .ref (a 4), .ref (a 7), .ref (a 11), .int r6.2.2.2.2.2.2.2.2.2.2.2.2.2.2.2.2.2.2.2.2.2.1, .ref (a 12), .ref (a 13)])), ((a 1), .inr (2, [.int 0, .ref (a 2), .ref (a 3)])), ((a 2), .inl (G.2.1, 31, .inl r6.2.2.2.2.2.2.2.2.2.2.2.2.1)), ((a 3), .inl (G.2.1, 31, .inl r6.2.2.2.2.2.2.2.2.2.2.2.2.2.1)), ((a 4), .inr (2, [.int 1, .ref (a 5), .ref (a 6)])), ((a 5), .inl (G.2.1, 31, .inl r6.2.2.2.2.2.2.2.2.2.2.2.2.2.2.1)), ((a 6), .inl (G.2.1, 31, .inl r6.2.2.2.2.2.2.2.2.2.2.2.2.2.2.2.1)), ((a 7), .inr (1, [.int r6.2.2.2.2.2.2.2.2.2.2.2.2.2.2.2.2.1, .ref (a 8), .ref (a 9), .ref (a 10)])), ((a 8), .inl (G.2.1, 8, .inl r6.2.2.2.2.2.2.2.2.2.2.2.2.2.2.2.2.2.1)), ((a 9), .inl (G.2.1, 8, .inl r6.2.2.2.2.2.2.2.2.2.2.2.2.2.2.2.2.2.2.1)), ((a 10), .inl (G.2.1, 8, .inl r6.2.2.2.2.2.2.2.2.2.2.2.2.2.2.2.2.2.2.2.1)), ((a 11), .inl (G.2.1, 31, .inl r6.2.2.2.2.2.2.2.2.2.2.2.2.2.2.2.2.2.2.2.2.1)), ((a 12), .inl (G.2.1, 3, .inl r6.2.2.2.2.2.2.2.2.2.2.2.2.2.2.2.2.2.2.2.2.2.2.1)), ((a 13), .inl (G.2.1, 3, .inl r6.2.2.2.2.2.2.2.2.2.2.2.2.2.2.2.2.2.2.2.2.2.2.2))] H := hP
            have hD : va_D (va_A w0 s.heap.size) [(h0, .inr (0, [.int r6.2.1, .ref h1, .int (r6.2.2.2.1 + (1 : Int32)), .int r3.1, .int r8, .int r6.2.2.2.2.2.2.1, .ref h2])), (h1, .inl (G.2.1, 60, .inl r6.2.2.1)), (h2, .inl (G.2.1, 4, .inl r6.2.2.2.2.2.2.2.1)), ((a 0), .inr (3, [.int r6.2.2.2.2.2.2.2.2.1, .int r6.2.2.2.2.2.2.2.2.2.1, .int r6.2.2.2.2.2.2.2.2.2.2.1, .int r6.2.2.2.2.2.2.2.2.2.2.2.1, .ref (a 1), .ref (a 4), .ref (a 7), .ref (a 11), .int r6.2.2.2.2.2.2.2.2.2.2.2.2.2.2.2.2.2.2.2.2.2.1, .ref (a 12), .ref (a 13)])), ((a 1), .inr (2, [.int 0, .ref (a 2), .ref (a 3)])), ((a 2), .inl (G.2.1, 31, .inl r6.2.2.2.2.2.2.2.2.2.2.2.2.1)), ((a 3), .inl (G.2.1, 31, .inl r6.2.2.2.2.2.2.2.2.2.2.2.2.2.1)), ((a 4), .inr (2, [.int 1, .ref (a 5), .ref (a 6)])), ((a 5), .inl (G.2.1, 31, .inl r6.2.2.2.2.2.2.2.2.2.2.2.2.2.2.1)), ((a 6), .inl (G.2.1, 31, .inl r6.2.2.2.2.2.2.2.2.2.2.2.2.2.2.2.1)), ((a 7), .inr (1, [.int r6.2.2.2.2.2.2.2.2.2.2.2.2.2.2.2.2.1, .ref (a 8), .ref (a 9), .ref (a 10)])), ((a 8), .inl (G.2.1, 8, .inl r6.2.2.2.2.2.2.2.2.2.2.2.2.2.2.2.2.2.1)), ((a 9), .inl (G.2.1, 8, .inl r6.2.2.2.2.2.2.2.2.2.2.2.2.2.2.2.2.2.2.1)), ((a 10), .inl (G.2.1, 8, .inl r6.2.2.2.2.2.2.2.2.2.2.2.2.2.2.2.2.2.2.2.1)), ((a 11), .inl (G.2.1, 31, .inl r6.2.2.2.2.2.2.2.2.2.2.2.2.2.2.2.2.2.2.2.2.1)), ((a 12), .inl (G.2.1, 3, .inl r6.2.2.2.2.2.2.2.2.2.2.2.2.2.2.2.2.2.2.2.2.2.2.1)), ((a 13), .inl (G.2.1, 3, .inl r6.2.2.2.2.2.2.2.2.2.2.2.2.2.2.2.2.2.2.2.2.2.2.2))] := hD
            refine lv_goto (tgt := 15) hx hb dX0_giveAll_88 (by decide) ?_
            exact ih _ _ _ _ _ _ _ _ _ _ _ _ _ _ _ _ _ _ _ _ _ _ _ _ hf _ _ hP hD hS ls (lv_sub hl [1, 2] rfl)
          · have hf := g_ifF c10 hf
            cases hf
            exact g_vretC hx hb hr hlocks hP hD hS dX0_giveAll_72
        · have hf := g_ifT c5 hf
          refine lv_iconst (v := (1 : Int32)) hx hb dX0_giveAll_50 (by decide) ?_
          refine lv_goto (tgt := 62) hx hb dX0_giveAll_51 (by decide) ?_
          refine va_put (D := G.1) (ci := 0) (v := .int (1 : Int32)) (ty := .int) (C := RX0) (T := TX0) (N := 7) hx hb hts hX0 tyX0 tyX0_ok nmX0 hown hK.1 hP hD hS 0 rfl rfl 4 (by decide) (hts _ tw_181) (fun _ h9 => h9) rfl (by decide +kernel) rfl rfl (Nat.le_of_ble_eq_true rfl) dX0_giveAll_62 (fun H locs hP hD hS => ?_)
          have hP : va_P G.1 vwCl [(h0, .inr (0, [.int r3.2.1, .ref h1, .int r3.2.2.2.1, .int r3.2.2.2.2.1, .int (1 : Int32), .int r3.2.2.2.2.2.2.1, .ref h2])), (h1, .inl (G.2.1, 60, .inl r3.2.2.1)), (h2, .inl (G.2.1, 4, .inl r3.2.2.2.2.2.2.2)), ((a 0), .inr (3, [.int tph, .int tla, .int tpo, .int tlo, .ref (a 1), .ref (a 4), .ref (a 7), .ref (a 11), .int twa, .ref (a 12), .ref (a 13)])), ((a 1), .inr (2, [.int 0, .ref (a 2), .ref (a 3)])), ((a 2), .inl (G.2.1, 31, .inl tov)), ((a 3), .inl (G.2.1, 31, .inl torr)), ((a 4), .inr (2, [.int 1, .ref (a 5), .ref (a 6)])), ((a 5), .inl (G.2.1, 31, .inl tnv)), ((a 6), .inl (G.2.1, 31, .inl tnr)), ((a 7), .inr (1, [.int tql, .ref (a 8), .ref (a 9), .ref (a 10)])), ((a 8), .inl (G.2.1, 8, .inl tqk)), ((a 9), .inl (G.2.1, 8, .inl tqv)), ((a 10), .inl (G.2.1, 8, .inl tqr)), ((a 11), .inl (G.2.1, 31, .inl twr)), ((a 12), .inl (G.2.1, 3, .inl twc)), ((a 13), .inl (G.2.1, 3, .inl twk))] H := hP
          have hD : va_D (va_A w0 s.heap.size) [(h0, .inr (0, [.int r3.2.1, .ref h1, .int r3.2.2.2.1, .int r3.2.2.2.2.1, .int (1 : Int32), .int r3.2.2.2.2.2.2.1, .ref h2])), (h1, .inl (G.2.1, 60, .inl r3.2.2.1)), (h2, .inl (G.2.1, 4, .inl r3.2.2.2.2.2.2.2)), ((a 0), .inr (3, [.int tph, .int tla, .int tpo, .int tlo, .ref (a 1), .ref (a 4), .ref (a 7), .ref (a 11), .int twa, .ref (a 12), .ref (a 13)])), ((a 1), .inr (2, [.int 0, .ref (a 2), .ref (a 3)])), ((a 2), .inl (G.2.1, 31, .inl tov)), ((a 3), .inl (G.2.1, 31, .inl torr)), ((a 4), .inr (2, [.int 1, .ref (a 5), .ref (a 6)])), ((a 5), .inl (G.2.1, 31, .inl tnv)), ((a 6), .inl (G.2.1, 31, .inl tnr)), ((a 7), .inr (1, [.int tql, .ref (a 8), .ref (a 9), .ref (a 10)])), ((a 8), .inl (G.2.1, 8, .inl tqk)), ((a 9), .inl (G.2.1, 8, .inl tqv)), ((a 10), .inl (G.2.1, 8, .inl tqr)), ((a 11), .inl (G.2.1, 31, .inl twr)), ((a 12), .inl (G.2.1, 3, .inl twc)), ((a 13), .inl (G.2.1, 3, .inl twk))] := hD
          refine lv_aload_n hx hb dX0_giveAll_65 rfl (lv_at hl 1 rfl) ?_
          refine va_get (D := G.1) (ci := 0) (v := .int (1 : Int32)) (C := RX0) (T := TX0) (N := 7) hx hb hts hX0 hown hK.1 hP 0 rfl rfl 4 (by decide) (hts _ tw_181) (fun _ h9 => h9) rfl dX0_giveAll_66 ?_
          refine lv_if_eq (tgt := 73) hx hb dX0_giveAll_69 (by decide) (fun c_ => absurd c_ (by decide)) (fun _ => ?_)
          cases hf
          exact g_vretC hx hb hr hlocks hP hD hS dX0_giveAll_72
def fX0_giveAll (len : Int32) (tx : Nat → Int32) (gi : Int32) (pl : Int32) (re : Int32) (ki : Int32) (nu : Nat → Int32) (tph : Int32) (tla : Int32) (tpo : Int32) (tlo : Int32) (tov : Nat → Int32) (torr : Nat → Int32) (tnv : Nat → Int32) (tnr : Nat → Int32) (tql : Int32) (tqk : Nat → Int32) (tqv : Nat → Int32) (tqr : Nat → Int32) (twr : Nat → Int32) (twa : Int32) (twc : Nat → Int32) (twk : Nat → Int32) : Option (Int32 × (Nat → Int32) × Int32 × Int32 × Int32 × Int32 × (Nat → Int32) × Int32 × Int32 × Int32 × Int32 × (Nat → Int32) × (Nat → Int32) × (Nat → Int32) × (Nat → Int32) × Int32 × (Nat → Int32) × (Nat → Int32) × (Nat → Int32) × (Nat → Int32) × Int32 × (Nat → Int32) × (Nat → Int32)) := fX0_giveAll_b15 2000 len tx (0 : Int32) (0 : Int32) (0 : Int32) ki nu tph tla tpo tlo tov torr tnv tnr tql tqk tqv tqr twr twa twc twk
set_option maxHeartbeats 4000000 in
set_option maxRecDepth 100000 in
theorem qX0_giveAll (l : Launch) (G : gT) (h0 h1 h2 : Nat) (a : Nat → Nat) {len : Int32} {tx : Nat → Int32} {gi : Int32} {pl : Int32} {re : Int32} {ki : Int32} {nu : Nat → Int32} {tph : Int32} {tla : Int32} {tpo : Int32} {tlo : Int32} {tov : Nat → Int32} {torr : Nat → Int32} {tnv : Nat → Int32} {tnr : Nat → Int32} {tql : Int32} {tqk : Nat → Int32} {tqv : Nat → Int32} {tqr : Nat → Int32} {twr : Nat → Int32} {twa : Int32} {twc : Nat → Int32} {twk : Nat → Int32} {u : Int32 × (Nat → Int32) × Int32 × Int32 × Int32 × Int32 × (Nat → Int32) × Int32 × Int32 × Int32 × Int32 × (Nat → Int32) × (Nat → Int32) × (Nat → Int32) × (Nat → Int32) × Int32 × (Nat → Int32) × (Nat → Int32) × (Nat → Int32) × (Nat → Int32) × Int32 × (Nat → Int32) × (Nat → Int32)} (hf : fX0_giveAll len tx gi pl re ki nu tph tla tpo tlo tov torr tnv tnr tql tqk tqv tqr twr twa twc twk = some u) : gC l G yX0_giveAll wsX0_giveAll rmX0_giveAll [.ref h0, .ref (a 0)] (ordW G h0 h1 h2 len tx gi pl re ki nu ++ tabW G a tph tla tpo tlo tov torr tnv tnr tql tqk tqv tqr twr twa twc twk) none (ordW G h0 h1 h2 u.1 u.2.1 u.2.2.1 u.2.2.2.1 u.2.2.2.2.1 u.2.2.2.2.2.1 u.2.2.2.2.2.2.1 ++ tabW G a u.2.2.2.2.2.2.2.1 u.2.2.2.2.2.2.2.2.1 u.2.2.2.2.2.2.2.2.2.1 u.2.2.2.2.2.2.2.2.2.2.1 u.2.2.2.2.2.2.2.2.2.2.2.1 u.2.2.2.2.2.2.2.2.2.2.2.2.1 u.2.2.2.2.2.2.2.2.2.2.2.2.2.1 u.2.2.2.2.2.2.2.2.2.2.2.2.2.2.1 u.2.2.2.2.2.2.2.2.2.2.2.2.2.2.2.1 u.2.2.2.2.2.2.2.2.2.2.2.2.2.2.2.2.1 u.2.2.2.2.2.2.2.2.2.2.2.2.2.2.2.2.2.1 u.2.2.2.2.2.2.2.2.2.2.2.2.2.2.2.2.2.2.1 u.2.2.2.2.2.2.2.2.2.2.2.2.2.2.2.2.2.2.2.1 u.2.2.2.2.2.2.2.2.2.2.2.2.2.2.2.2.2.2.2.2.1 u.2.2.2.2.2.2.2.2.2.2.2.2.2.2.2.2.2.2.2.2.2.1 u.2.2.2.2.2.2.2.2.2.2.2.2.2.2.2.2.2.2.2.2.2.2) := by
  refine gC.of (cc := cX0_giveAll) (maxL := 3) (ret := none) (by decide) rfl (Nat.le_of_ble_eq_true rfl) ?_
  intro p e s m below meth c C0 hP hD hS ls hl
  obtain ⟨hx, hb, hr, hts, hown, hlocks, hml, hK⟩ := id C0
  have hl : lv_has ls 3 [(0, .ref h0), (1, .ref (a 0))] := hl
  have hA : ∀ q : Nat, s.heap.size ≤ q → va_A (ordW G h0 h1 h2 len tx gi pl re ki nu ++ tabW G a tph tla tpo tlo tov torr tnv tnr tql tqk tqv tqr twr twa twc twk) s.heap.size q := fun q h => Or.inr h
  have hP : va_P G.1 vwCl [(h0, .inr (0, [.int len, .ref h1, .int gi, .int pl, .int re, .int ki, .ref h2])), (h1, .inl (G.2.1, 60, .inl tx)), (h2, .inl (G.2.1, 4, .inl nu)), ((a 0), .inr (3, [.int tph, .int tla, .int tpo, .int tlo, .ref (a 1), .ref (a 4), .ref (a 7), .ref (a 11), .int twa, .ref (a 12), .ref (a 13)])), ((a 1), .inr (2, [.int 0, .ref (a 2), .ref (a 3)])), ((a 2), .inl (G.2.1, 31, .inl tov)), ((a 3), .inl (G.2.1, 31, .inl torr)), ((a 4), .inr (2, [.int 1, .ref (a 5), .ref (a 6)])), ((a 5), .inl (G.2.1, 31, .inl tnv)), ((a 6), .inl (G.2.1, 31, .inl tnr)), ((a 7), .inr (1, [.int tql, .ref (a 8), .ref (a 9), .ref (a 10)])), ((a 8), .inl (G.2.1, 8, .inl tqk)), ((a 9), .inl (G.2.1, 8, .inl tqv)), ((a 10), .inl (G.2.1, 8, .inl tqr)), ((a 11), .inl (G.2.1, 31, .inl twr)), ((a 12), .inl (G.2.1, 3, .inl twc)), ((a 13), .inl (G.2.1, 3, .inl twk))] s.heap := hP
  have hD : va_D (va_A (ordW G h0 h1 h2 len tx gi pl re ki nu ++ tabW G a tph tla tpo tlo tov torr tnv tnr tql tqk tqv tqr twr twa twc twk) s.heap.size) [(h0, .inr (0, [.int len, .ref h1, .int gi, .int pl, .int re, .int ki, .ref h2])), (h1, .inl (G.2.1, 60, .inl tx)), (h2, .inl (G.2.1, 4, .inl nu)), ((a 0), .inr (3, [.int tph, .int tla, .int tpo, .int tlo, .ref (a 1), .ref (a 4), .ref (a 7), .ref (a 11), .int twa, .ref (a 12), .ref (a 13)])), ((a 1), .inr (2, [.int 0, .ref (a 2), .ref (a 3)])), ((a 2), .inl (G.2.1, 31, .inl tov)), ((a 3), .inl (G.2.1, 31, .inl torr)), ((a 4), .inr (2, [.int 1, .ref (a 5), .ref (a 6)])), ((a 5), .inl (G.2.1, 31, .inl tnv)), ((a 6), .inl (G.2.1, 31, .inl tnr)), ((a 7), .inr (1, [.int tql, .ref (a 8), .ref (a 9), .ref (a 10)])), ((a 8), .inl (G.2.1, 8, .inl tqk)), ((a 9), .inl (G.2.1, 8, .inl tqv)), ((a 10), .inl (G.2.1, 8, .inl tqr)), ((a 11), .inl (G.2.1, 31, .inl twr)), ((a 12), .inl (G.2.1, 3, .inl twc)), ((a 13), .inl (G.2.1, 3, .inl twk))] := hD
  unfold fX0_giveAll at hf
  refine lv_aload_n hx hb dX0_giveAll_0 rfl (lv_at hl 0 rfl) ?_
  refine lv_iconst (v := (0 : Int32)) hx hb dX0_giveAll_1 (by decide) ?_
  refine va_put (D := G.1) (ci := 0) (v := .int (0 : Int32)) (ty := .int) (C := RX0) (T := TX0) (N := 7) hx hb hts hX0 tyX0 tyX0_ok nmX0 hown hK.1 hP hD hS 0 rfl rfl 2 (by decide) (hts _ tw_177) (fun _ h9 => h9) rfl (by decide +kernel) rfl rfl (Nat.le_of_ble_eq_true rfl) dX0_giveAll_2 (fun H locs hP hD hS => ?_)
  have hP : va_P G.1 vwCl [(h0, .inr (0, [.int len, .ref h1, .int (0 : Int32), .int pl, .int re, .int ki, .ref h2])), (h1, .inl (G.2.1, 60, .inl tx)), (h2, .inl (G.2.1, 4, .inl nu)), ((a 0), .inr (3, [.int tph, .int tla, .int tpo, .int tlo, .ref (a 1), .ref (a 4), .ref (a 7), .ref (a 11), .int twa, .ref (a 12), .ref (a 13)])), ((a 1), .inr (2, [.int 0, .ref (a 2), .ref (a 3)])), ((a 2), .inl (G.2.1, 31, .inl tov)), ((a 3), .inl (G.2.1, 31, .inl torr)), ((a 4), .inr (2, [.int 1, .ref (a 5), .ref (a 6)])), ((a 5), .inl (G.2.1, 31, .inl tnv)), ((a 6), .inl (G.2.1, 31, .inl tnr)), ((a 7), .inr (1, [.int tql, .ref (a 8), .ref (a 9), .ref (a 10)])), ((a 8), .inl (G.2.1, 8, .inl tqk)), ((a 9), .inl (G.2.1, 8, .inl tqv)), ((a 10), .inl (G.2.1, 8, .inl tqr)), ((a 11), .inl (G.2.1, 31, .inl twr)), ((a 12), .inl (G.2.1, 3, .inl twc)), ((a 13), .inl (G.2.1, 3, .inl twk))] H := hP
  have hD : va_D (va_A (ordW G h0 h1 h2 len tx gi pl re ki nu ++ tabW G a tph tla tpo tlo tov torr tnv tnr tql tqk tqv tqr twr twa twc twk) s.heap.size) [(h0, .inr (0, [.int len, .ref h1, .int (0 : Int32), .int pl, .int re, .int ki, .ref h2])), (h1, .inl (G.2.1, 60, .inl tx)), (h2, .inl (G.2.1, 4, .inl nu)), ((a 0), .inr (3, [.int tph, .int tla, .int tpo, .int tlo, .ref (a 1), .ref (a 4), .ref (a 7), .ref (a 11), .int twa, .ref (a 12), .ref (a 13)])), ((a 1), .inr (2, [.int 0, .ref (a 2), .ref (a 3)])), ((a 2), .inl (G.2.1, 31, .inl tov)), ((a 3), .inl (G.2.1, 31, .inl torr)), ((a 4), .inr (2, [.int 1, .ref (a 5), .ref (a 6)])), ((a 5), .inl (G.2.1, 31, .inl tnv)), ((a 6), .inl (G.2.1, 31, .inl tnr)), ((a 7), .inr (1, [.int tql, .ref (a 8), .ref (a 9), .ref (a 10)])), ((a 8), .inl (G.2.1, 8, .inl tqk)), ((a 9), .inl (G.2.1, 8, .inl tqv)), ((a 10), .inl (G.2.1, 8, .inl tqr)), ((a 11), .inl (G.2.1, 31, .inl twr)), ((a 12), .inl (G.2.1, 3, .inl twc)), ((a 13), .inl (G.2.1, 3, .inl twk))] := hD
  refine lv_aload_n hx hb dX0_giveAll_5 rfl (lv_at hl 0 rfl) ?_
  refine lv_iconst (v := (0 : Int32)) hx hb dX0_giveAll_6 (by decide) ?_
  refine va_put (D := G.1) (ci := 0) (v := .int (0 : Int32)) (ty := .int) (C := RX0) (T := TX0) (N := 7) hx hb hts hX0 tyX0 tyX0_ok nmX0 hown hK.1 hP hD hS 0 rfl rfl 3 (by decide) (hts _ tw_179) (fun _ h9 => h9) rfl (by decide +kernel) rfl rfl (Nat.le_of_ble_eq_true rfl) dX0_giveAll_7 (fun H locs hP hD hS => ?_)
  have hP : va_P G.1 vwCl [(h0, .inr (0, [.int len, .ref h1, .int (0 : Int32), .int (0 : Int32), .int re, .int ki, .ref h2])), (h1, .inl (G.2.1, 60, .inl tx)), (h2, .inl (G.2.1, 4, .inl nu)), ((a 0), .inr (3, [.int tph, .int tla, .int tpo, .int tlo, .ref (a 1), .ref (a 4), .ref (a 7), .ref (a 11), .int twa, .ref (a 12), .ref (a 13)])), ((a 1), .inr (2, [.int 0, .ref (a 2), .ref (a 3)])), ((a 2), .inl (G.2.1, 31, .inl tov)), ((a 3), .inl (G.2.1, 31, .inl torr)), ((a 4), .inr (2, [.int 1, .ref (a 5), .ref (a 6)])), ((a 5), .inl (G.2.1, 31, .inl tnv)), ((a 6), .inl (G.2.1, 31, .inl tnr)), ((a 7), .inr (1, [.int tql, .ref (a 8), .ref (a 9), .ref (a 10)])), ((a 8), .inl (G.2.1, 8, .inl tqk)), ((a 9), .inl (G.2.1, 8, .inl tqv)), ((a 10), .inl (G.2.1, 8, .inl tqr)), ((a 11), .inl (G.2.1, 31, .inl twr)), ((a 12), .inl (G.2.1, 3, .inl twc)), ((a 13), .inl (G.2.1, 3, .inl twk))] H := hP
  have hD : va_D (va_A (ordW G h0 h1 h2 len tx gi pl re ki nu ++ tabW G a tph tla tpo tlo tov torr tnv tnr tql tqk tqv tqr twr twa twc twk) s.heap.size) [(h0, .inr (0, [.int len, .ref h1, .int (0 : Int32), .int (0 : Int32), .int re, .int ki, .ref h2])), (h1, .inl (G.2.1, 60, .inl tx)), (h2, .inl (G.2.1, 4, .inl nu)), ((a 0), .inr (3, [.int tph, .int tla, .int tpo, .int tlo, .ref (a 1), .ref (a 4), .ref (a 7), .ref (a 11), .int twa, .ref (a 12), .ref (a 13)])), ((a 1), .inr (2, [.int 0, .ref (a 2), .ref (a 3)])), ((a 2), .inl (G.2.1, 31, .inl tov)), ((a 3), .inl (G.2.1, 31, .inl torr)), ((a 4), .inr (2, [.int 1, .ref (a 5), .ref (a 6)])), ((a 5), .inl (G.2.1, 31, .inl tnv)), ((a 6), .inl (G.2.1, 31, .inl tnr)), ((a 7), .inr (1, [.int tql, .ref (a 8), .ref (a 9), .ref (a 10)])), ((a 8), .inl (G.2.1, 8, .inl tqk)), ((a 9), .inl (G.2.1, 8, .inl tqv)), ((a 10), .inl (G.2.1, 8, .inl tqr)), ((a 11), .inl (G.2.1, 31, .inl twr)), ((a 12), .inl (G.2.1, 3, .inl twc)), ((a 13), .inl (G.2.1, 3, .inl twk))] := hD
  refine lv_aload_n hx hb dX0_giveAll_10 rfl (lv_at hl 0 rfl) ?_
  refine lv_iconst (v := (0 : Int32)) hx hb dX0_giveAll_11 (by decide) ?_
  refine va_put (D := G.1) (ci := 0) (v := .int (0 : Int32)) (ty := .int) (C := RX0) (T := TX0) (N := 7) hx hb hts hX0 tyX0 tyX0_ok nmX0 hown hK.1 hP hD hS 0 rfl rfl 4 (by decide) (hts _ tw_181) (fun _ h9 => h9) rfl (by decide +kernel) rfl rfl (Nat.le_of_ble_eq_true rfl) dX0_giveAll_12 (fun H locs hP hD hS => ?_)
  have hP : va_P G.1 vwCl [(h0, .inr (0, [.int len, .ref h1, .int (0 : Int32), .int (0 : Int32), .int (0 : Int32), .int ki, .ref h2])), (h1, .inl (G.2.1, 60, .inl tx)), (h2, .inl (G.2.1, 4, .inl nu)), ((a 0), .inr (3, [.int tph, .int tla, .int tpo, .int tlo, .ref (a 1), .ref (a 4), .ref (a 7), .ref (a 11), .int twa, .ref (a 12), .ref (a 13)])), ((a 1), .inr (2, [.int 0, .ref (a 2), .ref (a 3)])), ((a 2), .inl (G.2.1, 31, .inl tov)), ((a 3), .inl (G.2.1, 31, .inl torr)), ((a 4), .inr (2, [.int 1, .ref (a 5), .ref (a 6)])), ((a 5), .inl (G.2.1, 31, .inl tnv)), ((a 6), .inl (G.2.1, 31, .inl tnr)), ((a 7), .inr (1, [.int tql, .ref (a 8), .ref (a 9), .ref (a 10)])), ((a 8), .inl (G.2.1, 8, .inl tqk)), ((a 9), .inl (G.2.1, 8, .inl tqv)), ((a 10), .inl (G.2.1, 8, .inl tqr)), ((a 11), .inl (G.2.1, 31, .inl twr)), ((a 12), .inl (G.2.1, 3, .inl twc)), ((a 13), .inl (G.2.1, 3, .inl twk))] H := hP
  have hD : va_D (va_A (ordW G h0 h1 h2 len tx gi pl re ki nu ++ tabW G a tph tla tpo tlo tov torr tnv tnr tql tqk tqv tqr twr twa twc twk) s.heap.size) [(h0, .inr (0, [.int len, .ref h1, .int (0 : Int32), .int (0 : Int32), .int (0 : Int32), .int ki, .ref h2])), (h1, .inl (G.2.1, 60, .inl tx)), (h2, .inl (G.2.1, 4, .inl nu)), ((a 0), .inr (3, [.int tph, .int tla, .int tpo, .int tlo, .ref (a 1), .ref (a 4), .ref (a 7), .ref (a 11), .int twa, .ref (a 12), .ref (a 13)])), ((a 1), .inr (2, [.int 0, .ref (a 2), .ref (a 3)])), ((a 2), .inl (G.2.1, 31, .inl tov)), ((a 3), .inl (G.2.1, 31, .inl torr)), ((a 4), .inr (2, [.int 1, .ref (a 5), .ref (a 6)])), ((a 5), .inl (G.2.1, 31, .inl tnv)), ((a 6), .inl (G.2.1, 31, .inl tnr)), ((a 7), .inr (1, [.int tql, .ref (a 8), .ref (a 9), .ref (a 10)])), ((a 8), .inl (G.2.1, 8, .inl tqk)), ((a 9), .inl (G.2.1, 8, .inl tqv)), ((a 10), .inl (G.2.1, 8, .inl tqr)), ((a 11), .inl (G.2.1, 31, .inl twr)), ((a 12), .inl (G.2.1, 3, .inl twc)), ((a 13), .inl (G.2.1, 3, .inl twk))] := hD
  exact kX0_giveAll_b15 C0 2000 _ _ _ _ _ _ _ _ _ _ _ _ _ _ _ _ _ _ _ _ _ _ _ _ hf _ _ hP hD hS ls (lv_sub hl [0, 1] rfl)
