def g4 (q0 q1 q2 q3 : Nat) : Nat → Option Nat := fun j => match j with
  | 0 => some q0
  | 1 => some q1
  | 2 => some q2
  | 3 => some q3
  | _ => none
theorem g4u0 {q0 q1 q2 q3 v : Nat} : va_up (g4 q0 q1 q2 q3) (0 : Int32).toNatClampNeg (some v) = g4 v q1 q2 q3 := by
  funext j
  match j with
  | 0 => rfl
  | 1 => rfl
  | 2 => rfl
  | 3 => rfl
  | j + 4 => rfl
theorem g4u1 {q0 q1 q2 q3 v : Nat} : va_up (g4 q0 q1 q2 q3) (1 : Int32).toNatClampNeg (some v) = g4 q0 v q2 q3 := by
  funext j
  match j with
  | 0 => rfl
  | 1 => rfl
  | 2 => rfl
  | 3 => rfl
  | j + 4 => rfl
theorem g4u2 {q0 q1 q2 q3 v : Nat} : va_up (g4 q0 q1 q2 q3) (2 : Int32).toNatClampNeg (some v) = g4 q0 q1 v q3 := by
  funext j
  match j with
  | 0 => rfl
  | 1 => rfl
  | 2 => rfl
  | 3 => rfl
  | j + 4 => rfl
theorem g4u3 {q0 q1 q2 q3 v : Nat} : va_up (g4 q0 q1 q2 q3) (3 : Int32).toNatClampNeg (some v) = g4 q0 q1 q2 v := by
  funext j
  match j with
  | 0 => rfl
  | 1 => rfl
  | 2 => rfl
  | 3 => rfl
  | j + 4 => rfl
def g_st (st : Int32) : Prop := st = 0 ∨ st = 1 ∨ st = 2 ∨ st = 3 ∨ st = 4
def sNow (ans : Int32) (na tr : Nat) : Nat := if ans < 0 then na else tr
def sTr (ans st : Int32) (q0 q1 q2 q3 tr : Nat) : Nat := if ans < 0 then tr else if st = 0 then q0 else if st = 1 then q1 else if st = 2 then q2 else if st = 3 then q3 else q0
def sSt (ans st : Int32) : Int32 := if ans < 0 then st else if st = 4 then 4 else st + 1
def sH (ans st : Int32) (q0 q1 q2 q3 na : Nat) : Nat → Option Nat := if ans < 0 then g4 q0 q1 q2 q3 else if st = 0 then g4 na q1 q2 q3 else if st = 1 then g4 q0 na q2 q3 else if st = 2 then g4 q0 q1 na q3 else if st = 3 then g4 q0 q1 q2 na else g4 q1 q2 q3 na
def tsS (G : gT) (x hi q0 q1 q2 q3 na tr : Nat) (st : Int32) (n t od : Nat) (hist : Nat → Option Nat) (V0 V1 V2 V3 Vn Vt : List Value) : va_W :=
  [(x, .inr (4, [.ref hi, .int st, .ref n, .ref t, .ref od])), (hi, .inl (G.2.2.2, 4, .inr (.inr (.inr (.inr hist))))), (q0, .inr (3, V0)), (q1, .inr (3, V1)), (q2, .inr (3, V2)), (q3, .inr (3, V3)), (na, .inr (3, Vn)), (tr, .inr (3, Vt))]
def ts1W (G : gT) (x hi : Nat) (st : Int32) (n t od : Nat) : va_W := [(x, .inr (4, [.ref hi, .int st, .ref n, .ref t, .ref od]))]
def ts2W (G : gT) (x hi q0 q1 q2 q3 : Nat) (st : Int32) (n t od : Nat) (hist : Nat → Option Nat) (V0 V1 V2 V3 : List Value) : va_W :=
  [(x, .inr (4, [.ref hi, .int st, .ref n, .ref t, .ref od])), (hi, .inl (G.2.2.2, 4, .inr (.inr (.inr (.inr hist))))), (q0, .inr (3, V0)), (q1, .inr (3, V1)), (q2, .inr (3, V2)), (q3, .inr (3, V3))]
abbrev rmX5_settle : Room := { frames := 0, cells := 0, slots := 0, locals := 0 }
abbrev rmX5_undo : Room := { frames := 0, cells := 0, slots := 0, locals := 0 }
set_option maxHeartbeats 4000000 in
set_option maxRecDepth 100000 in
theorem qX5_settle_e (l : Launch) (G : gT) (x hi q0 q1 q2 q3 na tr od : Nat) (V0 V1 V2 V3 Vn Vt : List Value) {p0 : Int32} {st : Int32} (hs : p0 < 0) : gC l G yX5_settle wsX5_settle rmX5_settle [.ref x, .int p0] (tsS G x hi q0 q1 q2 q3 na tr st na tr od (g4 q0 q1 q2 q3) V0 V1 V2 V3 Vn Vt) (some (.int p0)) (tsS G x hi q0 q1 q2 q3 na tr st na tr od (g4 q0 q1 q2 q3) V0 V1 V2 V3 Vn Vt) := by
  refine gC.of (cc := cX5_settle) (maxL := 4) (ret := (some .int)) (by decide) rfl (Nat.le_of_ble_eq_true rfl) ?_
  intro p e s m below meth c C0 hP hD hS ls hl
  obtain ⟨hx, hb, hr, hts, hown, hlocks, hml, hK⟩ := id C0
  have hl : lv_has ls 4 [(0, .ref x), (1, .int p0)] := hl
  have hA : ∀ q : Nat, s.heap.size ≤ q → va_A (tsS G x hi q0 q1 q2 q3 na tr st na tr od (g4 q0 q1 q2 q3) V0 V1 V2 V3 Vn Vt) s.heap.size q := fun q h => Or.inr h
  have hP : va_P G.1 vwCl [(x, .inr (4, [.ref hi, .int st, .ref na, .ref tr, .ref od])), (hi, .inl (G.2.2.2, 4, .inr (.inr (.inr (.inr (g4 q0 q1 q2 q3)))))), (q0, .inr (3, V0)), (q1, .inr (3, V1)), (q2, .inr (3, V2)), (q3, .inr (3, V3)), (na, .inr (3, Vn)), (tr, .inr (3, Vt))] s.heap := hP
  have hD : va_D (va_A (tsS G x hi q0 q1 q2 q3 na tr st na tr od (g4 q0 q1 q2 q3) V0 V1 V2 V3 Vn Vt) s.heap.size) [(x, .inr (4, [.ref hi, .int st, .ref na, .ref tr, .ref od])), (hi, .inl (G.2.2.2, 4, .inr (.inr (.inr (.inr (g4 q0 q1 q2 q3)))))), (q0, .inr (3, V0)), (q1, .inr (3, V1)), (q2, .inr (3, V2)), (q3, .inr (3, V3)), (na, .inr (3, Vn)), (tr, .inr (3, Vt))] := hD
  refine lv_iload_n hx hb dX5_settle_0 rfl (lv_at hl 1 rfl) ?_
  refine lv_if_ge (tgt := 6) hx hb dX5_settle_1 (by decide) (fun c1 => ?_) (fun c1 => ?_)
  · exact absurd hs (Int32.not_lt.mpr c1)
  · refine lv_iload_n hx hb dX5_settle_4 rfl (lv_at hl 1 rfl) ?_
    exact g_iretC hx hb hr hlocks hP hD hS dX5_settle_5
set_option maxHeartbeats 4000000 in
set_option maxRecDepth 100000 in
theorem qX5_settle_k0 (l : Launch) (G : gT) (x hi q0 q1 q2 q3 na tr od : Nat) (V0 V1 V2 V3 Vn Vt : List Value) {p0 : Int32} (hs : ¬ p0 < 0) : gC l G yX5_settle wsX5_settle rmX5_settle [.ref x, .int p0] (tsS G x hi q0 q1 q2 q3 na tr (0 : Int32) na tr od (g4 q0 q1 q2 q3) V0 V1 V2 V3 Vn Vt) (some (.int p0)) (tsS G x hi q0 q1 q2 q3 na tr (1 : Int32) tr q0 od (g4 na q1 q2 q3) V0 V1 V2 V3 Vn Vt) := by
  refine gC.of (cc := cX5_settle) (maxL := 4) (ret := (some .int)) (by decide) rfl (Nat.le_of_ble_eq_true rfl) ?_
  intro p e s m below meth c C0 hP hD hS ls hl
  obtain ⟨hx, hb, hr, hts, hown, hlocks, hml, hK⟩ := id C0
  have hl : lv_has ls 4 [(0, .ref x), (1, .int p0)] := hl
  have hA : ∀ q : Nat, s.heap.size ≤ q → va_A (tsS G x hi q0 q1 q2 q3 na tr (0 : Int32) na tr od (g4 q0 q1 q2 q3) V0 V1 V2 V3 Vn Vt) s.heap.size q := fun q h => Or.inr h
  have hP : va_P G.1 vwCl [(x, .inr (4, [.ref hi, .int (0 : Int32), .ref na, .ref tr, .ref od])), (hi, .inl (G.2.2.2, 4, .inr (.inr (.inr (.inr (g4 q0 q1 q2 q3)))))), (q0, .inr (3, V0)), (q1, .inr (3, V1)), (q2, .inr (3, V2)), (q3, .inr (3, V3)), (na, .inr (3, Vn)), (tr, .inr (3, Vt))] s.heap := hP
  have hD : va_D (va_A (tsS G x hi q0 q1 q2 q3 na tr (0 : Int32) na tr od (g4 q0 q1 q2 q3) V0 V1 V2 V3 Vn Vt) s.heap.size) [(x, .inr (4, [.ref hi, .int (0 : Int32), .ref na, .ref tr, .ref od])), (hi, .inl (G.2.2.2, 4, .inr (.inr (.inr (.inr (g4 q0 q1 q2 q3)))))), (q0, .inr (3, V0)), (q1, .inr (3, V1)), (q2, .inr (3, V2)), (q3, .inr (3, V3)), (na, .inr (3, Vn)), (tr, .inr (3, Vt))] := hD
  refine lv_iload_n hx hb dX5_settle_0 rfl (lv_at hl 1 rfl) ?_
  refine lv_if_ge (tgt := 6) hx hb dX5_settle_1 (by decide) (fun c1 => ?_) (fun c1 => ?_)
  · refine lv_aload_n hx hb dX5_settle_6 rfl (lv_at hl 0 rfl) ?_
    refine va_get (D := G.1) (ci := 4) (v := .int (0 : Int32)) (C := RX5) (T := TX5) (N := 5) hx hb hts hX5 hown hK.1 hP 0 rfl rfl 1 (by decide) (hts _ tw_145) (fun _ h9 => h9) rfl dX5_settle_7 ?_
    refine lv_iconst (v := (4 : Int32)) hx hb dX5_settle_10 (by decide) ?_
    refine lv_icmp_ge (tgt := 50) hx hb dX5_settle_11 (by decide) (fun c_ => absurd c_ (by decide)) (fun _ => ?_)
    refine lv_aload_n hx hb dX5_settle_14 rfl (lv_at hl 0 rfl) ?_
    refine va_get (D := G.1) (ci := 4) (v := .ref hi) (C := RX5) (T := TX5) (N := 5) hx hb hts hX5 hown hK.1 hP 0 rfl rfl 0 (by decide) (hts _ tw_144) (fun _ h9 => h9) rfl dX5_settle_15 ?_
    refine lv_aload_n hx hb dX5_settle_18 rfl (lv_at hl 0 rfl) ?_
    refine va_get (D := G.1) (ci := 4) (v := .int (0 : Int32)) (C := RX5) (T := TX5) (N := 5) hx hb hts hX5 hown hK.1 hP 0 rfl rfl 1 (by decide) (hts _ tw_145) (fun _ h9 => h9) rfl dX5_settle_19 ?_
    refine va_aldq hx hb hK.1 hP 1 2 rfl rfl (g_in_vp (by decide)) dX5_settle_22 ?_
    refine W.eq (g2 := F0 m 23 ls [.ref q0]) rfl ?_
    refine lv_astore_n (lv' := [(2, .ref q0), (0, .ref x), (1, .int p0)]) hx hb dX5_settle_23 rfl hl (by decide) rfl (fun ls hl => ?_)
    refine lv_aload_n hx hb dX5_settle_24 rfl (lv_at hl 1 rfl) ?_
    refine va_get (D := G.1) (ci := 4) (v := .ref hi) (C := RX5) (T := TX5) (N := 5) hx hb hts hX5 hown hK.1 hP 0 rfl rfl 0 (by decide) (hts _ tw_144) (fun _ h9 => h9) rfl dX5_settle_25 ?_
    refine lv_aload_n hx hb dX5_settle_28 rfl (lv_at hl 1 rfl) ?_
    refine va_get (D := G.1) (ci := 4) (v := .int (0 : Int32)) (C := RX5) (T := TX5) (N := 5) hx hb hts hX5 hown hK.1 hP 0 rfl rfl 1 (by decide) (hts _ tw_145) (fun _ h9 => h9) rfl dX5_settle_29 ?_
    refine lv_aload_n hx hb dX5_settle_32 rfl (lv_at hl 1 rfl) ?_
    refine va_get (D := G.1) (ci := 4) (v := .ref na) (C := RX5) (T := TX5) (N := 5) hx hb hts hX5 hown hK.1 hP 0 rfl rfl 2 (by decide) (hts _ tw_146) (fun _ h9 => h9) rfl dX5_settle_33 ?_
    refine va_astq (r := (RX4, TX4, 11)) hx hb hK.1 hP hD hS 1 2 6 3 rfl rfl rfl rfl (g_in_vp (by decide)) dX5_settle_36 (fun H locs hP hD hS => ?_)
    rw [g4u0] at hP hD
    have hP : va_P G.1 vwCl [(x, .inr (4, [.ref hi, .int (0 : Int32), .ref na, .ref tr, .ref od])), (hi, .inl (G.2.2.2, 4, .inr (.inr (.inr (.inr (g4 na q1 q2 q3)))))), (q0, .inr (3, V0)), (q1, .inr (3, V1)), (q2, .inr (3, V2)), (q3, .inr (3, V3)), (na, .inr (3, Vn)), (tr, .inr (3, Vt))] H := hP
    have hD : va_D (va_A (tsS G x hi q0 q1 q2 q3 na tr (0 : Int32) na tr od (g4 q0 q1 q2 q3) V0 V1 V2 V3 Vn Vt) s.heap.size) [(x, .inr (4, [.ref hi, .int (0 : Int32), .ref na, .ref tr, .ref od])), (hi, .inl (G.2.2.2, 4, .inr (.inr (.inr (.inr (g4 na q1 q2 q3)))))), (q0, .inr (3, V0)), (q1, .inr (3, V1)), (q2, .inr (3, V2)), (q3, .inr (3, V3)), (na, .inr (3, Vn)), (tr, .inr (3, Vt))] := hD
    refine lv_aload_n hx hb dX5_settle_37 rfl (lv_at hl 1 rfl) ?_
    refine lv_dup hx hb dX5_settle_38 rfl ?_
    refine va_get (D := G.1) (ci := 4) (v := .int (0 : Int32)) (C := RX5) (T := TX5) (N := 5) hx hb hts hX5 hown hK.1 hP 0 rfl rfl 1 (by decide) (hts _ tw_145) (fun _ h9 => h9) rfl dX5_settle_39 ?_
    refine lv_iconst (v := (1 : Int32)) hx hb dX5_settle_42 (by decide) ?_
    refine lv_iadd hx hb dX5_settle_43 ?_
    refine W.eq (g2 := F0 m 44 ls [.int (1 : Int32), .ref x]) rfl ?_
    refine va_put (D := G.1) (ci := 4) (v := .int (1 : Int32)) (ty := .int) (C := RX5) (T := TX5) (N := 5) hx hb hts hX5 tyX5 tyX5_ok nmX5 hown hK.1 hP hD hS 0 rfl rfl 1 (by decide) (hts _ tw_145) (fun _ h9 => h9) rfl (by decide +kernel) rfl rfl (Nat.le_of_ble_eq_true rfl) dX5_settle_44 (fun H locs hP hD hS => ?_)
    have hP : va_P G.1 vwCl [(x, .inr (4, [.ref hi, .int (1 : Int32), .ref na, .ref tr, .ref od])), (hi, .inl (G.2.2.2, 4, .inr (.inr (.inr (.inr (g4 na q1 q2 q3)))))), (q0, .inr (3, V0)), (q1, .inr (3, V1)), (q2, .inr (3, V2)), (q3, .inr (3, V3)), (na, .inr (3, Vn)), (tr, .inr (3, Vt))] H := hP
    have hD : va_D (va_A (tsS G x hi q0 q1 q2 q3 na tr (0 : Int32) na tr od (g4 q0 q1 q2 q3) V0 V1 V2 V3 Vn Vt) s.heap.size) [(x, .inr (4, [.ref hi, .int (1 : Int32), .ref na, .ref tr, .ref od])), (hi, .inl (G.2.2.2, 4, .inr (.inr (.inr (.inr (g4 na q1 q2 q3)))))), (q0, .inr (3, V0)), (q1, .inr (3, V1)), (q2, .inr (3, V2)), (q3, .inr (3, V3)), (na, .inr (3, Vn)), (tr, .inr (3, Vt))] := hD
    refine lv_goto (tgt := 94) hx hb dX5_settle_47 (by decide) ?_
    refine lv_aload_n hx hb dX5_settle_94 rfl (lv_at hl 1 rfl) ?_
    refine lv_aload_n hx hb dX5_settle_95 rfl (lv_at hl 1 rfl) ?_
    refine va_get (D := G.1) (ci := 4) (v := .ref tr) (C := RX5) (T := TX5) (N := 5) hx hb hts hX5 hown hK.1 hP 0 rfl rfl 3 (by decide) (hts _ tw_147) (fun _ h9 => h9) rfl dX5_settle_96 ?_
    refine va_put (D := G.1) (ci := 4) (v := .ref tr) (ty := .object "TwoShapes$Table") (C := RX5) (T := TX5) (N := 5) hx hb hts hX5 tyX5 tyX5_ok nmX5 hown hK.1 hP hD hS 0 rfl rfl 2 (by decide) (hts _ tw_146) (fun _ h9 => h9) rfl (by decide +kernel) rfl rfl (Nat.le_of_ble_eq_true rfl) dX5_settle_99 (fun H locs hP hD hS => ?_)
    have hP : va_P G.1 vwCl [(x, .inr (4, [.ref hi, .int (1 : Int32), .ref tr, .ref tr, .ref od])), (hi, .inl (G.2.2.2, 4, .inr (.inr (.inr (.inr (g4 na q1 q2 q3)))))), (q0, .inr (3, V0)), (q1, .inr (3, V1)), (q2, .inr (3, V2)), (q3, .inr (3, V3)), (na, .inr (3, Vn)), (tr, .inr (3, Vt))] H := hP
    have hD : va_D (va_A (tsS G x hi q0 q1 q2 q3 na tr (0 : Int32) na tr od (g4 q0 q1 q2 q3) V0 V1 V2 V3 Vn Vt) s.heap.size) [(x, .inr (4, [.ref hi, .int (1 : Int32), .ref tr, .ref tr, .ref od])), (hi, .inl (G.2.2.2, 4, .inr (.inr (.inr (.inr (g4 na q1 q2 q3)))))), (q0, .inr (3, V0)), (q1, .inr (3, V1)), (q2, .inr (3, V2)), (q3, .inr (3, V3)), (na, .inr (3, Vn)), (tr, .inr (3, Vt))] := hD
    refine lv_aload_n hx hb dX5_settle_102 rfl (lv_at hl 1 rfl) ?_
    refine lv_aload_n hx hb dX5_settle_103 rfl (lv_at hl 0 rfl) ?_
    refine va_put (D := G.1) (ci := 4) (v := .ref q0) (ty := .object "TwoShapes$Table") (C := RX5) (T := TX5) (N := 5) hx hb hts hX5 tyX5 tyX5_ok nmX5 hown hK.1 hP hD hS 0 rfl rfl 3 (by decide) (hts _ tw_147) (fun _ h9 => h9) rfl (by decide +kernel) rfl rfl (Nat.le_of_ble_eq_true rfl) dX5_settle_104 (fun H locs hP hD hS => ?_)
    have hP : va_P G.1 vwCl [(x, .inr (4, [.ref hi, .int (1 : Int32), .ref tr, .ref q0, .ref od])), (hi, .inl (G.2.2.2, 4, .inr (.inr (.inr (.inr (g4 na q1 q2 q3)))))), (q0, .inr (3, V0)), (q1, .inr (3, V1)), (q2, .inr (3, V2)), (q3, .inr (3, V3)), (na, .inr (3, Vn)), (tr, .inr (3, Vt))] H := hP
    have hD : va_D (va_A (tsS G x hi q0 q1 q2 q3 na tr (0 : Int32) na tr od (g4 q0 q1 q2 q3) V0 V1 V2 V3 Vn Vt) s.heap.size) [(x, .inr (4, [.ref hi, .int (1 : Int32), .ref tr, .ref q0, .ref od])), (hi, .inl (G.2.2.2, 4, .inr (.inr (.inr (.inr (g4 na q1 q2 q3)))))), (q0, .inr (3, V0)), (q1, .inr (3, V1)), (q2, .inr (3, V2)), (q3, .inr (3, V3)), (na, .inr (3, Vn)), (tr, .inr (3, Vt))] := hD
    refine lv_iload_n hx hb dX5_settle_107 rfl (lv_at hl 2 rfl) ?_
    exact g_iretC hx hb hr hlocks hP hD hS dX5_settle_108
  · exact absurd (Int32.not_le.mp c1) hs
set_option maxHeartbeats 4000000 in
set_option maxRecDepth 100000 in
theorem qX5_settle_k1 (l : Launch) (G : gT) (x hi q0 q1 q2 q3 na tr od : Nat) (V0 V1 V2 V3 Vn Vt : List Value) {p0 : Int32} (hs : ¬ p0 < 0) : gC l G yX5_settle wsX5_settle rmX5_settle [.ref x, .int p0] (tsS G x hi q0 q1 q2 q3 na tr (1 : Int32) na tr od (g4 q0 q1 q2 q3) V0 V1 V2 V3 Vn Vt) (some (.int p0)) (tsS G x hi q0 q1 q2 q3 na tr (2 : Int32) tr q1 od (g4 q0 na q2 q3) V0 V1 V2 V3 Vn Vt) := by
  refine gC.of (cc := cX5_settle) (maxL := 4) (ret := (some .int)) (by decide) rfl (Nat.le_of_ble_eq_true rfl) ?_
  intro p e s m below meth c C0 hP hD hS ls hl
  obtain ⟨hx, hb, hr, hts, hown, hlocks, hml, hK⟩ := id C0
  have hl : lv_has ls 4 [(0, .ref x), (1, .int p0)] := hl
  have hA : ∀ q : Nat, s.heap.size ≤ q → va_A (tsS G x hi q0 q1 q2 q3 na tr (1 : Int32) na tr od (g4 q0 q1 q2 q3) V0 V1 V2 V3 Vn Vt) s.heap.size q := fun q h => Or.inr h
  have hP : va_P G.1 vwCl [(x, .inr (4, [.ref hi, .int (1 : Int32), .ref na, .ref tr, .ref od])), (hi, .inl (G.2.2.2, 4, .inr (.inr (.inr (.inr (g4 q0 q1 q2 q3)))))), (q0, .inr (3, V0)), (q1, .inr (3, V1)), (q2, .inr (3, V2)), (q3, .inr (3, V3)), (na, .inr (3, Vn)), (tr, .inr (3, Vt))] s.heap := hP
  have hD : va_D (va_A (tsS G x hi q0 q1 q2 q3 na tr (1 : Int32) na tr od (g4 q0 q1 q2 q3) V0 V1 V2 V3 Vn Vt) s.heap.size) [(x, .inr (4, [.ref hi, .int (1 : Int32), .ref na, .ref tr, .ref od])), (hi, .inl (G.2.2.2, 4, .inr (.inr (.inr (.inr (g4 q0 q1 q2 q3)))))), (q0, .inr (3, V0)), (q1, .inr (3, V1)), (q2, .inr (3, V2)), (q3, .inr (3, V3)), (na, .inr (3, Vn)), (tr, .inr (3, Vt))] := hD
  refine lv_iload_n hx hb dX5_settle_0 rfl (lv_at hl 1 rfl) ?_
  refine lv_if_ge (tgt := 6) hx hb dX5_settle_1 (by decide) (fun c1 => ?_) (fun c1 => ?_)
  · refine lv_aload_n hx hb dX5_settle_6 rfl (lv_at hl 0 rfl) ?_
    refine va_get (D := G.1) (ci := 4) (v := .int (1 : Int32)) (C := RX5) (T := TX5) (N := 5) hx hb hts hX5 hown hK.1 hP 0 rfl rfl 1 (by decide) (hts _ tw_145) (fun _ h9 => h9) rfl dX5_settle_7 ?_
    refine lv_iconst (v := (4 : Int32)) hx hb dX5_settle_10 (by decide) ?_
    refine lv_icmp_ge (tgt := 50) hx hb dX5_settle_11 (by decide) (fun c_ => absurd c_ (by decide)) (fun _ => ?_)
    refine lv_aload_n hx hb dX5_settle_14 rfl (lv_at hl 0 rfl) ?_
    refine va_get (D := G.1) (ci := 4) (v := .ref hi) (C := RX5) (T := TX5) (N := 5) hx hb hts hX5 hown hK.1 hP 0 rfl rfl 0 (by decide) (hts _ tw_144) (fun _ h9 => h9) rfl dX5_settle_15 ?_
    refine lv_aload_n hx hb dX5_settle_18 rfl (lv_at hl 0 rfl) ?_
    refine va_get (D := G.1) (ci := 4) (v := .int (1 : Int32)) (C := RX5) (T := TX5) (N := 5) hx hb hts hX5 hown hK.1 hP 0 rfl rfl 1 (by decide) (hts _ tw_145) (fun _ h9 => h9) rfl dX5_settle_19 ?_
    refine va_aldq hx hb hK.1 hP 1 2 rfl rfl (g_in_vp (by decide)) dX5_settle_22 ?_
    refine W.eq (g2 := F0 m 23 ls [.ref q1]) rfl ?_
    refine lv_astore_n (lv' := [(2, .ref q1), (0, .ref x), (1, .int p0)]) hx hb dX5_settle_23 rfl hl (by decide) rfl (fun ls hl => ?_)
    refine lv_aload_n hx hb dX5_settle_24 rfl (lv_at hl 1 rfl) ?_
    refine va_get (D := G.1) (ci := 4) (v := .ref hi) (C := RX5) (T := TX5) (N := 5) hx hb hts hX5 hown hK.1 hP 0 rfl rfl 0 (by decide) (hts _ tw_144) (fun _ h9 => h9) rfl dX5_settle_25 ?_
    refine lv_aload_n hx hb dX5_settle_28 rfl (lv_at hl 1 rfl) ?_
    refine va_get (D := G.1) (ci := 4) (v := .int (1 : Int32)) (C := RX5) (T := TX5) (N := 5) hx hb hts hX5 hown hK.1 hP 0 rfl rfl 1 (by decide) (hts _ tw_145) (fun _ h9 => h9) rfl dX5_settle_29 ?_
    refine lv_aload_n hx hb dX5_settle_32 rfl (lv_at hl 1 rfl) ?_
    refine va_get (D := G.1) (ci := 4) (v := .ref na) (C := RX5) (T := TX5) (N := 5) hx hb hts hX5 hown hK.1 hP 0 rfl rfl 2 (by decide) (hts _ tw_146) (fun _ h9 => h9) rfl dX5_settle_33 ?_
    refine va_astq (r := (RX4, TX4, 11)) hx hb hK.1 hP hD hS 1 2 6 3 rfl rfl rfl rfl (g_in_vp (by decide)) dX5_settle_36 (fun H locs hP hD hS => ?_)
    rw [g4u1] at hP hD
    have hP : va_P G.1 vwCl [(x, .inr (4, [.ref hi, .int (1 : Int32), .ref na, .ref tr, .ref od])), (hi, .inl (G.2.2.2, 4, .inr (.inr (.inr (.inr (g4 q0 na q2 q3)))))), (q0, .inr (3, V0)), (q1, .inr (3, V1)), (q2, .inr (3, V2)), (q3, .inr (3, V3)), (na, .inr (3, Vn)), (tr, .inr (3, Vt))] H := hP
    have hD : va_D (va_A (tsS G x hi q0 q1 q2 q3 na tr (1 : Int32) na tr od (g4 q0 q1 q2 q3) V0 V1 V2 V3 Vn Vt) s.heap.size) [(x, .inr (4, [.ref hi, .int (1 : Int32), .ref na, .ref tr, .ref od])), (hi, .inl (G.2.2.2, 4, .inr (.inr (.inr (.inr (g4 q0 na q2 q3)))))), (q0, .inr (3, V0)), (q1, .inr (3, V1)), (q2, .inr (3, V2)), (q3, .inr (3, V3)), (na, .inr (3, Vn)), (tr, .inr (3, Vt))] := hD
    refine lv_aload_n hx hb dX5_settle_37 rfl (lv_at hl 1 rfl) ?_
    refine lv_dup hx hb dX5_settle_38 rfl ?_
    refine va_get (D := G.1) (ci := 4) (v := .int (1 : Int32)) (C := RX5) (T := TX5) (N := 5) hx hb hts hX5 hown hK.1 hP 0 rfl rfl 1 (by decide) (hts _ tw_145) (fun _ h9 => h9) rfl dX5_settle_39 ?_
    refine lv_iconst (v := (1 : Int32)) hx hb dX5_settle_42 (by decide) ?_
    refine lv_iadd hx hb dX5_settle_43 ?_
    refine W.eq (g2 := F0 m 44 ls [.int (2 : Int32), .ref x]) rfl ?_
    refine va_put (D := G.1) (ci := 4) (v := .int (2 : Int32)) (ty := .int) (C := RX5) (T := TX5) (N := 5) hx hb hts hX5 tyX5 tyX5_ok nmX5 hown hK.1 hP hD hS 0 rfl rfl 1 (by decide) (hts _ tw_145) (fun _ h9 => h9) rfl (by decide +kernel) rfl rfl (Nat.le_of_ble_eq_true rfl) dX5_settle_44 (fun H locs hP hD hS => ?_)
    have hP : va_P G.1 vwCl [(x, .inr (4, [.ref hi, .int (2 : Int32), .ref na, .ref tr, .ref od])), (hi, .inl (G.2.2.2, 4, .inr (.inr (.inr (.inr (g4 q0 na q2 q3)))))), (q0, .inr (3, V0)), (q1, .inr (3, V1)), (q2, .inr (3, V2)), (q3, .inr (3, V3)), (na, .inr (3, Vn)), (tr, .inr (3, Vt))] H := hP
    have hD : va_D (va_A (tsS G x hi q0 q1 q2 q3 na tr (1 : Int32) na tr od (g4 q0 q1 q2 q3) V0 V1 V2 V3 Vn Vt) s.heap.size) [(x, .inr (4, [.ref hi, .int (2 : Int32), .ref na, .ref tr, .ref od])), (hi, .inl (G.2.2.2, 4, .inr (.inr (.inr (.inr (g4 q0 na q2 q3)))))), (q0, .inr (3, V0)), (q1, .inr (3, V1)), (q2, .inr (3, V2)), (q3, .inr (3, V3)), (na, .inr (3, Vn)), (tr, .inr (3, Vt))] := hD
    refine lv_goto (tgt := 94) hx hb dX5_settle_47 (by decide) ?_
    refine lv_aload_n hx hb dX5_settle_94 rfl (lv_at hl 1 rfl) ?_
    refine lv_aload_n hx hb dX5_settle_95 rfl (lv_at hl 1 rfl) ?_
    refine va_get (D := G.1) (ci := 4) (v := .ref tr) (C := RX5) (T := TX5) (N := 5) hx hb hts hX5 hown hK.1 hP 0 rfl rfl 3 (by decide) (hts _ tw_147) (fun _ h9 => h9) rfl dX5_settle_96 ?_
    refine va_put (D := G.1) (ci := 4) (v := .ref tr) (ty := .object "TwoShapes$Table") (C := RX5) (T := TX5) (N := 5) hx hb hts hX5 tyX5 tyX5_ok nmX5 hown hK.1 hP hD hS 0 rfl rfl 2 (by decide) (hts _ tw_146) (fun _ h9 => h9) rfl (by decide +kernel) rfl rfl (Nat.le_of_ble_eq_true rfl) dX5_settle_99 (fun H locs hP hD hS => ?_)
    have hP : va_P G.1 vwCl [(x, .inr (4, [.ref hi, .int (2 : Int32), .ref tr, .ref tr, .ref od])), (hi, .inl (G.2.2.2, 4, .inr (.inr (.inr (.inr (g4 q0 na q2 q3)))))), (q0, .inr (3, V0)), (q1, .inr (3, V1)), (q2, .inr (3, V2)), (q3, .inr (3, V3)), (na, .inr (3, Vn)), (tr, .inr (3, Vt))] H := hP
    have hD : va_D (va_A (tsS G x hi q0 q1 q2 q3 na tr (1 : Int32) na tr od (g4 q0 q1 q2 q3) V0 V1 V2 V3 Vn Vt) s.heap.size) [(x, .inr (4, [.ref hi, .int (2 : Int32), .ref tr, .ref tr, .ref od])), (hi, .inl (G.2.2.2, 4, .inr (.inr (.inr (.inr (g4 q0 na q2 q3)))))), (q0, .inr (3, V0)), (q1, .inr (3, V1)), (q2, .inr (3, V2)), (q3, .inr (3, V3)), (na, .inr (3, Vn)), (tr, .inr (3, Vt))] := hD
    refine lv_aload_n hx hb dX5_settle_102 rfl (lv_at hl 1 rfl) ?_
    refine lv_aload_n hx hb dX5_settle_103 rfl (lv_at hl 0 rfl) ?_
    refine va_put (D := G.1) (ci := 4) (v := .ref q1) (ty := .object "TwoShapes$Table") (C := RX5) (T := TX5) (N := 5) hx hb hts hX5 tyX5 tyX5_ok nmX5 hown hK.1 hP hD hS 0 rfl rfl 3 (by decide) (hts _ tw_147) (fun _ h9 => h9) rfl (by decide +kernel) rfl rfl (Nat.le_of_ble_eq_true rfl) dX5_settle_104 (fun H locs hP hD hS => ?_)
    have hP : va_P G.1 vwCl [(x, .inr (4, [.ref hi, .int (2 : Int32), .ref tr, .ref q1, .ref od])), (hi, .inl (G.2.2.2, 4, .inr (.inr (.inr (.inr (g4 q0 na q2 q3)))))), (q0, .inr (3, V0)), (q1, .inr (3, V1)), (q2, .inr (3, V2)), (q3, .inr (3, V3)), (na, .inr (3, Vn)), (tr, .inr (3, Vt))] H := hP
    have hD : va_D (va_A (tsS G x hi q0 q1 q2 q3 na tr (1 : Int32) na tr od (g4 q0 q1 q2 q3) V0 V1 V2 V3 Vn Vt) s.heap.size) [(x, .inr (4, [.ref hi, .int (2 : Int32), .ref tr, .ref q1, .ref od])), (hi, .inl (G.2.2.2, 4, .inr (.inr (.inr (.inr (g4 q0 na q2 q3)))))), (q0, .inr (3, V0)), (q1, .inr (3, V1)), (q2, .inr (3, V2)), (q3, .inr (3, V3)), (na, .inr (3, Vn)), (tr, .inr (3, Vt))] := hD
    refine lv_iload_n hx hb dX5_settle_107 rfl (lv_at hl 2 rfl) ?_
    exact g_iretC hx hb hr hlocks hP hD hS dX5_settle_108
  · exact absurd (Int32.not_le.mp c1) hs
set_option maxHeartbeats 4000000 in
set_option maxRecDepth 100000 in
theorem qX5_settle_k2 (l : Launch) (G : gT) (x hi q0 q1 q2 q3 na tr od : Nat) (V0 V1 V2 V3 Vn Vt : List Value) {p0 : Int32} (hs : ¬ p0 < 0) : gC l G yX5_settle wsX5_settle rmX5_settle [.ref x, .int p0] (tsS G x hi q0 q1 q2 q3 na tr (2 : Int32) na tr od (g4 q0 q1 q2 q3) V0 V1 V2 V3 Vn Vt) (some (.int p0)) (tsS G x hi q0 q1 q2 q3 na tr (3 : Int32) tr q2 od (g4 q0 q1 na q3) V0 V1 V2 V3 Vn Vt) := by
  refine gC.of (cc := cX5_settle) (maxL := 4) (ret := (some .int)) (by decide) rfl (Nat.le_of_ble_eq_true rfl) ?_
  intro p e s m below meth c C0 hP hD hS ls hl
  obtain ⟨hx, hb, hr, hts, hown, hlocks, hml, hK⟩ := id C0
  have hl : lv_has ls 4 [(0, .ref x), (1, .int p0)] := hl
  have hA : ∀ q : Nat, s.heap.size ≤ q → va_A (tsS G x hi q0 q1 q2 q3 na tr (2 : Int32) na tr od (g4 q0 q1 q2 q3) V0 V1 V2 V3 Vn Vt) s.heap.size q := fun q h => Or.inr h
  have hP : va_P G.1 vwCl [(x, .inr (4, [.ref hi, .int (2 : Int32), .ref na, .ref tr, .ref od])), (hi, .inl (G.2.2.2, 4, .inr (.inr (.inr (.inr (g4 q0 q1 q2 q3)))))), (q0, .inr (3, V0)), (q1, .inr (3, V1)), (q2, .inr (3, V2)), (q3, .inr (3, V3)), (na, .inr (3, Vn)), (tr, .inr (3, Vt))] s.heap := hP
  have hD : va_D (va_A (tsS G x hi q0 q1 q2 q3 na tr (2 : Int32) na tr od (g4 q0 q1 q2 q3) V0 V1 V2 V3 Vn Vt) s.heap.size) [(x, .inr (4, [.ref hi, .int (2 : Int32), .ref na, .ref tr, .ref od])), (hi, .inl (G.2.2.2, 4, .inr (.inr (.inr (.inr (g4 q0 q1 q2 q3)))))), (q0, .inr (3, V0)), (q1, .inr (3, V1)), (q2, .inr (3, V2)), (q3, .inr (3, V3)), (na, .inr (3, Vn)), (tr, .inr (3, Vt))] := hD
  refine lv_iload_n hx hb dX5_settle_0 rfl (lv_at hl 1 rfl) ?_
  refine lv_if_ge (tgt := 6) hx hb dX5_settle_1 (by decide) (fun c1 => ?_) (fun c1 => ?_)
  · refine lv_aload_n hx hb dX5_settle_6 rfl (lv_at hl 0 rfl) ?_
    refine va_get (D := G.1) (ci := 4) (v := .int (2 : Int32)) (C := RX5) (T := TX5) (N := 5) hx hb hts hX5 hown hK.1 hP 0 rfl rfl 1 (by decide) (hts _ tw_145) (fun _ h9 => h9) rfl dX5_settle_7 ?_
    refine lv_iconst (v := (4 : Int32)) hx hb dX5_settle_10 (by decide) ?_
    refine lv_icmp_ge (tgt := 50) hx hb dX5_settle_11 (by decide) (fun c_ => absurd c_ (by decide)) (fun _ => ?_)
    refine lv_aload_n hx hb dX5_settle_14 rfl (lv_at hl 0 rfl) ?_
    refine va_get (D := G.1) (ci := 4) (v := .ref hi) (C := RX5) (T := TX5) (N := 5) hx hb hts hX5 hown hK.1 hP 0 rfl rfl 0 (by decide) (hts _ tw_144) (fun _ h9 => h9) rfl dX5_settle_15 ?_
    refine lv_aload_n hx hb dX5_settle_18 rfl (lv_at hl 0 rfl) ?_
    refine va_get (D := G.1) (ci := 4) (v := .int (2 : Int32)) (C := RX5) (T := TX5) (N := 5) hx hb hts hX5 hown hK.1 hP 0 rfl rfl 1 (by decide) (hts _ tw_145) (fun _ h9 => h9) rfl dX5_settle_19 ?_
    refine va_aldq hx hb hK.1 hP 1 2 rfl rfl (g_in_vp (by decide)) dX5_settle_22 ?_
    refine W.eq (g2 := F0 m 23 ls [.ref q2]) rfl ?_
    refine lv_astore_n (lv' := [(2, .ref q2), (0, .ref x), (1, .int p0)]) hx hb dX5_settle_23 rfl hl (by decide) rfl (fun ls hl => ?_)
    refine lv_aload_n hx hb dX5_settle_24 rfl (lv_at hl 1 rfl) ?_
    refine va_get (D := G.1) (ci := 4) (v := .ref hi) (C := RX5) (T := TX5) (N := 5) hx hb hts hX5 hown hK.1 hP 0 rfl rfl 0 (by decide) (hts _ tw_144) (fun _ h9 => h9) rfl dX5_settle_25 ?_
    refine lv_aload_n hx hb dX5_settle_28 rfl (lv_at hl 1 rfl) ?_
    refine va_get (D := G.1) (ci := 4) (v := .int (2 : Int32)) (C := RX5) (T := TX5) (N := 5) hx hb hts hX5 hown hK.1 hP 0 rfl rfl 1 (by decide) (hts _ tw_145) (fun _ h9 => h9) rfl dX5_settle_29 ?_
    refine lv_aload_n hx hb dX5_settle_32 rfl (lv_at hl 1 rfl) ?_
    refine va_get (D := G.1) (ci := 4) (v := .ref na) (C := RX5) (T := TX5) (N := 5) hx hb hts hX5 hown hK.1 hP 0 rfl rfl 2 (by decide) (hts _ tw_146) (fun _ h9 => h9) rfl dX5_settle_33 ?_
    refine va_astq (r := (RX4, TX4, 11)) hx hb hK.1 hP hD hS 1 2 6 3 rfl rfl rfl rfl (g_in_vp (by decide)) dX5_settle_36 (fun H locs hP hD hS => ?_)
    rw [g4u2] at hP hD
    have hP : va_P G.1 vwCl [(x, .inr (4, [.ref hi, .int (2 : Int32), .ref na, .ref tr, .ref od])), (hi, .inl (G.2.2.2, 4, .inr (.inr (.inr (.inr (g4 q0 q1 na q3)))))), (q0, .inr (3, V0)), (q1, .inr (3, V1)), (q2, .inr (3, V2)), (q3, .inr (3, V3)), (na, .inr (3, Vn)), (tr, .inr (3, Vt))] H := hP
    have hD : va_D (va_A (tsS G x hi q0 q1 q2 q3 na tr (2 : Int32) na tr od (g4 q0 q1 q2 q3) V0 V1 V2 V3 Vn Vt) s.heap.size) [(x, .inr (4, [.ref hi, .int (2 : Int32), .ref na, .ref tr, .ref od])), (hi, .inl (G.2.2.2, 4, .inr (.inr (.inr (.inr (g4 q0 q1 na q3)))))), (q0, .inr (3, V0)), (q1, .inr (3, V1)), (q2, .inr (3, V2)), (q3, .inr (3, V3)), (na, .inr (3, Vn)), (tr, .inr (3, Vt))] := hD
    refine lv_aload_n hx hb dX5_settle_37 rfl (lv_at hl 1 rfl) ?_
    refine lv_dup hx hb dX5_settle_38 rfl ?_
    refine va_get (D := G.1) (ci := 4) (v := .int (2 : Int32)) (C := RX5) (T := TX5) (N := 5) hx hb hts hX5 hown hK.1 hP 0 rfl rfl 1 (by decide) (hts _ tw_145) (fun _ h9 => h9) rfl dX5_settle_39 ?_
    refine lv_iconst (v := (1 : Int32)) hx hb dX5_settle_42 (by decide) ?_
    refine lv_iadd hx hb dX5_settle_43 ?_
    refine W.eq (g2 := F0 m 44 ls [.int (3 : Int32), .ref x]) rfl ?_
    refine va_put (D := G.1) (ci := 4) (v := .int (3 : Int32)) (ty := .int) (C := RX5) (T := TX5) (N := 5) hx hb hts hX5 tyX5 tyX5_ok nmX5 hown hK.1 hP hD hS 0 rfl rfl 1 (by decide) (hts _ tw_145) (fun _ h9 => h9) rfl (by decide +kernel) rfl rfl (Nat.le_of_ble_eq_true rfl) dX5_settle_44 (fun H locs hP hD hS => ?_)
    have hP : va_P G.1 vwCl [(x, .inr (4, [.ref hi, .int (3 : Int32), .ref na, .ref tr, .ref od])), (hi, .inl (G.2.2.2, 4, .inr (.inr (.inr (.inr (g4 q0 q1 na q3)))))), (q0, .inr (3, V0)), (q1, .inr (3, V1)), (q2, .inr (3, V2)), (q3, .inr (3, V3)), (na, .inr (3, Vn)), (tr, .inr (3, Vt))] H := hP
    have hD : va_D (va_A (tsS G x hi q0 q1 q2 q3 na tr (2 : Int32) na tr od (g4 q0 q1 q2 q3) V0 V1 V2 V3 Vn Vt) s.heap.size) [(x, .inr (4, [.ref hi, .int (3 : Int32), .ref na, .ref tr, .ref od])), (hi, .inl (G.2.2.2, 4, .inr (.inr (.inr (.inr (g4 q0 q1 na q3)))))), (q0, .inr (3, V0)), (q1, .inr (3, V1)), (q2, .inr (3, V2)), (q3, .inr (3, V3)), (na, .inr (3, Vn)), (tr, .inr (3, Vt))] := hD
    refine lv_goto (tgt := 94) hx hb dX5_settle_47 (by decide) ?_
    refine lv_aload_n hx hb dX5_settle_94 rfl (lv_at hl 1 rfl) ?_
    refine lv_aload_n hx hb dX5_settle_95 rfl (lv_at hl 1 rfl) ?_
    refine va_get (D := G.1) (ci := 4) (v := .ref tr) (C := RX5) (T := TX5) (N := 5) hx hb hts hX5 hown hK.1 hP 0 rfl rfl 3 (by decide) (hts _ tw_147) (fun _ h9 => h9) rfl dX5_settle_96 ?_
    refine va_put (D := G.1) (ci := 4) (v := .ref tr) (ty := .object "TwoShapes$Table") (C := RX5) (T := TX5) (N := 5) hx hb hts hX5 tyX5 tyX5_ok nmX5 hown hK.1 hP hD hS 0 rfl rfl 2 (by decide) (hts _ tw_146) (fun _ h9 => h9) rfl (by decide +kernel) rfl rfl (Nat.le_of_ble_eq_true rfl) dX5_settle_99 (fun H locs hP hD hS => ?_)
    have hP : va_P G.1 vwCl [(x, .inr (4, [.ref hi, .int (3 : Int32), .ref tr, .ref tr, .ref od])), (hi, .inl (G.2.2.2, 4, .inr (.inr (.inr (.inr (g4 q0 q1 na q3)))))), (q0, .inr (3, V0)), (q1, .inr (3, V1)), (q2, .inr (3, V2)), (q3, .inr (3, V3)), (na, .inr (3, Vn)), (tr, .inr (3, Vt))] H := hP
    have hD : va_D (va_A (tsS G x hi q0 q1 q2 q3 na tr (2 : Int32) na tr od (g4 q0 q1 q2 q3) V0 V1 V2 V3 Vn Vt) s.heap.size) [(x, .inr (4, [.ref hi, .int (3 : Int32), .ref tr, .ref tr, .ref od])), (hi, .inl (G.2.2.2, 4, .inr (.inr (.inr (.inr (g4 q0 q1 na q3)))))), (q0, .inr (3, V0)), (q1, .inr (3, V1)), (q2, .inr (3, V2)), (q3, .inr (3, V3)), (na, .inr (3, Vn)), (tr, .inr (3, Vt))] := hD
    refine lv_aload_n hx hb dX5_settle_102 rfl (lv_at hl 1 rfl) ?_
    refine lv_aload_n hx hb dX5_settle_103 rfl (lv_at hl 0 rfl) ?_
    refine va_put (D := G.1) (ci := 4) (v := .ref q2) (ty := .object "TwoShapes$Table") (C := RX5) (T := TX5) (N := 5) hx hb hts hX5 tyX5 tyX5_ok nmX5 hown hK.1 hP hD hS 0 rfl rfl 3 (by decide) (hts _ tw_147) (fun _ h9 => h9) rfl (by decide +kernel) rfl rfl (Nat.le_of_ble_eq_true rfl) dX5_settle_104 (fun H locs hP hD hS => ?_)
    have hP : va_P G.1 vwCl [(x, .inr (4, [.ref hi, .int (3 : Int32), .ref tr, .ref q2, .ref od])), (hi, .inl (G.2.2.2, 4, .inr (.inr (.inr (.inr (g4 q0 q1 na q3)))))), (q0, .inr (3, V0)), (q1, .inr (3, V1)), (q2, .inr (3, V2)), (q3, .inr (3, V3)), (na, .inr (3, Vn)), (tr, .inr (3, Vt))] H := hP
    have hD : va_D (va_A (tsS G x hi q0 q1 q2 q3 na tr (2 : Int32) na tr od (g4 q0 q1 q2 q3) V0 V1 V2 V3 Vn Vt) s.heap.size) [(x, .inr (4, [.ref hi, .int (3 : Int32), .ref tr, .ref q2, .ref od])), (hi, .inl (G.2.2.2, 4, .inr (.inr (.inr (.inr (g4 q0 q1 na q3)))))), (q0, .inr (3, V0)), (q1, .inr (3, V1)), (q2, .inr (3, V2)), (q3, .inr (3, V3)), (na, .inr (3, Vn)), (tr, .inr (3, Vt))] := hD
    refine lv_iload_n hx hb dX5_settle_107 rfl (lv_at hl 2 rfl) ?_
    exact g_iretC hx hb hr hlocks hP hD hS dX5_settle_108
  · exact absurd (Int32.not_le.mp c1) hs
set_option maxHeartbeats 4000000 in
set_option maxRecDepth 100000 in
theorem qX5_settle_k3 (l : Launch) (G : gT) (x hi q0 q1 q2 q3 na tr od : Nat) (V0 V1 V2 V3 Vn Vt : List Value) {p0 : Int32} (hs : ¬ p0 < 0) : gC l G yX5_settle wsX5_settle rmX5_settle [.ref x, .int p0] (tsS G x hi q0 q1 q2 q3 na tr (3 : Int32) na tr od (g4 q0 q1 q2 q3) V0 V1 V2 V3 Vn Vt) (some (.int p0)) (tsS G x hi q0 q1 q2 q3 na tr (4 : Int32) tr q3 od (g4 q0 q1 q2 na) V0 V1 V2 V3 Vn Vt) := by
  refine gC.of (cc := cX5_settle) (maxL := 4) (ret := (some .int)) (by decide) rfl (Nat.le_of_ble_eq_true rfl) ?_
  intro p e s m below meth c C0 hP hD hS ls hl
  obtain ⟨hx, hb, hr, hts, hown, hlocks, hml, hK⟩ := id C0
  have hl : lv_has ls 4 [(0, .ref x), (1, .int p0)] := hl
  have hA : ∀ q : Nat, s.heap.size ≤ q → va_A (tsS G x hi q0 q1 q2 q3 na tr (3 : Int32) na tr od (g4 q0 q1 q2 q3) V0 V1 V2 V3 Vn Vt) s.heap.size q := fun q h => Or.inr h
  have hP : va_P G.1 vwCl [(x, .inr (4, [.ref hi, .int (3 : Int32), .ref na, .ref tr, .ref od])), (hi, .inl (G.2.2.2, 4, .inr (.inr (.inr (.inr (g4 q0 q1 q2 q3)))))), (q0, .inr (3, V0)), (q1, .inr (3, V1)), (q2, .inr (3, V2)), (q3, .inr (3, V3)), (na, .inr (3, Vn)), (tr, .inr (3, Vt))] s.heap := hP
  have hD : va_D (va_A (tsS G x hi q0 q1 q2 q3 na tr (3 : Int32) na tr od (g4 q0 q1 q2 q3) V0 V1 V2 V3 Vn Vt) s.heap.size) [(x, .inr (4, [.ref hi, .int (3 : Int32), .ref na, .ref tr, .ref od])), (hi, .inl (G.2.2.2, 4, .inr (.inr (.inr (.inr (g4 q0 q1 q2 q3)))))), (q0, .inr (3, V0)), (q1, .inr (3, V1)), (q2, .inr (3, V2)), (q3, .inr (3, V3)), (na, .inr (3, Vn)), (tr, .inr (3, Vt))] := hD
  refine lv_iload_n hx hb dX5_settle_0 rfl (lv_at hl 1 rfl) ?_
  refine lv_if_ge (tgt := 6) hx hb dX5_settle_1 (by decide) (fun c1 => ?_) (fun c1 => ?_)
  · refine lv_aload_n hx hb dX5_settle_6 rfl (lv_at hl 0 rfl) ?_
    refine va_get (D := G.1) (ci := 4) (v := .int (3 : Int32)) (C := RX5) (T := TX5) (N := 5) hx hb hts hX5 hown hK.1 hP 0 rfl rfl 1 (by decide) (hts _ tw_145) (fun _ h9 => h9) rfl dX5_settle_7 ?_
    refine lv_iconst (v := (4 : Int32)) hx hb dX5_settle_10 (by decide) ?_
    refine lv_icmp_ge (tgt := 50) hx hb dX5_settle_11 (by decide) (fun c_ => absurd c_ (by decide)) (fun _ => ?_)
    refine lv_aload_n hx hb dX5_settle_14 rfl (lv_at hl 0 rfl) ?_
    refine va_get (D := G.1) (ci := 4) (v := .ref hi) (C := RX5) (T := TX5) (N := 5) hx hb hts hX5 hown hK.1 hP 0 rfl rfl 0 (by decide) (hts _ tw_144) (fun _ h9 => h9) rfl dX5_settle_15 ?_
    refine lv_aload_n hx hb dX5_settle_18 rfl (lv_at hl 0 rfl) ?_
    refine va_get (D := G.1) (ci := 4) (v := .int (3 : Int32)) (C := RX5) (T := TX5) (N := 5) hx hb hts hX5 hown hK.1 hP 0 rfl rfl 1 (by decide) (hts _ tw_145) (fun _ h9 => h9) rfl dX5_settle_19 ?_
    refine va_aldq hx hb hK.1 hP 1 2 rfl rfl (g_in_vp (by decide)) dX5_settle_22 ?_
    refine W.eq (g2 := F0 m 23 ls [.ref q3]) rfl ?_
    refine lv_astore_n (lv' := [(2, .ref q3), (0, .ref x), (1, .int p0)]) hx hb dX5_settle_23 rfl hl (by decide) rfl (fun ls hl => ?_)
    refine lv_aload_n hx hb dX5_settle_24 rfl (lv_at hl 1 rfl) ?_
    refine va_get (D := G.1) (ci := 4) (v := .ref hi) (C := RX5) (T := TX5) (N := 5) hx hb hts hX5 hown hK.1 hP 0 rfl rfl 0 (by decide) (hts _ tw_144) (fun _ h9 => h9) rfl dX5_settle_25 ?_
    refine lv_aload_n hx hb dX5_settle_28 rfl (lv_at hl 1 rfl) ?_
    refine va_get (D := G.1) (ci := 4) (v := .int (3 : Int32)) (C := RX5) (T := TX5) (N := 5) hx hb hts hX5 hown hK.1 hP 0 rfl rfl 1 (by decide) (hts _ tw_145) (fun _ h9 => h9) rfl dX5_settle_29 ?_
    refine lv_aload_n hx hb dX5_settle_32 rfl (lv_at hl 1 rfl) ?_
    refine va_get (D := G.1) (ci := 4) (v := .ref na) (C := RX5) (T := TX5) (N := 5) hx hb hts hX5 hown hK.1 hP 0 rfl rfl 2 (by decide) (hts _ tw_146) (fun _ h9 => h9) rfl dX5_settle_33 ?_
    refine va_astq (r := (RX4, TX4, 11)) hx hb hK.1 hP hD hS 1 2 6 3 rfl rfl rfl rfl (g_in_vp (by decide)) dX5_settle_36 (fun H locs hP hD hS => ?_)
    rw [g4u3] at hP hD
    have hP : va_P G.1 vwCl [(x, .inr (4, [.ref hi, .int (3 : Int32), .ref na, .ref tr, .ref od])), (hi, .inl (G.2.2.2, 4, .inr (.inr (.inr (.inr (g4 q0 q1 q2 na)))))), (q0, .inr (3, V0)), (q1, .inr (3, V1)), (q2, .inr (3, V2)), (q3, .inr (3, V3)), (na, .inr (3, Vn)), (tr, .inr (3, Vt))] H := hP
    have hD : va_D (va_A (tsS G x hi q0 q1 q2 q3 na tr (3 : Int32) na tr od (g4 q0 q1 q2 q3) V0 V1 V2 V3 Vn Vt) s.heap.size) [(x, .inr (4, [.ref hi, .int (3 : Int32), .ref na, .ref tr, .ref od])), (hi, .inl (G.2.2.2, 4, .inr (.inr (.inr (.inr (g4 q0 q1 q2 na)))))), (q0, .inr (3, V0)), (q1, .inr (3, V1)), (q2, .inr (3, V2)), (q3, .inr (3, V3)), (na, .inr (3, Vn)), (tr, .inr (3, Vt))] := hD
    refine lv_aload_n hx hb dX5_settle_37 rfl (lv_at hl 1 rfl) ?_
    refine lv_dup hx hb dX5_settle_38 rfl ?_
    refine va_get (D := G.1) (ci := 4) (v := .int (3 : Int32)) (C := RX5) (T := TX5) (N := 5) hx hb hts hX5 hown hK.1 hP 0 rfl rfl 1 (by decide) (hts _ tw_145) (fun _ h9 => h9) rfl dX5_settle_39 ?_
    refine lv_iconst (v := (1 : Int32)) hx hb dX5_settle_42 (by decide) ?_
    refine lv_iadd hx hb dX5_settle_43 ?_
    refine W.eq (g2 := F0 m 44 ls [.int (4 : Int32), .ref x]) rfl ?_
    refine va_put (D := G.1) (ci := 4) (v := .int (4 : Int32)) (ty := .int) (C := RX5) (T := TX5) (N := 5) hx hb hts hX5 tyX5 tyX5_ok nmX5 hown hK.1 hP hD hS 0 rfl rfl 1 (by decide) (hts _ tw_145) (fun _ h9 => h9) rfl (by decide +kernel) rfl rfl (Nat.le_of_ble_eq_true rfl) dX5_settle_44 (fun H locs hP hD hS => ?_)
    have hP : va_P G.1 vwCl [(x, .inr (4, [.ref hi, .int (4 : Int32), .ref na, .ref tr, .ref od])), (hi, .inl (G.2.2.2, 4, .inr (.inr (.inr (.inr (g4 q0 q1 q2 na)))))), (q0, .inr (3, V0)), (q1, .inr (3, V1)), (q2, .inr (3, V2)), (q3, .inr (3, V3)), (na, .inr (3, Vn)), (tr, .inr (3, Vt))] H := hP
    have hD : va_D (va_A (tsS G x hi q0 q1 q2 q3 na tr (3 : Int32) na tr od (g4 q0 q1 q2 q3) V0 V1 V2 V3 Vn Vt) s.heap.size) [(x, .inr (4, [.ref hi, .int (4 : Int32), .ref na, .ref tr, .ref od])), (hi, .inl (G.2.2.2, 4, .inr (.inr (.inr (.inr (g4 q0 q1 q2 na)))))), (q0, .inr (3, V0)), (q1, .inr (3, V1)), (q2, .inr (3, V2)), (q3, .inr (3, V3)), (na, .inr (3, Vn)), (tr, .inr (3, Vt))] := hD
    refine lv_goto (tgt := 94) hx hb dX5_settle_47 (by decide) ?_
    refine lv_aload_n hx hb dX5_settle_94 rfl (lv_at hl 1 rfl) ?_
    refine lv_aload_n hx hb dX5_settle_95 rfl (lv_at hl 1 rfl) ?_
    refine va_get (D := G.1) (ci := 4) (v := .ref tr) (C := RX5) (T := TX5) (N := 5) hx hb hts hX5 hown hK.1 hP 0 rfl rfl 3 (by decide) (hts _ tw_147) (fun _ h9 => h9) rfl dX5_settle_96 ?_
    refine va_put (D := G.1) (ci := 4) (v := .ref tr) (ty := .object "TwoShapes$Table") (C := RX5) (T := TX5) (N := 5) hx hb hts hX5 tyX5 tyX5_ok nmX5 hown hK.1 hP hD hS 0 rfl rfl 2 (by decide) (hts _ tw_146) (fun _ h9 => h9) rfl (by decide +kernel) rfl rfl (Nat.le_of_ble_eq_true rfl) dX5_settle_99 (fun H locs hP hD hS => ?_)
    have hP : va_P G.1 vwCl [(x, .inr (4, [.ref hi, .int (4 : Int32), .ref tr, .ref tr, .ref od])), (hi, .inl (G.2.2.2, 4, .inr (.inr (.inr (.inr (g4 q0 q1 q2 na)))))), (q0, .inr (3, V0)), (q1, .inr (3, V1)), (q2, .inr (3, V2)), (q3, .inr (3, V3)), (na, .inr (3, Vn)), (tr, .inr (3, Vt))] H := hP
    have hD : va_D (va_A (tsS G x hi q0 q1 q2 q3 na tr (3 : Int32) na tr od (g4 q0 q1 q2 q3) V0 V1 V2 V3 Vn Vt) s.heap.size) [(x, .inr (4, [.ref hi, .int (4 : Int32), .ref tr, .ref tr, .ref od])), (hi, .inl (G.2.2.2, 4, .inr (.inr (.inr (.inr (g4 q0 q1 q2 na)))))), (q0, .inr (3, V0)), (q1, .inr (3, V1)), (q2, .inr (3, V2)), (q3, .inr (3, V3)), (na, .inr (3, Vn)), (tr, .inr (3, Vt))] := hD
    refine lv_aload_n hx hb dX5_settle_102 rfl (lv_at hl 1 rfl) ?_
    refine lv_aload_n hx hb dX5_settle_103 rfl (lv_at hl 0 rfl) ?_
    refine va_put (D := G.1) (ci := 4) (v := .ref q3) (ty := .object "TwoShapes$Table") (C := RX5) (T := TX5) (N := 5) hx hb hts hX5 tyX5 tyX5_ok nmX5 hown hK.1 hP hD hS 0 rfl rfl 3 (by decide) (hts _ tw_147) (fun _ h9 => h9) rfl (by decide +kernel) rfl rfl (Nat.le_of_ble_eq_true rfl) dX5_settle_104 (fun H locs hP hD hS => ?_)
    have hP : va_P G.1 vwCl [(x, .inr (4, [.ref hi, .int (4 : Int32), .ref tr, .ref q3, .ref od])), (hi, .inl (G.2.2.2, 4, .inr (.inr (.inr (.inr (g4 q0 q1 q2 na)))))), (q0, .inr (3, V0)), (q1, .inr (3, V1)), (q2, .inr (3, V2)), (q3, .inr (3, V3)), (na, .inr (3, Vn)), (tr, .inr (3, Vt))] H := hP
    have hD : va_D (va_A (tsS G x hi q0 q1 q2 q3 na tr (3 : Int32) na tr od (g4 q0 q1 q2 q3) V0 V1 V2 V3 Vn Vt) s.heap.size) [(x, .inr (4, [.ref hi, .int (4 : Int32), .ref tr, .ref q3, .ref od])), (hi, .inl (G.2.2.2, 4, .inr (.inr (.inr (.inr (g4 q0 q1 q2 na)))))), (q0, .inr (3, V0)), (q1, .inr (3, V1)), (q2, .inr (3, V2)), (q3, .inr (3, V3)), (na, .inr (3, Vn)), (tr, .inr (3, Vt))] := hD
    refine lv_iload_n hx hb dX5_settle_107 rfl (lv_at hl 2 rfl) ?_
    exact g_iretC hx hb hr hlocks hP hD hS dX5_settle_108
  · exact absurd (Int32.not_le.mp c1) hs
set_option maxHeartbeats 4000000 in
set_option maxRecDepth 100000 in
theorem qX5_settle_k4 (l : Launch) (G : gT) (x hi q0 q1 q2 q3 na tr od : Nat) (V0 V1 V2 V3 Vn Vt : List Value) {p0 : Int32} (hs : ¬ p0 < 0) : gC l G yX5_settle wsX5_settle rmX5_settle [.ref x, .int p0] (tsS G x hi q0 q1 q2 q3 na tr (4 : Int32) na tr od (g4 q0 q1 q2 q3) V0 V1 V2 V3 Vn Vt) (some (.int p0)) (tsS G x hi q0 q1 q2 q3 na tr (4 : Int32) tr q0 od (g4 q1 q2 q3 na) V0 V1 V2 V3 Vn Vt) := by
  refine gC.of (cc := cX5_settle) (maxL := 4) (ret := (some .int)) (by decide) rfl (Nat.le_of_ble_eq_true rfl) ?_
  intro p e s m below meth c C0 hP hD hS ls hl
  obtain ⟨hx, hb, hr, hts, hown, hlocks, hml, hK⟩ := id C0
  have hl : lv_has ls 4 [(0, .ref x), (1, .int p0)] := hl
  have hA : ∀ q : Nat, s.heap.size ≤ q → va_A (tsS G x hi q0 q1 q2 q3 na tr (4 : Int32) na tr od (g4 q0 q1 q2 q3) V0 V1 V2 V3 Vn Vt) s.heap.size q := fun q h => Or.inr h
  have hP : va_P G.1 vwCl [(x, .inr (4, [.ref hi, .int (4 : Int32), .ref na, .ref tr, .ref od])), (hi, .inl (G.2.2.2, 4, .inr (.inr (.inr (.inr (g4 q0 q1 q2 q3)))))), (q0, .inr (3, V0)), (q1, .inr (3, V1)), (q2, .inr (3, V2)), (q3, .inr (3, V3)), (na, .inr (3, Vn)), (tr, .inr (3, Vt))] s.heap := hP
  have hD : va_D (va_A (tsS G x hi q0 q1 q2 q3 na tr (4 : Int32) na tr od (g4 q0 q1 q2 q3) V0 V1 V2 V3 Vn Vt) s.heap.size) [(x, .inr (4, [.ref hi, .int (4 : Int32), .ref na, .ref tr, .ref od])), (hi, .inl (G.2.2.2, 4, .inr (.inr (.inr (.inr (g4 q0 q1 q2 q3)))))), (q0, .inr (3, V0)), (q1, .inr (3, V1)), (q2, .inr (3, V2)), (q3, .inr (3, V3)), (na, .inr (3, Vn)), (tr, .inr (3, Vt))] := hD
  refine lv_iload_n hx hb dX5_settle_0 rfl (lv_at hl 1 rfl) ?_
  refine lv_if_ge (tgt := 6) hx hb dX5_settle_1 (by decide) (fun c1 => ?_) (fun c1 => ?_)
  · refine lv_aload_n hx hb dX5_settle_6 rfl (lv_at hl 0 rfl) ?_
    refine va_get (D := G.1) (ci := 4) (v := .int (4 : Int32)) (C := RX5) (T := TX5) (N := 5) hx hb hts hX5 hown hK.1 hP 0 rfl rfl 1 (by decide) (hts _ tw_145) (fun _ h9 => h9) rfl dX5_settle_7 ?_
    refine lv_iconst (v := (4 : Int32)) hx hb dX5_settle_10 (by decide) ?_
    refine lv_icmp_ge (tgt := 50) hx hb dX5_settle_11 (by decide) (fun _ => ?_) (fun c_ => absurd c_ (by decide))
    refine lv_aload_n hx hb dX5_settle_50 rfl (lv_at hl 0 rfl) ?_
    refine va_get (D := G.1) (ci := 4) (v := .ref hi) (C := RX5) (T := TX5) (N := 5) hx hb hts hX5 hown hK.1 hP 0 rfl rfl 0 (by decide) (hts _ tw_144) (fun _ h9 => h9) rfl dX5_settle_51 ?_
    refine lv_iconst (v := (0 : Int32)) hx hb dX5_settle_54 (by decide) ?_
    refine va_aldq hx hb hK.1 hP 1 2 rfl rfl (g_in_vp (by decide)) dX5_settle_55 ?_
    refine W.eq (g2 := F0 m 56 ls [.ref q0]) rfl ?_
    refine lv_astore_n (lv' := [(2, .ref q0), (0, .ref x), (1, .int p0)]) hx hb dX5_settle_56 rfl hl (by decide) rfl (fun ls hl => ?_)
    refine lv_iconst (v := (1 : Int32)) hx hb dX5_settle_57 (by decide) ?_
    refine lv_istore_n (lv' := [(3, .int (1 : Int32)), (2, .ref q0), (0, .ref x), (1, .int p0)]) hx hb dX5_settle_58 rfl hl (by decide) rfl (fun ls hl => ?_)
    refine lv_iload_n hx hb dX5_settle_59 rfl (lv_at hl 0 rfl) ?_
    refine lv_iconst (v := (4 : Int32)) hx hb dX5_settle_60 (by decide) ?_
    refine lv_icmp_ge (tgt := 84) hx hb dX5_settle_61 (by decide) (fun c_ => absurd c_ (by decide)) (fun _ => ?_)
    refine lv_aload_n hx hb dX5_settle_64 rfl (lv_at hl 2 rfl) ?_
    refine va_get (D := G.1) (ci := 4) (v := .ref hi) (C := RX5) (T := TX5) (N := 5) hx hb hts hX5 hown hK.1 hP 0 rfl rfl 0 (by decide) (hts _ tw_144) (fun _ h9 => h9) rfl dX5_settle_65 ?_
    refine lv_iload_n hx hb dX5_settle_68 rfl (lv_at hl 0 rfl) ?_
    refine lv_iconst (v := (1 : Int32)) hx hb dX5_settle_69 (by decide) ?_
    refine lv_isub hx hb dX5_settle_70 ?_
    refine W.eq (g2 := F0 m 71 ls [.int (0 : Int32), .ref hi]) rfl ?_
    refine lv_aload_n hx hb dX5_settle_71 rfl (lv_at hl 2 rfl) ?_
    refine va_get (D := G.1) (ci := 4) (v := .ref hi) (C := RX5) (T := TX5) (N := 5) hx hb hts hX5 hown hK.1 hP 0 rfl rfl 0 (by decide) (hts _ tw_144) (fun _ h9 => h9) rfl dX5_settle_72 ?_
    refine lv_iload_n hx hb dX5_settle_75 rfl (lv_at hl 0 rfl) ?_
    refine va_aldq hx hb hK.1 hP 1 2 rfl rfl (g_in_vp (by decide)) dX5_settle_76 ?_
    refine W.eq (g2 := F0 m 77 ls [.ref q1, .int (0 : Int32), .ref hi]) rfl ?_
    refine va_astq (r := (RX4, TX4, 11)) hx hb hK.1 hP hD hS 1 2 3 3 rfl rfl rfl rfl (g_in_vp (by decide)) dX5_settle_77 (fun H locs hP hD hS => ?_)
    rw [g4u0] at hP hD
    have hP : va_P G.1 vwCl [(x, .inr (4, [.ref hi, .int (4 : Int32), .ref na, .ref tr, .ref od])), (hi, .inl (G.2.2.2, 4, .inr (.inr (.inr (.inr (g4 q1 q1 q2 q3)))))), (q0, .inr (3, V0)), (q1, .inr (3, V1)), (q2, .inr (3, V2)), (q3, .inr (3, V3)), (na, .inr (3, Vn)), (tr, .inr (3, Vt))] H := hP
    have hD : va_D (va_A (tsS G x hi q0 q1 q2 q3 na tr (4 : Int32) na tr od (g4 q0 q1 q2 q3) V0 V1 V2 V3 Vn Vt) s.heap.size) [(x, .inr (4, [.ref hi, .int (4 : Int32), .ref na, .ref tr, .ref od])), (hi, .inl (G.2.2.2, 4, .inr (.inr (.inr (.inr (g4 q1 q1 q2 q3)))))), (q0, .inr (3, V0)), (q1, .inr (3, V1)), (q2, .inr (3, V2)), (q3, .inr (3, V3)), (na, .inr (3, Vn)), (tr, .inr (3, Vt))] := hD
    refine lv_iinc (v := (2 : Int32)) (lv' := [(3, .int (2 : Int32)), (2, .ref q0), (0, .ref x), (1, .int p0)]) hx hb dX5_settle_78 hl (k := 0) rfl rfl (by decide) rfl (fun ls hl => ?_)
    refine lv_goto (tgt := 59) hx hb dX5_settle_81 (by decide) ?_
    refine lv_iload_n hx hb dX5_settle_59 rfl (lv_at hl 0 rfl) ?_
    refine lv_iconst (v := (4 : Int32)) hx hb dX5_settle_60 (by decide) ?_
    refine lv_icmp_ge (tgt := 84) hx hb dX5_settle_61 (by decide) (fun c_ => absurd c_ (by decide)) (fun _ => ?_)
    refine lv_aload_n hx hb dX5_settle_64 rfl (lv_at hl 2 rfl) ?_
    refine va_get (D := G.1) (ci := 4) (v := .ref hi) (C := RX5) (T := TX5) (N := 5) hx hb hts hX5 hown hK.1 hP 0 rfl rfl 0 (by decide) (hts _ tw_144) (fun _ h9 => h9) rfl dX5_settle_65 ?_
    refine lv_iload_n hx hb dX5_settle_68 rfl (lv_at hl 0 rfl) ?_
    refine lv_iconst (v := (1 : Int32)) hx hb dX5_settle_69 (by decide) ?_
    refine lv_isub hx hb dX5_settle_70 ?_
    refine W.eq (g2 := F0 m 71 ls [.int (1 : Int32), .ref hi]) rfl ?_
    refine lv_aload_n hx hb dX5_settle_71 rfl (lv_at hl 2 rfl) ?_
    refine va_get (D := G.1) (ci := 4) (v := .ref hi) (C := RX5) (T := TX5) (N := 5) hx hb hts hX5 hown hK.1 hP 0 rfl rfl 0 (by decide) (hts _ tw_144) (fun _ h9 => h9) rfl dX5_settle_72 ?_
    refine lv_iload_n hx hb dX5_settle_75 rfl (lv_at hl 0 rfl) ?_
    refine va_aldq hx hb hK.1 hP 1 2 rfl rfl (g_in_vp (by decide)) dX5_settle_76 ?_
    refine W.eq (g2 := F0 m 77 ls [.ref q2, .int (1 : Int32), .ref hi]) rfl ?_
    refine va_astq (r := (RX4, TX4, 11)) hx hb hK.1 hP hD hS 1 2 4 3 rfl rfl rfl rfl (g_in_vp (by decide)) dX5_settle_77 (fun H locs hP hD hS => ?_)
    rw [g4u1] at hP hD
    have hP : va_P G.1 vwCl [(x, .inr (4, [.ref hi, .int (4 : Int32), .ref na, .ref tr, .ref od])), (hi, .inl (G.2.2.2, 4, .inr (.inr (.inr (.inr (g4 q1 q2 q2 q3)))))), (q0, .inr (3, V0)), (q1, .inr (3, V1)), (q2, .inr (3, V2)), (q3, .inr (3, V3)), (na, .inr (3, Vn)), (tr, .inr (3, Vt))] H := hP
    have hD : va_D (va_A (tsS G x hi q0 q1 q2 q3 na tr (4 : Int32) na tr od (g4 q0 q1 q2 q3) V0 V1 V2 V3 Vn Vt) s.heap.size) [(x, .inr (4, [.ref hi, .int (4 : Int32), .ref na, .ref tr, .ref od])), (hi, .inl (G.2.2.2, 4, .inr (.inr (.inr (.inr (g4 q1 q2 q2 q3)))))), (q0, .inr (3, V0)), (q1, .inr (3, V1)), (q2, .inr (3, V2)), (q3, .inr (3, V3)), (na, .inr (3, Vn)), (tr, .inr (3, Vt))] := hD
    refine lv_iinc (v := (3 : Int32)) (lv' := [(3, .int (3 : Int32)), (2, .ref q0), (0, .ref x), (1, .int p0)]) hx hb dX5_settle_78 hl (k := 0) rfl rfl (by decide) rfl (fun ls hl => ?_)
    refine lv_goto (tgt := 59) hx hb dX5_settle_81 (by decide) ?_
    refine lv_iload_n hx hb dX5_settle_59 rfl (lv_at hl 0 rfl) ?_
    refine lv_iconst (v := (4 : Int32)) hx hb dX5_settle_60 (by decide) ?_
    refine lv_icmp_ge (tgt := 84) hx hb dX5_settle_61 (by decide) (fun c_ => absurd c_ (by decide)) (fun _ => ?_)
    refine lv_aload_n hx hb dX5_settle_64 rfl (lv_at hl 2 rfl) ?_
    refine va_get (D := G.1) (ci := 4) (v := .ref hi) (C := RX5) (T := TX5) (N := 5) hx hb hts hX5 hown hK.1 hP 0 rfl rfl 0 (by decide) (hts _ tw_144) (fun _ h9 => h9) rfl dX5_settle_65 ?_
    refine lv_iload_n hx hb dX5_settle_68 rfl (lv_at hl 0 rfl) ?_
    refine lv_iconst (v := (1 : Int32)) hx hb dX5_settle_69 (by decide) ?_
    refine lv_isub hx hb dX5_settle_70 ?_
    refine W.eq (g2 := F0 m 71 ls [.int (2 : Int32), .ref hi]) rfl ?_
    refine lv_aload_n hx hb dX5_settle_71 rfl (lv_at hl 2 rfl) ?_
    refine va_get (D := G.1) (ci := 4) (v := .ref hi) (C := RX5) (T := TX5) (N := 5) hx hb hts hX5 hown hK.1 hP 0 rfl rfl 0 (by decide) (hts _ tw_144) (fun _ h9 => h9) rfl dX5_settle_72 ?_
    refine lv_iload_n hx hb dX5_settle_75 rfl (lv_at hl 0 rfl) ?_
    refine va_aldq hx hb hK.1 hP 1 2 rfl rfl (g_in_vp (by decide)) dX5_settle_76 ?_
    refine W.eq (g2 := F0 m 77 ls [.ref q3, .int (2 : Int32), .ref hi]) rfl ?_
    refine va_astq (r := (RX4, TX4, 11)) hx hb hK.1 hP hD hS 1 2 5 3 rfl rfl rfl rfl (g_in_vp (by decide)) dX5_settle_77 (fun H locs hP hD hS => ?_)
    rw [g4u2] at hP hD
    have hP : va_P G.1 vwCl [(x, .inr (4, [.ref hi, .int (4 : Int32), .ref na, .ref tr, .ref od])), (hi, .inl (G.2.2.2, 4, .inr (.inr (.inr (.inr (g4 q1 q2 q3 q3)))))), (q0, .inr (3, V0)), (q1, .inr (3, V1)), (q2, .inr (3, V2)), (q3, .inr (3, V3)), (na, .inr (3, Vn)), (tr, .inr (3, Vt))] H := hP
    have hD : va_D (va_A (tsS G x hi q0 q1 q2 q3 na tr (4 : Int32) na tr od (g4 q0 q1 q2 q3) V0 V1 V2 V3 Vn Vt) s.heap.size) [(x, .inr (4, [.ref hi, .int (4 : Int32), .ref na, .ref tr, .ref od])), (hi, .inl (G.2.2.2, 4, .inr (.inr (.inr (.inr (g4 q1 q2 q3 q3)))))), (q0, .inr (3, V0)), (q1, .inr (3, V1)), (q2, .inr (3, V2)), (q3, .inr (3, V3)), (na, .inr (3, Vn)), (tr, .inr (3, Vt))] := hD
    refine lv_iinc (v := (4 : Int32)) (lv' := [(3, .int (4 : Int32)), (2, .ref q0), (0, .ref x), (1, .int p0)]) hx hb dX5_settle_78 hl (k := 0) rfl rfl (by decide) rfl (fun ls hl => ?_)
    refine lv_goto (tgt := 59) hx hb dX5_settle_81 (by decide) ?_
    refine lv_iload_n hx hb dX5_settle_59 rfl (lv_at hl 0 rfl) ?_
    refine lv_iconst (v := (4 : Int32)) hx hb dX5_settle_60 (by decide) ?_
    refine lv_icmp_ge (tgt := 84) hx hb dX5_settle_61 (by decide) (fun _ => ?_) (fun c_ => absurd c_ (by decide))
    refine lv_aload_n hx hb dX5_settle_84 rfl (lv_at hl 2 rfl) ?_
    refine va_get (D := G.1) (ci := 4) (v := .ref hi) (C := RX5) (T := TX5) (N := 5) hx hb hts hX5 hown hK.1 hP 0 rfl rfl 0 (by decide) (hts _ tw_144) (fun _ h9 => h9) rfl dX5_settle_85 ?_
    refine lv_iconst (v := (3 : Int32)) hx hb dX5_settle_88 (by decide) ?_
    refine lv_aload_n hx hb dX5_settle_89 rfl (lv_at hl 2 rfl) ?_
    refine va_get (D := G.1) (ci := 4) (v := .ref na) (C := RX5) (T := TX5) (N := 5) hx hb hts hX5 hown hK.1 hP 0 rfl rfl 2 (by decide) (hts _ tw_146) (fun _ h9 => h9) rfl dX5_settle_90 ?_
    refine va_astq (r := (RX4, TX4, 11)) hx hb hK.1 hP hD hS 1 2 6 3 rfl rfl rfl rfl (g_in_vp (by decide)) dX5_settle_93 (fun H locs hP hD hS => ?_)
    rw [g4u3] at hP hD
    have hP : va_P G.1 vwCl [(x, .inr (4, [.ref hi, .int (4 : Int32), .ref na, .ref tr, .ref od])), (hi, .inl (G.2.2.2, 4, .inr (.inr (.inr (.inr (g4 q1 q2 q3 na)))))), (q0, .inr (3, V0)), (q1, .inr (3, V1)), (q2, .inr (3, V2)), (q3, .inr (3, V3)), (na, .inr (3, Vn)), (tr, .inr (3, Vt))] H := hP
    have hD : va_D (va_A (tsS G x hi q0 q1 q2 q3 na tr (4 : Int32) na tr od (g4 q0 q1 q2 q3) V0 V1 V2 V3 Vn Vt) s.heap.size) [(x, .inr (4, [.ref hi, .int (4 : Int32), .ref na, .ref tr, .ref od])), (hi, .inl (G.2.2.2, 4, .inr (.inr (.inr (.inr (g4 q1 q2 q3 na)))))), (q0, .inr (3, V0)), (q1, .inr (3, V1)), (q2, .inr (3, V2)), (q3, .inr (3, V3)), (na, .inr (3, Vn)), (tr, .inr (3, Vt))] := hD
    refine lv_aload_n hx hb dX5_settle_94 rfl (lv_at hl 2 rfl) ?_
    refine lv_aload_n hx hb dX5_settle_95 rfl (lv_at hl 2 rfl) ?_
    refine va_get (D := G.1) (ci := 4) (v := .ref tr) (C := RX5) (T := TX5) (N := 5) hx hb hts hX5 hown hK.1 hP 0 rfl rfl 3 (by decide) (hts _ tw_147) (fun _ h9 => h9) rfl dX5_settle_96 ?_
    refine va_put (D := G.1) (ci := 4) (v := .ref tr) (ty := .object "TwoShapes$Table") (C := RX5) (T := TX5) (N := 5) hx hb hts hX5 tyX5 tyX5_ok nmX5 hown hK.1 hP hD hS 0 rfl rfl 2 (by decide) (hts _ tw_146) (fun _ h9 => h9) rfl (by decide +kernel) rfl rfl (Nat.le_of_ble_eq_true rfl) dX5_settle_99 (fun H locs hP hD hS => ?_)
    have hP : va_P G.1 vwCl [(x, .inr (4, [.ref hi, .int (4 : Int32), .ref tr, .ref tr, .ref od])), (hi, .inl (G.2.2.2, 4, .inr (.inr (.inr (.inr (g4 q1 q2 q3 na)))))), (q0, .inr (3, V0)), (q1, .inr (3, V1)), (q2, .inr (3, V2)), (q3, .inr (3, V3)), (na, .inr (3, Vn)), (tr, .inr (3, Vt))] H := hP
    have hD : va_D (va_A (tsS G x hi q0 q1 q2 q3 na tr (4 : Int32) na tr od (g4 q0 q1 q2 q3) V0 V1 V2 V3 Vn Vt) s.heap.size) [(x, .inr (4, [.ref hi, .int (4 : Int32), .ref tr, .ref tr, .ref od])), (hi, .inl (G.2.2.2, 4, .inr (.inr (.inr (.inr (g4 q1 q2 q3 na)))))), (q0, .inr (3, V0)), (q1, .inr (3, V1)), (q2, .inr (3, V2)), (q3, .inr (3, V3)), (na, .inr (3, Vn)), (tr, .inr (3, Vt))] := hD
    refine lv_aload_n hx hb dX5_settle_102 rfl (lv_at hl 2 rfl) ?_
    refine lv_aload_n hx hb dX5_settle_103 rfl (lv_at hl 1 rfl) ?_
    refine va_put (D := G.1) (ci := 4) (v := .ref q0) (ty := .object "TwoShapes$Table") (C := RX5) (T := TX5) (N := 5) hx hb hts hX5 tyX5 tyX5_ok nmX5 hown hK.1 hP hD hS 0 rfl rfl 3 (by decide) (hts _ tw_147) (fun _ h9 => h9) rfl (by decide +kernel) rfl rfl (Nat.le_of_ble_eq_true rfl) dX5_settle_104 (fun H locs hP hD hS => ?_)
    have hP : va_P G.1 vwCl [(x, .inr (4, [.ref hi, .int (4 : Int32), .ref tr, .ref q0, .ref od])), (hi, .inl (G.2.2.2, 4, .inr (.inr (.inr (.inr (g4 q1 q2 q3 na)))))), (q0, .inr (3, V0)), (q1, .inr (3, V1)), (q2, .inr (3, V2)), (q3, .inr (3, V3)), (na, .inr (3, Vn)), (tr, .inr (3, Vt))] H := hP
    have hD : va_D (va_A (tsS G x hi q0 q1 q2 q3 na tr (4 : Int32) na tr od (g4 q0 q1 q2 q3) V0 V1 V2 V3 Vn Vt) s.heap.size) [(x, .inr (4, [.ref hi, .int (4 : Int32), .ref tr, .ref q0, .ref od])), (hi, .inl (G.2.2.2, 4, .inr (.inr (.inr (.inr (g4 q1 q2 q3 na)))))), (q0, .inr (3, V0)), (q1, .inr (3, V1)), (q2, .inr (3, V2)), (q3, .inr (3, V3)), (na, .inr (3, Vn)), (tr, .inr (3, Vt))] := hD
    refine lv_iload_n hx hb dX5_settle_107 rfl (lv_at hl 3 rfl) ?_
    exact g_iretC hx hb hr hlocks hP hD hS dX5_settle_108
  · exact absurd (Int32.not_le.mp c1) hs
theorem qX5_settle (l : Launch) (G : gT) (x hi q0 q1 q2 q3 na tr od : Nat) (V0 V1 V2 V3 Vn Vt : List Value) {p0 st : Int32} (hst : g_st st) : gC l G yX5_settle wsX5_settle rmX5_settle [.ref x, .int p0] (tsS G x hi q0 q1 q2 q3 na tr st na tr od (g4 q0 q1 q2 q3) V0 V1 V2 V3 Vn Vt) (some (.int p0)) (tsS G x hi q0 q1 q2 q3 na tr (sSt p0 st) (sNow p0 na tr) (sTr p0 st q0 q1 q2 q3 tr) od (sH p0 st q0 q1 q2 q3 na) V0 V1 V2 V3 Vn Vt) := by
  by_cases hs : p0 < 0
  · have h := qX5_settle_e l G x hi q0 q1 q2 q3 na tr od V0 V1 V2 V3 Vn Vt (st := st) hs
    unfold sSt sNow sTr sH
    simp only [if_pos hs]
    exact h
  · unfold sSt sNow sTr sH
    simp only [if_neg hs]
    rcases hst with rfl | rfl | rfl | rfl | rfl
    · exact qX5_settle_k0 l G x hi q0 q1 q2 q3 na tr od V0 V1 V2 V3 Vn Vt hs
    · exact qX5_settle_k1 l G x hi q0 q1 q2 q3 na tr od V0 V1 V2 V3 Vn Vt hs
    · exact qX5_settle_k2 l G x hi q0 q1 q2 q3 na tr od V0 V1 V2 V3 Vn Vt hs
    · exact qX5_settle_k3 l G x hi q0 q1 q2 q3 na tr od V0 V1 V2 V3 Vn Vt hs
    · exact qX5_settle_k4 l G x hi q0 q1 q2 q3 na tr od V0 V1 V2 V3 Vn Vt hs
set_option maxHeartbeats 4000000 in
set_option maxRecDepth 100000 in
theorem qX5_undo_k0 (l : Launch) (G : gT) (x hi q0 q1 q2 q3 na tr od : Nat) (V0 V1 V2 V3 Vn Vt : List Value) : gC l G yX5_undo wsX5_undo rmX5_undo [.ref x] (tsS G x hi q0 q1 q2 q3 na tr (0 : Int32) na tr od (g4 q0 q1 q2 q3) V0 V1 V2 V3 Vn Vt) (some (.int (-1000002 : Int32))) (tsS G x hi q0 q1 q2 q3 na tr (0 : Int32) na tr od (g4 q0 q1 q2 q3) V0 V1 V2 V3 Vn Vt) := by
  refine gC.of (cc := cX5_undo) (maxL := 2) (ret := (some .int)) (by decide) rfl (Nat.le_of_ble_eq_true rfl) ?_
  intro p e s m below meth c C0 hP hD hS ls hl
  obtain ⟨hx, hb, hr, hts, hown, hlocks, hml, hK⟩ := id C0
  have hl : lv_has ls 2 [(0, .ref x)] := hl
  have hA : ∀ q : Nat, s.heap.size ≤ q → va_A (tsS G x hi q0 q1 q2 q3 na tr (0 : Int32) na tr od (g4 q0 q1 q2 q3) V0 V1 V2 V3 Vn Vt) s.heap.size q := fun q h => Or.inr h
  have hP : va_P G.1 vwCl [(x, .inr (4, [.ref hi, .int (0 : Int32), .ref na, .ref tr, .ref od])), (hi, .inl (G.2.2.2, 4, .inr (.inr (.inr (.inr (g4 q0 q1 q2 q3)))))), (q0, .inr (3, V0)), (q1, .inr (3, V1)), (q2, .inr (3, V2)), (q3, .inr (3, V3)), (na, .inr (3, Vn)), (tr, .inr (3, Vt))] s.heap := hP
  have hD : va_D (va_A (tsS G x hi q0 q1 q2 q3 na tr (0 : Int32) na tr od (g4 q0 q1 q2 q3) V0 V1 V2 V3 Vn Vt) s.heap.size) [(x, .inr (4, [.ref hi, .int (0 : Int32), .ref na, .ref tr, .ref od])), (hi, .inl (G.2.2.2, 4, .inr (.inr (.inr (.inr (g4 q0 q1 q2 q3)))))), (q0, .inr (3, V0)), (q1, .inr (3, V1)), (q2, .inr (3, V2)), (q3, .inr (3, V3)), (na, .inr (3, Vn)), (tr, .inr (3, Vt))] := hD
  refine lv_aload_n hx hb dX5_undo_0 rfl (lv_at hl 0 rfl) ?_
  refine va_get (D := G.1) (ci := 4) (v := .int (0 : Int32)) (C := RX5) (T := TX5) (N := 5) hx hb hts hX5 hown hK.1 hP 0 rfl rfl 1 (by decide) (hts _ tw_145) (fun _ h9 => h9) rfl dX5_undo_1 ?_
  refine lv_if_ne (tgt := 10) hx hb dX5_undo_4 (by decide) (fun c_ => absurd c_ (by decide)) (fun _ => ?_)
  refine lv_ldc (v := (-1000002 : Int32)) hx hb hown (hts _ tw_271) dX5_undo_7 ?_
  exact g_iretC hx hb hr hlocks hP hD hS dX5_undo_9
set_option maxHeartbeats 4000000 in
set_option maxRecDepth 100000 in
theorem qX5_undo_k1 (l : Launch) (G : gT) (x hi q0 q1 q2 q3 na tr od : Nat) (V0 V1 V2 V3 Vn Vt : List Value) : gC l G yX5_undo wsX5_undo rmX5_undo [.ref x] (tsS G x hi q0 q1 q2 q3 na tr (1 : Int32) na tr od (g4 q0 q1 q2 q3) V0 V1 V2 V3 Vn Vt) (some (.int (0 : Int32))) (tsS G x hi q0 q1 q2 q3 na tr (0 : Int32) q0 tr od (g4 na q1 q2 q3) V0 V1 V2 V3 Vn Vt) := by
  refine gC.of (cc := cX5_undo) (maxL := 2) (ret := (some .int)) (by decide) rfl (Nat.le_of_ble_eq_true rfl) ?_
  intro p e s m below meth c C0 hP hD hS ls hl
  obtain ⟨hx, hb, hr, hts, hown, hlocks, hml, hK⟩ := id C0
  have hl : lv_has ls 2 [(0, .ref x)] := hl
  have hA : ∀ q : Nat, s.heap.size ≤ q → va_A (tsS G x hi q0 q1 q2 q3 na tr (1 : Int32) na tr od (g4 q0 q1 q2 q3) V0 V1 V2 V3 Vn Vt) s.heap.size q := fun q h => Or.inr h
  have hP : va_P G.1 vwCl [(x, .inr (4, [.ref hi, .int (1 : Int32), .ref na, .ref tr, .ref od])), (hi, .inl (G.2.2.2, 4, .inr (.inr (.inr (.inr (g4 q0 q1 q2 q3)))))), (q0, .inr (3, V0)), (q1, .inr (3, V1)), (q2, .inr (3, V2)), (q3, .inr (3, V3)), (na, .inr (3, Vn)), (tr, .inr (3, Vt))] s.heap := hP
  have hD : va_D (va_A (tsS G x hi q0 q1 q2 q3 na tr (1 : Int32) na tr od (g4 q0 q1 q2 q3) V0 V1 V2 V3 Vn Vt) s.heap.size) [(x, .inr (4, [.ref hi, .int (1 : Int32), .ref na, .ref tr, .ref od])), (hi, .inl (G.2.2.2, 4, .inr (.inr (.inr (.inr (g4 q0 q1 q2 q3)))))), (q0, .inr (3, V0)), (q1, .inr (3, V1)), (q2, .inr (3, V2)), (q3, .inr (3, V3)), (na, .inr (3, Vn)), (tr, .inr (3, Vt))] := hD
  refine lv_aload_n hx hb dX5_undo_0 rfl (lv_at hl 0 rfl) ?_
  refine va_get (D := G.1) (ci := 4) (v := .int (1 : Int32)) (C := RX5) (T := TX5) (N := 5) hx hb hts hX5 hown hK.1 hP 0 rfl rfl 1 (by decide) (hts _ tw_145) (fun _ h9 => h9) rfl dX5_undo_1 ?_
  refine lv_if_ne (tgt := 10) hx hb dX5_undo_4 (by decide) (fun _ => ?_) (fun c_ => absurd c_ (by decide))
  refine lv_aload_n hx hb dX5_undo_10 rfl (lv_at hl 0 rfl) ?_
  refine lv_dup hx hb dX5_undo_11 rfl ?_
  refine va_get (D := G.1) (ci := 4) (v := .int (1 : Int32)) (C := RX5) (T := TX5) (N := 5) hx hb hts hX5 hown hK.1 hP 0 rfl rfl 1 (by decide) (hts _ tw_145) (fun _ h9 => h9) rfl dX5_undo_12 ?_
  refine lv_iconst (v := (1 : Int32)) hx hb dX5_undo_15 (by decide) ?_
  refine lv_isub hx hb dX5_undo_16 ?_
  refine W.eq (g2 := F0 m 17 ls [.int (0 : Int32), .ref x]) rfl ?_
  refine va_put (D := G.1) (ci := 4) (v := .int (0 : Int32)) (ty := .int) (C := RX5) (T := TX5) (N := 5) hx hb hts hX5 tyX5 tyX5_ok nmX5 hown hK.1 hP hD hS 0 rfl rfl 1 (by decide) (hts _ tw_145) (fun _ h9 => h9) rfl (by decide +kernel) rfl rfl (Nat.le_of_ble_eq_true rfl) dX5_undo_17 (fun H locs hP hD hS => ?_)
  have hP : va_P G.1 vwCl [(x, .inr (4, [.ref hi, .int (0 : Int32), .ref na, .ref tr, .ref od])), (hi, .inl (G.2.2.2, 4, .inr (.inr (.inr (.inr (g4 q0 q1 q2 q3)))))), (q0, .inr (3, V0)), (q1, .inr (3, V1)), (q2, .inr (3, V2)), (q3, .inr (3, V3)), (na, .inr (3, Vn)), (tr, .inr (3, Vt))] H := hP
  have hD : va_D (va_A (tsS G x hi q0 q1 q2 q3 na tr (1 : Int32) na tr od (g4 q0 q1 q2 q3) V0 V1 V2 V3 Vn Vt) s.heap.size) [(x, .inr (4, [.ref hi, .int (0 : Int32), .ref na, .ref tr, .ref od])), (hi, .inl (G.2.2.2, 4, .inr (.inr (.inr (.inr (g4 q0 q1 q2 q3)))))), (q0, .inr (3, V0)), (q1, .inr (3, V1)), (q2, .inr (3, V2)), (q3, .inr (3, V3)), (na, .inr (3, Vn)), (tr, .inr (3, Vt))] := hD
  refine lv_aload_n hx hb dX5_undo_20 rfl (lv_at hl 0 rfl) ?_
  refine va_get (D := G.1) (ci := 4) (v := .ref na) (C := RX5) (T := TX5) (N := 5) hx hb hts hX5 hown hK.1 hP 0 rfl rfl 2 (by decide) (hts _ tw_146) (fun _ h9 => h9) rfl dX5_undo_21 ?_
  refine lv_astore_n (lv' := [(1, .ref na), (0, .ref x)]) hx hb dX5_undo_24 rfl hl (by decide) rfl (fun ls hl => ?_)
  refine lv_aload_n hx hb dX5_undo_25 rfl (lv_at hl 1 rfl) ?_
  refine lv_aload_n hx hb dX5_undo_26 rfl (lv_at hl 1 rfl) ?_
  refine va_get (D := G.1) (ci := 4) (v := .ref hi) (C := RX5) (T := TX5) (N := 5) hx hb hts hX5 hown hK.1 hP 0 rfl rfl 0 (by decide) (hts _ tw_144) (fun _ h9 => h9) rfl dX5_undo_27 ?_
  refine lv_aload_n hx hb dX5_undo_30 rfl (lv_at hl 1 rfl) ?_
  refine va_get (D := G.1) (ci := 4) (v := .int (0 : Int32)) (C := RX5) (T := TX5) (N := 5) hx hb hts hX5 hown hK.1 hP 0 rfl rfl 1 (by decide) (hts _ tw_145) (fun _ h9 => h9) rfl dX5_undo_31 ?_
  refine va_aldq hx hb hK.1 hP 1 2 rfl rfl (g_in_vp (by decide)) dX5_undo_34 ?_
  refine W.eq (g2 := F0 m 35 ls [.ref q0, .ref x]) rfl ?_
  refine va_put (D := G.1) (ci := 4) (v := .ref q0) (ty := .object "TwoShapes$Table") (C := RX5) (T := TX5) (N := 5) hx hb hts hX5 tyX5 tyX5_ok nmX5 hown hK.1 hP hD hS 0 rfl rfl 2 (by decide) (hts _ tw_146) (fun _ h9 => h9) rfl (by decide +kernel) rfl rfl (Nat.le_of_ble_eq_true rfl) dX5_undo_35 (fun H locs hP hD hS => ?_)
  have hP : va_P G.1 vwCl [(x, .inr (4, [.ref hi, .int (0 : Int32), .ref q0, .ref tr, .ref od])), (hi, .inl (G.2.2.2, 4, .inr (.inr (.inr (.inr (g4 q0 q1 q2 q3)))))), (q0, .inr (3, V0)), (q1, .inr (3, V1)), (q2, .inr (3, V2)), (q3, .inr (3, V3)), (na, .inr (3, Vn)), (tr, .inr (3, Vt))] H := hP
  have hD : va_D (va_A (tsS G x hi q0 q1 q2 q3 na tr (1 : Int32) na tr od (g4 q0 q1 q2 q3) V0 V1 V2 V3 Vn Vt) s.heap.size) [(x, .inr (4, [.ref hi, .int (0 : Int32), .ref q0, .ref tr, .ref od])), (hi, .inl (G.2.2.2, 4, .inr (.inr (.inr (.inr (g4 q0 q1 q2 q3)))))), (q0, .inr (3, V0)), (q1, .inr (3, V1)), (q2, .inr (3, V2)), (q3, .inr (3, V3)), (na, .inr (3, Vn)), (tr, .inr (3, Vt))] := hD
  refine lv_aload_n hx hb dX5_undo_38 rfl (lv_at hl 1 rfl) ?_
  refine va_get (D := G.1) (ci := 4) (v := .ref hi) (C := RX5) (T := TX5) (N := 5) hx hb hts hX5 hown hK.1 hP 0 rfl rfl 0 (by decide) (hts _ tw_144) (fun _ h9 => h9) rfl dX5_undo_39 ?_
  refine lv_aload_n hx hb dX5_undo_42 rfl (lv_at hl 1 rfl) ?_
  refine va_get (D := G.1) (ci := 4) (v := .int (0 : Int32)) (C := RX5) (T := TX5) (N := 5) hx hb hts hX5 hown hK.1 hP 0 rfl rfl 1 (by decide) (hts _ tw_145) (fun _ h9 => h9) rfl dX5_undo_43 ?_
  refine lv_aload_n hx hb dX5_undo_46 rfl (lv_at hl 0 rfl) ?_
  refine va_astq (r := (RX4, TX4, 11)) hx hb hK.1 hP hD hS 1 2 6 3 rfl rfl rfl rfl (g_in_vp (by decide)) dX5_undo_47 (fun H locs hP hD hS => ?_)
  rw [g4u0] at hP hD
  have hP : va_P G.1 vwCl [(x, .inr (4, [.ref hi, .int (0 : Int32), .ref q0, .ref tr, .ref od])), (hi, .inl (G.2.2.2, 4, .inr (.inr (.inr (.inr (g4 na q1 q2 q3)))))), (q0, .inr (3, V0)), (q1, .inr (3, V1)), (q2, .inr (3, V2)), (q3, .inr (3, V3)), (na, .inr (3, Vn)), (tr, .inr (3, Vt))] H := hP
  have hD : va_D (va_A (tsS G x hi q0 q1 q2 q3 na tr (1 : Int32) na tr od (g4 q0 q1 q2 q3) V0 V1 V2 V3 Vn Vt) s.heap.size) [(x, .inr (4, [.ref hi, .int (0 : Int32), .ref q0, .ref tr, .ref od])), (hi, .inl (G.2.2.2, 4, .inr (.inr (.inr (.inr (g4 na q1 q2 q3)))))), (q0, .inr (3, V0)), (q1, .inr (3, V1)), (q2, .inr (3, V2)), (q3, .inr (3, V3)), (na, .inr (3, Vn)), (tr, .inr (3, Vt))] := hD
  refine lv_aload_n hx hb dX5_undo_48 rfl (lv_at hl 1 rfl) ?_
  refine va_get (D := G.1) (ci := 4) (v := .int (0 : Int32)) (C := RX5) (T := TX5) (N := 5) hx hb hts hX5 hown hK.1 hP 0 rfl rfl 1 (by decide) (hts _ tw_145) (fun _ h9 => h9) rfl dX5_undo_49 ?_
  exact g_iretC hx hb hr hlocks hP hD hS dX5_undo_52
set_option maxHeartbeats 4000000 in
set_option maxRecDepth 100000 in
theorem qX5_undo_k2 (l : Launch) (G : gT) (x hi q0 q1 q2 q3 na tr od : Nat) (V0 V1 V2 V3 Vn Vt : List Value) : gC l G yX5_undo wsX5_undo rmX5_undo [.ref x] (tsS G x hi q0 q1 q2 q3 na tr (2 : Int32) na tr od (g4 q0 q1 q2 q3) V0 V1 V2 V3 Vn Vt) (some (.int (1 : Int32))) (tsS G x hi q0 q1 q2 q3 na tr (1 : Int32) q1 tr od (g4 q0 na q2 q3) V0 V1 V2 V3 Vn Vt) := by
  refine gC.of (cc := cX5_undo) (maxL := 2) (ret := (some .int)) (by decide) rfl (Nat.le_of_ble_eq_true rfl) ?_
  intro p e s m below meth c C0 hP hD hS ls hl
  obtain ⟨hx, hb, hr, hts, hown, hlocks, hml, hK⟩ := id C0
  have hl : lv_has ls 2 [(0, .ref x)] := hl
  have hA : ∀ q : Nat, s.heap.size ≤ q → va_A (tsS G x hi q0 q1 q2 q3 na tr (2 : Int32) na tr od (g4 q0 q1 q2 q3) V0 V1 V2 V3 Vn Vt) s.heap.size q := fun q h => Or.inr h
  have hP : va_P G.1 vwCl [(x, .inr (4, [.ref hi, .int (2 : Int32), .ref na, .ref tr, .ref od])), (hi, .inl (G.2.2.2, 4, .inr (.inr (.inr (.inr (g4 q0 q1 q2 q3)))))), (q0, .inr (3, V0)), (q1, .inr (3, V1)), (q2, .inr (3, V2)), (q3, .inr (3, V3)), (na, .inr (3, Vn)), (tr, .inr (3, Vt))] s.heap := hP
  have hD : va_D (va_A (tsS G x hi q0 q1 q2 q3 na tr (2 : Int32) na tr od (g4 q0 q1 q2 q3) V0 V1 V2 V3 Vn Vt) s.heap.size) [(x, .inr (4, [.ref hi, .int (2 : Int32), .ref na, .ref tr, .ref od])), (hi, .inl (G.2.2.2, 4, .inr (.inr (.inr (.inr (g4 q0 q1 q2 q3)))))), (q0, .inr (3, V0)), (q1, .inr (3, V1)), (q2, .inr (3, V2)), (q3, .inr (3, V3)), (na, .inr (3, Vn)), (tr, .inr (3, Vt))] := hD
  refine lv_aload_n hx hb dX5_undo_0 rfl (lv_at hl 0 rfl) ?_
  refine va_get (D := G.1) (ci := 4) (v := .int (2 : Int32)) (C := RX5) (T := TX5) (N := 5) hx hb hts hX5 hown hK.1 hP 0 rfl rfl 1 (by decide) (hts _ tw_145) (fun _ h9 => h9) rfl dX5_undo_1 ?_
  refine lv_if_ne (tgt := 10) hx hb dX5_undo_4 (by decide) (fun _ => ?_) (fun c_ => absurd c_ (by decide))
  refine lv_aload_n hx hb dX5_undo_10 rfl (lv_at hl 0 rfl) ?_
  refine lv_dup hx hb dX5_undo_11 rfl ?_
  refine va_get (D := G.1) (ci := 4) (v := .int (2 : Int32)) (C := RX5) (T := TX5) (N := 5) hx hb hts hX5 hown hK.1 hP 0 rfl rfl 1 (by decide) (hts _ tw_145) (fun _ h9 => h9) rfl dX5_undo_12 ?_
  refine lv_iconst (v := (1 : Int32)) hx hb dX5_undo_15 (by decide) ?_
  refine lv_isub hx hb dX5_undo_16 ?_
  refine W.eq (g2 := F0 m 17 ls [.int (1 : Int32), .ref x]) rfl ?_
  refine va_put (D := G.1) (ci := 4) (v := .int (1 : Int32)) (ty := .int) (C := RX5) (T := TX5) (N := 5) hx hb hts hX5 tyX5 tyX5_ok nmX5 hown hK.1 hP hD hS 0 rfl rfl 1 (by decide) (hts _ tw_145) (fun _ h9 => h9) rfl (by decide +kernel) rfl rfl (Nat.le_of_ble_eq_true rfl) dX5_undo_17 (fun H locs hP hD hS => ?_)
  have hP : va_P G.1 vwCl [(x, .inr (4, [.ref hi, .int (1 : Int32), .ref na, .ref tr, .ref od])), (hi, .inl (G.2.2.2, 4, .inr (.inr (.inr (.inr (g4 q0 q1 q2 q3)))))), (q0, .inr (3, V0)), (q1, .inr (3, V1)), (q2, .inr (3, V2)), (q3, .inr (3, V3)), (na, .inr (3, Vn)), (tr, .inr (3, Vt))] H := hP
  have hD : va_D (va_A (tsS G x hi q0 q1 q2 q3 na tr (2 : Int32) na tr od (g4 q0 q1 q2 q3) V0 V1 V2 V3 Vn Vt) s.heap.size) [(x, .inr (4, [.ref hi, .int (1 : Int32), .ref na, .ref tr, .ref od])), (hi, .inl (G.2.2.2, 4, .inr (.inr (.inr (.inr (g4 q0 q1 q2 q3)))))), (q0, .inr (3, V0)), (q1, .inr (3, V1)), (q2, .inr (3, V2)), (q3, .inr (3, V3)), (na, .inr (3, Vn)), (tr, .inr (3, Vt))] := hD
  refine lv_aload_n hx hb dX5_undo_20 rfl (lv_at hl 0 rfl) ?_
  refine va_get (D := G.1) (ci := 4) (v := .ref na) (C := RX5) (T := TX5) (N := 5) hx hb hts hX5 hown hK.1 hP 0 rfl rfl 2 (by decide) (hts _ tw_146) (fun _ h9 => h9) rfl dX5_undo_21 ?_
  refine lv_astore_n (lv' := [(1, .ref na), (0, .ref x)]) hx hb dX5_undo_24 rfl hl (by decide) rfl (fun ls hl => ?_)
  refine lv_aload_n hx hb dX5_undo_25 rfl (lv_at hl 1 rfl) ?_
  refine lv_aload_n hx hb dX5_undo_26 rfl (lv_at hl 1 rfl) ?_
  refine va_get (D := G.1) (ci := 4) (v := .ref hi) (C := RX5) (T := TX5) (N := 5) hx hb hts hX5 hown hK.1 hP 0 rfl rfl 0 (by decide) (hts _ tw_144) (fun _ h9 => h9) rfl dX5_undo_27 ?_
  refine lv_aload_n hx hb dX5_undo_30 rfl (lv_at hl 1 rfl) ?_
  refine va_get (D := G.1) (ci := 4) (v := .int (1 : Int32)) (C := RX5) (T := TX5) (N := 5) hx hb hts hX5 hown hK.1 hP 0 rfl rfl 1 (by decide) (hts _ tw_145) (fun _ h9 => h9) rfl dX5_undo_31 ?_
  refine va_aldq hx hb hK.1 hP 1 2 rfl rfl (g_in_vp (by decide)) dX5_undo_34 ?_
  refine W.eq (g2 := F0 m 35 ls [.ref q1, .ref x]) rfl ?_
  refine va_put (D := G.1) (ci := 4) (v := .ref q1) (ty := .object "TwoShapes$Table") (C := RX5) (T := TX5) (N := 5) hx hb hts hX5 tyX5 tyX5_ok nmX5 hown hK.1 hP hD hS 0 rfl rfl 2 (by decide) (hts _ tw_146) (fun _ h9 => h9) rfl (by decide +kernel) rfl rfl (Nat.le_of_ble_eq_true rfl) dX5_undo_35 (fun H locs hP hD hS => ?_)
  have hP : va_P G.1 vwCl [(x, .inr (4, [.ref hi, .int (1 : Int32), .ref q1, .ref tr, .ref od])), (hi, .inl (G.2.2.2, 4, .inr (.inr (.inr (.inr (g4 q0 q1 q2 q3)))))), (q0, .inr (3, V0)), (q1, .inr (3, V1)), (q2, .inr (3, V2)), (q3, .inr (3, V3)), (na, .inr (3, Vn)), (tr, .inr (3, Vt))] H := hP
  have hD : va_D (va_A (tsS G x hi q0 q1 q2 q3 na tr (2 : Int32) na tr od (g4 q0 q1 q2 q3) V0 V1 V2 V3 Vn Vt) s.heap.size) [(x, .inr (4, [.ref hi, .int (1 : Int32), .ref q1, .ref tr, .ref od])), (hi, .inl (G.2.2.2, 4, .inr (.inr (.inr (.inr (g4 q0 q1 q2 q3)))))), (q0, .inr (3, V0)), (q1, .inr (3, V1)), (q2, .inr (3, V2)), (q3, .inr (3, V3)), (na, .inr (3, Vn)), (tr, .inr (3, Vt))] := hD
  refine lv_aload_n hx hb dX5_undo_38 rfl (lv_at hl 1 rfl) ?_
  refine va_get (D := G.1) (ci := 4) (v := .ref hi) (C := RX5) (T := TX5) (N := 5) hx hb hts hX5 hown hK.1 hP 0 rfl rfl 0 (by decide) (hts _ tw_144) (fun _ h9 => h9) rfl dX5_undo_39 ?_
  refine lv_aload_n hx hb dX5_undo_42 rfl (lv_at hl 1 rfl) ?_
  refine va_get (D := G.1) (ci := 4) (v := .int (1 : Int32)) (C := RX5) (T := TX5) (N := 5) hx hb hts hX5 hown hK.1 hP 0 rfl rfl 1 (by decide) (hts _ tw_145) (fun _ h9 => h9) rfl dX5_undo_43 ?_
  refine lv_aload_n hx hb dX5_undo_46 rfl (lv_at hl 0 rfl) ?_
  refine va_astq (r := (RX4, TX4, 11)) hx hb hK.1 hP hD hS 1 2 6 3 rfl rfl rfl rfl (g_in_vp (by decide)) dX5_undo_47 (fun H locs hP hD hS => ?_)
  rw [g4u1] at hP hD
  have hP : va_P G.1 vwCl [(x, .inr (4, [.ref hi, .int (1 : Int32), .ref q1, .ref tr, .ref od])), (hi, .inl (G.2.2.2, 4, .inr (.inr (.inr (.inr (g4 q0 na q2 q3)))))), (q0, .inr (3, V0)), (q1, .inr (3, V1)), (q2, .inr (3, V2)), (q3, .inr (3, V3)), (na, .inr (3, Vn)), (tr, .inr (3, Vt))] H := hP
  have hD : va_D (va_A (tsS G x hi q0 q1 q2 q3 na tr (2 : Int32) na tr od (g4 q0 q1 q2 q3) V0 V1 V2 V3 Vn Vt) s.heap.size) [(x, .inr (4, [.ref hi, .int (1 : Int32), .ref q1, .ref tr, .ref od])), (hi, .inl (G.2.2.2, 4, .inr (.inr (.inr (.inr (g4 q0 na q2 q3)))))), (q0, .inr (3, V0)), (q1, .inr (3, V1)), (q2, .inr (3, V2)), (q3, .inr (3, V3)), (na, .inr (3, Vn)), (tr, .inr (3, Vt))] := hD
  refine lv_aload_n hx hb dX5_undo_48 rfl (lv_at hl 1 rfl) ?_
  refine va_get (D := G.1) (ci := 4) (v := .int (1 : Int32)) (C := RX5) (T := TX5) (N := 5) hx hb hts hX5 hown hK.1 hP 0 rfl rfl 1 (by decide) (hts _ tw_145) (fun _ h9 => h9) rfl dX5_undo_49 ?_
  exact g_iretC hx hb hr hlocks hP hD hS dX5_undo_52
set_option maxHeartbeats 4000000 in
set_option maxRecDepth 100000 in
theorem qX5_undo_k3 (l : Launch) (G : gT) (x hi q0 q1 q2 q3 na tr od : Nat) (V0 V1 V2 V3 Vn Vt : List Value) : gC l G yX5_undo wsX5_undo rmX5_undo [.ref x] (tsS G x hi q0 q1 q2 q3 na tr (3 : Int32) na tr od (g4 q0 q1 q2 q3) V0 V1 V2 V3 Vn Vt) (some (.int (2 : Int32))) (tsS G x hi q0 q1 q2 q3 na tr (2 : Int32) q2 tr od (g4 q0 q1 na q3) V0 V1 V2 V3 Vn Vt) := by
  refine gC.of (cc := cX5_undo) (maxL := 2) (ret := (some .int)) (by decide) rfl (Nat.le_of_ble_eq_true rfl) ?_
  intro p e s m below meth c C0 hP hD hS ls hl
  obtain ⟨hx, hb, hr, hts, hown, hlocks, hml, hK⟩ := id C0
  have hl : lv_has ls 2 [(0, .ref x)] := hl
  have hA : ∀ q : Nat, s.heap.size ≤ q → va_A (tsS G x hi q0 q1 q2 q3 na tr (3 : Int32) na tr od (g4 q0 q1 q2 q3) V0 V1 V2 V3 Vn Vt) s.heap.size q := fun q h => Or.inr h
  have hP : va_P G.1 vwCl [(x, .inr (4, [.ref hi, .int (3 : Int32), .ref na, .ref tr, .ref od])), (hi, .inl (G.2.2.2, 4, .inr (.inr (.inr (.inr (g4 q0 q1 q2 q3)))))), (q0, .inr (3, V0)), (q1, .inr (3, V1)), (q2, .inr (3, V2)), (q3, .inr (3, V3)), (na, .inr (3, Vn)), (tr, .inr (3, Vt))] s.heap := hP
  have hD : va_D (va_A (tsS G x hi q0 q1 q2 q3 na tr (3 : Int32) na tr od (g4 q0 q1 q2 q3) V0 V1 V2 V3 Vn Vt) s.heap.size) [(x, .inr (4, [.ref hi, .int (3 : Int32), .ref na, .ref tr, .ref od])), (hi, .inl (G.2.2.2, 4, .inr (.inr (.inr (.inr (g4 q0 q1 q2 q3)))))), (q0, .inr (3, V0)), (q1, .inr (3, V1)), (q2, .inr (3, V2)), (q3, .inr (3, V3)), (na, .inr (3, Vn)), (tr, .inr (3, Vt))] := hD
  refine lv_aload_n hx hb dX5_undo_0 rfl (lv_at hl 0 rfl) ?_
  refine va_get (D := G.1) (ci := 4) (v := .int (3 : Int32)) (C := RX5) (T := TX5) (N := 5) hx hb hts hX5 hown hK.1 hP 0 rfl rfl 1 (by decide) (hts _ tw_145) (fun _ h9 => h9) rfl dX5_undo_1 ?_
  refine lv_if_ne (tgt := 10) hx hb dX5_undo_4 (by decide) (fun _ => ?_) (fun c_ => absurd c_ (by decide))
  refine lv_aload_n hx hb dX5_undo_10 rfl (lv_at hl 0 rfl) ?_
  refine lv_dup hx hb dX5_undo_11 rfl ?_
  refine va_get (D := G.1) (ci := 4) (v := .int (3 : Int32)) (C := RX5) (T := TX5) (N := 5) hx hb hts hX5 hown hK.1 hP 0 rfl rfl 1 (by decide) (hts _ tw_145) (fun _ h9 => h9) rfl dX5_undo_12 ?_
  refine lv_iconst (v := (1 : Int32)) hx hb dX5_undo_15 (by decide) ?_
  refine lv_isub hx hb dX5_undo_16 ?_
  refine W.eq (g2 := F0 m 17 ls [.int (2 : Int32), .ref x]) rfl ?_
  refine va_put (D := G.1) (ci := 4) (v := .int (2 : Int32)) (ty := .int) (C := RX5) (T := TX5) (N := 5) hx hb hts hX5 tyX5 tyX5_ok nmX5 hown hK.1 hP hD hS 0 rfl rfl 1 (by decide) (hts _ tw_145) (fun _ h9 => h9) rfl (by decide +kernel) rfl rfl (Nat.le_of_ble_eq_true rfl) dX5_undo_17 (fun H locs hP hD hS => ?_)
  have hP : va_P G.1 vwCl [(x, .inr (4, [.ref hi, .int (2 : Int32), .ref na, .ref tr, .ref od])), (hi, .inl (G.2.2.2, 4, .inr (.inr (.inr (.inr (g4 q0 q1 q2 q3)))))), (q0, .inr (3, V0)), (q1, .inr (3, V1)), (q2, .inr (3, V2)), (q3, .inr (3, V3)), (na, .inr (3, Vn)), (tr, .inr (3, Vt))] H := hP
  have hD : va_D (va_A (tsS G x hi q0 q1 q2 q3 na tr (3 : Int32) na tr od (g4 q0 q1 q2 q3) V0 V1 V2 V3 Vn Vt) s.heap.size) [(x, .inr (4, [.ref hi, .int (2 : Int32), .ref na, .ref tr, .ref od])), (hi, .inl (G.2.2.2, 4, .inr (.inr (.inr (.inr (g4 q0 q1 q2 q3)))))), (q0, .inr (3, V0)), (q1, .inr (3, V1)), (q2, .inr (3, V2)), (q3, .inr (3, V3)), (na, .inr (3, Vn)), (tr, .inr (3, Vt))] := hD
  refine lv_aload_n hx hb dX5_undo_20 rfl (lv_at hl 0 rfl) ?_
  refine va_get (D := G.1) (ci := 4) (v := .ref na) (C := RX5) (T := TX5) (N := 5) hx hb hts hX5 hown hK.1 hP 0 rfl rfl 2 (by decide) (hts _ tw_146) (fun _ h9 => h9) rfl dX5_undo_21 ?_
  refine lv_astore_n (lv' := [(1, .ref na), (0, .ref x)]) hx hb dX5_undo_24 rfl hl (by decide) rfl (fun ls hl => ?_)
  refine lv_aload_n hx hb dX5_undo_25 rfl (lv_at hl 1 rfl) ?_
  refine lv_aload_n hx hb dX5_undo_26 rfl (lv_at hl 1 rfl) ?_
  refine va_get (D := G.1) (ci := 4) (v := .ref hi) (C := RX5) (T := TX5) (N := 5) hx hb hts hX5 hown hK.1 hP 0 rfl rfl 0 (by decide) (hts _ tw_144) (fun _ h9 => h9) rfl dX5_undo_27 ?_
  refine lv_aload_n hx hb dX5_undo_30 rfl (lv_at hl 1 rfl) ?_
  refine va_get (D := G.1) (ci := 4) (v := .int (2 : Int32)) (C := RX5) (T := TX5) (N := 5) hx hb hts hX5 hown hK.1 hP 0 rfl rfl 1 (by decide) (hts _ tw_145) (fun _ h9 => h9) rfl dX5_undo_31 ?_
  refine va_aldq hx hb hK.1 hP 1 2 rfl rfl (g_in_vp (by decide)) dX5_undo_34 ?_
  refine W.eq (g2 := F0 m 35 ls [.ref q2, .ref x]) rfl ?_
  refine va_put (D := G.1) (ci := 4) (v := .ref q2) (ty := .object "TwoShapes$Table") (C := RX5) (T := TX5) (N := 5) hx hb hts hX5 tyX5 tyX5_ok nmX5 hown hK.1 hP hD hS 0 rfl rfl 2 (by decide) (hts _ tw_146) (fun _ h9 => h9) rfl (by decide +kernel) rfl rfl (Nat.le_of_ble_eq_true rfl) dX5_undo_35 (fun H locs hP hD hS => ?_)
  have hP : va_P G.1 vwCl [(x, .inr (4, [.ref hi, .int (2 : Int32), .ref q2, .ref tr, .ref od])), (hi, .inl (G.2.2.2, 4, .inr (.inr (.inr (.inr (g4 q0 q1 q2 q3)))))), (q0, .inr (3, V0)), (q1, .inr (3, V1)), (q2, .inr (3, V2)), (q3, .inr (3, V3)), (na, .inr (3, Vn)), (tr, .inr (3, Vt))] H := hP
  have hD : va_D (va_A (tsS G x hi q0 q1 q2 q3 na tr (3 : Int32) na tr od (g4 q0 q1 q2 q3) V0 V1 V2 V3 Vn Vt) s.heap.size) [(x, .inr (4, [.ref hi, .int (2 : Int32), .ref q2, .ref tr, .ref od])), (hi, .inl (G.2.2.2, 4, .inr (.inr (.inr (.inr (g4 q0 q1 q2 q3)))))), (q0, .inr (3, V0)), (q1, .inr (3, V1)), (q2, .inr (3, V2)), (q3, .inr (3, V3)), (na, .inr (3, Vn)), (tr, .inr (3, Vt))] := hD
  refine lv_aload_n hx hb dX5_undo_38 rfl (lv_at hl 1 rfl) ?_
  refine va_get (D := G.1) (ci := 4) (v := .ref hi) (C := RX5) (T := TX5) (N := 5) hx hb hts hX5 hown hK.1 hP 0 rfl rfl 0 (by decide) (hts _ tw_144) (fun _ h9 => h9) rfl dX5_undo_39 ?_
  refine lv_aload_n hx hb dX5_undo_42 rfl (lv_at hl 1 rfl) ?_
  refine va_get (D := G.1) (ci := 4) (v := .int (2 : Int32)) (C := RX5) (T := TX5) (N := 5) hx hb hts hX5 hown hK.1 hP 0 rfl rfl 1 (by decide) (hts _ tw_145) (fun _ h9 => h9) rfl dX5_undo_43 ?_
  refine lv_aload_n hx hb dX5_undo_46 rfl (lv_at hl 0 rfl) ?_
  refine va_astq (r := (RX4, TX4, 11)) hx hb hK.1 hP hD hS 1 2 6 3 rfl rfl rfl rfl (g_in_vp (by decide)) dX5_undo_47 (fun H locs hP hD hS => ?_)
  rw [g4u2] at hP hD
  have hP : va_P G.1 vwCl [(x, .inr (4, [.ref hi, .int (2 : Int32), .ref q2, .ref tr, .ref od])), (hi, .inl (G.2.2.2, 4, .inr (.inr (.inr (.inr (g4 q0 q1 na q3)))))), (q0, .inr (3, V0)), (q1, .inr (3, V1)), (q2, .inr (3, V2)), (q3, .inr (3, V3)), (na, .inr (3, Vn)), (tr, .inr (3, Vt))] H := hP
  have hD : va_D (va_A (tsS G x hi q0 q1 q2 q3 na tr (3 : Int32) na tr od (g4 q0 q1 q2 q3) V0 V1 V2 V3 Vn Vt) s.heap.size) [(x, .inr (4, [.ref hi, .int (2 : Int32), .ref q2, .ref tr, .ref od])), (hi, .inl (G.2.2.2, 4, .inr (.inr (.inr (.inr (g4 q0 q1 na q3)))))), (q0, .inr (3, V0)), (q1, .inr (3, V1)), (q2, .inr (3, V2)), (q3, .inr (3, V3)), (na, .inr (3, Vn)), (tr, .inr (3, Vt))] := hD
  refine lv_aload_n hx hb dX5_undo_48 rfl (lv_at hl 1 rfl) ?_
  refine va_get (D := G.1) (ci := 4) (v := .int (2 : Int32)) (C := RX5) (T := TX5) (N := 5) hx hb hts hX5 hown hK.1 hP 0 rfl rfl 1 (by decide) (hts _ tw_145) (fun _ h9 => h9) rfl dX5_undo_49 ?_
  exact g_iretC hx hb hr hlocks hP hD hS dX5_undo_52
set_option maxHeartbeats 4000000 in
set_option maxRecDepth 100000 in
theorem qX5_undo_k4 (l : Launch) (G : gT) (x hi q0 q1 q2 q3 na tr od : Nat) (V0 V1 V2 V3 Vn Vt : List Value) : gC l G yX5_undo wsX5_undo rmX5_undo [.ref x] (tsS G x hi q0 q1 q2 q3 na tr (4 : Int32) na tr od (g4 q0 q1 q2 q3) V0 V1 V2 V3 Vn Vt) (some (.int (3 : Int32))) (tsS G x hi q0 q1 q2 q3 na tr (3 : Int32) q3 tr od (g4 q0 q1 q2 na) V0 V1 V2 V3 Vn Vt) := by
  refine gC.of (cc := cX5_undo) (maxL := 2) (ret := (some .int)) (by decide) rfl (Nat.le_of_ble_eq_true rfl) ?_
  intro p e s m below meth c C0 hP hD hS ls hl
  obtain ⟨hx, hb, hr, hts, hown, hlocks, hml, hK⟩ := id C0
  have hl : lv_has ls 2 [(0, .ref x)] := hl
  have hA : ∀ q : Nat, s.heap.size ≤ q → va_A (tsS G x hi q0 q1 q2 q3 na tr (4 : Int32) na tr od (g4 q0 q1 q2 q3) V0 V1 V2 V3 Vn Vt) s.heap.size q := fun q h => Or.inr h
  have hP : va_P G.1 vwCl [(x, .inr (4, [.ref hi, .int (4 : Int32), .ref na, .ref tr, .ref od])), (hi, .inl (G.2.2.2, 4, .inr (.inr (.inr (.inr (g4 q0 q1 q2 q3)))))), (q0, .inr (3, V0)), (q1, .inr (3, V1)), (q2, .inr (3, V2)), (q3, .inr (3, V3)), (na, .inr (3, Vn)), (tr, .inr (3, Vt))] s.heap := hP
  have hD : va_D (va_A (tsS G x hi q0 q1 q2 q3 na tr (4 : Int32) na tr od (g4 q0 q1 q2 q3) V0 V1 V2 V3 Vn Vt) s.heap.size) [(x, .inr (4, [.ref hi, .int (4 : Int32), .ref na, .ref tr, .ref od])), (hi, .inl (G.2.2.2, 4, .inr (.inr (.inr (.inr (g4 q0 q1 q2 q3)))))), (q0, .inr (3, V0)), (q1, .inr (3, V1)), (q2, .inr (3, V2)), (q3, .inr (3, V3)), (na, .inr (3, Vn)), (tr, .inr (3, Vt))] := hD
  refine lv_aload_n hx hb dX5_undo_0 rfl (lv_at hl 0 rfl) ?_
  refine va_get (D := G.1) (ci := 4) (v := .int (4 : Int32)) (C := RX5) (T := TX5) (N := 5) hx hb hts hX5 hown hK.1 hP 0 rfl rfl 1 (by decide) (hts _ tw_145) (fun _ h9 => h9) rfl dX5_undo_1 ?_
  refine lv_if_ne (tgt := 10) hx hb dX5_undo_4 (by decide) (fun _ => ?_) (fun c_ => absurd c_ (by decide))
  refine lv_aload_n hx hb dX5_undo_10 rfl (lv_at hl 0 rfl) ?_
  refine lv_dup hx hb dX5_undo_11 rfl ?_
  refine va_get (D := G.1) (ci := 4) (v := .int (4 : Int32)) (C := RX5) (T := TX5) (N := 5) hx hb hts hX5 hown hK.1 hP 0 rfl rfl 1 (by decide) (hts _ tw_145) (fun _ h9 => h9) rfl dX5_undo_12 ?_
  refine lv_iconst (v := (1 : Int32)) hx hb dX5_undo_15 (by decide) ?_
  refine lv_isub hx hb dX5_undo_16 ?_
  refine W.eq (g2 := F0 m 17 ls [.int (3 : Int32), .ref x]) rfl ?_
  refine va_put (D := G.1) (ci := 4) (v := .int (3 : Int32)) (ty := .int) (C := RX5) (T := TX5) (N := 5) hx hb hts hX5 tyX5 tyX5_ok nmX5 hown hK.1 hP hD hS 0 rfl rfl 1 (by decide) (hts _ tw_145) (fun _ h9 => h9) rfl (by decide +kernel) rfl rfl (Nat.le_of_ble_eq_true rfl) dX5_undo_17 (fun H locs hP hD hS => ?_)
  have hP : va_P G.1 vwCl [(x, .inr (4, [.ref hi, .int (3 : Int32), .ref na, .ref tr, .ref od])), (hi, .inl (G.2.2.2, 4, .inr (.inr (.inr (.inr (g4 q0 q1 q2 q3)))))), (q0, .inr (3, V0)), (q1, .inr (3, V1)), (q2, .inr (3, V2)), (q3, .inr (3, V3)), (na, .inr (3, Vn)), (tr, .inr (3, Vt))] H := hP
  have hD : va_D (va_A (tsS G x hi q0 q1 q2 q3 na tr (4 : Int32) na tr od (g4 q0 q1 q2 q3) V0 V1 V2 V3 Vn Vt) s.heap.size) [(x, .inr (4, [.ref hi, .int (3 : Int32), .ref na, .ref tr, .ref od])), (hi, .inl (G.2.2.2, 4, .inr (.inr (.inr (.inr (g4 q0 q1 q2 q3)))))), (q0, .inr (3, V0)), (q1, .inr (3, V1)), (q2, .inr (3, V2)), (q3, .inr (3, V3)), (na, .inr (3, Vn)), (tr, .inr (3, Vt))] := hD
  refine lv_aload_n hx hb dX5_undo_20 rfl (lv_at hl 0 rfl) ?_
  refine va_get (D := G.1) (ci := 4) (v := .ref na) (C := RX5) (T := TX5) (N := 5) hx hb hts hX5 hown hK.1 hP 0 rfl rfl 2 (by decide) (hts _ tw_146) (fun _ h9 => h9) rfl dX5_undo_21 ?_
  refine lv_astore_n (lv' := [(1, .ref na), (0, .ref x)]) hx hb dX5_undo_24 rfl hl (by decide) rfl (fun ls hl => ?_)
  refine lv_aload_n hx hb dX5_undo_25 rfl (lv_at hl 1 rfl) ?_
  refine lv_aload_n hx hb dX5_undo_26 rfl (lv_at hl 1 rfl) ?_
  refine va_get (D := G.1) (ci := 4) (v := .ref hi) (C := RX5) (T := TX5) (N := 5) hx hb hts hX5 hown hK.1 hP 0 rfl rfl 0 (by decide) (hts _ tw_144) (fun _ h9 => h9) rfl dX5_undo_27 ?_
  refine lv_aload_n hx hb dX5_undo_30 rfl (lv_at hl 1 rfl) ?_
  refine va_get (D := G.1) (ci := 4) (v := .int (3 : Int32)) (C := RX5) (T := TX5) (N := 5) hx hb hts hX5 hown hK.1 hP 0 rfl rfl 1 (by decide) (hts _ tw_145) (fun _ h9 => h9) rfl dX5_undo_31 ?_
  refine va_aldq hx hb hK.1 hP 1 2 rfl rfl (g_in_vp (by decide)) dX5_undo_34 ?_
  refine W.eq (g2 := F0 m 35 ls [.ref q3, .ref x]) rfl ?_
  refine va_put (D := G.1) (ci := 4) (v := .ref q3) (ty := .object "TwoShapes$Table") (C := RX5) (T := TX5) (N := 5) hx hb hts hX5 tyX5 tyX5_ok nmX5 hown hK.1 hP hD hS 0 rfl rfl 2 (by decide) (hts _ tw_146) (fun _ h9 => h9) rfl (by decide +kernel) rfl rfl (Nat.le_of_ble_eq_true rfl) dX5_undo_35 (fun H locs hP hD hS => ?_)
  have hP : va_P G.1 vwCl [(x, .inr (4, [.ref hi, .int (3 : Int32), .ref q3, .ref tr, .ref od])), (hi, .inl (G.2.2.2, 4, .inr (.inr (.inr (.inr (g4 q0 q1 q2 q3)))))), (q0, .inr (3, V0)), (q1, .inr (3, V1)), (q2, .inr (3, V2)), (q3, .inr (3, V3)), (na, .inr (3, Vn)), (tr, .inr (3, Vt))] H := hP
  have hD : va_D (va_A (tsS G x hi q0 q1 q2 q3 na tr (4 : Int32) na tr od (g4 q0 q1 q2 q3) V0 V1 V2 V3 Vn Vt) s.heap.size) [(x, .inr (4, [.ref hi, .int (3 : Int32), .ref q3, .ref tr, .ref od])), (hi, .inl (G.2.2.2, 4, .inr (.inr (.inr (.inr (g4 q0 q1 q2 q3)))))), (q0, .inr (3, V0)), (q1, .inr (3, V1)), (q2, .inr (3, V2)), (q3, .inr (3, V3)), (na, .inr (3, Vn)), (tr, .inr (3, Vt))] := hD
  refine lv_aload_n hx hb dX5_undo_38 rfl (lv_at hl 1 rfl) ?_
  refine va_get (D := G.1) (ci := 4) (v := .ref hi) (C := RX5) (T := TX5) (N := 5) hx hb hts hX5 hown hK.1 hP 0 rfl rfl 0 (by decide) (hts _ tw_144) (fun _ h9 => h9) rfl dX5_undo_39 ?_
  refine lv_aload_n hx hb dX5_undo_42 rfl (lv_at hl 1 rfl) ?_
  refine va_get (D := G.1) (ci := 4) (v := .int (3 : Int32)) (C := RX5) (T := TX5) (N := 5) hx hb hts hX5 hown hK.1 hP 0 rfl rfl 1 (by decide) (hts _ tw_145) (fun _ h9 => h9) rfl dX5_undo_43 ?_
  refine lv_aload_n hx hb dX5_undo_46 rfl (lv_at hl 0 rfl) ?_
  refine va_astq (r := (RX4, TX4, 11)) hx hb hK.1 hP hD hS 1 2 6 3 rfl rfl rfl rfl (g_in_vp (by decide)) dX5_undo_47 (fun H locs hP hD hS => ?_)
  rw [g4u3] at hP hD
  have hP : va_P G.1 vwCl [(x, .inr (4, [.ref hi, .int (3 : Int32), .ref q3, .ref tr, .ref od])), (hi, .inl (G.2.2.2, 4, .inr (.inr (.inr (.inr (g4 q0 q1 q2 na)))))), (q0, .inr (3, V0)), (q1, .inr (3, V1)), (q2, .inr (3, V2)), (q3, .inr (3, V3)), (na, .inr (3, Vn)), (tr, .inr (3, Vt))] H := hP
  have hD : va_D (va_A (tsS G x hi q0 q1 q2 q3 na tr (4 : Int32) na tr od (g4 q0 q1 q2 q3) V0 V1 V2 V3 Vn Vt) s.heap.size) [(x, .inr (4, [.ref hi, .int (3 : Int32), .ref q3, .ref tr, .ref od])), (hi, .inl (G.2.2.2, 4, .inr (.inr (.inr (.inr (g4 q0 q1 q2 na)))))), (q0, .inr (3, V0)), (q1, .inr (3, V1)), (q2, .inr (3, V2)), (q3, .inr (3, V3)), (na, .inr (3, Vn)), (tr, .inr (3, Vt))] := hD
  refine lv_aload_n hx hb dX5_undo_48 rfl (lv_at hl 1 rfl) ?_
  refine va_get (D := G.1) (ci := 4) (v := .int (3 : Int32)) (C := RX5) (T := TX5) (N := 5) hx hb hts hX5 hown hK.1 hP 0 rfl rfl 1 (by decide) (hts _ tw_145) (fun _ h9 => h9) rfl dX5_undo_49 ?_
  exact g_iretC hx hb hr hlocks hP hD hS dX5_undo_52
