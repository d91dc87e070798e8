-- TwoShapes$Table.drainQueue(I)I
abbrev rmX4_drainQueue : Room := { frames := 2, cells := 0, slots := 0, locals := 45 }
def fX4_drainQueue_b51 : Nat → Int32 → Int32 → Int32 → Int32 → Int32 → Int32 → (Nat → Int32) → (Nat → Int32) → (Nat → Int32) → (Nat → Int32) → Int32 → (Nat → Int32) → (Nat → Int32) → (Nat → Int32) → (Nat → Int32) → Int32 → (Nat → Int32) → (Nat → Int32) → Option (Int32 × Int32 × Int32 × Int32 × Int32 × (Nat → Int32) × (Nat → Int32) × (Nat → Int32) × (Nat → Int32) × Int32 × (Nat → Int32) × (Nat → Int32) × (Nat → Int32) × (Nat → Int32) × Int32 × (Nat → Int32) × (Nat → Int32))
  | 0, _, _, _, _, _, _, _, _, _, _, _, _, _, _, _, _, _, _ => none
  | n + 1, x2, x4, ph, la, po, lo, ov, orr, nv, nr, ql, qk, qv, qr, wr, wa, wc, wk => (if x2 ≤ x4 then ((fX1_shorten x2 ql qk qv qr).bind fun r10 => some (r10.1, ph, la, po, lo, ov, orr, nv, nr, r10.1, r10.2.1, r10.2.2.1, r10.2.2.2, wr, wa, wc, wk)) else g_gd (g_in x4 8) (g_gd (g_in x4 8) (g_gd (g_in x4 8) (((fX3_take (qk x4.toNatClampNeg) (qv x4.toNatClampNeg) (qr x4.toNatClampNeg) 0 ov orr).bind fun r15 => fX4_drainQueue_b51 n x2 (x4 + (1 : Int32)) ph la po lo r15.1 r15.2 nv nr ql qk qv qr wr wa wc wk)))))
set_option maxHeartbeats 4000000 in
set_option maxRecDepth 100000 in
theorem kX4_drainQueue_b51 {p : Program} {l : Launch} {e : Env} {s : State} {m : MethodId} {args : Array Value} {below : List Frame} {meth : Method} {c : Code} {G : gT} {a : Nat → Nat} {w0 : va_W} (C0 : gX p s m args meth c cX4_drainQueue 5 (some .int) RX4 G) :
    ∀ (n : Nat) (x2 : Int32) (x4 : Int32) (ph : Int32) (la : Int32) (po : Int32) (lo : Int32) (ov : Nat → Int32) (orr : Nat → Int32) (nv : Nat → Int32) (nr : Nat → Int32) (ql : Int32) (qk : Nat → Int32) (qv : Nat → Int32) (qr : Nat → Int32) (wr : Nat → Int32) (wa : Int32) (wc : Nat → Int32) (wk : Nat → Int32) (u : Int32 × Int32 × Int32 × Int32 × Int32 × (Nat → Int32) × (Nat → Int32) × (Nat → Int32) × (Nat → Int32) × Int32 × (Nat → Int32) × (Nat → Int32) × (Nat → Int32) × (Nat → Int32) × Int32 × (Nat → Int32) × (Nat → Int32)), fX4_drainQueue_b51 n x2 x4 ph la po lo ov orr nv nr ql qk qv qr wr wa wc wk = some u → ∀ (H : Heap) (locs : List Loc), va_P G.1 vwCl [((a 0), .inr (3, [.int ph, .int la, .int po, .int lo, .ref (a 1), .ref (a 4), .ref (a 7), .ref (a 11), .int wa, .ref (a 12), .ref (a 13)])), ((a 1), .inr (2, [.int 0, .ref (a 2), .ref (a 3)])), ((a 2), .inl (G.2.1, 31, .inl ov)), ((a 3), .inl (G.2.1, 31, .inl orr)), ((a 4), .inr (2, [.int 1, .ref (a 5), .ref (a 6)])), ((a 5), .inl (G.2.1, 31, .inl nv)), ((a 6), .inl (G.2.1, 31, .inl nr)), ((a 7), .inr (1, [.int ql, .ref (a 8), .ref (a 9), .ref (a 10)])), ((a 8), .inl (G.2.1, 8, .inl qk)), ((a 9), .inl (G.2.1, 8, .inl qv)), ((a 10), .inl (G.2.1, 8, .inl qr)), ((a 11), .inl (G.2.1, 31, .inl wr)), ((a 12), .inl (G.2.1, 3, .inl wc)), ((a 13), .inl (G.2.1, 3, .inl wk))] H → va_D (va_A w0 s.heap.size) [((a 0), .inr (3, [.int ph, .int la, .int po, .int lo, .ref (a 1), .ref (a 4), .ref (a 7), .ref (a 11), .int wa, .ref (a 12), .ref (a 13)])), ((a 1), .inr (2, [.int 0, .ref (a 2), .ref (a 3)])), ((a 2), .inl (G.2.1, 31, .inl ov)), ((a 3), .inl (G.2.1, 31, .inl orr)), ((a 4), .inr (2, [.int 1, .ref (a 5), .ref (a 6)])), ((a 5), .inl (G.2.1, 31, .inl nv)), ((a 6), .inl (G.2.1, 31, .inl nr)), ((a 7), .inr (1, [.int ql, .ref (a 8), .ref (a 9), .ref (a 10)])), ((a 8), .inl (G.2.1, 8, .inl qk)), ((a 9), .inl (G.2.1, 8, .inl qv)), ((a 10), .inl (G.2.1, 8, .inl qr)), ((a 11), .inl (G.2.1, 31, .inl wr)), ((a 12), .inl (G.2.1, 3, .inl wc)), ((a 13), .inl (G.2.1, 3, .inl wk))] → va_S (va_A w0 s.heap.size) s.heap H locs → ∀ ls, lv_has ls 5 [(0, .ref (a 0)), (2, .int x2), (3, .ref (a 1)), (4, .int x4)] → gW p l e (headSpec wsX4_drainQueue rmX4_drainQueue).room s m args below meth c G w0 (some (.int u.1)) (tabW G a u.2.1 u.2.2.1 u.2.2.2.1 u.2.2.2.2.1 u.2.2.2.2.2.1 u.2.2.2.2.2.2.1 u.2.2.2.2.2.2.2.1 u.2.2.2.2.2.2.2.2.1 u.2.2.2.2.2.2.2.2.2.1 u.2.2.2.2.2.2.2.2.2.2.1 u.2.2.2.2.2.2.2.2.2.2.2.1 u.2.2.2.2.2.2.2.2.2.2.2.2.1 u.2.2.2.2.2.2.2.2.2.2.2.2.2.1 u.2.2.2.2.2.2.2.2.2.2.2.2.2.2.1 u.2.2.2.2.2.2.2.2.2.2.2.2.2.2.2.1 u.2.2.2.2.2.2.2.2.2.2.2.2.2.2.2.2) H locs 51 ls [] := by
  obtain ⟨hx, hb, hr, hts, hown, hlocks, hml, hK⟩ := id C0
  have hA : ∀ q : Nat, s.heap.size ≤ q → va_A w0 s.heap.size q := fun q h => Or.inr h
  intro n
  induction n with
  | zero =>
    intro x2 x4 ph la po lo ov orr nv nr ql qk qv qr wr wa wc wk u hf H locs hP hD hS ls hl
    have hf : (none : Option (Int32 × Int32 × Int32 × Int32 × Int32 × (Nat → Int32) × (Nat → Int32) × (Nat → Int32) × (Nat → Int32) × Int32 × (Nat → Int32) × (Nat → Int32) × (Nat → Int32) × (Nat → Int32) × Int32 × (Nat → Int32) × (Nat → Int32))) = some u := hf
    cases hf
  | succ n ih =>
    intro x2 x4 ph la po lo ov orr nv nr ql qk qv qr wr wa wc wk u hf H locs hP hD hS ls hl
    rw [fX4_drainQueue_b51] at hf
    refine lv_iload hx hb dX4_drainQueue_51 (lv_at hl 3 rfl) ?_
    refine lv_iload_n hx hb dX4_drainQueue_53 rfl (lv_at hl 1 rfl) ?_
    refine lv_icmp_ge (tgt := 97) hx hb dX4_drainQueue_54 (by decide) (fun c9 => ?_) (fun c9 => ?_)
    · have hf := g_ifT c9 hf
      refine lv_aload_n hx hb dX4_drainQueue_97 rfl (lv_at hl 0 rfl) ?_
      refine va_get (D := G.1) (ci := 3) (v := .ref (a 7)) (C := RX4) (T := TX4) (N := 11) hx hb hts hX4 hown hK.1 hP 0 rfl rfl 6 (by decide) (hts _ tw_90) (fun _ h9 => h9) rfl dX4_drainQueue_98 ?_
      refine lv_iload_n hx hb dX4_drainQueue_101 rfl (lv_at hl 1 rfl) ?_
      obtain ⟨r10, e11, hf⟩ := g_bdS hf
      refine g_contC (st1 := []) (g_runVC (As := [.int x2]) (rest := []) ⟨hx, hb, hml, hown, hts⟩ (qX1_shorten l G (a 7) (a 8) (a 9) (a 10) e11) (cwV 1 hts (TB_V TB_id tw_380 tw_381 tw_382 tw_8 tw_383) rfl rfl rfl (by decide +kernel) ⟨Nat.le_of_ble_eq_true rfl, Nat.le_of_ble_eq_true rfl⟩) hK (hP.sub [7, 8, 9, 10] rfl) (hD.sub [7, 8, 9, 10] (by decide) rfl) 0 rfl rfl rfl hl.1 rfl (Nat.le_of_ble_eq_true rfl) dX4_drainQueue_102) rfl hP hD hS hA [7, 8, 9, 10] rfl rfl (fun H locs hP hD hS => ?_)
      have hP : va_P G.1 vwCl [((a 0), .inr (3, [.int ph, .int la, .int po, .int lo, .ref (a 1), .ref (a 4), .ref (a 7), .ref (a 11), .int wa, .ref (a 12), .ref (a 13)])), ((a 1), .inr (2, [.int 0, .ref (a 2), .ref (a 3)])), ((a 2), .inl (G.2.1, 31, .inl ov)), ((a 3), .inl (G.2.1, 31, .inl orr)), ((a 4), .inr (2, [.int 1, .ref (a 5), .ref (a 6)])), ((a 5), .inl (G.2.1, 31, .inl nv)), ((a 6), .inl (G.2.1, 31, .inl nr)), ((a 7), .inr (1, [.int r10.1, .ref (a 8), .ref (a 9), .ref (a 10)])), ((a 8), .inl (G.2.1, 8, .inl r10.2.1)), ((a 9), .inl (G.2.1, 8, .inl r10.2.2.1)), ((a 10), .inl (G.2.1, 8, .inl r10.2.2.2)), ((a 11), .inl (G.2.1, 31, .inl wr)), ((a 12), .inl (G.2.1, 3, .inl wc)), ((a 13), .inl (G.2.1, 3, .inl wk))] H := hP
      have hD : va_D (va_A w0 s.heap.size) [((a 0), .inr (3, [.int ph, .int la, .int po, .int lo, .ref (a 1), .ref (a 4), .ref (a 7), .ref (a 11), .int wa, .ref (a 12), .ref (a 13)])), ((a 1), .inr (2, [.int 0, .ref (a 2), .ref (a 3)])), ((a 2), .inl (G.2.1, 31, .inl ov)), ((a 3), .inl (G.2.1, 31, .inl orr)), ((a 4), .inr (2, [.int 1, .ref (a 5), .ref (a 6)])), ((a 5), .inl (G.2.1, 31, .inl nv)), ((a 6), .inl (G.2.1, 31, .inl nr)), ((a 7), .inr (1, [.int r10.1, .ref (a 8), .ref (a 9), .ref (a 10)])), ((a 8), .inl (G.2.1, 8, .inl r10.2.1)), ((a 9), .inl (G.2.1, 8, .inl r10.2.2.1)), ((a 10), .inl (G.2.1, 8, .inl r10.2.2.2)), ((a 11), .inl (G.2.1, 31, .inl wr)), ((a 12), .inl (G.2.1, 3, .inl wc)), ((a 13), .inl (G.2.1, 3, .inl wk))] := hD
      refine lv_aload_n hx hb dX4_drainQueue_105 rfl (lv_at hl 0 rfl) ?_
      refine va_get (D := G.1) (ci := 3) (v := .ref (a 7)) (C := RX4) (T := TX4) (N := 11) hx hb hts hX4 hown hK.1 hP 0 rfl rfl 6 (by decide) (hts _ tw_90) (fun _ h9 => h9) rfl dX4_drainQueue_106 ?_
      refine va_get (D := G.1) (ci := 1) (v := .int r10.1) (C := RX1) (T := TX1) (N := 4) hx hb hts hX1 hown hK.1 hP 7 rfl rfl 0 (by decide) (hts _ tw_61) (fun _ h9 => h9) rfl dX4_drainQueue_109 ?_
      cases hf
      exact g_iretC hx hb hr hlocks hP hD hS dX4_drainQueue_112
    · have hf := g_ifF c9 hf
      refine lv_aload_n hx hb dX4_drainQueue_57 rfl (lv_at hl 2 rfl) ?_
      refine lv_aload_n hx hb dX4_drainQueue_58 rfl (lv_at hl 0 rfl) ?_
      refine va_get (D := G.1) (ci := 3) (v := .ref (a 7)) (C := RX4) (T := TX4) (N := 11) hx hb hts hX4 hown hK.1 hP 0 rfl rfl 6 (by decide) (hts _ tw_90) (fun _ h9 => h9) rfl dX4_drainQueue_59 ?_
      refine va_get (D := G.1) (ci := 1) (v := .ref (a 8)) (C := RX1) (T := TX1) (N := 4) hx hb hts hX1 hown hK.1 hP 7 rfl rfl 1 (by decide) (hts _ tw_64) (fun _ h9 => h9) rfl dX4_drainQueue_62 ?_
      refine lv_iload hx hb dX4_drainQueue_65 (lv_at hl 3 rfl) ?_
      obtain ⟨g12, hf⟩ := g_gdS hf
      refine va_iald hx hb hK.1 hP 8 0 rfl rfl (g_in_vp g12) dX4_drainQueue_67 ?_
      refine lv_aload_n hx hb dX4_drainQueue_68 rfl (lv_at hl 0 rfl) ?_
      refine va_get (D := G.1) (ci := 3) (v := .ref (a 7)) (C := RX4) (T := TX4) (N := 11) hx hb hts hX4 hown hK.1 hP 0 rfl rfl 6 (by decide) (hts _ tw_90) (fun _ h9 => h9) rfl dX4_drainQueue_69 ?_
      refine va_get (D := G.1) (ci := 1) (v := .ref (a 9)) (C := RX1) (T := TX1) (N := 4) hx hb hts hX1 hown hK.1 hP 7 rfl rfl 2 (by decide) (hts _ tw_66) (fun _ h9 => h9) rfl dX4_drainQueue_72 ?_
      refine lv_iload hx hb dX4_drainQueue_75 (lv_at hl 3 rfl) ?_
      obtain ⟨g13, hf⟩ := g_gdS hf
      refine va_iald hx hb hK.1 hP 9 0 rfl rfl (g_in_vp g13) dX4_drainQueue_77 ?_
      refine lv_aload_n hx hb dX4_drainQueue_78 rfl (lv_at hl 0 rfl) ?_
      refine va_get (D := G.1) (ci := 3) (v := .ref (a 7)) (C := RX4) (T := TX4) (N := 11) hx hb hts hX4 hown hK.1 hP 0 rfl rfl 6 (by decide) (hts _ tw_90) (fun _ h9 => h9) rfl dX4_drainQueue_79 ?_
      refine va_get (D := G.1) (ci := 1) (v := .ref (a 10)) (C := RX1) (T := TX1) (N := 4) hx hb hts hX1 hown hK.1 hP 7 rfl rfl 3 (by decide) (hts _ tw_68) (fun _ h9 => h9) rfl dX4_drainQueue_82 ?_
      refine lv_iload hx hb dX4_drainQueue_85 (lv_at hl 3 rfl) ?_
      obtain ⟨g14, hf⟩ := g_gdS hf
      refine va_iald hx hb hK.1 hP 10 0 rfl rfl (g_in_vp g14) dX4_drainQueue_87 ?_
      obtain ⟨r15, e16, hf⟩ := g_bdS hf
      refine g_contC (st1 := []) (g_runVC (As := [.int (qk x4.toNatClampNeg), .int (qv x4.toNatClampNeg), .int (qr x4.toNatClampNeg)]) (rest := []) ⟨hx, hb, hml, hown, hts⟩ (qX3_take l G (a 1) (a 2) (a 3) e16) (cwV 3 hts (TB_V TB_id tw_332 tw_333 tw_334 tw_7 tw_335) rfl rfl rfl (by decide +kernel) ⟨Nat.le_of_ble_eq_true rfl, Nat.le_of_ble_eq_true rfl⟩) hK (hP.sub [1, 2, 3] rfl) (hD.sub [1, 2, 3] (by decide) rfl) 0 rfl rfl rfl hl.1 rfl (Nat.le_of_ble_eq_true rfl) dX4_drainQueue_88) rfl hP hD hS hA [1, 2, 3] rfl rfl (fun H locs hP hD hS => ?_)
      have hP : va_P G.1 vwCl [((a 0), .inr (3, [.int ph, .int la, .int po, .int lo, .ref (a 1), .ref (a 4), .ref (a 7), .ref (a 11), .int wa, .ref (a 12), .ref (a 13)])), ((a 1), .inr (2, [.int 0, .ref (a 2), .ref (a 3)])), ((a 2), .inl (G.2.1, 31, .inl r15.1)), ((a 3), .inl (G.2.1, 31, .inl r15.2)), ((a 4), .inr (2, [.int 1, .ref (a 5), .ref (a 6)])), ((a 5), .inl (G.2.1, 31, .inl nv)), ((a 6), .inl (G.2.1, 31, .inl nr)), ((a 7), .inr (1, [.int ql, .ref (a 8), .ref (a 9), .ref (a 10)])), ((a 8), .inl (G.2.1, 8, .inl qk)), ((a 9), .inl (G.2.1, 8, .inl qv)), ((a 10), .inl (G.2.1, 8, .inl qr)), ((a 11), .inl (G.2.1, 31, .inl wr)), ((a 12), .inl (G.2.1, 3, .inl wc)), ((a 13), .inl (G.2.1, 3, .inl wk))] H := hP
      have hD : va_D (va_A w0 s.heap.size) [((a 0), .inr (3, [.int ph, .int la, .int po, .int lo, .ref (a 1), .ref (a 4), .ref (a 7), .ref (a 11), .int wa, .ref (a 12), .ref (a 13)])), ((a 1), .inr (2, [.int 0, .ref (a 2), .ref (a 3)])), ((a 2), .inl (G.2.1, 31, .inl r15.1)), ((a 3), .inl (G.2.1, 31, .inl r15.2)), ((a 4), .inr (2, [.int 1, .ref (a 5), .ref (a 6)])), ((a 5), .inl (G.2.1, 31, .inl nv)), ((a 6), .inl (G.2.1, 31, .inl nr)), ((a 7), .inr (1, [.int ql, .ref (a 8), .ref (a 9), .ref (a 10)])), ((a 8), .inl (G.2.1, 8, .inl qk)), ((a 9), .inl (G.2.1, 8, .inl qv)), ((a 10), .inl (G.2.1, 8, .inl qr)), ((a 11), .inl (G.2.1, 31, .inl wr)), ((a 12), .inl (G.2.1, 3, .inl wc)), ((a 13), .inl (G.2.1, 3, .inl wk))] := hD
      refine lv_iinc (v := (x4 + (1 : Int32))) (lv' := [(4, .int (x4 + (1 : Int32))), (0, .ref (a 0)), (2, .int x2), (3, .ref (a 1))]) hx hb dX4_drainQueue_91 hl (k := 3) rfl rfl (by decide) rfl (fun ls hl => ?_)
      refine lv_goto (tgt := 51) hx hb dX4_drainQueue_94 (by decide) ?_
      exact ih _ _ _ _ _ _ _ _ _ _ _ _ _ _ _ _ _ _ _ hf _ _ hP hD hS ls (lv_sub hl [1, 2, 3, 0] rfl)
def fX4_drainQueue_b51_1 : Nat → Int32 → Int32 → Int32 → Int32 → Int32 → Int32 → (Nat → Int32) → (Nat → Int32) → (Nat → Int32) → (Nat → Int32) → Int32 → (Nat → Int32) → (Nat → Int32) → (Nat → Int32) → (Nat → Int32) → Int32 → (Nat → Int32) → (Nat → Int32) → Option (Int32 × Int32 × Int32 × Int32 × Int32 × (Nat → Int32) × (Nat → Int32) × (Nat → Int32) × (Nat → Int32) × Int32 × (Nat → Int32) × (Nat → Int32) × (Nat → Int32) × (Nat → Int32) × Int32 × (Nat → Int32) × (Nat → Int32))
  | 0, _, _, _, _, _, _, _, _, _, _, _, _, _, _, _, _, _, _ => none
  | n + 1, x2, x4, ph, la, po, lo, ov, orr, nv, nr, ql, qk, qv, qr, wr, wa, wc, wk => (if x2 ≤ x4 then ((fX1_shorten x2 ql qk qv qr).bind fun r19 => some (r19.1, ph, la, po, lo, ov, orr, nv, nr, r19.1, r19.2.1, r19.2.2.1, r19.2.2.2, wr, wa, wc, wk)) else g_gd (g_in x4 8) (g_gd (g_in x4 8) (g_gd (g_in x4 8) (((fX3_take (qk x4.toNatClampNeg) (qv x4.toNatClampNeg) (qr x4.toNatClampNeg) 1 nv nr).bind fun r24 => fX4_drainQueue_b51_1 n x2 (x4 + (1 : Int32)) ph la po lo ov orr r24.1 r24.2 ql qk qv qr wr wa wc wk)))))
set_option maxHeartbeats 4000000 in
set_option maxRecDepth 100000 in
theorem kX4_drainQueue_b51_1 {p : Program} {l : Launch} {e : Env} {s : State} {m : MethodId} {args : Array Value} {below : List Frame} {meth : Method} {c : Code} {G : gT} {a : Nat → Nat} {w0 : va_W} (C0 : gX p s m args meth c cX4_drainQueue 5 (some .int) RX4 G) :
    ∀ (n : Nat) (x2 : Int32) (x4 : Int32) (ph : Int32) (la : Int32) (po : Int32) (lo : Int32) (ov : Nat → Int32) (orr : Nat → Int32) (nv : Nat → Int32) (nr : Nat → Int32) (ql : Int32) (qk : Nat → Int32) (qv : Nat → Int32) (qr : Nat → Int32) (wr : Nat → Int32) (wa : Int32) (wc : Nat → Int32) (wk : Nat → Int32) (u : Int32 × Int32 × Int32 × Int32 × Int32 × (Nat → Int32) × (Nat → Int32) × (Nat → Int32) × (Nat → Int32) × Int32 × (Nat → Int32) × (Nat → Int32) × (Nat → Int32) × (Nat → Int32) × Int32 × (Nat → Int32) × (Nat → Int32)), fX4_drainQueue_b51_1 n x2 x4 ph la po lo ov orr nv nr ql qk qv qr wr wa wc wk = some u → ∀ (H : Heap) (locs : List Loc), va_P G.1 vwCl [((a 0), .inr (3, [.int ph, .int la, .int po, .int lo, .ref (a 1), .ref (a 4), .ref (a 7), .ref (a 11), .int wa, .ref (a 12), .ref (a 13)])), ((a 1), .inr (2, [.int 0, .ref (a 2), .ref (a 3)])), ((a 2), .inl (G.2.1, 31, .inl ov)), ((a 3), .inl (G.2.1, 31, .inl orr)), ((a 4), .inr (2, [.int 1, .ref (a 5), .ref (a 6)])), ((a 5), .inl (G.2.1, 31, .inl nv)), ((a 6), .inl (G.2.1, 31, .inl nr)), ((a 7), .inr (1, [.int ql, .ref (a 8), .ref (a 9), .ref (a 10)])), ((a 8), .inl (G.2.1, 8, .inl qk)), ((a 9), .inl (G.2.1, 8, .inl qv)), ((a 10), .inl (G.2.1, 8, .inl qr)), ((a 11), .inl (G.2.1, 31, .inl wr)), ((a 12), .inl (G.2.1, 3, .inl wc)), ((a 13), .inl (G.2.1, 3, .inl wk))] H → va_D (va_A w0 s.heap.size) [((a 0), .inr (3, [.int ph, .int la, .int po, .int lo, .ref (a 1), .ref (a 4), .ref (a 7), .ref (a 11), .int wa, .ref (a 12), .ref (a 13)])), ((a 1), .inr (2, [.int 0, .ref (a 2), .ref (a 3)])), ((a 2), .inl (G.2.1, 31, .inl ov)), ((a 3), .inl (G.2.1, 31, .inl orr)), ((a 4), .inr (2, [.int 1, .ref (a 5), .ref (a 6)])), ((a 5), .inl (G.2.1, 31, .inl nv)), ((a 6), .inl (G.2.1, 31, .inl nr)), ((a 7), .inr (1, [.int ql, .ref (a 8), .ref (a 9), .ref (a 10)])), ((a 8), .inl (G.2.1, 8, .inl qk)), ((a 9), .inl (G.2.1, 8, .inl qv)), ((a 10), .inl (G.2.1, 8, .inl qr)), ((a 11), .inl (G.2.1, 31, .inl wr)), ((a 12), .inl (G.2.1, 3, .inl wc)), ((a 13), .inl (G.2.1, 3, .inl wk))] → va_S (va_A w0 s.heap.size) s.heap H locs → ∀ ls, lv_has ls 5 [(0, .ref (a 0)), (2, .int x2), (3, .ref (a 4)), (4, .int x4)] → gW p l e (headSpec wsX4_drainQueue rmX4_drainQueue).room s m args below meth c G w0 (some (.int u.1)) (tabW G a u.2.1 u.2.2.1 u.2.2.2.1 u.2.2.2.2.1 u.2.2.2.2.2.1 u.2.2.2.2.2.2.1 u.2.2.2.2.2.2.2.1 u.2.2.2.2.2.2.2.2.1 u.2.2.2.2.2.2.2.2.2.1 u.2.2.2.2.2.2.2.2.2.2.1 u.2.2.2.2.2.2.2.2.2.2.2.1 u.2.2.2.2.2.2.2.2.2.2.2.2.1 u.2.2.2.2.2.2.2.2.2.2.2.2.2.1 u.2.2.2.2.2.2.2.2.2.2.2.2.2.2.1 u.2.2.2.2.2.2.2.2.2.2.2.2.2.2.2.1 u.2.2.2.2.2.2.2.2.2.2.2.2.2.2.2.2) H locs 51 ls [] := by
  obtain ⟨hx, hb, hr, hts, hown, hlocks, hml, hK⟩ := id C0
  have hA : ∀ q : Nat, s.heap.size ≤ q → va_A w0 s.heap.size q := fun q h => Or.inr h
  intro n
  induction n with
  | zero =>
    intro x2 x4 ph la po lo ov orr nv nr ql qk qv qr wr wa wc wk u hf H locs hP hD hS ls hl
    have hf : (none : Option (Int32 × Int32 × Int32 × Int32 × Int32 × (Nat → Int32) × (Nat → Int32) × (Nat → Int32) × (Nat → Int32) × Int32 × (Nat → Int32) × (Nat → Int32) × (Nat → Int32) × (Nat → Int32) × Int32 × (Nat → Int32) × (Nat → Int32))) = some u := hf
    cases hf
  | succ n ih =>
    intro x2 x4 ph la po lo ov orr nv nr ql qk qv qr wr wa wc wk u hf H locs hP hD hS ls hl
    rw [fX4_drainQueue_b51_1] at hf
    refine lv_iload hx hb dX4_drainQueue_51 (lv_at hl 3 rfl) ?_
    refine lv_iload_n hx hb dX4_drainQueue_53 rfl (lv_at hl 1 rfl) ?_
    refine lv_icmp_ge (tgt := 97) hx hb dX4_drainQueue_54 (by decide) (fun c18 => ?_) (fun c18 => ?_)
    · have hf := g_ifT c18 hf
      refine lv_aload_n hx hb dX4_drainQueue_97 rfl (lv_at hl 0 rfl) ?_
      refine va_get (D := G.1) (ci := 3) (v := .ref (a 7)) (C := RX4) (T := TX4) (N := 11) hx hb hts hX4 hown hK.1 hP 0 rfl rfl 6 (by decide) (hts _ tw_90) (fun _ h9 => h9) rfl dX4_drainQueue_98 ?_
      refine lv_iload_n hx hb dX4_drainQueue_101 rfl (lv_at hl 1 rfl) ?_
      obtain ⟨r19, e20, hf⟩ := g_bdS hf
      refine g_contC (st1 := []) (g_runVC (As := [.int x2]) (rest := []) ⟨hx, hb, hml, hown, hts⟩ (qX1_shorten l G (a 7) (a 8) (a 9) (a 10) e20) (cwV 1 hts (TB_V TB_id tw_380 tw_381 tw_382 tw_8 tw_383) rfl rfl rfl (by decide +kernel) ⟨Nat.le_of_ble_eq_true rfl, Nat.le_of_ble_eq_true rfl⟩) hK (hP.sub [7, 8, 9, 10] rfl) (hD.sub [7, 8, 9, 10] (by decide) rfl) 0 rfl rfl rfl hl.1 rfl (Nat.le_of_ble_eq_true rfl) dX4_drainQueue_102) rfl hP hD hS hA [7, 8, 9, 10] rfl rfl (fun H locs hP hD hS => ?_)
      have hP : va_P G.1 vwCl [((a 0), .inr (3, [.int ph, .int la, .int po, .int lo, .ref (a 1), .ref (a 4), .ref (a 7), .ref (a 11), .int wa, .ref (a 12), .ref (a 13)])), ((a 1), .inr (2, [.int 0, .ref (a 2), .ref (a 3)])), ((a 2), .inl (G.2.1, 31, .inl ov)), ((a 3), .inl (G.2.1, 31, .inl orr)), ((a 4), .inr (2, [.int 1, .ref (a 5), .ref (a 6)])), ((a 5), .inl (G.2.1, 31, .inl nv)), ((a 6), .inl (G.2.1, 31, .inl nr)), ((a 7), .inr (1, [.int r19.1, .ref (a 8), .ref (a 9), .ref (a 10)])), ((a 8), .inl (G.2.1, 8, .inl r19.2.1)), ((a 9), .inl (G.2.1, 8, .inl r19.2.2.1)), ((a 10), .inl (G.2.1, 8, .inl r19.2.2.2)), ((a 11), .inl (G.2.1, 31, .inl wr)), ((a 12), .inl (G.2.1, 3, .inl wc)), ((a 13), .inl (G.2.1, 3, .inl wk))] H := hP
      have hD : va_D (va_A w0 s.heap.size) [((a 0), .inr (3, [.int ph, .int la, .int po, .int lo, .ref (a 1), .ref (a 4), .ref (a 7), .ref (a 11), .int wa, .ref (a 12), .ref (a 13)])), ((a 1), .inr (2, [.int 0, .ref (a 2), .ref (a 3)])), ((a 2), .inl (G.2.1, 31, .inl ov)), ((a 3), .inl (G.2.1, 31, .inl orr)), ((a 4), .inr (2, [.int 1, .ref (a 5), .ref (a 6)])), ((a 5), .inl (G.2.1, 31, .inl nv)), ((a 6), .inl (G.2.1, 31, .inl nr)), ((a 7), .inr (1, [.int r19.1, .ref (a 8), .ref (a 9), .ref (a 10)])), ((a 8), .inl (G.2.1, 8, .inl r19.2.1)), ((a 9), .inl (G.2.1, 8, .inl r19.2.2.1)), ((a 10), .inl (G.2.1, 8, .inl r19.2.2.2)), ((a 11), .inl (G.2.1, 31, .inl wr)), ((a 12), .inl (G.2.1, 3, .inl wc)), ((a 13), .inl (G.2.1, 3, .inl wk))] := hD
      refine lv_aload_n hx hb dX4_drainQueue_105 rfl (lv_at hl 0 rfl) ?_
      refine va_get (D := G.1) (ci := 3) (v := .ref (a 7)) (C := RX4) (T := TX4) (N := 11) hx hb hts hX4 hown hK.1 hP 0 rfl rfl 6 (by decide) (hts _ tw_90) (fun _ h9 => h9) rfl dX4_drainQueue_106 ?_
      refine va_get (D := G.1) (ci := 1) (v := .int r19.1) (C := RX1) (T := TX1) (N := 4) hx hb hts hX1 hown hK.1 hP 7 rfl rfl 0 (by decide) (hts _ tw_61) (fun _ h9 => h9) rfl dX4_drainQueue_109 ?_
      cases hf
      exact g_iretC hx hb hr hlocks hP hD hS dX4_drainQueue_112
    · have hf := g_ifF c18 hf
      refine lv_aload_n hx hb dX4_drainQueue_57 rfl (lv_at hl 2 rfl) ?_
      refine lv_aload_n hx hb dX4_drainQueue_58 rfl (lv_at hl 0 rfl) ?_
      refine va_get (D := G.1) (ci := 3) (v := .ref (a 7)) (C := RX4) (T := TX4) (N := 11) hx hb hts hX4 hown hK.1 hP 0 rfl rfl 6 (by decide) (hts _ tw_90) (fun _ h9 => h9) rfl dX4_drainQueue_59 ?_
      refine va_get (D := G.1) (ci := 1) (v := .ref (a 8)) (C := RX1) (T := TX1) (N := 4) hx hb hts hX1 hown hK.1 hP 7 rfl rfl 1 (by decide) (hts _ tw_64) (fun _ h9 => h9) rfl dX4_drainQueue_62 ?_
      refine lv_iload hx hb dX4_drainQueue_65 (lv_at hl 3 rfl) ?_
      obtain ⟨g21, hf⟩ := g_gdS hf
      refine va_iald hx hb hK.1 hP 8 0 rfl rfl (g_in_vp g21) dX4_drainQueue_67 ?_
      refine lv_aload_n hx hb dX4_drainQueue_68 rfl (lv_at hl 0 rfl) ?_
      refine va_get (D := G.1) (ci := 3) (v := .ref (a 7)) (C := RX4) (T := TX4) (N := 11) hx hb hts hX4 hown hK.1 hP 0 rfl rfl 6 (by decide) (hts _ tw_90) (fun _ h9 => h9) rfl dX4_drainQueue_69 ?_
      refine va_get (D := G.1) (ci := 1) (v := .ref (a 9)) (C := RX1) (T := TX1) (N := 4) hx hb hts hX1 hown hK.1 hP 7 rfl rfl 2 (by decide) (hts _ tw_66) (fun _ h9 => h9) rfl dX4_drainQueue_72 ?_
      refine lv_iload hx hb dX4_drainQueue_75 (lv_at hl 3 rfl) ?_
      obtain ⟨g22, hf⟩ := g_gdS hf
      refine va_iald hx hb hK.1 hP 9 0 rfl rfl (g_in_vp g22) dX4_drainQueue_77 ?_
      refine lv_aload_n hx hb dX4_drainQueue_78 rfl (lv_at hl 0 rfl) ?_
      refine va_get (D := G.1) (ci := 3) (v := .ref (a 7)) (C := RX4) (T := TX4) (N := 11) hx hb hts hX4 hown hK.1 hP 0 rfl rfl 6 (by decide) (hts _ tw_90) (fun _ h9 => h9) rfl dX4_drainQueue_79 ?_
      refine va_get (D := G.1) (ci := 1) (v := .ref (a 10)) (C := RX1) (T := TX1) (N := 4) hx hb hts hX1 hown hK.1 hP 7 rfl rfl 3 (by decide) (hts _ tw_68) (fun _ h9 => h9) rfl dX4_drainQueue_82 ?_
      refine lv_iload hx hb dX4_drainQueue_85 (lv_at hl 3 rfl) ?_
      obtain ⟨g23, hf⟩ := g_gdS hf
      refine va_iald hx hb hK.1 hP 10 0 rfl rfl (g_in_vp g23) dX4_drainQueue_87 ?_
      obtain ⟨r24, e25, hf⟩ := g_bdS hf
      refine g_contC (st1 := []) (g_runVC (As := [.int (qk x4.toNatClampNeg), .int (qv x4.toNatClampNeg), .int (qr x4.toNatClampNeg)]) (rest := []) ⟨hx, hb, hml, hown, hts⟩ (qX3_take l G (a 4) (a 5) (a 6) e25) (cwV 3 hts (TB_V TB_id tw_332 tw_333 tw_334 tw_7 tw_335) rfl rfl rfl (by decide +kernel) ⟨Nat.le_of_ble_eq_true rfl, Nat.le_of_ble_eq_true rfl⟩) hK (hP.sub [4, 5, 6] rfl) (hD.sub [4, 5, 6] (by decide) rfl) 0 rfl rfl rfl hl.1 rfl (Nat.le_of_ble_eq_true rfl) dX4_drainQueue_88) rfl hP hD hS hA [4, 5, 6] rfl rfl (fun H locs hP hD hS => ?_)
      have hP : va_P G.1 vwCl [((a 0), .inr (3, [.int ph, .int la, .int po, .int lo, .ref (a 1), .ref (a 4), .ref (a 7), .ref (a 11), .int wa, .ref (a 12), .ref (a 13)])), ((a 1), .inr (2, [.int 0, .ref (a 2), .ref (a 3)])), ((a 2), .inl (G.2.1, 31, .inl ov)), ((a 3), .inl (G.2.1, 31, .inl orr)), ((a 4), .inr (2, [.int 1, .ref (a 5), .ref (a 6)])), ((a 5), .inl (G.2.1, 31, .inl r24.1)), ((a 6), .inl (G.2.1, 31, .inl r24.2)), ((a 7), .inr (1, [.int ql, .ref (a 8), .ref (a 9), .ref (a 10)])), ((a 8), .inl (G.2.1, 8, .inl qk)), ((a 9), .inl (G.2.1, 8, .inl qv)), ((a 10), .inl (G.2.1, 8, .inl qr)), ((a 11), .inl (G.2.1, 31, .inl wr)), ((a 12), .inl (G.2.1, 3, .inl wc)), ((a 13), .inl (G.2.1, 3, .inl wk))] H := hP
      have hD : va_D (va_A w0 s.heap.size) [((a 0), .inr (3, [.int ph, .int la, .int po, .int lo, .ref (a 1), .ref (a 4), .ref (a 7), .ref (a 11), .int wa, .ref (a 12), .ref (a 13)])), ((a 1), .inr (2, [.int 0, .ref (a 2), .ref (a 3)])), ((a 2), .inl (G.2.1, 31, .inl ov)), ((a 3), .inl (G.2.1, 31, .inl orr)), ((a 4), .inr (2, [.int 1, .ref (a 5), .ref (a 6)])), ((a 5), .inl (G.2.1, 31, .inl r24.1)), ((a 6), .inl (G.2.1, 31, .inl r24.2)), ((a 7), .inr (1, [.int ql, .ref (a 8), .ref (a 9), .ref (a 10)])), ((a 8), .inl (G.2.1, 8, .inl qk)), ((a 9), .inl (G.2.1, 8, .inl qv)), ((a 10), .inl (G.2.1, 8, .inl qr)), ((a 11), .inl (G.2.1, 31, .inl wr)), ((a 12), .inl (G.2.1, 3, .inl wc)), ((a 13), .inl (G.2.1, 3, .inl wk))] := hD
      refine lv_iinc (v := (x4 + (1 : Int32))) (lv' := [(4, .int (x4 + (1 : Int32))), (0, .ref (a 0)), (2, .int x2), (3, .ref (a 4))]) hx hb dX4_drainQueue_91 hl (k := 3) rfl rfl (by decide) rfl (fun ls hl => ?_)
      refine lv_goto (tgt := 51) hx hb dX4_drainQueue_94 (by decide) ?_
      exact ih _ _ _ _ _ _ _ _ _ _ _ _ _ _ _ _ _ _ _ hf _ _ hP hD hS ls (lv_sub hl [1, 2, 3, 0] rfl)
def fX4_drainQueue (p0 : Int32) (ph : Int32) (la : Int32) (po : Int32) (lo : Int32) (ov : Nat → Int32) (orr : Nat → Int32) (nv : Nat → Int32) (nr : Nat → Int32) (ql : Int32) (qk : Nat → Int32) (qv : Nat → Int32) (qr : Nat → Int32) (wr : Nat → Int32) (wa : Int32) (wc : Nat → Int32) (wk : Nat → Int32) : Option (Int32 × Int32 × Int32 × Int32 × Int32 × (Nat → Int32) × (Nat → Int32) × (Nat → Int32) × (Nat → Int32) × Int32 × (Nat → Int32) × (Nat → Int32) × (Nat → Int32) × (Nat → Int32) × Int32 × (Nat → Int32) × (Nat → Int32)) := (if p0 < (1 : Int32) then some ((-1000001 : Int32), ph, la, po, lo, ov, orr, nv, nr, ql, qk, qv, qr, wr, wa, wc, wk) else (if p0 ≤ (8 : Int32) then (if ql = (0 : Int32) then some ((-1000002 : Int32), ph, la, po, lo, ov, orr, nv, nr, ql, qk, qv, qr, wr, wa, wc, wk) else ((fX4_second ph la po lo ov orr nv nr ql qk qv qr wr wa wc wk).bind fun r4 => ((fX4_shape r4 ph la po lo ov orr nv nr ql qk qv qr wr wa wc wk).bind fun r6 => (if r6 = 1 then fX4_drainQueue_b51 2000 (if ql < p0 then ql else p0) (0 : Int32) ph la po lo ov orr nv nr ql qk qv qr wr wa wc wk else (if r6 = 4 then fX4_drainQueue_b51_1 2000 (if ql < p0 then ql else p0) (0 : Int32) ph la po lo ov orr nv nr ql qk qv qr wr wa wc wk else none))))) else some ((-1000001 : Int32), ph, la, po, lo, ov, orr, nv, nr, ql, qk, qv, qr, wr, wa, wc, wk)))
set_option maxHeartbeats 4000000 in
set_option maxRecDepth 100000 in
theorem qX4_drainQueue (l : Launch) (G : gT) (a : Nat → Nat) {p0 : Int32} {ph : Int32} {la : Int32} {po : Int32} {lo : Int32} {ov : Nat → Int32} {orr : Nat → Int32} {nv : Nat → Int32} {nr : Nat → Int32} {ql : Int32} {qk : Nat → Int32} {qv : Nat → Int32} {qr : Nat → Int32} {wr : Nat → Int32} {wa : Int32} {wc : Nat → Int32} {wk : Nat → Int32} {u : Int32 × Int32 × Int32 × Int32 × Int32 × (Nat → Int32) × (Nat → Int32) × (Nat → Int32) × (Nat → Int32) × Int32 × (Nat → Int32) × (Nat → Int32) × (Nat → Int32) × (Nat → Int32) × Int32 × (Nat → Int32) × (Nat → Int32)} (hf : fX4_drainQueue p0 ph la po lo ov orr nv nr ql qk qv qr wr wa wc wk = some u) : gC l G yX4_drainQueue wsX4_drainQueue rmX4_drainQueue [.ref (a 0), .int p0] (tabW G a ph la po lo ov orr nv nr ql qk qv qr wr wa wc wk) (some (.int u.1)) (tabW G a u.2.1 u.2.2.1 u.2.2.2.1 u.2.2.2.2.1 u.2.2.2.2.2.1 u.2.2.2.2.2.2.1 u.2.2.2.2.2.2.2.1 u.2.2.2.2.2.2.2.2.1 u.2.2.2.2.2.2.2.2.2.1 u.2.2.2.2.2.2.2.2.2.2.1 u.2.2.2.2.2.2.2.2.2.2.2.1 u.2.2.2.2.2.2.2.2.2.2.2.2.1 u.2.2.2.2.2.2.2.2.2.2.2.2.2.1 u.2.2.2.2.2.2.2.2.2.2.2.2.2.2.1 u.2.2.2.2.2.2.2.2.2.2.2.2.2.2.2.1 u.2.2.2.2.2.2.2.2.2.2.2.2.2.2.2.2) := by
  refine gC.of (cc := cX4_drainQueue) (maxL := 5) (ret := (some .int)) (by decide) rfl (Nat.le_of_ble_eq_true rfl) ?_
  intro p e s m below meth c C0 hP hD hS ls hl
  obtain ⟨hx, hb, hr, hts, hown, hlocks, hml, hK⟩ := id C0
  have hl : lv_has ls 5 [(0, .ref (a 0)), (1, .int p0)] := hl
  have hA : ∀ q : Nat, s.heap.size ≤ q → va_A (tabW G a ph la po lo ov orr nv nr ql qk qv qr wr wa wc wk) s.heap.size q := fun q h => Or.inr h
  have hP : va_P G.1 vwCl [((a 0), .inr (3, [.int ph, .int la, .int po, .int lo, .ref (a 1), .ref (a 4), .ref (a 7), .ref (a 11), .int wa, .ref (a 12), .ref (a 13)])), ((a 1), .inr (2, [.int 0, .ref (a 2), .ref (a 3)])), ((a 2), .inl (G.2.1, 31, .inl ov)), ((a 3), .inl (G.2.1, 31, .inl orr)), ((a 4), .inr (2, [.int 1, .ref (a 5), .ref (a 6)])), ((a 5), .inl (G.2.1, 31, .inl nv)), ((a 6), .inl (G.2.1, 31, .inl nr)), ((a 7), .inr (1, [.int ql, .ref (a 8), .ref (a 9), .ref (a 10)])), ((a 8), .inl (G.2.1, 8, .inl qk)), ((a 9), .inl (G.2.1, 8, .inl qv)), ((a 10), .inl (G.2.1, 8, .inl qr)), ((a 11), .inl (G.2.1, 31, .inl wr)), ((a 12), .inl (G.2.1, 3, .inl wc)), ((a 13), .inl (G.2.1, 3, .inl wk))] s.heap := hP
  have hD : va_D (va_A (tabW G a ph la po lo ov orr nv nr ql qk qv qr wr wa wc wk) s.heap.size) [((a 0), .inr (3, [.int ph, .int la, .int po, .int lo, .ref (a 1), .ref (a 4), .ref (a 7), .ref (a 11), .int wa, .ref (a 12), .ref (a 13)])), ((a 1), .inr (2, [.int 0, .ref (a 2), .ref (a 3)])), ((a 2), .inl (G.2.1, 31, .inl ov)), ((a 3), .inl (G.2.1, 31, .inl orr)), ((a 4), .inr (2, [.int 1, .ref (a 5), .ref (a 6)])), ((a 5), .inl (G.2.1, 31, .inl nv)), ((a 6), .inl (G.2.1, 31, .inl nr)), ((a 7), .inr (1, [.int ql, .ref (a 8), .ref (a 9), .ref (a 10)])), ((a 8), .inl (G.2.1, 8, .inl qk)), ((a 9), .inl (G.2.1, 8, .inl qv)), ((a 10), .inl (G.2.1, 8, .inl qr)), ((a 11), .inl (G.2.1, 31, .inl wr)), ((a 12), .inl (G.2.1, 3, .inl wc)), ((a 13), .inl (G.2.1, 3, .inl wk))] := hD
  unfold fX4_drainQueue at hf
  refine lv_iload_n hx hb dX4_drainQueue_0 rfl (lv_at hl 1 rfl) ?_
  refine lv_iconst (v := (1 : Int32)) hx hb dX4_drainQueue_1 (by decide) ?_
  refine lv_icmp_lt (tgt := 11) hx hb dX4_drainQueue_2 (by decide) (fun c1 => ?_) (fun c1 => ?_)
  · have hf := g_ifT c1 hf
    refine lv_ldc (v := (-1000001 : Int32)) hx hb hown (hts _ tw_192) dX4_drainQueue_11 ?_
    cases hf
    exact g_iretC hx hb hr hlocks hP hD hS dX4_drainQueue_13
  · have hf := g_ifF c1 hf
    refine lv_iload_n hx hb dX4_drainQueue_5 rfl (lv_at hl 1 rfl) ?_
    refine lv_bipush (v := (8 : Int32)) hx hb dX4_drainQueue_6 (by decide) ?_
    refine lv_icmp_le (tgt := 14) hx hb dX4_drainQueue_8 (by decide) (fun c2 => ?_) (fun c2 => ?_)
    · have hf := g_ifT c2 hf
      refine lv_aload_n hx hb dX4_drainQueue_14 rfl (lv_at hl 0 rfl) ?_
      refine va_get (D := G.1) (ci := 3) (v := .ref (a 7)) (C := RX4) (T := TX4) (N := 11) hx hb hts hX4 hown hK.1 hP 0 rfl rfl 6 (by decide) (hts _ tw_90) (fun _ h9 => h9) rfl dX4_drainQueue_15 ?_
      refine va_get (D := G.1) (ci := 1) (v := .int ql) (C := RX1) (T := TX1) (N := 4) hx hb hts hX1 hown hK.1 hP 7 rfl rfl 0 (by decide) (hts _ tw_61) (fun _ h9 => h9) rfl dX4_drainQueue_18 ?_
      refine lv_if_ne (tgt := 27) hx hb dX4_drainQueue_21 (by decide) (fun c3 => ?_) (fun c3 => ?_)
      · have hf := g_ifF c3 hf
        refine lv_iload_n hx hb dX4_drainQueue_27 rfl (lv_at hl 1 rfl) ?_
        refine lv_aload_n hx hb dX4_drainQueue_28 rfl (lv_at hl 0 rfl) ?_
        refine va_get (D := G.1) (ci := 3) (v := .ref (a 7)) (C := RX4) (T := TX4) (N := 11) hx hb hts hX4 hown hK.1 hP 0 rfl rfl 6 (by decide) (hts _ tw_90) (fun _ h9 => h9) rfl dX4_drainQueue_29 ?_
        refine va_get (D := G.1) (ci := 1) (v := .int ql) (C := RX1) (T := TX1) (N := 4) hx hb hts hX1 hown hK.1 hP 7 rfl rfl 0 (by decide) (hts _ tw_61) (fun _ h9 => h9) rfl dX4_drainQueue_32 ?_
        refine va_mmin hx hb (by rw [hml]; exact hl.1.symm) hown (hts _ tw_377) (hts _ tw_378) (hts _ tw_12) (hts _ tw_379) (by decide) (by decide) (Nat.zero_le _) (Nat.zero_le _) dX4_drainQueue_35 ?_
        refine lv_istore_n (lv' := [(2, .int (if ql < p0 then ql else p0)), (0, .ref (a 0)), (1, .int p0)]) hx hb dX4_drainQueue_38 rfl hl (by decide) rfl (fun ls hl => ?_)
        refine lv_aload_n hx hb dX4_drainQueue_39 rfl (lv_at hl 1 rfl) ?_
        refine lv_aload_n hx hb dX4_drainQueue_40 rfl (lv_at hl 1 rfl) ?_
        obtain ⟨r4, e5, hf⟩ := g_bdS hf
        refine g_contR (st1 := [.int r4, .ref (a 0)]) (g_runVR (As := []) (rest := [.ref (a 0)]) ⟨hx, hb, hml, hown, hts⟩ (qX4_second l G a e5) (cwV 0 hts (TB_V TB_id tw_205 tw_206 tw_207 tw_6 tw_208) rfl rfl rfl (by decide +kernel) ⟨Nat.le_of_ble_eq_true rfl, Nat.le_of_ble_eq_true rfl⟩) hK (hP.sub [0, 1, 2, 3, 4, 5, 6, 7, 8, 9, 10, 11, 12, 13] rfl) 0 rfl rfl rfl hl.1 rfl (Nat.le_of_ble_eq_true rfl) dX4_drainQueue_41) rfl ?_
        obtain ⟨r6, e7, hf⟩ := g_bdS hf
        refine g_contR (st1 := [.ref (a r6)]) (g_runVR (As := [.int r4]) (rest := []) ⟨hx, hb, hml, hown, hts⟩ (qX4_shape l G a e7) (cwV 1 hts (TB_V TB_id tw_224 tw_225 tw_226 tw_6 tw_227) rfl rfl rfl (by decide +kernel) ⟨Nat.le_of_ble_eq_true rfl, Nat.le_of_ble_eq_true rfl⟩) hK (hP.sub [0, 1, 2, 3, 4, 5, 6, 7, 8, 9, 10, 11, 12, 13] rfl) 0 rfl rfl rfl hl.1 rfl (Nat.le_of_ble_eq_true rfl) dX4_drainQueue_44) rfl ?_
        by_cases c8 : r6 = 1
        · have hf := g_ifT c8 hf
          subst c8
          refine lv_astore_n (lv' := [(3, .ref (a 1)), (2, .int (if ql < p0 then ql else p0)), (0, .ref (a 0)), (1, .int p0)]) hx hb dX4_drainQueue_47 rfl hl (by decide) rfl (fun ls hl => ?_)
          refine lv_iconst (v := (0 : Int32)) hx hb dX4_drainQueue_48 (by decide) ?_
          refine lv_istore (lv' := [(4, .int (0 : Int32)), (3, .ref (a 1)), (2, .int (if ql < p0 then ql else p0)), (0, .ref (a 0)), (1, .int p0)]) hx hb dX4_drainQueue_49 hl (by decide) rfl (fun ls hl => ?_)
          exact kX4_drainQueue_b51 C0 2000 _ _ _ _ _ _ _ _ _ _ _ _ _ _ _ _ _ _ _ hf _ _ hP hD hS ls (lv_sub hl [3, 2, 1, 0] rfl)
        have hf := g_ifF c8 hf
        by_cases c17 : r6 = 4
        · have hf := g_ifT c17 hf
          subst c17
          refine lv_astore_n (lv' := [(3, .ref (a 4)), (2, .int (if ql < p0 then ql else p0)), (0, .ref (a 0)), (1, .int p0)]) hx hb dX4_drainQueue_47 rfl hl (by decide) rfl (fun ls hl => ?_)
          refine lv_iconst (v := (0 : Int32)) hx hb dX4_drainQueue_48 (by decide) ?_
          refine lv_istore (lv' := [(4, .int (0 : Int32)), (3, .ref (a 4)), (2, .int (if ql < p0 then ql else p0)), (0, .ref (a 0)), (1, .int p0)]) hx hb dX4_drainQueue_49 hl (by decide) rfl (fun ls hl => ?_)
          exact kX4_drainQueue_b51_1 C0 2000 _ _ _ _ _ _ _ _ _ _ _ _ _ _ _ _ _ _ _ hf _ _ hP hD hS ls (lv_sub hl [3, 2, 1, 0] rfl)
        have hf := g_ifF c17 hf
        cases hf
      · have hf := g_ifT c3 hf
        refine lv_ldc (v := (-1000002 : Int32)) hx hb hown (hts _ tw_367) dX4_drainQueue_24 ?_
        cases hf
        exact g_iretC hx hb hr hlocks hP hD hS dX4_drainQueue_26
    · have hf := g_ifF c2 hf
      refine lv_ldc (v := (-1000001 : Int32)) hx hb hown (hts _ tw_192) dX4_drainQueue_11 ?_
      cases hf
      exact g_iretC hx hb hr hlocks hP hD hS dX4_drainQueue_13
-- TwoShapes$Table.fillKeys(I)I
abbrev rmX4_fillKeys : Room := { frames := 3, cells := 0, slots := 0, locals := 67 }
def fX4_fillKeys_b54 : Nat → Int32 → Int32 → Int32 → Int32 → Int32 → Int32 → Int32 → (Nat → Int32) → (Nat → Int32) → (Nat → Int32) → (Nat → Int32) → Int32 → (Nat → Int32) → (Nat → Int32) → (Nat → Int32) → (Nat → Int32) → Int32 → (Nat → Int32) → (Nat → Int32) → Option (Int32 × Int32 × Int32 × Int32 × Int32 × (Nat → Int32) × (Nat → Int32) × (Nat → Int32) × (Nat → Int32) × Int32 × (Nat → Int32) × (Nat → Int32) × (Nat → Int32) × (Nat → Int32) × Int32 × (Nat → Int32) × (Nat → Int32))
  | 0, _, _, _, _, _, _, _, _, _, _, _, _, _, _, _, _, _, _, _ => none
  | n + 1, x2, x3, x4, ph, la, po, lo, ov, orr, nv, nr, ql, qk, qv, qr, wr, wa, wc, wk => (if x3 ≤ x4 then some (x2, ph, la, x3, lo, ov, orr, nv, nr, ql, qk, qv, qr, wr, wa, wc, wk) else g_gd (g_in x4 31) (g_gd (g_in x4 31) ((if (ov x4.toNatClampNeg) ≤ (nv x4.toNatClampNeg) then fX4_fillKeys_b54 n x2 x3 (x4 + (1 : Int32)) ph la po lo ov orr nv nr ql qk qv qr wr wa wc wk else ((fX3_takeFrom x4 1 0 nv nr ov orr).bind fun r9 => fX4_fillKeys_b54 n (x2 + (1 : Int32)) x3 (x4 + (1 : Int32)) ph la po lo ov orr r9.1 r9.2 ql qk qv qr wr wa wc wk)))))
set_option maxHeartbeats 4000000 in
set_option maxRecDepth 100000 in
theorem kX4_fillKeys_b54 {p : Program} {l : Launch} {e : Env} {s : State} {m : MethodId} {args : Array Value} {below : List Frame} {meth : Method} {c : Code} {G : gT} {a : Nat → Nat} {w0 : va_W} (C0 : gX p s m args meth c cX4_fillKeys 5 (some .int) RX4 G) :
    ∀ (n : Nat) (x2 : Int32) (x3 : Int32) (x4 : Int32) (ph : Int32) (la : Int32) (po : Int32) (lo : Int32) (ov : Nat → Int32) (orr : Nat → Int32) (nv : Nat → Int32) (nr : Nat → Int32) (ql : Int32) (qk : Nat → Int32) (qv : Nat → Int32) (qr : Nat → Int32) (wr : Nat → Int32) (wa : Int32) (wc : Nat → Int32) (wk : Nat → Int32) (u : Int32 × Int32 × Int32 × Int32 × Int32 × (Nat → Int32) × (Nat → Int32) × (Nat → Int32) × (Nat → Int32) × Int32 × (Nat → Int32) × (Nat → Int32) × (Nat → Int32) × (Nat → Int32) × Int32 × (Nat → Int32) × (Nat → Int32)), fX4_fillKeys_b54 n x2 x3 x4 ph la po lo ov orr nv nr ql qk qv qr wr wa wc wk = some u → ∀ (H : Heap) (locs : List Loc), va_P G.1 vwCl [((a 0), .inr (3, [.int ph, .int la, .int po, .int lo, .ref (a 1), .ref (a 4), .ref (a 7), .ref (a 11), .int wa, .ref (a 12), .ref (a 13)])), ((a 1), .inr (2, [.int 0, .ref (a 2), .ref (a 3)])), ((a 2), .inl (G.2.1, 31, .inl ov)), ((a 3), .inl (G.2.1, 31, .inl orr)), ((a 4), .inr (2, [.int 1, .ref (a 5), .ref (a 6)])), ((a 5), .inl (G.2.1, 31, .inl nv)), ((a 6), .inl (G.2.1, 31, .inl nr)), ((a 7), .inr (1, [.int ql, .ref (a 8), .ref (a 9), .ref (a 10)])), ((a 8), .inl (G.2.1, 8, .inl qk)), ((a 9), .inl (G.2.1, 8, .inl qv)), ((a 10), .inl (G.2.1, 8, .inl qr)), ((a 11), .inl (G.2.1, 31, .inl wr)), ((a 12), .inl (G.2.1, 3, .inl wc)), ((a 13), .inl (G.2.1, 3, .inl wk))] H → va_D (va_A w0 s.heap.size) [((a 0), .inr (3, [.int ph, .int la, .int po, .int lo, .ref (a 1), .ref (a 4), .ref (a 7), .ref (a 11), .int wa, .ref (a 12), .ref (a 13)])), ((a 1), .inr (2, [.int 0, .ref (a 2), .ref (a 3)])), ((a 2), .inl (G.2.1, 31, .inl ov)), ((a 3), .inl (G.2.1, 31, .inl orr)), ((a 4), .inr (2, [.int 1, .ref (a 5), .ref (a 6)])), ((a 5), .inl (G.2.1, 31, .inl nv)), ((a 6), .inl (G.2.1, 31, .inl nr)), ((a 7), .inr (1, [.int ql, .ref (a 8), .ref (a 9), .ref (a 10)])), ((a 8), .inl (G.2.1, 8, .inl qk)), ((a 9), .inl (G.2.1, 8, .inl qv)), ((a 10), .inl (G.2.1, 8, .inl qr)), ((a 11), .inl (G.2.1, 31, .inl wr)), ((a 12), .inl (G.2.1, 3, .inl wc)), ((a 13), .inl (G.2.1, 3, .inl wk))] → va_S (va_A w0 s.heap.size) s.heap H locs → ∀ ls, lv_has ls 5 [(0, .ref (a 0)), (2, .int x2), (3, .int x3), (4, .int x4)] → gW p l e (headSpec wsX4_fillKeys rmX4_fillKeys).room s m args below meth c G w0 (some (.int u.1)) (tabW G a u.2.1 u.2.2.1 u.2.2.2.1 u.2.2.2.2.1 u.2.2.2.2.2.1 u.2.2.2.2.2.2.1 u.2.2.2.2.2.2.2.1 u.2.2.2.2.2.2.2.2.1 u.2.2.2.2.2.2.2.2.2.1 u.2.2.2.2.2.2.2.2.2.2.1 u.2.2.2.2.2.2.2.2.2.2.2.1 u.2.2.2.2.2.2.2.2.2.2.2.2.1 u.2.2.2.2.2.2.2.2.2.2.2.2.2.1 u.2.2.2.2.2.2.2.2.2.2.2.2.2.2.1 u.2.2.2.2.2.2.2.2.2.2.2.2.2.2.2.1 u.2.2.2.2.2.2.2.2.2.2.2.2.2.2.2.2) H locs 54 ls [] := by
  obtain ⟨hx, hb, hr, hts, hown, hlocks, hml, hK⟩ := id C0
  have hA : ∀ q : Nat, s.heap.size ≤ q → va_A w0 s.heap.size q := fun q h => Or.inr h
  intro n
  induction n with
  | zero =>
    intro x2 x3 x4 ph la po lo ov orr nv nr ql qk qv qr wr wa wc wk u hf H locs hP hD hS ls hl
    have hf : (none : Option (Int32 × Int32 × Int32 × Int32 × Int32 × (Nat → Int32) × (Nat → Int32) × (Nat → Int32) × (Nat → Int32) × Int32 × (Nat → Int32) × (Nat → Int32) × (Nat → Int32) × (Nat → Int32) × Int32 × (Nat → Int32) × (Nat → Int32))) = some u := hf
    cases hf
  | succ n ih =>
    intro x2 x3 x4 ph la po lo ov orr nv nr ql qk qv qr wr wa wc wk u hf H locs hP hD hS ls hl
    rw [fX4_fillKeys_b54] at hf
    refine lv_iload hx hb dX4_fillKeys_54 (lv_at hl 3 rfl) ?_
    refine lv_iload_n hx hb dX4_fillKeys_56 rfl (lv_at hl 2 rfl) ?_
    refine lv_icmp_ge (tgt := 105) hx hb dX4_fillKeys_57 (by decide) (fun c5 => ?_) (fun c5 => ?_)
    · have hf := g_ifT c5 hf
      refine lv_aload_n hx hb dX4_fillKeys_105 rfl (lv_at hl 0 rfl) ?_
      refine lv_iload_n hx hb dX4_fillKeys_106 rfl (lv_at hl 2 rfl) ?_
      refine va_put (D := G.1) (ci := 3) (v := .int x3) (ty := .int) (C := RX4) (T := TX4) (N := 11) hx hb hts hX4 tyX4 tyX4_ok nmX4 hown hK.1 hP hD hS 0 rfl rfl 2 (by decide) (hts _ tw_82) (fun _ h9 => h9) rfl (by decide +kernel) rfl rfl (Nat.le_of_ble_eq_true rfl) dX4_fillKeys_107 (fun H locs hP hD hS => ?_)
      have hP : va_P G.1 vwCl [((a 0), .inr (3, [.int ph, .int la, .int x3, .int lo, .ref (a 1), .ref (a 4), .ref (a 7), .ref (a 11), .int wa, .ref (a 12), .ref (a 13)])), ((a 1), .inr (2, [.int 0, .ref (a 2), .ref (a 3)])), ((a 2), .inl (G.2.1, 31, .inl ov)), ((a 3), .inl (G.2.1, 31, .inl orr)), ((a 4), .inr (2, [.int 1, .ref (a 5), .ref (a 6)])), ((a 5), .inl (G.2.1, 31, .inl nv)), ((a 6), .inl (G.2.1, 31, .inl nr)), ((a 7), .inr (1, [.int ql, .ref (a 8), .ref (a 9), .ref (a 10)])), ((a 8), .inl (G.2.1, 8, .inl qk)), ((a 9), .inl (G.2.1, 8, .inl qv)), ((a 10), .inl (G.2.1, 8, .inl qr)), ((a 11), .inl (G.2.1, 31, .inl wr)), ((a 12), .inl (G.2.1, 3, .inl wc)), ((a 13), .inl (G.2.1, 3, .inl wk))] H := hP
      have hD : va_D (va_A w0 s.heap.size) [((a 0), .inr (3, [.int ph, .int la, .int x3, .int lo, .ref (a 1), .ref (a 4), .ref (a 7), .ref (a 11), .int wa, .ref (a 12), .ref (a 13)])), ((a 1), .inr (2, [.int 0, .ref (a 2), .ref (a 3)])), ((a 2), .inl (G.2.1, 31, .inl ov)), ((a 3), .inl (G.2.1, 31, .inl orr)), ((a 4), .inr (2, [.int 1, .ref (a 5), .ref (a 6)])), ((a 5), .inl (G.2.1, 31, .inl nv)), ((a 6), .inl (G.2.1, 31, .inl nr)), ((a 7), .inr (1, [.int ql, .ref (a 8), .ref (a 9), .ref (a 10)])), ((a 8), .inl (G.2.1, 8, .inl qk)), ((a 9), .inl (G.2.1, 8, .inl qv)), ((a 10), .inl (G.2.1, 8, .inl qr)), ((a 11), .inl (G.2.1, 31, .inl wr)), ((a 12), .inl (G.2.1, 3, .inl wc)), ((a 13), .inl (G.2.1, 3, .inl wk))] := hD
      refine lv_iload_n hx hb dX4_fillKeys_110 rfl (lv_at hl 1 rfl) ?_
      cases hf
      exact g_iretC hx hb hr hlocks hP hD hS dX4_fillKeys_111
    · have hf := g_ifF c5 hf
      refine lv_aload_n hx hb dX4_fillKeys_60 rfl (lv_at hl 0 rfl) ?_
      refine va_get (D := G.1) (ci := 3) (v := .ref (a 1)) (C := RX4) (T := TX4) (N := 11) hx hb hts hX4 hown hK.1 hP 0 rfl rfl 4 (by decide) (hts _ tw_86) (fun _ h9 => h9) rfl dX4_fillKeys_61 ?_
      refine va_get (D := G.1) (ci := 2) (v := .ref (a 2)) (C := RX3) (T := TX3) (N := 3) hx hb hts hX3 hown hK.1 hP 1 rfl rfl 1 (by decide) (hts _ tw_42) (fun _ h9 => h9) rfl dX4_fillKeys_64 ?_
      refine lv_iload hx hb dX4_fillKeys_67 (lv_at hl 3 rfl) ?_
      obtain ⟨g6, hf⟩ := g_gdS hf
      refine va_iald hx hb hK.1 hP 2 0 rfl rfl (g_in_vp g6) dX4_fillKeys_69 ?_
      refine lv_aload_n hx hb dX4_fillKeys_70 rfl (lv_at hl 0 rfl) ?_
      refine va_get (D := G.1) (ci := 3) (v := .ref (a 4)) (C := RX4) (T := TX4) (N := 11) hx hb hts hX4 hown hK.1 hP 0 rfl rfl 5 (by decide) (hts _ tw_88) (fun _ h9 => h9) rfl dX4_fillKeys_71 ?_
      refine va_get (D := G.1) (ci := 2) (v := .ref (a 5)) (C := RX3) (T := TX3) (N := 3) hx hb hts hX3 hown hK.1 hP 4 rfl rfl 1 (by decide) (hts _ tw_42) (fun _ h9 => h9) rfl dX4_fillKeys_74 ?_
      refine lv_iload hx hb dX4_fillKeys_77 (lv_at hl 3 rfl) ?_
      obtain ⟨g7, hf⟩ := g_gdS hf
      refine va_iald hx hb hK.1 hP 5 0 rfl rfl (g_in_vp g7) dX4_fillKeys_79 ?_
      refine lv_icmp_le (tgt := 99) hx hb dX4_fillKeys_80 (by decide) (fun c8 => ?_) (fun c8 => ?_)
      · have hf := g_ifT c8 hf
        refine lv_iinc (v := (x4 + (1 : Int32))) (lv' := [(4, .int (x4 + (1 : Int32))), (0, .ref (a 0)), (2, .int x2), (3, .int x3)]) hx hb dX4_fillKeys_99 hl (k := 3) rfl rfl (by decide) rfl (fun ls hl => ?_)
        refine lv_goto (tgt := 54) hx hb dX4_fillKeys_102 (by decide) ?_
        exact ih _ _ _ _ _ _ _ _ _ _ _ _ _ _ _ _ _ _ _ _ hf _ _ hP hD hS ls (lv_sub hl [1, 2, 3, 0] rfl)
      · have hf := g_ifF c8 hf
        refine lv_aload_n hx hb dX4_fillKeys_83 rfl (lv_at hl 0 rfl) ?_
        refine va_get (D := G.1) (ci := 3) (v := .ref (a 4)) (C := RX4) (T := TX4) (N := 11) hx hb hts hX4 hown hK.1 hP 0 rfl rfl 5 (by decide) (hts _ tw_88) (fun _ h9 => h9) rfl dX4_fillKeys_84 ?_
        refine lv_aload_n hx hb dX4_fillKeys_87 rfl (lv_at hl 0 rfl) ?_
        refine va_get (D := G.1) (ci := 3) (v := .ref (a 1)) (C := RX4) (T := TX4) (N := 11) hx hb hts hX4 hown hK.1 hP 0 rfl rfl 4 (by decide) (hts _ tw_86) (fun _ h9 => h9) rfl dX4_fillKeys_88 ?_
        refine lv_iload hx hb dX4_fillKeys_91 (lv_at hl 3 rfl) ?_
        obtain ⟨r9, e10, hf⟩ := g_bdS hf
        refine g_contC (st1 := []) (g_runVC (As := [.ref (a 1), .int x4]) (rest := []) ⟨hx, hb, hml, hown, hts⟩ (qX3_takeFrom l G (a 4) (a 5) (a 6) (a 1) (a 2) (a 3) e10) (cwV 2 hts (TB_V TB_id tw_395 tw_396 tw_397 tw_7 tw_398) rfl rfl rfl (by decide +kernel) ⟨Nat.le_of_ble_eq_true rfl, Nat.le_of_ble_eq_true rfl⟩) hK (hP.sub [4, 5, 6, 1, 2, 3] rfl) (hD.sub [4, 5, 6, 1, 2, 3] (by decide) rfl) 0 rfl rfl rfl hl.1 rfl (Nat.le_of_ble_eq_true rfl) dX4_fillKeys_93) rfl hP hD hS hA [4, 5, 6, 1, 2, 3] rfl rfl (fun H locs hP hD hS => ?_)
        have hP : va_P G.1 vwCl [((a 0), .inr (3, [.int ph, .int la, .int po, .int lo, .ref (a 1), .ref (a 4), .ref (a 7), .ref (a 11), .int wa, .ref (a 12), .ref (a 13)])), ((a 1), .inr (2, [.int 0, .ref (a 2), .ref (a 3)])), ((a 2), .inl (G.2.1, 31, .inl ov)), ((a 3), .inl (G.2.1, 31, .inl orr)), ((a 4), .inr (2, [.int 1, .ref (a 5), .ref (a 6)])), ((a 5), .inl (G.2.1, 31, .inl r9.1)), ((a 6), .inl (G.2.1, 31, .inl r9.2)), ((a 7), .inr (1, [.int ql, .ref (a 8), .ref (a 9), .ref (a 10)])), ((a 8), .inl (G.2.1, 8, .inl qk)), ((a 9), .inl (G.2.1, 8, .inl qv)), ((a 10), .inl (G.2.1, 8, .inl qr)), ((a 11), .inl (G.2.1, 31, .inl wr)), ((a 12), .inl (G.2.1, 3, .inl wc)), ((a 13), .inl (G.2.1, 3, .inl wk))] H := hP
        have hD : va_D (va_A w0 s.heap.size) [((a 0), .inr (3, [.int ph, .int la, .int po, .int lo, .ref (a 1), .ref (a 4), .ref (a 7), .ref (a 11), .int wa, .ref (a 12), .ref (a 13)])), ((a 1), .inr (2, [.int 0, .ref (a 2), .ref (a 3)])), ((a 2), .inl (G.2.1, 31, .inl ov)), ((a 3), .inl (G.2.1, 31, .inl orr)), ((a 4), .inr (2, [.int 1, .ref (a 5), .ref (a 6)])), ((a 5), .inl (G.2.1, 31, .inl r9.1)), ((a 6), .inl (G.2.1, 31, .inl r9.2)), ((a 7), .inr (1, [.int ql, .ref (a 8), .ref (a 9), .ref (a 10)])), ((a 8), .inl (G.2.1, 8, .inl qk)), ((a 9), .inl (G.2.1, 8, .inl qv)), ((a 10), .inl (G.2.1, 8, .inl qr)), ((a 11), .inl (G.2.1, 31, .inl wr)), ((a 12), .inl (G.2.1, 3, .inl wc)), ((a 13), .inl (G.2.1, 3, .inl wk))] := hD
        refine lv_iinc (v := (x2 + (1 : Int32))) (lv' := [(2, .int (x2 + (1 : Int32))), (0, .ref (a 0)), (3, .int x3), (4, .int x4)]) hx hb dX4_fillKeys_96 hl (k := 1) rfl rfl (by decide) rfl (fun ls hl => ?_)
        refine lv_iinc (v := (x4 + (1 : Int32))) (lv' := [(4, .int (x4 + (1 : Int32))), (2, .int (x2 + (1 : Int32))), (0, .ref (a 0)), (3, .int x3)]) hx hb dX4_fillKeys_99 hl (k := 3) rfl rfl (by decide) rfl (fun ls hl => ?_)
        refine lv_goto (tgt := 54) hx hb dX4_fillKeys_102 (by decide) ?_
        exact ih _ _ _ _ _ _ _ _ _ _ _ _ _ _ _ _ _ _ _ _ hf _ _ hP hD hS ls (lv_sub hl [2, 1, 3, 0] rfl)
def fX4_fillKeys (p0 : Int32) (ph : Int32) (la : Int32) (po : Int32) (lo : Int32) (ov : Nat → Int32) (orr : Nat → Int32) (nv : Nat → Int32) (nr : Nat → Int32) (ql : Int32) (qk : Nat → Int32) (qv : Nat → Int32) (qr : Nat → Int32) (wr : Nat → Int32) (wa : Int32) (wc : Nat → Int32) (wk : Nat → Int32) : Option (Int32 × Int32 × Int32 × Int32 × Int32 × (Nat → Int32) × (Nat → Int32) × (Nat → Int32) × (Nat → Int32) × Int32 × (Nat → Int32) × (Nat → Int32) × (Nat → Int32) × (Nat → Int32) × Int32 × (Nat → Int32) × (Nat → Int32)) := (if p0 < (1 : Int32) then some ((-1000001 : Int32), ph, la, po, lo, ov, orr, nv, nr, ql, qk, qv, qr, wr, wa, wc, wk) else (if p0 ≤ (31 : Int32) then (if ph = (1 : Int32) then (if po < (31 : Int32) then fX4_fillKeys_b54 2000 (0 : Int32) (if (po + p0) < (31 : Int32) then (po + p0) else (31 : Int32)) po ph la po lo ov orr nv nr ql qk qv qr wr wa wc wk else some ((-1000002 : Int32), ph, la, po, lo, ov, orr, nv, nr, ql, qk, qv, qr, wr, wa, wc, wk)) else some ((-1000002 : Int32), ph, la, po, lo, ov, orr, nv, nr, ql, qk, qv, qr, wr, wa, wc, wk)) else some ((-1000001 : Int32), ph, la, po, lo, ov, orr, nv, nr, ql, qk, qv, qr, wr, wa, wc, wk)))
set_option maxHeartbeats 4000000 in
set_option maxRecDepth 100000 in
theorem qX4_fillKeys (l : Launch) (G : gT) (a : Nat → Nat) {p0 : Int32} {ph : Int32} {la : Int32} {po : Int32} {lo : Int32} {ov : Nat → Int32} {orr : Nat → Int32} {nv : Nat → Int32} {nr : Nat → Int32} {ql : Int32} {qk : Nat → Int32} {qv : Nat → Int32} {qr : Nat → Int32} {wr : Nat → Int32} {wa : Int32} {wc : Nat → Int32} {wk : Nat → Int32} {u : Int32 × Int32 × Int32 × Int32 × Int32 × (Nat → Int32) × (Nat → Int32) × (Nat → Int32) × (Nat → Int32) × Int32 × (Nat → Int32) × (Nat → Int32) × (Nat → Int32) × (Nat → Int32) × Int32 × (Nat → Int32) × (Nat → Int32)} (hf : fX4_fillKeys p0 ph la po lo ov orr nv nr ql qk qv qr wr wa wc wk = some u) : gC l G yX4_fillKeys wsX4_fillKeys rmX4_fillKeys [.ref (a 0), .int p0] (tabW G a ph la po lo ov orr nv nr ql qk qv qr wr wa wc wk) (some (.int u.1)) (tabW G a u.2.1 u.2.2.1 u.2.2.2.1 u.2.2.2.2.1 u.2.2.2.2.2.1 u.2.2.2.2.2.2.1 u.2.2.2.2.2.2.2.1 u.2.2.2.2.2.2.2.2.1 u.2.2.2.2.2.2.2.2.2.1 u.2.2.2.2.2.2.2.2.2.2.1 u.2.2.2.2.2.2.2.2.2.2.2.1 u.2.2.2.2.2.2.2.2.2.2.2.2.1 u.2.2.2.2.2.2.2.2.2.2.2.2.2.1 u.2.2.2.2.2.2.2.2.2.2.2.2.2.2.1 u.2.2.2.2.2.2.2.2.2.2.2.2.2.2.2.1 u.2.2.2.2.2.2.2.2.2.2.2.2.2.2.2.2) := by
  refine gC.of (cc := cX4_fillKeys) (maxL := 5) (ret := (some .int)) (by decide) rfl (Nat.le_of_ble_eq_true rfl) ?_
  intro p e s m below meth c C0 hP hD hS ls hl
  obtain ⟨hx, hb, hr, hts, hown, hlocks, hml, hK⟩ := id C0
  have hl : lv_has ls 5 [(0, .ref (a 0)), (1, .int p0)] := hl
  have hA : ∀ q : Nat, s.heap.size ≤ q → va_A (tabW G a ph la po lo ov orr nv nr ql qk qv qr wr wa wc wk) s.heap.size q := fun q h => Or.inr h
  have hP : va_P G.1 vwCl [((a 0), .inr (3, [.int ph, .int la, .int po, .int lo, .ref (a 1), .ref (a 4), .ref (a 7), .ref (a 11), .int wa, .ref (a 12), .ref (a 13)])), ((a 1), .inr (2, [.int 0, .ref (a 2), .ref (a 3)])), ((a 2), .inl (G.2.1, 31, .inl ov)), ((a 3), .inl (G.2.1, 31, .inl orr)), ((a 4), .inr (2, [.int 1, .ref (a 5), .ref (a 6)])), ((a 5), .inl (G.2.1, 31, .inl nv)), ((a 6), .inl (G.2.1, 31, .inl nr)), ((a 7), .inr (1, [.int ql, .ref (a 8), .ref (a 9), .ref (a 10)])), ((a 8), .inl (G.2.1, 8, .inl qk)), ((a 9), .inl (G.2.1, 8, .inl qv)), ((a 10), .inl (G.2.1, 8, .inl qr)), ((a 11), .inl (G.2.1, 31, .inl wr)), ((a 12), .inl (G.2.1, 3, .inl wc)), ((a 13), .inl (G.2.1, 3, .inl wk))] s.heap := hP
  have hD : va_D (va_A (tabW G a ph la po lo ov orr nv nr ql qk qv qr wr wa wc wk) s.heap.size) [((a 0), .inr (3, [.int ph, .int la, .int po, .int lo, .ref (a 1), .ref (a 4), .ref (a 7), .ref (a 11), .int wa, .ref (a 12), .ref (a 13)])), ((a 1), .inr (2, [.int 0, .ref (a 2), .ref (a 3)])), ((a 2), .inl (G.2.1, 31, .inl ov)), ((a 3), .inl (G.2.1, 31, .inl orr)), ((a 4), .inr (2, [.int 1, .ref (a 5), .ref (a 6)])), ((a 5), .inl (G.2.1, 31, .inl nv)), ((a 6), .inl (G.2.1, 31, .inl nr)), ((a 7), .inr (1, [.int ql, .ref (a 8), .ref (a 9), .ref (a 10)])), ((a 8), .inl (G.2.1, 8, .inl qk)), ((a 9), .inl (G.2.1, 8, .inl qv)), ((a 10), .inl (G.2.1, 8, .inl qr)), ((a 11), .inl (G.2.1, 31, .inl wr)), ((a 12), .inl (G.2.1, 3, .inl wc)), ((a 13), .inl (G.2.1, 3, .inl wk))] := hD
  unfold fX4_fillKeys at hf
  refine lv_iload_n hx hb dX4_fillKeys_0 rfl (lv_at hl 1 rfl) ?_
  refine lv_iconst (v := (1 : Int32)) hx hb dX4_fillKeys_1 (by decide) ?_
  refine lv_icmp_lt (tgt := 11) hx hb dX4_fillKeys_2 (by decide) (fun c1 => ?_) (fun c1 => ?_)
  · have hf := g_ifT c1 hf
    refine lv_ldc (v := (-1000001 : Int32)) hx hb hown (hts _ tw_192) dX4_fillKeys_11 ?_
    cases hf
    exact g_iretC hx hb hr hlocks hP hD hS dX4_fillKeys_13
  · have hf := g_ifF c1 hf
    refine lv_iload_n hx hb dX4_fillKeys_5 rfl (lv_at hl 1 rfl) ?_
    refine lv_bipush (v := (31 : Int32)) hx hb dX4_fillKeys_6 (by decide) ?_
    refine lv_icmp_le (tgt := 14) hx hb dX4_fillKeys_8 (by decide) (fun c2 => ?_) (fun c2 => ?_)
    · have hf := g_ifT c2 hf
      refine lv_aload_n hx hb dX4_fillKeys_14 rfl (lv_at hl 0 rfl) ?_
      refine va_get (D := G.1) (ci := 3) (v := .int ph) (C := RX4) (T := TX4) (N := 11) hx hb hts hX4 hown hK.1 hP 0 rfl rfl 0 (by decide) (hts _ tw_78) (fun _ h9 => h9) rfl dX4_fillKeys_15 ?_
      refine lv_iconst (v := (1 : Int32)) hx hb dX4_fillKeys_18 (by decide) ?_
      refine lv_icmp_ne (tgt := 31) hx hb dX4_fillKeys_19 (by decide) (fun c3 => ?_) (fun c3 => ?_)
      · have hf := g_ifF c3 hf
        refine lv_ldc (v := (-1000002 : Int32)) hx hb hown (hts _ tw_367) dX4_fillKeys_31 ?_
        cases hf
        exact g_iretC hx hb hr hlocks hP hD hS dX4_fillKeys_33
      · have hf := g_ifT c3 hf
        refine lv_aload_n hx hb dX4_fillKeys_22 rfl (lv_at hl 0 rfl) ?_
        refine va_get (D := G.1) (ci := 3) (v := .int po) (C := RX4) (T := TX4) (N := 11) hx hb hts hX4 hown hK.1 hP 0 rfl rfl 2 (by decide) (hts _ tw_82) (fun _ h9 => h9) rfl dX4_fillKeys_23 ?_
        refine lv_bipush (v := (31 : Int32)) hx hb dX4_fillKeys_26 (by decide) ?_
        refine lv_icmp_lt (tgt := 34) hx hb dX4_fillKeys_28 (by decide) (fun c4 => ?_) (fun c4 => ?_)
        · have hf := g_ifT c4 hf
          refine lv_iconst (v := (0 : Int32)) hx hb dX4_fillKeys_34 (by decide) ?_
          refine lv_istore_n (lv' := [(2, .int (0 : Int32)), (0, .ref (a 0)), (1, .int p0)]) hx hb dX4_fillKeys_35 rfl hl (by decide) rfl (fun ls hl => ?_)
          refine lv_bipush (v := (31 : Int32)) hx hb dX4_fillKeys_36 (by decide) ?_
          refine lv_aload_n hx hb dX4_fillKeys_38 rfl (lv_at hl 1 rfl) ?_
          refine va_get (D := G.1) (ci := 3) (v := .int po) (C := RX4) (T := TX4) (N := 11) hx hb hts hX4 hown hK.1 hP 0 rfl rfl 2 (by decide) (hts _ tw_82) (fun _ h9 => h9) rfl dX4_fillKeys_39 ?_
          refine lv_iload_n hx hb dX4_fillKeys_42 rfl (lv_at hl 2 rfl) ?_
          refine lv_iadd hx hb dX4_fillKeys_43 ?_
          refine va_mmin hx hb (by rw [hml]; exact hl.1.symm) hown (hts _ tw_377) (hts _ tw_378) (hts _ tw_12) (hts _ tw_379) (by decide) (by decide) (Nat.zero_le _) (Nat.zero_le _) dX4_fillKeys_44 ?_
          refine lv_istore_n (lv' := [(3, .int (if (po + p0) < (31 : Int32) then (po + p0) else (31 : Int32))), (2, .int (0 : Int32)), (0, .ref (a 0)), (1, .int p0)]) hx hb dX4_fillKeys_47 rfl hl (by decide) rfl (fun ls hl => ?_)
          refine lv_aload_n hx hb dX4_fillKeys_48 rfl (lv_at hl 2 rfl) ?_
          refine va_get (D := G.1) (ci := 3) (v := .int po) (C := RX4) (T := TX4) (N := 11) hx hb hts hX4 hown hK.1 hP 0 rfl rfl 2 (by decide) (hts _ tw_82) (fun _ h9 => h9) rfl dX4_fillKeys_49 ?_
          refine lv_istore (lv' := [(4, .int po), (3, .int (if (po + p0) < (31 : Int32) then (po + p0) else (31 : Int32))), (2, .int (0 : Int32)), (0, .ref (a 0)), (1, .int p0)]) hx hb dX4_fillKeys_52 hl (by decide) rfl (fun ls hl => ?_)
          exact kX4_fillKeys_b54 C0 2000 _ _ _ _ _ _ _ _ _ _ _ _ _ _ _ _ _ _ _ _ hf _ _ hP hD hS ls (lv_sub hl [3, 2, 1, 0] rfl)
        · have hf := g_ifF c4 hf
          refine lv_ldc (v := (-1000002 : Int32)) hx hb hown (hts _ tw_367) dX4_fillKeys_31 ?_
          cases hf
          exact g_iretC hx hb hr hlocks hP hD hS dX4_fillKeys_33
    · have hf := g_ifF c2 hf
      refine lv_ldc (v := (-1000001 : Int32)) hx hb hown (hts _ tw_192) dX4_fillKeys_11 ?_
      cases hf
      exact g_iretC hx hb hr hlocks hP hD hS dX4_fillKeys_13
-- TwoShapes$Table.loseQueue()I
abbrev rmX4_loseQueue : Room := { frames := 2, cells := 0, slots := 0, locals := 37 }
def fX4_loseQueue (ph : Int32) (la : Int32) (po : Int32) (lo : Int32) (ov : Nat → Int32) (orr : Nat → Int32) (nv : Nat → Int32) (nr : Nat → Int32) (ql : Int32) (qk : Nat → Int32) (qv : Nat → Int32) (qr : Nat → Int32) (wr : Nat → Int32) (wa : Int32) (wc : Nat → Int32) (wk : Nat → Int32) : Option (Int32 × Int32 × Int32 × Int32 × Int32 × (Nat → Int32) × (Nat → Int32) × (Nat → Int32) × (Nat → Int32) × Int32 × (Nat → Int32) × (Nat → Int32) × (Nat → Int32) × (Nat → Int32) × Int32 × (Nat → Int32) × (Nat → Int32)) := (if ql = (0 : Int32) then some ((-1000002 : Int32), ph, la, po, lo, ov, orr, nv, nr, ql, qk, qv, qr, wr, wa, wc, wk) else ((fX1_shorten ql ql qk qv qr).bind fun r2 => some (ql, ph, la, po, (lo + ql), ov, orr, nv, nr, r2.1, r2.2.1, r2.2.2.1, r2.2.2.2, wr, wa, wc, wk)))
set_option maxHeartbeats 4000000 in
set_option maxRecDepth 100000 in
theorem qX4_loseQueue (l : Launch) (G : gT) (a : Nat → Nat) {ph : Int32} {la : Int32} {po : Int32} {lo : Int32} {ov : Nat → Int32} {orr : Nat → Int32} {nv : Nat → Int32} {nr : Nat → Int32} {ql : Int32} {qk : Nat → Int32} {qv : Nat → Int32} {qr : Nat → Int32} {wr : Nat → Int32} {wa : Int32} {wc : Nat → Int32} {wk : Nat → Int32} {u : Int32 × Int32 × Int32 × Int32 × Int32 × (Nat → Int32) × (Nat → Int32) × (Nat → Int32) × (Nat → Int32) × Int32 × (Nat → Int32) × (Nat → Int32) × (Nat → Int32) × (Nat → Int32) × Int32 × (Nat → Int32) × (Nat → Int32)} (hf : fX4_loseQueue ph la po lo ov orr nv nr ql qk qv qr wr wa wc wk = some u) : gC l G yX4_loseQueue wsX4_loseQueue rmX4_loseQueue [.ref (a 0)] (tabW G a ph la po lo ov orr nv nr ql qk qv qr wr wa wc wk) (some (.int u.1)) (tabW G a u.2.1 u.2.2.1 u.2.2.2.1 u.2.2.2.2.1 u.2.2.2.2.2.1 u.2.2.2.2.2.2.1 u.2.2.2.2.2.2.2.1 u.2.2.2.2.2.2.2.2.1 u.2.2.2.2.2.2.2.2.2.1 u.2.2.2.2.2.2.2.2.2.2.1 u.2.2.2.2.2.2.2.2.2.2.2.1 u.2.2.2.2.2.2.2.2.2.2.2.2.1 u.2.2.2.2.2.2.2.2.2.2.2.2.2.1 u.2.2.2.2.2.2.2.2.2.2.2.2.2.2.1 u.2.2.2.2.2.2.2.2.2.2.2.2.2.2.2.1 u.2.2.2.2.2.2.2.2.2.2.2.2.2.2.2.2) := by
  refine gC.of (cc := cX4_loseQueue) (maxL := 2) (ret := (some .int)) (by decide) rfl (Nat.le_of_ble_eq_true rfl) ?_
  intro p e s m below meth c C0 hP hD hS ls hl
  obtain ⟨hx, hb, hr, hts, hown, hlocks, hml, hK⟩ := id C0
  have hl : lv_has ls 2 [(0, .ref (a 0))] := hl
  have hA : ∀ q : Nat, s.heap.size ≤ q → va_A (tabW G a ph la po lo ov orr nv nr ql qk qv qr wr wa wc wk) s.heap.size q := fun q h => Or.inr h
  have hP : va_P G.1 vwCl [((a 0), .inr (3, [.int ph, .int la, .int po, .int lo, .ref (a 1), .ref (a 4), .ref (a 7), .ref (a 11), .int wa, .ref (a 12), .ref (a 13)])), ((a 1), .inr (2, [.int 0, .ref (a 2), .ref (a 3)])), ((a 2), .inl (G.2.1, 31, .inl ov)), ((a 3), .inl (G.2.1, 31, .inl orr)), ((a 4), .inr (2, [.int 1, .ref (a 5), .ref (a 6)])), ((a 5), .inl (G.2.1, 31, .inl nv)), ((a 6), .inl (G.2.1, 31, .inl nr)), ((a 7), .inr (1, [.int ql, .ref (a 8), .ref (a 9), .ref (a 10)])), ((a 8), .inl (G.2.1, 8, .inl qk)), ((a 9), .inl (G.2.1, 8, .inl qv)), ((a 10), .inl (G.2.1, 8, .inl qr)), ((a 11), .inl (G.2.1, 31, .inl wr)), ((a 12), .inl (G.2.1, 3, .inl wc)), ((a 13), .inl (G.2.1, 3, .inl wk))] s.heap := hP
  have hD : va_D (va_A (tabW G a ph la po lo ov orr nv nr ql qk qv qr wr wa wc wk) s.heap.size) [((a 0), .inr (3, [.int ph, .int la, .int po, .int lo, .ref (a 1), .ref (a 4), .ref (a 7), .ref (a 11), .int wa, .ref (a 12), .ref (a 13)])), ((a 1), .inr (2, [.int 0, .ref (a 2), .ref (a 3)])), ((a 2), .inl (G.2.1, 31, .inl ov)), ((a 3), .inl (G.2.1, 31, .inl orr)), ((a 4), .inr (2, [.int 1, .ref (a 5), .ref (a 6)])), ((a 5), .inl (G.2.1, 31, .inl nv)), ((a 6), .inl (G.2.1, 31, .inl nr)), ((a 7), .inr (1, [.int ql, .ref (a 8), .ref (a 9), .ref (a 10)])), ((a 8), .inl (G.2.1, 8, .inl qk)), ((a 9), .inl (G.2.1, 8, .inl qv)), ((a 10), .inl (G.2.1, 8, .inl qr)), ((a 11), .inl (G.2.1, 31, .inl wr)), ((a 12), .inl (G.2.1, 3, .inl wc)), ((a 13), .inl (G.2.1, 3, .inl wk))] := hD
  unfold fX4_loseQueue at hf
  refine lv_aload_n hx hb dX4_loseQueue_0 rfl (lv_at hl 0 rfl) ?_
  refine va_get (D := G.1) (ci := 3) (v := .ref (a 7)) (C := RX4) (T := TX4) (N := 11) hx hb hts hX4 hown hK.1 hP 0 rfl rfl 6 (by decide) (hts _ tw_90) (fun _ h9 => h9) rfl dX4_loseQueue_1 ?_
  refine va_get (D := G.1) (ci := 1) (v := .int ql) (C := RX1) (T := TX1) (N := 4) hx hb hts hX1 hown hK.1 hP 7 rfl rfl 0 (by decide) (hts _ tw_61) (fun _ h9 => h9) rfl dX4_loseQueue_4 ?_
  refine lv_istore_n (lv' := [(1, .int ql), (0, .ref (a 0))]) hx hb dX4_loseQueue_7 rfl hl (by decide) rfl (fun ls hl => ?_)
  refine lv_iload_n hx hb dX4_loseQueue_8 rfl (lv_at hl 0 rfl) ?_
  refine lv_if_ne (tgt := 15) hx hb dX4_loseQueue_9 (by decide) (fun c1 => ?_) (fun c1 => ?_)
  · have hf := g_ifF c1 hf
    refine lv_aload_n hx hb dX4_loseQueue_15 rfl (lv_at hl 1 rfl) ?_
    refine lv_dup hx hb dX4_loseQueue_16 rfl ?_
    refine va_get (D := G.1) (ci := 3) (v := .int lo) (C := RX4) (T := TX4) (N := 11) hx hb hts hX4 hown hK.1 hP 0 rfl rfl 3 (by decide) (hts _ tw_84) (fun _ h9 => h9) rfl dX4_loseQueue_17 ?_
    refine lv_iload_n hx hb dX4_loseQueue_20 rfl (lv_at hl 0 rfl) ?_
    refine lv_iadd hx hb dX4_loseQueue_21 ?_
    refine va_put (D := G.1) (ci := 3) (v := .int (lo + ql)) (ty := .int) (C := RX4) (T := TX4) (N := 11) hx hb hts hX4 tyX4 tyX4_ok nmX4 hown hK.1 hP hD hS 0 rfl rfl 3 (by decide) (hts _ tw_84) (fun _ h9 => h9) rfl (by decide +kernel) rfl rfl (Nat.le_of_ble_eq_true rfl) dX4_loseQueue_22 (fun H locs hP hD hS => ?_)
    have hP : va_P G.1 vwCl [((a 0), .inr (3, [.int ph, .int la, .int po, .int (lo + ql), .ref (a 1), .ref (a 4), .ref (a 7), .ref (a 11), .int wa, .ref (a 12), .ref (a 13)])), ((a 1), .inr (2, [.int 0, .ref (a 2), .ref (a 3)])), ((a 2), .inl (G.2.1, 31, .inl ov)), ((a 3), .inl (G.2.1, 31, .inl orr)), ((a 4), .inr (2, [.int 1, .ref (a 5), .ref (a 6)])), ((a 5), .inl (G.2.1, 31, .inl nv)), ((a 6), .inl (G.2.1, 31, .inl nr)), ((a 7), .inr (1, [.int ql, .ref (a 8), .ref (a 9), .ref (a 10)])), ((a 8), .inl (G.2.1, 8, .inl qk)), ((a 9), .inl (G.2.1, 8, .inl qv)), ((a 10), .inl (G.2.1, 8, .inl qr)), ((a 11), .inl (G.2.1, 31, .inl wr)), ((a 12), .inl (G.2.1, 3, .inl wc)), ((a 13), .inl (G.2.1, 3, .inl wk))] H := hP
    have hD : va_D (va_A (tabW G a ph la po lo ov orr nv nr ql qk qv qr wr wa wc wk) s.heap.size) [((a 0), .inr (3, [.int ph, .int la, .int po, .int (lo + ql), .ref (a 1), .ref (a 4), .ref (a 7), .ref (a 11), .int wa, .ref (a 12), .ref (a 13)])), ((a 1), .inr (2, [.int 0, .ref (a 2), .ref (a 3)])), ((a 2), .inl (G.2.1, 31, .inl ov)), ((a 3), .inl (G.2.1, 31, .inl orr)), ((a 4), .inr (2, [.int 1, .ref (a 5), .ref (a 6)])), ((a 5), .inl (G.2.1, 31, .inl nv)), ((a 6), .inl (G.2.1, 31, .inl nr)), ((a 7), .inr (1, [.int ql, .ref (a 8), .ref (a 9), .ref (a 10)])), ((a 8), .inl (G.2.1, 8, .inl qk)), ((a 9), .inl (G.2.1, 8, .inl qv)), ((a 10), .inl (G.2.1, 8, .inl qr)), ((a 11), .inl (G.2.1, 31, .inl wr)), ((a 12), .inl (G.2.1, 3, .inl wc)), ((a 13), .inl (G.2.1, 3, .inl wk))] := hD
    refine lv_aload_n hx hb dX4_loseQueue_25 rfl (lv_at hl 1 rfl) ?_
    refine va_get (D := G.1) (ci := 3) (v := .ref (a 7)) (C := RX4) (T := TX4) (N := 11) hx hb hts hX4 hown hK.1 hP 0 rfl rfl 6 (by decide) (hts _ tw_90) (fun _ h9 => h9) rfl dX4_loseQueue_26 ?_
    refine lv_iload_n hx hb dX4_loseQueue_29 rfl (lv_at hl 0 rfl) ?_
    obtain ⟨r2, e3, hf⟩ := g_bdS hf
    refine g_contC (st1 := []) (g_runVC (As := [.int ql]) (rest := []) ⟨hx, hb, hml, hown, hts⟩ (qX1_shorten l G (a 7) (a 8) (a 9) (a 10) e3) (cwV 1 hts (TB_V TB_id tw_380 tw_381 tw_382 tw_8 tw_383) rfl rfl rfl (by decide +kernel) ⟨Nat.le_of_ble_eq_true rfl, Nat.le_of_ble_eq_true rfl⟩) hK (hP.sub [7, 8, 9, 10] rfl) (hD.sub [7, 8, 9, 10] (by decide) rfl) 0 rfl rfl rfl hl.1 rfl (Nat.le_of_ble_eq_true rfl) dX4_loseQueue_30) rfl hP hD hS hA [7, 8, 9, 10] rfl rfl (fun H locs hP hD hS => ?_)
    have hP : va_P G.1 vwCl [((a 0), .inr (3, [.int ph, .int la, .int po, .int (lo + ql), .ref (a 1), .ref (a 4), .ref (a 7), .ref (a 11), .int wa, .ref (a 12), .ref (a 13)])), ((a 1), .inr (2, [.int 0, .ref (a 2), .ref (a 3)])), ((a 2), .inl (G.2.1, 31, .inl ov)), ((a 3), .inl (G.2.1, 31, .inl orr)), ((a 4), .inr (2, [.int 1, .ref (a 5), .ref (a 6)])), ((a 5), .inl (G.2.1, 31, .inl nv)), ((a 6), .inl (G.2.1, 31, .inl nr)), ((a 7), .inr (1, [.int r2.1, .ref (a 8), .ref (a 9), .ref (a 10)])), ((a 8), .inl (G.2.1, 8, .inl r2.2.1)), ((a 9), .inl (G.2.1, 8, .inl r2.2.2.1)), ((a 10), .inl (G.2.1, 8, .inl r2.2.2.2)), ((a 11), .inl (G.2.1, 31, .inl wr)), ((a 12), .inl (G.2.1, 3, .inl wc)), ((a 13), .inl (G.2.1, 3, .inl wk))] H := hP
    have hD : va_D (va_A (tabW G a ph la po lo ov orr nv nr ql qk qv qr wr wa wc wk) s.heap.size) [((a 0), .inr (3, [.int ph, .int la, .int po, .int (lo + ql), .ref (a 1), .ref (a 4), .ref (a 7), .ref (a 11), .int wa, .ref (a 12), .ref (a 13)])), ((a 1), .inr (2, [.int 0, .ref (a 2), .ref (a 3)])), ((a 2), .inl (G.2.1, 31, .inl ov)), ((a 3), .inl (G.2.1, 31, .inl orr)), ((a 4), .inr (2, [.int 1, .ref (a 5), .ref (a 6)])), ((a 5), .inl (G.2.1, 31, .inl nv)), ((a 6), .inl (G.2.1, 31, .inl nr)), ((a 7), .inr (1, [.int r2.1, .ref (a 8), .ref (a 9), .ref (a 10)])), ((a 8), .inl (G.2.1, 8, .inl r2.2.1)), ((a 9), .inl (G.2.1, 8, .inl r2.2.2.1)), ((a 10), .inl (G.2.1, 8, .inl r2.2.2.2)), ((a 11), .inl (G.2.1, 31, .inl wr)), ((a 12), .inl (G.2.1, 3, .inl wc)), ((a 13), .inl (G.2.1, 3, .inl wk))] := hD
    refine lv_iload_n hx hb dX4_loseQueue_33 rfl (lv_at hl 0 rfl) ?_
    cases hf
    exact g_iretC hx hb hr hlocks hP hD hS dX4_loseQueue_34
  · have hf := g_ifT c1 hf
    refine lv_ldc (v := (-1000002 : Int32)) hx hb hown (hts _ tw_367) dX4_loseQueue_12 ?_
    cases hf
    exact g_iretC hx hb hr hlocks hP hD hS dX4_loseQueue_14
-- TwoShapes$Table.newerOf(I)I
abbrev rmX4_newerOf : Room := { frames := 1, cells := 0, slots := 0, locals := 20 }
def fX4_newerOf (p0 : Int32) (ph : Int32) (la : Int32) (po : Int32) (lo : Int32) (ov : Nat → Int32) (orr : Nat → Int32) (nv : Nat → Int32) (nr : Nat → Int32) (ql : Int32) (qk : Nat → Int32) (qv : Nat → Int32) (qr : Nat → Int32) (wr : Nat → Int32) (wa : Int32) (wc : Nat → Int32) (wk : Nat → Int32) : Option (Int32) := g_gd (g_in p0 31) (g_gd (g_in p0 31) ((if (ov p0.toNatClampNeg) = (nv p0.toNatClampNeg) then ((fX4_first ph la po lo ov orr nv nr ql qk qv qr wr wa wc wk).bind fun r5 => some (r5)) else (if (ov p0.toNatClampNeg) ≤ (nv p0.toNatClampNeg) then some ((1 : Int32)) else some ((0 : Int32))))))
set_option maxHeartbeats 4000000 in
set_option maxRecDepth 100000 in
theorem qX4_newerOf (l : Launch) (G : gT) (a : Nat → Nat) {p0 : Int32} {ph : Int32} {la : Int32} {po : Int32} {lo : Int32} {ov : Nat → Int32} {orr : Nat → Int32} {nv : Nat → Int32} {nr : Nat → Int32} {ql : Int32} {qk : Nat → Int32} {qv : Nat → Int32} {qr : Nat → Int32} {wr : Nat → Int32} {wa : Int32} {wc : Nat → Int32} {wk : Nat → Int32} {u : Int32} (hf : fX4_newerOf p0 ph la po lo ov orr nv nr ql qk qv qr wr wa wc wk = some u) : gR l G yX4_newerOf wsX4_newerOf rmX4_newerOf [.ref (a 0), .int p0] (tabW G a ph la po lo ov orr nv nr ql qk qv qr wr wa wc wk) (some (.int u)) := by
  refine gR.of (cc := cX4_newerOf) (maxL := 4) (ret := (some .int)) (by decide) rfl (Nat.le_of_ble_eq_true rfl) ?_
  intro p e s m below meth c C0 hP ls hl
  obtain ⟨hx, hb, hr, hts, hown, hlocks, hml, hK⟩ := id C0
  have hl : lv_has ls 4 [(0, .ref (a 0)), (1, .int p0)] := hl
  have hP : va_P G.1 vwCl [((a 0), .inr (3, [.int ph, .int la, .int po, .int lo, .ref (a 1), .ref (a 4), .ref (a 7), .ref (a 11), .int wa, .ref (a 12), .ref (a 13)])), ((a 1), .inr (2, [.int 0, .ref (a 2), .ref (a 3)])), ((a 2), .inl (G.2.1, 31, .inl ov)), ((a 3), .inl (G.2.1, 31, .inl orr)), ((a 4), .inr (2, [.int 1, .ref (a 5), .ref (a 6)])), ((a 5), .inl (G.2.1, 31, .inl nv)), ((a 6), .inl (G.2.1, 31, .inl nr)), ((a 7), .inr (1, [.int ql, .ref (a 8), .ref (a 9), .ref (a 10)])), ((a 8), .inl (G.2.1, 8, .inl qk)), ((a 9), .inl (G.2.1, 8, .inl qv)), ((a 10), .inl (G.2.1, 8, .inl qr)), ((a 11), .inl (G.2.1, 31, .inl wr)), ((a 12), .inl (G.2.1, 3, .inl wc)), ((a 13), .inl (G.2.1, 3, .inl wk))] s.heap := hP
  unfold fX4_newerOf at hf
  refine lv_aload_n hx hb dX4_newerOf_0 rfl (lv_at hl 0 rfl) ?_
  refine va_get (D := G.1) (ci := 3) (v := .ref (a 1)) (C := RX4) (T := TX4) (N := 11) hx hb hts hX4 hown hK.1 hP 0 rfl rfl 4 (by decide) (hts _ tw_86) (fun _ h9 => h9) rfl dX4_newerOf_1 ?_
  refine va_get (D := G.1) (ci := 2) (v := .ref (a 2)) (C := RX3) (T := TX3) (N := 3) hx hb hts hX3 hown hK.1 hP 1 rfl rfl 1 (by decide) (hts _ tw_42) (fun _ h9 => h9) rfl dX4_newerOf_4 ?_
  refine lv_iload_n hx hb dX4_newerOf_7 rfl (lv_at hl 1 rfl) ?_
  obtain ⟨g1, hf⟩ := g_gdS hf
  refine va_iald hx hb hK.1 hP 2 0 rfl rfl (g_in_vp g1) dX4_newerOf_8 ?_
  refine lv_istore_n (lv' := [(2, .int (ov p0.toNatClampNeg)), (0, .ref (a 0)), (1, .int p0)]) hx hb dX4_newerOf_9 rfl hl (by decide) rfl (fun ls hl => ?_)
  refine lv_aload_n hx hb dX4_newerOf_10 rfl (lv_at hl 1 rfl) ?_
  refine va_get (D := G.1) (ci := 3) (v := .ref (a 4)) (C := RX4) (T := TX4) (N := 11) hx hb hts hX4 hown hK.1 hP 0 rfl rfl 5 (by decide) (hts _ tw_88) (fun _ h9 => h9) rfl dX4_newerOf_11 ?_
  refine va_get (D := G.1) (ci := 2) (v := .ref (a 5)) (C := RX3) (T := TX3) (N := 3) hx hb hts hX3 hown hK.1 hP 4 rfl rfl 1 (by decide) (hts _ tw_42) (fun _ h9 => h9) rfl dX4_newerOf_14 ?_
  refine lv_iload_n hx hb dX4_newerOf_17 rfl (lv_at hl 2 rfl) ?_
  obtain ⟨g2, hf⟩ := g_gdS hf
  refine va_iald hx hb hK.1 hP 5 0 rfl rfl (g_in_vp g2) dX4_newerOf_18 ?_
  refine lv_istore_n (lv' := [(3, .int (nv p0.toNatClampNeg)), (2, .int (ov p0.toNatClampNeg)), (0, .ref (a 0)), (1, .int p0)]) hx hb dX4_newerOf_19 rfl hl (by decide) rfl (fun ls hl => ?_)
  refine lv_iload_n hx hb dX4_newerOf_20 rfl (lv_at hl 1 rfl) ?_
  refine lv_iload_n hx hb dX4_newerOf_21 rfl (lv_at hl 0 rfl) ?_
  refine lv_icmp_ne (tgt := 30) hx hb dX4_newerOf_22 (by decide) (fun c3 => ?_) (fun c3 => ?_)
  · have hf := g_ifF c3 hf
    refine lv_iload_n hx hb dX4_newerOf_30 rfl (lv_at hl 1 rfl) ?_
    refine lv_iload_n hx hb dX4_newerOf_31 rfl (lv_at hl 0 rfl) ?_
    refine lv_icmp_le (tgt := 39) hx hb dX4_newerOf_32 (by decide) (fun c4 => ?_) (fun c4 => ?_)
    · have hf := g_ifT c4 hf
      refine lv_iconst (v := (1 : Int32)) hx hb dX4_newerOf_39 (by decide) ?_
      cases hf
      exact g_iretR hx hb hr hlocks dX4_newerOf_40
    · have hf := g_ifF c4 hf
      refine lv_iconst (v := (0 : Int32)) hx hb dX4_newerOf_35 (by decide) ?_
      refine lv_goto (tgt := 40) hx hb dX4_newerOf_36 (by decide) ?_
      cases hf
      exact g_iretR hx hb hr hlocks dX4_newerOf_40
  · have hf := g_ifT c3 hf
    refine lv_aload_n hx hb dX4_newerOf_25 rfl (lv_at hl 2 rfl) ?_
    obtain ⟨r5, e6, hf⟩ := g_bdS hf
    refine g_contR (st1 := [.int r5]) (g_runVR (As := []) (rest := []) ⟨hx, hb, hml, hown, hts⟩ (qX4_first l G a e6) (cwV 0 hts (TB_V TB_id tw_209 tw_210 tw_211 tw_6 tw_212) rfl rfl rfl (by decide +kernel) ⟨Nat.le_of_ble_eq_true rfl, Nat.le_of_ble_eq_true rfl⟩) hK (hP.sub [0, 1, 2, 3, 4, 5, 6, 7, 8, 9, 10, 11, 12, 13] rfl) 0 rfl rfl rfl hl.1 rfl (Nat.le_of_ble_eq_true rfl) dX4_newerOf_26) rfl ?_
    cases hf
    exact g_iretR hx hb hr hlocks dX4_newerOf_29
-- TwoShapes$Table.mendKey(I)I
abbrev rmX4_mendKey : Room := { frames := 3, cells := 0, slots := 0, locals := 67 }
def fX4_mendKey (p0 : Int32) (ph : Int32) (la : Int32) (po : Int32) (lo : Int32) (ov : Nat → Int32) (orr : Nat → Int32) (nv : Nat → Int32) (nr : Nat → Int32) (ql : Int32) (qk : Nat → Int32) (qv : Nat → Int32) (qr : Nat → Int32) (wr : Nat → Int32) (wa : Int32) (wc : Nat → Int32) (wk : Nat → Int32) : Option (Int32 × Int32 × Int32 × Int32 × Int32 × (Nat → Int32) × (Nat → Int32) × (Nat → Int32) × (Nat → Int32) × Int32 × (Nat → Int32) × (Nat → Int32) × (Nat → Int32) × (Nat → Int32) × Int32 × (Nat → Int32) × (Nat → Int32)) := ((fX5_isBelow p0 (31 : Int32)).bind fun r1 => (if r1 = (0 : Int32) then some ((-1000001 : Int32), ph, la, po, lo, ov, orr, nv, nr, ql, qk, qv, qr, wr, wa, wc, wk) else ((fX4_hasBoth ph la po lo ov orr nv nr ql qk qv qr wr wa wc wk).bind fun r4 => (if r4 = (0 : Int32) then some ((-1000002 : Int32), ph, la, po, lo, ov, orr, nv, nr, ql, qk, qv, qr, wr, wa, wc, wk) else ((fX1_latestOf p0 ql qk qv qr).bind fun r7 => (if r7 = (-1 : Int32) then ((fX4_differing ph la po lo ov orr nv nr ql qk qv qr wr wa wc wk).bind fun r10 => (if (r10 &&& ((1 : Int32) <<< (p0 &&& 31))) = (0 : Int32) then some ((0 : Int32), ph, la, po, lo, ov, orr, nv, nr, ql, qk, qv, qr, wr, wa, wc, wk) else ((fX4_newerOf p0 ph la po lo ov orr nv nr ql qk qv qr wr wa wc wk).bind fun r13 => ((fX4_other r13 ph la po lo ov orr nv nr ql qk qv qr wr wa wc wk).bind fun r15 => ((fX4_shape r15 ph la po lo ov orr nv nr ql qk qv qr wr wa wc wk).bind fun r17 => (if r17 = 1 then ((fX4_shape r13 ph la po lo ov orr nv nr ql qk qv qr wr wa wc wk).bind fun r20 => (if r20 = 1 then none else (if r20 = 4 then ((fX3_takeFrom p0 0 1 ov orr nv nr).bind fun r26 => some ((1 : Int32), ph, la, po, lo, r26.1, r26.2, nv, nr, ql, qk, qv, qr, wr, wa, wc, wk)) else none))) else (if r17 = 4 then ((fX4_shape r13 ph la po lo ov orr nv nr ql qk qv qr wr wa wc wk).bind fun r29 => (if r29 = 1 then ((fX3_takeFrom p0 1 0 nv nr ov orr).bind fun r32 => some ((1 : Int32), ph, la, po, lo, ov, orr, r32.1, r32.2, ql, qk, qv, qr, wr, wa, wc, wk)) else (if r29 = 4 then none else none))) else none))))))) else some ((-1000002 : Int32), ph, la, po, lo, ov, orr, nv, nr, ql, qk, qv, qr, wr, wa, wc, wk)))))))
set_option maxHeartbeats 4000000 in
set_option maxRecDepth 100000 in
theorem qX4_mendKey (l : Launch) (G : gT) (a : Nat → Nat) {p0 : Int32} {ph : Int32} {la : Int32} {po : Int32} {lo : Int32} {ov : Nat → Int32} {orr : Nat → Int32} {nv : Nat → Int32} {nr : Nat → Int32} {ql : Int32} {qk : Nat → Int32} {qv : Nat → Int32} {qr : Nat → Int32} {wr : Nat → Int32} {wa : Int32} {wc : Nat → Int32} {wk : Nat → Int32} {u : Int32 × Int32 × Int32 × Int32 × Int32 × (Nat → Int32) × (Nat → Int32) × (Nat → Int32) × (Nat → Int32) × Int32 × (Nat → Int32) × (Nat → Int32) × (Nat → Int32) × (Nat → Int32) × Int32 × (Nat → Int32) × (Nat → Int32)} (hf : fX4_mendKey p0 ph la po lo ov orr nv nr ql qk qv qr wr wa wc wk = some u) : gC l G yX4_mendKey wsX4_mendKey rmX4_mendKey [.ref (a 0), .int p0] (tabW G a ph la po lo ov orr nv nr ql qk qv qr wr wa wc wk) (some (.int u.1)) (tabW G a u.2.1 u.2.2.1 u.2.2.2.1 u.2.2.2.2.1 u.2.2.2.2.2.1 u.2.2.2.2.2.2.1 u.2.2.2.2.2.2.2.1 u.2.2.2.2.2.2.2.2.1 u.2.2.2.2.2.2.2.2.2.1 u.2.2.2.2.2.2.2.2.2.2.1 u.2.2.2.2.2.2.2.2.2.2.2.1 u.2.2.2.2.2.2.2.2.2.2.2.2.1 u.2.2.2.2.2.2.2.2.2.2.2.2.2.1 u.2.2.2.2.2.2.2.2.2.2.2.2.2.2.1 u.2.2.2.2.2.2.2.2.2.2.2.2.2.2.2.1 u.2.2.2.2.2.2.2.2.2.2.2.2.2.2.2.2) := by
  refine gC.of (cc := cX4_mendKey) (maxL := 3) (ret := (some .int)) (by decide) rfl (Nat.le_of_ble_eq_true rfl) ?_
  intro p e s m below meth c C0 hP hD hS ls hl
  obtain ⟨hx, hb, hr, hts, hown, hlocks, hml, hK⟩ := id C0
  have hl : lv_has ls 3 [(0, .ref (a 0)), (1, .int p0)] := hl
  have hA : ∀ q : Nat, s.heap.size ≤ q → va_A (tabW G a ph la po lo ov orr nv nr ql qk qv qr wr wa wc wk) s.heap.size q := fun q h => Or.inr h
  have hP : va_P G.1 vwCl [((a 0), .inr (3, [.int ph, .int la, .int po, .int lo, .ref (a 1), .ref (a 4), .ref (a 7), .ref (a 11), .int wa, .ref (a 12), .ref (a 13)])), ((a 1), .inr (2, [.int 0, .ref (a 2), .ref (a 3)])), ((a 2), .inl (G.2.1, 31, .inl ov)), ((a 3), .inl (G.2.1, 31, .inl orr)), ((a 4), .inr (2, [.int 1, .ref (a 5), .ref (a 6)])), ((a 5), .inl (G.2.1, 31, .inl nv)), ((a 6), .inl (G.2.1, 31, .inl nr)), ((a 7), .inr (1, [.int ql, .ref (a 8), .ref (a 9), .ref (a 10)])), ((a 8), .inl (G.2.1, 8, .inl qk)), ((a 9), .inl (G.2.1, 8, .inl qv)), ((a 10), .inl (G.2.1, 8, .inl qr)), ((a 11), .inl (G.2.1, 31, .inl wr)), ((a 12), .inl (G.2.1, 3, .inl wc)), ((a 13), .inl (G.2.1, 3, .inl wk))] s.heap := hP
  have hD : va_D (va_A (tabW G a ph la po lo ov orr nv nr ql qk qv qr wr wa wc wk) s.heap.size) [((a 0), .inr (3, [.int ph, .int la, .int po, .int lo, .ref (a 1), .ref (a 4), .ref (a 7), .ref (a 11), .int wa, .ref (a 12), .ref (a 13)])), ((a 1), .inr (2, [.int 0, .ref (a 2), .ref (a 3)])), ((a 2), .inl (G.2.1, 31, .inl ov)), ((a 3), .inl (G.2.1, 31, .inl orr)), ((a 4), .inr (2, [.int 1, .ref (a 5), .ref (a 6)])), ((a 5), .inl (G.2.1, 31, .inl nv)), ((a 6), .inl (G.2.1, 31, .inl nr)), ((a 7), .inr (1, [.int ql, .ref (a 8), .ref (a 9), .ref (a 10)])), ((a 8), .inl (G.2.1, 8, .inl qk)), ((a 9), .inl (G.2.1, 8, .inl qv)), ((a 10), .inl (G.2.1, 8, .inl qr)), ((a 11), .inl (G.2.1, 31, .inl wr)), ((a 12), .inl (G.2.1, 3, .inl wc)), ((a 13), .inl (G.2.1, 3, .inl wk))] := hD
  unfold fX4_mendKey at hf
  refine lv_iload_n hx hb dX4_mendKey_0 rfl (lv_at hl 1 rfl) ?_
  refine lv_bipush (v := (31 : Int32)) hx hb dX4_mendKey_1 (by decide) ?_
  obtain ⟨r1, e2, hf⟩ := g_bdS hf
  refine g_contR (st1 := [.int r1]) (g_runSNR (As := [.int p0, .int (31 : Int32)]) (rest := []) ⟨hx, hb, hml, hown, hts⟩ (qX5_isBelow l G e2) ⟨va_cnB 2 hts (TB_C TB_id tw_191) rfl rfl rfl hK.2.1 (hts _ tw_5) (by decide +kernel) ⟨Nat.le_of_ble_eq_true rfl, Nat.le_of_ble_eq_true rfl⟩, hts _ tw_190, trivial⟩ hK (hP.sub [] rfl) rfl hl.1 rfl (Nat.le_of_ble_eq_true rfl) dX4_mendKey_3) rfl ?_
  refine lv_if_ne (tgt := 12) hx hb dX4_mendKey_6 (by decide) (fun c3 => ?_) (fun c3 => ?_)
  · have hf := g_ifF c3 hf
    refine lv_aload_n hx hb dX4_mendKey_12 rfl (lv_at hl 0 rfl) ?_
    obtain ⟨r4, e5, hf⟩ := g_bdS hf
    refine g_contR (st1 := [.int r4]) (g_runVR (As := []) (rest := []) ⟨hx, hb, hml, hown, hts⟩ (qX4_hasBoth l G a e5) (cwV 0 hts (TB_V TB_id tw_329 tw_285 tw_286 tw_6 tw_287) rfl rfl rfl (by decide +kernel) ⟨Nat.le_of_ble_eq_true rfl, Nat.le_of_ble_eq_true rfl⟩) hK (hP.sub [0, 1, 2, 3, 4, 5, 6, 7, 8, 9, 10, 11, 12, 13] rfl) 0 rfl rfl rfl hl.1 rfl (Nat.le_of_ble_eq_true rfl) dX4_mendKey_13) rfl ?_
    refine lv_if_eq (tgt := 31) hx hb dX4_mendKey_16 (by decide) (fun c6 => ?_) (fun c6 => ?_)
    · have hf := g_ifT c6 hf
      refine lv_ldc (v := (-1000002 : Int32)) hx hb hown (hts _ tw_367) dX4_mendKey_31 ?_
      cases hf
      exact g_iretC hx hb hr hlocks hP hD hS dX4_mendKey_33
    · have hf := g_ifF c6 hf
      refine lv_aload_n hx hb dX4_mendKey_19 rfl (lv_at hl 0 rfl) ?_
      refine va_get (D := G.1) (ci := 3) (v := .ref (a 7)) (C := RX4) (T := TX4) (N := 11) hx hb hts hX4 hown hK.1 hP 0 rfl rfl 6 (by decide) (hts _ tw_90) (fun _ h9 => h9) rfl dX4_mendKey_20 ?_
      refine lv_iload_n hx hb dX4_mendKey_23 rfl (lv_at hl 1 rfl) ?_
      obtain ⟨r7, e8, hf⟩ := g_bdS hf
      refine g_contR (st1 := [.int r7]) (g_runVR (As := [.int p0]) (rest := []) ⟨hx, hb, hml, hown, hts⟩ (qX1_latestOf l G (a 7) (a 8) (a 9) (a 10) e8) (cwV 1 hts (TB_V TB_id tw_201 tw_202 tw_203 tw_8 tw_204) rfl rfl rfl (by decide +kernel) ⟨Nat.le_of_ble_eq_true rfl, Nat.le_of_ble_eq_true rfl⟩) hK (hP.sub [7, 8, 9, 10] rfl) 0 rfl rfl rfl hl.1 rfl (Nat.le_of_ble_eq_true rfl) dX4_mendKey_24) rfl ?_
      refine lv_iconst (v := (-1 : Int32)) hx hb dX4_mendKey_27 (by decide) ?_
      refine lv_icmp_eq (tgt := 34) hx hb dX4_mendKey_28 (by decide) (fun c9 => ?_) (fun c9 => ?_)
      · have hf := g_ifT c9 hf
        refine lv_aload_n hx hb dX4_mendKey_34 rfl (lv_at hl 0 rfl) ?_
        obtain ⟨r10, e11, hf⟩ := g_bdS hf
        refine g_contR (st1 := [.int r10]) (g_runVR (As := []) (rest := []) ⟨hx, hb, hml, hown, hts⟩ (qX4_differing l G a e11) (cwV 0 hts (TB_V TB_id tw_262 tw_263 tw_264 tw_6 tw_265) rfl rfl rfl (by decide +kernel) ⟨Nat.le_of_ble_eq_true rfl, Nat.le_of_ble_eq_true rfl⟩) hK (hP.sub [0, 1, 2, 3, 4, 5, 6, 7, 8, 9, 10, 11, 12, 13] rfl) 0 rfl rfl rfl hl.1 rfl (Nat.le_of_ble_eq_true rfl) dX4_mendKey_35) rfl ?_
        refine lv_iconst (v := (1 : Int32)) hx hb dX4_mendKey_38 (by decide) ?_
        refine lv_iload_n hx hb dX4_mendKey_39 rfl (lv_at hl 1 rfl) ?_
        refine lv_ishl hx hb dX4_mendKey_40 ?_
        refine lv_iand hx hb dX4_mendKey_41 ?_
        refine lv_if_ne (tgt := 47) hx hb dX4_mendKey_42 (by decide) (fun c12 => ?_) (fun c12 => ?_)
        · have hf := g_ifF c12 hf
          refine lv_aload_n hx hb dX4_mendKey_47 rfl (lv_at hl 0 rfl) ?_
          refine lv_iload_n hx hb dX4_mendKey_48 rfl (lv_at hl 1 rfl) ?_
          obtain ⟨r13, e14, hf⟩ := g_bdS hf
          refine g_contR (st1 := [.int r13]) (g_runVR (As := [.int p0]) (rest := []) ⟨hx, hb, hml, hown, hts⟩ (qX4_newerOf l G a e14) (cwV 1 hts (TB_V TB_id tw_452 tw_454 tw_3 tw_6 tw_455) rfl rfl rfl (by decide +kernel) ⟨Nat.le_of_ble_eq_true rfl, Nat.le_of_ble_eq_true rfl⟩) hK (hP.sub [0, 1, 2, 3, 4, 5, 6, 7, 8, 9, 10, 11, 12, 13] rfl) 0 rfl rfl rfl hl.1 rfl (Nat.le_of_ble_eq_true rfl) dX4_mendKey_49) rfl ?_
          refine lv_istore_n (lv' := [(2, .int r13), (0, .ref (a 0)), (1, .int p0)]) hx hb dX4_mendKey_52 rfl hl (by decide) rfl (fun ls hl => ?_)
          refine lv_aload_n hx hb dX4_mendKey_53 rfl (lv_at hl 1 rfl) ?_
          refine lv_aload_n hx hb dX4_mendKey_54 rfl (lv_at hl 1 rfl) ?_
          refine lv_iload_n hx hb dX4_mendKey_55 rfl (lv_at hl 0 rfl) ?_
          obtain ⟨r15, e16, hf⟩ := g_bdS hf
          refine g_contR (st1 := [.int r15, .ref (a 0)]) (g_runVR (As := [.int r13]) (rest := [.ref (a 0)]) ⟨hx, hb, hml, hown, hts⟩ (qX4_other l G a e16) (cwV 1 hts (TB_V TB_id tw_213 tw_214 tw_215 tw_6 tw_216) rfl rfl rfl (by decide +kernel) ⟨Nat.le_of_ble_eq_true rfl, Nat.le_of_ble_eq_true rfl⟩) hK (hP.sub [0, 1, 2, 3, 4, 5, 6, 7, 8, 9, 10, 11, 12, 13] rfl) 0 rfl rfl rfl hl.1 rfl (Nat.le_of_ble_eq_true rfl) dX4_mendKey_56) rfl ?_
          obtain ⟨r17, e18, hf⟩ := g_bdS hf
          refine g_contR (st1 := [.ref (a r17)]) (g_runVR (As := [.int r15]) (rest := []) ⟨hx, hb, hml, hown, hts⟩ (qX4_shape l G a e18) (cwV 1 hts (TB_V TB_id tw_224 tw_225 tw_226 tw_6 tw_227) rfl rfl rfl (by decide +kernel) ⟨Nat.le_of_ble_eq_true rfl, Nat.le_of_ble_eq_true rfl⟩) hK (hP.sub [0, 1, 2, 3, 4, 5, 6, 7, 8, 9, 10, 11, 12, 13] rfl) 0 rfl rfl rfl hl.1 rfl (Nat.le_of_ble_eq_true rfl) dX4_mendKey_59) rfl ?_
          by_cases c19 : r17 = 1
          · have hf := g_ifT c19 hf
            subst c19
            refine lv_aload_n hx hb dX4_mendKey_62 rfl (lv_at hl 1 rfl) ?_
            refine lv_iload_n hx hb dX4_mendKey_63 rfl (lv_at hl 0 rfl) ?_
            obtain ⟨r20, e21, hf⟩ := g_bdS hf
            refine g_contR (st1 := [.ref (a r20), .ref (a 1)]) (g_runVR (As := [.int r13]) (rest := [.ref (a 1)]) ⟨hx, hb, hml, hown, hts⟩ (qX4_shape l G a e21) (cwV 1 hts (TB_V TB_id tw_224 tw_225 tw_226 tw_6 tw_227) rfl rfl rfl (by decide +kernel) ⟨Nat.le_of_ble_eq_true rfl, Nat.le_of_ble_eq_true rfl⟩) hK (hP.sub [0, 1, 2, 3, 4, 5, 6, 7, 8, 9, 10, 11, 12, 13] rfl) 0 rfl rfl rfl hl.1 rfl (Nat.le_of_ble_eq_true rfl) dX4_mendKey_64) rfl ?_
            by_cases c22 : r20 = 1
            · have hf := g_ifT c22 hf
              subst c22
              refine lv_iload_n hx hb dX4_mendKey_67 rfl (lv_at hl 2 rfl) ?_
              cases hf
            have hf := g_ifF c22 hf
            by_cases c25 : r20 = 4
            · have hf := g_ifT c25 hf
              subst c25
              refine lv_iload_n hx hb dX4_mendKey_67 rfl (lv_at hl 2 rfl) ?_
              obtain ⟨r26, e27, hf⟩ := g_bdS hf
              refine g_contC (st1 := []) (g_runVC (As := [.ref (a 4), .int p0]) (rest := []) ⟨hx, hb, hml, hown, hts⟩ (qX3_takeFrom l G (a 1) (a 2) (a 3) (a 4) (a 5) (a 6) e27) (cwV 2 hts (TB_V TB_id tw_395 tw_396 tw_397 tw_7 tw_398) rfl rfl rfl (by decide +kernel) ⟨Nat.le_of_ble_eq_true rfl, Nat.le_of_ble_eq_true rfl⟩) hK (hP.sub [1, 2, 3, 4, 5, 6] rfl) (hD.sub [1, 2, 3, 4, 5, 6] (by decide) rfl) 0 rfl rfl rfl hl.1 rfl (Nat.le_of_ble_eq_true rfl) dX4_mendKey_68) rfl hP hD hS hA [1, 2, 3, 4, 5, 6] rfl rfl (fun H locs hP hD hS => ?_)
              have hP : va_P G.1 vwCl [((a 0), .inr (3, [.int ph, .int la, .int po, .int lo, .ref (a 1), .ref (a 4), .ref (a 7), .ref (a 11), .int wa, .ref (a 12), .ref (a 13)])), ((a 1), .inr (2, [.int 0, .ref (a 2), .ref (a 3)])), ((a 2), .inl (G.2.1, 31, .inl r26.1)), ((a 3), .inl (G.2.1, 31, .inl r26.2)), ((a 4), .inr (2, [.int 1, .ref (a 5), .ref (a 6)])), ((a 5), .inl (G.2.1, 31, .inl nv)), ((a 6), .inl (G.2.1, 31, .inl nr)), ((a 7), .inr (1, [.int ql, .ref (a 8), .ref (a 9), .ref (a 10)])), ((a 8), .inl (G.2.1, 8, .inl qk)), ((a 9), .inl (G.2.1, 8, .inl qv)), ((a 10), .inl (G.2.1, 8, .inl qr)), ((a 11), .inl (G.2.1, 31, .inl wr)), ((a 12), .inl (G.2.1, 3, .inl wc)), ((a 13), .inl (G.2.1, 3, .inl wk))] H := hP
              have hD : va_D (va_A (tabW G a ph la po lo ov orr nv nr ql qk qv qr wr wa wc wk) s.heap.size) [((a 0), .inr (3, [.int ph, .int la, .int po, .int lo, .ref (a 1), .ref (a 4), .ref (a 7), .ref (a 11), .int wa, .ref (a 12), .ref (a 13)])), ((a 1), .inr (2, [.int 0, .ref (a 2), .ref (a 3)])), ((a 2), .inl (G.2.1, 31, .inl r26.1)), ((a 3), .inl (G.2.1, 31, .inl r26.2)), ((a 4), .inr (2, [.int 1, .ref (a 5), .ref (a 6)])), ((a 5), .inl (G.2.1, 31, .inl nv)), ((a 6), .inl (G.2.1, 31, .inl nr)), ((a 7), .inr (1, [.int ql, .ref (a 8), .ref (a 9), .ref (a 10)])), ((a 8), .inl (G.2.1, 8, .inl qk)), ((a 9), .inl (G.2.1, 8, .inl qv)), ((a 10), .inl (G.2.1, 8, .inl qr)), ((a 11), .inl (G.2.1, 31, .inl wr)), ((a 12), .inl (G.2.1, 3, .inl wc)), ((a 13), .inl (G.2.1, 3, .inl wk))] := hD
              refine lv_iconst (v := (1 : Int32)) hx hb dX4_mendKey_71 (by decide) ?_
              cases hf
              exact g_iretC hx hb hr hlocks hP hD hS dX4_mendKey_72
            have hf := g_ifF c25 hf
            cases hf
          have hf := g_ifF c19 hf
          by_cases c28 : r17 = 4
          · have hf := g_ifT c28 hf
            subst c28
            refine lv_aload_n hx hb dX4_mendKey_62 rfl (lv_at hl 1 rfl) ?_
            refine lv_iload_n hx hb dX4_mendKey_63 rfl (lv_at hl 0 rfl) ?_
            obtain ⟨r29, e30, hf⟩ := g_bdS hf
            refine g_contR (st1 := [.ref (a r29), .ref (a 4)]) (g_runVR (As := [.int r13]) (rest := [.ref (a 4)]) ⟨hx, hb, hml, hown, hts⟩ (qX4_shape l G a e30) (cwV 1 hts (TB_V TB_id tw_224 tw_225 tw_226 tw_6 tw_227) rfl rfl rfl (by decide +kernel) ⟨Nat.le_of_ble_eq_true rfl, Nat.le_of_ble_eq_true rfl⟩) hK (hP.sub [0, 1, 2, 3, 4, 5, 6, 7, 8, 9, 10, 11, 12, 13] rfl) 0 rfl rfl rfl hl.1 rfl (Nat.le_of_ble_eq_true rfl) dX4_mendKey_64) rfl ?_
            by_cases c31 : r29 = 1
            · have hf := g_ifT c31 hf
              subst c31
              refine lv_iload_n hx hb dX4_mendKey_67 rfl (lv_at hl 2 rfl) ?_
              obtain ⟨r32, e33, hf⟩ := g_bdS hf
              refine g_contC (st1 := []) (g_runVC (As := [.ref (a 1), .int p0]) (rest := []) ⟨hx, hb, hml, hown, hts⟩ (qX3_takeFrom l G (a 4) (a 5) (a 6) (a 1) (a 2) (a 3) e33) (cwV 2 hts (TB_V TB_id tw_395 tw_396 tw_397 tw_7 tw_398) rfl rfl rfl (by decide +kernel) ⟨Nat.le_of_ble_eq_true rfl, Nat.le_of_ble_eq_true rfl⟩) hK (hP.sub [4, 5, 6, 1, 2, 3] rfl) (hD.sub [4, 5, 6, 1, 2, 3] (by decide) rfl) 0 rfl rfl rfl hl.1 rfl (Nat.le_of_ble_eq_true rfl) dX4_mendKey_68) rfl hP hD hS hA [4, 5, 6, 1, 2, 3] rfl rfl (fun H locs hP hD hS => ?_)
              have hP : va_P G.1 vwCl [((a 0), .inr (3, [.int ph, .int la, .int po, .int lo, .ref (a 1), .ref (a 4), .ref (a 7), .ref (a 11), .int wa, .ref (a 12), .ref (a 13)])), ((a 1), .inr (2, [.int 0, .ref (a 2), .ref (a 3)])), ((a 2), .inl (G.2.1, 31, .inl ov)), ((a 3), .inl (G.2.1, 31, .inl orr)), ((a 4), .inr (2, [.int 1, .ref (a 5), .ref (a 6)])), ((a 5), .inl (G.2.1, 31, .inl r32.1)), ((a 6), .inl (G.2.1, 31, .inl r32.2)), ((a 7), .inr (1, [.int ql, .ref (a 8), .ref (a 9), .ref (a 10)])), ((a 8), .inl (G.2.1, 8, .inl qk)), ((a 9), .inl (G.2.1, 8, .inl qv)), ((a 10), .inl (G.2.1, 8, .inl qr)), ((a 11), .inl (G.2.1, 31, .inl wr)), ((a 12), .inl (G.2.1, 3, .inl wc)), ((a 13), .inl (G.2.1, 3, .inl wk))] H := hP
              have hD : va_D (va_A (tabW G a ph la po lo ov orr nv nr ql qk qv qr wr wa wc wk) s.heap.size) [((a 0), .inr (3, [.int ph, .int la, .int po, .int lo, .ref (a 1), .ref (a 4), .ref (a 7), .ref (a 11), .int wa, .ref (a 12), .ref (a 13)])), ((a 1), .inr (2, [.int 0, .ref (a 2), .ref (a 3)])), ((a 2), .inl (G.2.1, 31, .inl ov)), ((a 3), .inl (G.2.1, 31, .inl orr)), ((a 4), .inr (2, [.int 1, .ref (a 5), .ref (a 6)])), ((a 5), .inl (G.2.1, 31, .inl r32.1)), ((a 6), .inl (G.2.1, 31, .inl r32.2)), ((a 7), .inr (1, [.int ql, .ref (a 8), .ref (a 9), .ref (a 10)])), ((a 8), .inl (G.2.1, 8, .inl qk)), ((a 9), .inl (G.2.1, 8, .inl qv)), ((a 10), .inl (G.2.1, 8, .inl qr)), ((a 11), .inl (G.2.1, 31, .inl wr)), ((a 12), .inl (G.2.1, 3, .inl wc)), ((a 13), .inl (G.2.1, 3, .inl wk))] := hD
              refine lv_iconst (v := (1 : Int32)) hx hb dX4_mendKey_71 (by decide) ?_
              cases hf
              exact g_iretC hx hb hr hlocks hP hD hS dX4_mendKey_72
            have hf := g_ifF c31 hf
            by_cases c34 : r29 = 4
            · have hf := g_ifT c34 hf
              subst c34
              refine lv_iload_n hx hb dX4_mendKey_67 rfl (lv_at hl 2 rfl) ?_
              cases hf
            have hf := g_ifF c34 hf
            cases hf
          have hf := g_ifF c28 hf
          cases hf
        · have hf := g_ifT c12 hf
          refine lv_iconst (v := (0 : Int32)) hx hb dX4_mendKey_45 (by decide) ?_
          cases hf
          exact g_iretC hx hb hr hlocks hP hD hS dX4_mendKey_46
      · have hf := g_ifF c9 hf
        refine lv_ldc (v := (-1000002 : Int32)) hx hb hown (hts _ tw_367) dX4_mendKey_31 ?_
        cases hf
        exact g_iretC hx hb hr hlocks hP hD hS dX4_mendKey_33
  · have hf := g_ifT c3 hf
    refine lv_ldc (v := (-1000001 : Int32)) hx hb hown (hts _ tw_192) dX4_mendKey_9 ?_
    cases hf
    exact g_iretC hx hb hr hlocks hP hD hS dX4_mendKey_11
-- TwoShapes$Table.rowRead(II)I
abbrev rmX4_rowRead : Room := { frames := 2, cells := 0, slots := 0, locals := 41 }
def fX4_rowRead_b90 (x1 : Int32) (x2 : Int32) (t0 : Int32) (ph : Int32) (la : Int32) (po : Int32) (lo : Int32) (ov : Nat → Int32) (orr : Nat → Int32) (nv : Nat → Int32) (nr : Nat → Int32) (ql : Int32) (qk : Nat → Int32) (qv : Nat → Int32) (qr : Nat → Int32) (wr : Nat → Int32) (wa : Int32) (wc : Nat → Int32) (wk : Nat → Int32) : Option (Int32) := ((fX4_shape t0 ph la po lo ov orr nv nr ql qk qv qr wr wa wc wk).bind fun r8 => (if r8 = 1 then g_gd (g_in x1 31) (((fX2_madeOver (orr x1.toNatClampNeg) x2).bind fun r12 => some (r12))) else (if r8 = 4 then g_gd (g_in x1 31) (((fX2_madeOver (nr x1.toNatClampNeg) x2).bind fun r16 => some (r16))) else none)))
set_option maxHeartbeats 4000000 in
set_option maxRecDepth 100000 in
theorem kX4_rowRead_b90 {p : Program} {l : Launch} {e : Env} {s : State} {m : MethodId} {args : Array Value} {below : List Frame} {meth : Method} {c : Code} {G : gT} {a : Nat → Nat} (C0 : gX p s m args meth c cX4_rowRead 6 (some .int) RX4 G) :
    ∀ (x1 : Int32) (x2 : Int32) (t0 : Int32) (ph : Int32) (la : Int32) (po : Int32) (lo : Int32) (ov : Nat → Int32) (orr : Nat → Int32) (nv : Nat → Int32) (nr : Nat → Int32) (ql : Int32) (qk : Nat → Int32) (qv : Nat → Int32) (qr : Nat → Int32) (wr : Nat → Int32) (wa : Int32) (wc : Nat → Int32) (wk : Nat → Int32) (u : Int32), fX4_rowRead_b90 x1 x2 t0 ph la po lo ov orr nv nr ql qk qv qr wr wa wc wk = some u → va_P G.1 vwCl [((a 0), .inr (3, [.int ph, .int la, .int po, .int lo, .ref (a 1), .ref (a 4), .ref (a 7), .ref (a 11), .int wa, .ref (a 12), .ref (a 13)])), ((a 1), .inr (2, [.int 0, .ref (a 2), .ref (a 3)])), ((a 2), .inl (G.2.1, 31, .inl ov)), ((a 3), .inl (G.2.1, 31, .inl orr)), ((a 4), .inr (2, [.int 1, .ref (a 5), .ref (a 6)])), ((a 5), .inl (G.2.1, 31, .inl nv)), ((a 6), .inl (G.2.1, 31, .inl nr)), ((a 7), .inr (1, [.int ql, .ref (a 8), .ref (a 9), .ref (a 10)])), ((a 8), .inl (G.2.1, 8, .inl qk)), ((a 9), .inl (G.2.1, 8, .inl qv)), ((a 10), .inl (G.2.1, 8, .inl qr)), ((a 11), .inl (G.2.1, 31, .inl wr)), ((a 12), .inl (G.2.1, 3, .inl wc)), ((a 13), .inl (G.2.1, 3, .inl wk))] s.heap → ∀ ls, lv_has ls 6 [(0, .ref (a 0)), (1, .int x1), (2, .int x2)] → gV p l e (headSpec wsX4_rowRead rmX4_rowRead).room s m args below meth c (some (.int u)) 90 ls [.int t0] := by
  obtain ⟨hx, hb, hr, hts, hown, hlocks, hml, hK⟩ := id C0
  intro x1 x2 t0 ph la po lo ov orr nv nr ql qk qv qr wr wa wc wk u hf hP ls hl
  unfold fX4_rowRead_b90 at hf
  refine lv_istore (lv' := [(5, .int t0), (0, .ref (a 0)), (1, .int x1), (2, .int x2)]) hx hb dX4_rowRead_90 hl (by decide) rfl (fun ls hl => ?_)
  refine lv_aload_n hx hb dX4_rowRead_92 rfl (lv_at hl 1 rfl) ?_
  refine lv_iload hx hb dX4_rowRead_93 (lv_at hl 0 rfl) ?_
  obtain ⟨r8, e9, hf⟩ := g_bdS hf
  refine g_contR (st1 := [.ref (a r8)]) (g_runVR (As := [.int t0]) (rest := []) ⟨hx, hb, hml, hown, hts⟩ (qX4_shape l G a e9) (cwV 1 hts (TB_V TB_id tw_224 tw_225 tw_226 tw_6 tw_227) rfl rfl rfl (by decide +kernel) ⟨Nat.le_of_ble_eq_true rfl, Nat.le_of_ble_eq_true rfl⟩) hK (hP.sub [0, 1, 2, 3, 4, 5, 6, 7, 8, 9, 10, 11, 12, 13] rfl) 0 rfl rfl rfl hl.1 rfl (Nat.le_of_ble_eq_true rfl) dX4_rowRead_95) rfl ?_
  by_cases c10 : r8 = 1
  · have hf := g_ifT c10 hf
    subst c10
    refine va_get (D := G.1) (ci := 2) (v := .ref (a 3)) (C := RX3) (T := TX3) (N := 3) hx hb hts hX3 hown hK.1 hP 1 rfl rfl 2 (by decide) (hts _ tw_45) (fun _ h9 => h9) rfl dX4_rowRead_98 ?_
    refine lv_iload_n hx hb dX4_rowRead_101 rfl (lv_at hl 2 rfl) ?_
    obtain ⟨g11, hf⟩ := g_gdS hf
    refine va_iald hx hb hK.1 hP 3 0 rfl rfl (g_in_vp g11) dX4_rowRead_102 ?_
    refine lv_iload_n hx hb dX4_rowRead_103 rfl (lv_at hl 3 rfl) ?_
    obtain ⟨r12, e13, hf⟩ := g_bdS hf
    refine g_contR (st1 := [.int r12]) (g_runSR (As := [.int (orr x1.toNatClampNeg), .int x2]) (rest := []) ⟨hx, hb, hml, hown, hts⟩ (qX2_madeOver l G e13) (va_cwS 2 hts (TB_S TB_id tw_217 tw_218 tw_10 tw_219) rfl rfl rfl (by decide +kernel) ⟨Nat.le_of_ble_eq_true rfl, Nat.le_of_ble_eq_true rfl⟩) hK (hP.sub [] rfl) rfl hl.1 rfl (Nat.le_of_ble_eq_true rfl) dX4_rowRead_104) rfl ?_
    cases hf
    exact g_iretR hx hb hr hlocks dX4_rowRead_107
  have hf := g_ifF c10 hf
  by_cases c14 : r8 = 4
  · have hf := g_ifT c14 hf
    subst c14
    refine va_get (D := G.1) (ci := 2) (v := .ref (a 6)) (C := RX3) (T := TX3) (N := 3) hx hb hts hX3 hown hK.1 hP 4 rfl rfl 2 (by decide) (hts _ tw_45) (fun _ h9 => h9) rfl dX4_rowRead_98 ?_
    refine lv_iload_n hx hb dX4_rowRead_101 rfl (lv_at hl 2 rfl) ?_
    obtain ⟨g15, hf⟩ := g_gdS hf
    refine va_iald hx hb hK.1 hP 6 0 rfl rfl (g_in_vp g15) dX4_rowRead_102 ?_
    refine lv_iload_n hx hb dX4_rowRead_103 rfl (lv_at hl 3 rfl) ?_
    obtain ⟨r16, e17, hf⟩ := g_bdS hf
    refine g_contR (st1 := [.int r16]) (g_runSR (As := [.int (nr x1.toNatClampNeg), .int x2]) (rest := []) ⟨hx, hb, hml, hown, hts⟩ (qX2_madeOver l G e17) (va_cwS 2 hts (TB_S TB_id tw_217 tw_218 tw_10 tw_219) rfl rfl rfl (by decide +kernel) ⟨Nat.le_of_ble_eq_true rfl, Nat.le_of_ble_eq_true rfl⟩) hK (hP.sub [] rfl) rfl hl.1 rfl (Nat.le_of_ble_eq_true rfl) dX4_rowRead_104) rfl ?_
    cases hf
    exact g_iretR hx hb hr hlocks dX4_rowRead_107
  have hf := g_ifF c14 hf
  cases hf
def fX4_rowRead_b81 (x1 : Int32) (x2 : Int32) (ph : Int32) (la : Int32) (po : Int32) (lo : Int32) (ov : Nat → Int32) (orr : Nat → Int32) (nv : Nat → Int32) (nr : Nat → Int32) (ql : Int32) (qk : Nat → Int32) (qv : Nat → Int32) (qr : Nat → Int32) (wr : Nat → Int32) (wa : Int32) (wc : Nat → Int32) (wk : Nat → Int32) : Option (Int32) := ((fX4_other x2 ph la po lo ov orr nv nr ql qk qv qr wr wa wc wk).bind fun r6 => fX4_rowRead_b90 x1 x2 r6 ph la po lo ov orr nv nr ql qk qv qr wr wa wc wk)
set_option maxHeartbeats 4000000 in
set_option maxRecDepth 100000 in
theorem kX4_rowRead_b81 {p : Program} {l : Launch} {e : Env} {s : State} {m : MethodId} {args : Array Value} {below : List Frame} {meth : Method} {c : Code} {G : gT} {a : Nat → Nat} (C0 : gX p s m args meth c cX4_rowRead 6 (some .int) RX4 G) :
    ∀ (x1 : Int32) (x2 : Int32) (ph : Int32) (la : Int32) (po : Int32) (lo : Int32) (ov : Nat → Int32) (orr : Nat → Int32) (nv : Nat → Int32) (nr : Nat → Int32) (ql : Int32) (qk : Nat → Int32) (qv : Nat → Int32) (qr : Nat → Int32) (wr : Nat → Int32) (wa : Int32) (wc : Nat → Int32) (wk : Nat → Int32) (u : Int32), fX4_rowRead_b81 x1 x2 ph la po lo ov orr nv nr ql qk qv qr wr wa wc wk = some u → va_P G.1 vwCl [((a 0), .inr (3, [.int ph, .int la, .int po, .int lo, .ref (a 1), .ref (a 4), .ref (a 7), .ref (a 11), .int wa, .ref (a 12), .ref (a 13)])), ((a 1), .inr (2, [.int 0, .ref (a 2), .ref (a 3)])), ((a 2), .inl (G.2.1, 31, .inl ov)), ((a 3), .inl (G.2.1, 31, .inl orr)), ((a 4), .inr (2, [.int 1, .ref (a 5), .ref (a 6)])), ((a 5), .inl (G.2.1, 31, .inl nv)), ((a 6), .inl (G.2.1, 31, .inl nr)), ((a 7), .inr (1, [.int ql, .ref (a 8), .ref (a 9), .ref (a 10)])), ((a 8), .inl (G.2.1, 8, .inl qk)), ((a 9), .inl (G.2.1, 8, .inl qv)), ((a 10), .inl (G.2.1, 8, .inl qr)), ((a 11), .inl (G.2.1, 31, .inl wr)), ((a 12), .inl (G.2.1, 3, .inl wc)), ((a 13), .inl (G.2.1, 3, .inl wk))] s.heap → ∀ ls, lv_has ls 6 [(0, .ref (a 0)), (1, .int x1), (2, .int x2)] → gV p l e (headSpec wsX4_rowRead rmX4_rowRead).room s m args below meth c (some (.int u)) 81 ls [] := by
  obtain ⟨hx, hb, hr, hts, hown, hlocks, hml, hK⟩ := id C0
  intro x1 x2 ph la po lo ov orr nv nr ql qk qv qr wr wa wc wk u hf hP ls hl
  unfold fX4_rowRead_b81 at hf
  refine lv_aload_n hx hb dX4_rowRead_81 rfl (lv_at hl 0 rfl) ?_
  refine lv_iload_n hx hb dX4_rowRead_82 rfl (lv_at hl 2 rfl) ?_
  obtain ⟨r6, e7, hf⟩ := g_bdS hf
  refine g_contR (st1 := [.int r6]) (g_runVR (As := [.int x2]) (rest := []) ⟨hx, hb, hml, hown, hts⟩ (qX4_other l G a e7) (cwV 1 hts (TB_V TB_id tw_213 tw_214 tw_215 tw_6 tw_216) rfl rfl rfl (by decide +kernel) ⟨Nat.le_of_ble_eq_true rfl, Nat.le_of_ble_eq_true rfl⟩) hK (hP.sub [0, 1, 2, 3, 4, 5, 6, 7, 8, 9, 10, 11, 12, 13] rfl) 0 rfl rfl rfl hl.1 rfl (Nat.le_of_ble_eq_true rfl) dX4_rowRead_83) rfl ?_
  refine lv_goto (tgt := 90) hx hb dX4_rowRead_86 (by decide) ?_
  exact kX4_rowRead_b90 C0 _ _ _ _ _ _ _ _ _ _ _ _ _ _ _ _ _ _ _ _ hf hP ls (lv_sub hl [0, 1, 2] rfl)
def fX4_rowRead_b66 (x1 : Int32) (x2 : Int32) (t0 : Int32) (ph : Int32) (la : Int32) (po : Int32) (lo : Int32) (ov : Nat → Int32) (orr : Nat → Int32) (nv : Nat → Int32) (nr : Nat → Int32) (ql : Int32) (qk : Nat → Int32) (qv : Nat → Int32) (qr : Nat → Int32) (wr : Nat → Int32) (wa : Int32) (wc : Nat → Int32) (wk : Nat → Int32) : Option (Int32) := (if t0 = (0 : Int32) then ((fX4_isThere x2 ph la po lo ov orr nv nr ql qk qv qr wr wa wc wk).bind fun r18 => (if r18 = (0 : Int32) then fX4_rowRead_b81 x1 x2 ph la po lo ov orr nv nr ql qk qv qr wr wa wc wk else fX4_rowRead_b90 x1 x2 x2 ph la po lo ov orr nv nr ql qk qv qr wr wa wc wk)) else fX4_rowRead_b81 x1 x2 ph la po lo ov orr nv nr ql qk qv qr wr wa wc wk)
set_option maxHeartbeats 4000000 in
set_option maxRecDepth 100000 in
theorem kX4_rowRead_b66 {p : Program} {l : Launch} {e : Env} {s : State} {m : MethodId} {args : Array Value} {below : List Frame} {meth : Method} {c : Code} {G : gT} {a : Nat → Nat} (C0 : gX p s m args meth c cX4_rowRead 6 (some .int) RX4 G) :
    ∀ (x1 : Int32) (x2 : Int32) (t0 : Int32) (ph : Int32) (la : Int32) (po : Int32) (lo : Int32) (ov : Nat → Int32) (orr : Nat → Int32) (nv : Nat → Int32) (nr : Nat → Int32) (ql : Int32) (qk : Nat → Int32) (qv : Nat → Int32) (qr : Nat → Int32) (wr : Nat → Int32) (wa : Int32) (wc : Nat → Int32) (wk : Nat → Int32) (u : Int32), fX4_rowRead_b66 x1 x2 t0 ph la po lo ov orr nv nr ql qk qv qr wr wa wc wk = some u → va_P G.1 vwCl [((a 0), .inr (3, [.int ph, .int la, .int po, .int lo, .ref (a 1), .ref (a 4), .ref (a 7), .ref (a 11), .int wa, .ref (a 12), .ref (a 13)])), ((a 1), .inr (2, [.int 0, .ref (a 2), .ref (a 3)])), ((a 2), .inl (G.2.1, 31, .inl ov)), ((a 3), .inl (G.2.1, 31, .inl orr)), ((a 4), .inr (2, [.int 1, .ref (a 5), .ref (a 6)])), ((a 5), .inl (G.2.1, 31, .inl nv)), ((a 6), .inl (G.2.1, 31, .inl nr)), ((a 7), .inr (1, [.int ql, .ref (a 8), .ref (a 9), .ref (a 10)])), ((a 8), .inl (G.2.1, 8, .inl qk)), ((a 9), .inl (G.2.1, 8, .inl qv)), ((a 10), .inl (G.2.1, 8, .inl qr)), ((a 11), .inl (G.2.1, 31, .inl wr)), ((a 12), .inl (G.2.1, 3, .inl wc)), ((a 13), .inl (G.2.1, 3, .inl wk))] s.heap → ∀ ls, lv_has ls 6 [(0, .ref (a 0)), (1, .int x1), (2, .int x2)] → gV p l e (headSpec wsX4_rowRead rmX4_rowRead).room s m args below meth c (some (.int u)) 66 ls [.int t0] := by
  obtain ⟨hx, hb, hr, hts, hown, hlocks, hml, hK⟩ := id C0
  intro x1 x2 t0 ph la po lo ov orr nv nr ql qk qv qr wr wa wc wk u hf hP ls hl
  unfold fX4_rowRead_b66 at hf
  refine lv_istore (lv' := [(4, .int t0), (0, .ref (a 0)), (1, .int x1), (2, .int x2)]) hx hb dX4_rowRead_66 hl (by decide) rfl (fun ls hl => ?_)
  refine lv_iload hx hb dX4_rowRead_68 (lv_at hl 0 rfl) ?_
  refine lv_if_ne (tgt := 81) hx hb dX4_rowRead_70 (by decide) (fun c5 => ?_) (fun c5 => ?_)
  · have hf := g_ifF c5 hf
    exact kX4_rowRead_b81 C0 _ _ _ _ _ _ _ _ _ _ _ _ _ _ _ _ _ _ _ hf hP ls (lv_sub hl [1, 2, 3] rfl)
  · have hf := g_ifT c5 hf
    refine lv_aload_n hx hb dX4_rowRead_73 rfl (lv_at hl 1 rfl) ?_
    refine lv_iload_n hx hb dX4_rowRead_74 rfl (lv_at hl 3 rfl) ?_
    obtain ⟨r18, e19, hf⟩ := g_bdS hf
    refine g_contR (st1 := [.int r18]) (g_runVR (As := [.int x2]) (rest := []) ⟨hx, hb, hml, hown, hts⟩ (qX4_isThere l G a e19) (cwV 1 hts (TB_V TB_id tw_220 tw_221 tw_222 tw_6 tw_223) rfl rfl rfl (by decide +kernel) ⟨Nat.le_of_ble_eq_true rfl, Nat.le_of_ble_eq_true rfl⟩) hK (hP.sub [0, 1, 2, 3, 4, 5, 6, 7, 8, 9, 10, 11, 12, 13] rfl) 0 rfl rfl rfl hl.1 rfl (Nat.le_of_ble_eq_true rfl) dX4_rowRead_75) rfl ?_
    refine lv_if_ne (tgt := 89) hx hb dX4_rowRead_78 (by decide) (fun c20 => ?_) (fun c20 => ?_)
    · have hf := g_ifF c20 hf
      refine lv_iload_n hx hb dX4_rowRead_89 rfl (lv_at hl 3 rfl) ?_
      exact kX4_rowRead_b90 C0 _ _ _ _ _ _ _ _ _ _ _ _ _ _ _ _ _ _ _ _ hf hP ls (lv_sub hl [1, 2, 3] rfl)
    · have hf := g_ifT c20 hf
      exact kX4_rowRead_b81 C0 _ _ _ _ _ _ _ _ _ _ _ _ _ _ _ _ _ _ _ hf hP ls (lv_sub hl [1, 2, 3] rfl)
def fX4_rowRead_b65 (x1 : Int32) (x2 : Int32) (ph : Int32) (la : Int32) (po : Int32) (lo : Int32) (ov : Nat → Int32) (orr : Nat → Int32) (nv : Nat → Int32) (nr : Nat → Int32) (ql : Int32) (qk : Nat → Int32) (qv : Nat → Int32) (qr : Nat → Int32) (wr : Nat → Int32) (wa : Int32) (wc : Nat → Int32) (wk : Nat → Int32) : Option (Int32) := fX4_rowRead_b66 x1 x2 (0 : Int32) ph la po lo ov orr nv nr ql qk qv qr wr wa wc wk
set_option maxHeartbeats 4000000 in
set_option maxRecDepth 100000 in
theorem kX4_rowRead_b65 {p : Program} {l : Launch} {e : Env} {s : State} {m : MethodId} {args : Array Value} {below : List Frame} {meth : Method} {c : Code} {G : gT} {a : Nat → Nat} (C0 : gX p s m args meth c cX4_rowRead 6 (some .int) RX4 G) :
    ∀ (x1 : Int32) (x2 : Int32) (ph : Int32) (la : Int32) (po : Int32) (lo : Int32) (ov : Nat → Int32) (orr : Nat → Int32) (nv : Nat → Int32) (nr : Nat → Int32) (ql : Int32) (qk : Nat → Int32) (qv : Nat → Int32) (qr : Nat → Int32) (wr : Nat → Int32) (wa : Int32) (wc : Nat → Int32) (wk : Nat → Int32) (u : Int32), fX4_rowRead_b65 x1 x2 ph la po lo ov orr nv nr ql qk qv qr wr wa wc wk = some u → va_P G.1 vwCl [((a 0), .inr (3, [.int ph, .int la, .int po, .int lo, .ref (a 1), .ref (a 4), .ref (a 7), .ref (a 11), .int wa, .ref (a 12), .ref (a 13)])), ((a 1), .inr (2, [.int 0, .ref (a 2), .ref (a 3)])), ((a 2), .inl (G.2.1, 31, .inl ov)), ((a 3), .inl (G.2.1, 31, .inl orr)), ((a 4), .inr (2, [.int 1, .ref (a 5), .ref (a 6)])), ((a 5), .inl (G.2.1, 31, .inl nv)), ((a 6), .inl (G.2.1, 31, .inl nr)), ((a 7), .inr (1, [.int ql, .ref (a 8), .ref (a 9), .ref (a 10)])), ((a 8), .inl (G.2.1, 8, .inl qk)), ((a 9), .inl (G.2.1, 8, .inl qv)), ((a 10), .inl (G.2.1, 8, .inl qr)), ((a 11), .inl (G.2.1, 31, .inl wr)), ((a 12), .inl (G.2.1, 3, .inl wc)), ((a 13), .inl (G.2.1, 3, .inl wk))] s.heap → ∀ ls, lv_has ls 6 [(0, .ref (a 0)), (1, .int x1), (2, .int x2)] → gV p l e (headSpec wsX4_rowRead rmX4_rowRead).room s m args below meth c (some (.int u)) 65 ls [] := by
  obtain ⟨hx, hb, hr, hts, hown, hlocks, hml, hK⟩ := id C0
  intro x1 x2 ph la po lo ov orr nv nr ql qk qv qr wr wa wc wk u hf hP ls hl
  unfold fX4_rowRead_b65 at hf
  refine lv_iconst (v := (0 : Int32)) hx hb dX4_rowRead_65 (by decide) ?_
  exact kX4_rowRead_b66 C0 _ _ _ _ _ _ _ _ _ _ _ _ _ _ _ _ _ _ _ _ hf hP ls (lv_sub hl [0, 1, 2] rfl)
def fX4_rowRead_b36 (x1 : Int32) (x2 : Int32) (ph : Int32) (la : Int32) (po : Int32) (lo : Int32) (ov : Nat → Int32) (orr : Nat → Int32) (nv : Nat → Int32) (nr : Nat → Int32) (ql : Int32) (qk : Nat → Int32) (qv : Nat → Int32) (qr : Nat → Int32) (wr : Nat → Int32) (wa : Int32) (wc : Nat → Int32) (wk : Nat → Int32) : Option (Int32) := (if ph = (1 : Int32) then (if x2 = (1 : Int32) then g_gd (g_in x1 31) ((if (nv x1.toNatClampNeg) = (0 : Int32) then fX4_rowRead_b66 x1 x2 (1 : Int32) ph la po lo ov orr nv nr ql qk qv qr wr wa wc wk else fX4_rowRead_b65 x1 x2 ph la po lo ov orr nv nr ql qk qv qr wr wa wc wk)) else fX4_rowRead_b65 x1 x2 ph la po lo ov orr nv nr ql qk qv qr wr wa wc wk) else fX4_rowRead_b65 x1 x2 ph la po lo ov orr nv nr ql qk qv qr wr wa wc wk)
set_option maxHeartbeats 4000000 in
set_option maxRecDepth 100000 in
theorem kX4_rowRead_b36 {p : Program} {l : Launch} {e : Env} {s : State} {m : MethodId} {args : Array Value} {below : List Frame} {meth : Method} {c : Code} {G : gT} {a : Nat → Nat} (C0 : gX p s m args meth c cX4_rowRead 6 (some .int) RX4 G) :
    ∀ (x1 : Int32) (x2 : Int32) (ph : Int32) (la : Int32) (po : Int32) (lo : Int32) (ov : Nat → Int32) (orr : Nat → Int32) (nv : Nat → Int32) (nr : Nat → Int32) (ql : Int32) (qk : Nat → Int32) (qv : Nat → Int32) (qr : Nat → Int32) (wr : Nat → Int32) (wa : Int32) (wc : Nat → Int32) (wk : Nat → Int32) (u : Int32), fX4_rowRead_b36 x1 x2 ph la po lo ov orr nv nr ql qk qv qr wr wa wc wk = some u → va_P G.1 vwCl [((a 0), .inr (3, [.int ph, .int la, .int po, .int lo, .ref (a 1), .ref (a 4), .ref (a 7), .ref (a 11), .int wa, .ref (a 12), .ref (a 13)])), ((a 1), .inr (2, [.int 0, .ref (a 2), .ref (a 3)])), ((a 2), .inl (G.2.1, 31, .inl ov)), ((a 3), .inl (G.2.1, 31, .inl orr)), ((a 4), .inr (2, [.int 1, .ref (a 5), .ref (a 6)])), ((a 5), .inl (G.2.1, 31, .inl nv)), ((a 6), .inl (G.2.1, 31, .inl nr)), ((a 7), .inr (1, [.int ql, .ref (a 8), .ref (a 9), .ref (a 10)])), ((a 8), .inl (G.2.1, 8, .inl qk)), ((a 9), .inl (G.2.1, 8, .inl qv)), ((a 10), .inl (G.2.1, 8, .inl qr)), ((a 11), .inl (G.2.1, 31, .inl wr)), ((a 12), .inl (G.2.1, 3, .inl wc)), ((a 13), .inl (G.2.1, 3, .inl wk))] s.heap → ∀ ls, lv_has ls 6 [(0, .ref (a 0)), (1, .int x1), (2, .int x2)] → gV p l e (headSpec wsX4_rowRead rmX4_rowRead).room s m args below meth c (some (.int u)) 36 ls [] := by
  obtain ⟨hx, hb, hr, hts, hown, hlocks, hml, hK⟩ := id C0
  intro x1 x2 ph la po lo ov orr nv nr ql qk qv qr wr wa wc wk u hf hP ls hl
  unfold fX4_rowRead_b36 at hf
  refine lv_aload_n hx hb dX4_rowRead_36 rfl (lv_at hl 0 rfl) ?_
  refine va_get (D := G.1) (ci := 3) (v := .int ph) (C := RX4) (T := TX4) (N := 11) hx hb hts hX4 hown hK.1 hP 0 rfl rfl 0 (by decide) (hts _ tw_78) (fun _ h9 => h9) rfl dX4_rowRead_37 ?_
  refine lv_iconst (v := (1 : Int32)) hx hb dX4_rowRead_40 (by decide) ?_
  refine lv_icmp_ne (tgt := 65) hx hb dX4_rowRead_41 (by decide) (fun c4 => ?_) (fun c4 => ?_)
  · have hf := g_ifF c4 hf
    exact kX4_rowRead_b65 C0 _ _ _ _ _ _ _ _ _ _ _ _ _ _ _ _ _ _ _ hf hP ls (lv_sub hl [0, 1, 2] rfl)
  · have hf := g_ifT c4 hf
    refine lv_iload_n hx hb dX4_rowRead_44 rfl (lv_at hl 2 rfl) ?_
    refine lv_iconst (v := (1 : Int32)) hx hb dX4_rowRead_45 (by decide) ?_
    refine lv_icmp_ne (tgt := 65) hx hb dX4_rowRead_46 (by decide) (fun c21 => ?_) (fun c21 => ?_)
    · have hf := g_ifF c21 hf
      exact kX4_rowRead_b65 C0 _ _ _ _ _ _ _ _ _ _ _ _ _ _ _ _ _ _ _ hf hP ls (lv_sub hl [0, 1, 2] rfl)
    · have hf := g_ifT c21 hf
      refine lv_aload_n hx hb dX4_rowRead_49 rfl (lv_at hl 0 rfl) ?_
      refine va_get (D := G.1) (ci := 3) (v := .ref (a 4)) (C := RX4) (T := TX4) (N := 11) hx hb hts hX4 hown hK.1 hP 0 rfl rfl 5 (by decide) (hts _ tw_88) (fun _ h9 => h9) rfl dX4_rowRead_50 ?_
      refine va_get (D := G.1) (ci := 2) (v := .ref (a 5)) (C := RX3) (T := TX3) (N := 3) hx hb hts hX3 hown hK.1 hP 4 rfl rfl 1 (by decide) (hts _ tw_42) (fun _ h9 => h9) rfl dX4_rowRead_53 ?_
      refine lv_iload_n hx hb dX4_rowRead_56 rfl (lv_at hl 1 rfl) ?_
      obtain ⟨g22, hf⟩ := g_gdS hf
      refine va_iald hx hb hK.1 hP 5 0 rfl rfl (g_in_vp g22) dX4_rowRead_57 ?_
      refine lv_if_ne (tgt := 65) hx hb dX4_rowRead_58 (by decide) (fun c23 => ?_) (fun c23 => ?_)
      · have hf := g_ifF c23 hf
        exact kX4_rowRead_b65 C0 _ _ _ _ _ _ _ _ _ _ _ _ _ _ _ _ _ _ _ hf hP ls (lv_sub hl [0, 1, 2] rfl)
      · have hf := g_ifT c23 hf
        refine lv_iconst (v := (1 : Int32)) hx hb dX4_rowRead_61 (by decide) ?_
        refine lv_goto (tgt := 66) hx hb dX4_rowRead_62 (by decide) ?_
        exact kX4_rowRead_b66 C0 _ _ _ _ _ _ _ _ _ _ _ _ _ _ _ _ _ _ _ _ hf hP ls (lv_sub hl [0, 1, 2] rfl)
def fX4_rowRead (p0 : Int32) (p1 : Int32) (ph : Int32) (la : Int32) (po : Int32) (lo : Int32) (ov : Nat → Int32) (orr : Nat → Int32) (nv : Nat → Int32) (nr : Nat → Int32) (ql : Int32) (qk : Nat → Int32) (qv : Nat → Int32) (qr : Nat → Int32) (wr : Nat → Int32) (wa : Int32) (wc : Nat → Int32) (wk : Nat → Int32) : Option (Int32) := ((fX1_latestOf p0 ql qk qv qr).bind fun r1 => (if r1 = (-1 : Int32) then fX4_rowRead_b36 p0 p1 ph la po lo ov orr nv nr ql qk qv qr wr wa wc wk else ((fX4_second ph la po lo ov orr nv nr ql qk qv qr wr wa wc wk).bind fun r24 => (if p1 = r24 then g_gd (g_in r1 8) (((fX2_madeOver (qr r1.toNatClampNeg) p1).bind fun r28 => some (r28))) else fX4_rowRead_b36 p0 p1 ph la po lo ov orr nv nr ql qk qv qr wr wa wc wk))))
set_option maxHeartbeats 4000000 in
set_option maxRecDepth 100000 in
theorem qX4_rowRead (l : Launch) (G : gT) (a : Nat → Nat) {p0 : Int32} {p1 : Int32} {ph : Int32} {la : Int32} {po : Int32} {lo : Int32} {ov : Nat → Int32} {orr : Nat → Int32} {nv : Nat → Int32} {nr : Nat → Int32} {ql : Int32} {qk : Nat → Int32} {qv : Nat → Int32} {qr : Nat → Int32} {wr : Nat → Int32} {wa : Int32} {wc : Nat → Int32} {wk : Nat → Int32} {u : Int32} (hf : fX4_rowRead p0 p1 ph la po lo ov orr nv nr ql qk qv qr wr wa wc wk = some u) : gR l G yX4_rowRead wsX4_rowRead rmX4_rowRead [.ref (a 0), .int p0, .int p1] (tabW G a ph la po lo ov orr nv nr ql qk qv qr wr wa wc wk) (some (.int u)) := by
  refine gR.of (cc := cX4_rowRead) (maxL := 6) (ret := (some .int)) (by decide) rfl (Nat.le_of_ble_eq_true rfl) ?_
  intro p e s m below meth c C0 hP ls hl
  obtain ⟨hx, hb, hr, hts, hown, hlocks, hml, hK⟩ := id C0
  have hl : lv_has ls 6 [(0, .ref (a 0)), (1, .int p0), (2, .int p1)] := hl
  have hP : va_P G.1 vwCl [((a 0), .inr (3, [.int ph, .int la, .int po, .int lo, .ref (a 1), .ref (a 4), .ref (a 7), .ref (a 11), .int wa, .ref (a 12), .ref (a 13)])), ((a 1), .inr (2, [.int 0, .ref (a 2), .ref (a 3)])), ((a 2), .inl (G.2.1, 31, .inl ov)), ((a 3), .inl (G.2.1, 31, .inl orr)), ((a 4), .inr (2, [.int 1, .ref (a 5), .ref (a 6)])), ((a 5), .inl (G.2.1, 31, .inl nv)), ((a 6), .inl (G.2.1, 31, .inl nr)), ((a 7), .inr (1, [.int ql, .ref (a 8), .ref (a 9), .ref (a 10)])), ((a 8), .inl (G.2.1, 8, .inl qk)), ((a 9), .inl (G.2.1, 8, .inl qv)), ((a 10), .inl (G.2.1, 8, .inl qr)), ((a 11), .inl (G.2.1, 31, .inl wr)), ((a 12), .inl (G.2.1, 3, .inl wc)), ((a 13), .inl (G.2.1, 3, .inl wk))] s.heap := hP
  unfold fX4_rowRead at hf
  refine lv_aload_n hx hb dX4_rowRead_0 rfl (lv_at hl 0 rfl) ?_
  refine va_get (D := G.1) (ci := 3) (v := .ref (a 7)) (C := RX4) (T := TX4) (N := 11) hx hb hts hX4 hown hK.1 hP 0 rfl rfl 6 (by decide) (hts _ tw_90) (fun _ h9 => h9) rfl dX4_rowRead_1 ?_
  refine lv_iload_n hx hb dX4_rowRead_4 rfl (lv_at hl 1 rfl) ?_
  obtain ⟨r1, e2, hf⟩ := g_bdS hf
  refine g_contR (st1 := [.int r1]) (g_runVR (As := [.int p0]) (rest := []) ⟨hx, hb, hml, hown, hts⟩ (qX1_latestOf l G (a 7) (a 8) (a 9) (a 10) e2) (cwV 1 hts (TB_V TB_id tw_201 tw_202 tw_203 tw_8 tw_204) rfl rfl rfl (by decide +kernel) ⟨Nat.le_of_ble_eq_true rfl, Nat.le_of_ble_eq_true rfl⟩) hK (hP.sub [7, 8, 9, 10] rfl) 0 rfl rfl rfl hl.1 rfl (Nat.le_of_ble_eq_true rfl) dX4_rowRead_5) rfl ?_
  refine lv_istore_n (lv' := [(3, .int r1), (0, .ref (a 0)), (1, .int p0), (2, .int p1)]) hx hb dX4_rowRead_8 rfl hl (by decide) rfl (fun ls hl => ?_)
  refine lv_iload_n hx hb dX4_rowRead_9 rfl (lv_at hl 0 rfl) ?_
  refine lv_iconst (v := (-1 : Int32)) hx hb dX4_rowRead_10 (by decide) ?_
  refine lv_icmp_eq (tgt := 36) hx hb dX4_rowRead_11 (by decide) (fun c3 => ?_) (fun c3 => ?_)
  · have hf := g_ifT c3 hf
    exact kX4_rowRead_b36 C0 _ _ _ _ _ _ _ _ _ _ _ _ _ _ _ _ _ _ _ hf hP ls (lv_sub hl [1, 2, 3] rfl)
  · have hf := g_ifF c3 hf
    refine lv_iload_n hx hb dX4_rowRead_14 rfl (lv_at hl 3 rfl) ?_
    refine lv_aload_n hx hb dX4_rowRead_15 rfl (lv_at hl 1 rfl) ?_
    obtain ⟨r24, e25, hf⟩ := g_bdS hf
    refine g_contR (st1 := [.int r24, .int p1]) (g_runVR (As := []) (rest := [.int p1]) ⟨hx, hb, hml, hown, hts⟩ (qX4_second l G a e25) (cwV 0 hts (TB_V TB_id tw_205 tw_206 tw_207 tw_6 tw_208) rfl rfl rfl (by decide +kernel) ⟨Nat.le_of_ble_eq_true rfl, Nat.le_of_ble_eq_true rfl⟩) hK (hP.sub [0, 1, 2, 3, 4, 5, 6, 7, 8, 9, 10, 11, 12, 13] rfl) 0 rfl rfl rfl hl.1 rfl (Nat.le_of_ble_eq_true rfl) dX4_rowRead_16) rfl ?_
    refine lv_icmp_ne (tgt := 36) hx hb dX4_rowRead_19 (by decide) (fun c26 => ?_) (fun c26 => ?_)
    · have hf := g_ifF c26 hf
      exact kX4_rowRead_b36 C0 _ _ _ _ _ _ _ _ _ _ _ _ _ _ _ _ _ _ _ hf hP ls (lv_sub hl [1, 2, 3] rfl)
    · have hf := g_ifT c26 hf
      refine lv_aload_n hx hb dX4_rowRead_22 rfl (lv_at hl 1 rfl) ?_
      refine va_get (D := G.1) (ci := 3) (v := .ref (a 7)) (C := RX4) (T := TX4) (N := 11) hx hb hts hX4 hown hK.1 hP 0 rfl rfl 6 (by decide) (hts _ tw_90) (fun _ h9 => h9) rfl dX4_rowRead_23 ?_
      refine va_get (D := G.1) (ci := 1) (v := .ref (a 10)) (C := RX1) (T := TX1) (N := 4) hx hb hts hX1 hown hK.1 hP 7 rfl rfl 3 (by decide) (hts _ tw_68) (fun _ h9 => h9) rfl dX4_rowRead_26 ?_
      refine lv_iload_n hx hb dX4_rowRead_29 rfl (lv_at hl 0 rfl) ?_
      obtain ⟨g27, hf⟩ := g_gdS hf
      refine va_iald hx hb hK.1 hP 10 0 rfl rfl (g_in_vp g27) dX4_rowRead_30 ?_
      refine lv_iload_n hx hb dX4_rowRead_31 rfl (lv_at hl 3 rfl) ?_
      obtain ⟨r28, e29, hf⟩ := g_bdS hf
      refine g_contR (st1 := [.int r28]) (g_runSR (As := [.int (qr r1.toNatClampNeg), .int p1]) (rest := []) ⟨hx, hb, hml, hown, hts⟩ (qX2_madeOver l G e29) (va_cwS 2 hts (TB_S TB_id tw_217 tw_218 tw_10 tw_219) rfl rfl rfl (by decide +kernel) ⟨Nat.le_of_ble_eq_true rfl, Nat.le_of_ble_eq_true rfl⟩) hK (hP.sub [] rfl) rfl hl.1 rfl (Nat.le_of_ble_eq_true rfl) dX4_rowRead_32) rfl ?_
      cases hf
      exact g_iretR hx hb hr hlocks dX4_rowRead_35
-- TwoShapes$Table.keysRead(I)I
abbrev rmX4_keysRead : Room := { frames := 3, cells := 0, slots := 0, locals := 66 }
def fX4_keysRead_b4 : Nat → Int32 → Int32 → Int32 → Int32 → Int32 → Int32 → Int32 → (Nat → Int32) → (Nat → Int32) → (Nat → Int32) → (Nat → Int32) → Int32 → (Nat → Int32) → (Nat → Int32) → (Nat → Int32) → (Nat → Int32) → Int32 → (Nat → Int32) → (Nat → Int32) → Option (Int32)
  | 0, _, _, _, _, _, _, _, _, _, _, _, _, _, _, _, _, _, _, _ => none
  | n + 1, x1, x2, x3, ph, la, po, lo, ov, orr, nv, nr, ql, qk, qv, qr, wr, wa, wc, wk => (if (31 : Int32) ≤ x3 then some (x2) else ((fX4_rowRead x3 x1 ph la po lo ov orr nv nr ql qk qv qr wr wa wc wk).bind fun r2 => (if r2 = (-1 : Int32) then fX4_keysRead_b4 n x1 x2 (x3 + (1 : Int32)) ph la po lo ov orr nv nr ql qk qv qr wr wa wc wk else fX4_keysRead_b4 n x1 (x2 ||| ((1 : Int32) <<< (x3 &&& 31))) (x3 + (1 : Int32)) ph la po lo ov orr nv nr ql qk qv qr wr wa wc wk)))
set_option maxHeartbeats 4000000 in
set_option maxRecDepth 100000 in
theorem kX4_keysRead_b4 {p : Program} {l : Launch} {e : Env} {s : State} {m : MethodId} {args : Array Value} {below : List Frame} {meth : Method} {c : Code} {G : gT} {a : Nat → Nat} (C0 : gX p s m args meth c cX4_keysRead 4 (some .int) RX4 G) :
    ∀ (n : Nat) (x1 : Int32) (x2 : Int32) (x3 : Int32) (ph : Int32) (la : Int32) (po : Int32) (lo : Int32) (ov : Nat → Int32) (orr : Nat → Int32) (nv : Nat → Int32) (nr : Nat → Int32) (ql : Int32) (qk : Nat → Int32) (qv : Nat → Int32) (qr : Nat → Int32) (wr : Nat → Int32) (wa : Int32) (wc : Nat → Int32) (wk : Nat → Int32) (u : Int32), fX4_keysRead_b4 n x1 x2 x3 ph la po lo ov orr nv nr ql qk qv qr wr wa wc wk = some u → va_P G.1 vwCl [((a 0), .inr (3, [.int ph, .int la, .int po, .int lo, .ref (a 1), .ref (a 4), .ref (a 7), .ref (a 11), .int wa, .ref (a 12), .ref (a 13)])), ((a 1), .inr (2, [.int 0, .ref (a 2), .ref (a 3)])), ((a 2), .inl (G.2.1, 31, .inl ov)), ((a 3), .inl (G.2.1, 31, .inl orr)), ((a 4), .inr (2, [.int 1, .ref (a 5), .ref (a 6)])), ((a 5), .inl (G.2.1, 31, .inl nv)), ((a 6), .inl (G.2.1, 31, .inl nr)), ((a 7), .inr (1, [.int ql, .ref (a 8), .ref (a 9), .ref (a 10)])), ((a 8), .inl (G.2.1, 8, .inl qk)), ((a 9), .inl (G.2.1, 8, .inl qv)), ((a 10), .inl (G.2.1, 8, .inl qr)), ((a 11), .inl (G.2.1, 31, .inl wr)), ((a 12), .inl (G.2.1, 3, .inl wc)), ((a 13), .inl (G.2.1, 3, .inl wk))] s.heap → ∀ ls, lv_has ls 4 [(0, .ref (a 0)), (1, .int x1), (2, .int x2), (3, .int x3)] → gV p l e (headSpec wsX4_keysRead rmX4_keysRead).room s m args below meth c (some (.int u)) 4 ls [] := by
  obtain ⟨hx, hb, hr, hts, hown, hlocks, hml, hK⟩ := id C0
  intro n
  induction n with
  | zero =>
    intro x1 x2 x3 ph la po lo ov orr nv nr ql qk qv qr wr wa wc wk u hf hP ls hl
    have hf : (none : Option (Int32)) = some u := hf
    cases hf
  | succ n ih =>
    intro x1 x2 x3 ph la po lo ov orr nv nr ql qk qv qr wr wa wc wk u hf hP ls hl
    rw [fX4_keysRead_b4] at hf
    refine lv_iload_n hx hb dX4_keysRead_4 rfl (lv_at hl 3 rfl) ?_
    refine lv_bipush (v := (31 : Int32)) hx hb dX4_keysRead_5 (by decide) ?_
    refine lv_icmp_ge (tgt := 32) hx hb dX4_keysRead_7 (by decide) (fun c1 => ?_) (fun c1 => ?_)
    · have hf := g_ifT c1 hf
      refine lv_iload_n hx hb dX4_keysRead_32 rfl (lv_at hl 2 rfl) ?_
      cases hf
      exact g_iretR hx hb hr hlocks dX4_keysRead_33
    · have hf := g_ifF c1 hf
      refine lv_aload_n hx hb dX4_keysRead_10 rfl (lv_at hl 0 rfl) ?_
      refine lv_iload_n hx hb dX4_keysRead_11 rfl (lv_at hl 3 rfl) ?_
      refine lv_iload_n hx hb dX4_keysRead_12 rfl (lv_at hl 1 rfl) ?_
      obtain ⟨r2, e3, hf⟩ := g_bdS hf
      refine g_contR (st1 := [.int r2]) (g_runVR (As := [.int x3, .int x1]) (rest := []) ⟨hx, hb, hml, hown, hts⟩ (qX4_rowRead l G a e3) (cwV 2 hts (TB_V TB_id tw_197 tw_198 tw_199 tw_6 tw_200) rfl rfl rfl (by decide +kernel) ⟨Nat.le_of_ble_eq_true rfl, Nat.le_of_ble_eq_true rfl⟩) hK (hP.sub [0, 1, 2, 3, 4, 5, 6, 7, 8, 9, 10, 11, 12, 13] rfl) 0 rfl rfl rfl hl.1 rfl (Nat.le_of_ble_eq_true rfl) dX4_keysRead_13) rfl ?_
      refine lv_iconst (v := (-1 : Int32)) hx hb dX4_keysRead_16 (by decide) ?_
      refine lv_icmp_eq (tgt := 26) hx hb dX4_keysRead_17 (by decide) (fun c4 => ?_) (fun c4 => ?_)
      · have hf := g_ifT c4 hf
        refine lv_iinc (v := (x3 + (1 : Int32))) (lv' := [(3, .int (x3 + (1 : Int32))), (0, .ref (a 0)), (1, .int x1), (2, .int x2)]) hx hb dX4_keysRead_26 hl (k := 3) rfl rfl (by decide) rfl (fun ls hl => ?_)
        refine lv_goto (tgt := 4) hx hb dX4_keysRead_29 (by decide) ?_
        exact ih _ _ _ _ _ _ _ _ _ _ _ _ _ _ _ _ _ _ _ _ hf hP ls (lv_sub hl [1, 2, 3, 0] rfl)
      · have hf := g_ifF c4 hf
        refine lv_iload_n hx hb dX4_keysRead_20 rfl (lv_at hl 2 rfl) ?_
        refine lv_iconst (v := (1 : Int32)) hx hb dX4_keysRead_21 (by decide) ?_
        refine lv_iload_n hx hb dX4_keysRead_22 rfl (lv_at hl 3 rfl) ?_
        refine lv_ishl hx hb dX4_keysRead_23 ?_
        refine lv_ior hx hb dX4_keysRead_24 ?_
        refine lv_istore_n (lv' := [(2, .int (x2 ||| ((1 : Int32) <<< (x3 &&& 31)))), (0, .ref (a 0)), (1, .int x1), (3, .int x3)]) hx hb dX4_keysRead_25 rfl hl (by decide) rfl (fun ls hl => ?_)
        refine lv_iinc (v := (x3 + (1 : Int32))) (lv' := [(3, .int (x3 + (1 : Int32))), (2, .int (x2 ||| ((1 : Int32) <<< (x3 &&& 31)))), (0, .ref (a 0)), (1, .int x1)]) hx hb dX4_keysRead_26 hl (k := 3) rfl rfl (by decide) rfl (fun ls hl => ?_)
        refine lv_goto (tgt := 4) hx hb dX4_keysRead_29 (by decide) ?_
        exact ih _ _ _ _ _ _ _ _ _ _ _ _ _ _ _ _ _ _ _ _ hf hP ls (lv_sub hl [2, 3, 1, 0] rfl)
def fX4_keysRead (p0 : Int32) (ph : Int32) (la : Int32) (po : Int32) (lo : Int32) (ov : Nat → Int32) (orr : Nat → Int32) (nv : Nat → Int32) (nr : Nat → Int32) (ql : Int32) (qk : Nat → Int32) (qv : Nat → Int32) (qr : Nat → Int32) (wr : Nat → Int32) (wa : Int32) (wc : Nat → Int32) (wk : Nat → Int32) : Option (Int32) := fX4_keysRead_b4 2000 p0 (0 : Int32) (0 : Int32) ph la po lo ov orr nv nr ql qk qv qr wr wa wc wk
set_option maxHeartbeats 4000000 in
set_option maxRecDepth 100000 in
theorem qX4_keysRead (l : Launch) (G : gT) (a : Nat → Nat) {p0 : Int32} {ph : Int32} {la : Int32} {po : Int32} {lo : Int32} {ov : Nat → Int32} {orr : Nat → Int32} {nv : Nat → Int32} {nr : Nat → Int32} {ql : Int32} {qk : Nat → Int32} {qv : Nat → Int32} {qr : Nat → Int32} {wr : Nat → Int32} {wa : Int32} {wc : Nat → Int32} {wk : Nat → Int32} {u : Int32} (hf : fX4_keysRead p0 ph la po lo ov orr nv nr ql qk qv qr wr wa wc wk = some u) : gR l G yX4_keysRead wsX4_keysRead rmX4_keysRead [.ref (a 0), .int p0] (tabW G a ph la po lo ov orr nv nr ql qk qv qr wr wa wc wk) (some (.int u)) := by
  refine gR.of (cc := cX4_keysRead) (maxL := 4) (ret := (some .int)) (by decide) rfl (Nat.le_of_ble_eq_true rfl) ?_
  intro p e s m below meth c C0 hP ls hl
  obtain ⟨hx, hb, hr, hts, hown, hlocks, hml, hK⟩ := id C0
  have hl : lv_has ls 4 [(0, .ref (a 0)), (1, .int p0)] := hl
  have hP : va_P G.1 vwCl [((a 0), .inr (3, [.int ph, .int la, .int po, .int lo, .ref (a 1), .ref (a 4), .ref (a 7), .ref (a 11), .int wa, .ref (a 12), .ref (a 13)])), ((a 1), .inr (2, [.int 0, .ref (a 2), .ref (a 3)])), ((a 2), .inl (G.2.1, 31, .inl ov)), ((a 3), .inl (G.2.1, 31, .inl orr)), ((a 4), .inr (2, [.int 1, .ref (a 5), .ref (a 6)])), ((a 5), .inl (G.2.1, 31, .inl nv)), ((a 6), .inl (G.2.1, 31, .inl nr)), ((a 7), .inr (1, [.int ql, .ref (a 8), .ref (a 9), .ref (a 10)])), ((a 8), .inl (G.2.1, 8, .inl qk)), ((a 9), .inl (G.2.1, 8, .inl qv)), ((a 10), .inl (G.2.1, 8, .inl qr)), ((a 11), .inl (G.2.1, 31, .inl wr)), ((a 12), .inl (G.2.1, 3, .inl wc)), ((a 13), .inl (G.2.1, 3, .inl wk))] s.heap := hP
  unfold fX4_keysRead at hf
  refine lv_iconst (v := (0 : Int32)) hx hb dX4_keysRead_0 (by decide) ?_
  refine lv_istore_n (lv' := [(2, .int (0 : Int32)), (0, .ref (a 0)), (1, .int p0)]) hx hb dX4_keysRead_1 rfl hl (by decide) rfl (fun ls hl => ?_)
  refine lv_iconst (v := (0 : Int32)) hx hb dX4_keysRead_2 (by decide) ?_
  refine lv_istore_n (lv' := [(3, .int (0 : Int32)), (2, .int (0 : Int32)), (0, .ref (a 0)), (1, .int p0)]) hx hb dX4_keysRead_3 rfl hl (by decide) rfl (fun ls hl => ?_)
  exact kX4_keysRead_b4 C0 2000 _ _ _ _ _ _ _ _ _ _ _ _ _ _ _ _ _ _ _ _ hf hP ls (lv_sub hl [2, 3, 1, 0] rfl)
-- TwoShapes$Table.quarrelling()I
abbrev rmX4_quarrelling : Room := { frames := 3, cells := 0, slots := 0, locals := 66 }
def fX4_quarrelling_b4 : Nat → Int32 → Int32 → Int32 → Int32 → Int32 → Int32 → (Nat → Int32) → (Nat → Int32) → (Nat → Int32) → (Nat → Int32) → Int32 → (Nat → Int32) → (Nat → Int32) → (Nat → Int32) → (Nat → Int32) → Int32 → (Nat → Int32) → (Nat → Int32) → Option (Int32)
  | 0, _, _, _, _, _, _, _, _, _, _, _, _, _, _, _, _, _, _ => none
  | n + 1, x1, x2, ph, la, po, lo, ov, orr, nv, nr, ql, qk, qv, qr, wr, wa, wc, wk => (if (31 : Int32) ≤ x2 then some (x1) else ((fX4_rowRead x2 (0 : Int32) ph la po lo ov orr nv nr ql qk qv qr wr wa wc wk).bind fun r2 => ((fX4_rowRead x2 (1 : Int32) ph la po lo ov orr nv nr ql qk qv qr wr wa wc wk).bind fun r4 => ((fX2_madeOver r4 (0 : Int32)).bind fun r6 => (if r2 = r6 then fX4_quarrelling_b4 n x1 (x2 + (1 : Int32)) ph la po lo ov orr nv nr ql qk qv qr wr wa wc wk else fX4_quarrelling_b4 n (x1 ||| ((1 : Int32) <<< (x2 &&& 31))) (x2 + (1 : Int32)) ph la po lo ov orr nv nr ql qk qv qr wr wa wc wk)))))
set_option maxHeartbeats 4000000 in
set_option maxRecDepth 100000 in
theorem kX4_quarrelling_b4 {p : Program} {l : Launch} {e : Env} {s : State} {m : MethodId} {args : Array Value} {below : List Frame} {meth : Method} {c : Code} {G : gT} {a : Nat → Nat} (C0 : gX p s m args meth c cX4_quarrelling 3 (some .int) RX4 G) :
    ∀ (n : Nat) (x1 : Int32) (x2 : Int32) (ph : Int32) (la : Int32) (po : Int32) (lo : Int32) (ov : Nat → Int32) (orr : Nat → Int32) (nv : Nat → Int32) (nr : Nat → Int32) (ql : Int32) (qk : Nat → Int32) (qv : Nat → Int32) (qr : Nat → Int32) (wr : Nat → Int32) (wa : Int32) (wc : Nat → Int32) (wk : Nat → Int32) (u : Int32), fX4_quarrelling_b4 n x1 x2 ph la po lo ov orr nv nr ql qk qv qr wr wa wc wk = some u → va_P G.1 vwCl [((a 0), .inr (3, [.int ph, .int la, .int po, .int lo, .ref (a 1), .ref (a 4), .ref (a 7), .ref (a 11), .int wa, .ref (a 12), .ref (a 13)])), ((a 1), .inr (2, [.int 0, .ref (a 2), .ref (a 3)])), ((a 2), .inl (G.2.1, 31, .inl ov)), ((a 3), .inl (G.2.1, 31, .inl orr)), ((a 4), .inr (2, [.int 1, .ref (a 5), .ref (a 6)])), ((a 5), .inl (G.2.1, 31, .inl nv)), ((a 6), .inl (G.2.1, 31, .inl nr)), ((a 7), .inr (1, [.int ql, .ref (a 8), .ref (a 9), .ref (a 10)])), ((a 8), .inl (G.2.1, 8, .inl qk)), ((a 9), .inl (G.2.1, 8, .inl qv)), ((a 10), .inl (G.2.1, 8, .inl qr)), ((a 11), .inl (G.2.1, 31, .inl wr)), ((a 12), .inl (G.2.1, 3, .inl wc)), ((a 13), .inl (G.2.1, 3, .inl wk))] s.heap → ∀ ls, lv_has ls 3 [(0, .ref (a 0)), (1, .int x1), (2, .int x2)] → gV p l e (headSpec wsX4_quarrelling rmX4_quarrelling).room s m args below meth c (some (.int u)) 4 ls [] := by
  obtain ⟨hx, hb, hr, hts, hown, hlocks, hml, hK⟩ := id C0
  intro n
  induction n with
  | zero =>
    intro x1 x2 ph la po lo ov orr nv nr ql qk qv qr wr wa wc wk u hf hP ls hl
    have hf : (none : Option (Int32)) = some u := hf
    cases hf
  | succ n ih =>
    intro x1 x2 ph la po lo ov orr nv nr ql qk qv qr wr wa wc wk u hf hP ls hl
    rw [fX4_quarrelling_b4] at hf
    refine lv_iload_n hx hb dX4_quarrelling_4 rfl (lv_at hl 2 rfl) ?_
    refine lv_bipush (v := (31 : Int32)) hx hb dX4_quarrelling_5 (by decide) ?_
    refine lv_icmp_ge (tgt := 41) hx hb dX4_quarrelling_7 (by decide) (fun c1 => ?_) (fun c1 => ?_)
    · have hf := g_ifT c1 hf
      refine lv_iload_n hx hb dX4_quarrelling_41 rfl (lv_at hl 1 rfl) ?_
      cases hf
      exact g_iretR hx hb hr hlocks dX4_quarrelling_42
    · have hf := g_ifF c1 hf
      refine lv_aload_n hx hb dX4_quarrelling_10 rfl (lv_at hl 0 rfl) ?_
      refine lv_iload_n hx hb dX4_quarrelling_11 rfl (lv_at hl 2 rfl) ?_
      refine lv_iconst (v := (0 : Int32)) hx hb dX4_quarrelling_12 (by decide) ?_
      obtain ⟨r2, e3, hf⟩ := g_bdS hf
      refine g_contR (st1 := [.int r2]) (g_runVR (As := [.int x2, .int (0 : Int32)]) (rest := []) ⟨hx, hb, hml, hown, hts⟩ (qX4_rowRead l G a e3) (cwV 2 hts (TB_V TB_id tw_197 tw_198 tw_199 tw_6 tw_200) rfl rfl rfl (by decide +kernel) ⟨Nat.le_of_ble_eq_true rfl, Nat.le_of_ble_eq_true rfl⟩) hK (hP.sub [0, 1, 2, 3, 4, 5, 6, 7, 8, 9, 10, 11, 12, 13] rfl) 0 rfl rfl rfl hl.1 rfl (Nat.le_of_ble_eq_true rfl) dX4_quarrelling_13) rfl ?_
      refine lv_aload_n hx hb dX4_quarrelling_16 rfl (lv_at hl 0 rfl) ?_
      refine lv_iload_n hx hb dX4_quarrelling_17 rfl (lv_at hl 2 rfl) ?_
      refine lv_iconst (v := (1 : Int32)) hx hb dX4_quarrelling_18 (by decide) ?_
      obtain ⟨r4, e5, hf⟩ := g_bdS hf
      refine g_contR (st1 := [.int r4, .int r2]) (g_runVR (As := [.int x2, .int (1 : Int32)]) (rest := [.int r2]) ⟨hx, hb, hml, hown, hts⟩ (qX4_rowRead l G a e5) (cwV 2 hts (TB_V TB_id tw_197 tw_198 tw_199 tw_6 tw_200) rfl rfl rfl (by decide +kernel) ⟨Nat.le_of_ble_eq_true rfl, Nat.le_of_ble_eq_true rfl⟩) hK (hP.sub [0, 1, 2, 3, 4, 5, 6, 7, 8, 9, 10, 11, 12, 13] rfl) 0 rfl rfl rfl hl.1 rfl (Nat.le_of_ble_eq_true rfl) dX4_quarrelling_19) rfl ?_
      refine lv_iconst (v := (0 : Int32)) hx hb dX4_quarrelling_22 (by decide) ?_
      obtain ⟨r6, e7, hf⟩ := g_bdS hf
      refine g_contR (st1 := [.int r6, .int r2]) (g_runSR (As := [.int r4, .int (0 : Int32)]) (rest := [.int r2]) ⟨hx, hb, hml, hown, hts⟩ (qX2_madeOver l G e7) (va_cwS 2 hts (TB_S TB_id tw_217 tw_218 tw_10 tw_219) rfl rfl rfl (by decide +kernel) ⟨Nat.le_of_ble_eq_true rfl, Nat.le_of_ble_eq_true rfl⟩) hK (hP.sub [] rfl) rfl hl.1 rfl (Nat.le_of_ble_eq_true rfl) dX4_quarrelling_23) rfl ?_
      refine lv_icmp_eq (tgt := 35) hx hb dX4_quarrelling_26 (by decide) (fun c8 => ?_) (fun c8 => ?_)
      · have hf := g_ifT c8 hf
        refine lv_iinc (v := (x2 + (1 : Int32))) (lv' := [(2, .int (x2 + (1 : Int32))), (0, .ref (a 0)), (1, .int x1)]) hx hb dX4_quarrelling_35 hl (k := 2) rfl rfl (by decide) rfl (fun ls hl => ?_)
        refine lv_goto (tgt := 4) hx hb dX4_quarrelling_38 (by decide) ?_
        exact ih _ _ _ _ _ _ _ _ _ _ _ _ _ _ _ _ _ _ _ hf hP ls (lv_sub hl [1, 2, 0] rfl)
      · have hf := g_ifF c8 hf
        refine lv_iload_n hx hb dX4_quarrelling_29 rfl (lv_at hl 1 rfl) ?_
        refine lv_iconst (v := (1 : Int32)) hx hb dX4_quarrelling_30 (by decide) ?_
        refine lv_iload_n hx hb dX4_quarrelling_31 rfl (lv_at hl 2 rfl) ?_
        refine lv_ishl hx hb dX4_quarrelling_32 ?_
        refine lv_ior hx hb dX4_quarrelling_33 ?_
        refine lv_istore_n (lv' := [(1, .int (x1 ||| ((1 : Int32) <<< (x2 &&& 31)))), (0, .ref (a 0)), (2, .int x2)]) hx hb dX4_quarrelling_34 rfl hl (by decide) rfl (fun ls hl => ?_)
        refine lv_iinc (v := (x2 + (1 : Int32))) (lv' := [(2, .int (x2 + (1 : Int32))), (1, .int (x1 ||| ((1 : Int32) <<< (x2 &&& 31)))), (0, .ref (a 0))]) hx hb dX4_quarrelling_35 hl (k := 2) rfl rfl (by decide) rfl (fun ls hl => ?_)
        refine lv_goto (tgt := 4) hx hb dX4_quarrelling_38 (by decide) ?_
        exact ih _ _ _ _ _ _ _ _ _ _ _ _ _ _ _ _ _ _ _ hf hP ls (lv_sub hl [2, 1, 0] rfl)
def fX4_quarrelling (ph : Int32) (la : Int32) (po : Int32) (lo : Int32) (ov : Nat → Int32) (orr : Nat → Int32) (nv : Nat → Int32) (nr : Nat → Int32) (ql : Int32) (qk : Nat → Int32) (qv : Nat → Int32) (qr : Nat → Int32) (wr : Nat → Int32) (wa : Int32) (wc : Nat → Int32) (wk : Nat → Int32) : Option (Int32) := fX4_quarrelling_b4 2000 (0 : Int32) (0 : Int32) ph la po lo ov orr nv nr ql qk qv qr wr wa wc wk
set_option maxHeartbeats 4000000 in
set_option maxRecDepth 100000 in
theorem qX4_quarrelling (l : Launch) (G : gT) (a : Nat → Nat) {ph : Int32} {la : Int32} {po : Int32} {lo : Int32} {ov : Nat → Int32} {orr : Nat → Int32} {nv : Nat → Int32} {nr : Nat → Int32} {ql : Int32} {qk : Nat → Int32} {qv : Nat → Int32} {qr : Nat → Int32} {wr : Nat → Int32} {wa : Int32} {wc : Nat → Int32} {wk : Nat → Int32} {u : Int32} (hf : fX4_quarrelling ph la po lo ov orr nv nr ql qk qv qr wr wa wc wk = some u) : gR l G yX4_quarrelling wsX4_quarrelling rmX4_quarrelling [.ref (a 0)] (tabW G a ph la po lo ov orr nv nr ql qk qv qr wr wa wc wk) (some (.int u)) := by
  refine gR.of (cc := cX4_quarrelling) (maxL := 3) (ret := (some .int)) (by decide) rfl (Nat.le_of_ble_eq_true rfl) ?_
  intro p e s m below meth c C0 hP ls hl
  obtain ⟨hx, hb, hr, hts, hown, hlocks, hml, hK⟩ := id C0
  have hl : lv_has ls 3 [(0, .ref (a 0))] := hl
  have hP : va_P G.1 vwCl [((a 0), .inr (3, [.int ph, .int la, .int po, .int lo, .ref (a 1), .ref (a 4), .ref (a 7), .ref (a 11), .int wa, .ref (a 12), .ref (a 13)])), ((a 1), .inr (2, [.int 0, .ref (a 2), .ref (a 3)])), ((a 2), .inl (G.2.1, 31, .inl ov)), ((a 3), .inl (G.2.1, 31, .inl orr)), ((a 4), .inr (2, [.int 1, .ref (a 5), .ref (a 6)])), ((a 5), .inl (G.2.1, 31, .inl nv)), ((a 6), .inl (G.2.1, 31, .inl nr)), ((a 7), .inr (1, [.int ql, .ref (a 8), .ref (a 9), .ref (a 10)])), ((a 8), .inl (G.2.1, 8, .inl qk)), ((a 9), .inl (G.2.1, 8, .inl qv)), ((a 10), .inl (G.2.1, 8, .inl qr)), ((a 11), .inl (G.2.1, 31, .inl wr)), ((a 12), .inl (G.2.1, 3, .inl wc)), ((a 13), .inl (G.2.1, 3, .inl wk))] s.heap := hP
  unfold fX4_quarrelling at hf
  refine lv_iconst (v := (0 : Int32)) hx hb dX4_quarrelling_0 (by decide) ?_
  refine lv_istore_n (lv' := [(1, .int (0 : Int32)), (0, .ref (a 0))]) hx hb dX4_quarrelling_1 rfl hl (by decide) rfl (fun ls hl => ?_)
  refine lv_iconst (v := (0 : Int32)) hx hb dX4_quarrelling_2 (by decide) ?_
  refine lv_istore_n (lv' := [(2, .int (0 : Int32)), (1, .int (0 : Int32)), (0, .ref (a 0))]) hx hb dX4_quarrelling_3 rfl hl (by decide) rfl (fun ls hl => ?_)
  exact kX4_quarrelling_b4 C0 2000 _ _ _ _ _ _ _ _ _ _ _ _ _ _ _ _ _ _ _ hf hP ls (lv_sub hl [2, 1, 0] rfl)
-- TwoShapes$Table.goOn(I)I
abbrev rmX4_goOn : Room := { frames := 3, cells := 0, slots := 0, locals := 66 }
def fX4_goOn_b34 : Nat → Int32 → Int32 → Int32 → Int32 → Int32 → Int32 → (Nat → Int32) → (Nat → Int32) → (Nat → Int32) → (Nat → Int32) → Int32 → (Nat → Int32) → (Nat → Int32) → (Nat → Int32) → (Nat → Int32) → Int32 → (Nat → Int32) → (Nat → Int32) → Option (Int32 × Int32 × Int32 × Int32 × Int32 × (Nat → Int32) × (Nat → Int32) × (Nat → Int32) × (Nat → Int32) × Int32 × (Nat → Int32) × (Nat → Int32) × (Nat → Int32) × (Nat → Int32) × Int32 × (Nat → Int32) × (Nat → Int32))
  | 0, _, _, _, _, _, _, _, _, _, _, _, _, _, _, _, _, _, _ => none
  | n + 1, x1, x2, ph, la, po, lo, ov, orr, nv, nr, ql, qk, qv, qr, wr, wa, wc, wk => (if (31 : Int32) ≤ x2 then some ((31 : Int32), ph, la, po, lo, ov, orr, nv, nr, ql, qk, qv, qr, wr, (wa &&& (((1 : Int32) <<< (x1 &&& 31)) ^^^ (-1 : Int32))), wc, wk) else g_gd (g_in x1 3) (((fX4_rowRead x2 (wc x1.toNatClampNeg) ph la po lo ov orr nv nr ql qk qv qr wr wa wc wk).bind fun r8 => (if r8 = (-1 : Int32) then fX4_goOn_b34 n x1 (x2 + (1 : Int32)) ph la po lo ov orr nv nr ql qk qv qr wr wa wc wk else g_gd (g_in x1 3) (some (x2, ph, la, po, lo, ov, orr, nv, nr, ql, qk, qv, qr, wr, wa, wc, (upd wk x1.toNatClampNeg x2)))))))
set_option maxHeartbeats 4000000 in
set_option maxRecDepth 100000 in
theorem kX4_goOn_b34 {p : Program} {l : Launch} {e : Env} {s : State} {m : MethodId} {args : Array Value} {below : List Frame} {meth : Method} {c : Code} {G : gT} {a : Nat → Nat} {w0 : va_W} (C0 : gX p s m args meth c cX4_goOn 3 (some .int) RX4 G) :
    ∀ (n : Nat) (x1 : Int32) (x2 : Int32) (ph : Int32) (la : Int32) (po : Int32) (lo : Int32) (ov : Nat → Int32) (orr : Nat → Int32) (nv : Nat → Int32) (nr : Nat → Int32) (ql : Int32) (qk : Nat → Int32) (qv : Nat → Int32) (qr : Nat → Int32) (wr : Nat → Int32) (wa : Int32) (wc : Nat → Int32) (wk : Nat → Int32) (u : Int32 × Int32 × Int32 × Int32 × Int32 × (Nat → Int32) × (Nat → Int32) × (Nat → Int32) × (Nat → Int32) × Int32 × (Nat → Int32) × (Nat → Int32) × (Nat → Int32) × (Nat → Int32) × Int32 × (Nat → Int32) × (Nat → Int32)), fX4_goOn_b34 n x1 x2 ph la po lo ov orr nv nr ql qk qv qr wr wa wc wk = some u → ∀ (H : Heap) (locs : List Loc), va_P G.1 vwCl [((a 0), .inr (3, [.int ph, .int la, .int po, .int lo, .ref (a 1), .ref (a 4), .ref (a 7), .ref (a 11), .int wa, .ref (a 12), .ref (a 13)])), ((a 1), .inr (2, [.int 0, .ref (a 2), .ref (a 3)])), ((a 2), .inl (G.2.1, 31, .inl ov)), ((a 3), .inl (G.2.1, 31, .inl orr)), ((a 4), .inr (2, [.int 1, .ref (a 5), .ref (a 6)])), ((a 5), .inl (G.2.1, 31, .inl nv)), ((a 6), .inl (G.2.1, 31, .inl nr)), ((a 7), .inr (1, [.int ql, .ref (a 8), .ref (a 9), .ref (a 10)])), ((a 8), .inl (G.2.1, 8, .inl qk)), ((a 9), .inl (G.2.1, 8, .inl qv)), ((a 10), .inl (G.2.1, 8, .inl qr)), ((a 11), .inl (G.2.1, 31, .inl wr)), ((a 12), .inl (G.2.1, 3, .inl wc)), ((a 13), .inl (G.2.1, 3, .inl wk))] H → va_D (va_A w0 s.heap.size) [((a 0), .inr (3, [.int ph, .int la, .int po, .int lo, .ref (a 1), .ref (a 4), .ref (a 7), .ref (a 11), .int wa, .ref (a 12), .ref (a 13)])), ((a 1), .inr (2, [.int 0, .ref (a 2), .ref (a 3)])), ((a 2), .inl (G.2.1, 31, .inl ov)), ((a 3), .inl (G.2.1, 31, .inl orr)), ((a 4), .inr (2, [.int 1, .ref (a 5), .ref (a 6)])), ((a 5), .inl (G.2.1, 31, .inl nv)), ((a 6), .inl (G.2.1, 31, .inl nr)), ((a 7), .inr (1, [.int ql, .ref (a 8), .ref (a 9), .ref (a 10)])), ((a 8), .inl (G.2.1, 8, .inl qk)), ((a 9), .inl (G.2.1, 8, .inl qv)), ((a 10), .inl (G.2.1, 8, .inl qr)), ((a 11), .inl (G.2.1, 31, .inl wr)), ((a 12), .inl (G.2.1, 3, .inl wc)), ((a 13), .inl (G.2.1, 3, .inl wk))] → va_S (va_A w0 s.heap.size) s.heap H locs → ∀ ls, lv_has ls 3 [(0, .ref (a 0)), (1, .int x1), (2, .int x2)] → gW p l e (headSpec wsX4_goOn rmX4_goOn).room s m args below meth c G w0 (some (.int u.1)) (tabW G a u.2.1 u.2.2.1 u.2.2.2.1 u.2.2.2.2.1 u.2.2.2.2.2.1 u.2.2.2.2.2.2.1 u.2.2.2.2.2.2.2.1 u.2.2.2.2.2.2.2.2.1 u.2.2.2.2.2.2.2.2.2.1 u.2.2.2.2.2.2.2.2.2.2.1 u.2.2.2.2.2.2.2.2.2.2.2.1 u.2.2.2.2.2.2.2.2.2.2.2.2.1 u.2.2.2.2.2.2.2.2.2.2.2.2.2.1 u.2.2.2.2.2.2.2.2.2.2.2.2.2.2.1 u.2.2.2.2.2.2.2.2.2.2.2.2.2.2.2.1 u.2.2.2.2.2.2.2.2.2.2.2.2.2.2.2.2) H locs 34 ls [] := by
  obtain ⟨hx, hb, hr, hts, hown, hlocks, hml, hK⟩ := id C0
  have hA : ∀ q : Nat, s.heap.size ≤ q → va_A w0 s.heap.size q := fun q h => Or.inr h
  intro n
  induction n with
  | zero =>
    intro x1 x2 ph la po lo ov orr nv nr ql qk qv qr wr wa wc wk u hf H locs hP hD hS ls hl
    have hf : (none : Option (Int32 × Int32 × Int32 × Int32 × Int32 × (Nat → Int32) × (Nat → Int32) × (Nat → Int32) × (Nat → Int32) × Int32 × (Nat → Int32) × (Nat → Int32) × (Nat → Int32) × (Nat → Int32) × Int32 × (Nat → Int32) × (Nat → Int32))) = some u := hf
    cases hf
  | succ n ih =>
    intro x1 x2 ph la po lo ov orr nv nr ql qk qv qr wr wa wc wk u hf H locs hP hD hS ls hl
    rw [fX4_goOn_b34] at hf
    refine lv_iload_n hx hb dX4_goOn_34 rfl (lv_at hl 2 rfl) ?_
    refine lv_bipush (v := (31 : Int32)) hx hb dX4_goOn_35 (by decide) ?_
    refine lv_icmp_ge (tgt := 70) hx hb dX4_goOn_37 (by decide) (fun c6 => ?_) (fun c6 => ?_)
    · have hf := g_ifT c6 hf
      refine lv_aload_n hx hb dX4_goOn_70 rfl (lv_at hl 0 rfl) ?_
      refine lv_dup hx hb dX4_goOn_71 rfl ?_
      refine va_get (D := G.1) (ci := 3) (v := .int wa) (C := RX4) (T := TX4) (N := 11) hx hb hts hX4 hown hK.1 hP 0 rfl rfl 8 (by decide) (hts _ tw_93) (fun _ h9 => h9) rfl dX4_goOn_72 ?_
      refine lv_iconst (v := (1 : Int32)) hx hb dX4_goOn_75 (by decide) ?_
      refine lv_iload_n hx hb dX4_goOn_76 rfl (lv_at hl 1 rfl) ?_
      refine lv_ishl hx hb dX4_goOn_77 ?_
      refine lv_iconst (v := (-1 : Int32)) hx hb dX4_goOn_78 (by decide) ?_
      refine lv_ixor hx hb dX4_goOn_79 ?_
      refine lv_iand hx hb dX4_goOn_80 ?_
      refine va_put (D := G.1) (ci := 3) (v := .int (wa &&& (((1 : Int32) <<< (x1 &&& 31)) ^^^ (-1 : Int32)))) (ty := .int) (C := RX4) (T := TX4) (N := 11) hx hb hts hX4 tyX4 tyX4_ok nmX4 hown hK.1 hP hD hS 0 rfl rfl 8 (by decide) (hts _ tw_93) (fun _ h9 => h9) rfl (by decide +kernel) rfl rfl (Nat.le_of_ble_eq_true rfl) dX4_goOn_81 (fun H locs hP hD hS => ?_)
      have hP : va_P G.1 vwCl [((a 0), .inr (3, [.int ph, .int la, .int po, .int lo, .ref (a 1), .ref (a 4), .ref (a 7), .ref (a 11), .int (wa &&& (((1 : Int32) <<< (x1 &&& 31)) ^^^ (-1 : Int32))), .ref (a 12), .ref (a 13)])), ((a 1), .inr (2, [.int 0, .ref (a 2), .ref (a 3)])), ((a 2), .inl (G.2.1, 31, .inl ov)), ((a 3), .inl (G.2.1, 31, .inl orr)), ((a 4), .inr (2, [.int 1, .ref (a 5), .ref (a 6)])), ((a 5), .inl (G.2.1, 31, .inl nv)), ((a 6), .inl (G.2.1, 31, .inl nr)), ((a 7), .inr (1, [.int ql, .ref (a 8), .ref (a 9), .ref (a 10)])), ((a 8), .inl (G.2.1, 8, .inl qk)), ((a 9), .inl (G.2.1, 8, .inl qv)), ((a 10), .inl (G.2.1, 8, .inl qr)), ((a 11), .inl (G.2.1, 31, .inl wr)), ((a 12), .inl (G.2.1, 3, .inl wc)), ((a 13), .inl (G.2.1, 3, .inl wk))] H := hP
      have hD : va_D (va_A w0 s.heap.size) [((a 0), .inr (3, [.int ph, .int la, .int po, .int lo, .ref (a 1), .ref (a 4), .ref (a 7), .ref (a 11), .int (wa &&& (((1 : Int32) <<< (x1 &&& 31)) ^^^ (-1 : Int32))), .ref (a 12), .ref (a 13)])), ((a 1), .inr (2, [.int 0, .ref (a 2), .ref (a 3)])), ((a 2), .inl (G.2.1, 31, .inl ov)), ((a 3), .inl (G.2.1, 31, .inl orr)), ((a 4), .inr (2, [.int 1, .ref (a 5), .ref (a 6)])), ((a 5), .inl (G.2.1, 31, .inl nv)), ((a 6), .inl (G.2.1, 31, .inl nr)), ((a 7), .inr (1, [.int ql, .ref (a 8), .ref (a 9), .ref (a 10)])), ((a 8), .inl (G.2.1, 8, .inl qk)), ((a 9), .inl (G.2.1, 8, .inl qv)), ((a 10), .inl (G.2.1, 8, .inl qr)), ((a 11), .inl (G.2.1, 31, .inl wr)), ((a 12), .inl (G.2.1, 3, .inl wc)), ((a 13), .inl (G.2.1, 3, .inl wk))] := hD
      refine lv_bipush (v := (31 : Int32)) hx hb dX4_goOn_84 (by decide) ?_
      cases hf
      exact g_iretC hx hb hr hlocks hP hD hS dX4_goOn_86
    · have hf := g_ifF c6 hf
      refine lv_aload_n hx hb dX4_goOn_40 rfl (lv_at hl 0 rfl) ?_
      refine lv_iload_n hx hb dX4_goOn_41 rfl (lv_at hl 2 rfl) ?_
      refine lv_aload_n hx hb dX4_goOn_42 rfl (lv_at hl 0 rfl) ?_
      refine va_get (D := G.1) (ci := 3) (v := .ref (a 12)) (C := RX4) (T := TX4) (N := 11) hx hb hts hX4 hown hK.1 hP 0 rfl rfl 9 (by decide) (hts _ tw_95) (fun _ h9 => h9) rfl dX4_goOn_43 ?_
      refine lv_iload_n hx hb dX4_goOn_46 rfl (lv_at hl 1 rfl) ?_
      obtain ⟨g7, hf⟩ := g_gdS hf
      refine va_iald hx hb hK.1 hP 12 0 rfl rfl (g_in_vp g7) dX4_goOn_47 ?_
      obtain ⟨r8, e9, hf⟩ := g_bdS hf
      refine g_contR (st1 := [.int r8]) (g_runVR (As := [.int x2, .int (wc x1.toNatClampNeg)]) (rest := []) ⟨hx, hb, hml, hown, hts⟩ (qX4_rowRead l G a e9) (cwV 2 hts (TB_V TB_id tw_197 tw_198 tw_199 tw_6 tw_200) rfl rfl rfl (by decide +kernel) ⟨Nat.le_of_ble_eq_true rfl, Nat.le_of_ble_eq_true rfl⟩) hK (hP.sub [0, 1, 2, 3, 4, 5, 6, 7, 8, 9, 10, 11, 12, 13] rfl) 0 rfl rfl rfl hl.1 rfl (Nat.le_of_ble_eq_true rfl) dX4_goOn_48) rfl ?_
      refine lv_iconst (v := (-1 : Int32)) hx hb dX4_goOn_51 (by decide) ?_
      refine lv_icmp_eq (tgt := 64) hx hb dX4_goOn_52 (by decide) (fun c10 => ?_) (fun c10 => ?_)
      · have hf := g_ifT c10 hf
        refine lv_iinc (v := (x2 + (1 : Int32))) (lv' := [(2, .int (x2 + (1 : Int32))), (0, .ref (a 0)), (1, .int x1)]) hx hb dX4_goOn_64 hl (k := 2) rfl rfl (by decide) rfl (fun ls hl => ?_)
        refine lv_goto (tgt := 34) hx hb dX4_goOn_67 (by decide) ?_
        exact ih _ _ _ _ _ _ _ _ _ _ _ _ _ _ _ _ _ _ _ hf _ _ hP hD hS ls (lv_sub hl [1, 2, 0] rfl)
      · have hf := g_ifF c10 hf
        refine lv_aload_n hx hb dX4_goOn_55 rfl (lv_at hl 0 rfl) ?_
        refine va_get (D := G.1) (ci := 3) (v := .ref (a 13)) (C := RX4) (T := TX4) (N := 11) hx hb hts hX4 hown hK.1 hP 0 rfl rfl 10 (by decide) (hts _ tw_96) (fun _ h9 => h9) rfl dX4_goOn_56 ?_
        refine lv_iload_n hx hb dX4_goOn_59 rfl (lv_at hl 1 rfl) ?_
        refine lv_iload_n hx hb dX4_goOn_60 rfl (lv_at hl 2 rfl) ?_
        obtain ⟨g11, hf⟩ := g_gdS hf
        refine va_iast hx hb hK.1 hP hD hS 13 0 rfl rfl (g_in_vp g11) dX4_goOn_61 (fun H locs hP hD hS => ?_)
        have hP : va_P G.1 vwCl [((a 0), .inr (3, [.int ph, .int la, .int po, .int lo, .ref (a 1), .ref (a 4), .ref (a 7), .ref (a 11), .int wa, .ref (a 12), .ref (a 13)])), ((a 1), .inr (2, [.int 0, .ref (a 2), .ref (a 3)])), ((a 2), .inl (G.2.1, 31, .inl ov)), ((a 3), .inl (G.2.1, 31, .inl orr)), ((a 4), .inr (2, [.int 1, .ref (a 5), .ref (a 6)])), ((a 5), .inl (G.2.1, 31, .inl nv)), ((a 6), .inl (G.2.1, 31, .inl nr)), ((a 7), .inr (1, [.int ql, .ref (a 8), .ref (a 9), .ref (a 10)])), ((a 8), .inl (G.2.1, 8, .inl qk)), ((a 9), .inl (G.2.1, 8, .inl qv)), ((a 10), .inl (G.2.1, 8, .inl qr)), ((a 11), .inl (G.2.1, 31, .inl wr)), ((a 12), .inl (G.2.1, 3, .inl wc)), ((a 13), .inl (G.2.1, 3, .inl (upd wk x1.toNatClampNeg x2)))] H := hP
        have hD : va_D (va_A w0 s.heap.size) [((a 0), .inr (3, [.int ph, .int la, .int po, .int lo, .ref (a 1), .ref (a 4), .ref (a 7), .ref (a 11), .int wa, .ref (a 12), .ref (a 13)])), ((a 1), .inr (2, [.int 0, .ref (a 2), .ref (a 3)])), ((a 2), .inl (G.2.1, 31, .inl ov)), ((a 3), .inl (G.2.1, 31, .inl orr)), ((a 4), .inr (2, [.int 1, .ref (a 5), .ref (a 6)])), ((a 5), .inl (G.2.1, 31, .inl nv)), ((a 6), .inl (G.2.1, 31, .inl nr)), ((a 7), .inr (1, [.int ql, .ref (a 8), .ref (a 9), .ref (a 10)])), ((a 8), .inl (G.2.1, 8, .inl qk)), ((a 9), .inl (G.2.1, 8, .inl qv)), ((a 10), .inl (G.2.1, 8, .inl qr)), ((a 11), .inl (G.2.1, 31, .inl wr)), ((a 12), .inl (G.2.1, 3, .inl wc)), ((a 13), .inl (G.2.1, 3, .inl (upd wk x1.toNatClampNeg x2)))] := hD
        refine lv_iload_n hx hb dX4_goOn_62 rfl (lv_at hl 2 rfl) ?_
        cases hf
        exact g_iretC hx hb hr hlocks hP hD hS dX4_goOn_63
def fX4_goOn (p0 : Int32) (ph : Int32) (la : Int32) (po : Int32) (lo : Int32) (ov : Nat → Int32) (orr : Nat → Int32) (nv : Nat → Int32) (nr : Nat → Int32) (ql : Int32) (qk : Nat → Int32) (qv : Nat → Int32) (qr : Nat → Int32) (wr : Nat → Int32) (wa : Int32) (wc : Nat → Int32) (wk : Nat → Int32) : Option (Int32 × Int32 × Int32 × Int32 × Int32 × (Nat → Int32) × (Nat → Int32) × (Nat → Int32) × (Nat → Int32) × Int32 × (Nat → Int32) × (Nat → Int32) × (Nat → Int32) × (Nat → Int32) × Int32 × (Nat → Int32) × (Nat → Int32)) := ((fX5_isBelow p0 (3 : Int32)).bind fun r1 => (if r1 = (0 : Int32) then some ((-1000001 : Int32), ph, la, po, lo, ov, orr, nv, nr, ql, qk, qv, qr, wr, wa, wc, wk) else (if (wa &&& ((1 : Int32) <<< (p0 &&& 31))) = (0 : Int32) then some ((-1000002 : Int32), ph, la, po, lo, ov, orr, nv, nr, ql, qk, qv, qr, wr, wa, wc, wk) else g_gd (g_in p0 3) (fX4_goOn_b34 2000 p0 ((wk p0.toNatClampNeg) + (1 : Int32)) ph la po lo ov orr nv nr ql qk qv qr wr wa wc wk))))
set_option maxHeartbeats 4000000 in
set_option maxRecDepth 100000 in
theorem qX4_goOn (l : Launch) (G : gT) (a : Nat → Nat) {p0 : Int32} {ph : Int32} {la : Int32} {po : Int32} {lo : Int32} {ov : Nat → Int32} {orr : Nat → Int32} {nv : Nat → Int32} {nr : Nat → Int32} {ql : Int32} {qk : Nat → Int32} {qv : Nat → Int32} {qr : Nat → Int32} {wr : Nat → Int32} {wa : Int32} {wc : Nat → Int32} {wk : Nat → Int32} {u : Int32 × Int32 × Int32 × Int32 × Int32 × (Nat → Int32) × (Nat → Int32) × (Nat → Int32) × (Nat → Int32) × Int32 × (Nat → Int32) × (Nat → Int32) × (Nat → Int32) × (Nat → Int32) × Int32 × (Nat → Int32) × (Nat → Int32)} (hf : fX4_goOn p0 ph la po lo ov orr nv nr ql qk qv qr wr wa wc wk = some u) : gC l G yX4_goOn wsX4_goOn rmX4_goOn [.ref (a 0), .int p0] (tabW G a ph la po lo ov orr nv nr ql qk qv qr wr wa wc wk) (some (.int u.1)) (tabW G a u.2.1 u.2.2.1 u.2.2.2.1 u.2.2.2.2.1 u.2.2.2.2.2.1 u.2.2.2.2.2.2.1 u.2.2.2.2.2.2.2.1 u.2.2.2.2.2.2.2.2.1 u.2.2.2.2.2.2.2.2.2.1 u.2.2.2.2.2.2.2.2.2.2.1 u.2.2.2.2.2.2.2.2.2.2.2.1 u.2.2.2.2.2.2.2.2.2.2.2.2.1 u.2.2.2.2.2.2.2.2.2.2.2.2.2.1 u.2.2.2.2.2.2.2.2.2.2.2.2.2.2.1 u.2.2.2.2.2.2.2.2.2.2.2.2.2.2.2.1 u.2.2.2.2.2.2.2.2.2.2.2.2.2.2.2.2) := by
  refine gC.of (cc := cX4_goOn) (maxL := 3) (ret := (some .int)) (by decide) rfl (Nat.le_of_ble_eq_true rfl) ?_
  intro p e s m below meth c C0 hP hD hS ls hl
  obtain ⟨hx, hb, hr, hts, hown, hlocks, hml, hK⟩ := id C0
  have hl : lv_has ls 3 [(0, .ref (a 0)), (1, .int p0)] := hl
  have hA : ∀ q : Nat, s.heap.size ≤ q → va_A (tabW G a ph la po lo ov orr nv nr ql qk qv qr wr wa wc wk) s.heap.size q := fun q h => Or.inr h
  have hP : va_P G.1 vwCl [((a 0), .inr (3, [.int ph, .int la, .int po, .int lo, .ref (a 1), .ref (a 4), .ref (a 7), .ref (a 11), .int wa, .ref (a 12), .ref (a 13)])), ((a 1), .inr (2, [.int 0, .ref (a 2), .ref (a 3)])), ((a 2), .inl (G.2.1, 31, .inl ov)), ((a 3), .inl (G.2.1, 31, .inl orr)), ((a 4), .inr (2, [.int 1, .ref (a 5), .ref (a 6)])), ((a 5), .inl (G.2.1, 31, .inl nv)), ((a 6), .inl (G.2.1, 31, .inl nr)), ((a 7), .inr (1, [.int ql, .ref (a 8), .ref (a 9), .ref (a 10)])), ((a 8), .inl (G.2.1, 8, .inl qk)), ((a 9), .inl (G.2.1, 8, .inl qv)), ((a 10), .inl (G.2.1, 8, .inl qr)), ((a 11), .inl (G.2.1, 31, .inl wr)), ((a 12), .inl (G.2.1, 3, .inl wc)), ((a 13), .inl (G.2.1, 3, .inl wk))] s.heap := hP
  have hD : va_D (va_A (tabW G a ph la po lo ov orr nv nr ql qk qv qr wr wa wc wk) s.heap.size) [((a 0), .inr (3, [.int ph, .int la, .int po, .int lo, .ref (a 1), .ref (a 4), .ref (a 7), .ref (a 11), .int wa, .ref (a 12), .ref (a 13)])), ((a 1), .inr (2, [.int 0, .ref (a 2), .ref (a 3)])), ((a 2), .inl (G.2.1, 31, .inl ov)), ((a 3), .inl (G.2.1, 31, .inl orr)), ((a 4), .inr (2, [.int 1, .ref (a 5), .ref (a 6)])), ((a 5), .inl (G.2.1, 31, .inl nv)), ((a 6), .inl (G.2.1, 31, .inl nr)), ((a 7), .inr (1, [.int ql, .ref (a 8), .ref (a 9), .ref (a 10)])), ((a 8), .inl (G.2.1, 8, .inl qk)), ((a 9), .inl (G.2.1, 8, .inl qv)), ((a 10), .inl (G.2.1, 8, .inl qr)), ((a 11), .inl (G.2.1, 31, .inl wr)), ((a 12), .inl (G.2.1, 3, .inl wc)), ((a 13), .inl (G.2.1, 3, .inl wk))] := hD
  unfold fX4_goOn at hf
  refine lv_iload_n hx hb dX4_goOn_0 rfl (lv_at hl 1 rfl) ?_
  refine lv_iconst (v := (3 : Int32)) hx hb dX4_goOn_1 (by decide) ?_
  obtain ⟨r1, e2, hf⟩ := g_bdS hf
  refine g_contR (st1 := [.int r1]) (g_runSNR (As := [.int p0, .int (3 : Int32)]) (rest := []) ⟨hx, hb, hml, hown, hts⟩ (qX5_isBelow l G e2) ⟨va_cnB 2 hts (TB_C TB_id tw_191) rfl rfl rfl hK.2.1 (hts _ tw_5) (by decide +kernel) ⟨Nat.le_of_ble_eq_true rfl, Nat.le_of_ble_eq_true rfl⟩, hts _ tw_190, trivial⟩ hK (hP.sub [] rfl) rfl hl.1 rfl (Nat.le_of_ble_eq_true rfl) dX4_goOn_2) rfl ?_
  refine lv_if_ne (tgt := 11) hx hb dX4_goOn_5 (by decide) (fun c3 => ?_) (fun c3 => ?_)
  · have hf := g_ifF c3 hf
    refine lv_aload_n hx hb dX4_goOn_11 rfl (lv_at hl 0 rfl) ?_
    refine va_get (D := G.1) (ci := 3) (v := .int wa) (C := RX4) (T := TX4) (N := 11) hx hb hts hX4 hown hK.1 hP 0 rfl rfl 8 (by decide) (hts _ tw_93) (fun _ h9 => h9) rfl dX4_goOn_12 ?_
    refine lv_iconst (v := (1 : Int32)) hx hb dX4_goOn_15 (by decide) ?_
    refine lv_iload_n hx hb dX4_goOn_16 rfl (lv_at hl 1 rfl) ?_
    refine lv_ishl hx hb dX4_goOn_17 ?_
    refine lv_iand hx hb dX4_goOn_18 ?_
    refine lv_if_ne (tgt := 25) hx hb dX4_goOn_19 (by decide) (fun c4 => ?_) (fun c4 => ?_)
    · have hf := g_ifF c4 hf
      refine lv_aload_n hx hb dX4_goOn_25 rfl (lv_at hl 0 rfl) ?_
      refine va_get (D := G.1) (ci := 3) (v := .ref (a 13)) (C := RX4) (T := TX4) (N := 11) hx hb hts hX4 hown hK.1 hP 0 rfl rfl 10 (by decide) (hts _ tw_96) (fun _ h9 => h9) rfl dX4_goOn_26 ?_
      refine lv_iload_n hx hb dX4_goOn_29 rfl (lv_at hl 1 rfl) ?_
      obtain ⟨g5, hf⟩ := g_gdS hf
      refine va_iald hx hb hK.1 hP 13 0 rfl rfl (g_in_vp g5) dX4_goOn_30 ?_
      refine lv_iconst (v := (1 : Int32)) hx hb dX4_goOn_31 (by decide) ?_
      refine lv_iadd hx hb dX4_goOn_32 ?_
      refine lv_istore_n (lv' := [(2, .int ((wk p0.toNatClampNeg) + (1 : Int32))), (0, .ref (a 0)), (1, .int p0)]) hx hb dX4_goOn_33 rfl hl (by decide) rfl (fun ls hl => ?_)
      exact kX4_goOn_b34 C0 2000 _ _ _ _ _ _ _ _ _ _ _ _ _ _ _ _ _ _ _ hf _ _ hP hD hS ls (lv_sub hl [1, 2, 0] rfl)
    · have hf := g_ifT c4 hf
      refine lv_ldc (v := (-1000002 : Int32)) hx hb hown (hts _ tw_367) dX4_goOn_22 ?_
      cases hf
      exact g_iretC hx hb hr hlocks hP hD hS dX4_goOn_24
  · have hf := g_ifT c3 hf
    refine lv_ldc (v := (-1000001 : Int32)) hx hb hown (hts _ tw_192) dX4_goOn_8 ?_
    cases hf
    exact g_iretC hx hb hr hlocks hP hD hS dX4_goOn_10
-- java/lang/Integer.bitCount(I)I
abbrev rmJ6_bitCount_0f7a4 : Room := { frames := 0, cells := 0, slots := 0, locals := 0 }
def fJ6_bitCount_0f7a4 (p0 : Int32) : Option (Int32) := some (((((((((p0 - (((p0.toUInt32 >>> ((1 : Int32).toUInt32 &&& Int32.toUInt32 31)).toInt32) &&& (1431655765 : Int32))) &&& (858993459 : Int32)) + ((((p0 - (((p0.toUInt32 >>> ((1 : Int32).toUInt32 &&& Int32.toUInt32 31)).toInt32) &&& (1431655765 : Int32))).toUInt32 >>> ((2 : Int32).toUInt32 &&& Int32.toUInt32 31)).toInt32) &&& (858993459 : Int32))) + (((((p0 - (((p0.toUInt32 >>> ((1 : Int32).toUInt32 &&& Int32.toUInt32 31)).toInt32) &&& (1431655765 : Int32))) &&& (858993459 : Int32)) + ((((p0 - (((p0.toUInt32 >>> ((1 : Int32).toUInt32 &&& Int32.toUInt32 31)).toInt32) &&& (1431655765 : Int32))).toUInt32 >>> ((2 : Int32).toUInt32 &&& Int32.toUInt32 31)).toInt32) &&& (858993459 : Int32))).toUInt32 >>> ((4 : Int32).toUInt32 &&& Int32.toUInt32 31)).toInt32)) &&& (252645135 : Int32)) + (((((((p0 - (((p0.toUInt32 >>> ((1 : Int32).toUInt32 &&& Int32.toUInt32 31)).toInt32) &&& (1431655765 : Int32))) &&& (858993459 : Int32)) + ((((p0 - (((p0.toUInt32 >>> ((1 : Int32).toUInt32 &&& Int32.toUInt32 31)).toInt32) &&& (1431655765 : Int32))).toUInt32 >>> ((2 : Int32).toUInt32 &&& Int32.toUInt32 31)).toInt32) &&& (858993459 : Int32))) + (((((p0 - (((p0.toUInt32 >>> ((1 : Int32).toUInt32 &&& Int32.toUInt32 31)).toInt32) &&& (1431655765 : Int32))) &&& (858993459 : Int32)) + ((((p0 - (((p0.toUInt32 >>> ((1 : Int32).toUInt32 &&& Int32.toUInt32 31)).toInt32) &&& (1431655765 : Int32))).toUInt32 >>> ((2 : Int32).toUInt32 &&& Int32.toUInt32 31)).toInt32) &&& (858993459 : Int32))).toUInt32 >>> ((4 : Int32).toUInt32 &&& Int32.toUInt32 31)).toInt32)) &&& (252645135 : Int32)).toUInt32 >>> ((8 : Int32).toUInt32 &&& Int32.toUInt32 31)).toInt32)) + ((((((((p0 - (((p0.toUInt32 >>> ((1 : Int32).toUInt32 &&& Int32.toUInt32 31)).toInt32) &&& (1431655765 : Int32))) &&& (858993459 : Int32)) + ((((p0 - (((p0.toUInt32 >>> ((1 : Int32).toUInt32 &&& Int32.toUInt32 31)).toInt32) &&& (1431655765 : Int32))).toUInt32 >>> ((2 : Int32).toUInt32 &&& Int32.toUInt32 31)).toInt32) &&& (858993459 : Int32))) + (((((p0 - (((p0.toUInt32 >>> ((1 : Int32).toUInt32 &&& Int32.toUInt32 31)).toInt32) &&& (1431655765 : Int32))) &&& (858993459 : Int32)) + ((((p0 - (((p0.toUInt32 >>> ((1 : Int32).toUInt32 &&& Int32.toUInt32 31)).toInt32) &&& (1431655765 : Int32))).toUInt32 >>> ((2 : Int32).toUInt32 &&& Int32.toUInt32 31)).toInt32) &&& (858993459 : Int32))).toUInt32 >>> ((4 : Int32).toUInt32 &&& Int32.toUInt32 31)).toInt32)) &&& (252645135 : Int32)) + (((((((p0 - (((p0.toUInt32 >>> ((1 : Int32).toUInt32 &&& Int32.toUInt32 31)).toInt32) &&& (1431655765 : Int32))) &&& (858993459 : Int32)) + ((((p0 - (((p0.toUInt32 >>> ((1 : Int32).toUInt32 &&& Int32.toUInt32 31)).toInt32) &&& (1431655765 : Int32))).toUInt32 >>> ((2 : Int32).toUInt32 &&& Int32.toUInt32 31)).toInt32) &&& (858993459 : Int32))) + (((((p0 - (((p0.toUInt32 >>> ((1 : Int32).toUInt32 &&& Int32.toUInt32 31)).toInt32) &&& (1431655765 : Int32))) &&& (858993459 : Int32)) + ((((p0 - (((p0.toUInt32 >>> ((1 : Int32).toUInt32 &&& Int32.toUInt32 31)).toInt32) &&& (1431655765 : Int32))).toUInt32 >>> ((2 : Int32).toUInt32 &&& Int32.toUInt32 31)).toInt32) &&& (858993459 : Int32))).toUInt32 >>> ((4 : Int32).toUInt32 &&& Int32.toUInt32 31)).toInt32)) &&& (252645135 : Int32)).toUInt32 >>> ((8 : Int32).toUInt32 &&& Int32.toUInt32 31)).toInt32)).toUInt32 >>> ((16 : Int32).toUInt32 &&& Int32.toUInt32 31)).toInt32)) &&& (63 : Int32)))
set_option maxHeartbeats 4000000 in
set_option maxRecDepth 100000 in
theorem qJ6_bitCount_0f7a4 (l : Launch) (G : gT)  {p0 : Int32} {u : Int32} (hf : fJ6_bitCount_0f7a4 p0 = some u) : gR l G yJ6_bitCount_0f7a4 wsJ6_bitCount_0f7a4 rmJ6_bitCount_0f7a4 [.int p0] [] (some (.int u)) := by
  refine gR.of (cc := cJ6_bitCount_0f7a4) (maxL := 1) (ret := (some .int)) (by decide) rfl (Nat.le_of_ble_eq_true rfl) ?_
  intro p e s m below meth c C0 hP ls hl
  obtain ⟨hx, hb, hr, hts, hown, hlocks, hml, hK⟩ := id C0
  have hl : lv_has ls 1 [(0, .int p0)] := hl
  have hP : va_P G.1 vwCl [] s.heap := hP
  unfold fJ6_bitCount_0f7a4 at hf
  refine lv_iload_n hx hb dJ6_bitCount_0f7a4_0 rfl (lv_at hl 0 rfl) ?_
  refine lv_iload_n hx hb dJ6_bitCount_0f7a4_1 rfl (lv_at hl 0 rfl) ?_
  refine lv_iconst (v := (1 : Int32)) hx hb dJ6_bitCount_0f7a4_2 (by decide) ?_
  refine lv_iushr hx hb dJ6_bitCount_0f7a4_3 rfl ?_
  refine lv_ldcw (v := (1431655765 : Int32)) hx hb hown (hts _ tw_231) dJ6_bitCount_0f7a4_4 ?_
  refine lv_iand hx hb dJ6_bitCount_0f7a4_7 ?_
  refine lv_isub hx hb dJ6_bitCount_0f7a4_8 ?_
  refine lv_istore_n (lv' := [(0, .int (p0 - (((p0.toUInt32 >>> ((1 : Int32).toUInt32 &&& Int32.toUInt32 31)).toInt32) &&& (1431655765 : Int32))))]) hx hb dJ6_bitCount_0f7a4_9 rfl hl (by decide) rfl (fun ls hl => ?_)
  refine lv_iload_n hx hb dJ6_bitCount_0f7a4_10 rfl (lv_at hl 0 rfl) ?_
  refine lv_ldcw (v := (858993459 : Int32)) hx hb hown (hts _ tw_232) dJ6_bitCount_0f7a4_11 ?_
  refine lv_iand hx hb dJ6_bitCount_0f7a4_14 ?_
  refine lv_iload_n hx hb dJ6_bitCount_0f7a4_15 rfl (lv_at hl 0 rfl) ?_
  refine lv_iconst (v := (2 : Int32)) hx hb dJ6_bitCount_0f7a4_16 (by decide) ?_
  refine lv_iushr hx hb dJ6_bitCount_0f7a4_17 rfl ?_
  refine lv_ldcw (v := (858993459 : Int32)) hx hb hown (hts _ tw_232) dJ6_bitCount_0f7a4_18 ?_
  refine lv_iand hx hb dJ6_bitCount_0f7a4_21 ?_
  refine lv_iadd hx hb dJ6_bitCount_0f7a4_22 ?_
  refine lv_istore_n (lv' := [(0, .int (((p0 - (((p0.toUInt32 >>> ((1 : Int32).toUInt32 &&& Int32.toUInt32 31)).toInt32) &&& (1431655765 : Int32))) &&& (858993459 : Int32)) + ((((p0 - (((p0.toUInt32 >>> ((1 : Int32).toUInt32 &&& Int32.toUInt32 31)).toInt32) &&& (1431655765 : Int32))).toUInt32 >>> ((2 : Int32).toUInt32 &&& Int32.toUInt32 31)).toInt32) &&& (858993459 : Int32))))]) hx hb dJ6_bitCount_0f7a4_23 rfl hl (by decide) rfl (fun ls hl => ?_)
  refine lv_iload_n hx hb dJ6_bitCount_0f7a4_24 rfl (lv_at hl 0 rfl) ?_
  refine lv_iload_n hx hb dJ6_bitCount_0f7a4_25 rfl (lv_at hl 0 rfl) ?_
  refine lv_iconst (v := (4 : Int32)) hx hb dJ6_bitCount_0f7a4_26 (by decide) ?_
  refine lv_iushr hx hb dJ6_bitCount_0f7a4_27 rfl ?_
  refine lv_iadd hx hb dJ6_bitCount_0f7a4_28 ?_
  refine lv_ldcw (v := (252645135 : Int32)) hx hb hown (hts _ tw_233) dJ6_bitCount_0f7a4_29 ?_
  refine lv_iand hx hb dJ6_bitCount_0f7a4_32 ?_
  refine lv_istore_n (lv' := [(0, .int (((((p0 - (((p0.toUInt32 >>> ((1 : Int32).toUInt32 &&& Int32.toUInt32 31)).toInt32) &&& (1431655765 : Int32))) &&& (858993459 : Int32)) + ((((p0 - (((p0.toUInt32 >>> ((1 : Int32).toUInt32 &&& Int32.toUInt32 31)).toInt32) &&& (1431655765 : Int32))).toUInt32 >>> ((2 : Int32).toUInt32 &&& Int32.toUInt32 31)).toInt32) &&& (858993459 : Int32))) + (((((p0 - (((p0.toUInt32 >>> ((1 : Int32).toUInt32 &&& Int32.toUInt32 31)).toInt32) &&& (1431655765 : Int32))) &&& (858993459 : Int32)) + ((((p0 - (((p0.toUInt32 >>> ((1 : Int32).toUInt32 &&& Int32.toUInt32 31)).toInt32) &&& (1431655765 : Int32))).toUInt32 >>> ((2 : Int32).toUInt32 &&& Int32.toUInt32 31)).toInt32) &&& (858993459 : Int32))).toUInt32 >>> ((4 : Int32).toUInt32 &&& Int32.toUInt32 31)).toInt32)) &&& (252645135 : Int32)))]) hx hb dJ6_bitCount_0f7a4_33 rfl hl (by decide) rfl (fun ls hl => ?_)
  refine lv_iload_n hx hb dJ6_bitCount_0f7a4_34 rfl (lv_at hl 0 rfl) ?_
  refine lv_iload_n hx hb dJ6_bitCount_0f7a4_35 rfl (lv_at hl 0 rfl) ?_
  refine lv_bipush (v := (8 : Int32)) hx hb dJ6_bitCount_0f7a4_36 (by decide) ?_
  refine lv_iushr hx hb dJ6_bitCount_0f7a4_38 rfl ?_
  refine lv_iadd hx hb dJ6_bitCount_0f7a4_39 ?_
  refine lv_istore_n (lv' := [(0, .int ((((((p0 - (((p0.toUInt32 >>> ((1 : Int32).toUInt32 &&& Int32.toUInt32 31)).toInt32) &&& (1431655765 : Int32))) &&& (858993459 : Int32)) + ((((p0 - (((p0.toUInt32 >>> ((1 : Int32).toUInt32 &&& Int32.toUInt32 31)).toInt32) &&& (1431655765 : Int32))).toUInt32 >>> ((2 : Int32).toUInt32 &&& Int32.toUInt32 31)).toInt32) &&& (858993459 : Int32))) + (((((p0 - (((p0.toUInt32 >>> ((1 : Int32).toUInt32 &&& Int32.toUInt32 31)).toInt32) &&& (1431655765 : Int32))) &&& (858993459 : Int32)) + ((((p0 - (((p0.toUInt32 >>> ((1 : Int32).toUInt32 &&& Int32.toUInt32 31)).toInt32) &&& (1431655765 : Int32))).toUInt32 >>> ((2 : Int32).toUInt32 &&& Int32.toUInt32 31)).toInt32) &&& (858993459 : Int32))).toUInt32 >>> ((4 : Int32).toUInt32 &&& Int32.toUInt32 31)).toInt32)) &&& (252645135 : Int32)) + (((((((p0 - (((p0.toUInt32 >>> ((1 : Int32).toUInt32 &&& Int32.toUInt32 31)).toInt32) &&& (1431655765 : Int32))) &&& (858993459 : Int32)) + ((((p0 - (((p0.toUInt32 >>> ((1 : Int32).toUInt32 &&& Int32.toUInt32 31)).toInt32) &&& (1431655765 : Int32))).toUInt32 >>> ((2 : Int32).toUInt32 &&& Int32.toUInt32 31)).toInt32) &&& (858993459 : Int32))) + (((((p0 - (((p0.toUInt32 >>> ((1 : Int32).toUInt32 &&& Int32.toUInt32 31)).toInt32) &&& (1431655765 : Int32))) &&& (858993459 : Int32)) + ((((p0 - (((p0.toUInt32 >>> ((1 : Int32).toUInt32 &&& Int32.toUInt32 31)).toInt32) &&& (1431655765 : Int32))).toUInt32 >>> ((2 : Int32).toUInt32 &&& Int32.toUInt32 31)).toInt32) &&& (858993459 : Int32))).toUInt32 >>> ((4 : Int32).toUInt32 &&& Int32.toUInt32 31)).toInt32)) &&& (252645135 : Int32)).toUInt32 >>> ((8 : Int32).toUInt32 &&& Int32.toUInt32 31)).toInt32)))]) hx hb dJ6_bitCount_0f7a4_40 rfl hl (by decide) rfl (fun ls hl => ?_)
  refine lv_iload_n hx hb dJ6_bitCount_0f7a4_41 rfl (lv_at hl 0 rfl) ?_
  refine lv_iload_n hx hb dJ6_bitCount_0f7a4_42 rfl (lv_at hl 0 rfl) ?_
  refine lv_bipush (v := (16 : Int32)) hx hb dJ6_bitCount_0f7a4_43 (by decide) ?_
  refine lv_iushr hx hb dJ6_bitCount_0f7a4_45 rfl ?_
  refine lv_iadd hx hb dJ6_bitCount_0f7a4_46 ?_
  refine lv_istore_n (lv' := [(0, .int (((((((p0 - (((p0.toUInt32 >>> ((1 : Int32).toUInt32 &&& Int32.toUInt32 31)).toInt32) &&& (1431655765 : Int32))) &&& (858993459 : Int32)) + ((((p0 - (((p0.toUInt32 >>> ((1 : Int32).toUInt32 &&& Int32.toUInt32 31)).toInt32) &&& (1431655765 : Int32))).toUInt32 >>> ((2 : Int32).toUInt32 &&& Int32.toUInt32 31)).toInt32) &&& (858993459 : Int32))) + (((((p0 - (((p0.toUInt32 >>> ((1 : Int32).toUInt32 &&& Int32.toUInt32 31)).toInt32) &&& (1431655765 : Int32))) &&& (858993459 : Int32)) + ((((p0 - (((p0.toUInt32 >>> ((1 : Int32).toUInt32 &&& Int32.toUInt32 31)).toInt32) &&& (1431655765 : Int32))).toUInt32 >>> ((2 : Int32).toUInt32 &&& Int32.toUInt32 31)).toInt32) &&& (858993459 : Int32))).toUInt32 >>> ((4 : Int32).toUInt32 &&& Int32.toUInt32 31)).toInt32)) &&& (252645135 : Int32)) + (((((((p0 - (((p0.toUInt32 >>> ((1 : Int32).toUInt32 &&& Int32.toUInt32 31)).toInt32) &&& (1431655765 : Int32))) &&& (858993459 : Int32)) + ((((p0 - (((p0.toUInt32 >>> ((1 : Int32).toUInt32 &&& Int32.toUInt32 31)).toInt32) &&& (1431655765 : Int32))).toUInt32 >>> ((2 : Int32).toUInt32 &&& Int32.toUInt32 31)).toInt32) &&& (858993459 : Int32))) + (((((p0 - (((p0.toUInt32 >>> ((1 : Int32).toUInt32 &&& Int32.toUInt32 31)).toInt32) &&& (1431655765 : Int32))) &&& (858993459 : Int32)) + ((((p0 - (((p0.toUInt32 >>> ((1 : Int32).toUInt32 &&& Int32.toUInt32 31)).toInt32) &&& (1431655765 : Int32))).toUInt32 >>> ((2 : Int32).toUInt32 &&& Int32.toUInt32 31)).toInt32) &&& (858993459 : Int32))).toUInt32 >>> ((4 : Int32).toUInt32 &&& Int32.toUInt32 31)).toInt32)) &&& (252645135 : Int32)).toUInt32 >>> ((8 : Int32).toUInt32 &&& Int32.toUInt32 31)).toInt32)) + ((((((((p0 - (((p0.toUInt32 >>> ((1 : Int32).toUInt32 &&& Int32.toUInt32 31)).toInt32) &&& (1431655765 : Int32))) &&& (858993459 : Int32)) + ((((p0 - (((p0.toUInt32 >>> ((1 : Int32).toUInt32 &&& Int32.toUInt32 31)).toInt32) &&& (1431655765 : Int32))).toUInt32 >>> ((2 : Int32).toUInt32 &&& Int32.toUInt32 31)).toInt32) &&& (858993459 : Int32))) + (((((p0 - (((p0.toUInt32 >>> ((1 : Int32).toUInt32 &&& Int32.toUInt32 31)).toInt32) &&& (1431655765 : Int32))) &&& (858993459 : Int32)) + ((((p0 - (((p0.toUInt32 >>> ((1 : Int32).toUInt32 &&& Int32.toUInt32 31)).toInt32) &&& (1431655765 : Int32))).toUInt32 >>> ((2 : Int32).toUInt32 &&& Int32.toUInt32 31)).toInt32) &&& (858993459 : Int32))).toUInt32 >>> ((4 : Int32).toUInt32 &&& Int32.toUInt32 31)).toInt32)) &&& (252645135 : Int32)) + (((((((p0 - (((p0.toUInt32 >>> ((1 : Int32).toUInt32 &&& Int32.toUInt32 31)).toInt32) &&& (1431655765 : Int32))) &&& (858993459 : Int32)) + ((((p0 - (((p0.toUInt32 >>> ((1 : Int32).toUInt32 &&& Int32.toUInt32 31)).toInt32) &&& (1431655765 : Int32))).toUInt32 >>> ((2 : Int32).toUInt32 &&& Int32.toUInt32 31)).toInt32) &&& (858993459 : Int32))) + (((((p0 - (((p0.toUInt32 >>> ((1 : Int32).toUInt32 &&& Int32.toUInt32 31)).toInt32) &&& (1431655765 : Int32))) &&& (858993459 : Int32)) + ((((p0 - (((p0.toUInt32 >>> ((1 : Int32).toUInt32 &&& Int32.toUInt32 31)).toInt32) &&& (1431655765 : Int32))).toUInt32 >>> ((2 : Int32).toUInt32 &&& Int32.toUInt32 31)).toInt32) &&& (858993459 : Int32))).toUInt32 >>> ((4 : Int32).toUInt32 &&& Int32.toUInt32 31)).toInt32)) &&& (252645135 : Int32)).toUInt32 >>> ((8 : Int32).toUInt32 &&& Int32.toUInt32 31)).toInt32)).toUInt32 >>> ((16 : Int32).toUInt32 &&& Int32.toUInt32 31)).toInt32)))]) hx hb dJ6_bitCount_0f7a4_47 rfl hl (by decide) rfl (fun ls hl => ?_)
  refine lv_iload_n hx hb dJ6_bitCount_0f7a4_48 rfl (lv_at hl 0 rfl) ?_
  refine lv_bipush (v := (63 : Int32)) hx hb dJ6_bitCount_0f7a4_49 (by decide) ?_
  refine lv_iand hx hb dJ6_bitCount_0f7a4_51 ?_
  cases hf
  exact g_iretR hx hb hr hlocks dJ6_bitCount_0f7a4_52
-- TwoShapes$Table.startWalk(II)I
abbrev rmX4_startWalk : Room := { frames := 4, cells := 0, slots := 0, locals := 89 }
def fX4_startWalk (p0 : Int32) (p1 : Int32) (ph : Int32) (la : Int32) (po : Int32) (lo : Int32) (ov : Nat → Int32) (orr : Nat → Int32) (nv : Nat → Int32) (nr : Nat → Int32) (ql : Int32) (qk : Nat → Int32) (qv : Nat → Int32) (qr : Nat → Int32) (wr : Nat → Int32) (wa : Int32) (wc : Nat → Int32) (wk : Nat → Int32) : Option (Int32 × Int32 × Int32 × Int32 × Int32 × (Nat → Int32) × (Nat → Int32) × (Nat → Int32) × (Nat → Int32) × Int32 × (Nat → Int32) × (Nat → Int32) × (Nat → Int32) × (Nat → Int32) × Int32 × (Nat → Int32) × (Nat → Int32)) := ((fX5_isBelow p0 (3 : Int32)).bind fun r1 => (if r1 = (0 : Int32) then some ((-1000001 : Int32), ph, la, po, lo, ov, orr, nv, nr, ql, qk, qv, qr, wr, wa, wc, wk) else ((fX5_isBelow p1 (2 : Int32)).bind fun r4 => (if r4 = (0 : Int32) then some ((-1000001 : Int32), ph, la, po, lo, ov, orr, nv, nr, ql, qk, qv, qr, wr, wa, wc, wk) else g_gd (g_in p0 3) (g_gd (g_in p0 3) (((fX4_keysRead p1 ph la po lo ov orr nv nr ql qk qv qr wr (wa ||| ((1 : Int32) <<< (p0 &&& 31))) (upd wc p0.toNatClampNeg p1) (upd wk p0.toNatClampNeg (-1 : Int32))).bind fun r9 => ((fJ6_bitCount_0f7a4 r9).bind fun r11 => some (r11, ph, la, po, lo, ov, orr, nv, nr, ql, qk, qv, qr, wr, (wa ||| ((1 : Int32) <<< (p0 &&& 31))), (upd wc p0.toNatClampNeg p1), (upd wk p0.toNatClampNeg (-1 : Int32)))))))))))
set_option maxHeartbeats 4000000 in
set_option maxRecDepth 100000 in
theorem qX4_startWalk (l : Launch) (G : gT) (a : Nat → Nat) {p0 : Int32} {p1 : Int32} {ph : Int32} {la : Int32} {po : Int32} {lo : Int32} {ov : Nat → Int32} {orr : Nat → Int32} {nv : Nat → Int32} {nr : Nat → Int32} {ql : Int32} {qk : Nat → Int32} {qv : Nat → Int32} {qr : Nat → Int32} {wr : Nat → Int32} {wa : Int32} {wc : Nat → Int32} {wk : Nat → Int32} {u : Int32 × Int32 × Int32 × Int32 × Int32 × (Nat → Int32) × (Nat → Int32) × (Nat → Int32) × (Nat → Int32) × Int32 × (Nat → Int32) × (Nat → Int32) × (Nat → Int32) × (Nat → Int32) × Int32 × (Nat → Int32) × (Nat → Int32)} (hf : fX4_startWalk p0 p1 ph la po lo ov orr nv nr ql qk qv qr wr wa wc wk = some u) : gC l G yX4_startWalk wsX4_startWalk rmX4_startWalk [.ref (a 0), .int p0, .int p1] (tabW G a ph la po lo ov orr nv nr ql qk qv qr wr wa wc wk) (some (.int u.1)) (tabW G a u.2.1 u.2.2.1 u.2.2.2.1 u.2.2.2.2.1 u.2.2.2.2.2.1 u.2.2.2.2.2.2.1 u.2.2.2.2.2.2.2.1 u.2.2.2.2.2.2.2.2.1 u.2.2.2.2.2.2.2.2.2.1 u.2.2.2.2.2.2.2.2.2.2.1 u.2.2.2.2.2.2.2.2.2.2.2.1 u.2.2.2.2.2.2.2.2.2.2.2.2.1 u.2.2.2.2.2.2.2.2.2.2.2.2.2.1 u.2.2.2.2.2.2.2.2.2.2.2.2.2.2.1 u.2.2.2.2.2.2.2.2.2.2.2.2.2.2.2.1 u.2.2.2.2.2.2.2.2.2.2.2.2.2.2.2.2) := by
  refine gC.of (cc := cX4_startWalk) (maxL := 3) (ret := (some .int)) (by decide) rfl (Nat.le_of_ble_eq_true rfl) ?_
  intro p e s m below meth c C0 hP hD hS ls hl
  obtain ⟨hx, hb, hr, hts, hown, hlocks, hml, hK⟩ := id C0
  have hl : lv_has ls 3 [(0, .ref (a 0)), (1, .int p0), (2, .int p1)] := hl
  have hA : ∀ q : Nat, s.heap.size ≤ q → va_A (tabW G a ph la po lo ov orr nv nr ql qk qv qr wr wa wc wk) s.heap.size q := fun q h => Or.inr h
  have hP : va_P G.1 vwCl [((a 0), .inr (3, [.int ph, .int la, .int po, .int lo, .ref (a 1), .ref (a 4), .ref (a 7), .ref (a 11), .int wa, .ref (a 12), .ref (a 13)])), ((a 1), .inr (2, [.int 0, .ref (a 2), .ref (a 3)])), ((a 2), .inl (G.2.1, 31, .inl ov)), ((a 3), .inl (G.2.1, 31, .inl orr)), ((a 4), .inr (2, [.int 1, .ref (a 5), .ref (a 6)])), ((a 5), .inl (G.2.1, 31, .inl nv)), ((a 6), .inl (G.2.1, 31, .inl nr)), ((a 7), .inr (1, [.int ql, .ref (a 8), .ref (a 9), .ref (a 10)])), ((a 8), .inl (G.2.1, 8, .inl qk)), ((a 9), .inl (G.2.1, 8, .inl qv)), ((a 10), .inl (G.2.1, 8, .inl qr)), ((a 11), .inl (G.2.1, 31, .inl wr)), ((a 12), .inl (G.2.1, 3, .inl wc)), ((a 13), .inl (G.2.1, 3, .inl wk))] s.heap := hP
  have hD : va_D (va_A (tabW G a ph la po lo ov orr nv nr ql qk qv qr wr wa wc wk) s.heap.size) [((a 0), .inr (3, [.int ph, .int la, .int po, .int lo, .ref (a 1), .ref (a 4), .ref (a 7), .ref (a 11), .int wa, .ref (a 12), .ref (a 13)])), ((a 1), .inr (2, [.int 0, .ref (a 2), .ref (a 3)])), ((a 2), .inl (G.2.1, 31, .inl ov)), ((a 3), .inl (G.2.1, 31, .inl orr)), ((a 4), .inr (2, [.int 1, .ref (a 5), .ref (a 6)])), ((a 5), .inl (G.2.1, 31, .inl nv)), ((a 6), .inl (G.2.1, 31, .inl nr)), ((a 7), .inr (1, [.int ql, .ref (a 8), .ref (a 9), .ref (a 10)])), ((a 8), .inl (G.2.1, 8, .inl qk)), ((a 9), .inl (G.2.1, 8, .inl qv)), ((a 10), .inl (G.2.1, 8, .inl qr)), ((a 11), .inl (G.2.1, 31, .inl wr)), ((a 12), .inl (G.2.1, 3, .inl wc)), ((a 13), .inl (G.2.1, 3, .inl wk))] := hD
  unfold fX4_startWalk at hf
  refine lv_iload_n hx hb dX4_startWalk_0 rfl (lv_at hl 1 rfl) ?_
  refine lv_iconst (v := (3 : Int32)) hx hb dX4_startWalk_1 (by decide) ?_
  obtain ⟨r1, e2, hf⟩ := g_bdS hf
  refine g_contR (st1 := [.int r1]) (g_runSNR (As := [.int p0, .int (3 : Int32)]) (rest := []) ⟨hx, hb, hml, hown, hts⟩ (qX5_isBelow l G e2) ⟨va_cnB 2 hts (TB_C TB_id tw_191) rfl rfl rfl hK.2.1 (hts _ tw_5) (by decide +kernel) ⟨Nat.le_of_ble_eq_true rfl, Nat.le_of_ble_eq_true rfl⟩, hts _ tw_190, trivial⟩ hK (hP.sub [] rfl) rfl hl.1 rfl (Nat.le_of_ble_eq_true rfl) dX4_startWalk_2) rfl ?_
  refine lv_if_eq (tgt := 16) hx hb dX4_startWalk_5 (by decide) (fun c3 => ?_) (fun c3 => ?_)
  · have hf := g_ifT c3 hf
    refine lv_ldc (v := (-1000001 : Int32)) hx hb hown (hts _ tw_192) dX4_startWalk_16 ?_
    cases hf
    exact g_iretC hx hb hr hlocks hP hD hS dX4_startWalk_18
  · have hf := g_ifF c3 hf
    refine lv_iload_n hx hb dX4_startWalk_8 rfl (lv_at hl 2 rfl) ?_
    refine lv_iconst (v := (2 : Int32)) hx hb dX4_startWalk_9 (by decide) ?_
    obtain ⟨r4, e5, hf⟩ := g_bdS hf
    refine g_contR (st1 := [.int r4]) (g_runSNR (As := [.int p1, .int (2 : Int32)]) (rest := []) ⟨hx, hb, hml, hown, hts⟩ (qX5_isBelow l G e5) ⟨va_cnB 2 hts (TB_C TB_id tw_191) rfl rfl rfl hK.2.1 (hts _ tw_5) (by decide +kernel) ⟨Nat.le_of_ble_eq_true rfl, Nat.le_of_ble_eq_true rfl⟩, hts _ tw_190, trivial⟩ hK (hP.sub [] rfl) rfl hl.1 rfl (Nat.le_of_ble_eq_true rfl) dX4_startWalk_10) rfl ?_
    refine lv_if_ne (tgt := 19) hx hb dX4_startWalk_13 (by decide) (fun c6 => ?_) (fun c6 => ?_)
    · have hf := g_ifF c6 hf
      refine lv_aload_n hx hb dX4_startWalk_19 rfl (lv_at hl 0 rfl) ?_
      refine lv_dup hx hb dX4_startWalk_20 rfl ?_
      refine va_get (D := G.1) (ci := 3) (v := .int wa) (C := RX4) (T := TX4) (N := 11) hx hb hts hX4 hown hK.1 hP 0 rfl rfl 8 (by decide) (hts _ tw_93) (fun _ h9 => h9) rfl dX4_startWalk_21 ?_
      refine lv_iconst (v := (1 : Int32)) hx hb dX4_startWalk_24 (by decide) ?_
      refine lv_iload_n hx hb dX4_startWalk_25 rfl (lv_at hl 1 rfl) ?_
      refine lv_ishl hx hb dX4_startWalk_26 ?_
      refine lv_ior hx hb dX4_startWalk_27 ?_
      refine va_put (D := G.1) (ci := 3) (v := .int (wa ||| ((1 : Int32) <<< (p0 &&& 31)))) (ty := .int) (C := RX4) (T := TX4) (N := 11) hx hb hts hX4 tyX4 tyX4_ok nmX4 hown hK.1 hP hD hS 0 rfl rfl 8 (by decide) (hts _ tw_93) (fun _ h9 => h9) rfl (by decide +kernel) rfl rfl (Nat.le_of_ble_eq_true rfl) dX4_startWalk_28 (fun H locs hP hD hS => ?_)
      have hP : va_P G.1 vwCl [((a 0), .inr (3, [.int ph, .int la, .int po, .int lo, .ref (a 1), .ref (a 4), .ref (a 7), .ref (a 11), .int (wa ||| ((1 : Int32) <<< (p0 &&& 31))), .ref (a 12), .ref (a 13)])), ((a 1), .inr (2, [.int 0, .ref (a 2), .ref (a 3)])), ((a 2), .inl (G.2.1, 31, .inl ov)), ((a 3), .inl (G.2.1, 31, .inl orr)), ((a 4), .inr (2, [.int 1, .ref (a 5), .ref (a 6)])), ((a 5), .inl (G.2.1, 31, .inl nv)), ((a 6), .inl (G.2.1, 31, .inl nr)), ((a 7), .inr (1, [.int ql, .ref (a 8), .ref (a 9), .ref (a 10)])), ((a 8), .inl (G.2.1, 8, .inl qk)), ((a 9), .inl (G.2.1, 8, .inl qv)), ((a 10), .inl (G.2.1, 8, .inl qr)), ((a 11), .inl (G.2.1, 31, .inl wr)), ((a 12), .inl (G.2.1, 3, .inl wc)), ((a 13), .inl (G.2.1, 3, .inl wk))] H := hP
      have hD : va_D (va_A (tabW G a ph la po lo ov orr nv nr ql qk qv qr wr wa wc wk) s.heap.size) [((a 0), .inr (3, [.int ph, .int la, .int po, .int lo, .ref (a 1), .ref (a 4), .ref (a 7), .ref (a 11), .int (wa ||| ((1 : Int32) <<< (p0 &&& 31))), .ref (a 12), .ref (a 13)])), ((a 1), .inr (2, [.int 0, .ref (a 2), .ref (a 3)])), ((a 2), .inl (G.2.1, 31, .inl ov)), ((a 3), .inl (G.2.1, 31, .inl orr)), ((a 4), .inr (2, [.int 1, .ref (a 5), .ref (a 6)])), ((a 5), .inl (G.2.1, 31, .inl nv)), ((a 6), .inl (G.2.1, 31, .inl nr)), ((a 7), .inr (1, [.int ql, .ref (a 8), .ref (a 9), .ref (a 10)])), ((a 8), .inl (G.2.1, 8, .inl qk)), ((a 9), .inl (G.2.1, 8, .inl qv)), ((a 10), .inl (G.2.1, 8, .inl qr)), ((a 11), .inl (G.2.1, 31, .inl wr)), ((a 12), .inl (G.2.1, 3, .inl wc)), ((a 13), .inl (G.2.1, 3, .inl wk))] := hD
      refine lv_aload_n hx hb dX4_startWalk_31 rfl (lv_at hl 0 rfl) ?_
      refine va_get (D := G.1) (ci := 3) (v := .ref (a 12)) (C := RX4) (T := TX4) (N := 11) hx hb hts hX4 hown hK.1 hP 0 rfl rfl 9 (by decide) (hts _ tw_95) (fun _ h9 => h9) rfl dX4_startWalk_32 ?_
      refine lv_iload_n hx hb dX4_startWalk_35 rfl (lv_at hl 1 rfl) ?_
      refine lv_iload_n hx hb dX4_startWalk_36 rfl (lv_at hl 2 rfl) ?_
      obtain ⟨g7, hf⟩ := g_gdS hf
      refine va_iast hx hb hK.1 hP hD hS 12 0 rfl rfl (g_in_vp g7) dX4_startWalk_37 (fun H locs hP hD hS => ?_)
      have hP : va_P G.1 vwCl [((a 0), .inr (3, [.int ph, .int la, .int po, .int lo, .ref (a 1), .ref (a 4), .ref (a 7), .ref (a 11), .int (wa ||| ((1 : Int32) <<< (p0 &&& 31))), .ref (a 12), .ref (a 13)])), ((a 1), .inr (2, [.int 0, .ref (a 2), .ref (a 3)])), ((a 2), .inl (G.2.1, 31, .inl ov)), ((a 3), .inl (G.2.1, 31, .inl orr)), ((a 4), .inr (2, [.int 1, .ref (a 5), .ref (a 6)])), ((a 5), .inl (G.2.1, 31, .inl nv)), ((a 6), .inl (G.2.1, 31, .inl nr)), ((a 7), .inr (1, [.int ql, .ref (a 8), .ref (a 9), .ref (a 10)])), ((a 8), .inl (G.2.1, 8, .inl qk)), ((a 9), .inl (G.2.1, 8, .inl qv)), ((a 10), .inl (G.2.1, 8, .inl qr)), ((a 11), .inl (G.2.1, 31, .inl wr)), ((a 12), .inl (G.2.1, 3, .inl (upd wc p0.toNatClampNeg p1))), ((a 13), .inl (G.2.1, 3, .inl wk))] H := hP
      have hD : va_D (va_A (tabW G a ph la po lo ov orr nv nr ql qk qv qr wr wa wc wk) s.heap.size) [((a 0), .inr (3, [.int ph, .int la, .int po, .int lo, .ref (a 1), .ref (a 4), .ref (a 7), .ref (a 11), .int (wa ||| ((1 : Int32) <<< (p0 &&& 31))), .ref (a 12), .ref (a 13)])), ((a 1), .inr (2, [.int 0, .ref (a 2), .ref (a 3)])), ((a 2), .inl (G.2.1, 31, .inl ov)), ((a 3), .inl (G.2.1, 31, .inl orr)), ((a 4), .inr (2, [.int 1, .ref (a 5), .ref (a 6)])), ((a 5), .inl (G.2.1, 31, .inl nv)), ((a 6), .inl (G.2.1, 31, .inl nr)), ((a 7), .inr (1, [.int ql, .ref (a 8), .ref (a 9), .ref (a 10)])), ((a 8), .inl (G.2.1, 8, .inl qk)), ((a 9), .inl (G.2.1, 8, .inl qv)), ((a 10), .inl (G.2.1, 8, .inl qr)), ((a 11), .inl (G.2.1, 31, .inl wr)), ((a 12), .inl (G.2.1, 3, .inl (upd wc p0.toNatClampNeg p1))), ((a 13), .inl (G.2.1, 3, .inl wk))] := hD
      refine lv_aload_n hx hb dX4_startWalk_38 rfl (lv_at hl 0 rfl) ?_
      refine va_get (D := G.1) (ci := 3) (v := .ref (a 13)) (C := RX4) (T := TX4) (N := 11) hx hb hts hX4 hown hK.1 hP 0 rfl rfl 10 (by decide) (hts _ tw_96) (fun _ h9 => h9) rfl dX4_startWalk_39 ?_
      refine lv_iload_n hx hb dX4_startWalk_42 rfl (lv_at hl 1 rfl) ?_
      refine lv_iconst (v := (-1 : Int32)) hx hb dX4_startWalk_43 (by decide) ?_
      obtain ⟨g8, hf⟩ := g_gdS hf
      refine va_iast hx hb hK.1 hP hD hS 13 0 rfl rfl (g_in_vp g8) dX4_startWalk_44 (fun H locs hP hD hS => ?_)
      have hP : va_P G.1 vwCl [((a 0), .inr (3, [.int ph, .int la, .int po, .int lo, .ref (a 1), .ref (a 4), .ref (a 7), .ref (a 11), .int (wa ||| ((1 : Int32) <<< (p0 &&& 31))), .ref (a 12), .ref (a 13)])), ((a 1), .inr (2, [.int 0, .ref (a 2), .ref (a 3)])), ((a 2), .inl (G.2.1, 31, .inl ov)), ((a 3), .inl (G.2.1, 31, .inl orr)), ((a 4), .inr (2, [.int 1, .ref (a 5), .ref (a 6)])), ((a 5), .inl (G.2.1, 31, .inl nv)), ((a 6), .inl (G.2.1, 31, .inl nr)), ((a 7), .inr (1, [.int ql, .ref (a 8), .ref (a 9), .ref (a 10)])), ((a 8), .inl (G.2.1, 8, .inl qk)), ((a 9), .inl (G.2.1, 8, .inl qv)), ((a 10), .inl (G.2.1, 8, .inl qr)), ((a 11), .inl (G.2.1, 31, .inl wr)), ((a 12), .inl (G.2.1, 3, .inl (upd wc p0.toNatClampNeg p1))), ((a 13), .inl (G.2.1, 3, .inl (upd wk p0.toNatClampNeg (-1 : Int32))))] H := hP
      have hD : va_D (va_A (tabW G a ph la po lo ov orr nv nr ql qk qv qr wr wa wc wk) s.heap.size) [((a 0), .inr (3, [.int ph, .int la, .int po, .int lo, .ref (a 1), .ref (a 4), .ref (a 7), .ref (a 11), .int (wa ||| ((1 : Int32) <<< (p0 &&& 31))), .ref (a 12), .ref (a 13)])), ((a 1), .inr (2, [.int 0, .ref (a 2), .ref (a 3)])), ((a 2), .inl (G.2.1, 31, .inl ov)), ((a 3), .inl (G.2.1, 31, .inl orr)), ((a 4), .inr (2, [.int 1, .ref (a 5), .ref (a 6)])), ((a 5), .inl (G.2.1, 31, .inl nv)), ((a 6), .inl (G.2.1, 31, .inl nr)), ((a 7), .inr (1, [.int ql, .ref (a 8), .ref (a 9), .ref (a 10)])), ((a 8), .inl (G.2.1, 8, .inl qk)), ((a 9), .inl (G.2.1, 8, .inl qv)), ((a 10), .inl (G.2.1, 8, .inl qr)), ((a 11), .inl (G.2.1, 31, .inl wr)), ((a 12), .inl (G.2.1, 3, .inl (upd wc p0.toNatClampNeg p1))), ((a 13), .inl (G.2.1, 3, .inl (upd wk p0.toNatClampNeg (-1 : Int32))))] := hD
      refine lv_aload_n hx hb dX4_startWalk_45 rfl (lv_at hl 0 rfl) ?_
      refine lv_iload_n hx hb dX4_startWalk_46 rfl (lv_at hl 2 rfl) ?_
      obtain ⟨r9, e10, hf⟩ := g_bdS hf
      refine g_contR (st1 := [.int r9]) (g_runVR (As := [.int p1]) (rest := []) ⟨hx, hb, hml, hown, hts⟩ (qX4_keysRead l G a e10) (cwV 1 hts (TB_V TB_id tw_193 tw_194 tw_195 tw_6 tw_196) rfl rfl rfl (by decide +kernel) ⟨Nat.le_of_ble_eq_true rfl, Nat.le_of_ble_eq_true rfl⟩) hK (hP.sub [0, 1, 2, 3, 4, 5, 6, 7, 8, 9, 10, 11, 12, 13] rfl) 0 rfl rfl rfl hl.1 rfl (Nat.le_of_ble_eq_true rfl) dX4_startWalk_47) rfl ?_
      obtain ⟨r11, e12, hf⟩ := g_bdS hf
      refine g_contR (st1 := [.int r11]) (g_runSR (As := [.int r9]) (rest := []) ⟨hx, hb, hml, hown, hts⟩ (qJ6_bitCount_0f7a4 l G e12) (va_cwS 1 hts (TB_S TB_id tw_228 tw_229 tw_13 tw_230) rfl rfl rfl (by decide +kernel) ⟨Nat.le_of_ble_eq_true rfl, Nat.le_of_ble_eq_true rfl⟩) hK (hP.sub [] rfl) rfl hl.1 rfl (Nat.le_of_ble_eq_true rfl) dX4_startWalk_50) rfl ?_
      cases hf
      exact g_iretC hx hb hr hlocks hP hD hS dX4_startWalk_53
    · have hf := g_ifT c6 hf
      refine lv_ldc (v := (-1000001 : Int32)) hx hb hown (hts _ tw_192) dX4_startWalk_16 ?_
      cases hf
      exact g_iretC hx hb hr hlocks hP hD hS dX4_startWalk_18
-- TwoShapes$Table.copyFrom(LTwoShapes$Table;)V
abbrev rmX4_copyFrom : Room := { frames := 2, cells := 0, slots := 0, locals := 61 }
def fX4_copyFrom (ph : Int32) (la : Int32) (po : Int32) (lo : Int32) (ov : Nat → Int32) (orr : Nat → Int32) (nv : Nat → Int32) (nr : Nat → Int32) (ql : Int32) (qk : Nat → Int32) (qv : Nat → Int32) (qr : Nat → Int32) (wr : Nat → Int32) (wa : Int32) (wc : Nat → Int32) (wk : Nat → Int32) (oph : Int32) (ola : Int32) (opo : Int32) (olo : Int32) (oov : Nat → Int32) (oorr : Nat → Int32) (onv : Nat → Int32) (onr : Nat → Int32) (oql : Int32) (oqk : Nat → Int32) (oqv : Nat → Int32) (oqr : Nat → Int32) (owr : Nat → Int32) (owa : Int32) (owc : Nat → Int32) (owk : Nat → Int32) : Option (Int32 × Int32 × Int32 × Int32 × (Nat → Int32) × (Nat → Int32) × (Nat → Int32) × (Nat → Int32) × Int32 × (Nat → Int32) × (Nat → Int32) × (Nat → Int32) × (Nat → Int32) × Int32 × (Nat → Int32) × (Nat → Int32)) := ((fX3_copyFrom 0 0 ov orr oov oorr).bind fun r1 => ((fX3_copyFrom 1 1 nv nr onv onr).bind fun r3 => ((fX1_copyFrom ql qk qv qr oql oqk oqv oqr).bind fun r5 => some (oph, ola, opo, olo, r1.1, r1.2, r3.1, r3.2, r5.1, r5.2.1, r5.2.2.1, r5.2.2.2, (va_cpy owr wr 0 0 31), owa, (va_cpy owc wc 0 0 3), (va_cpy owk wk 0 0 3)))))
set_option maxHeartbeats 4000000 in
set_option maxRecDepth 100000 in
theorem qX4_copyFrom (l : Launch) (G : gT) (a : Nat → Nat) (b : Nat → Nat) {ph : Int32} {la : Int32} {po : Int32} {lo : Int32} {ov : Nat → Int32} {orr : Nat → Int32} {nv : Nat → Int32} {nr : Nat → Int32} {ql : Int32} {qk : Nat → Int32} {qv : Nat → Int32} {qr : Nat → Int32} {wr : Nat → Int32} {wa : Int32} {wc : Nat → Int32} {wk : Nat → Int32} {oph : Int32} {ola : Int32} {opo : Int32} {olo : Int32} {oov : Nat → Int32} {oorr : Nat → Int32} {onv : Nat → Int32} {onr : Nat → Int32} {oql : Int32} {oqk : Nat → Int32} {oqv : Nat → Int32} {oqr : Nat → Int32} {owr : Nat → Int32} {owa : Int32} {owc : Nat → Int32} {owk : Nat → Int32} {u : Int32 × Int32 × Int32 × Int32 × (Nat → Int32) × (Nat → Int32) × (Nat → Int32) × (Nat → Int32) × Int32 × (Nat → Int32) × (Nat → Int32) × (Nat → Int32) × (Nat → Int32) × Int32 × (Nat → Int32) × (Nat → Int32)} (hf : fX4_copyFrom ph la po lo ov orr nv nr ql qk qv qr wr wa wc wk oph ola opo olo oov oorr onv onr oql oqk oqv oqr owr owa owc owk = some u) : gC l G yX4_copyFrom wsX4_copyFrom rmX4_copyFrom [.ref (a 0), .ref (b 0)] (tabW G a ph la po lo ov orr nv nr ql qk qv qr wr wa wc wk ++ tabW G b oph ola opo olo oov oorr onv onr oql oqk oqv oqr owr owa owc owk) none (tabW G a u.1 u.2.1 u.2.2.1 u.2.2.2.1 u.2.2.2.2.1 u.2.2.2.2.2.1 u.2.2.2.2.2.2.1 u.2.2.2.2.2.2.2.1 u.2.2.2.2.2.2.2.2.1 u.2.2.2.2.2.2.2.2.2.1 u.2.2.2.2.2.2.2.2.2.2.1 u.2.2.2.2.2.2.2.2.2.2.2.1 u.2.2.2.2.2.2.2.2.2.2.2.2.1 u.2.2.2.2.2.2.2.2.2.2.2.2.2.1 u.2.2.2.2.2.2.2.2.2.2.2.2.2.2.1 u.2.2.2.2.2.2.2.2.2.2.2.2.2.2.2 ++ tabW G b oph ola opo olo oov oorr onv onr oql oqk oqv oqr owr owa owc owk) := by
  refine gC.of (cc := cX4_copyFrom) (maxL := 2) (ret := none) (by decide) rfl (Nat.le_of_ble_eq_true rfl) ?_
  intro p e s m below meth c C0 hP hD hS ls hl
  obtain ⟨hx, hb, hr, hts, hown, hlocks, hml, hK⟩ := id C0
  have hl : lv_has ls 2 [(0, .ref (a 0)), (1, .ref (b 0))] := hl
  have hA : ∀ q : Nat, s.heap.size ≤ q → va_A (tabW G a ph la po lo ov orr nv nr ql qk qv qr wr wa wc wk ++ tabW G b oph ola opo olo oov oorr onv onr oql oqk oqv oqr owr owa owc owk) s.heap.size q := fun q h => Or.inr h
  have hP : va_P G.1 vwCl [((a 0), .inr (3, [.int ph, .int la, .int po, .int lo, .ref (a 1), .ref (a 4), .ref (a 7), .ref (a 11), .int wa, .ref (a 12), .ref (a 13)])), ((a 1), .inr (2, [.int 0, .ref (a 2), .ref (a 3)])), ((a 2), .inl (G.2.1, 31, .inl ov)), ((a 3), .inl (G.2.1, 31, .inl orr)), ((a 4), .inr (2, [.int 1, .ref (a 5), .ref (a 6)])), ((a 5), .inl (G.2.1, 31, .inl nv)), ((a 6), .inl (G.2.1, 31, .inl nr)), ((a 7), .inr (1, [.int ql, .ref (a 8), .ref (a 9), .ref (a 10)])), ((a 8), .inl (G.2.1, 8, .inl qk)), ((a 9), .inl (G.2.1, 8, .inl qv)), ((a 10), .inl (G.2.1, 8, .inl qr)), ((a 11), .inl (G.2.1, 31, .inl wr)), ((a 12), .inl (G.2.1, 3, .inl wc)), ((a 13), .inl (G.2.1, 3, .inl wk)), ((b 0), .inr (3, [.int oph, .int ola, .int opo, .int olo, .ref (b 1), .ref (b 4), .ref (b 7), .ref (b 11), .int owa, .ref (b 12), .ref (b 13)])), ((b 1), .inr (2, [.int 0, .ref (b 2), .ref (b 3)])), ((b 2), .inl (G.2.1, 31, .inl oov)), ((b 3), .inl (G.2.1, 31, .inl oorr)), ((b 4), .inr (2, [.int 1, .ref (b 5), .ref (b 6)])), ((b 5), .inl (G.2.1, 31, .inl onv)), ((b 6), .inl (G.2.1, 31, .inl onr)), ((b 7), .inr (1, [.int oql, .ref (b 8), .ref (b 9), .ref (b 10)])), ((b 8), .inl (G.2.1, 8, .inl oqk)), ((b 9), .inl (G.2.1, 8, .inl oqv)), ((b 10), .inl (G.2.1, 8, .inl oqr)), ((b 11), .inl (G.2.1, 31, .inl owr)), ((b 12), .inl (G.2.1, 3, .inl owc)), ((b 13), .inl (G.2.1, 3, .inl owk))] s.heap := hP
  have hD : va_D (va_A (tabW G a ph la po lo ov orr nv nr ql qk qv qr wr wa wc wk ++ tabW G b oph ola opo olo oov oorr onv onr oql oqk oqv oqr owr owa owc owk) s.heap.size) [((a 0), .inr (3, [.int ph, .int la, .int po, .int lo, .ref (a 1), .ref (a 4), .ref (a 7), .ref (a 11), .int wa, .ref (a 12), .ref (a 13)])), ((a 1), .inr (2, [.int 0, .ref (a 2), .ref (a 3)])), ((a 2), .inl (G.2.1, 31, .inl ov)), ((a 3), .inl (G.2.1, 31, .inl orr)), ((a 4), .inr (2, [.int 1, .ref (a 5), .ref (a 6)])), ((a 5), .inl (G.2.1, 31, .inl nv)), ((a 6), .inl (G.2.1, 31, .inl nr)), ((a 7), .inr (1, [.int ql, .ref (a 8), .ref (a 9), .ref (a 10)])), ((a 8), .inl (G.2.1, 8, .inl qk)), ((a 9), .inl (G.2.1, 8, .inl qv)), ((a 10), .inl (G.2.1, 8, .inl qr)), ((a 11), .inl (G.2.1, 31, .inl wr)), ((a 12), .inl (G.2.1, 3, .inl wc)), ((a 13), .inl (G.2.1, 3, .inl wk)), ((b 0), .inr (3, [.int oph, .int ola, .int opo, .int olo, .ref (b 1), .ref (b 4), .ref (b 7), .ref (b 11), .int owa, .ref (b 12), .ref (b 13)])), ((b 1), .inr (2, [.int 0, .ref (b 2), .ref (b 3)])), ((b 2), .inl (G.2.1, 31, .inl oov)), ((b 3), .inl (G.2.1, 31, .inl oorr)), ((b 4), .inr (2, [.int 1, .ref (b 5), .ref (b 6)])), ((b 5), .inl (G.2.1, 31, .inl onv)), ((b 6), .inl (G.2.1, 31, .inl onr)), ((b 7), .inr (1, [.int oql, .ref (b 8), .ref (b 9), .ref (b 10)])), ((b 8), .inl (G.2.1, 8, .inl oqk)), ((b 9), .inl (G.2.1, 8, .inl oqv)), ((b 10), .inl (G.2.1, 8, .inl oqr)), ((b 11), .inl (G.2.1, 31, .inl owr)), ((b 12), .inl (G.2.1, 3, .inl owc)), ((b 13), .inl (G.2.1, 3, .inl owk))] := hD
  unfold fX4_copyFrom at hf
  refine lv_aload_n hx hb dX4_copyFrom_0 rfl (lv_at hl 0 rfl) ?_
  refine lv_aload_n hx hb dX4_copyFrom_1 rfl (lv_at hl 1 rfl) ?_
  refine va_get (D := G.1) (ci := 3) (v := .int oph) (C := RX4) (T := TX4) (N := 11) hx hb hts hX4 hown hK.1 hP 14 rfl rfl 0 (by decide) (hts _ tw_78) (fun _ h9 => h9) rfl dX4_copyFrom_2 ?_
  refine va_put (D := G.1) (ci := 3) (v := .int oph) (ty := .int) (C := RX4) (T := TX4) (N := 11) hx hb hts hX4 tyX4 tyX4_ok nmX4 hown hK.1 hP hD hS 0 rfl rfl 0 (by decide) (hts _ tw_78) (fun _ h9 => h9) rfl (by decide +kernel) rfl rfl (Nat.le_of_ble_eq_true rfl) dX4_copyFrom_5 (fun H locs hP hD hS => ?_)
  have hP : va_P G.1 vwCl [((a 0), .inr (3, [.int oph, .int la, .int po, .int lo, .ref (a 1), .ref (a 4), .ref (a 7), .ref (a 11), .int wa, .ref (a 12), .ref (a 13)])), ((a 1), .inr (2, [.int 0, .ref (a 2), .ref (a 3)])), ((a 2), .inl (G.2.1, 31, .inl ov)), ((a 3), .inl (G.2.1, 31, .inl orr)), ((a 4), .inr (2, [.int 1, .ref (a 5), .ref (a 6)])), ((a 5), .inl (G.2.1, 31, .inl nv)), ((a 6), .inl (G.2.1, 31, .inl nr)), ((a 7), .inr (1, [.int ql, .ref (a 8), .ref (a 9), .ref (a 10)])), ((a 8), .inl (G.2.1, 8, .inl qk)), ((a 9), .inl (G.2.1, 8, .inl qv)), ((a 10), .inl (G.2.1, 8, .inl qr)), ((a 11), .inl (G.2.1, 31, .inl wr)), ((a 12), .inl (G.2.1, 3, .inl wc)), ((a 13), .inl (G.2.1, 3, .inl wk)), ((b 0), .inr (3, [.int oph, .int ola, .int opo, .int olo, .ref (b 1), .ref (b 4), .ref (b 7), .ref (b 11), .int owa, .ref (b 12), .ref (b 13)])), ((b 1), .inr (2, [.int 0, .ref (b 2), .ref (b 3)])), ((b 2), .inl (G.2.1, 31, .inl oov)), ((b 3), .inl (G.2.1, 31, .inl oorr)), ((b 4), .inr (2, [.int 1, .ref (b 5), .ref (b 6)])), ((b 5), .inl (G.2.1, 31, .inl onv)), ((b 6), .inl (G.2.1, 31, .inl onr)), ((b 7), .inr (1, [.int oql, .ref (b 8), .ref (b 9), .ref (b 10)])), ((b 8), .inl (G.2.1, 8, .inl oqk)), ((b 9), .inl (G.2.1, 8, .inl oqv)), ((b 10), .inl (G.2.1, 8, .inl oqr)), ((b 11), .inl (G.2.1, 31, .inl owr)), ((b 12), .inl (G.2.1, 3, .inl owc)), ((b 13), .inl (G.2.1, 3, .inl owk))] H := hP
  have hD : va_D (va_A (tabW G a ph la po lo ov orr nv nr ql qk qv qr wr wa wc wk ++ tabW G b oph ola opo olo oov oorr onv onr oql oqk oqv oqr owr owa owc owk) s.heap.size) [((a 0), .inr (3, [.int oph, .int la, .int po, .int lo, .ref (a 1), .ref (a 4), .ref (a 7), .ref (a 11), .int wa, .ref (a 12), .ref (a 13)])), ((a 1), .inr (2, [.int 0, .ref (a 2), .ref (a 3)])), ((a 2), .inl (G.2.1, 31, .inl ov)), ((a 3), .inl (G.2.1, 31, .inl orr)), ((a 4), .inr (2, [.int 1, .ref (a 5), .ref (a 6)])), ((a 5), .inl (G.2.1, 31, .inl nv)), ((a 6), .inl (G.2.1, 31, .inl nr)), ((a 7), .inr (1, [.int ql, .ref (a 8), .ref (a 9), .ref (a 10)])), ((a 8), .inl (G.2.1, 8, .inl qk)), ((a 9), .inl (G.2.1, 8, .inl qv)), ((a 10), .inl (G.2.1, 8, .inl qr)), ((a 11), .inl (G.2.1, 31, .inl wr)), ((a 12), .inl (G.2.1, 3, .inl wc)), ((a 13), .inl (G.2.1, 3, .inl wk)), ((b 0), .inr (3, [.int oph, .int ola, .int opo, .int olo, .ref (b 1), .ref (b 4), .ref (b 7), .ref (b 11), .int owa, .ref (b 12), .ref (b 13)])), ((b 1), .inr (2, [.int 0, .ref (b 2), .ref (b 3)])), ((b 2), .inl (G.2.1, 31, .inl oov)), ((b 3), .inl (G.2.1, 31, .inl oorr)), ((b 4), .inr (2, [.int 1, .ref (b 5), .ref (b 6)])), ((b 5), .inl (G.2.1, 31, .inl onv)), ((b 6), .inl (G.2.1, 31, .inl onr)), ((b 7), .inr (1, [.int oql, .ref (b 8), .ref (b 9), .ref (b 10)])), ((b 8), .inl (G.2.1, 8, .inl oqk)), ((b 9), .inl (G.2.1, 8, .inl oqv)), ((b 10), .inl (G.2.1, 8, .inl oqr)), ((b 11), .inl (G.2.1, 31, .inl owr)), ((b 12), .inl (G.2.1, 3, .inl owc)), ((b 13), .inl (G.2.1, 3, .inl owk))] := hD
  refine lv_aload_n hx hb dX4_copyFrom_8 rfl (lv_at hl 0 rfl) ?_
  refine lv_aload_n hx hb dX4_copyFrom_9 rfl (lv_at hl 1 rfl) ?_
  refine va_get (D := G.1) (ci := 3) (v := .int ola) (C := RX4) (T := TX4) (N := 11) hx hb hts hX4 hown hK.1 hP 14 rfl rfl 1 (by decide) (hts _ tw_80) (fun _ h9 => h9) rfl dX4_copyFrom_10 ?_
  refine va_put (D := G.1) (ci := 3) (v := .int ola) (ty := .int) (C := RX4) (T := TX4) (N := 11) hx hb hts hX4 tyX4 tyX4_ok nmX4 hown hK.1 hP hD hS 0 rfl rfl 1 (by decide) (hts _ tw_80) (fun _ h9 => h9) rfl (by decide +kernel) rfl rfl (Nat.le_of_ble_eq_true rfl) dX4_copyFrom_13 (fun H locs hP hD hS => ?_)
  have hP : va_P G.1 vwCl [((a 0), .inr (3, [.int oph, .int ola, .int po, .int lo, .ref (a 1), .ref (a 4), .ref (a 7), .ref (a 11), .int wa, .ref (a 12), .ref (a 13)])), ((a 1), .inr (2, [.int 0, .ref (a 2), .ref (a 3)])), ((a 2), .inl (G.2.1, 31, .inl ov)), ((a 3), .inl (G.2.1, 31, .inl orr)), ((a 4), .inr (2, [.int 1, .ref (a 5), .ref (a 6)])), ((a 5), .inl (G.2.1, 31, .inl nv)), ((a 6), .inl (G.2.1, 31, .inl nr)), ((a 7), .inr (1, [.int ql, .ref (a 8), .ref (a 9), .ref (a 10)])), ((a 8), .inl (G.2.1, 8, .inl qk)), ((a 9), .inl (G.2.1, 8, .inl qv)), ((a 10), .inl (G.2.1, 8, .inl qr)), ((a 11), .inl (G.2.1, 31, .inl wr)), ((a 12), .inl (G.2.1, 3, .inl wc)), ((a 13), .inl (G.2.1, 3, .inl wk)), ((b 0), .inr (3, [.int oph, .int ola, .int opo, .int olo, .ref (b 1), .ref (b 4), .ref (b 7), .ref (b 11), .int owa, .ref (b 12), .ref (b 13)])), ((b 1), .inr (2, [.int 0, .ref (b 2), .ref (b 3)])), ((b 2), .inl (G.2.1, 31, .inl oov)), ((b 3), .inl (G.2.1, 31, .inl oorr)), ((b 4), .inr (2, [.int 1, .ref (b 5), .ref (b 6)])), ((b 5), .inl (G.2.1, 31, .inl onv)), ((b 6), .inl (G.2.1, 31, .inl onr)), ((b 7), .inr (1, [.int oql, .ref (b 8), .ref (b 9), .ref (b 10)])), ((b 8), .inl (G.2.1, 8, .inl oqk)), ((b 9), .inl (G.2.1, 8, .inl oqv)), ((b 10), .inl (G.2.1, 8, .inl oqr)), ((b 11), .inl (G.2.1, 31, .inl owr)), ((b 12), .inl (G.2.1, 3, .inl owc)), ((b 13), .inl (G.2.1, 3, .inl owk))] H := hP
  have hD : va_D (va_A (tabW G a ph la po lo ov orr nv nr ql qk qv qr wr wa wc wk ++ tabW G b oph ola opo olo oov oorr onv onr oql oqk oqv oqr owr owa owc owk) s.heap.size) [((a 0), .inr (3, [.int oph, .int ola, .int po, .int lo, .ref (a 1), .ref (a 4), .ref (a 7), .ref (a 11), .int wa, .ref (a 12), .ref (a 13)])), ((a 1), .inr (2, [.int 0, .ref (a 2), .ref (a 3)])), ((a 2), .inl (G.2.1, 31, .inl ov)), ((a 3), .inl (G.2.1, 31, .inl orr)), ((a 4), .inr (2, [.int 1, .ref (a 5), .ref (a 6)])), ((a 5), .inl (G.2.1, 31, .inl nv)), ((a 6), .inl (G.2.1, 31, .inl nr)), ((a 7), .inr (1, [.int ql, .ref (a 8), .ref (a 9), .ref (a 10)])), ((a 8), .inl (G.2.1, 8, .inl qk)), ((a 9), .inl (G.2.1, 8, .inl qv)), ((a 10), .inl (G.2.1, 8, .inl qr)), ((a 11), .inl (G.2.1, 31, .inl wr)), ((a 12), .inl (G.2.1, 3, .inl wc)), ((a 13), .inl (G.2.1, 3, .inl wk)), ((b 0), .inr (3, [.int oph, .int ola, .int opo, .int olo, .ref (b 1), .ref (b 4), .ref (b 7), .ref (b 11), .int owa, .ref (b 12), .ref (b 13)])), ((b 1), .inr (2, [.int 0, .ref (b 2), .ref (b 3)])), ((b 2), .inl (G.2.1, 31, .inl oov)), ((b 3), .inl (G.2.1, 31, .inl oorr)), ((b 4), .inr (2, [.int 1, .ref (b 5), .ref (b 6)])), ((b 5), .inl (G.2.1, 31, .inl onv)), ((b 6), .inl (G.2.1, 31, .inl onr)), ((b 7), .inr (1, [.int oql, .ref (b 8), .ref (b 9), .ref (b 10)])), ((b 8), .inl (G.2.1, 8, .inl oqk)), ((b 9), .inl (G.2.1, 8, .inl oqv)), ((b 10), .inl (G.2.1, 8, .inl oqr)), ((b 11), .inl (G.2.1, 31, .inl owr)), ((b 12), .inl (G.2.1, 3, .inl owc)), ((b 13), .inl (G.2.1, 3, .inl owk))] := hD
  refine lv_aload_n hx hb dX4_copyFrom_16 rfl (lv_at hl 0 rfl) ?_
  refine lv_aload_n hx hb dX4_copyFrom_17 rfl (lv_at hl 1 rfl) ?_
  refine va_get (D := G.1) (ci := 3) (v := .int opo) (C := RX4) (T := TX4) (N := 11) hx hb hts hX4 hown hK.1 hP 14 rfl rfl 2 (by decide) (hts _ tw_82) (fun _ h9 => h9) rfl dX4_copyFrom_18 ?_
  refine va_put (D := G.1) (ci := 3) (v := .int opo) (ty := .int) (C := RX4) (T := TX4) (N := 11) hx hb hts hX4 tyX4 tyX4_ok nmX4 hown hK.1 hP hD hS 0 rfl rfl 2 (by decide) (hts _ tw_82) (fun _ h9 => h9) rfl (by decide +kernel) rfl rfl (Nat.le_of_ble_eq_true rfl) dX4_copyFrom_21 (fun H locs hP hD hS => ?_)
  have hP : va_P G.1 vwCl [((a 0), .inr (3, [.int oph, .int ola, .int opo, .int lo, .ref (a 1), .ref (a 4), .ref (a 7), .ref (a 11), .int wa, .ref (a 12), .ref (a 13)])), ((a 1), .inr (2, [.int 0, .ref (a 2), .ref (a 3)])), ((a 2), .inl (G.2.1, 31, .inl ov)), ((a 3), .inl (G.2.1, 31, .inl orr)), ((a 4), .inr (2, [.int 1, .ref (a 5), .ref (a 6)])), ((a 5), .inl (G.2.1, 31, .inl nv)), ((a 6), .inl (G.2.1, 31, .inl nr)), ((a 7), .inr (1, [.int ql, .ref (a 8), .ref (a 9), .ref (a 10)])), ((a 8), .inl (G.2.1, 8, .inl qk)), ((a 9), .inl (G.2.1, 8, .inl qv)), ((a 10), .inl (G.2.1, 8, .inl qr)), ((a 11), .inl (G.2.1, 31, .inl wr)), ((a 12), .inl (G.2.1, 3, .inl wc)), ((a 13), .inl (G.2.1, 3, .inl wk)), ((b 0), .inr (3, [.int oph, .int ola, .int opo, .int olo, .ref (b 1), .ref (b 4), .ref (b 7), .ref (b 11), .int owa, .ref (b 12), .ref (b 13)])), ((b 1), .inr (2, [.int 0, .ref (b 2), .ref (b 3)])), ((b 2), .inl (G.2.1, 31, .inl oov)), ((b 3), .inl (G.2.1, 31, .inl oorr)), ((b 4), .inr (2, [.int 1, .ref (b 5), .ref (b 6)])), ((b 5), .inl (G.2.1, 31, .inl onv)), ((b 6), .inl (G.2.1, 31, .inl onr)), ((b 7), .inr (1, [.int oql, .ref (b 8), .ref (b 9), .ref (b 10)])), ((b 8), .inl (G.2.1, 8, .inl oqk)), ((b 9), .inl (G.2.1, 8, .inl oqv)), ((b 10), .inl (G.2.1, 8, .inl oqr)), ((b 11), .inl (G.2.1, 31, .inl owr)), ((b 12), .inl (G.2.1, 3, .inl owc)), ((b 13), .inl (G.2.1, 3, .inl owk))] H := hP
  have hD : va_D (va_A (tabW G a ph la po lo ov orr nv nr ql qk qv qr wr wa wc wk ++ tabW G b oph ola opo olo oov oorr onv onr oql oqk oqv oqr owr owa owc owk) s.heap.size) [((a 0), .inr (3, [.int oph, .int ola, .int opo, .int lo, .ref (a 1), .ref (a 4), .ref (a 7), .ref (a 11), .int wa, .ref (a 12), .ref (a 13)])), ((a 1), .inr (2, [.int 0, .ref (a 2), .ref (a 3)])), ((a 2), .inl (G.2.1, 31, .inl ov)), ((a 3), .inl (G.2.1, 31, .inl orr)), ((a 4), .inr (2, [.int 1, .ref (a 5), .ref (a 6)])), ((a 5), .inl (G.2.1, 31, .inl nv)), ((a 6), .inl (G.2.1, 31, .inl nr)), ((a 7), .inr (1, [.int ql, .ref (a 8), .ref (a 9), .ref (a 10)])), ((a 8), .inl (G.2.1, 8, .inl qk)), ((a 9), .inl (G.2.1, 8, .inl qv)), ((a 10), .inl (G.2.1, 8, .inl qr)), ((a 11), .inl (G.2.1, 31, .inl wr)), ((a 12), .inl (G.2.1, 3, .inl wc)), ((a 13), .inl (G.2.1, 3, .inl wk)), ((b 0), .inr (3, [.int oph, .int ola, .int opo, .int olo, .ref (b 1), .ref (b 4), .ref (b 7), .ref (b 11), .int owa, .ref (b 12), .ref (b 13)])), ((b 1), .inr (2, [.int 0, .ref (b 2), .ref (b 3)])), ((b 2), .inl (G.2.1, 31, .inl oov)), ((b 3), .inl (G.2.1, 31, .inl oorr)), ((b 4), .inr (2, [.int 1, .ref (b 5), .ref (b 6)])), ((b 5), .inl (G.2.1, 31, .inl onv)), ((b 6), .inl (G.2.1, 31, .inl onr)), ((b 7), .inr (1, [.int oql, .ref (b 8), .ref (b 9), .ref (b 10)])), ((b 8), .inl (G.2.1, 8, .inl oqk)), ((b 9), .inl (G.2.1, 8, .inl oqv)), ((b 10), .inl (G.2.1, 8, .inl oqr)), ((b 11), .inl (G.2.1, 31, .inl owr)), ((b 12), .inl (G.2.1, 3, .inl owc)), ((b 13), .inl (G.2.1, 3, .inl owk))] := hD
  refine lv_aload_n hx hb dX4_copyFrom_24 rfl (lv_at hl 0 rfl) ?_
  refine lv_aload_n hx hb dX4_copyFrom_25 rfl (lv_at hl 1 rfl) ?_
  refine va_get (D := G.1) (ci := 3) (v := .int olo) (C := RX4) (T := TX4) (N := 11) hx hb hts hX4 hown hK.1 hP 14 rfl rfl 3 (by decide) (hts _ tw_84) (fun _ h9 => h9) rfl dX4_copyFrom_26 ?_
  refine va_put (D := G.1) (ci := 3) (v := .int olo) (ty := .int) (C := RX4) (T := TX4) (N := 11) hx hb hts hX4 tyX4 tyX4_ok nmX4 hown hK.1 hP hD hS 0 rfl rfl 3 (by decide) (hts _ tw_84) (fun _ h9 => h9) rfl (by decide +kernel) rfl rfl (Nat.le_of_ble_eq_true rfl) dX4_copyFrom_29 (fun H locs hP hD hS => ?_)
  have hP : va_P G.1 vwCl [((a 0), .inr (3, [.int oph, .int ola, .int opo, .int olo, .ref (a 1), .ref (a 4), .ref (a 7), .ref (a 11), .int wa, .ref (a 12), .ref (a 13)])), ((a 1), .inr (2, [.int 0, .ref (a 2), .ref (a 3)])), ((a 2), .inl (G.2.1, 31, .inl ov)), ((a 3), .inl (G.2.1, 31, .inl orr)), ((a 4), .inr (2, [.int 1, .ref (a 5), .ref (a 6)])), ((a 5), .inl (G.2.1, 31, .inl nv)), ((a 6), .inl (G.2.1, 31, .inl nr)), ((a 7), .inr (1, [.int ql, .ref (a 8), .ref (a 9), .ref (a 10)])), ((a 8), .inl (G.2.1, 8, .inl qk)), ((a 9), .inl (G.2.1, 8, .inl qv)), ((a 10), .inl (G.2.1, 8, .inl qr)), ((a 11), .inl (G.2.1, 31, .inl wr)), ((a 12), .inl (G.2.1, 3, .inl wc)), ((a 13), .inl (G.2.1, 3, .inl wk)), ((b 0), .inr (3, [.int oph, .int ola, .int opo, .int olo, .ref (b 1), .ref (b 4), .ref (b 7), .ref (b 11), .int owa, .ref (b 12), .ref (b 13)])), ((b 1), .inr (2, [.int 0, .ref (b 2), .ref (b 3)])), ((b 2), .inl (G.2.1, 31, .inl oov)), ((b 3), .inl (G.2.1, 31, .inl oorr)), ((b 4), .inr (2, [.int 1, .ref (b 5), .ref (b 6)])), ((b 5), .inl (G.2.1, 31, .inl onv)), ((b 6), .inl (G.2.1, 31, .inl onr)), ((b 7), .inr (1, [.int oql, .ref (b 8), .ref (b 9), .ref (b 10)])), ((b 8), .inl (G.2.1, 8, .inl oqk)), ((b 9), .inl (G.2.1, 8, .inl oqv)), ((b 10), .inl (G.2.1, 8, .inl oqr)), ((b 11), .inl (G.2.1, 31, .inl owr)), ((b 12), .inl (G.2.1, 3, .inl owc)), ((b 13), .inl (G.2.1, 3, .inl owk))] H := hP
  have hD : va_D (va_A (tabW G a ph la po lo ov orr nv nr ql qk qv qr wr wa wc wk ++ tabW G b oph ola opo olo oov oorr onv onr oql oqk oqv oqr owr owa owc owk) s.heap.size) [((a 0), .inr (3, [.int oph, .int ola, .int opo, .int olo, .ref (a 1), .ref (a 4), .ref (a 7), .ref (a 11), .int wa, .ref (a 12), .ref (a 13)])), ((a 1), .inr (2, [.int 0, .ref (a 2), .ref (a 3)])), ((a 2), .inl (G.2.1, 31, .inl ov)), ((a 3), .inl (G.2.1, 31, .inl orr)), ((a 4), .inr (2, [.int 1, .ref (a 5), .ref (a 6)])), ((a 5), .inl (G.2.1, 31, .inl nv)), ((a 6), .inl (G.2.1, 31, .inl nr)), ((a 7), .inr (1, [.int ql, .ref (a 8), .ref (a 9), .ref (a 10)])), ((a 8), .inl (G.2.1, 8, .inl qk)), ((a 9), .inl (G.2.1, 8, .inl qv)), ((a 10), .inl (G.2.1, 8, .inl qr)), ((a 11), .inl (G.2.1, 31, .inl wr)), ((a 12), .inl (G.2.1, 3, .inl wc)), ((a 13), .inl (G.2.1, 3, .inl wk)), ((b 0), .inr (3, [.int oph, .int ola, .int opo, .int olo, .ref (b 1), .ref (b 4), .ref (b 7), .ref (b 11), .int owa, .ref (b 12), .ref (b 13)])), ((b 1), .inr (2, [.int 0, .ref (b 2), .ref (b 3)])), ((b 2), .inl (G.2.1, 31, .inl oov)), ((b 3), .inl (G.2.1, 31, .inl oorr)), ((b 4), .inr (2, [.int 1, .ref (b 5), .ref (b 6)])), ((b 5), .inl (G.2.1, 31, .inl onv)), ((b 6), .inl (G.2.1, 31, .inl onr)), ((b 7), .inr (1, [.int oql, .ref (b 8), .ref (b 9), .ref (b 10)])), ((b 8), .inl (G.2.1, 8, .inl oqk)), ((b 9), .inl (G.2.1, 8, .inl oqv)), ((b 10), .inl (G.2.1, 8, .inl oqr)), ((b 11), .inl (G.2.1, 31, .inl owr)), ((b 12), .inl (G.2.1, 3, .inl owc)), ((b 13), .inl (G.2.1, 3, .inl owk))] := hD
  refine lv_aload_n hx hb dX4_copyFrom_32 rfl (lv_at hl 0 rfl) ?_
  refine va_get (D := G.1) (ci := 3) (v := .ref (a 1)) (C := RX4) (T := TX4) (N := 11) hx hb hts hX4 hown hK.1 hP 0 rfl rfl 4 (by decide) (hts _ tw_86) (fun _ h9 => h9) rfl dX4_copyFrom_33 ?_
  refine lv_aload_n hx hb dX4_copyFrom_36 rfl (lv_at hl 1 rfl) ?_
  refine va_get (D := G.1) (ci := 3) (v := .ref (b 1)) (C := RX4) (T := TX4) (N := 11) hx hb hts hX4 hown hK.1 hP 14 rfl rfl 4 (by decide) (hts _ tw_86) (fun _ h9 => h9) rfl dX4_copyFrom_37 ?_
  obtain ⟨r1, e2, hf⟩ := g_bdS hf
  refine g_contC (st1 := []) (g_runVC (As := [.ref (b 1)]) (rest := []) ⟨hx, hb, hml, hown, hts⟩ (qX3_copyFrom l G (a 1) (a 2) (a 3) (b 1) (b 2) (b 3) e2) (cwV 1 hts (TB_V TB_id tw_172 tw_173 tw_174 tw_7 tw_175) rfl rfl rfl (by decide +kernel) ⟨Nat.le_of_ble_eq_true rfl, Nat.le_of_ble_eq_true rfl⟩) hK (hP.sub [1, 2, 3, 15, 16, 17] rfl) (hD.sub [1, 2, 3, 15, 16, 17] (by decide) rfl) 0 rfl rfl rfl hl.1 rfl (Nat.le_of_ble_eq_true rfl) dX4_copyFrom_40) rfl hP hD hS hA [1, 2, 3, 15, 16, 17] rfl rfl (fun H locs hP hD hS => ?_)
  have hP : va_P G.1 vwCl [((a 0), .inr (3, [.int oph, .int ola, .int opo, .int olo, .ref (a 1), .ref (a 4), .ref (a 7), .ref (a 11), .int wa, .ref (a 12), .ref (a 13)])), ((a 1), .inr (2, [.int 0, .ref (a 2), .ref (a 3)])), ((a 2), .inl (G.2.1, 31, .inl r1.1)), ((a 3), .inl (G.2.1, 31, .inl r1.2)), ((a 4), .inr (2, [.int 1, .ref (a 5), .ref (a 6)])), ((a 5), .inl (G.2.1, 31, .inl nv)), ((a 6), .inl (G.2.1, 31, .inl nr)), ((a 7), .inr (1, [.int ql, .ref (a 8), .ref (a 9), .ref (a 10)])), ((a 8), .inl (G.2.1, 8, .inl qk)), ((a 9), .inl (G.2.1, 8, .inl qv)), ((a 10), .inl (G.2.1, 8, .inl qr)), ((a 11), .inl (G.2.1, 31, .inl wr)), ((a 12), .inl (G.2.1, 3, .inl wc)), ((a 13), .inl (G.2.1, 3, .inl wk)), ((b 0), .inr (3, [.int oph, .int ola, .int opo, .int olo, .ref (b 1), .ref (b 4), .ref (b 7), .ref (b 11), .int owa, .ref (b 12), .ref (b 13)])), ((b 1), .inr (2, [.int 0, .ref (b 2), .ref (b 3)])), ((b 2), .inl (G.2.1, 31, .inl oov)), ((b 3), .inl (G.2.1, 31, .inl oorr)), ((b 4), .inr (2, [.int 1, .ref (b 5), .ref (b 6)])), ((b 5), .inl (G.2.1, 31, .inl onv)), ((b 6), .inl (G.2.1, 31, .inl onr)), ((b 7), .inr (1, [.int oql, .ref (b 8), .ref (b 9), .ref (b 10)])), ((b 8), .inl (G.2.1, 8, .inl oqk)), ((b 9), .inl (G.2.1, 8, .inl oqv)), ((b 10), .inl (G.2.1, 8, .inl oqr)), ((b 11), .inl (G.2.1, 31, .inl owr)), ((b 12), .inl (G.2.1, 3, .inl owc)), ((b 13), .inl (G.2.1, 3, .inl owk))] H := hP
  have hD : va_D (va_A (tabW G a ph la po lo ov orr nv nr ql qk qv qr wr wa wc wk ++ tabW G b oph ola opo olo oov oorr onv onr oql oqk oqv oqr owr owa owc owk) s.heap.size) [((a 0), .inr (3, [.int oph, .int ola, .int opo, .int olo, .ref (a 1), .ref (a 4), .ref (a 7), .ref (a 11), .int wa, .ref (a 12), .ref (a 13)])), ((a 1), .inr (2, [.int 0, .ref (a 2), .ref (a 3)])), ((a 2), .inl (G.2.1, 31, .inl r1.1)), ((a 3), .inl (G.2.1, 31, .inl r1.2)), ((a 4), .inr (2, [.int 1, .ref (a 5), .ref (a 6)])), ((a 5), .inl (G.2.1, 31, .inl nv)), ((a 6), .inl (G.2.1, 31, .inl nr)), ((a 7), .inr (1, [.int ql, .ref (a 8), .ref (a 9), .ref (a 10)])), ((a 8), .inl (G.2.1, 8, .inl qk)), ((a 9), .inl (G.2.1, 8, .inl qv)), ((a 10), .inl (G.2.1, 8, .inl qr)), ((a 11), .inl (G.2.1, 31, .inl wr)), ((a 12), .inl (G.2.1, 3, .inl wc)), ((a 13), .inl (G.2.1, 3, .inl wk)), ((b 0), .inr (3, [.int oph, .int ola, .int opo, .int olo, .ref (b 1), .ref (b 4), .ref (b 7), .ref (b 11), .int owa, .ref (b 12), .ref (b 13)])), ((b 1), .inr (2, [.int 0, .ref (b 2), .ref (b 3)])), ((b 2), .inl (G.2.1, 31, .inl oov)), ((b 3), .inl (G.2.1, 31, .inl oorr)), ((b 4), .inr (2, [.int 1, .ref (b 5), .ref (b 6)])), ((b 5), .inl (G.2.1, 31, .inl onv)), ((b 6), .inl (G.2.1, 31, .inl onr)), ((b 7), .inr (1, [.int oql, .ref (b 8), .ref (b 9), .ref (b 10)])), ((b 8), .inl (G.2.1, 8, .inl oqk)), ((b 9), .inl (G.2.1, 8, .inl oqv)), ((b 10), .inl (G.2.1, 8, .inl oqr)), ((b 11), .inl (G.2.1, 31, .inl owr)), ((b 12), .inl (G.2.1, 3, .inl owc)), ((b 13), .inl (G.2.1, 3, .inl owk))] := hD
  refine lv_aload_n hx hb dX4_copyFrom_43 rfl (lv_at hl 0 rfl) ?_
  refine va_get (D := G.1) (ci := 3) (v := .ref (a 4)) (C := RX4) (T := TX4) (N := 11) hx hb hts hX4 hown hK.1 hP 0 rfl rfl 5 (by decide) (hts _ tw_88) (fun _ h9 => h9) rfl dX4_copyFrom_44 ?_
  refine lv_aload_n hx hb dX4_copyFrom_47 rfl (lv_at hl 1 rfl) ?_
  refine va_get (D := G.1) (ci := 3) (v := .ref (b 4)) (C := RX4) (T := TX4) (N := 11) hx hb hts hX4 hown hK.1 hP 14 rfl rfl 5 (by decide) (hts _ tw_88) (fun _ h9 => h9) rfl dX4_copyFrom_48 ?_
  obtain ⟨r3, e4, hf⟩ := g_bdS hf
  refine g_contC (st1 := []) (g_runVC (As := [.ref (b 4)]) (rest := []) ⟨hx, hb, hml, hown, hts⟩ (qX3_copyFrom l G (a 4) (a 5) (a 6) (b 4) (b 5) (b 6) e4) (cwV 1 hts (TB_V TB_id tw_172 tw_173 tw_174 tw_7 tw_175) rfl rfl rfl (by decide +kernel) ⟨Nat.le_of_ble_eq_true rfl, Nat.le_of_ble_eq_true rfl⟩) hK (hP.sub [4, 5, 6, 18, 19, 20] rfl) (hD.sub [4, 5, 6, 18, 19, 20] (by decide) rfl) 0 rfl rfl rfl hl.1 rfl (Nat.le_of_ble_eq_true rfl) dX4_copyFrom_51) rfl hP hD hS hA [4, 5, 6, 18, 19, 20] rfl rfl (fun H locs hP hD hS => ?_)
  have hP : va_P G.1 vwCl [((a 0), .inr (3, [.int oph, .int ola, .int opo, .int olo, .ref (a 1), .ref (a 4), .ref (a 7), .ref (a 11), .int wa, .ref (a 12), .ref (a 13)])), ((a 1), .inr (2, [.int 0, .ref (a 2), .ref (a 3)])), ((a 2), .inl (G.2.1, 31, .inl r1.1)), ((a 3), .inl (G.2.1, 31, .inl r1.2)), ((a 4), .inr (2, [.int 1, .ref (a 5), .ref (a 6)])), ((a 5), .inl (G.2.1, 31, .inl r3.1)), ((a 6), .inl (G.2.1, 31, .inl r3.2)), ((a 7), .inr (1, [.int ql, .ref (a 8), .ref (a 9), .ref (a 10)])), ((a 8), .inl (G.2.1, 8, .inl qk)), ((a 9), .inl (G.2.1, 8, .inl qv)), ((a 10), .inl (G.2.1, 8, .inl qr)), ((a 11), .inl (G.2.1, 31, .inl wr)), ((a 12), .inl (G.2.1, 3, .inl wc)), ((a 13), .inl (G.2.1, 3, .inl wk)), ((b 0), .inr (3, [.int oph, .int ola, .int opo, .int olo, .ref (b 1), .ref (b 4), .ref (b 7), .ref (b 11), .int owa, .ref (b 12), .ref (b 13)])), ((b 1), .inr (2, [.int 0, .ref (b 2), .ref (b 3)])), ((b 2), .inl (G.2.1, 31, .inl oov)), ((b 3), .inl (G.2.1, 31, .inl oorr)), ((b 4), .inr (2, [.int 1, .ref (b 5), .ref (b 6)])), ((b 5), .inl (G.2.1, 31, .inl onv)), ((b 6), .inl (G.2.1, 31, .inl onr)), ((b 7), .inr (1, [.int oql, .ref (b 8), .ref (b 9), .ref (b 10)])), ((b 8), .inl (G.2.1, 8, .inl oqk)), ((b 9), .inl (G.2.1, 8, .inl oqv)), ((b 10), .inl (G.2.1, 8, .inl oqr)), ((b 11), .inl (G.2.1, 31, .inl owr)), ((b 12), .inl (G.2.1, 3, .inl owc)), ((b 13), .inl (G.2.1, 3, .inl owk))] H := hP
  have hD : va_D (va_A (tabW G a ph la po lo ov orr nv nr ql qk qv qr wr wa wc wk ++ tabW G b oph ola opo olo oov oorr onv onr oql oqk oqv oqr owr owa owc owk) s.heap.size) [((a 0), .inr (3, [.int oph, .int ola, .int opo, .int olo, .ref (a 1), .ref (a 4), .ref (a 7), .ref (a 11), .int wa, .ref (a 12), .ref (a 13)])), ((a 1), .inr (2, [.int 0, .ref (a 2), .ref (a 3)])), ((a 2), .inl (G.2.1, 31, .inl r1.1)), ((a 3), .inl (G.2.1, 31, .inl r1.2)), ((a 4), .inr (2, [.int 1, .ref (a 5), .ref (a 6)])), ((a 5), .inl (G.2.1, 31, .inl r3.1)), ((a 6), .inl (G.2.1, 31, .inl r3.2)), ((a 7), .inr (1, [.int ql, .ref (a 8), .ref (a 9), .ref (a 10)])), ((a 8), .inl (G.2.1, 8, .inl qk)), ((a 9), .inl (G.2.1, 8, .inl qv)), ((a 10), .inl (G.2.1, 8, .inl qr)), ((a 11), .inl (G.2.1, 31, .inl wr)), ((a 12), .inl (G.2.1, 3, .inl wc)), ((a 13), .inl (G.2.1, 3, .inl wk)), ((b 0), .inr (3, [.int oph, .int ola, .int opo, .int olo, .ref (b 1), .ref (b 4), .ref (b 7), .ref (b 11), .int owa, .ref (b 12), .ref (b 13)])), ((b 1), .inr (2, [.int 0, .ref (b 2), .ref (b 3)])), ((b 2), .inl (G.2.1, 31, .inl oov)), ((b 3), .inl (G.2.1, 31, .inl oorr)), ((b 4), .inr (2, [.int 1, .ref (b 5), .ref (b 6)])), ((b 5), .inl (G.2.1, 31, .inl onv)), ((b 6), .inl (G.2.1, 31, .inl onr)), ((b 7), .inr (1, [.int oql, .ref (b 8), .ref (b 9), .ref (b 10)])), ((b 8), .inl (G.2.1, 8, .inl oqk)), ((b 9), .inl (G.2.1, 8, .inl oqv)), ((b 10), .inl (G.2.1, 8, .inl oqr)), ((b 11), .inl (G.2.1, 31, .inl owr)), ((b 12), .inl (G.2.1, 3, .inl owc)), ((b 13), .inl (G.2.1, 3, .inl owk))] := hD
  refine lv_aload_n hx hb dX4_copyFrom_54 rfl (lv_at hl 0 rfl) ?_
  refine va_get (D := G.1) (ci := 3) (v := .ref (a 7)) (C := RX4) (T := TX4) (N := 11) hx hb hts hX4 hown hK.1 hP 0 rfl rfl 6 (by decide) (hts _ tw_90) (fun _ h9 => h9) rfl dX4_copyFrom_55 ?_
  refine lv_aload_n hx hb dX4_copyFrom_58 rfl (lv_at hl 1 rfl) ?_
  refine va_get (D := G.1) (ci := 3) (v := .ref (b 7)) (C := RX4) (T := TX4) (N := 11) hx hb hts hX4 hown hK.1 hP 14 rfl rfl 6 (by decide) (hts _ tw_90) (fun _ h9 => h9) rfl dX4_copyFrom_59 ?_
  obtain ⟨r5, e6, hf⟩ := g_bdS hf
  refine g_contC (st1 := []) (g_runVC (As := [.ref (b 7)]) (rest := []) ⟨hx, hb, hml, hown, hts⟩ (qX1_copyFrom l G (a 7) (a 8) (a 9) (a 10) (b 7) (b 8) (b 9) (b 10) e6) (cwV 1 hts (TB_V TB_id tw_179 tw_180 tw_181 tw_8 tw_182) rfl rfl rfl (by decide +kernel) ⟨Nat.le_of_ble_eq_true rfl, Nat.le_of_ble_eq_true rfl⟩) hK (hP.sub [7, 8, 9, 10, 21, 22, 23, 24] rfl) (hD.sub [7, 8, 9, 10, 21, 22, 23, 24] (by decide) rfl) 0 rfl rfl rfl hl.1 rfl (Nat.le_of_ble_eq_true rfl) dX4_copyFrom_62) rfl hP hD hS hA [7, 8, 9, 10, 21, 22, 23, 24] rfl rfl (fun H locs hP hD hS => ?_)
  have hP : va_P G.1 vwCl [((a 0), .inr (3, [.int oph, .int ola, .int opo, .int olo, .ref (a 1), .ref (a 4), .ref (a 7), .ref (a 11), .int wa, .ref (a 12), .ref (a 13)])), ((a 1), .inr (2, [.int 0, .ref (a 2), .ref (a 3)])), ((a 2), .inl (G.2.1, 31, .inl r1.1)), ((a 3), .inl (G.2.1, 31, .inl r1.2)), ((a 4), .inr (2, [.int 1, .ref (a 5), .ref (a 6)])), ((a 5), .inl (G.2.1, 31, .inl r3.1)), ((a 6), .inl (G.2.1, 31, .inl r3.2)), ((a 7), .inr (1, [.int r5.1, .ref (a 8), .ref (a 9), .ref (a 10)])), ((a 8), .inl (G.2.1, 8, .inl r5.2.1)), ((a 9), .inl (G.2.1, 8, .inl r5.2.2.1)), ((a 10), .inl (G.2.1, 8, .inl r5.2.2.2)), ((a 11), .inl (G.2.1, 31, .inl wr)), ((a 12), .inl (G.2.1, 3, .inl wc)), ((a 13), .inl (G.2.1, 3, .inl wk)), ((b 0), .inr (3, [.int oph, .int ola, .int opo, .int olo, .ref (b 1), .ref (b 4), .ref (b 7), .ref (b 11), .int owa, .ref (b 12), .ref (b 13)])), ((b 1), .inr (2, [.int 0, .ref (b 2), .ref (b 3)])), ((b 2), .inl (G.2.1, 31, .inl oov)), ((b 3), .inl (G.2.1, 31, .inl oorr)), ((b 4), .inr (2, [.int 1, .ref (b 5), .ref (b 6)])), ((b 5), .inl (G.2.1, 31, .inl onv)), ((b 6), .inl (G.2.1, 31, .inl onr)), ((b 7), .inr (1, [.int oql, .ref (b 8), .ref (b 9), .ref (b 10)])), ((b 8), .inl (G.2.1, 8, .inl oqk)), ((b 9), .inl (G.2.1, 8, .inl oqv)), ((b 10), .inl (G.2.1, 8, .inl oqr)), ((b 11), .inl (G.2.1, 31, .inl owr)), ((b 12), .inl (G.2.1, 3, .inl owc)), ((b 13), .inl (G.2.1, 3, .inl owk))] H := hP
  have hD : va_D (va_A (tabW G a ph la po lo ov orr nv nr ql qk qv qr wr wa wc wk ++ tabW G b oph ola opo olo oov oorr onv onr oql oqk oqv oqr owr owa owc owk) s.heap.size) [((a 0), .inr (3, [.int oph, .int ola, .int opo, .int olo, .ref (a 1), .ref (a 4), .ref (a 7), .ref (a 11), .int wa, .ref (a 12), .ref (a 13)])), ((a 1), .inr (2, [.int 0, .ref (a 2), .ref (a 3)])), ((a 2), .inl (G.2.1, 31, .inl r1.1)), ((a 3), .inl (G.2.1, 31, .inl r1.2)), ((a 4), .inr (2, [.int 1, .ref (a 5), .ref (a 6)])), ((a 5), .inl (G.2.1, 31, .inl r3.1)), ((a 6), .inl (G.2.1, 31, .inl r3.2)), ((a 7), .inr (1, [.int r5.1, .ref (a 8), .ref (a 9), .ref (a 10)])), ((a 8), .inl (G.2.1, 8, .inl r5.2.1)), ((a 9), .inl (G.2.1, 8, .inl r5.2.2.1)), ((a 10), .inl (G.2.1, 8, .inl r5.2.2.2)), ((a 11), .inl (G.2.1, 31, .inl wr)), ((a 12), .inl (G.2.1, 3, .inl wc)), ((a 13), .inl (G.2.1, 3, .inl wk)), ((b 0), .inr (3, [.int oph, .int ola, .int opo, .int olo, .ref (b 1), .ref (b 4), .ref (b 7), .ref (b 11), .int owa, .ref (b 12), .ref (b 13)])), ((b 1), .inr (2, [.int 0, .ref (b 2), .ref (b 3)])), ((b 2), .inl (G.2.1, 31, .inl oov)), ((b 3), .inl (G.2.1, 31, .inl oorr)), ((b 4), .inr (2, [.int 1, .ref (b 5), .ref (b 6)])), ((b 5), .inl (G.2.1, 31, .inl onv)), ((b 6), .inl (G.2.1, 31, .inl onr)), ((b 7), .inr (1, [.int oql, .ref (b 8), .ref (b 9), .ref (b 10)])), ((b 8), .inl (G.2.1, 8, .inl oqk)), ((b 9), .inl (G.2.1, 8, .inl oqv)), ((b 10), .inl (G.2.1, 8, .inl oqr)), ((b 11), .inl (G.2.1, 31, .inl owr)), ((b 12), .inl (G.2.1, 3, .inl owc)), ((b 13), .inl (G.2.1, 3, .inl owk))] := hD
  refine lv_aload_n hx hb dX4_copyFrom_65 rfl (lv_at hl 1 rfl) ?_
  refine va_get (D := G.1) (ci := 3) (v := .ref (b 11)) (C := RX4) (T := TX4) (N := 11) hx hb hts hX4 hown hK.1 hP 14 rfl rfl 7 (by decide) (hts _ tw_92) (fun _ h9 => h9) rfl dX4_copyFrom_66 ?_
  refine lv_iconst (v := (0 : Int32)) hx hb dX4_copyFrom_69 (by decide) ?_
  refine lv_aload_n hx hb dX4_copyFrom_70 rfl (lv_at hl 0 rfl) ?_
  refine va_get (D := G.1) (ci := 3) (v := .ref (a 11)) (C := RX4) (T := TX4) (N := 11) hx hb hts hX4 hown hK.1 hP 0 rfl rfl 7 (by decide) (hts _ tw_92) (fun _ h9 => h9) rfl dX4_copyFrom_71 ?_
  refine lv_iconst (v := (0 : Int32)) hx hb dX4_copyFrom_74 (by decide) ?_
  refine lv_bipush (v := (31 : Int32)) hx hb dX4_copyFrom_75 (by decide) ?_
  refine va_copyi hx hb (by rw [hml]; exact hl.1.symm) hown (hts _ tw_184) (hts _ tw_178) (hts _ tw_177) (hts _ tw_11) hK.1 hP hD hS 25 11 0 0 (ty := .int) rfl rfl rfl rfl rfl (by decide) (by decide) (by decide) (by decide) (by decide) (fun _ _ => rfl) (by decide) (by decide) dX4_copyFrom_77 (fun H locs hP hD hS => ?_)
  have hP : va_P G.1 vwCl [((a 0), .inr (3, [.int oph, .int ola, .int opo, .int olo, .ref (a 1), .ref (a 4), .ref (a 7), .ref (a 11), .int wa, .ref (a 12), .ref (a 13)])), ((a 1), .inr (2, [.int 0, .ref (a 2), .ref (a 3)])), ((a 2), .inl (G.2.1, 31, .inl r1.1)), ((a 3), .inl (G.2.1, 31, .inl r1.2)), ((a 4), .inr (2, [.int 1, .ref (a 5), .ref (a 6)])), ((a 5), .inl (G.2.1, 31, .inl r3.1)), ((a 6), .inl (G.2.1, 31, .inl r3.2)), ((a 7), .inr (1, [.int r5.1, .ref (a 8), .ref (a 9), .ref (a 10)])), ((a 8), .inl (G.2.1, 8, .inl r5.2.1)), ((a 9), .inl (G.2.1, 8, .inl r5.2.2.1)), ((a 10), .inl (G.2.1, 8, .inl r5.2.2.2)), ((a 11), .inl (G.2.1, 31, .inl (va_cpy owr wr 0 0 31))), ((a 12), .inl (G.2.1, 3, .inl wc)), ((a 13), .inl (G.2.1, 3, .inl wk)), ((b 0), .inr (3, [.int oph, .int ola, .int opo, .int olo, .ref (b 1), .ref (b 4), .ref (b 7), .ref (b 11), .int owa, .ref (b 12), .ref (b 13)])), ((b 1), .inr (2, [.int 0, .ref (b 2), .ref (b 3)])), ((b 2), .inl (G.2.1, 31, .inl oov)), ((b 3), .inl (G.2.1, 31, .inl oorr)), ((b 4), .inr (2, [.int 1, .ref (b 5), .ref (b 6)])), ((b 5), .inl (G.2.1, 31, .inl onv)), ((b 6), .inl (G.2.1, 31, .inl onr)), ((b 7), .inr (1, [.int oql, .ref (b 8), .ref (b 9), .ref (b 10)])), ((b 8), .inl (G.2.1, 8, .inl oqk)), ((b 9), .inl (G.2.1, 8, .inl oqv)), ((b 10), .inl (G.2.1, 8, .inl oqr)), ((b 11), .inl (G.2.1, 31, .inl owr)), ((b 12), .inl (G.2.1, 3, .inl owc)), ((b 13), .inl (G.2.1, 3, .inl owk))] H := hP
  have hD : va_D (va_A (tabW G a ph la po lo ov orr nv nr ql qk qv qr wr wa wc wk ++ tabW G b oph ola opo olo oov oorr onv onr oql oqk oqv oqr owr owa owc owk) s.heap.size) [((a 0), .inr (3, [.int oph, .int ola, .int opo, .int olo, .ref (a 1), .ref (a 4), .ref (a 7), .ref (a 11), .int wa, .ref (a 12), .ref (a 13)])), ((a 1), .inr (2, [.int 0, .ref (a 2), .ref (a 3)])), ((a 2), .inl (G.2.1, 31, .inl r1.1)), ((a 3), .inl (G.2.1, 31, .inl r1.2)), ((a 4), .inr (2, [.int 1, .ref (a 5), .ref (a 6)])), ((a 5), .inl (G.2.1, 31, .inl r3.1)), ((a 6), .inl (G.2.1, 31, .inl r3.2)), ((a 7), .inr (1, [.int r5.1, .ref (a 8), .ref (a 9), .ref (a 10)])), ((a 8), .inl (G.2.1, 8, .inl r5.2.1)), ((a 9), .inl (G.2.1, 8, .inl r5.2.2.1)), ((a 10), .inl (G.2.1, 8, .inl r5.2.2.2)), ((a 11), .inl (G.2.1, 31, .inl (va_cpy owr wr 0 0 31))), ((a 12), .inl (G.2.1, 3, .inl wc)), ((a 13), .inl (G.2.1, 3, .inl wk)), ((b 0), .inr (3, [.int oph, .int ola, .int opo, .int olo, .ref (b 1), .ref (b 4), .ref (b 7), .ref (b 11), .int owa, .ref (b 12), .ref (b 13)])), ((b 1), .inr (2, [.int 0, .ref (b 2), .ref (b 3)])), ((b 2), .inl (G.2.1, 31, .inl oov)), ((b 3), .inl (G.2.1, 31, .inl oorr)), ((b 4), .inr (2, [.int 1, .ref (b 5), .ref (b 6)])), ((b 5), .inl (G.2.1, 31, .inl onv)), ((b 6), .inl (G.2.1, 31, .inl onr)), ((b 7), .inr (1, [.int oql, .ref (b 8), .ref (b 9), .ref (b 10)])), ((b 8), .inl (G.2.1, 8, .inl oqk)), ((b 9), .inl (G.2.1, 8, .inl oqv)), ((b 10), .inl (G.2.1, 8, .inl oqr)), ((b 11), .inl (G.2.1, 31, .inl owr)), ((b 12), .inl (G.2.1, 3, .inl owc)), ((b 13), .inl (G.2.1, 3, .inl owk))] := hD
  refine lv_aload_n hx hb dX4_copyFrom_80 rfl (lv_at hl 0 rfl) ?_
  refine lv_aload_n hx hb dX4_copyFrom_81 rfl (lv_at hl 1 rfl) ?_
  refine va_get (D := G.1) (ci := 3) (v := .int owa) (C := RX4) (T := TX4) (N := 11) hx hb hts hX4 hown hK.1 hP 14 rfl rfl 8 (by decide) (hts _ tw_93) (fun _ h9 => h9) rfl dX4_copyFrom_82 ?_
  refine va_put (D := G.1) (ci := 3) (v := .int owa) (ty := .int) (C := RX4) (T := TX4) (N := 11) hx hb hts hX4 tyX4 tyX4_ok nmX4 hown hK.1 hP hD hS 0 rfl rfl 8 (by decide) (hts _ tw_93) (fun _ h9 => h9) rfl (by decide +kernel) rfl rfl (Nat.le_of_ble_eq_true rfl) dX4_copyFrom_85 (fun H locs hP hD hS => ?_)
  have hP : va_P G.1 vwCl [((a 0), .inr (3, [.int oph, .int ola, .int opo, .int olo, .ref (a 1), .ref (a 4), .ref (a 7), .ref (a 11), .int owa, .ref (a 12), .ref (a 13)])), ((a 1), .inr (2, [.int 0, .ref (a 2), .ref (a 3)])), ((a 2), .inl (G.2.1, 31, .inl r1.1)), ((a 3), .inl (G.2.1, 31, .inl r1.2)), ((a 4), .inr (2, [.int 1, .ref (a 5), .ref (a 6)])), ((a 5), .inl (G.2.1, 31, .inl r3.1)), ((a 6), .inl (G.2.1, 31, .inl r3.2)), ((a 7), .inr (1, [.int r5.1, .ref (a 8), .ref (a 9), .ref (a 10)])), ((a 8), .inl (G.2.1, 8, .inl r5.2.1)), ((a 9), .inl (G.2.1, 8, .inl r5.2.2.1)), ((a 10), .inl (G.2.1, 8, .inl r5.2.2.2)), ((a 11), .inl (G.2.1, 31, .inl (va_cpy owr wr 0 0 31))), ((a 12), .inl (G.2.1, 3, .inl wc)), ((a 13), .inl (G.2.1, 3, .inl wk)), ((b 0), .inr (3, [.int oph, .int ola, .int opo, .int olo, .ref (b 1), .ref (b 4), .ref (b 7), .ref (b 11), .int owa, .ref (b 12), .ref (b 13)])), ((b 1), .inr (2, [.int 0, .ref (b 2), .ref (b 3)])), ((b 2), .inl (G.2.1, 31, .inl oov)), ((b 3), .inl (G.2.1, 31, .inl oorr)), ((b 4), .inr (2, [.int 1, .ref (b 5), .ref (b 6)])), ((b 5), .inl (G.2.1, 31, .inl onv)), ((b 6), .inl (G.2.1, 31, .inl onr)), ((b 7), .inr (1, [.int oql, .ref (b 8), .ref (b 9), .ref (b 10)])), ((b 8), .inl (G.2.1, 8, .inl oqk)), ((b 9), .inl (G.2.1, 8, .inl oqv)), ((b 10), .inl (G.2.1, 8, .inl oqr)), ((b 11), .inl (G.2.1, 31, .inl owr)), ((b 12), .inl (G.2.1, 3, .inl owc)), ((b 13), .inl (G.2.1, 3, .inl owk))] H := hP
  have hD : va_D (va_A (tabW G a ph la po lo ov orr nv nr ql qk qv qr wr wa wc wk ++ tabW G b oph ola opo olo oov oorr onv onr oql oqk oqv oqr owr owa owc owk) s.heap.size) [((a 0), .inr (3, [.int oph, .int ola, .int opo, .int olo, .ref (a 1), .ref (a 4), .ref (a 7), .ref (a 11), .int owa, .ref (a 12), .ref (a 13)])), ((a 1), .inr (2, [.int 0, .ref (a 2), .ref (a 3)])), ((a 2), .inl (G.2.1, 31, .inl r1.1)), ((a 3), .inl (G.2.1, 31, .inl r1.2)), ((a 4), .inr (2, [.int 1, .ref (a 5), .ref (a 6)])), ((a 5), .inl (G.2.1, 31, .inl r3.1)), ((a 6), .inl (G.2.1, 31, .inl r3.2)), ((a 7), .inr (1, [.int r5.1, .ref (a 8), .ref (a 9), .ref (a 10)])), ((a 8), .inl (G.2.1, 8, .inl r5.2.1)), ((a 9), .inl (G.2.1, 8, .inl r5.2.2.1)), ((a 10), .inl (G.2.1, 8, .inl r5.2.2.2)), ((a 11), .inl (G.2.1, 31, .inl (va_cpy owr wr 0 0 31))), ((a 12), .inl (G.2.1, 3, .inl wc)), ((a 13), .inl (G.2.1, 3, .inl wk)), ((b 0), .inr (3, [.int oph, .int ola, .int opo, .int olo, .ref (b 1), .ref (b 4), .ref (b 7), .ref (b 11), .int owa, .ref (b 12), .ref (b 13)])), ((b 1), .inr (2, [.int 0, .ref (b 2), .ref (b 3)])), ((b 2), .inl (G.2.1, 31, .inl oov)), ((b 3), .inl (G.2.1, 31, .inl oorr)), ((b 4), .inr (2, [.int 1, .ref (b 5), .ref (b 6)])), ((b 5), .inl (G.2.1, 31, .inl onv)), ((b 6), .inl (G.2.1, 31, .inl onr)), ((b 7), .inr (1, [.int oql, .ref (b 8), .ref (b 9), .ref (b 10)])), ((b 8), .inl (G.2.1, 8, .inl oqk)), ((b 9), .inl (G.2.1, 8, .inl oqv)), ((b 10), .inl (G.2.1, 8, .inl oqr)), ((b 11), .inl (G.2.1, 31, .inl owr)), ((b 12), .inl (G.2.1, 3, .inl owc)), ((b 13), .inl (G.2.1, 3, .inl owk))] := hD
  refine lv_aload_n hx hb dX4_copyFrom_88 rfl (lv_at hl 1 rfl) ?_
  refine va_get (D := G.1) (ci := 3) (v := .ref (b 12)) (C := RX4) (T := TX4) (N := 11) hx hb hts hX4 hown hK.1 hP 14 rfl rfl 9 (by decide) (hts _ tw_95) (fun _ h9 => h9) rfl dX4_copyFrom_89 ?_
  refine lv_iconst (v := (0 : Int32)) hx hb dX4_copyFrom_92 (by decide) ?_
  refine lv_aload_n hx hb dX4_copyFrom_93 rfl (lv_at hl 0 rfl) ?_
  refine va_get (D := G.1) (ci := 3) (v := .ref (a 12)) (C := RX4) (T := TX4) (N := 11) hx hb hts hX4 hown hK.1 hP 0 rfl rfl 9 (by decide) (hts _ tw_95) (fun _ h9 => h9) rfl dX4_copyFrom_94 ?_
  refine lv_iconst (v := (0 : Int32)) hx hb dX4_copyFrom_97 (by decide) ?_
  refine lv_iconst (v := (3 : Int32)) hx hb dX4_copyFrom_98 (by decide) ?_
  refine va_copyi hx hb (by rw [hml]; exact hl.1.symm) hown (hts _ tw_184) (hts _ tw_178) (hts _ tw_177) (hts _ tw_11) hK.1 hP hD hS 26 12 0 0 (ty := .int) rfl rfl rfl rfl rfl (by decide) (by decide) (by decide) (by decide) (by decide) (fun _ _ => rfl) (by decide) (by decide) dX4_copyFrom_99 (fun H locs hP hD hS => ?_)
  have hP : va_P G.1 vwCl [((a 0), .inr (3, [.int oph, .int ola, .int opo, .int olo, .ref (a 1), .ref (a 4), .ref (a 7), .ref (a 11), .int owa, .ref (a 12), .ref (a 13)])), ((a 1), .inr (2, [.int 0, .ref (a 2), .ref (a 3)])), ((a 2), .inl (G.2.1, 31, .inl r1.1)), ((a 3), .inl (G.2.1, 31, .inl r1.2)), ((a 4), .inr (2, [.int 1, .ref (a 5), .ref (a 6)])), ((a 5), .inl (G.2.1, 31, .inl r3.1)), ((a 6), .inl (G.2.1, 31, .inl r3.2)), ((a 7), .inr (1, [.int r5.1, .ref (a 8), .ref (a 9), .ref (a 10)])), ((a 8), .inl (G.2.1, 8, .inl r5.2.1)), ((a 9), .inl (G.2.1, 8, .inl r5.2.2.1)), ((a 10), .inl (G.2.1, 8, .inl r5.2.2.2)), ((a 11), .inl (G.2.1, 31, .inl (va_cpy owr wr 0 0 31))), ((a 12), .inl (G.2.1, 3, .inl (va_cpy owc wc 0 0 3))), ((a 13), .inl (G.2.1, 3, .inl wk)), ((b 0), .inr (3, [.int oph, .int ola, .int opo, .int olo, .ref (b 1), .ref (b 4), .ref (b 7), .ref (b 11), .int owa, .ref (b 12), .ref (b 13)])), ((b 1), .inr (2, [.int 0, .ref (b 2), .ref (b 3)])), ((b 2), .inl (G.2.1, 31, .inl oov)), ((b 3), .inl (G.2.1, 31, .inl oorr)), ((b 4), .inr (2, [.int 1, .ref (b 5), .ref (b 6)])), ((b 5), .inl (G.2.1, 31, .inl onv)), ((b 6), .inl (G.2.1, 31, .inl onr)), ((b 7), .inr (1, [.int oql, .ref (b 8), .ref (b 9), .ref (b 10)])), ((b 8), .inl (G.2.1, 8, .inl oqk)), ((b 9), .inl (G.2.1, 8, .inl oqv)), ((b 10), .inl (G.2.1, 8, .inl oqr)), ((b 11), .inl (G.2.1, 31, .inl owr)), ((b 12), .inl (G.2.1, 3, .inl owc)), ((b 13), .inl (G.2.1, 3, .inl owk))] H := hP
  have hD : va_D (va_A (tabW G a ph la po lo ov orr nv nr ql qk qv qr wr wa wc wk ++ tabW G b oph ola opo olo oov oorr onv onr oql oqk oqv oqr owr owa owc owk) s.heap.size) [((a 0), .inr (3, [.int oph, .int ola, .int opo, .int olo, .ref (a 1), .ref (a 4), .ref (a 7), .ref (a 11), .int owa, .ref (a 12), .ref (a 13)])), ((a 1), .inr (2, [.int 0, .ref (a 2), .ref (a 3)])), ((a 2), .inl (G.2.1, 31, .inl r1.1)), ((a 3), .inl (G.2.1, 31, .inl r1.2)), ((a 4), .inr (2, [.int 1, .ref (a 5), .ref (a 6)])), ((a 5), .inl (G.2.1, 31, .inl r3.1)), ((a 6), .inl (G.2.1, 31, .inl r3.2)), ((a 7), .inr (1, [.int r5.1, .ref (a 8), .ref (a 9), .ref (a 10)])), ((a 8), .inl (G.2.1, 8, .inl r5.2.1)), ((a 9), .inl (G.2.1, 8, .inl r5.2.2.1)), ((a 10), .inl (G.2.1, 8, .inl r5.2.2.2)), ((a 11), .inl (G.2.1, 31, .inl (va_cpy owr wr 0 0 31))), ((a 12), .inl (G.2.1, 3, .inl (va_cpy owc wc 0 0 3))), ((a 13), .inl (G.2.1, 3, .inl wk)), ((b 0), .inr (3, [.int oph, .int ola, .int opo, .int olo, .ref (b 1), .ref (b 4), .ref (b 7), .ref (b 11), .int owa, .ref (b 12), .ref (b 13)])), ((b 1), .inr (2, [.int 0, .ref (b 2), .ref (b 3)])), ((b 2), .inl (G.2.1, 31, .inl oov)), ((b 3), .inl (G.2.1, 31, .inl oorr)), ((b 4), .inr (2, [.int 1, .ref (b 5), .ref (b 6)])), ((b 5), .inl (G.2.1, 31, .inl onv)), ((b 6), .inl (G.2.1, 31, .inl onr)), ((b 7), .inr (1, [.int oql, .ref (b 8), .ref (b 9), .ref (b 10)])), ((b 8), .inl (G.2.1, 8, .inl oqk)), ((b 9), .inl (G.2.1, 8, .inl oqv)), ((b 10), .inl (G.2.1, 8, .inl oqr)), ((b 11), .inl (G.2.1, 31, .inl owr)), ((b 12), .inl (G.2.1, 3, .inl owc)), ((b 13), .inl (G.2.1, 3, .inl owk))] := hD
  refine lv_aload_n hx hb dX4_copyFrom_102 rfl (lv_at hl 1 rfl) ?_
  refine va_get (D := G.1) (ci := 3) (v := .ref (b 13)) (C := RX4) (T := TX4) (N := 11) hx hb hts hX4 hown hK.1 hP 14 rfl rfl 10 (by decide) (hts _ tw_96) (fun _ h9 => h9) rfl dX4_copyFrom_103 ?_
  refine lv_iconst (v := (0 : Int32)) hx hb dX4_copyFrom_106 (by decide) ?_
  refine lv_aload_n hx hb dX4_copyFrom_107 rfl (lv_at hl 0 rfl) ?_
  refine va_get (D := G.1) (ci := 3) (v := .ref (a 13)) (C := RX4) (T := TX4) (N := 11) hx hb hts hX4 hown hK.1 hP 0 rfl rfl 10 (by decide) (hts _ tw_96) (fun _ h9 => h9) rfl dX4_copyFrom_108 ?_
  refine lv_iconst (v := (0 : Int32)) hx hb dX4_copyFrom_111 (by decide) ?_
  refine lv_iconst (v := (3 : Int32)) hx hb dX4_copyFrom_112 (by decide) ?_
  refine va_copyi hx hb (by rw [hml]; exact hl.1.symm) hown (hts _ tw_184) (hts _ tw_178) (hts _ tw_177) (hts _ tw_11) hK.1 hP hD hS 27 13 0 0 (ty := .int) rfl rfl rfl rfl rfl (by decide) (by decide) (by decide) (by decide) (by decide) (fun _ _ => rfl) (by decide) (by decide) dX4_copyFrom_113 (fun H locs hP hD hS => ?_)
  have hP : va_P G.1 vwCl [((a 0), .inr (3, [.int oph, .int ola, .int opo, .int olo, .ref (a 1), .ref (a 4), .ref (a 7), .ref (a 11), .int owa, .ref (a 12), .ref (a 13)])), ((a 1), .inr (2, [.int 0, .ref (a 2), .ref (a 3)])), ((a 2), .inl (G.2.1, 31, .inl r1.1)), ((a 3), .inl (G.2.1, 31, .inl r1.2)), ((a 4), .inr (2, [.int 1, .ref (a 5), .ref (a 6)])), ((a 5), .inl (G.2.1, 31, .inl r3.1)), ((a 6), .inl (G.2.1, 31, .inl r3.2)), ((a 7), .inr (1, [.int r5.1, .ref (a 8), .ref (a 9), .ref (a 10)])), ((a 8), .inl (G.2.1, 8, .inl r5.2.1)), ((a 9), .inl (G.2.1, 8, .inl r5.2.2.1)), ((a 10), .inl (G.2.1, 8, .inl r5.2.2.2)), ((a 11), .inl (G.2.1, 31, .inl (va_cpy owr wr 0 0 31))), ((a 12), .inl (G.2.1, 3, .inl (va_cpy owc wc 0 0 3))), ((a 13), .inl (G.2.1, 3, .inl (va_cpy owk wk 0 0 3))), ((b 0), .inr (3, [.int oph, .int ola, .int opo, .int olo, .ref (b 1), .ref (b 4), .ref (b 7), .ref (b 11), .int owa, .ref (b 12), .ref (b 13)])), ((b 1), .inr (2, [.int 0, .ref (b 2), .ref (b 3)])), ((b 2), .inl (G.2.1, 31, .inl oov)), ((b 3), .inl (G.2.1, 31, .inl oorr)), ((b 4), .inr (2, [.int 1, .ref (b 5), .ref (b 6)])), ((b 5), .inl (G.2.1, 31, .inl onv)), ((b 6), .inl (G.2.1, 31, .inl onr)), ((b 7), .inr (1, [.int oql, .ref (b 8), .ref (b 9), .ref (b 10)])), ((b 8), .inl (G.2.1, 8, .inl oqk)), ((b 9), .inl (G.2.1, 8, .inl oqv)), ((b 10), .inl (G.2.1, 8, .inl oqr)), ((b 11), .inl (G.2.1, 31, .inl owr)), ((b 12), .inl (G.2.1, 3, .inl owc)), ((b 13), .inl (G.2.1, 3, .inl owk))] H := hP
  have hD : va_D (va_A (tabW G a ph la po lo ov orr nv nr ql qk qv qr wr wa wc wk ++ tabW G b oph ola opo olo oov oorr onv onr oql oqk oqv oqr owr owa owc owk) s.heap.size) [((a 0), .inr (3, [.int oph, .int ola, .int opo, .int olo, .ref (a 1), .ref (a 4), .ref (a 7), .ref (a 11), .int owa, .ref (a 12), .ref (a 13)])), ((a 1), .inr (2, [.int 0, .ref (a 2), .ref (a 3)])), ((a 2), .inl (G.2.1, 31, .inl r1.1)), ((a 3), .inl (G.2.1, 31, .inl r1.2)), ((a 4), .inr (2, [.int 1, .ref (a 5), .ref (a 6)])), ((a 5), .inl (G.2.1, 31, .inl r3.1)), ((a 6), .inl (G.2.1, 31, .inl r3.2)), ((a 7), .inr (1, [.int r5.1, .ref (a 8), .ref (a 9), .ref (a 10)])), ((a 8), .inl (G.2.1, 8, .inl r5.2.1)), ((a 9), .inl (G.2.1, 8, .inl r5.2.2.1)), ((a 10), .inl (G.2.1, 8, .inl r5.2.2.2)), ((a 11), .inl (G.2.1, 31, .inl (va_cpy owr wr 0 0 31))), ((a 12), .inl (G.2.1, 3, .inl (va_cpy owc wc 0 0 3))), ((a 13), .inl (G.2.1, 3, .inl (va_cpy owk wk 0 0 3))), ((b 0), .inr (3, [.int oph, .int ola, .int opo, .int olo, .ref (b 1), .ref (b 4), .ref (b 7), .ref (b 11), .int owa, .ref (b 12), .ref (b 13)])), ((b 1), .inr (2, [.int 0, .ref (b 2), .ref (b 3)])), ((b 2), .inl (G.2.1, 31, .inl oov)), ((b 3), .inl (G.2.1, 31, .inl oorr)), ((b 4), .inr (2, [.int 1, .ref (b 5), .ref (b 6)])), ((b 5), .inl (G.2.1, 31, .inl onv)), ((b 6), .inl (G.2.1, 31, .inl onr)), ((b 7), .inr (1, [.int oql, .ref (b 8), .ref (b 9), .ref (b 10)])), ((b 8), .inl (G.2.1, 8, .inl oqk)), ((b 9), .inl (G.2.1, 8, .inl oqv)), ((b 10), .inl (G.2.1, 8, .inl oqr)), ((b 11), .inl (G.2.1, 31, .inl owr)), ((b 12), .inl (G.2.1, 3, .inl owc)), ((b 13), .inl (G.2.1, 3, .inl owk))] := hD
  cases hf
  exact g_vretC hx hb hr hlocks hP hD hS dX4_copyFrom_116
