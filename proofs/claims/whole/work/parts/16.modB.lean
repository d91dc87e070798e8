-- TwoShapesModel.comes(IIZ)I
abbrev rmX6_comes : Room := { frames := 2, cells := 0, slots := 0, locals := 46 }
def fX6_comes_b230 : Nat → Int32 → Int32 → (Nat → Int32) → (Nat → Int32) → (Nat → Int32) → (Nat → Int32) → Int32 → (Nat → Int32) → Int32 → Int32 → Int32 → (Nat → Int32) → (Nat → Int32) → (Nat → Int32) → Option (Int32 × (Nat → Int32) × (Nat → Int32) × (Nat → Int32) × (Nat → Int32) × Int32 × (Nat → Int32) × Int32 × Int32 × Int32 × (Nat → Int32) × (Nat → Int32) × (Nat → Int32))
  | 0, _, _, _, _, _, _, _, _, _, _, _, _, _, _ => none
  | n + 1, x4, x5, ss, was, beg, asi, sta, txt, typ, att, rea, got, row, oth => (if (4 : Int32) ≤ x5 then g_gd (g_in (3 : Int32) 411) (g_gd (g_in (3 : Int32) 411) (g_gd (g_in (1 : Int32) 411) (some (((upd ss (3 : Int32).toNatClampNeg ((ss (3 : Int32).toNatClampNeg) + (1 : Int32))) (1 : Int32).toNatClampNeg), (upd ss (3 : Int32).toNatClampNeg ((ss (3 : Int32).toNatClampNeg) + (1 : Int32))), was, beg, asi, sta, txt, typ, att, rea, got, row, oth)))) else g_gd (g_in x5 4) (g_gd (g_in ((x4 + (3 : Int32)) + x5) 411) (fX6_comes_b230 n x4 (x5 + (1 : Int32)) (upd ss ((x4 + (3 : Int32)) + x5).toNatClampNeg (row x5.toNatClampNeg)) was beg asi sta txt typ att rea got row oth)))
set_option maxHeartbeats 4000000 in
set_option maxRecDepth 100000 in
theorem kX6_comes_b230 {p : Program} {l : Launch} {e : Env} {s : State} {m : MethodId} {args : Array Value} {below : List Frame} {meth : Method} {c : Code} {G : gT} {a : Nat → Nat} {w0 : va_W} (C0 : gX p s m args meth c cX6_comes 6 (some .int) RX6 G) :
    ∀ (n : Nat) (x4 : Int32) (x5 : Int32) (ss : Nat → Int32) (was : Nat → Int32) (beg : Nat → Int32) (asi : Nat → Int32) (sta : Int32) (txt : Nat → Int32) (typ : Int32) (att : Int32) (rea : Int32) (got : Nat → Int32) (row : Nat → Int32) (oth : Nat → Int32) (u : Int32 × (Nat → Int32) × (Nat → Int32) × (Nat → Int32) × (Nat → Int32) × Int32 × (Nat → Int32) × Int32 × Int32 × Int32 × (Nat → Int32) × (Nat → Int32) × (Nat → Int32)), fX6_comes_b230 n x4 x5 ss was beg asi sta txt typ att rea got row oth = some u → ∀ (H : Heap) (locs : List Loc), va_P G.1 vwCl [((a 0), .inr (5, [.ref (a 1), .ref (a 2), .ref (a 3), .ref (a 4), .int sta, .ref (a 5), .int typ, .int att, .int rea, .ref (a 6), .ref (a 7), .ref (a 8)])), ((a 1), .inl (G.2.1, 411, .inl ss)), ((a 2), .inl (G.2.1, 1644, .inl was)), ((a 3), .inl (G.2.1, 411, .inl beg)), ((a 4), .inl (G.2.1, 411, .inl asi)), ((a 5), .inl (G.2.2.1, 60, .inl txt)), ((a 6), .inl (G.2.1, 4, .inl got)), ((a 7), .inl (G.2.1, 4, .inl row)), ((a 8), .inl (G.2.1, 4, .inl oth))] H → va_D (va_A w0 s.heap.size) [((a 0), .inr (5, [.ref (a 1), .ref (a 2), .ref (a 3), .ref (a 4), .int sta, .ref (a 5), .int typ, .int att, .int rea, .ref (a 6), .ref (a 7), .ref (a 8)])), ((a 1), .inl (G.2.1, 411, .inl ss)), ((a 2), .inl (G.2.1, 1644, .inl was)), ((a 3), .inl (G.2.1, 411, .inl beg)), ((a 4), .inl (G.2.1, 411, .inl asi)), ((a 5), .inl (G.2.2.1, 60, .inl txt)), ((a 6), .inl (G.2.1, 4, .inl got)), ((a 7), .inl (G.2.1, 4, .inl row)), ((a 8), .inl (G.2.1, 4, .inl oth))] → va_S (va_A w0 s.heap.size) s.heap H locs → ∀ ls, lv_has ls 6 [(0, .ref (a 0)), (4, .int x4), (5, .int x5)] → gW p l e (headSpec wsX6_comes rmX6_comes).room s m args below meth c G w0 (some (.int u.1)) (modW G a u.2.1 u.2.2.1 u.2.2.2.1 u.2.2.2.2.1 u.2.2.2.2.2.1 u.2.2.2.2.2.2.1 u.2.2.2.2.2.2.2.1 u.2.2.2.2.2.2.2.2.1 u.2.2.2.2.2.2.2.2.2.1 u.2.2.2.2.2.2.2.2.2.2.1 u.2.2.2.2.2.2.2.2.2.2.2.1 u.2.2.2.2.2.2.2.2.2.2.2.2) H locs 230 ls [] := by
  obtain ⟨hx, hb, hr, hts, hown, hlocks, hml, hK⟩ := id C0
  have hA : ∀ q : Nat, s.heap.size ≤ q → va_A w0 s.heap.size q := fun q h => Or.inr h
  intro n
  induction n with
  | zero =>
    intro x4 x5 ss was beg asi sta txt typ att rea got row oth u hf H locs hP hD hS ls hl
    have hf : (none : Option (Int32 × (Nat → Int32) × (Nat → Int32) × (Nat → Int32) × (Nat → Int32) × Int32 × (Nat → Int32) × Int32 × Int32 × Int32 × (Nat → Int32) × (Nat → Int32) × (Nat → Int32))) = some u := hf
    cases hf
  | succ n ih =>
    intro x4 x5 ss was beg asi sta txt typ att rea got row oth u hf H locs hP hD hS ls hl
    rw [fX6_comes_b230] at hf
    refine lv_iload hx hb dX6_comes_230 (lv_at hl 2 rfl) ?_
    refine lv_iconst (v := (4 : Int32)) hx hb dX6_comes_232 (by decide) ?_
    refine lv_icmp_ge (tgt := 261) hx hb dX6_comes_233 (by decide) (fun c38 => ?_) (fun c38 => ?_)
    · have hf := g_ifT c38 hf
      refine lv_aload_n hx hb dX6_comes_261 rfl (lv_at hl 0 rfl) ?_
      refine va_get (D := G.1) (ci := 5) (v := .ref (a 1)) (C := RX6) (T := TX6) (N := 12) hx hb hts hX6 hown hK.1 hP 0 rfl rfl 0 (by decide) (hts _ tw_588) (fun _ h9 => h9) rfl dX6_comes_262 ?_
      refine lv_iconst (v := (3 : Int32)) hx hb dX6_comes_265 (by decide) ?_
      refine lv_dup2_11 hx hb dX6_comes_266 rfl rfl ?_
      obtain ⟨g39, hf⟩ := g_gdS hf
      refine va_iald hx hb hK.1 hP 1 0 rfl rfl (g_in_vp g39) dX6_comes_267 ?_
      refine lv_iconst (v := (1 : Int32)) hx hb dX6_comes_268 (by decide) ?_
      refine lv_iadd hx hb dX6_comes_269 ?_
      obtain ⟨g40, hf⟩ := g_gdS hf
      refine va_iast hx hb hK.1 hP hD hS 1 0 rfl rfl (g_in_vp g40) dX6_comes_270 (fun H locs hP hD hS => ?_)
      have hP : va_P G.1 vwCl [((a 0), .inr (5, [.ref (a 1), .ref (a 2), .ref (a 3), .ref (a 4), .int sta, .ref (a 5), .int typ, .int att, .int rea, .ref (a 6), .ref (a 7), .ref (a 8)])), ((a 1), .inl (G.2.1, 411, .inl (upd ss (3 : Int32).toNatClampNeg ((ss (3 : Int32).toNatClampNeg) + (1 : Int32))))), ((a 2), .inl (G.2.1, 1644, .inl was)), ((a 3), .inl (G.2.1, 411, .inl beg)), ((a 4), .inl (G.2.1, 411, .inl asi)), ((a 5), .inl (G.2.2.1, 60, .inl txt)), ((a 6), .inl (G.2.1, 4, .inl got)), ((a 7), .inl (G.2.1, 4, .inl row)), ((a 8), .inl (G.2.1, 4, .inl oth))] H := hP
      have hD : va_D (va_A w0 s.heap.size) [((a 0), .inr (5, [.ref (a 1), .ref (a 2), .ref (a 3), .ref (a 4), .int sta, .ref (a 5), .int typ, .int att, .int rea, .ref (a 6), .ref (a 7), .ref (a 8)])), ((a 1), .inl (G.2.1, 411, .inl (upd ss (3 : Int32).toNatClampNeg ((ss (3 : Int32).toNatClampNeg) + (1 : Int32))))), ((a 2), .inl (G.2.1, 1644, .inl was)), ((a 3), .inl (G.2.1, 411, .inl beg)), ((a 4), .inl (G.2.1, 411, .inl asi)), ((a 5), .inl (G.2.2.1, 60, .inl txt)), ((a 6), .inl (G.2.1, 4, .inl got)), ((a 7), .inl (G.2.1, 4, .inl row)), ((a 8), .inl (G.2.1, 4, .inl oth))] := hD
      refine lv_aload_n hx hb dX6_comes_271 rfl (lv_at hl 0 rfl) ?_
      refine va_get (D := G.1) (ci := 5) (v := .ref (a 1)) (C := RX6) (T := TX6) (N := 12) hx hb hts hX6 hown hK.1 hP 0 rfl rfl 0 (by decide) (hts _ tw_588) (fun _ h9 => h9) rfl dX6_comes_272 ?_
      refine lv_iconst (v := (1 : Int32)) hx hb dX6_comes_275 (by decide) ?_
      obtain ⟨g41, hf⟩ := g_gdS hf
      refine va_iald hx hb hK.1 hP 1 0 rfl rfl (g_in_vp g41) dX6_comes_276 ?_
      cases hf
      exact g_iretC hx hb hr hlocks hP hD hS dX6_comes_277
    · have hf := g_ifF c38 hf
      refine lv_aload_n hx hb dX6_comes_236 rfl (lv_at hl 0 rfl) ?_
      refine va_get (D := G.1) (ci := 5) (v := .ref (a 1)) (C := RX6) (T := TX6) (N := 12) hx hb hts hX6 hown hK.1 hP 0 rfl rfl 0 (by decide) (hts _ tw_588) (fun _ h9 => h9) rfl dX6_comes_237 ?_
      refine lv_iload hx hb dX6_comes_240 (lv_at hl 1 rfl) ?_
      refine lv_iconst (v := (3 : Int32)) hx hb dX6_comes_242 (by decide) ?_
      refine lv_iadd hx hb dX6_comes_243 ?_
      refine lv_iload hx hb dX6_comes_244 (lv_at hl 2 rfl) ?_
      refine lv_iadd hx hb dX6_comes_246 ?_
      refine lv_aload_n hx hb dX6_comes_247 rfl (lv_at hl 0 rfl) ?_
      refine va_get (D := G.1) (ci := 5) (v := .ref (a 7)) (C := RX6) (T := TX6) (N := 12) hx hb hts hX6 hown hK.1 hP 0 rfl rfl 10 (by decide) (hts _ tw_598) (fun _ h9 => h9) rfl dX6_comes_248 ?_
      refine lv_iload hx hb dX6_comes_251 (lv_at hl 2 rfl) ?_
      obtain ⟨g42, hf⟩ := g_gdS hf
      refine va_iald hx hb hK.1 hP 7 0 rfl rfl (g_in_vp g42) dX6_comes_253 ?_
      obtain ⟨g43, hf⟩ := g_gdS hf
      refine va_iast hx hb hK.1 hP hD hS 1 0 rfl rfl (g_in_vp g43) dX6_comes_254 (fun H locs hP hD hS => ?_)
      have hP : va_P G.1 vwCl [((a 0), .inr (5, [.ref (a 1), .ref (a 2), .ref (a 3), .ref (a 4), .int sta, .ref (a 5), .int typ, .int att, .int rea, .ref (a 6), .ref (a 7), .ref (a 8)])), ((a 1), .inl (G.2.1, 411, .inl (upd ss ((x4 + (3 : Int32)) + x5).toNatClampNeg (row x5.toNatClampNeg)))), ((a 2), .inl (G.2.1, 1644, .inl was)), ((a 3), .inl (G.2.1, 411, .inl beg)), ((a 4), .inl (G.2.1, 411, .inl asi)), ((a 5), .inl (G.2.2.1, 60, .inl txt)), ((a 6), .inl (G.2.1, 4, .inl got)), ((a 7), .inl (G.2.1, 4, .inl row)), ((a 8), .inl (G.2.1, 4, .inl oth))] H := hP
      have hD : va_D (va_A w0 s.heap.size) [((a 0), .inr (5, [.ref (a 1), .ref (a 2), .ref (a 3), .ref (a 4), .int sta, .ref (a 5), .int typ, .int att, .int rea, .ref (a 6), .ref (a 7), .ref (a 8)])), ((a 1), .inl (G.2.1, 411, .inl (upd ss ((x4 + (3 : Int32)) + x5).toNatClampNeg (row x5.toNatClampNeg)))), ((a 2), .inl (G.2.1, 1644, .inl was)), ((a 3), .inl (G.2.1, 411, .inl beg)), ((a 4), .inl (G.2.1, 411, .inl asi)), ((a 5), .inl (G.2.2.1, 60, .inl txt)), ((a 6), .inl (G.2.1, 4, .inl got)), ((a 7), .inl (G.2.1, 4, .inl row)), ((a 8), .inl (G.2.1, 4, .inl oth))] := hD
      refine lv_iinc (v := (x5 + (1 : Int32))) (lv' := [(5, .int (x5 + (1 : Int32))), (0, .ref (a 0)), (4, .int x4)]) hx hb dX6_comes_255 hl (k := 2) rfl rfl (by decide) rfl (fun ls hl => ?_)
      refine lv_goto (tgt := 230) hx hb dX6_comes_258 (by decide) ?_
      exact ih _ _ _ _ _ _ _ _ _ _ _ _ _ _ _ hf _ _ hP hD hS ls (lv_sub hl [1, 2, 0] rfl)
def fX6_comes_b120 : Nat → Int32 → Int32 → Int32 → Int32 → (Nat → Int32) → (Nat → Int32) → (Nat → Int32) → (Nat → Int32) → Int32 → (Nat → Int32) → Int32 → Int32 → Int32 → (Nat → Int32) → (Nat → Int32) → (Nat → Int32) → Option (Int32 × (Nat → Int32) × (Nat → Int32) × (Nat → Int32) × (Nat → Int32) × Int32 × (Nat → Int32) × Int32 × Int32 × Int32 × (Nat → Int32) × (Nat → Int32) × (Nat → Int32))
  | 0, _, _, _, _, _, _, _, _, _, _, _, _, _, _, _, _ => none
  | n + 1, x1, x2, x3, x4, ss, was, beg, asi, sta, txt, typ, att, rea, got, row, oth => (if (4 : Int32) ≤ x4 then ((fX6_first ss was beg asi sta txt typ att rea got row oth).bind fun r25 => ((fX6_makes x2 ((1 : Int32) - r25) ss was beg asi sta txt typ att rea got row oth).bind fun r27 => g_gd (g_in (3 : Int32) 411) (g_gd (g_in ((14 : Int32) + ((7 : Int32) * (r27.1 (3 : Int32).toNatClampNeg))) 411) (g_gd (g_in (1 : Int32) 411) (g_gd (g_in (((14 : Int32) + ((7 : Int32) * (r27.1 (3 : Int32).toNatClampNeg))) + (1 : Int32)) 411) (((fX6_first (upd (upd r27.1 ((14 : Int32) + ((7 : Int32) * (r27.1 (3 : Int32).toNatClampNeg))).toNatClampNeg x1) (((14 : Int32) + ((7 : Int32) * (r27.1 (3 : Int32).toNatClampNeg))) + (1 : Int32)).toNatClampNeg ((upd r27.1 ((14 : Int32) + ((7 : Int32) * (r27.1 (3 : Int32).toNatClampNeg))).toNatClampNeg x1) (1 : Int32).toNatClampNeg)) r27.2.1 r27.2.2.1 r27.2.2.2.1 r27.2.2.2.2.1 r27.2.2.2.2.2.1 r27.2.2.2.2.2.2.1 r27.2.2.2.2.2.2.2.1 r27.2.2.2.2.2.2.2.2.1 r27.2.2.2.2.2.2.2.2.2.1 r27.2.2.2.2.2.2.2.2.2.2.1 r27.2.2.2.2.2.2.2.2.2.2.2).bind fun r33 => g_gd (g_in (((14 : Int32) + ((7 : Int32) * (r27.1 (3 : Int32).toNatClampNeg))) + (2 : Int32)) 411) ((if x3 = (0 : Int32) then g_gd (g_in (((14 : Int32) + ((7 : Int32) * (r27.1 (3 : Int32).toNatClampNeg))) + (3 : Int32)) 411) (fX6_comes_b230 2000 ((14 : Int32) + ((7 : Int32) * (r27.1 (3 : Int32).toNatClampNeg))) (1 : Int32) (upd (upd (upd (upd r27.1 ((14 : Int32) + ((7 : Int32) * (r27.1 (3 : Int32).toNatClampNeg))).toNatClampNeg x1) (((14 : Int32) + ((7 : Int32) * (r27.1 (3 : Int32).toNatClampNeg))) + (1 : Int32)).toNatClampNeg ((upd r27.1 ((14 : Int32) + ((7 : Int32) * (r27.1 (3 : Int32).toNatClampNeg))).toNatClampNeg x1) (1 : Int32).toNatClampNeg)) (((14 : Int32) + ((7 : Int32) * (r27.1 (3 : Int32).toNatClampNeg))) + (2 : Int32)).toNatClampNeg ((1 : Int32) - r33)) (((14 : Int32) + ((7 : Int32) * (r27.1 (3 : Int32).toNatClampNeg))) + (3 : Int32)).toNatClampNeg (0 : Int32)) r27.2.1 r27.2.2.1 r27.2.2.2.1 r27.2.2.2.2.1 r27.2.2.2.2.2.1 r27.2.2.2.2.2.2.1 r27.2.2.2.2.2.2.2.1 r27.2.2.2.2.2.2.2.2.1 r27.2.2.2.2.2.2.2.2.2.1 r27.2.2.2.2.2.2.2.2.2.2.1 r27.2.2.2.2.2.2.2.2.2.2.2) else g_gd (g_in (((14 : Int32) + ((7 : Int32) * (r27.1 (3 : Int32).toNatClampNeg))) + (3 : Int32)) 411) (fX6_comes_b230 2000 ((14 : Int32) + ((7 : Int32) * (r27.1 (3 : Int32).toNatClampNeg))) (1 : Int32) (upd (upd (upd (upd r27.1 ((14 : Int32) + ((7 : Int32) * (r27.1 (3 : Int32).toNatClampNeg))).toNatClampNeg x1) (((14 : Int32) + ((7 : Int32) * (r27.1 (3 : Int32).toNatClampNeg))) + (1 : Int32)).toNatClampNeg ((upd r27.1 ((14 : Int32) + ((7 : Int32) * (r27.1 (3 : Int32).toNatClampNeg))).toNatClampNeg x1) (1 : Int32).toNatClampNeg)) (((14 : Int32) + ((7 : Int32) * (r27.1 (3 : Int32).toNatClampNeg))) + (2 : Int32)).toNatClampNeg ((1 : Int32) - r33)) (((14 : Int32) + ((7 : Int32) * (r27.1 (3 : Int32).toNatClampNeg))) + (3 : Int32)).toNatClampNeg (1 : Int32)) r27.2.1 r27.2.2.1 r27.2.2.2.1 r27.2.2.2.2.1 r27.2.2.2.2.2.1 r27.2.2.2.2.2.2.1 r27.2.2.2.2.2.2.2.1 r27.2.2.2.2.2.2.2.2.1 r27.2.2.2.2.2.2.2.2.2.1 r27.2.2.2.2.2.2.2.2.2.2.1 r27.2.2.2.2.2.2.2.2.2.2.2)))))))))) else g_gd (g_in x4 4) (g_gd (g_in x4 4) (fX6_comes_b120 n x1 x2 x3 (x4 + (1 : Int32)) ss was beg asi sta txt typ att rea got (upd row x4.toNatClampNeg (oth x4.toNatClampNeg)) oth)))
set_option maxHeartbeats 4000000 in
set_option maxRecDepth 100000 in
theorem kX6_comes_b120 {p : Program} {l : Launch} {e : Env} {s : State} {m : MethodId} {args : Array Value} {below : List Frame} {meth : Method} {c : Code} {G : gT} {a : Nat → Nat} {w0 : va_W} (C0 : gX p s m args meth c cX6_comes 6 (some .int) RX6 G) :
    ∀ (n : Nat) (x1 : Int32) (x2 : Int32) (x3 : Int32) (x4 : Int32) (ss : Nat → Int32) (was : Nat → Int32) (beg : Nat → Int32) (asi : Nat → Int32) (sta : Int32) (txt : Nat → Int32) (typ : Int32) (att : Int32) (rea : Int32) (got : Nat → Int32) (row : Nat → Int32) (oth : Nat → Int32) (u : Int32 × (Nat → Int32) × (Nat → Int32) × (Nat → Int32) × (Nat → Int32) × Int32 × (Nat → Int32) × Int32 × Int32 × Int32 × (Nat → Int32) × (Nat → Int32) × (Nat → Int32)), fX6_comes_b120 n x1 x2 x3 x4 ss was beg asi sta txt typ att rea got row oth = some u → ∀ (H : Heap) (locs : List Loc), va_P G.1 vwCl [((a 0), .inr (5, [.ref (a 1), .ref (a 2), .ref (a 3), .ref (a 4), .int sta, .ref (a 5), .int typ, .int att, .int rea, .ref (a 6), .ref (a 7), .ref (a 8)])), ((a 1), .inl (G.2.1, 411, .inl ss)), ((a 2), .inl (G.2.1, 1644, .inl was)), ((a 3), .inl (G.2.1, 411, .inl beg)), ((a 4), .inl (G.2.1, 411, .inl asi)), ((a 5), .inl (G.2.2.1, 60, .inl txt)), ((a 6), .inl (G.2.1, 4, .inl got)), ((a 7), .inl (G.2.1, 4, .inl row)), ((a 8), .inl (G.2.1, 4, .inl oth))] H → va_D (va_A w0 s.heap.size) [((a 0), .inr (5, [.ref (a 1), .ref (a 2), .ref (a 3), .ref (a 4), .int sta, .ref (a 5), .int typ, .int att, .int rea, .ref (a 6), .ref (a 7), .ref (a 8)])), ((a 1), .inl (G.2.1, 411, .inl ss)), ((a 2), .inl (G.2.1, 1644, .inl was)), ((a 3), .inl (G.2.1, 411, .inl beg)), ((a 4), .inl (G.2.1, 411, .inl asi)), ((a 5), .inl (G.2.2.1, 60, .inl txt)), ((a 6), .inl (G.2.1, 4, .inl got)), ((a 7), .inl (G.2.1, 4, .inl row)), ((a 8), .inl (G.2.1, 4, .inl oth))] → va_S (va_A w0 s.heap.size) s.heap H locs → ∀ ls, lv_has ls 6 [(0, .ref (a 0)), (1, .int x1), (2, .int x2), (3, .int x3), (4, .int x4)] → gW p l e (headSpec wsX6_comes rmX6_comes).room s m args below meth c G w0 (some (.int u.1)) (modW G a u.2.1 u.2.2.1 u.2.2.2.1 u.2.2.2.2.1 u.2.2.2.2.2.1 u.2.2.2.2.2.2.1 u.2.2.2.2.2.2.2.1 u.2.2.2.2.2.2.2.2.1 u.2.2.2.2.2.2.2.2.2.1 u.2.2.2.2.2.2.2.2.2.2.1 u.2.2.2.2.2.2.2.2.2.2.2.1 u.2.2.2.2.2.2.2.2.2.2.2.2) H locs 120 ls [] := by
  obtain ⟨hx, hb, hr, hts, hown, hlocks, hml, hK⟩ := id C0
  have hA : ∀ q : Nat, s.heap.size ≤ q → va_A w0 s.heap.size q := fun q h => Or.inr h
  intro n
  induction n with
  | zero =>
    intro x1 x2 x3 x4 ss was beg asi sta txt typ att rea got row oth u hf H locs hP hD hS ls hl
    have hf : (none : Option (Int32 × (Nat → Int32) × (Nat → Int32) × (Nat → Int32) × (Nat → Int32) × Int32 × (Nat → Int32) × Int32 × Int32 × Int32 × (Nat → Int32) × (Nat → Int32) × (Nat → Int32))) = some u := hf
    cases hf
  | succ n ih =>
    intro x1 x2 x3 x4 ss was beg asi sta txt typ att rea got row oth u hf H locs hP hD hS ls hl
    rw [fX6_comes_b120] at hf
    refine lv_iload hx hb dX6_comes_120 (lv_at hl 4 rfl) ?_
    refine lv_iconst (v := (4 : Int32)) hx hb dX6_comes_122 (by decide) ?_
    refine lv_icmp_ge (tgt := 146) hx hb dX6_comes_123 (by decide) (fun c24 => ?_) (fun c24 => ?_)
    · have hf := g_ifT c24 hf
      refine lv_aload_n hx hb dX6_comes_146 rfl (lv_at hl 0 rfl) ?_
      refine lv_iload_n hx hb dX6_comes_147 rfl (lv_at hl 2 rfl) ?_
      refine lv_iconst (v := (1 : Int32)) hx hb dX6_comes_148 (by decide) ?_
      refine lv_aload_n hx hb dX6_comes_149 rfl (lv_at hl 0 rfl) ?_
      obtain ⟨r25, e26, hf⟩ := g_bdS hf
      refine g_contR (st1 := [.int r25, .int (1 : Int32), .int x2, .ref (a 0)]) (g_runVR (As := []) (rest := [.int (1 : Int32), .int x2, .ref (a 0)]) ⟨hx, hb, hml, hown, hts⟩ (qX6_first l G a e26) (cwV 0 hts (TB_V TB_id tw_727 tw_729 tw_26 tw_54 tw_730) rfl rfl rfl (by decide +kernel) ⟨Nat.le_of_ble_eq_true rfl, Nat.le_of_ble_eq_true rfl⟩) hK (hP.sub [0, 1, 2, 3, 4, 5, 6, 7, 8] rfl) 0 rfl rfl rfl hl.1 rfl (Nat.le_of_ble_eq_true rfl) dX6_comes_150) rfl ?_
      refine lv_isub hx hb dX6_comes_153 ?_
      obtain ⟨r27, e28, hf⟩ := g_bdS hf
      refine g_contC (st1 := []) (g_runVC (As := [.int x2, .int ((1 : Int32) - r25)]) (rest := []) ⟨hx, hb, hml, hown, hts⟩ (qX6_makes l G a e28) (cwV 2 hts (TB_V TB_id tw_679 tw_681 tw_19 tw_54 tw_682) rfl rfl rfl (by decide +kernel) ⟨Nat.le_of_ble_eq_true rfl, Nat.le_of_ble_eq_true rfl⟩) hK (hP.sub [0, 1, 2, 3, 4, 5, 6, 7, 8] rfl) (hD.sub [0, 1, 2, 3, 4, 5, 6, 7, 8] (by decide) rfl) 0 rfl rfl rfl hl.1 rfl (Nat.le_of_ble_eq_true rfl) dX6_comes_154) rfl hP hD hS hA [0, 1, 2, 3, 4, 5, 6, 7, 8] rfl rfl (fun H locs hP hD hS => ?_)
      have hP : va_P G.1 vwCl [((a 0), .inr (5, [.ref (a 1), .ref (a 2), .ref (a 3), .ref (a 4), .int r27.2.2.2.2.1, .ref (a 5), .int r27.2.2.2.2.2.2.1, .int r27.2.2.2.2.2.2.2.1, .int r27.2.2.2.2.2.2.2.2.1, .ref (a 6), .ref (a 7), .ref (a 8)])), ((a 1), .inl (G.2.1, 411, .inl r27.1)), ((a 2), .inl (G.2.1, 1644, .inl r27.2.1)), ((a 3), .inl (G.2.1, 411, .inl r27.2.2.1)), ((a 4), .inl (G.2.1, 411, .inl r27.2.2.2.1)), ((a 5), .inl (G.2.2.1, 60, .inl r27.2.2.2.2.2.1)), ((a 6), .inl (G.2.1, 4, .inl r27.2.2.2.2.2.2.2.2.2.1)), ((a 7), .inl (G.2.1, 4, .inl r27.2.2.2.2.2.2.2.2.2.2.1)), ((a 8), .inl (G.2.1, 4, .inl r27.2.2.2.2.2.2.2.2.2.2.2))] H := hP
      have hD : va_D (va_A w0 s.heap.size) [((a 0), .inr (5, [.ref (a 1), .ref (a 2), .ref (a 3), .ref (a 4), .int r27.2.2.2.2.1, .ref (a 5), .int r27.2.2.2.2.2.2.1, .int r27.2.2.2.2.2.2.2.1, .int r27.2.2.2.2.2.2.2.2.1, .ref (a 6), .ref (a 7), .ref (a 8)])), ((a 1), .inl (G.2.1, 411, .inl r27.1)), ((a 2), .inl (G.2.1, 1644, .inl r27.2.1)), ((a 3), .inl (G.2.1, 411, .inl r27.2.2.1)), ((a 4), .inl (G.2.1, 411, .inl r27.2.2.2.1)), ((a 5), .inl (G.2.2.1, 60, .inl r27.2.2.2.2.2.1)), ((a 6), .inl (G.2.1, 4, .inl r27.2.2.2.2.2.2.2.2.2.1)), ((a 7), .inl (G.2.1, 4, .inl r27.2.2.2.2.2.2.2.2.2.2.1)), ((a 8), .inl (G.2.1, 4, .inl r27.2.2.2.2.2.2.2.2.2.2.2))] := hD
      refine lv_bipush (v := (14 : Int32)) hx hb dX6_comes_157 (by decide) ?_
      refine lv_bipush (v := (7 : Int32)) hx hb dX6_comes_159 (by decide) ?_
      refine lv_aload_n hx hb dX6_comes_161 rfl (lv_at hl 0 rfl) ?_
      refine va_get (D := G.1) (ci := 5) (v := .ref (a 1)) (C := RX6) (T := TX6) (N := 12) hx hb hts hX6 hown hK.1 hP 0 rfl rfl 0 (by decide) (hts _ tw_588) (fun _ h9 => h9) rfl dX6_comes_162 ?_
      refine lv_iconst (v := (3 : Int32)) hx hb dX6_comes_165 (by decide) ?_
      obtain ⟨g29, hf⟩ := g_gdS hf
      refine va_iald hx hb hK.1 hP 1 0 rfl rfl (g_in_vp g29) dX6_comes_166 ?_
      refine lv_imul hx hb dX6_comes_167 ?_
      refine lv_iadd hx hb dX6_comes_168 ?_
      refine lv_istore (lv' := [(4, .int ((14 : Int32) + ((7 : Int32) * (r27.1 (3 : Int32).toNatClampNeg)))), (0, .ref (a 0)), (1, .int x1), (2, .int x2), (3, .int x3)]) hx hb dX6_comes_169 hl (by decide) rfl (fun ls hl => ?_)
      refine lv_aload_n hx hb dX6_comes_171 rfl (lv_at hl 1 rfl) ?_
      refine va_get (D := G.1) (ci := 5) (v := .ref (a 1)) (C := RX6) (T := TX6) (N := 12) hx hb hts hX6 hown hK.1 hP 0 rfl rfl 0 (by decide) (hts _ tw_588) (fun _ h9 => h9) rfl dX6_comes_172 ?_
      refine lv_iload hx hb dX6_comes_175 (lv_at hl 0 rfl) ?_
      refine lv_iload_n hx hb dX6_comes_177 rfl (lv_at hl 2 rfl) ?_
      obtain ⟨g30, hf⟩ := g_gdS hf
      refine va_iast hx hb hK.1 hP hD hS 1 0 rfl rfl (g_in_vp g30) dX6_comes_178 (fun H locs hP hD hS => ?_)
      have hP : va_P G.1 vwCl [((a 0), .inr (5, [.ref (a 1), .ref (a 2), .ref (a 3), .ref (a 4), .int r27.2.2.2.2.1, .ref (a 5), .int r27.2.2.2.2.2.2.1, .int r27.2.2.2.2.2.2.2.1, .int r27.2.2.2.2.2.2.2.2.1, .ref (a 6), .ref (a 7), .ref (a 8)])), ((a 1), .inl (G.2.1, 411, .inl (upd r27.1 ((14 : Int32) + ((7 : Int32) * (r27.1 (3 : Int32).toNatClampNeg))).toNatClampNeg x1))), ((a 2), .inl (G.2.1, 1644, .inl r27.2.1)), ((a 3), .inl (G.2.1, 411, .inl r27.2.2.1)), ((a 4), .inl (G.2.1, 411, .inl r27.2.2.2.1)), ((a 5), .inl (G.2.2.1, 60, .inl r27.2.2.2.2.2.1)), ((a 6), .inl (G.2.1, 4, .inl r27.2.2.2.2.2.2.2.2.2.1)), ((a 7), .inl (G.2.1, 4, .inl r27.2.2.2.2.2.2.2.2.2.2.1)), ((a 8), .inl (G.2.1, 4, .inl r27.2.2.2.2.2.2.2.2.2.2.2))] H := hP
      have hD : va_D (va_A w0 s.heap.size) [((a 0), .inr (5, [.ref (a 1), .ref (a 2), .ref (a 3), .ref (a 4), .int r27.2.2.2.2.1, .ref (a 5), .int r27.2.2.2.2.2.2.1, .int r27.2.2.2.2.2.2.2.1, .int r27.2.2.2.2.2.2.2.2.1, .ref (a 6), .ref (a 7), .ref (a 8)])), ((a 1), .inl (G.2.1, 411, .inl (upd r27.1 ((14 : Int32) + ((7 : Int32) * (r27.1 (3 : Int32).toNatClampNeg))).toNatClampNeg x1))), ((a 2), .inl (G.2.1, 1644, .inl r27.2.1)), ((a 3), .inl (G.2.1, 411, .inl r27.2.2.1)), ((a 4), .inl (G.2.1, 411, .inl r27.2.2.2.1)), ((a 5), .inl (G.2.2.1, 60, .inl r27.2.2.2.2.2.1)), ((a 6), .inl (G.2.1, 4, .inl r27.2.2.2.2.2.2.2.2.2.1)), ((a 7), .inl (G.2.1, 4, .inl r27.2.2.2.2.2.2.2.2.2.2.1)), ((a 8), .inl (G.2.1, 4, .inl r27.2.2.2.2.2.2.2.2.2.2.2))] := hD
      refine lv_aload_n hx hb dX6_comes_179 rfl (lv_at hl 1 rfl) ?_
      refine va_get (D := G.1) (ci := 5) (v := .ref (a 1)) (C := RX6) (T := TX6) (N := 12) hx hb hts hX6 hown hK.1 hP 0 rfl rfl 0 (by decide) (hts _ tw_588) (fun _ h9 => h9) rfl dX6_comes_180 ?_
      refine lv_iload hx hb dX6_comes_183 (lv_at hl 0 rfl) ?_
      refine lv_iconst (v := (1 : Int32)) hx hb dX6_comes_185 (by decide) ?_
      refine lv_iadd hx hb dX6_comes_186 ?_
      refine lv_aload_n hx hb dX6_comes_187 rfl (lv_at hl 1 rfl) ?_
      refine va_get (D := G.1) (ci := 5) (v := .ref (a 1)) (C := RX6) (T := TX6) (N := 12) hx hb hts hX6 hown hK.1 hP 0 rfl rfl 0 (by decide) (hts _ tw_588) (fun _ h9 => h9) rfl dX6_comes_188 ?_
      refine lv_iconst (v := (1 : Int32)) hx hb dX6_comes_191 (by decide) ?_
      obtain ⟨g31, hf⟩ := g_gdS hf
      refine va_iald hx hb hK.1 hP 1 0 rfl rfl (g_in_vp g31) dX6_comes_192 ?_
      obtain ⟨g32, hf⟩ := g_gdS hf
      refine va_iast hx hb hK.1 hP hD hS 1 0 rfl rfl (g_in_vp g32) dX6_comes_193 (fun H locs hP hD hS => ?_)
      have hP : va_P G.1 vwCl [((a 0), .inr (5, [.ref (a 1), .ref (a 2), .ref (a 3), .ref (a 4), .int r27.2.2.2.2.1, .ref (a 5), .int r27.2.2.2.2.2.2.1, .int r27.2.2.2.2.2.2.2.1, .int r27.2.2.2.2.2.2.2.2.1, .ref (a 6), .ref (a 7), .ref (a 8)])), ((a 1), .inl (G.2.1, 411, .inl (upd (upd r27.1 ((14 : Int32) + ((7 : Int32) * (r27.1 (3 : Int32).toNatClampNeg))).toNatClampNeg x1) (((14 : Int32) + ((7 : Int32) * (r27.1 (3 : Int32).toNatClampNeg))) + (1 : Int32)).toNatClampNeg ((upd r27.1 ((14 : Int32) + ((7 : Int32) * (r27.1 (3 : Int32).toNatClampNeg))).toNatClampNeg x1) (1 : Int32).toNatClampNeg)))), ((a 2), .inl (G.2.1, 1644, .inl r27.2.1)), ((a 3), .inl (G.2.1, 411, .inl r27.2.2.1)), ((a 4), .inl (G.2.1, 411, .inl r27.2.2.2.1)), ((a 5), .inl (G.2.2.1, 60, .inl r27.2.2.2.2.2.1)), ((a 6), .inl (G.2.1, 4, .inl r27.2.2.2.2.2.2.2.2.2.1)), ((a 7), .inl (G.2.1, 4, .inl r27.2.2.2.2.2.2.2.2.2.2.1)), ((a 8), .inl (G.2.1, 4, .inl r27.2.2.2.2.2.2.2.2.2.2.2))] H := hP
      have hD : va_D (va_A w0 s.heap.size) [((a 0), .inr (5, [.ref (a 1), .ref (a 2), .ref (a 3), .ref (a 4), .int r27.2.2.2.2.1, .ref (a 5), .int r27.2.2.2.2.2.2.1, .int r27.2.2.2.2.2.2.2.1, .int r27.2.2.2.2.2.2.2.2.1, .ref (a 6), .ref (a 7), .ref (a 8)])), ((a 1), .inl (G.2.1, 411, .inl (upd (upd r27.1 ((14 : Int32) + ((7 : Int32) * (r27.1 (3 : Int32).toNatClampNeg))).toNatClampNeg x1) (((14 : Int32) + ((7 : Int32) * (r27.1 (3 : Int32).toNatClampNeg))) + (1 : Int32)).toNatClampNeg ((upd r27.1 ((14 : Int32) + ((7 : Int32) * (r27.1 (3 : Int32).toNatClampNeg))).toNatClampNeg x1) (1 : Int32).toNatClampNeg)))), ((a 2), .inl (G.2.1, 1644, .inl r27.2.1)), ((a 3), .inl (G.2.1, 411, .inl r27.2.2.1)), ((a 4), .inl (G.2.1, 411, .inl r27.2.2.2.1)), ((a 5), .inl (G.2.2.1, 60, .inl r27.2.2.2.2.2.1)), ((a 6), .inl (G.2.1, 4, .inl r27.2.2.2.2.2.2.2.2.2.1)), ((a 7), .inl (G.2.1, 4, .inl r27.2.2.2.2.2.2.2.2.2.2.1)), ((a 8), .inl (G.2.1, 4, .inl r27.2.2.2.2.2.2.2.2.2.2.2))] := hD
      refine lv_aload_n hx hb dX6_comes_194 rfl (lv_at hl 1 rfl) ?_
      refine va_get (D := G.1) (ci := 5) (v := .ref (a 1)) (C := RX6) (T := TX6) (N := 12) hx hb hts hX6 hown hK.1 hP 0 rfl rfl 0 (by decide) (hts _ tw_588) (fun _ h9 => h9) rfl dX6_comes_195 ?_
      refine lv_iload hx hb dX6_comes_198 (lv_at hl 0 rfl) ?_
      refine lv_iconst (v := (2 : Int32)) hx hb dX6_comes_200 (by decide) ?_
      refine lv_iadd hx hb dX6_comes_201 ?_
      refine lv_iconst (v := (1 : Int32)) hx hb dX6_comes_202 (by decide) ?_
      refine lv_aload_n hx hb dX6_comes_203 rfl (lv_at hl 1 rfl) ?_
      obtain ⟨r33, e34, hf⟩ := g_bdS hf
      refine g_contR (st1 := [.int r33, .int (1 : Int32), .int (((14 : Int32) + ((7 : Int32) * (r27.1 (3 : Int32).toNatClampNeg))) + (2 : Int32)), .ref (a 1)]) (g_runVR (As := []) (rest := [.int (1 : Int32), .int (((14 : Int32) + ((7 : Int32) * (r27.1 (3 : Int32).toNatClampNeg))) + (2 : Int32)), .ref (a 1)]) ⟨hx, hb, hml, hown, hts⟩ (qX6_first l G a e34) (cwV 0 hts (TB_V TB_id tw_727 tw_729 tw_26 tw_54 tw_730) rfl rfl rfl (by decide +kernel) ⟨Nat.le_of_ble_eq_true rfl, Nat.le_of_ble_eq_true rfl⟩) hK (hP.sub [0, 1, 2, 3, 4, 5, 6, 7, 8] rfl) 0 rfl rfl rfl hl.1 rfl (Nat.le_of_ble_eq_true rfl) dX6_comes_204) rfl ?_
      refine lv_isub hx hb dX6_comes_207 ?_
      obtain ⟨g35, hf⟩ := g_gdS hf
      refine va_iast hx hb hK.1 hP hD hS 1 0 rfl rfl (g_in_vp g35) dX6_comes_208 (fun H locs hP hD hS => ?_)
      have hP : va_P G.1 vwCl [((a 0), .inr (5, [.ref (a 1), .ref (a 2), .ref (a 3), .ref (a 4), .int r27.2.2.2.2.1, .ref (a 5), .int r27.2.2.2.2.2.2.1, .int r27.2.2.2.2.2.2.2.1, .int r27.2.2.2.2.2.2.2.2.1, .ref (a 6), .ref (a 7), .ref (a 8)])), ((a 1), .inl (G.2.1, 411, .inl (upd (upd (upd r27.1 ((14 : Int32) + ((7 : Int32) * (r27.1 (3 : Int32).toNatClampNeg))).toNatClampNeg x1) (((14 : Int32) + ((7 : Int32) * (r27.1 (3 : Int32).toNatClampNeg))) + (1 : Int32)).toNatClampNeg ((upd r27.1 ((14 : Int32) + ((7 : Int32) * (r27.1 (3 : Int32).toNatClampNeg))).toNatClampNeg x1) (1 : Int32).toNatClampNeg)) (((14 : Int32) + ((7 : Int32) * (r27.1 (3 : Int32).toNatClampNeg))) + (2 : Int32)).toNatClampNeg ((1 : Int32) - r33)))), ((a 2), .inl (G.2.1, 1644, .inl r27.2.1)), ((a 3), .inl (G.2.1, 411, .inl r27.2.2.1)), ((a 4), .inl (G.2.1, 411, .inl r27.2.2.2.1)), ((a 5), .inl (G.2.2.1, 60, .inl r27.2.2.2.2.2.1)), ((a 6), .inl (G.2.1, 4, .inl r27.2.2.2.2.2.2.2.2.2.1)), ((a 7), .inl (G.2.1, 4, .inl r27.2.2.2.2.2.2.2.2.2.2.1)), ((a 8), .inl (G.2.1, 4, .inl r27.2.2.2.2.2.2.2.2.2.2.2))] H := hP
      have hD : va_D (va_A w0 s.heap.size) [((a 0), .inr (5, [.ref (a 1), .ref (a 2), .ref (a 3), .ref (a 4), .int r27.2.2.2.2.1, .ref (a 5), .int r27.2.2.2.2.2.2.1, .int r27.2.2.2.2.2.2.2.1, .int r27.2.2.2.2.2.2.2.2.1, .ref (a 6), .ref (a 7), .ref (a 8)])), ((a 1), .inl (G.2.1, 411, .inl (upd (upd (upd r27.1 ((14 : Int32) + ((7 : Int32) * (r27.1 (3 : Int32).toNatClampNeg))).toNatClampNeg x1) (((14 : Int32) + ((7 : Int32) * (r27.1 (3 : Int32).toNatClampNeg))) + (1 : Int32)).toNatClampNeg ((upd r27.1 ((14 : Int32) + ((7 : Int32) * (r27.1 (3 : Int32).toNatClampNeg))).toNatClampNeg x1) (1 : Int32).toNatClampNeg)) (((14 : Int32) + ((7 : Int32) * (r27.1 (3 : Int32).toNatClampNeg))) + (2 : Int32)).toNatClampNeg ((1 : Int32) - r33)))), ((a 2), .inl (G.2.1, 1644, .inl r27.2.1)), ((a 3), .inl (G.2.1, 411, .inl r27.2.2.1)), ((a 4), .inl (G.2.1, 411, .inl r27.2.2.2.1)), ((a 5), .inl (G.2.2.1, 60, .inl r27.2.2.2.2.2.1)), ((a 6), .inl (G.2.1, 4, .inl r27.2.2.2.2.2.2.2.2.2.1)), ((a 7), .inl (G.2.1, 4, .inl r27.2.2.2.2.2.2.2.2.2.2.1)), ((a 8), .inl (G.2.1, 4, .inl r27.2.2.2.2.2.2.2.2.2.2.2))] := hD
      refine lv_aload_n hx hb dX6_comes_209 rfl (lv_at hl 1 rfl) ?_
      refine va_get (D := G.1) (ci := 5) (v := .ref (a 1)) (C := RX6) (T := TX6) (N := 12) hx hb hts hX6 hown hK.1 hP 0 rfl rfl 0 (by decide) (hts _ tw_588) (fun _ h9 => h9) rfl dX6_comes_210 ?_
      refine lv_iload hx hb dX6_comes_213 (lv_at hl 0 rfl) ?_
      refine lv_iconst (v := (3 : Int32)) hx hb dX6_comes_215 (by decide) ?_
      refine lv_iadd hx hb dX6_comes_216 ?_
      refine lv_iload_n hx hb dX6_comes_217 rfl (lv_at hl 4 rfl) ?_
      refine lv_if_eq (tgt := 225) hx hb dX6_comes_218 (by decide) (fun c36 => ?_) (fun c36 => ?_)
      · have hf := g_ifT c36 hf
        refine lv_iconst (v := (0 : Int32)) hx hb dX6_comes_225 (by decide) ?_
        obtain ⟨g37, hf⟩ := g_gdS hf
        refine va_iast hx hb hK.1 hP hD hS 1 0 rfl rfl (g_in_vp g37) dX6_comes_226 (fun H locs hP hD hS => ?_)
        have hP : va_P G.1 vwCl [((a 0), .inr (5, [.ref (a 1), .ref (a 2), .ref (a 3), .ref (a 4), .int r27.2.2.2.2.1, .ref (a 5), .int r27.2.2.2.2.2.2.1, .int r27.2.2.2.2.2.2.2.1, .int r27.2.2.2.2.2.2.2.2.1, .ref (a 6), .ref (a 7), .ref (a 8)])), ((a 1), .inl (G.2.1, 411, .inl (upd (upd (upd (upd r27.1 ((14 : Int32) + ((7 : Int32) * (r27.1 (3 : Int32).toNatClampNeg))).toNatClampNeg x1) (((14 : Int32) + ((7 : Int32) * (r27.1 (3 : Int32).toNatClampNeg))) + (1 : Int32)).toNatClampNeg ((upd r27.1 ((14 : Int32) + ((7 : Int32) * (r27.1 (3 : Int32).toNatClampNeg))).toNatClampNeg x1) (1 : Int32).toNatClampNeg)) (((14 : Int32) + ((7 : Int32) * (r27.1 (3 : Int32).toNatClampNeg))) + (2 : Int32)).toNatClampNeg ((1 : Int32) - r33)) (((14 : Int32) + ((7 : Int32) * (r27.1 (3 : Int32).toNatClampNeg))) + (3 : Int32)).toNatClampNeg (0 : Int32)))), ((a 2), .inl (G.2.1, 1644, .inl r27.2.1)), ((a 3), .inl (G.2.1, 411, .inl r27.2.2.1)), ((a 4), .inl (G.2.1, 411, .inl r27.2.2.2.1)), ((a 5), .inl (G.2.2.1, 60, .inl r27.2.2.2.2.2.1)), ((a 6), .inl (G.2.1, 4, .inl r27.2.2.2.2.2.2.2.2.2.1)), ((a 7), .inl (G.2.1, 4, .inl r27.2.2.2.2.2.2.2.2.2.2.1)), ((a 8), .inl (G.2.1, 4, .inl r27.2.2.2.2.2.2.2.2.2.2.2))] H := hP
        have hD : va_D (va_A w0 s.heap.size) [((a 0), .inr (5, [.ref (a 1), .ref (a 2), .ref (a 3), .ref (a 4), .int r27.2.2.2.2.1, .ref (a 5), .int r27.2.2.2.2.2.2.1, .int r27.2.2.2.2.2.2.2.1, .int r27.2.2.2.2.2.2.2.2.1, .ref (a 6), .ref (a 7), .ref (a 8)])), ((a 1), .inl (G.2.1, 411, .inl (upd (upd (upd (upd r27.1 ((14 : Int32) + ((7 : Int32) * (r27.1 (3 : Int32).toNatClampNeg))).toNatClampNeg x1) (((14 : Int32) + ((7 : Int32) * (r27.1 (3 : Int32).toNatClampNeg))) + (1 : Int32)).toNatClampNeg ((upd r27.1 ((14 : Int32) + ((7 : Int32) * (r27.1 (3 : Int32).toNatClampNeg))).toNatClampNeg x1) (1 : Int32).toNatClampNeg)) (((14 : Int32) + ((7 : Int32) * (r27.1 (3 : Int32).toNatClampNeg))) + (2 : Int32)).toNatClampNeg ((1 : Int32) - r33)) (((14 : Int32) + ((7 : Int32) * (r27.1 (3 : Int32).toNatClampNeg))) + (3 : Int32)).toNatClampNeg (0 : Int32)))), ((a 2), .inl (G.2.1, 1644, .inl r27.2.1)), ((a 3), .inl (G.2.1, 411, .inl r27.2.2.1)), ((a 4), .inl (G.2.1, 411, .inl r27.2.2.2.1)), ((a 5), .inl (G.2.2.1, 60, .inl r27.2.2.2.2.2.1)), ((a 6), .inl (G.2.1, 4, .inl r27.2.2.2.2.2.2.2.2.2.1)), ((a 7), .inl (G.2.1, 4, .inl r27.2.2.2.2.2.2.2.2.2.2.1)), ((a 8), .inl (G.2.1, 4, .inl r27.2.2.2.2.2.2.2.2.2.2.2))] := hD
        refine lv_iconst (v := (1 : Int32)) hx hb dX6_comes_227 (by decide) ?_
        refine lv_istore (lv' := [(5, .int (1 : Int32)), (4, .int ((14 : Int32) + ((7 : Int32) * (r27.1 (3 : Int32).toNatClampNeg)))), (0, .ref (a 0)), (1, .int x1), (2, .int x2), (3, .int x3)]) hx hb dX6_comes_228 hl (by decide) rfl (fun ls hl => ?_)
        exact kX6_comes_b230 C0 2000 _ _ _ _ _ _ _ _ _ _ _ _ _ _ _ hf _ _ hP hD hS ls (lv_sub hl [2, 1, 0] rfl)
      · have hf := g_ifF c36 hf
        refine lv_iconst (v := (1 : Int32)) hx hb dX6_comes_221 (by decide) ?_
        refine lv_goto (tgt := 226) hx hb dX6_comes_222 (by decide) ?_
        obtain ⟨g44, hf⟩ := g_gdS hf
        refine va_iast hx hb hK.1 hP hD hS 1 0 rfl rfl (g_in_vp g44) dX6_comes_226 (fun H locs hP hD hS => ?_)
        have hP : va_P G.1 vwCl [((a 0), .inr (5, [.ref (a 1), .ref (a 2), .ref (a 3), .ref (a 4), .int r27.2.2.2.2.1, .ref (a 5), .int r27.2.2.2.2.2.2.1, .int r27.2.2.2.2.2.2.2.1, .int r27.2.2.2.2.2.2.2.2.1, .ref (a 6), .ref (a 7), .ref (a 8)])), ((a 1), .inl (G.2.1, 411, .inl (upd (upd (upd (upd r27.1 ((14 : Int32) + ((7 : Int32) * (r27.1 (3 : Int32).toNatClampNeg))).toNatClampNeg x1) (((14 : Int32) + ((7 : Int32) * (r27.1 (3 : Int32).toNatClampNeg))) + (1 : Int32)).toNatClampNeg ((upd r27.1 ((14 : Int32) + ((7 : Int32) * (r27.1 (3 : Int32).toNatClampNeg))).toNatClampNeg x1) (1 : Int32).toNatClampNeg)) (((14 : Int32) + ((7 : Int32) * (r27.1 (3 : Int32).toNatClampNeg))) + (2 : Int32)).toNatClampNeg ((1 : Int32) - r33)) (((14 : Int32) + ((7 : Int32) * (r27.1 (3 : Int32).toNatClampNeg))) + (3 : Int32)).toNatClampNeg (1 : Int32)))), ((a 2), .inl (G.2.1, 1644, .inl r27.2.1)), ((a 3), .inl (G.2.1, 411, .inl r27.2.2.1)), ((a 4), .inl (G.2.1, 411, .inl r27.2.2.2.1)), ((a 5), .inl (G.2.2.1, 60, .inl r27.2.2.2.2.2.1)), ((a 6), .inl (G.2.1, 4, .inl r27.2.2.2.2.2.2.2.2.2.1)), ((a 7), .inl (G.2.1, 4, .inl r27.2.2.2.2.2.2.2.2.2.2.1)), ((a 8), .inl (G.2.1, 4, .inl r27.2.2.2.2.2.2.2.2.2.2.2))] H := hP
        have hD : va_D (va_A w0 s.heap.size) [((a 0), .inr (5, [.ref (a 1), .ref (a 2), .ref (a 3), .ref (a 4), .int r27.2.2.2.2.1, .ref (a 5), .int r27.2.2.2.2.2.2.1, .int r27.2.2.2.2.2.2.2.1, .int r27.2.2.2.2.2.2.2.2.1, .ref (a 6), .ref (a 7), .ref (a 8)])), ((a 1), .inl (G.2.1, 411, .inl (upd (upd (upd (upd r27.1 ((14 : Int32) + ((7 : Int32) * (r27.1 (3 : Int32).toNatClampNeg))).toNatClampNeg x1) (((14 : Int32) + ((7 : Int32) * (r27.1 (3 : Int32).toNatClampNeg))) + (1 : Int32)).toNatClampNeg ((upd r27.1 ((14 : Int32) + ((7 : Int32) * (r27.1 (3 : Int32).toNatClampNeg))).toNatClampNeg x1) (1 : Int32).toNatClampNeg)) (((14 : Int32) + ((7 : Int32) * (r27.1 (3 : Int32).toNatClampNeg))) + (2 : Int32)).toNatClampNeg ((1 : Int32) - r33)) (((14 : Int32) + ((7 : Int32) * (r27.1 (3 : Int32).toNatClampNeg))) + (3 : Int32)).toNatClampNeg (1 : Int32)))), ((a 2), .inl (G.2.1, 1644, .inl r27.2.1)), ((a 3), .inl (G.2.1, 411, .inl r27.2.2.1)), ((a 4), .inl (G.2.1, 411, .inl r27.2.2.2.1)), ((a 5), .inl (G.2.2.1, 60, .inl r27.2.2.2.2.2.1)), ((a 6), .inl (G.2.1, 4, .inl r27.2.2.2.2.2.2.2.2.2.1)), ((a 7), .inl (G.2.1, 4, .inl r27.2.2.2.2.2.2.2.2.2.2.1)), ((a 8), .inl (G.2.1, 4, .inl r27.2.2.2.2.2.2.2.2.2.2.2))] := hD
        refine lv_iconst (v := (1 : Int32)) hx hb dX6_comes_227 (by decide) ?_
        refine lv_istore (lv' := [(5, .int (1 : Int32)), (4, .int ((14 : Int32) + ((7 : Int32) * (r27.1 (3 : Int32).toNatClampNeg)))), (0, .ref (a 0)), (1, .int x1), (2, .int x2), (3, .int x3)]) hx hb dX6_comes_228 hl (by decide) rfl (fun ls hl => ?_)
        exact kX6_comes_b230 C0 2000 _ _ _ _ _ _ _ _ _ _ _ _ _ _ _ hf _ _ hP hD hS ls (lv_sub hl [2, 1, 0] rfl)
    · have hf := g_ifF c24 hf
      refine lv_aload_n hx hb dX6_comes_126 rfl (lv_at hl 0 rfl) ?_
      refine va_get (D := G.1) (ci := 5) (v := .ref (a 7)) (C := RX6) (T := TX6) (N := 12) hx hb hts hX6 hown hK.1 hP 0 rfl rfl 10 (by decide) (hts _ tw_598) (fun _ h9 => h9) rfl dX6_comes_127 ?_
      refine lv_iload hx hb dX6_comes_130 (lv_at hl 4 rfl) ?_
      refine lv_aload_n hx hb dX6_comes_132 rfl (lv_at hl 0 rfl) ?_
      refine va_get (D := G.1) (ci := 5) (v := .ref (a 8)) (C := RX6) (T := TX6) (N := 12) hx hb hts hX6 hown hK.1 hP 0 rfl rfl 11 (by decide) (hts _ tw_599) (fun _ h9 => h9) rfl dX6_comes_133 ?_
      refine lv_iload hx hb dX6_comes_136 (lv_at hl 4 rfl) ?_
      obtain ⟨g45, hf⟩ := g_gdS hf
      refine va_iald hx hb hK.1 hP 8 0 rfl rfl (g_in_vp g45) dX6_comes_138 ?_
      obtain ⟨g46, hf⟩ := g_gdS hf
      refine va_iast hx hb hK.1 hP hD hS 7 0 rfl rfl (g_in_vp g46) dX6_comes_139 (fun H locs hP hD hS => ?_)
      have hP : va_P G.1 vwCl [((a 0), .inr (5, [.ref (a 1), .ref (a 2), .ref (a 3), .ref (a 4), .int sta, .ref (a 5), .int typ, .int att, .int rea, .ref (a 6), .ref (a 7), .ref (a 8)])), ((a 1), .inl (G.2.1, 411, .inl ss)), ((a 2), .inl (G.2.1, 1644, .inl was)), ((a 3), .inl (G.2.1, 411, .inl beg)), ((a 4), .inl (G.2.1, 411, .inl asi)), ((a 5), .inl (G.2.2.1, 60, .inl txt)), ((a 6), .inl (G.2.1, 4, .inl got)), ((a 7), .inl (G.2.1, 4, .inl (upd row x4.toNatClampNeg (oth x4.toNatClampNeg)))), ((a 8), .inl (G.2.1, 4, .inl oth))] H := hP
      have hD : va_D (va_A w0 s.heap.size) [((a 0), .inr (5, [.ref (a 1), .ref (a 2), .ref (a 3), .ref (a 4), .int sta, .ref (a 5), .int typ, .int att, .int rea, .ref (a 6), .ref (a 7), .ref (a 8)])), ((a 1), .inl (G.2.1, 411, .inl ss)), ((a 2), .inl (G.2.1, 1644, .inl was)), ((a 3), .inl (G.2.1, 411, .inl beg)), ((a 4), .inl (G.2.1, 411, .inl asi)), ((a 5), .inl (G.2.2.1, 60, .inl txt)), ((a 6), .inl (G.2.1, 4, .inl got)), ((a 7), .inl (G.2.1, 4, .inl (upd row x4.toNatClampNeg (oth x4.toNatClampNeg)))), ((a 8), .inl (G.2.1, 4, .inl oth))] := hD
      refine lv_iinc (v := (x4 + (1 : Int32))) (lv' := [(4, .int (x4 + (1 : Int32))), (0, .ref (a 0)), (1, .int x1), (2, .int x2), (3, .int x3)]) hx hb dX6_comes_140 hl (k := 4) rfl rfl (by decide) rfl (fun ls hl => ?_)
      refine lv_goto (tgt := 120) hx hb dX6_comes_143 (by decide) ?_
      exact ih _ _ _ _ _ _ _ _ _ _ _ _ _ _ _ _ _ hf _ _ hP hD hS ls (lv_sub hl [1, 2, 3, 4, 0] rfl)
def fX6_comes_b60 : Nat → Int32 → Int32 → Int32 → Int32 → (Nat → Int32) → (Nat → Int32) → (Nat → Int32) → (Nat → Int32) → Int32 → (Nat → Int32) → Int32 → Int32 → Int32 → (Nat → Int32) → (Nat → Int32) → (Nat → Int32) → Option (Int32 × (Nat → Int32) × (Nat → Int32) × (Nat → Int32) × (Nat → Int32) × Int32 × (Nat → Int32) × Int32 × Int32 × Int32 × (Nat → Int32) × (Nat → Int32) × (Nat → Int32))
  | 0, _, _, _, _, _, _, _, _, _, _, _, _, _, _, _, _ => none
  | n + 1, x1, x2, x3, x4, ss, was, beg, asi, sta, txt, typ, att, rea, got, row, oth => (if (4 : Int32) ≤ x4 then ((fX6_first ss was beg asi sta txt typ att rea got row oth).bind fun r11 => ((fX6_makes x2 r11 ss was beg asi sta txt typ att rea got row oth).bind fun r13 => ((fX6_first r13.1 r13.2.1 r13.2.2.1 r13.2.2.2.1 r13.2.2.2.2.1 r13.2.2.2.2.2.1 r13.2.2.2.2.2.2.1 r13.2.2.2.2.2.2.2.1 r13.2.2.2.2.2.2.2.2.1 r13.2.2.2.2.2.2.2.2.2.1 r13.2.2.2.2.2.2.2.2.2.2.1 r13.2.2.2.2.2.2.2.2.2.2.2).bind fun r15 => g_gd (g_in (1 : Int32) 411) (((fX6_lays r15 x1 (r13.1 (1 : Int32).toNatClampNeg) r13.1 r13.2.1 r13.2.2.1 r13.2.2.2.1 r13.2.2.2.2.1 r13.2.2.2.2.2.1 r13.2.2.2.2.2.2.1 r13.2.2.2.2.2.2.2.1 r13.2.2.2.2.2.2.2.2.1 r13.2.2.2.2.2.2.2.2.2.1 r13.2.2.2.2.2.2.2.2.2.2.1 r13.2.2.2.2.2.2.2.2.2.2.2).bind fun r18 => ((fX6_areBoth r18.1 r18.2.1 r18.2.2.1 r18.2.2.2.1 r18.2.2.2.2.1 r18.2.2.2.2.2.1 r18.2.2.2.2.2.2.1 r18.2.2.2.2.2.2.2.1 r18.2.2.2.2.2.2.2.2.1 r18.2.2.2.2.2.2.2.2.2.1 r18.2.2.2.2.2.2.2.2.2.2.1 r18.2.2.2.2.2.2.2.2.2.2.2).bind fun r20 => (if r20 = (0 : Int32) then g_gd (g_in (1 : Int32) 411) (some ((r18.1 (1 : Int32).toNatClampNeg), r18.1, r18.2.1, r18.2.2.1, r18.2.2.2.1, r18.2.2.2.2.1, r18.2.2.2.2.2.1, r18.2.2.2.2.2.2.1, r18.2.2.2.2.2.2.2.1, r18.2.2.2.2.2.2.2.2.1, r18.2.2.2.2.2.2.2.2.2.1, r18.2.2.2.2.2.2.2.2.2.2.1, r18.2.2.2.2.2.2.2.2.2.2.2)) else fX6_comes_b120 2000 x1 x2 x3 (0 : Int32) r18.1 r18.2.1 r18.2.2.1 r18.2.2.2.1 r18.2.2.2.2.1 r18.2.2.2.2.2.1 r18.2.2.2.2.2.2.1 r18.2.2.2.2.2.2.2.1 r18.2.2.2.2.2.2.2.2.1 r18.2.2.2.2.2.2.2.2.2.1 r18.2.2.2.2.2.2.2.2.2.2.1 r18.2.2.2.2.2.2.2.2.2.2.2))))))) else g_gd (g_in x4 4) (g_gd (g_in x4 4) (fX6_comes_b60 n x1 x2 x3 (x4 + (1 : Int32)) ss was beg asi sta txt typ att rea got row (upd oth x4.toNatClampNeg (row x4.toNatClampNeg)))))
set_option maxHeartbeats 4000000 in
set_option maxRecDepth 100000 in
theorem kX6_comes_b60 {p : Program} {l : Launch} {e : Env} {s : State} {m : MethodId} {args : Array Value} {below : List Frame} {meth : Method} {c : Code} {G : gT} {a : Nat → Nat} {w0 : va_W} (C0 : gX p s m args meth c cX6_comes 6 (some .int) RX6 G) :
    ∀ (n : Nat) (x1 : Int32) (x2 : Int32) (x3 : Int32) (x4 : Int32) (ss : Nat → Int32) (was : Nat → Int32) (beg : Nat → Int32) (asi : Nat → Int32) (sta : Int32) (txt : Nat → Int32) (typ : Int32) (att : Int32) (rea : Int32) (got : Nat → Int32) (row : Nat → Int32) (oth : Nat → Int32) (u : Int32 × (Nat → Int32) × (Nat → Int32) × (Nat → Int32) × (Nat → Int32) × Int32 × (Nat → Int32) × Int32 × Int32 × Int32 × (Nat → Int32) × (Nat → Int32) × (Nat → Int32)), fX6_comes_b60 n x1 x2 x3 x4 ss was beg asi sta txt typ att rea got row oth = some u → ∀ (H : Heap) (locs : List Loc), va_P G.1 vwCl [((a 0), .inr (5, [.ref (a 1), .ref (a 2), .ref (a 3), .ref (a 4), .int sta, .ref (a 5), .int typ, .int att, .int rea, .ref (a 6), .ref (a 7), .ref (a 8)])), ((a 1), .inl (G.2.1, 411, .inl ss)), ((a 2), .inl (G.2.1, 1644, .inl was)), ((a 3), .inl (G.2.1, 411, .inl beg)), ((a 4), .inl (G.2.1, 411, .inl asi)), ((a 5), .inl (G.2.2.1, 60, .inl txt)), ((a 6), .inl (G.2.1, 4, .inl got)), ((a 7), .inl (G.2.1, 4, .inl row)), ((a 8), .inl (G.2.1, 4, .inl oth))] H → va_D (va_A w0 s.heap.size) [((a 0), .inr (5, [.ref (a 1), .ref (a 2), .ref (a 3), .ref (a 4), .int sta, .ref (a 5), .int typ, .int att, .int rea, .ref (a 6), .ref (a 7), .ref (a 8)])), ((a 1), .inl (G.2.1, 411, .inl ss)), ((a 2), .inl (G.2.1, 1644, .inl was)), ((a 3), .inl (G.2.1, 411, .inl beg)), ((a 4), .inl (G.2.1, 411, .inl asi)), ((a 5), .inl (G.2.2.1, 60, .inl txt)), ((a 6), .inl (G.2.1, 4, .inl got)), ((a 7), .inl (G.2.1, 4, .inl row)), ((a 8), .inl (G.2.1, 4, .inl oth))] → va_S (va_A w0 s.heap.size) s.heap H locs → ∀ ls, lv_has ls 6 [(0, .ref (a 0)), (1, .int x1), (2, .int x2), (3, .int x3), (4, .int x4)] → gW p l e (headSpec wsX6_comes rmX6_comes).room s m args below meth c G w0 (some (.int u.1)) (modW G a u.2.1 u.2.2.1 u.2.2.2.1 u.2.2.2.2.1 u.2.2.2.2.2.1 u.2.2.2.2.2.2.1 u.2.2.2.2.2.2.2.1 u.2.2.2.2.2.2.2.2.1 u.2.2.2.2.2.2.2.2.2.1 u.2.2.2.2.2.2.2.2.2.2.1 u.2.2.2.2.2.2.2.2.2.2.2.1 u.2.2.2.2.2.2.2.2.2.2.2.2) H locs 60 ls [] := by
  obtain ⟨hx, hb, hr, hts, hown, hlocks, hml, hK⟩ := id C0
  have hA : ∀ q : Nat, s.heap.size ≤ q → va_A w0 s.heap.size q := fun q h => Or.inr h
  intro n
  induction n with
  | zero =>
    intro x1 x2 x3 x4 ss was beg asi sta txt typ att rea got row oth u hf H locs hP hD hS ls hl
    have hf : (none : Option (Int32 × (Nat → Int32) × (Nat → Int32) × (Nat → Int32) × (Nat → Int32) × Int32 × (Nat → Int32) × Int32 × Int32 × Int32 × (Nat → Int32) × (Nat → Int32) × (Nat → Int32))) = some u := hf
    cases hf
  | succ n ih =>
    intro x1 x2 x3 x4 ss was beg asi sta txt typ att rea got row oth u hf H locs hP hD hS ls hl
    rw [fX6_comes_b60] at hf
    refine lv_iload hx hb dX6_comes_60 (lv_at hl 4 rfl) ?_
    refine lv_iconst (v := (4 : Int32)) hx hb dX6_comes_62 (by decide) ?_
    refine lv_icmp_ge (tgt := 86) hx hb dX6_comes_63 (by decide) (fun c10 => ?_) (fun c10 => ?_)
    · have hf := g_ifT c10 hf
      refine lv_aload_n hx hb dX6_comes_86 rfl (lv_at hl 0 rfl) ?_
      refine lv_iload_n hx hb dX6_comes_87 rfl (lv_at hl 2 rfl) ?_
      refine lv_aload_n hx hb dX6_comes_88 rfl (lv_at hl 0 rfl) ?_
      obtain ⟨r11, e12, hf⟩ := g_bdS hf
      refine g_contR (st1 := [.int r11, .int x2, .ref (a 0)]) (g_runVR (As := []) (rest := [.int x2, .ref (a 0)]) ⟨hx, hb, hml, hown, hts⟩ (qX6_first l G a e12) (cwV 0 hts (TB_V TB_id tw_727 tw_729 tw_26 tw_54 tw_730) rfl rfl rfl (by decide +kernel) ⟨Nat.le_of_ble_eq_true rfl, Nat.le_of_ble_eq_true rfl⟩) hK (hP.sub [0, 1, 2, 3, 4, 5, 6, 7, 8] rfl) 0 rfl rfl rfl hl.1 rfl (Nat.le_of_ble_eq_true rfl) dX6_comes_89) rfl ?_
      obtain ⟨r13, e14, hf⟩ := g_bdS hf
      refine g_contC (st1 := []) (g_runVC (As := [.int x2, .int r11]) (rest := []) ⟨hx, hb, hml, hown, hts⟩ (qX6_makes l G a e14) (cwV 2 hts (TB_V TB_id tw_679 tw_681 tw_19 tw_54 tw_682) rfl rfl rfl (by decide +kernel) ⟨Nat.le_of_ble_eq_true rfl, Nat.le_of_ble_eq_true rfl⟩) hK (hP.sub [0, 1, 2, 3, 4, 5, 6, 7, 8] rfl) (hD.sub [0, 1, 2, 3, 4, 5, 6, 7, 8] (by decide) rfl) 0 rfl rfl rfl hl.1 rfl (Nat.le_of_ble_eq_true rfl) dX6_comes_92) rfl hP hD hS hA [0, 1, 2, 3, 4, 5, 6, 7, 8] rfl rfl (fun H locs hP hD hS => ?_)
      have hP : va_P G.1 vwCl [((a 0), .inr (5, [.ref (a 1), .ref (a 2), .ref (a 3), .ref (a 4), .int r13.2.2.2.2.1, .ref (a 5), .int r13.2.2.2.2.2.2.1, .int r13.2.2.2.2.2.2.2.1, .int r13.2.2.2.2.2.2.2.2.1, .ref (a 6), .ref (a 7), .ref (a 8)])), ((a 1), .inl (G.2.1, 411, .inl r13.1)), ((a 2), .inl (G.2.1, 1644, .inl r13.2.1)), ((a 3), .inl (G.2.1, 411, .inl r13.2.2.1)), ((a 4), .inl (G.2.1, 411, .inl r13.2.2.2.1)), ((a 5), .inl (G.2.2.1, 60, .inl r13.2.2.2.2.2.1)), ((a 6), .inl (G.2.1, 4, .inl r13.2.2.2.2.2.2.2.2.2.1)), ((a 7), .inl (G.2.1, 4, .inl r13.2.2.2.2.2.2.2.2.2.2.1)), ((a 8), .inl (G.2.1, 4, .inl r13.2.2.2.2.2.2.2.2.2.2.2))] H := hP
      have hD : va_D (va_A w0 s.heap.size) [((a 0), .inr (5, [.ref (a 1), .ref (a 2), .ref (a 3), .ref (a 4), .int r13.2.2.2.2.1, .ref (a 5), .int r13.2.2.2.2.2.2.1, .int r13.2.2.2.2.2.2.2.1, .int r13.2.2.2.2.2.2.2.2.1, .ref (a 6), .ref (a 7), .ref (a 8)])), ((a 1), .inl (G.2.1, 411, .inl r13.1)), ((a 2), .inl (G.2.1, 1644, .inl r13.2.1)), ((a 3), .inl (G.2.1, 411, .inl r13.2.2.1)), ((a 4), .inl (G.2.1, 411, .inl r13.2.2.2.1)), ((a 5), .inl (G.2.2.1, 60, .inl r13.2.2.2.2.2.1)), ((a 6), .inl (G.2.1, 4, .inl r13.2.2.2.2.2.2.2.2.2.1)), ((a 7), .inl (G.2.1, 4, .inl r13.2.2.2.2.2.2.2.2.2.2.1)), ((a 8), .inl (G.2.1, 4, .inl r13.2.2.2.2.2.2.2.2.2.2.2))] := hD
      refine lv_aload_n hx hb dX6_comes_95 rfl (lv_at hl 0 rfl) ?_
      refine lv_aload_n hx hb dX6_comes_96 rfl (lv_at hl 0 rfl) ?_
      obtain ⟨r15, e16, hf⟩ := g_bdS hf
      refine g_contR (st1 := [.int r15, .ref (a 0)]) (g_runVR (As := []) (rest := [.ref (a 0)]) ⟨hx, hb, hml, hown, hts⟩ (qX6_first l G a e16) (cwV 0 hts (TB_V TB_id tw_727 tw_729 tw_26 tw_54 tw_730) rfl rfl rfl (by decide +kernel) ⟨Nat.le_of_ble_eq_true rfl, Nat.le_of_ble_eq_true rfl⟩) hK (hP.sub [0, 1, 2, 3, 4, 5, 6, 7, 8] rfl) 0 rfl rfl rfl hl.1 rfl (Nat.le_of_ble_eq_true rfl) dX6_comes_97) rfl ?_
      refine lv_iload_n hx hb dX6_comes_100 rfl (lv_at hl 1 rfl) ?_
      refine lv_aload_n hx hb dX6_comes_101 rfl (lv_at hl 0 rfl) ?_
      refine va_get (D := G.1) (ci := 5) (v := .ref (a 1)) (C := RX6) (T := TX6) (N := 12) hx hb hts hX6 hown hK.1 hP 0 rfl rfl 0 (by decide) (hts _ tw_588) (fun _ h9 => h9) rfl dX6_comes_102 ?_
      refine lv_iconst (v := (1 : Int32)) hx hb dX6_comes_105 (by decide) ?_
      obtain ⟨g17, hf⟩ := g_gdS hf
      refine va_iald hx hb hK.1 hP 1 0 rfl rfl (g_in_vp g17) dX6_comes_106 ?_
      obtain ⟨r18, e19, hf⟩ := g_bdS hf
      refine g_contC (st1 := []) (g_runVC (As := [.int r15, .int x1, .int (r13.1 (1 : Int32).toNatClampNeg)]) (rest := []) ⟨hx, hb, hml, hown, hts⟩ (qX6_lays l G a e19) (cwV 3 hts (TB_V TB_id tw_731 tw_733 tw_27 tw_54 tw_734) rfl rfl rfl (by decide +kernel) ⟨Nat.le_of_ble_eq_true rfl, Nat.le_of_ble_eq_true rfl⟩) hK (hP.sub [0, 1, 2, 3, 4, 5, 6, 7, 8] rfl) (hD.sub [0, 1, 2, 3, 4, 5, 6, 7, 8] (by decide) rfl) 0 rfl rfl rfl hl.1 rfl (Nat.le_of_ble_eq_true rfl) dX6_comes_107) rfl hP hD hS hA [0, 1, 2, 3, 4, 5, 6, 7, 8] rfl rfl (fun H locs hP hD hS => ?_)
      have hP : va_P G.1 vwCl [((a 0), .inr (5, [.ref (a 1), .ref (a 2), .ref (a 3), .ref (a 4), .int r18.2.2.2.2.1, .ref (a 5), .int r18.2.2.2.2.2.2.1, .int r18.2.2.2.2.2.2.2.1, .int r18.2.2.2.2.2.2.2.2.1, .ref (a 6), .ref (a 7), .ref (a 8)])), ((a 1), .inl (G.2.1, 411, .inl r18.1)), ((a 2), .inl (G.2.1, 1644, .inl r18.2.1)), ((a 3), .inl (G.2.1, 411, .inl r18.2.2.1)), ((a 4), .inl (G.2.1, 411, .inl r18.2.2.2.1)), ((a 5), .inl (G.2.2.1, 60, .inl r18.2.2.2.2.2.1)), ((a 6), .inl (G.2.1, 4, .inl r18.2.2.2.2.2.2.2.2.2.1)), ((a 7), .inl (G.2.1, 4, .inl r18.2.2.2.2.2.2.2.2.2.2.1)), ((a 8), .inl (G.2.1, 4, .inl r18.2.2.2.2.2.2.2.2.2.2.2))] H := hP
      have hD : va_D (va_A w0 s.heap.size) [((a 0), .inr (5, [.ref (a 1), .ref (a 2), .ref (a 3), .ref (a 4), .int r18.2.2.2.2.1, .ref (a 5), .int r18.2.2.2.2.2.2.1, .int r18.2.2.2.2.2.2.2.1, .int r18.2.2.2.2.2.2.2.2.1, .ref (a 6), .ref (a 7), .ref (a 8)])), ((a 1), .inl (G.2.1, 411, .inl r18.1)), ((a 2), .inl (G.2.1, 1644, .inl r18.2.1)), ((a 3), .inl (G.2.1, 411, .inl r18.2.2.1)), ((a 4), .inl (G.2.1, 411, .inl r18.2.2.2.1)), ((a 5), .inl (G.2.2.1, 60, .inl r18.2.2.2.2.2.1)), ((a 6), .inl (G.2.1, 4, .inl r18.2.2.2.2.2.2.2.2.2.1)), ((a 7), .inl (G.2.1, 4, .inl r18.2.2.2.2.2.2.2.2.2.2.1)), ((a 8), .inl (G.2.1, 4, .inl r18.2.2.2.2.2.2.2.2.2.2.2))] := hD
      refine lv_aload_n hx hb dX6_comes_110 rfl (lv_at hl 0 rfl) ?_
      obtain ⟨r20, e21, hf⟩ := g_bdS hf
      refine g_contR (st1 := [.int r20]) (g_runVR (As := []) (rest := []) ⟨hx, hb, hml, hown, hts⟩ (qX6_areBoth l G a e21) (cwV 0 hts (TB_V TB_id tw_691 tw_693 tw_21 tw_54 tw_694) rfl rfl rfl (by decide +kernel) ⟨Nat.le_of_ble_eq_true rfl, Nat.le_of_ble_eq_true rfl⟩) hK (hP.sub [0, 1, 2, 3, 4, 5, 6, 7, 8] rfl) 0 rfl rfl rfl hl.1 rfl (Nat.le_of_ble_eq_true rfl) dX6_comes_111) rfl ?_
      refine lv_if_eq (tgt := 271) hx hb dX6_comes_114 (by decide) (fun c22 => ?_) (fun c22 => ?_)
      · have hf := g_ifT c22 hf
        refine lv_aload_n hx hb dX6_comes_271 rfl (lv_at hl 0 rfl) ?_
        refine va_get (D := G.1) (ci := 5) (v := .ref (a 1)) (C := RX6) (T := TX6) (N := 12) hx hb hts hX6 hown hK.1 hP 0 rfl rfl 0 (by decide) (hts _ tw_588) (fun _ h9 => h9) rfl dX6_comes_272 ?_
        refine lv_iconst (v := (1 : Int32)) hx hb dX6_comes_275 (by decide) ?_
        obtain ⟨g23, hf⟩ := g_gdS hf
        refine va_iald hx hb hK.1 hP 1 0 rfl rfl (g_in_vp g23) dX6_comes_276 ?_
        cases hf
        exact g_iretC hx hb hr hlocks hP hD hS dX6_comes_277
      · have hf := g_ifF c22 hf
        refine lv_iconst (v := (0 : Int32)) hx hb dX6_comes_117 (by decide) ?_
        refine lv_istore (lv' := [(4, .int (0 : Int32)), (0, .ref (a 0)), (1, .int x1), (2, .int x2), (3, .int x3)]) hx hb dX6_comes_118 hl (by decide) rfl (fun ls hl => ?_)
        exact kX6_comes_b120 C0 2000 _ _ _ _ _ _ _ _ _ _ _ _ _ _ _ _ _ hf _ _ hP hD hS ls (lv_sub hl [1, 2, 3, 4, 0] rfl)
    · have hf := g_ifF c10 hf
      refine lv_aload_n hx hb dX6_comes_66 rfl (lv_at hl 0 rfl) ?_
      refine va_get (D := G.1) (ci := 5) (v := .ref (a 8)) (C := RX6) (T := TX6) (N := 12) hx hb hts hX6 hown hK.1 hP 0 rfl rfl 11 (by decide) (hts _ tw_599) (fun _ h9 => h9) rfl dX6_comes_67 ?_
      refine lv_iload hx hb dX6_comes_70 (lv_at hl 4 rfl) ?_
      refine lv_aload_n hx hb dX6_comes_72 rfl (lv_at hl 0 rfl) ?_
      refine va_get (D := G.1) (ci := 5) (v := .ref (a 7)) (C := RX6) (T := TX6) (N := 12) hx hb hts hX6 hown hK.1 hP 0 rfl rfl 10 (by decide) (hts _ tw_598) (fun _ h9 => h9) rfl dX6_comes_73 ?_
      refine lv_iload hx hb dX6_comes_76 (lv_at hl 4 rfl) ?_
      obtain ⟨g47, hf⟩ := g_gdS hf
      refine va_iald hx hb hK.1 hP 7 0 rfl rfl (g_in_vp g47) dX6_comes_78 ?_
      obtain ⟨g48, hf⟩ := g_gdS hf
      refine va_iast hx hb hK.1 hP hD hS 8 0 rfl rfl (g_in_vp g48) dX6_comes_79 (fun H locs hP hD hS => ?_)
      have hP : va_P G.1 vwCl [((a 0), .inr (5, [.ref (a 1), .ref (a 2), .ref (a 3), .ref (a 4), .int sta, .ref (a 5), .int typ, .int att, .int rea, .ref (a 6), .ref (a 7), .ref (a 8)])), ((a 1), .inl (G.2.1, 411, .inl ss)), ((a 2), .inl (G.2.1, 1644, .inl was)), ((a 3), .inl (G.2.1, 411, .inl beg)), ((a 4), .inl (G.2.1, 411, .inl asi)), ((a 5), .inl (G.2.2.1, 60, .inl txt)), ((a 6), .inl (G.2.1, 4, .inl got)), ((a 7), .inl (G.2.1, 4, .inl row)), ((a 8), .inl (G.2.1, 4, .inl (upd oth x4.toNatClampNeg (row x4.toNatClampNeg))))] H := hP
      have hD : va_D (va_A w0 s.heap.size) [((a 0), .inr (5, [.ref (a 1), .ref (a 2), .ref (a 3), .ref (a 4), .int sta, .ref (a 5), .int typ, .int att, .int rea, .ref (a 6), .ref (a 7), .ref (a 8)])), ((a 1), .inl (G.2.1, 411, .inl ss)), ((a 2), .inl (G.2.1, 1644, .inl was)), ((a 3), .inl (G.2.1, 411, .inl beg)), ((a 4), .inl (G.2.1, 411, .inl asi)), ((a 5), .inl (G.2.2.1, 60, .inl txt)), ((a 6), .inl (G.2.1, 4, .inl got)), ((a 7), .inl (G.2.1, 4, .inl row)), ((a 8), .inl (G.2.1, 4, .inl (upd oth x4.toNatClampNeg (row x4.toNatClampNeg))))] := hD
      refine lv_iinc (v := (x4 + (1 : Int32))) (lv' := [(4, .int (x4 + (1 : Int32))), (0, .ref (a 0)), (1, .int x1), (2, .int x2), (3, .int x3)]) hx hb dX6_comes_80 hl (k := 4) rfl rfl (by decide) rfl (fun ls hl => ?_)
      refine lv_goto (tgt := 60) hx hb dX6_comes_83 (by decide) ?_
      exact ih _ _ _ _ _ _ _ _ _ _ _ _ _ _ _ _ _ hf _ _ hP hD hS ls (lv_sub hl [1, 2, 3, 4, 0] rfl)
def fX6_comes_b18 (x1 : Int32) (x2 : Int32) (x3 : Int32) (ss : Nat → Int32) (was : Nat → Int32) (beg : Nat → Int32) (asi : Nat → Int32) (sta : Int32) (txt : Nat → Int32) (typ : Int32) (att : Int32) (rea : Int32) (got : Nat → Int32) (row : Nat → Int32) (oth : Nat → Int32) : Option (Int32 × (Nat → Int32) × (Nat → Int32) × (Nat → Int32) × (Nat → Int32) × Int32 × (Nat → Int32) × Int32 × Int32 × Int32 × (Nat → Int32) × (Nat → Int32) × (Nat → Int32)) := g_gd (g_in (1 : Int32) 411) ((if (ss (1 : Int32).toNatClampNeg) = (100000 : Int32) then some ((-1000003 : Int32), ss, was, beg, asi, sta, txt, typ, att, rea, got, row, oth) else g_gd (g_in (1 : Int32) 411) (g_gd (g_in (1 : Int32) 411) (g_gd (g_in (1 : Int32) 411) (g_gd (g_in ((70 : Int32) + x1) 411) (fX6_comes_b60 2000 x1 x2 x3 (0 : Int32) (upd (upd ss (1 : Int32).toNatClampNeg ((ss (1 : Int32).toNatClampNeg) + (1 : Int32))) ((70 : Int32) + x1).toNatClampNeg ((upd ss (1 : Int32).toNatClampNeg ((ss (1 : Int32).toNatClampNeg) + (1 : Int32))) (1 : Int32).toNatClampNeg)) was beg asi sta txt typ att rea got row oth))))))
set_option maxHeartbeats 4000000 in
set_option maxRecDepth 100000 in
theorem kX6_comes_b18 {p : Program} {l : Launch} {e : Env} {s : State} {m : MethodId} {args : Array Value} {below : List Frame} {meth : Method} {c : Code} {G : gT} {a : Nat → Nat} {w0 : va_W} (C0 : gX p s m args meth c cX6_comes 6 (some .int) RX6 G) :
    ∀ (x1 : Int32) (x2 : Int32) (x3 : Int32) (ss : Nat → Int32) (was : Nat → Int32) (beg : Nat → Int32) (asi : Nat → Int32) (sta : Int32) (txt : Nat → Int32) (typ : Int32) (att : Int32) (rea : Int32) (got : Nat → Int32) (row : Nat → Int32) (oth : Nat → Int32) (u : Int32 × (Nat → Int32) × (Nat → Int32) × (Nat → Int32) × (Nat → Int32) × Int32 × (Nat → Int32) × Int32 × Int32 × Int32 × (Nat → Int32) × (Nat → Int32) × (Nat → Int32)), fX6_comes_b18 x1 x2 x3 ss was beg asi sta txt typ att rea got row oth = some u → ∀ (H : Heap) (locs : List Loc), va_P G.1 vwCl [((a 0), .inr (5, [.ref (a 1), .ref (a 2), .ref (a 3), .ref (a 4), .int sta, .ref (a 5), .int typ, .int att, .int rea, .ref (a 6), .ref (a 7), .ref (a 8)])), ((a 1), .inl (G.2.1, 411, .inl ss)), ((a 2), .inl (G.2.1, 1644, .inl was)), ((a 3), .inl (G.2.1, 411, .inl beg)), ((a 4), .inl (G.2.1, 411, .inl asi)), ((a 5), .inl (G.2.2.1, 60, .inl txt)), ((a 6), .inl (G.2.1, 4, .inl got)), ((a 7), .inl (G.2.1, 4, .inl row)), ((a 8), .inl (G.2.1, 4, .inl oth))] H → va_D (va_A w0 s.heap.size) [((a 0), .inr (5, [.ref (a 1), .ref (a 2), .ref (a 3), .ref (a 4), .int sta, .ref (a 5), .int typ, .int att, .int rea, .ref (a 6), .ref (a 7), .ref (a 8)])), ((a 1), .inl (G.2.1, 411, .inl ss)), ((a 2), .inl (G.2.1, 1644, .inl was)), ((a 3), .inl (G.2.1, 411, .inl beg)), ((a 4), .inl (G.2.1, 411, .inl asi)), ((a 5), .inl (G.2.2.1, 60, .inl txt)), ((a 6), .inl (G.2.1, 4, .inl got)), ((a 7), .inl (G.2.1, 4, .inl row)), ((a 8), .inl (G.2.1, 4, .inl oth))] → va_S (va_A w0 s.heap.size) s.heap H locs → ∀ ls, lv_has ls 6 [(0, .ref (a 0)), (1, .int x1), (2, .int x2), (3, .int x3)] → gW p l e (headSpec wsX6_comes rmX6_comes).room s m args below meth c G w0 (some (.int u.1)) (modW G a u.2.1 u.2.2.1 u.2.2.2.1 u.2.2.2.2.1 u.2.2.2.2.2.1 u.2.2.2.2.2.2.1 u.2.2.2.2.2.2.2.1 u.2.2.2.2.2.2.2.2.1 u.2.2.2.2.2.2.2.2.2.1 u.2.2.2.2.2.2.2.2.2.2.1 u.2.2.2.2.2.2.2.2.2.2.2.1 u.2.2.2.2.2.2.2.2.2.2.2.2) H locs 18 ls [] := by
  obtain ⟨hx, hb, hr, hts, hown, hlocks, hml, hK⟩ := id C0
  have hA : ∀ q : Nat, s.heap.size ≤ q → va_A w0 s.heap.size q := fun q h => Or.inr h
  intro x1 x2 x3 ss was beg asi sta txt typ att rea got row oth u hf H locs hP hD hS ls hl
  unfold fX6_comes_b18 at hf
  refine lv_aload_n hx hb dX6_comes_18 rfl (lv_at hl 0 rfl) ?_
  refine va_get (D := G.1) (ci := 5) (v := .ref (a 1)) (C := RX6) (T := TX6) (N := 12) hx hb hts hX6 hown hK.1 hP 0 rfl rfl 0 (by decide) (hts _ tw_588) (fun _ h9 => h9) rfl dX6_comes_19 ?_
  refine lv_iconst (v := (1 : Int32)) hx hb dX6_comes_22 (by decide) ?_
  obtain ⟨g4, hf⟩ := g_gdS hf
  refine va_iald hx hb hK.1 hP 1 0 rfl rfl (g_in_vp g4) dX6_comes_23 ?_
  refine lv_ldc (v := (100000 : Int32)) hx hb hown (hts _ tw_725) dX6_comes_24 ?_
  refine lv_icmp_ne (tgt := 32) hx hb dX6_comes_26 (by decide) (fun c5 => ?_) (fun c5 => ?_)
  · have hf := g_ifF c5 hf
    refine lv_aload_n hx hb dX6_comes_32 rfl (lv_at hl 0 rfl) ?_
    refine va_get (D := G.1) (ci := 5) (v := .ref (a 1)) (C := RX6) (T := TX6) (N := 12) hx hb hts hX6 hown hK.1 hP 0 rfl rfl 0 (by decide) (hts _ tw_588) (fun _ h9 => h9) rfl dX6_comes_33 ?_
    refine lv_iconst (v := (1 : Int32)) hx hb dX6_comes_36 (by decide) ?_
    refine lv_dup2_11 hx hb dX6_comes_37 rfl rfl ?_
    obtain ⟨g6, hf⟩ := g_gdS hf
    refine va_iald hx hb hK.1 hP 1 0 rfl rfl (g_in_vp g6) dX6_comes_38 ?_
    refine lv_iconst (v := (1 : Int32)) hx hb dX6_comes_39 (by decide) ?_
    refine lv_iadd hx hb dX6_comes_40 ?_
    obtain ⟨g7, hf⟩ := g_gdS hf
    refine va_iast hx hb hK.1 hP hD hS 1 0 rfl rfl (g_in_vp g7) dX6_comes_41 (fun H locs hP hD hS => ?_)
    have hP : va_P G.1 vwCl [((a 0), .inr (5, [.ref (a 1), .ref (a 2), .ref (a 3), .ref (a 4), .int sta, .ref (a 5), .int typ, .int att, .int rea, .ref (a 6), .ref (a 7), .ref (a 8)])), ((a 1), .inl (G.2.1, 411, .inl (upd ss (1 : Int32).toNatClampNeg ((ss (1 : Int32).toNatClampNeg) + (1 : Int32))))), ((a 2), .inl (G.2.1, 1644, .inl was)), ((a 3), .inl (G.2.1, 411, .inl beg)), ((a 4), .inl (G.2.1, 411, .inl asi)), ((a 5), .inl (G.2.2.1, 60, .inl txt)), ((a 6), .inl (G.2.1, 4, .inl got)), ((a 7), .inl (G.2.1, 4, .inl row)), ((a 8), .inl (G.2.1, 4, .inl oth))] H := hP
    have hD : va_D (va_A w0 s.heap.size) [((a 0), .inr (5, [.ref (a 1), .ref (a 2), .ref (a 3), .ref (a 4), .int sta, .ref (a 5), .int typ, .int att, .int rea, .ref (a 6), .ref (a 7), .ref (a 8)])), ((a 1), .inl (G.2.1, 411, .inl (upd ss (1 : Int32).toNatClampNeg ((ss (1 : Int32).toNatClampNeg) + (1 : Int32))))), ((a 2), .inl (G.2.1, 1644, .inl was)), ((a 3), .inl (G.2.1, 411, .inl beg)), ((a 4), .inl (G.2.1, 411, .inl asi)), ((a 5), .inl (G.2.2.1, 60, .inl txt)), ((a 6), .inl (G.2.1, 4, .inl got)), ((a 7), .inl (G.2.1, 4, .inl row)), ((a 8), .inl (G.2.1, 4, .inl oth))] := hD
    refine lv_aload_n hx hb dX6_comes_42 rfl (lv_at hl 0 rfl) ?_
    refine va_get (D := G.1) (ci := 5) (v := .ref (a 1)) (C := RX6) (T := TX6) (N := 12) hx hb hts hX6 hown hK.1 hP 0 rfl rfl 0 (by decide) (hts _ tw_588) (fun _ h9 => h9) rfl dX6_comes_43 ?_
    refine lv_bipush (v := (70 : Int32)) hx hb dX6_comes_46 (by decide) ?_
    refine lv_iload_n hx hb dX6_comes_48 rfl (lv_at hl 1 rfl) ?_
    refine lv_iadd hx hb dX6_comes_49 ?_
    refine lv_aload_n hx hb dX6_comes_50 rfl (lv_at hl 0 rfl) ?_
    refine va_get (D := G.1) (ci := 5) (v := .ref (a 1)) (C := RX6) (T := TX6) (N := 12) hx hb hts hX6 hown hK.1 hP 0 rfl rfl 0 (by decide) (hts _ tw_588) (fun _ h9 => h9) rfl dX6_comes_51 ?_
    refine lv_iconst (v := (1 : Int32)) hx hb dX6_comes_54 (by decide) ?_
    obtain ⟨g8, hf⟩ := g_gdS hf
    refine va_iald hx hb hK.1 hP 1 0 rfl rfl (g_in_vp g8) dX6_comes_55 ?_
    obtain ⟨g9, hf⟩ := g_gdS hf
    refine va_iast hx hb hK.1 hP hD hS 1 0 rfl rfl (g_in_vp g9) dX6_comes_56 (fun H locs hP hD hS => ?_)
    have hP : va_P G.1 vwCl [((a 0), .inr (5, [.ref (a 1), .ref (a 2), .ref (a 3), .ref (a 4), .int sta, .ref (a 5), .int typ, .int att, .int rea, .ref (a 6), .ref (a 7), .ref (a 8)])), ((a 1), .inl (G.2.1, 411, .inl (upd (upd ss (1 : Int32).toNatClampNeg ((ss (1 : Int32).toNatClampNeg) + (1 : Int32))) ((70 : Int32) + x1).toNatClampNeg ((upd ss (1 : Int32).toNatClampNeg ((ss (1 : Int32).toNatClampNeg) + (1 : Int32))) (1 : Int32).toNatClampNeg)))), ((a 2), .inl (G.2.1, 1644, .inl was)), ((a 3), .inl (G.2.1, 411, .inl beg)), ((a 4), .inl (G.2.1, 411, .inl asi)), ((a 5), .inl (G.2.2.1, 60, .inl txt)), ((a 6), .inl (G.2.1, 4, .inl got)), ((a 7), .inl (G.2.1, 4, .inl row)), ((a 8), .inl (G.2.1, 4, .inl oth))] H := hP
    have hD : va_D (va_A w0 s.heap.size) [((a 0), .inr (5, [.ref (a 1), .ref (a 2), .ref (a 3), .ref (a 4), .int sta, .ref (a 5), .int typ, .int att, .int rea, .ref (a 6), .ref (a 7), .ref (a 8)])), ((a 1), .inl (G.2.1, 411, .inl (upd (upd ss (1 : Int32).toNatClampNeg ((ss (1 : Int32).toNatClampNeg) + (1 : Int32))) ((70 : Int32) + x1).toNatClampNeg ((upd ss (1 : Int32).toNatClampNeg ((ss (1 : Int32).toNatClampNeg) + (1 : Int32))) (1 : Int32).toNatClampNeg)))), ((a 2), .inl (G.2.1, 1644, .inl was)), ((a 3), .inl (G.2.1, 411, .inl beg)), ((a 4), .inl (G.2.1, 411, .inl asi)), ((a 5), .inl (G.2.2.1, 60, .inl txt)), ((a 6), .inl (G.2.1, 4, .inl got)), ((a 7), .inl (G.2.1, 4, .inl row)), ((a 8), .inl (G.2.1, 4, .inl oth))] := hD
    refine lv_iconst (v := (0 : Int32)) hx hb dX6_comes_57 (by decide) ?_
    refine lv_istore (lv' := [(4, .int (0 : Int32)), (0, .ref (a 0)), (1, .int x1), (2, .int x2), (3, .int x3)]) hx hb dX6_comes_58 hl (by decide) rfl (fun ls hl => ?_)
    exact kX6_comes_b60 C0 2000 _ _ _ _ _ _ _ _ _ _ _ _ _ _ _ _ _ hf _ _ hP hD hS ls (lv_sub hl [1, 2, 3, 4, 0] rfl)
  · have hf := g_ifT c5 hf
    refine lv_ldc (v := (-1000003 : Int32)) hx hb hown (hts _ tw_726) dX6_comes_29 ?_
    cases hf
    exact g_iretC hx hb hr hlocks hP hD hS dX6_comes_31
def fX6_comes (p0 : Int32) (p1 : Int32) (p2 : Int32) (ss : Nat → Int32) (was : Nat → Int32) (beg : Nat → Int32) (asi : Nat → Int32) (sta : Int32) (txt : Nat → Int32) (typ : Int32) (att : Int32) (rea : Int32) (got : Nat → Int32) (row : Nat → Int32) (oth : Nat → Int32) : Option (Int32 × (Nat → Int32) × (Nat → Int32) × (Nat → Int32) × (Nat → Int32) × Int32 × (Nat → Int32) × Int32 × Int32 × Int32 × (Nat → Int32) × (Nat → Int32) × (Nat → Int32)) := ((fX6_areBoth ss was beg asi sta txt typ att rea got row oth).bind fun r1 => (if r1 = (0 : Int32) then fX6_comes_b18 p0 p1 p2 ss was beg asi sta txt typ att rea got row oth else g_gd (g_in (3 : Int32) 411) ((if (ss (3 : Int32).toNatClampNeg) = (8 : Int32) then some ((-1000003 : Int32), ss, was, beg, asi, sta, txt, typ, att, rea, got, row, oth) else fX6_comes_b18 p0 p1 p2 ss was beg asi sta txt typ att rea got row oth))))
set_option maxHeartbeats 4000000 in
set_option maxRecDepth 100000 in
theorem qX6_comes (l : Launch) (G : gT) (a : Nat → Nat) {p0 : Int32} {p1 : Int32} {p2 : Int32} {ss : Nat → Int32} {was : Nat → Int32} {beg : Nat → Int32} {asi : Nat → Int32} {sta : Int32} {txt : Nat → Int32} {typ : Int32} {att : Int32} {rea : Int32} {got : Nat → Int32} {row : Nat → Int32} {oth : Nat → Int32} {u : Int32 × (Nat → Int32) × (Nat → Int32) × (Nat → Int32) × (Nat → Int32) × Int32 × (Nat → Int32) × Int32 × Int32 × Int32 × (Nat → Int32) × (Nat → Int32) × (Nat → Int32)} (hf : fX6_comes p0 p1 p2 ss was beg asi sta txt typ att rea got row oth = some u) : gC l G yX6_comes wsX6_comes rmX6_comes [.ref (a 0), .int p0, .int p1, .int p2] (modW G a ss was beg asi sta txt typ att rea got row oth) (some (.int u.1)) (modW G a u.2.1 u.2.2.1 u.2.2.2.1 u.2.2.2.2.1 u.2.2.2.2.2.1 u.2.2.2.2.2.2.1 u.2.2.2.2.2.2.2.1 u.2.2.2.2.2.2.2.2.1 u.2.2.2.2.2.2.2.2.2.1 u.2.2.2.2.2.2.2.2.2.2.1 u.2.2.2.2.2.2.2.2.2.2.2.1 u.2.2.2.2.2.2.2.2.2.2.2.2) := by
  refine gC.of (cc := cX6_comes) (maxL := 6) (ret := (some .int)) (by decide) rfl (Nat.le_of_ble_eq_true rfl) ?_
  intro p e s m below meth c C0 hP hD hS ls hl
  obtain ⟨hx, hb, hr, hts, hown, hlocks, hml, hK⟩ := id C0
  have hl : lv_has ls 6 [(0, .ref (a 0)), (1, .int p0), (2, .int p1), (3, .int p2)] := hl
  have hA : ∀ q : Nat, s.heap.size ≤ q → va_A (modW G a ss was beg asi sta txt typ att rea got row oth) s.heap.size q := fun q h => Or.inr h
  have hP : va_P G.1 vwCl [((a 0), .inr (5, [.ref (a 1), .ref (a 2), .ref (a 3), .ref (a 4), .int sta, .ref (a 5), .int typ, .int att, .int rea, .ref (a 6), .ref (a 7), .ref (a 8)])), ((a 1), .inl (G.2.1, 411, .inl ss)), ((a 2), .inl (G.2.1, 1644, .inl was)), ((a 3), .inl (G.2.1, 411, .inl beg)), ((a 4), .inl (G.2.1, 411, .inl asi)), ((a 5), .inl (G.2.2.1, 60, .inl txt)), ((a 6), .inl (G.2.1, 4, .inl got)), ((a 7), .inl (G.2.1, 4, .inl row)), ((a 8), .inl (G.2.1, 4, .inl oth))] s.heap := hP
  have hD : va_D (va_A (modW G a ss was beg asi sta txt typ att rea got row oth) s.heap.size) [((a 0), .inr (5, [.ref (a 1), .ref (a 2), .ref (a 3), .ref (a 4), .int sta, .ref (a 5), .int typ, .int att, .int rea, .ref (a 6), .ref (a 7), .ref (a 8)])), ((a 1), .inl (G.2.1, 411, .inl ss)), ((a 2), .inl (G.2.1, 1644, .inl was)), ((a 3), .inl (G.2.1, 411, .inl beg)), ((a 4), .inl (G.2.1, 411, .inl asi)), ((a 5), .inl (G.2.2.1, 60, .inl txt)), ((a 6), .inl (G.2.1, 4, .inl got)), ((a 7), .inl (G.2.1, 4, .inl row)), ((a 8), .inl (G.2.1, 4, .inl oth))] := hD
  unfold fX6_comes at hf
  refine lv_aload_n hx hb dX6_comes_0 rfl (lv_at hl 0 rfl) ?_
  obtain ⟨r1, e2, hf⟩ := g_bdS hf
  refine g_contR (st1 := [.int r1]) (g_runVR (As := []) (rest := []) ⟨hx, hb, hml, hown, hts⟩ (qX6_areBoth l G a e2) (cwV 0 hts (TB_V TB_id tw_691 tw_693 tw_21 tw_54 tw_694) rfl rfl rfl (by decide +kernel) ⟨Nat.le_of_ble_eq_true rfl, Nat.le_of_ble_eq_true rfl⟩) hK (hP.sub [0, 1, 2, 3, 4, 5, 6, 7, 8] rfl) 0 rfl rfl rfl hl.1 rfl (Nat.le_of_ble_eq_true rfl) dX6_comes_1) rfl ?_
  refine lv_if_eq (tgt := 18) hx hb dX6_comes_4 (by decide) (fun c3 => ?_) (fun c3 => ?_)
  · have hf := g_ifT c3 hf
    exact kX6_comes_b18 C0 _ _ _ _ _ _ _ _ _ _ _ _ _ _ _ _ hf _ _ hP hD hS ls (lv_sub hl [0, 1, 2, 3] rfl)
  · have hf := g_ifF c3 hf
    refine lv_aload_n hx hb dX6_comes_7 rfl (lv_at hl 0 rfl) ?_
    refine va_get (D := G.1) (ci := 5) (v := .ref (a 1)) (C := RX6) (T := TX6) (N := 12) hx hb hts hX6 hown hK.1 hP 0 rfl rfl 0 (by decide) (hts _ tw_588) (fun _ h9 => h9) rfl dX6_comes_8 ?_
    refine lv_iconst (v := (3 : Int32)) hx hb dX6_comes_11 (by decide) ?_
    obtain ⟨g49, hf⟩ := g_gdS hf
    refine va_iald hx hb hK.1 hP 1 0 rfl rfl (g_in_vp g49) dX6_comes_12 ?_
    refine lv_bipush (v := (8 : Int32)) hx hb dX6_comes_13 (by decide) ?_
    refine lv_icmp_eq (tgt := 29) hx hb dX6_comes_15 (by decide) (fun c50 => ?_) (fun c50 => ?_)
    · have hf := g_ifT c50 hf
      refine lv_ldc (v := (-1000003 : Int32)) hx hb hown (hts _ tw_726) dX6_comes_29 ?_
      cases hf
      exact g_iretC hx hb hr hlocks hP hD hS dX6_comes_31
    · have hf := g_ifF c50 hf
      exact kX6_comes_b18 C0 _ _ _ _ _ _ _ _ _ _ _ _ _ _ _ _ hf _ _ hP hD hS ls (lv_sub hl [0, 1, 2, 3] rfl)
-- TwoShapesModel.writes(IIIII)I
abbrev rmX6_writes : Room := { frames := 3, cells := 0, slots := 0, locals := 71 }
def fX6_writes (p0 : Int32) (p1 : Int32) (p2 : Int32) (p3 : Int32) (p4 : Int32) (ss : Nat → Int32) (was : Nat → Int32) (beg : Nat → Int32) (asi : Nat → Int32) (sta : Int32) (txt : Nat → Int32) (typ : Int32) (att : Int32) (rea : Int32) (got : Nat → Int32) (row : Nat → Int32) (oth : Nat → Int32) : Option (Int32 × (Nat → Int32) × (Nat → Int32) × (Nat → Int32) × (Nat → Int32) × Int32 × (Nat → Int32) × Int32 × Int32 × Int32 × (Nat → Int32) × (Nat → Int32) × (Nat → Int32)) := g_gd (g_in (0 : Int32) 4) (g_gd (g_in (1 : Int32) 4) (g_gd (g_in (2 : Int32) 4) (g_gd (g_in (3 : Int32) 4) (((fX6_comes p0 p1 (0 : Int32) ss was beg asi sta txt typ att rea got (upd (upd (upd (upd row (0 : Int32).toNatClampNeg (1 : Int32)) (1 : Int32).toNatClampNeg p2) (2 : Int32).toNatClampNeg p3) (3 : Int32).toNatClampNeg p4) oth).bind fun r5 => some (r5.1, r5.2.1, r5.2.2.1, r5.2.2.2.1, r5.2.2.2.2.1, r5.2.2.2.2.2.1, r5.2.2.2.2.2.2.1, r5.2.2.2.2.2.2.2.1, r5.2.2.2.2.2.2.2.2.1, r5.2.2.2.2.2.2.2.2.2.1, r5.2.2.2.2.2.2.2.2.2.2.1, r5.2.2.2.2.2.2.2.2.2.2.2.1, r5.2.2.2.2.2.2.2.2.2.2.2.2))))))
set_option maxHeartbeats 4000000 in
set_option maxRecDepth 100000 in
theorem qX6_writes (l : Launch) (G : gT) (a : Nat → Nat) {p0 : Int32} {p1 : Int32} {p2 : Int32} {p3 : Int32} {p4 : Int32} {ss : Nat → Int32} {was : Nat → Int32} {beg : Nat → Int32} {asi : Nat → Int32} {sta : Int32} {txt : Nat → Int32} {typ : Int32} {att : Int32} {rea : Int32} {got : Nat → Int32} {row : Nat → Int32} {oth : Nat → Int32} {u : Int32 × (Nat → Int32) × (Nat → Int32) × (Nat → Int32) × (Nat → Int32) × Int32 × (Nat → Int32) × Int32 × Int32 × Int32 × (Nat → Int32) × (Nat → Int32) × (Nat → Int32)} (hf : fX6_writes p0 p1 p2 p3 p4 ss was beg asi sta txt typ att rea got row oth = some u) : gC l G yX6_writes wsX6_writes rmX6_writes [.ref (a 0), .int p0, .int p1, .int p2, .int p3, .int p4] (modW G a ss was beg asi sta txt typ att rea got row oth) (some (.int u.1)) (modW G a u.2.1 u.2.2.1 u.2.2.2.1 u.2.2.2.2.1 u.2.2.2.2.2.1 u.2.2.2.2.2.2.1 u.2.2.2.2.2.2.2.1 u.2.2.2.2.2.2.2.2.1 u.2.2.2.2.2.2.2.2.2.1 u.2.2.2.2.2.2.2.2.2.2.1 u.2.2.2.2.2.2.2.2.2.2.2.1 u.2.2.2.2.2.2.2.2.2.2.2.2) := by
  refine gC.of (cc := cX6_writes) (maxL := 6) (ret := (some .int)) (by decide) rfl (Nat.le_of_ble_eq_true rfl) ?_
  intro p e s m below meth c C0 hP hD hS ls hl
  obtain ⟨hx, hb, hr, hts, hown, hlocks, hml, hK⟩ := id C0
  have hl : lv_has ls 6 [(0, .ref (a 0)), (1, .int p0), (2, .int p1), (3, .int p2), (4, .int p3), (5, .int p4)] := hl
  have hA : ∀ q : Nat, s.heap.size ≤ q → va_A (modW G a ss was beg asi sta txt typ att rea got row oth) s.heap.size q := fun q h => Or.inr h
  have hP : va_P G.1 vwCl [((a 0), .inr (5, [.ref (a 1), .ref (a 2), .ref (a 3), .ref (a 4), .int sta, .ref (a 5), .int typ, .int att, .int rea, .ref (a 6), .ref (a 7), .ref (a 8)])), ((a 1), .inl (G.2.1, 411, .inl ss)), ((a 2), .inl (G.2.1, 1644, .inl was)), ((a 3), .inl (G.2.1, 411, .inl beg)), ((a 4), .inl (G.2.1, 411, .inl asi)), ((a 5), .inl (G.2.2.1, 60, .inl txt)), ((a 6), .inl (G.2.1, 4, .inl got)), ((a 7), .inl (G.2.1, 4, .inl row)), ((a 8), .inl (G.2.1, 4, .inl oth))] s.heap := hP
  have hD : va_D (va_A (modW G a ss was beg asi sta txt typ att rea got row oth) s.heap.size) [((a 0), .inr (5, [.ref (a 1), .ref (a 2), .ref (a 3), .ref (a 4), .int sta, .ref (a 5), .int typ, .int att, .int rea, .ref (a 6), .ref (a 7), .ref (a 8)])), ((a 1), .inl (G.2.1, 411, .inl ss)), ((a 2), .inl (G.2.1, 1644, .inl was)), ((a 3), .inl (G.2.1, 411, .inl beg)), ((a 4), .inl (G.2.1, 411, .inl asi)), ((a 5), .inl (G.2.2.1, 60, .inl txt)), ((a 6), .inl (G.2.1, 4, .inl got)), ((a 7), .inl (G.2.1, 4, .inl row)), ((a 8), .inl (G.2.1, 4, .inl oth))] := hD
  unfold fX6_writes at hf
  refine lv_aload_n hx hb dX6_writes_0 rfl (lv_at hl 0 rfl) ?_
  refine va_get (D := G.1) (ci := 5) (v := .ref (a 7)) (C := RX6) (T := TX6) (N := 12) hx hb hts hX6 hown hK.1 hP 0 rfl rfl 10 (by decide) (hts _ tw_598) (fun _ h9 => h9) rfl dX6_writes_1 ?_
  refine lv_iconst (v := (0 : Int32)) hx hb dX6_writes_4 (by decide) ?_
  refine lv_iconst (v := (1 : Int32)) hx hb dX6_writes_5 (by decide) ?_
  obtain ⟨g1, hf⟩ := g_gdS hf
  refine va_iast hx hb hK.1 hP hD hS 7 0 rfl rfl (g_in_vp g1) dX6_writes_6 (fun H locs hP hD hS => ?_)
  have hP : va_P G.1 vwCl [((a 0), .inr (5, [.ref (a 1), .ref (a 2), .ref (a 3), .ref (a 4), .int sta, .ref (a 5), .int typ, .int att, .int rea, .ref (a 6), .ref (a 7), .ref (a 8)])), ((a 1), .inl (G.2.1, 411, .inl ss)), ((a 2), .inl (G.2.1, 1644, .inl was)), ((a 3), .inl (G.2.1, 411, .inl beg)), ((a 4), .inl (G.2.1, 411, .inl asi)), ((a 5), .inl (G.2.2.1, 60, .inl txt)), ((a 6), .inl (G.2.1, 4, .inl got)), ((a 7), .inl (G.2.1, 4, .inl (upd row (0 : Int32).toNatClampNeg (1 : Int32)))), ((a 8), .inl (G.2.1, 4, .inl oth))] H := hP
  have hD : va_D (va_A (modW G a ss was beg asi sta txt typ att rea got row oth) s.heap.size) [((a 0), .inr (5, [.ref (a 1), .ref (a 2), .ref (a 3), .ref (a 4), .int sta, .ref (a 5), .int typ, .int att, .int rea, .ref (a 6), .ref (a 7), .ref (a 8)])), ((a 1), .inl (G.2.1, 411, .inl ss)), ((a 2), .inl (G.2.1, 1644, .inl was)), ((a 3), .inl (G.2.1, 411, .inl beg)), ((a 4), .inl (G.2.1, 411, .inl asi)), ((a 5), .inl (G.2.2.1, 60, .inl txt)), ((a 6), .inl (G.2.1, 4, .inl got)), ((a 7), .inl (G.2.1, 4, .inl (upd row (0 : Int32).toNatClampNeg (1 : Int32)))), ((a 8), .inl (G.2.1, 4, .inl oth))] := hD
  refine lv_aload_n hx hb dX6_writes_7 rfl (lv_at hl 0 rfl) ?_
  refine va_get (D := G.1) (ci := 5) (v := .ref (a 7)) (C := RX6) (T := TX6) (N := 12) hx hb hts hX6 hown hK.1 hP 0 rfl rfl 10 (by decide) (hts _ tw_598) (fun _ h9 => h9) rfl dX6_writes_8 ?_
  refine lv_iconst (v := (1 : Int32)) hx hb dX6_writes_11 (by decide) ?_
  refine lv_iload_n hx hb dX6_writes_12 rfl (lv_at hl 3 rfl) ?_
  obtain ⟨g2, hf⟩ := g_gdS hf
  refine va_iast hx hb hK.1 hP hD hS 7 0 rfl rfl (g_in_vp g2) dX6_writes_13 (fun H locs hP hD hS => ?_)
  have hP : va_P G.1 vwCl [((a 0), .inr (5, [.ref (a 1), .ref (a 2), .ref (a 3), .ref (a 4), .int sta, .ref (a 5), .int typ, .int att, .int rea, .ref (a 6), .ref (a 7), .ref (a 8)])), ((a 1), .inl (G.2.1, 411, .inl ss)), ((a 2), .inl (G.2.1, 1644, .inl was)), ((a 3), .inl (G.2.1, 411, .inl beg)), ((a 4), .inl (G.2.1, 411, .inl asi)), ((a 5), .inl (G.2.2.1, 60, .inl txt)), ((a 6), .inl (G.2.1, 4, .inl got)), ((a 7), .inl (G.2.1, 4, .inl (upd (upd row (0 : Int32).toNatClampNeg (1 : Int32)) (1 : Int32).toNatClampNeg p2))), ((a 8), .inl (G.2.1, 4, .inl oth))] H := hP
  have hD : va_D (va_A (modW G a ss was beg asi sta txt typ att rea got row oth) s.heap.size) [((a 0), .inr (5, [.ref (a 1), .ref (a 2), .ref (a 3), .ref (a 4), .int sta, .ref (a 5), .int typ, .int att, .int rea, .ref (a 6), .ref (a 7), .ref (a 8)])), ((a 1), .inl (G.2.1, 411, .inl ss)), ((a 2), .inl (G.2.1, 1644, .inl was)), ((a 3), .inl (G.2.1, 411, .inl beg)), ((a 4), .inl (G.2.1, 411, .inl asi)), ((a 5), .inl (G.2.2.1, 60, .inl txt)), ((a 6), .inl (G.2.1, 4, .inl got)), ((a 7), .inl (G.2.1, 4, .inl (upd (upd row (0 : Int32).toNatClampNeg (1 : Int32)) (1 : Int32).toNatClampNeg p2))), ((a 8), .inl (G.2.1, 4, .inl oth))] := hD
  refine lv_aload_n hx hb dX6_writes_14 rfl (lv_at hl 0 rfl) ?_
  refine va_get (D := G.1) (ci := 5) (v := .ref (a 7)) (C := RX6) (T := TX6) (N := 12) hx hb hts hX6 hown hK.1 hP 0 rfl rfl 10 (by decide) (hts _ tw_598) (fun _ h9 => h9) rfl dX6_writes_15 ?_
  refine lv_iconst (v := (2 : Int32)) hx hb dX6_writes_18 (by decide) ?_
  refine lv_iload hx hb dX6_writes_19 (lv_at hl 4 rfl) ?_
  obtain ⟨g3, hf⟩ := g_gdS hf
  refine va_iast hx hb hK.1 hP hD hS 7 0 rfl rfl (g_in_vp g3) dX6_writes_21 (fun H locs hP hD hS => ?_)
  have hP : va_P G.1 vwCl [((a 0), .inr (5, [.ref (a 1), .ref (a 2), .ref (a 3), .ref (a 4), .int sta, .ref (a 5), .int typ, .int att, .int rea, .ref (a 6), .ref (a 7), .ref (a 8)])), ((a 1), .inl (G.2.1, 411, .inl ss)), ((a 2), .inl (G.2.1, 1644, .inl was)), ((a 3), .inl (G.2.1, 411, .inl beg)), ((a 4), .inl (G.2.1, 411, .inl asi)), ((a 5), .inl (G.2.2.1, 60, .inl txt)), ((a 6), .inl (G.2.1, 4, .inl got)), ((a 7), .inl (G.2.1, 4, .inl (upd (upd (upd row (0 : Int32).toNatClampNeg (1 : Int32)) (1 : Int32).toNatClampNeg p2) (2 : Int32).toNatClampNeg p3))), ((a 8), .inl (G.2.1, 4, .inl oth))] H := hP
  have hD : va_D (va_A (modW G a ss was beg asi sta txt typ att rea got row oth) s.heap.size) [((a 0), .inr (5, [.ref (a 1), .ref (a 2), .ref (a 3), .ref (a 4), .int sta, .ref (a 5), .int typ, .int att, .int rea, .ref (a 6), .ref (a 7), .ref (a 8)])), ((a 1), .inl (G.2.1, 411, .inl ss)), ((a 2), .inl (G.2.1, 1644, .inl was)), ((a 3), .inl (G.2.1, 411, .inl beg)), ((a 4), .inl (G.2.1, 411, .inl asi)), ((a 5), .inl (G.2.2.1, 60, .inl txt)), ((a 6), .inl (G.2.1, 4, .inl got)), ((a 7), .inl (G.2.1, 4, .inl (upd (upd (upd row (0 : Int32).toNatClampNeg (1 : Int32)) (1 : Int32).toNatClampNeg p2) (2 : Int32).toNatClampNeg p3))), ((a 8), .inl (G.2.1, 4, .inl oth))] := hD
  refine lv_aload_n hx hb dX6_writes_22 rfl (lv_at hl 0 rfl) ?_
  refine va_get (D := G.1) (ci := 5) (v := .ref (a 7)) (C := RX6) (T := TX6) (N := 12) hx hb hts hX6 hown hK.1 hP 0 rfl rfl 10 (by decide) (hts _ tw_598) (fun _ h9 => h9) rfl dX6_writes_23 ?_
  refine lv_iconst (v := (3 : Int32)) hx hb dX6_writes_26 (by decide) ?_
  refine lv_iload hx hb dX6_writes_27 (lv_at hl 5 rfl) ?_
  obtain ⟨g4, hf⟩ := g_gdS hf
  refine va_iast hx hb hK.1 hP hD hS 7 0 rfl rfl (g_in_vp g4) dX6_writes_29 (fun H locs hP hD hS => ?_)
  have hP : va_P G.1 vwCl [((a 0), .inr (5, [.ref (a 1), .ref (a 2), .ref (a 3), .ref (a 4), .int sta, .ref (a 5), .int typ, .int att, .int rea, .ref (a 6), .ref (a 7), .ref (a 8)])), ((a 1), .inl (G.2.1, 411, .inl ss)), ((a 2), .inl (G.2.1, 1644, .inl was)), ((a 3), .inl (G.2.1, 411, .inl beg)), ((a 4), .inl (G.2.1, 411, .inl asi)), ((a 5), .inl (G.2.2.1, 60, .inl txt)), ((a 6), .inl (G.2.1, 4, .inl got)), ((a 7), .inl (G.2.1, 4, .inl (upd (upd (upd (upd row (0 : Int32).toNatClampNeg (1 : Int32)) (1 : Int32).toNatClampNeg p2) (2 : Int32).toNatClampNeg p3) (3 : Int32).toNatClampNeg p4))), ((a 8), .inl (G.2.1, 4, .inl oth))] H := hP
  have hD : va_D (va_A (modW G a ss was beg asi sta txt typ att rea got row oth) s.heap.size) [((a 0), .inr (5, [.ref (a 1), .ref (a 2), .ref (a 3), .ref (a 4), .int sta, .ref (a 5), .int typ, .int att, .int rea, .ref (a 6), .ref (a 7), .ref (a 8)])), ((a 1), .inl (G.2.1, 411, .inl ss)), ((a 2), .inl (G.2.1, 1644, .inl was)), ((a 3), .inl (G.2.1, 411, .inl beg)), ((a 4), .inl (G.2.1, 411, .inl asi)), ((a 5), .inl (G.2.2.1, 60, .inl txt)), ((a 6), .inl (G.2.1, 4, .inl got)), ((a 7), .inl (G.2.1, 4, .inl (upd (upd (upd (upd row (0 : Int32).toNatClampNeg (1 : Int32)) (1 : Int32).toNatClampNeg p2) (2 : Int32).toNatClampNeg p3) (3 : Int32).toNatClampNeg p4))), ((a 8), .inl (G.2.1, 4, .inl oth))] := hD
  refine lv_aload_n hx hb dX6_writes_30 rfl (lv_at hl 0 rfl) ?_
  refine lv_iload_n hx hb dX6_writes_31 rfl (lv_at hl 1 rfl) ?_
  refine lv_iload_n hx hb dX6_writes_32 rfl (lv_at hl 2 rfl) ?_
  refine lv_iconst (v := (0 : Int32)) hx hb dX6_writes_33 (by decide) ?_
  obtain ⟨r5, e6, hf⟩ := g_bdS hf
  refine g_contC (st1 := [.int r5.1]) (g_runVC (As := [.int p0, .int p1, .int (0 : Int32)]) (rest := []) ⟨hx, hb, hml, hown, hts⟩ (qX6_comes l G a e6) (cwV 3 hts (TB_V TB_id tw_721 tw_723 tw_25 tw_54 tw_724) rfl rfl rfl (by decide +kernel) ⟨Nat.le_of_ble_eq_true rfl, Nat.le_of_ble_eq_true rfl⟩) hK (hP.sub [0, 1, 2, 3, 4, 5, 6, 7, 8] rfl) (hD.sub [0, 1, 2, 3, 4, 5, 6, 7, 8] (by decide) rfl) 0 rfl rfl rfl hl.1 rfl (Nat.le_of_ble_eq_true rfl) dX6_writes_34) rfl hP hD hS hA [0, 1, 2, 3, 4, 5, 6, 7, 8] rfl rfl (fun H locs hP hD hS => ?_)
  have hP : va_P G.1 vwCl [((a 0), .inr (5, [.ref (a 1), .ref (a 2), .ref (a 3), .ref (a 4), .int r5.2.2.2.2.2.1, .ref (a 5), .int r5.2.2.2.2.2.2.2.1, .int r5.2.2.2.2.2.2.2.2.1, .int r5.2.2.2.2.2.2.2.2.2.1, .ref (a 6), .ref (a 7), .ref (a 8)])), ((a 1), .inl (G.2.1, 411, .inl r5.2.1)), ((a 2), .inl (G.2.1, 1644, .inl r5.2.2.1)), ((a 3), .inl (G.2.1, 411, .inl r5.2.2.2.1)), ((a 4), .inl (G.2.1, 411, .inl r5.2.2.2.2.1)), ((a 5), .inl (G.2.2.1, 60, .inl r5.2.2.2.2.2.2.1)), ((a 6), .inl (G.2.1, 4, .inl r5.2.2.2.2.2.2.2.2.2.2.1)), ((a 7), .inl (G.2.1, 4, .inl r5.2.2.2.2.2.2.2.2.2.2.2.1)), ((a 8), .inl (G.2.1, 4, .inl r5.2.2.2.2.2.2.2.2.2.2.2.2))] H := hP
  have hD : va_D (va_A (modW G a ss was beg asi sta txt typ att rea got row oth) s.heap.size) [((a 0), .inr (5, [.ref (a 1), .ref (a 2), .ref (a 3), .ref (a 4), .int r5.2.2.2.2.2.1, .ref (a 5), .int r5.2.2.2.2.2.2.2.1, .int r5.2.2.2.2.2.2.2.2.1, .int r5.2.2.2.2.2.2.2.2.2.1, .ref (a 6), .ref (a 7), .ref (a 8)])), ((a 1), .inl (G.2.1, 411, .inl r5.2.1)), ((a 2), .inl (G.2.1, 1644, .inl r5.2.2.1)), ((a 3), .inl (G.2.1, 411, .inl r5.2.2.2.1)), ((a 4), .inl (G.2.1, 411, .inl r5.2.2.2.2.1)), ((a 5), .inl (G.2.2.1, 60, .inl r5.2.2.2.2.2.2.1)), ((a 6), .inl (G.2.1, 4, .inl r5.2.2.2.2.2.2.2.2.2.2.1)), ((a 7), .inl (G.2.1, 4, .inl r5.2.2.2.2.2.2.2.2.2.2.2.1)), ((a 8), .inl (G.2.1, 4, .inl r5.2.2.2.2.2.2.2.2.2.2.2.2))] := hD
  cases hf
  exact g_iretC hx hb hr hlocks hP hD hS dX6_writes_37
-- TwoShapesModel.isKey(I)Z
abbrev rmX6_isKey : Room := { frames := 1, cells := 0, slots := 0, locals := 22 }
def fX6_isKey (p0 : Int32) : Option (Int32) := ((fX6_in p0 (0 : Int32) (30 : Int32)).bind fun r1 => g_gd (g_bl r1) (some (r1)))
set_option maxHeartbeats 4000000 in
set_option maxRecDepth 100000 in
theorem qX6_isKey (l : Launch) (G : gT)  {p0 : Int32} {u : Int32} (hf : fX6_isKey p0 = some u) : gR l G yX6_isKey wsX6_isKey rmX6_isKey [.int p0] [] (some (.int u)) := by
  refine gR.of (cc := cX6_isKey) (maxL := 1) (ret := (some .boolean)) (by decide) rfl (Nat.le_of_ble_eq_true rfl) ?_
  intro p e s m below meth c C0 hP ls hl
  obtain ⟨hx, hb, hr, hts, hown, hlocks, hml, hK⟩ := id C0
  have hl : lv_has ls 1 [(0, .int p0)] := hl
  have hP : va_P G.1 vwCl [] s.heap := hP
  unfold fX6_isKey at hf
  refine lv_iload_n hx hb dX6_isKey_0 rfl (lv_at hl 0 rfl) ?_
  refine lv_iconst (v := (0 : Int32)) hx hb dX6_isKey_1 (by decide) ?_
  refine lv_bipush (v := (30 : Int32)) hx hb dX6_isKey_2 (by decide) ?_
  obtain ⟨r1, e2, hf⟩ := g_bdS hf
  refine g_contR (st1 := [.int r1]) (g_runSR (As := [.int p0, .int (0 : Int32), .int (30 : Int32)]) (rest := []) ⟨hx, hb, hml, hown, hts⟩ (qX6_in l G e2) (va_cwS 3 hts (TB_S TB_id tw_714 tw_715 tw_54 tw_716) rfl rfl rfl (by decide +kernel) ⟨Nat.le_of_ble_eq_true rfl, Nat.le_of_ble_eq_true rfl⟩) hK (hP.sub [] rfl) rfl hl.1 rfl (Nat.le_of_ble_eq_true rfl) dX6_isKey_4) rfl ?_
  obtain ⟨g3, hf⟩ := g_gdS hf
  cases hf
  exact g_zretR hx hb hr hlocks (g_nb g3) dX6_isKey_7
-- TwoShapesModel.writesOld(IIII)I
abbrev rmX6_writesOld : Room := { frames := 4, cells := 0, slots := 0, locals := 96 }
def fX6_writesOld (p0 : Int32) (p1 : Int32) (p2 : Int32) (p3 : Int32) (ss : Nat → Int32) (was : Nat → Int32) (beg : Nat → Int32) (asi : Nat → Int32) (sta : Int32) (txt : Nat → Int32) (typ : Int32) (att : Int32) (rea : Int32) (got : Nat → Int32) (row : Nat → Int32) (oth : Nat → Int32) : Option (Int32 × (Nat → Int32) × (Nat → Int32) × (Nat → Int32) × (Nat → Int32) × Int32 × (Nat → Int32) × Int32 × Int32 × Int32 × (Nat → Int32) × (Nat → Int32) × (Nat → Int32)) := ((fX6_isKey p0).bind fun r1 => (if r1 = (0 : Int32) then some ((-1000001 : Int32), ss, was, beg, asi, sta, txt, typ, att, rea, got, row, oth) else ((fX6_in p1 (0 : Int32) (99 : Int32)).bind fun r4 => (if r4 = (0 : Int32) then some ((-1000001 : Int32), ss, was, beg, asi, sta, txt, typ, att, rea, got, row, oth) else ((fX6_in p2 (0 : Int32) (9 : Int32)).bind fun r7 => (if r7 = (0 : Int32) then some ((-1000001 : Int32), ss, was, beg, asi, sta, txt, typ, att, rea, got, row, oth) else ((fX6_in p3 (0 : Int32) (1 : Int32)).bind fun r10 => (if r10 = (0 : Int32) then some ((-1000001 : Int32), ss, was, beg, asi, sta, txt, typ, att, rea, got, row, oth) else ((fX6_writes p0 (0 : Int32) p1 p2 p3 ss was beg asi sta txt typ att rea got row oth).bind fun r13 => some (r13.1, r13.2.1, r13.2.2.1, r13.2.2.2.1, r13.2.2.2.2.1, r13.2.2.2.2.2.1, r13.2.2.2.2.2.2.1, r13.2.2.2.2.2.2.2.1, r13.2.2.2.2.2.2.2.2.1, r13.2.2.2.2.2.2.2.2.2.1, r13.2.2.2.2.2.2.2.2.2.2.1, r13.2.2.2.2.2.2.2.2.2.2.2.1, r13.2.2.2.2.2.2.2.2.2.2.2.2))))))))))
set_option maxHeartbeats 4000000 in
set_option maxRecDepth 100000 in
theorem qX6_writesOld (l : Launch) (G : gT) (a : Nat → Nat) {p0 : Int32} {p1 : Int32} {p2 : Int32} {p3 : Int32} {ss : Nat → Int32} {was : Nat → Int32} {beg : Nat → Int32} {asi : Nat → Int32} {sta : Int32} {txt : Nat → Int32} {typ : Int32} {att : Int32} {rea : Int32} {got : Nat → Int32} {row : Nat → Int32} {oth : Nat → Int32} {u : Int32 × (Nat → Int32) × (Nat → Int32) × (Nat → Int32) × (Nat → Int32) × Int32 × (Nat → Int32) × Int32 × Int32 × Int32 × (Nat → Int32) × (Nat → Int32) × (Nat → Int32)} (hf : fX6_writesOld p0 p1 p2 p3 ss was beg asi sta txt typ att rea got row oth = some u) : gC l G yX6_writesOld wsX6_writesOld rmX6_writesOld [.ref (a 0), .int p0, .int p1, .int p2, .int p3] (modW G a ss was beg asi sta txt typ att rea got row oth) (some (.int u.1)) (modW G a u.2.1 u.2.2.1 u.2.2.2.1 u.2.2.2.2.1 u.2.2.2.2.2.1 u.2.2.2.2.2.2.1 u.2.2.2.2.2.2.2.1 u.2.2.2.2.2.2.2.2.1 u.2.2.2.2.2.2.2.2.2.1 u.2.2.2.2.2.2.2.2.2.2.1 u.2.2.2.2.2.2.2.2.2.2.2.1 u.2.2.2.2.2.2.2.2.2.2.2.2) := by
  refine gC.of (cc := cX6_writesOld) (maxL := 5) (ret := (some .int)) (by decide) rfl (Nat.le_of_ble_eq_true rfl) ?_
  intro p e s m below meth c C0 hP hD hS ls hl
  obtain ⟨hx, hb, hr, hts, hown, hlocks, hml, hK⟩ := id C0
  have hl : lv_has ls 5 [(0, .ref (a 0)), (1, .int p0), (2, .int p1), (3, .int p2), (4, .int p3)] := hl
  have hA : ∀ q : Nat, s.heap.size ≤ q → va_A (modW G a ss was beg asi sta txt typ att rea got row oth) s.heap.size q := fun q h => Or.inr h
  have hP : va_P G.1 vwCl [((a 0), .inr (5, [.ref (a 1), .ref (a 2), .ref (a 3), .ref (a 4), .int sta, .ref (a 5), .int typ, .int att, .int rea, .ref (a 6), .ref (a 7), .ref (a 8)])), ((a 1), .inl (G.2.1, 411, .inl ss)), ((a 2), .inl (G.2.1, 1644, .inl was)), ((a 3), .inl (G.2.1, 411, .inl beg)), ((a 4), .inl (G.2.1, 411, .inl asi)), ((a 5), .inl (G.2.2.1, 60, .inl txt)), ((a 6), .inl (G.2.1, 4, .inl got)), ((a 7), .inl (G.2.1, 4, .inl row)), ((a 8), .inl (G.2.1, 4, .inl oth))] s.heap := hP
  have hD : va_D (va_A (modW G a ss was beg asi sta txt typ att rea got row oth) s.heap.size) [((a 0), .inr (5, [.ref (a 1), .ref (a 2), .ref (a 3), .ref (a 4), .int sta, .ref (a 5), .int typ, .int att, .int rea, .ref (a 6), .ref (a 7), .ref (a 8)])), ((a 1), .inl (G.2.1, 411, .inl ss)), ((a 2), .inl (G.2.1, 1644, .inl was)), ((a 3), .inl (G.2.1, 411, .inl beg)), ((a 4), .inl (G.2.1, 411, .inl asi)), ((a 5), .inl (G.2.2.1, 60, .inl txt)), ((a 6), .inl (G.2.1, 4, .inl got)), ((a 7), .inl (G.2.1, 4, .inl row)), ((a 8), .inl (G.2.1, 4, .inl oth))] := hD
  unfold fX6_writesOld at hf
  refine lv_iload_n hx hb dX6_writesOld_0 rfl (lv_at hl 1 rfl) ?_
  obtain ⟨r1, e2, hf⟩ := g_bdS hf
  refine g_contR (st1 := [.int r1]) (g_runSR (As := [.int p0]) (rest := []) ⟨hx, hb, hml, hown, hts⟩ (qX6_isKey l G e2) (va_cwS 1 hts (TB_S TB_id tw_711 tw_712 tw_54 tw_713) rfl rfl rfl (by decide +kernel) ⟨Nat.le_of_ble_eq_true rfl, Nat.le_of_ble_eq_true rfl⟩) hK (hP.sub [] rfl) rfl hl.1 rfl (Nat.le_of_ble_eq_true rfl) dX6_writesOld_1) rfl ?_
  refine lv_if_eq (tgt := 50) hx hb dX6_writesOld_4 (by decide) (fun c3 => ?_) (fun c3 => ?_)
  · have hf := g_ifT c3 hf
    refine lv_ldc (v := (-1000001 : Int32)) hx hb hown (hts _ tw_654) dX6_writesOld_50 ?_
    cases hf
    exact g_iretC hx hb hr hlocks hP hD hS dX6_writesOld_52
  · have hf := g_ifF c3 hf
    refine lv_iload_n hx hb dX6_writesOld_7 rfl (lv_at hl 2 rfl) ?_
    refine lv_iconst (v := (0 : Int32)) hx hb dX6_writesOld_8 (by decide) ?_
    refine lv_bipush (v := (99 : Int32)) hx hb dX6_writesOld_9 (by decide) ?_
    obtain ⟨r4, e5, hf⟩ := g_bdS hf
    refine g_contR (st1 := [.int r4]) (g_runSR (As := [.int p1, .int (0 : Int32), .int (99 : Int32)]) (rest := []) ⟨hx, hb, hml, hown, hts⟩ (qX6_in l G e5) (va_cwS 3 hts (TB_S TB_id tw_714 tw_715 tw_54 tw_716) rfl rfl rfl (by decide +kernel) ⟨Nat.le_of_ble_eq_true rfl, Nat.le_of_ble_eq_true rfl⟩) hK (hP.sub [] rfl) rfl hl.1 rfl (Nat.le_of_ble_eq_true rfl) dX6_writesOld_11) rfl ?_
    refine lv_if_eq (tgt := 50) hx hb dX6_writesOld_14 (by decide) (fun c6 => ?_) (fun c6 => ?_)
    · have hf := g_ifT c6 hf
      refine lv_ldc (v := (-1000001 : Int32)) hx hb hown (hts _ tw_654) dX6_writesOld_50 ?_
      cases hf
      exact g_iretC hx hb hr hlocks hP hD hS dX6_writesOld_52
    · have hf := g_ifF c6 hf
      refine lv_iload_n hx hb dX6_writesOld_17 rfl (lv_at hl 3 rfl) ?_
      refine lv_iconst (v := (0 : Int32)) hx hb dX6_writesOld_18 (by decide) ?_
      refine lv_bipush (v := (9 : Int32)) hx hb dX6_writesOld_19 (by decide) ?_
      obtain ⟨r7, e8, hf⟩ := g_bdS hf
      refine g_contR (st1 := [.int r7]) (g_runSR (As := [.int p2, .int (0 : Int32), .int (9 : Int32)]) (rest := []) ⟨hx, hb, hml, hown, hts⟩ (qX6_in l G e8) (va_cwS 3 hts (TB_S TB_id tw_714 tw_715 tw_54 tw_716) rfl rfl rfl (by decide +kernel) ⟨Nat.le_of_ble_eq_true rfl, Nat.le_of_ble_eq_true rfl⟩) hK (hP.sub [] rfl) rfl hl.1 rfl (Nat.le_of_ble_eq_true rfl) dX6_writesOld_21) rfl ?_
      refine lv_if_eq (tgt := 50) hx hb dX6_writesOld_24 (by decide) (fun c9 => ?_) (fun c9 => ?_)
      · have hf := g_ifT c9 hf
        refine lv_ldc (v := (-1000001 : Int32)) hx hb hown (hts _ tw_654) dX6_writesOld_50 ?_
        cases hf
        exact g_iretC hx hb hr hlocks hP hD hS dX6_writesOld_52
      · have hf := g_ifF c9 hf
        refine lv_iload hx hb dX6_writesOld_27 (lv_at hl 4 rfl) ?_
        refine lv_iconst (v := (0 : Int32)) hx hb dX6_writesOld_29 (by decide) ?_
        refine lv_iconst (v := (1 : Int32)) hx hb dX6_writesOld_30 (by decide) ?_
        obtain ⟨r10, e11, hf⟩ := g_bdS hf
        refine g_contR (st1 := [.int r10]) (g_runSR (As := [.int p3, .int (0 : Int32), .int (1 : Int32)]) (rest := []) ⟨hx, hb, hml, hown, hts⟩ (qX6_in l G e11) (va_cwS 3 hts (TB_S TB_id tw_714 tw_715 tw_54 tw_716) rfl rfl rfl (by decide +kernel) ⟨Nat.le_of_ble_eq_true rfl, Nat.le_of_ble_eq_true rfl⟩) hK (hP.sub [] rfl) rfl hl.1 rfl (Nat.le_of_ble_eq_true rfl) dX6_writesOld_31) rfl ?_
        refine lv_if_eq (tgt := 50) hx hb dX6_writesOld_34 (by decide) (fun c12 => ?_) (fun c12 => ?_)
        · have hf := g_ifT c12 hf
          refine lv_ldc (v := (-1000001 : Int32)) hx hb hown (hts _ tw_654) dX6_writesOld_50 ?_
          cases hf
          exact g_iretC hx hb hr hlocks hP hD hS dX6_writesOld_52
        · have hf := g_ifF c12 hf
          refine lv_aload_n hx hb dX6_writesOld_37 rfl (lv_at hl 0 rfl) ?_
          refine lv_iload_n hx hb dX6_writesOld_38 rfl (lv_at hl 1 rfl) ?_
          refine lv_iconst (v := (0 : Int32)) hx hb dX6_writesOld_39 (by decide) ?_
          refine lv_iload_n hx hb dX6_writesOld_40 rfl (lv_at hl 2 rfl) ?_
          refine lv_iload_n hx hb dX6_writesOld_41 rfl (lv_at hl 3 rfl) ?_
          refine lv_iload hx hb dX6_writesOld_42 (lv_at hl 4 rfl) ?_
          obtain ⟨r13, e14, hf⟩ := g_bdS hf
          refine g_contC (st1 := [.int r13.1]) (g_runVC (As := [.int p0, .int (0 : Int32), .int p1, .int p2, .int p3]) (rest := []) ⟨hx, hb, hml, hown, hts⟩ (qX6_writes l G a e14) (cwV 5 hts (TB_V TB_id tw_717 tw_719 tw_24 tw_54 tw_720) rfl rfl rfl (by decide +kernel) ⟨Nat.le_of_ble_eq_true rfl, Nat.le_of_ble_eq_true rfl⟩) hK (hP.sub [0, 1, 2, 3, 4, 5, 6, 7, 8] rfl) (hD.sub [0, 1, 2, 3, 4, 5, 6, 7, 8] (by decide) rfl) 0 rfl rfl rfl hl.1 rfl (Nat.le_of_ble_eq_true rfl) dX6_writesOld_44) rfl hP hD hS hA [0, 1, 2, 3, 4, 5, 6, 7, 8] rfl rfl (fun H locs hP hD hS => ?_)
          have hP : va_P G.1 vwCl [((a 0), .inr (5, [.ref (a 1), .ref (a 2), .ref (a 3), .ref (a 4), .int r13.2.2.2.2.2.1, .ref (a 5), .int r13.2.2.2.2.2.2.2.1, .int r13.2.2.2.2.2.2.2.2.1, .int r13.2.2.2.2.2.2.2.2.2.1, .ref (a 6), .ref (a 7), .ref (a 8)])), ((a 1), .inl (G.2.1, 411, .inl r13.2.1)), ((a 2), .inl (G.2.1, 1644, .inl r13.2.2.1)), ((a 3), .inl (G.2.1, 411, .inl r13.2.2.2.1)), ((a 4), .inl (G.2.1, 411, .inl r13.2.2.2.2.1)), ((a 5), .inl (G.2.2.1, 60, .inl r13.2.2.2.2.2.2.1)), ((a 6), .inl (G.2.1, 4, .inl r13.2.2.2.2.2.2.2.2.2.2.1)), ((a 7), .inl (G.2.1, 4, .inl r13.2.2.2.2.2.2.2.2.2.2.2.1)), ((a 8), .inl (G.2.1, 4, .inl r13.2.2.2.2.2.2.2.2.2.2.2.2))] H := hP
          have hD : va_D (va_A (modW G a ss was beg asi sta txt typ att rea got row oth) s.heap.size) [((a 0), .inr (5, [.ref (a 1), .ref (a 2), .ref (a 3), .ref (a 4), .int r13.2.2.2.2.2.1, .ref (a 5), .int r13.2.2.2.2.2.2.2.1, .int r13.2.2.2.2.2.2.2.2.1, .int r13.2.2.2.2.2.2.2.2.2.1, .ref (a 6), .ref (a 7), .ref (a 8)])), ((a 1), .inl (G.2.1, 411, .inl r13.2.1)), ((a 2), .inl (G.2.1, 1644, .inl r13.2.2.1)), ((a 3), .inl (G.2.1, 411, .inl r13.2.2.2.1)), ((a 4), .inl (G.2.1, 411, .inl r13.2.2.2.2.1)), ((a 5), .inl (G.2.2.1, 60, .inl r13.2.2.2.2.2.2.1)), ((a 6), .inl (G.2.1, 4, .inl r13.2.2.2.2.2.2.2.2.2.2.1)), ((a 7), .inl (G.2.1, 4, .inl r13.2.2.2.2.2.2.2.2.2.2.2.1)), ((a 8), .inl (G.2.1, 4, .inl r13.2.2.2.2.2.2.2.2.2.2.2.2))] := hD
          refine lv_goto (tgt := 52) hx hb dX6_writesOld_47 (by decide) ?_
          cases hf
          exact g_iretC hx hb hr hlocks hP hD hS dX6_writesOld_52
-- TwoShapesModel.writeOld(IIII)I
abbrev rmX6_writeOld : Room := { frames := 5, cells := 0, slots := 0, locals := 120 }
def fX6_writeOld (p0 : Int32) (p1 : Int32) (p2 : Int32) (p3 : Int32) (ss : Nat → Int32) (was : Nat → Int32) (beg : Nat → Int32) (asi : Nat → Int32) (sta : Int32) (txt : Nat → Int32) (typ : Int32) (att : Int32) (rea : Int32) (got : Nat → Int32) (row : Nat → Int32) (oth : Nat → Int32) : Option (Int32 × (Nat → Int32) × (Nat → Int32) × (Nat → Int32) × (Nat → Int32) × Int32 × (Nat → Int32) × Int32 × Int32 × Int32 × (Nat → Int32) × (Nat → Int32) × (Nat → Int32)) := ((fX6_keeps ss was beg asi sta txt typ att rea got row oth).bind fun r1 => ((fX6_writesOld p0 p1 p2 p3 r1.1 r1.2.1 r1.2.2.1 r1.2.2.2.1 r1.2.2.2.2.1 r1.2.2.2.2.2.1 r1.2.2.2.2.2.2.1 r1.2.2.2.2.2.2.2.1 r1.2.2.2.2.2.2.2.2.1 r1.2.2.2.2.2.2.2.2.2.1 r1.2.2.2.2.2.2.2.2.2.2.1 r1.2.2.2.2.2.2.2.2.2.2.2).bind fun r3 => ((fX6_acted r3.1 r3.2.1 r3.2.2.1 r3.2.2.2.1 r3.2.2.2.2.1 r3.2.2.2.2.2.1 r3.2.2.2.2.2.2.1 r3.2.2.2.2.2.2.2.1 r3.2.2.2.2.2.2.2.2.1 r3.2.2.2.2.2.2.2.2.2.1 r3.2.2.2.2.2.2.2.2.2.2.1 r3.2.2.2.2.2.2.2.2.2.2.2.1 r3.2.2.2.2.2.2.2.2.2.2.2.2).bind fun r5 => some (r5.1, r5.2.1, r5.2.2.1, r5.2.2.2.1, r5.2.2.2.2.1, r5.2.2.2.2.2.1, r5.2.2.2.2.2.2.1, r5.2.2.2.2.2.2.2.1, r5.2.2.2.2.2.2.2.2.1, r5.2.2.2.2.2.2.2.2.2.1, r5.2.2.2.2.2.2.2.2.2.2.1, r5.2.2.2.2.2.2.2.2.2.2.2.1, r5.2.2.2.2.2.2.2.2.2.2.2.2))))
set_option maxHeartbeats 4000000 in
set_option maxRecDepth 100000 in
theorem qX6_writeOld (l : Launch) (G : gT) (a : Nat → Nat) {p0 : Int32} {p1 : Int32} {p2 : Int32} {p3 : Int32} {ss : Nat → Int32} {was : Nat → Int32} {beg : Nat → Int32} {asi : Nat → Int32} {sta : Int32} {txt : Nat → Int32} {typ : Int32} {att : Int32} {rea : Int32} {got : Nat → Int32} {row : Nat → Int32} {oth : Nat → Int32} {u : Int32 × (Nat → Int32) × (Nat → Int32) × (Nat → Int32) × (Nat → Int32) × Int32 × (Nat → Int32) × Int32 × Int32 × Int32 × (Nat → Int32) × (Nat → Int32) × (Nat → Int32)} (hf : fX6_writeOld p0 p1 p2 p3 ss was beg asi sta txt typ att rea got row oth = some u) : gC l G yX6_writeOld wsX6_writeOld rmX6_writeOld [.ref (a 0), .int p0, .int p1, .int p2, .int p3] (modW G a ss was beg asi sta txt typ att rea got row oth) (some (.int u.1)) (modW G a u.2.1 u.2.2.1 u.2.2.2.1 u.2.2.2.2.1 u.2.2.2.2.2.1 u.2.2.2.2.2.2.1 u.2.2.2.2.2.2.2.1 u.2.2.2.2.2.2.2.2.1 u.2.2.2.2.2.2.2.2.2.1 u.2.2.2.2.2.2.2.2.2.2.1 u.2.2.2.2.2.2.2.2.2.2.2.1 u.2.2.2.2.2.2.2.2.2.2.2.2) := by
  refine gC.of (cc := cX6_writeOld) (maxL := 5) (ret := (some .int)) (by decide) rfl (Nat.le_of_ble_eq_true rfl) ?_
  intro p e s m below meth c C0 hP hD hS ls hl
  obtain ⟨hx, hb, hr, hts, hown, hlocks, hml, hK⟩ := id C0
  have hl : lv_has ls 5 [(0, .ref (a 0)), (1, .int p0), (2, .int p1), (3, .int p2), (4, .int p3)] := hl
  have hA : ∀ q : Nat, s.heap.size ≤ q → va_A (modW G a ss was beg asi sta txt typ att rea got row oth) s.heap.size q := fun q h => Or.inr h
  have hP : va_P G.1 vwCl [((a 0), .inr (5, [.ref (a 1), .ref (a 2), .ref (a 3), .ref (a 4), .int sta, .ref (a 5), .int typ, .int att, .int rea, .ref (a 6), .ref (a 7), .ref (a 8)])), ((a 1), .inl (G.2.1, 411, .inl ss)), ((a 2), .inl (G.2.1, 1644, .inl was)), ((a 3), .inl (G.2.1, 411, .inl beg)), ((a 4), .inl (G.2.1, 411, .inl asi)), ((a 5), .inl (G.2.2.1, 60, .inl txt)), ((a 6), .inl (G.2.1, 4, .inl got)), ((a 7), .inl (G.2.1, 4, .inl row)), ((a 8), .inl (G.2.1, 4, .inl oth))] s.heap := hP
  have hD : va_D (va_A (modW G a ss was beg asi sta txt typ att rea got row oth) s.heap.size) [((a 0), .inr (5, [.ref (a 1), .ref (a 2), .ref (a 3), .ref (a 4), .int sta, .ref (a 5), .int typ, .int att, .int rea, .ref (a 6), .ref (a 7), .ref (a 8)])), ((a 1), .inl (G.2.1, 411, .inl ss)), ((a 2), .inl (G.2.1, 1644, .inl was)), ((a 3), .inl (G.2.1, 411, .inl beg)), ((a 4), .inl (G.2.1, 411, .inl asi)), ((a 5), .inl (G.2.2.1, 60, .inl txt)), ((a 6), .inl (G.2.1, 4, .inl got)), ((a 7), .inl (G.2.1, 4, .inl row)), ((a 8), .inl (G.2.1, 4, .inl oth))] := hD
  unfold fX6_writeOld at hf
  refine lv_aload_n hx hb dX6_writeOld_0 rfl (lv_at hl 0 rfl) ?_
  obtain ⟨r1, e2, hf⟩ := g_bdS hf
  refine g_contC (st1 := []) (g_runVC (As := []) (rest := []) ⟨hx, hb, hml, hown, hts⟩ (qX6_keeps l G a e2) (cwV 0 hts (TB_V TB_id tw_631 tw_633 tw_9 tw_54 tw_634) rfl rfl rfl (by decide +kernel) ⟨Nat.le_of_ble_eq_true rfl, Nat.le_of_ble_eq_true rfl⟩) hK (hP.sub [0, 1, 2, 3, 4, 5, 6, 7, 8] rfl) (hD.sub [0, 1, 2, 3, 4, 5, 6, 7, 8] (by decide) rfl) 0 rfl rfl rfl hl.1 rfl (Nat.le_of_ble_eq_true rfl) dX6_writeOld_1) rfl hP hD hS hA [0, 1, 2, 3, 4, 5, 6, 7, 8] rfl rfl (fun H locs hP hD hS => ?_)
  have hP : va_P G.1 vwCl [((a 0), .inr (5, [.ref (a 1), .ref (a 2), .ref (a 3), .ref (a 4), .int r1.2.2.2.2.1, .ref (a 5), .int r1.2.2.2.2.2.2.1, .int r1.2.2.2.2.2.2.2.1, .int r1.2.2.2.2.2.2.2.2.1, .ref (a 6), .ref (a 7), .ref (a 8)])), ((a 1), .inl (G.2.1, 411, .inl r1.1)), ((a 2), .inl (G.2.1, 1644, .inl r1.2.1)), ((a 3), .inl (G.2.1, 411, .inl r1.2.2.1)), ((a 4), .inl (G.2.1, 411, .inl r1.2.2.2.1)), ((a 5), .inl (G.2.2.1, 60, .inl r1.2.2.2.2.2.1)), ((a 6), .inl (G.2.1, 4, .inl r1.2.2.2.2.2.2.2.2.2.1)), ((a 7), .inl (G.2.1, 4, .inl r1.2.2.2.2.2.2.2.2.2.2.1)), ((a 8), .inl (G.2.1, 4, .inl r1.2.2.2.2.2.2.2.2.2.2.2))] H := hP
  have hD : va_D (va_A (modW G a ss was beg asi sta txt typ att rea got row oth) s.heap.size) [((a 0), .inr (5, [.ref (a 1), .ref (a 2), .ref (a 3), .ref (a 4), .int r1.2.2.2.2.1, .ref (a 5), .int r1.2.2.2.2.2.2.1, .int r1.2.2.2.2.2.2.2.1, .int r1.2.2.2.2.2.2.2.2.1, .ref (a 6), .ref (a 7), .ref (a 8)])), ((a 1), .inl (G.2.1, 411, .inl r1.1)), ((a 2), .inl (G.2.1, 1644, .inl r1.2.1)), ((a 3), .inl (G.2.1, 411, .inl r1.2.2.1)), ((a 4), .inl (G.2.1, 411, .inl r1.2.2.2.1)), ((a 5), .inl (G.2.2.1, 60, .inl r1.2.2.2.2.2.1)), ((a 6), .inl (G.2.1, 4, .inl r1.2.2.2.2.2.2.2.2.2.1)), ((a 7), .inl (G.2.1, 4, .inl r1.2.2.2.2.2.2.2.2.2.2.1)), ((a 8), .inl (G.2.1, 4, .inl r1.2.2.2.2.2.2.2.2.2.2.2))] := hD
  refine lv_aload_n hx hb dX6_writeOld_4 rfl (lv_at hl 0 rfl) ?_
  refine lv_aload_n hx hb dX6_writeOld_5 rfl (lv_at hl 0 rfl) ?_
  refine lv_iload_n hx hb dX6_writeOld_6 rfl (lv_at hl 1 rfl) ?_
  refine lv_iload_n hx hb dX6_writeOld_7 rfl (lv_at hl 2 rfl) ?_
  refine lv_iload_n hx hb dX6_writeOld_8 rfl (lv_at hl 3 rfl) ?_
  refine lv_iload hx hb dX6_writeOld_9 (lv_at hl 4 rfl) ?_
  obtain ⟨r3, e4, hf⟩ := g_bdS hf
  refine g_contC (st1 := [.int r3.1, .ref (a 0)]) (g_runVC (As := [.int p0, .int p1, .int p2, .int p3]) (rest := [.ref (a 0)]) ⟨hx, hb, hml, hown, hts⟩ (qX6_writesOld l G a e4) (cwV 4 hts (TB_V TB_id tw_707 tw_709 tw_23 tw_54 tw_710) rfl rfl rfl (by decide +kernel) ⟨Nat.le_of_ble_eq_true rfl, Nat.le_of_ble_eq_true rfl⟩) hK (hP.sub [0, 1, 2, 3, 4, 5, 6, 7, 8] rfl) (hD.sub [0, 1, 2, 3, 4, 5, 6, 7, 8] (by decide) rfl) 0 rfl rfl rfl hl.1 rfl (Nat.le_of_ble_eq_true rfl) dX6_writeOld_11) rfl hP hD hS hA [0, 1, 2, 3, 4, 5, 6, 7, 8] rfl rfl (fun H locs hP hD hS => ?_)
  have hP : va_P G.1 vwCl [((a 0), .inr (5, [.ref (a 1), .ref (a 2), .ref (a 3), .ref (a 4), .int r3.2.2.2.2.2.1, .ref (a 5), .int r3.2.2.2.2.2.2.2.1, .int r3.2.2.2.2.2.2.2.2.1, .int r3.2.2.2.2.2.2.2.2.2.1, .ref (a 6), .ref (a 7), .ref (a 8)])), ((a 1), .inl (G.2.1, 411, .inl r3.2.1)), ((a 2), .inl (G.2.1, 1644, .inl r3.2.2.1)), ((a 3), .inl (G.2.1, 411, .inl r3.2.2.2.1)), ((a 4), .inl (G.2.1, 411, .inl r3.2.2.2.2.1)), ((a 5), .inl (G.2.2.1, 60, .inl r3.2.2.2.2.2.2.1)), ((a 6), .inl (G.2.1, 4, .inl r3.2.2.2.2.2.2.2.2.2.2.1)), ((a 7), .inl (G.2.1, 4, .inl r3.2.2.2.2.2.2.2.2.2.2.2.1)), ((a 8), .inl (G.2.1, 4, .inl r3.2.2.2.2.2.2.2.2.2.2.2.2))] H := hP
  have hD : va_D (va_A (modW G a ss was beg asi sta txt typ att rea got row oth) s.heap.size) [((a 0), .inr (5, [.ref (a 1), .ref (a 2), .ref (a 3), .ref (a 4), .int r3.2.2.2.2.2.1, .ref (a 5), .int r3.2.2.2.2.2.2.2.1, .int r3.2.2.2.2.2.2.2.2.1, .int r3.2.2.2.2.2.2.2.2.2.1, .ref (a 6), .ref (a 7), .ref (a 8)])), ((a 1), .inl (G.2.1, 411, .inl r3.2.1)), ((a 2), .inl (G.2.1, 1644, .inl r3.2.2.1)), ((a 3), .inl (G.2.1, 411, .inl r3.2.2.2.1)), ((a 4), .inl (G.2.1, 411, .inl r3.2.2.2.2.1)), ((a 5), .inl (G.2.2.1, 60, .inl r3.2.2.2.2.2.2.1)), ((a 6), .inl (G.2.1, 4, .inl r3.2.2.2.2.2.2.2.2.2.2.1)), ((a 7), .inl (G.2.1, 4, .inl r3.2.2.2.2.2.2.2.2.2.2.2.1)), ((a 8), .inl (G.2.1, 4, .inl r3.2.2.2.2.2.2.2.2.2.2.2.2))] := hD
  obtain ⟨r5, e6, hf⟩ := g_bdS hf
  refine g_contC (st1 := [.int r5.1]) (g_runVC (As := [.int r3.1]) (rest := []) ⟨hx, hb, hml, hown, hts⟩ (qX6_acted l G a e6) (cwV 1 hts (TB_V TB_id tw_650 tw_652 tw_13 tw_54 tw_653) rfl rfl rfl (by decide +kernel) ⟨Nat.le_of_ble_eq_true rfl, Nat.le_of_ble_eq_true rfl⟩) hK (hP.sub [0, 1, 2, 3, 4, 5, 6, 7, 8] rfl) (hD.sub [0, 1, 2, 3, 4, 5, 6, 7, 8] (by decide) rfl) 0 rfl rfl rfl hl.1 rfl (Nat.le_of_ble_eq_true rfl) dX6_writeOld_14) rfl hP hD hS hA [0, 1, 2, 3, 4, 5, 6, 7, 8] rfl rfl (fun H locs hP hD hS => ?_)
  have hP : va_P G.1 vwCl [((a 0), .inr (5, [.ref (a 1), .ref (a 2), .ref (a 3), .ref (a 4), .int r5.2.2.2.2.2.1, .ref (a 5), .int r5.2.2.2.2.2.2.2.1, .int r5.2.2.2.2.2.2.2.2.1, .int r5.2.2.2.2.2.2.2.2.2.1, .ref (a 6), .ref (a 7), .ref (a 8)])), ((a 1), .inl (G.2.1, 411, .inl r5.2.1)), ((a 2), .inl (G.2.1, 1644, .inl r5.2.2.1)), ((a 3), .inl (G.2.1, 411, .inl r5.2.2.2.1)), ((a 4), .inl (G.2.1, 411, .inl r5.2.2.2.2.1)), ((a 5), .inl (G.2.2.1, 60, .inl r5.2.2.2.2.2.2.1)), ((a 6), .inl (G.2.1, 4, .inl r5.2.2.2.2.2.2.2.2.2.2.1)), ((a 7), .inl (G.2.1, 4, .inl r5.2.2.2.2.2.2.2.2.2.2.2.1)), ((a 8), .inl (G.2.1, 4, .inl r5.2.2.2.2.2.2.2.2.2.2.2.2))] H := hP
  have hD : va_D (va_A (modW G a ss was beg asi sta txt typ att rea got row oth) s.heap.size) [((a 0), .inr (5, [.ref (a 1), .ref (a 2), .ref (a 3), .ref (a 4), .int r5.2.2.2.2.2.1, .ref (a 5), .int r5.2.2.2.2.2.2.2.1, .int r5.2.2.2.2.2.2.2.2.1, .int r5.2.2.2.2.2.2.2.2.2.1, .ref (a 6), .ref (a 7), .ref (a 8)])), ((a 1), .inl (G.2.1, 411, .inl r5.2.1)), ((a 2), .inl (G.2.1, 1644, .inl r5.2.2.1)), ((a 3), .inl (G.2.1, 411, .inl r5.2.2.2.1)), ((a 4), .inl (G.2.1, 411, .inl r5.2.2.2.2.1)), ((a 5), .inl (G.2.2.1, 60, .inl r5.2.2.2.2.2.2.1)), ((a 6), .inl (G.2.1, 4, .inl r5.2.2.2.2.2.2.2.2.2.2.1)), ((a 7), .inl (G.2.1, 4, .inl r5.2.2.2.2.2.2.2.2.2.2.2.1)), ((a 8), .inl (G.2.1, 4, .inl r5.2.2.2.2.2.2.2.2.2.2.2.2))] := hD
  cases hf
  exact g_iretC hx hb hr hlocks hP hD hS dX6_writeOld_17
-- TwoShapesModel.writesNew(III)I
abbrev rmX6_writesNew : Room := { frames := 4, cells := 0, slots := 0, locals := 96 }
def fX6_writesNew (p0 : Int32) (p1 : Int32) (p2 : Int32) (ss : Nat → Int32) (was : Nat → Int32) (beg : Nat → Int32) (asi : Nat → Int32) (sta : Int32) (txt : Nat → Int32) (typ : Int32) (att : Int32) (rea : Int32) (got : Nat → Int32) (row : Nat → Int32) (oth : Nat → Int32) : Option (Int32 × (Nat → Int32) × (Nat → Int32) × (Nat → Int32) × (Nat → Int32) × Int32 × (Nat → Int32) × Int32 × Int32 × Int32 × (Nat → Int32) × (Nat → Int32) × (Nat → Int32)) := ((fX6_isKey p0).bind fun r1 => (if r1 = (0 : Int32) then some ((-1000001 : Int32), ss, was, beg, asi, sta, txt, typ, att, rea, got, row, oth) else ((fX6_in p1 (0 : Int32) (999 : Int32)).bind fun r4 => (if r4 = (0 : Int32) then some ((-1000001 : Int32), ss, was, beg, asi, sta, txt, typ, att, rea, got, row, oth) else ((fX6_in p2 (0 : Int32) (3 : Int32)).bind fun r7 => (if r7 = (0 : Int32) then some ((-1000001 : Int32), ss, was, beg, asi, sta, txt, typ, att, rea, got, row, oth) else ((fX6_writes p0 (1 : Int32) p1 p2 (0 : Int32) ss was beg asi sta txt typ att rea got row oth).bind fun r10 => some (r10.1, r10.2.1, r10.2.2.1, r10.2.2.2.1, r10.2.2.2.2.1, r10.2.2.2.2.2.1, r10.2.2.2.2.2.2.1, r10.2.2.2.2.2.2.2.1, r10.2.2.2.2.2.2.2.2.1, r10.2.2.2.2.2.2.2.2.2.1, r10.2.2.2.2.2.2.2.2.2.2.1, r10.2.2.2.2.2.2.2.2.2.2.2.1, r10.2.2.2.2.2.2.2.2.2.2.2.2))))))))
set_option maxHeartbeats 4000000 in
set_option maxRecDepth 100000 in
theorem qX6_writesNew (l : Launch) (G : gT) (a : Nat → Nat) {p0 : Int32} {p1 : Int32} {p2 : Int32} {ss : Nat → Int32} {was : Nat → Int32} {beg : Nat → Int32} {asi : Nat → Int32} {sta : Int32} {txt : Nat → Int32} {typ : Int32} {att : Int32} {rea : Int32} {got : Nat → Int32} {row : Nat → Int32} {oth : Nat → Int32} {u : Int32 × (Nat → Int32) × (Nat → Int32) × (Nat → Int32) × (Nat → Int32) × Int32 × (Nat → Int32) × Int32 × Int32 × Int32 × (Nat → Int32) × (Nat → Int32) × (Nat → Int32)} (hf : fX6_writesNew p0 p1 p2 ss was beg asi sta txt typ att rea got row oth = some u) : gC l G yX6_writesNew wsX6_writesNew rmX6_writesNew [.ref (a 0), .int p0, .int p1, .int p2] (modW G a ss was beg asi sta txt typ att rea got row oth) (some (.int u.1)) (modW G a u.2.1 u.2.2.1 u.2.2.2.1 u.2.2.2.2.1 u.2.2.2.2.2.1 u.2.2.2.2.2.2.1 u.2.2.2.2.2.2.2.1 u.2.2.2.2.2.2.2.2.1 u.2.2.2.2.2.2.2.2.2.1 u.2.2.2.2.2.2.2.2.2.2.1 u.2.2.2.2.2.2.2.2.2.2.2.1 u.2.2.2.2.2.2.2.2.2.2.2.2) := by
  refine gC.of (cc := cX6_writesNew) (maxL := 4) (ret := (some .int)) (by decide) rfl (Nat.le_of_ble_eq_true rfl) ?_
  intro p e s m below meth c C0 hP hD hS ls hl
  obtain ⟨hx, hb, hr, hts, hown, hlocks, hml, hK⟩ := id C0
  have hl : lv_has ls 4 [(0, .ref (a 0)), (1, .int p0), (2, .int p1), (3, .int p2)] := hl
  have hA : ∀ q : Nat, s.heap.size ≤ q → va_A (modW G a ss was beg asi sta txt typ att rea got row oth) s.heap.size q := fun q h => Or.inr h
  have hP : va_P G.1 vwCl [((a 0), .inr (5, [.ref (a 1), .ref (a 2), .ref (a 3), .ref (a 4), .int sta, .ref (a 5), .int typ, .int att, .int rea, .ref (a 6), .ref (a 7), .ref (a 8)])), ((a 1), .inl (G.2.1, 411, .inl ss)), ((a 2), .inl (G.2.1, 1644, .inl was)), ((a 3), .inl (G.2.1, 411, .inl beg)), ((a 4), .inl (G.2.1, 411, .inl asi)), ((a 5), .inl (G.2.2.1, 60, .inl txt)), ((a 6), .inl (G.2.1, 4, .inl got)), ((a 7), .inl (G.2.1, 4, .inl row)), ((a 8), .inl (G.2.1, 4, .inl oth))] s.heap := hP
  have hD : va_D (va_A (modW G a ss was beg asi sta txt typ att rea got row oth) s.heap.size) [((a 0), .inr (5, [.ref (a 1), .ref (a 2), .ref (a 3), .ref (a 4), .int sta, .ref (a 5), .int typ, .int att, .int rea, .ref (a 6), .ref (a 7), .ref (a 8)])), ((a 1), .inl (G.2.1, 411, .inl ss)), ((a 2), .inl (G.2.1, 1644, .inl was)), ((a 3), .inl (G.2.1, 411, .inl beg)), ((a 4), .inl (G.2.1, 411, .inl asi)), ((a 5), .inl (G.2.2.1, 60, .inl txt)), ((a 6), .inl (G.2.1, 4, .inl got)), ((a 7), .inl (G.2.1, 4, .inl row)), ((a 8), .inl (G.2.1, 4, .inl oth))] := hD
  unfold fX6_writesNew at hf
  refine lv_iload_n hx hb dX6_writesNew_0 rfl (lv_at hl 1 rfl) ?_
  obtain ⟨r1, e2, hf⟩ := g_bdS hf
  refine g_contR (st1 := [.int r1]) (g_runSR (As := [.int p0]) (rest := []) ⟨hx, hb, hml, hown, hts⟩ (qX6_isKey l G e2) (va_cwS 1 hts (TB_S TB_id tw_711 tw_712 tw_54 tw_713) rfl rfl rfl (by decide +kernel) ⟨Nat.le_of_ble_eq_true rfl, Nat.le_of_ble_eq_true rfl⟩) hK (hP.sub [] rfl) rfl hl.1 rfl (Nat.le_of_ble_eq_true rfl) dX6_writesNew_1) rfl ?_
  refine lv_if_eq (tgt := 39) hx hb dX6_writesNew_4 (by decide) (fun c3 => ?_) (fun c3 => ?_)
  · have hf := g_ifT c3 hf
    refine lv_ldc (v := (-1000001 : Int32)) hx hb hown (hts _ tw_654) dX6_writesNew_39 ?_
    cases hf
    exact g_iretC hx hb hr hlocks hP hD hS dX6_writesNew_41
  · have hf := g_ifF c3 hf
    refine lv_iload_n hx hb dX6_writesNew_7 rfl (lv_at hl 2 rfl) ?_
    refine lv_iconst (v := (0 : Int32)) hx hb dX6_writesNew_8 (by decide) ?_
    refine lv_sipush (v := (999 : Int32)) hx hb dX6_writesNew_9 (by decide) ?_
    obtain ⟨r4, e5, hf⟩ := g_bdS hf
    refine g_contR (st1 := [.int r4]) (g_runSR (As := [.int p1, .int (0 : Int32), .int (999 : Int32)]) (rest := []) ⟨hx, hb, hml, hown, hts⟩ (qX6_in l G e5) (va_cwS 3 hts (TB_S TB_id tw_714 tw_715 tw_54 tw_716) rfl rfl rfl (by decide +kernel) ⟨Nat.le_of_ble_eq_true rfl, Nat.le_of_ble_eq_true rfl⟩) hK (hP.sub [] rfl) rfl hl.1 rfl (Nat.le_of_ble_eq_true rfl) dX6_writesNew_12) rfl ?_
    refine lv_if_eq (tgt := 39) hx hb dX6_writesNew_15 (by decide) (fun c6 => ?_) (fun c6 => ?_)
    · have hf := g_ifT c6 hf
      refine lv_ldc (v := (-1000001 : Int32)) hx hb hown (hts _ tw_654) dX6_writesNew_39 ?_
      cases hf
      exact g_iretC hx hb hr hlocks hP hD hS dX6_writesNew_41
    · have hf := g_ifF c6 hf
      refine lv_iload_n hx hb dX6_writesNew_18 rfl (lv_at hl 3 rfl) ?_
      refine lv_iconst (v := (0 : Int32)) hx hb dX6_writesNew_19 (by decide) ?_
      refine lv_iconst (v := (3 : Int32)) hx hb dX6_writesNew_20 (by decide) ?_
      obtain ⟨r7, e8, hf⟩ := g_bdS hf
      refine g_contR (st1 := [.int r7]) (g_runSR (As := [.int p2, .int (0 : Int32), .int (3 : Int32)]) (rest := []) ⟨hx, hb, hml, hown, hts⟩ (qX6_in l G e8) (va_cwS 3 hts (TB_S TB_id tw_714 tw_715 tw_54 tw_716) rfl rfl rfl (by decide +kernel) ⟨Nat.le_of_ble_eq_true rfl, Nat.le_of_ble_eq_true rfl⟩) hK (hP.sub [] rfl) rfl hl.1 rfl (Nat.le_of_ble_eq_true rfl) dX6_writesNew_21) rfl ?_
      refine lv_if_eq (tgt := 39) hx hb dX6_writesNew_24 (by decide) (fun c9 => ?_) (fun c9 => ?_)
      · have hf := g_ifT c9 hf
        refine lv_ldc (v := (-1000001 : Int32)) hx hb hown (hts _ tw_654) dX6_writesNew_39 ?_
        cases hf
        exact g_iretC hx hb hr hlocks hP hD hS dX6_writesNew_41
      · have hf := g_ifF c9 hf
        refine lv_aload_n hx hb dX6_writesNew_27 rfl (lv_at hl 0 rfl) ?_
        refine lv_iload_n hx hb dX6_writesNew_28 rfl (lv_at hl 1 rfl) ?_
        refine lv_iconst (v := (1 : Int32)) hx hb dX6_writesNew_29 (by decide) ?_
        refine lv_iload_n hx hb dX6_writesNew_30 rfl (lv_at hl 2 rfl) ?_
        refine lv_iload_n hx hb dX6_writesNew_31 rfl (lv_at hl 3 rfl) ?_
        refine lv_iconst (v := (0 : Int32)) hx hb dX6_writesNew_32 (by decide) ?_
        obtain ⟨r10, e11, hf⟩ := g_bdS hf
        refine g_contC (st1 := [.int r10.1]) (g_runVC (As := [.int p0, .int (1 : Int32), .int p1, .int p2, .int (0 : Int32)]) (rest := []) ⟨hx, hb, hml, hown, hts⟩ (qX6_writes l G a e11) (cwV 5 hts (TB_V TB_id tw_717 tw_719 tw_24 tw_54 tw_720) rfl rfl rfl (by decide +kernel) ⟨Nat.le_of_ble_eq_true rfl, Nat.le_of_ble_eq_true rfl⟩) hK (hP.sub [0, 1, 2, 3, 4, 5, 6, 7, 8] rfl) (hD.sub [0, 1, 2, 3, 4, 5, 6, 7, 8] (by decide) rfl) 0 rfl rfl rfl hl.1 rfl (Nat.le_of_ble_eq_true rfl) dX6_writesNew_33) rfl hP hD hS hA [0, 1, 2, 3, 4, 5, 6, 7, 8] rfl rfl (fun H locs hP hD hS => ?_)
        have hP : va_P G.1 vwCl [((a 0), .inr (5, [.ref (a 1), .ref (a 2), .ref (a 3), .ref (a 4), .int r10.2.2.2.2.2.1, .ref (a 5), .int r10.2.2.2.2.2.2.2.1, .int r10.2.2.2.2.2.2.2.2.1, .int r10.2.2.2.2.2.2.2.2.2.1, .ref (a 6), .ref (a 7), .ref (a 8)])), ((a 1), .inl (G.2.1, 411, .inl r10.2.1)), ((a 2), .inl (G.2.1, 1644, .inl r10.2.2.1)), ((a 3), .inl (G.2.1, 411, .inl r10.2.2.2.1)), ((a 4), .inl (G.2.1, 411, .inl r10.2.2.2.2.1)), ((a 5), .inl (G.2.2.1, 60, .inl r10.2.2.2.2.2.2.1)), ((a 6), .inl (G.2.1, 4, .inl r10.2.2.2.2.2.2.2.2.2.2.1)), ((a 7), .inl (G.2.1, 4, .inl r10.2.2.2.2.2.2.2.2.2.2.2.1)), ((a 8), .inl (G.2.1, 4, .inl r10.2.2.2.2.2.2.2.2.2.2.2.2))] H := hP
        have hD : va_D (va_A (modW G a ss was beg asi sta txt typ att rea got row oth) s.heap.size) [((a 0), .inr (5, [.ref (a 1), .ref (a 2), .ref (a 3), .ref (a 4), .int r10.2.2.2.2.2.1, .ref (a 5), .int r10.2.2.2.2.2.2.2.1, .int r10.2.2.2.2.2.2.2.2.1, .int r10.2.2.2.2.2.2.2.2.2.1, .ref (a 6), .ref (a 7), .ref (a 8)])), ((a 1), .inl (G.2.1, 411, .inl r10.2.1)), ((a 2), .inl (G.2.1, 1644, .inl r10.2.2.1)), ((a 3), .inl (G.2.1, 411, .inl r10.2.2.2.1)), ((a 4), .inl (G.2.1, 411, .inl r10.2.2.2.2.1)), ((a 5), .inl (G.2.2.1, 60, .inl r10.2.2.2.2.2.2.1)), ((a 6), .inl (G.2.1, 4, .inl r10.2.2.2.2.2.2.2.2.2.2.1)), ((a 7), .inl (G.2.1, 4, .inl r10.2.2.2.2.2.2.2.2.2.2.2.1)), ((a 8), .inl (G.2.1, 4, .inl r10.2.2.2.2.2.2.2.2.2.2.2.2))] := hD
        refine lv_goto (tgt := 41) hx hb dX6_writesNew_36 (by decide) ?_
        cases hf
        exact g_iretC hx hb hr hlocks hP hD hS dX6_writesNew_41
-- TwoShapesModel.writeNew(III)I
abbrev rmX6_writeNew : Room := { frames := 5, cells := 0, slots := 0, locals := 119 }
def fX6_writeNew (p0 : Int32) (p1 : Int32) (p2 : Int32) (ss : Nat → Int32) (was : Nat → Int32) (beg : Nat → Int32) (asi : Nat → Int32) (sta : Int32) (txt : Nat → Int32) (typ : Int32) (att : Int32) (rea : Int32) (got : Nat → Int32) (row : Nat → Int32) (oth : Nat → Int32) : Option (Int32 × (Nat → Int32) × (Nat → Int32) × (Nat → Int32) × (Nat → Int32) × Int32 × (Nat → Int32) × Int32 × Int32 × Int32 × (Nat → Int32) × (Nat → Int32) × (Nat → Int32)) := ((fX6_keeps ss was beg asi sta txt typ att rea got row oth).bind fun r1 => ((fX6_writesNew p0 p1 p2 r1.1 r1.2.1 r1.2.2.1 r1.2.2.2.1 r1.2.2.2.2.1 r1.2.2.2.2.2.1 r1.2.2.2.2.2.2.1 r1.2.2.2.2.2.2.2.1 r1.2.2.2.2.2.2.2.2.1 r1.2.2.2.2.2.2.2.2.2.1 r1.2.2.2.2.2.2.2.2.2.2.1 r1.2.2.2.2.2.2.2.2.2.2.2).bind fun r3 => ((fX6_acted r3.1 r3.2.1 r3.2.2.1 r3.2.2.2.1 r3.2.2.2.2.1 r3.2.2.2.2.2.1 r3.2.2.2.2.2.2.1 r3.2.2.2.2.2.2.2.1 r3.2.2.2.2.2.2.2.2.1 r3.2.2.2.2.2.2.2.2.2.1 r3.2.2.2.2.2.2.2.2.2.2.1 r3.2.2.2.2.2.2.2.2.2.2.2.1 r3.2.2.2.2.2.2.2.2.2.2.2.2).bind fun r5 => some (r5.1, r5.2.1, r5.2.2.1, r5.2.2.2.1, r5.2.2.2.2.1, r5.2.2.2.2.2.1, r5.2.2.2.2.2.2.1, r5.2.2.2.2.2.2.2.1, r5.2.2.2.2.2.2.2.2.1, r5.2.2.2.2.2.2.2.2.2.1, r5.2.2.2.2.2.2.2.2.2.2.1, r5.2.2.2.2.2.2.2.2.2.2.2.1, r5.2.2.2.2.2.2.2.2.2.2.2.2))))
set_option maxHeartbeats 4000000 in
set_option maxRecDepth 100000 in
theorem qX6_writeNew (l : Launch) (G : gT) (a : Nat → Nat) {p0 : Int32} {p1 : Int32} {p2 : Int32} {ss : Nat → Int32} {was : Nat → Int32} {beg : Nat → Int32} {asi : Nat → Int32} {sta : Int32} {txt : Nat → Int32} {typ : Int32} {att : Int32} {rea : Int32} {got : Nat → Int32} {row : Nat → Int32} {oth : Nat → Int32} {u : Int32 × (Nat → Int32) × (Nat → Int32) × (Nat → Int32) × (Nat → Int32) × Int32 × (Nat → Int32) × Int32 × Int32 × Int32 × (Nat → Int32) × (Nat → Int32) × (Nat → Int32)} (hf : fX6_writeNew p0 p1 p2 ss was beg asi sta txt typ att rea got row oth = some u) : gC l G yX6_writeNew wsX6_writeNew rmX6_writeNew [.ref (a 0), .int p0, .int p1, .int p2] (modW G a ss was beg asi sta txt typ att rea got row oth) (some (.int u.1)) (modW G a u.2.1 u.2.2.1 u.2.2.2.1 u.2.2.2.2.1 u.2.2.2.2.2.1 u.2.2.2.2.2.2.1 u.2.2.2.2.2.2.2.1 u.2.2.2.2.2.2.2.2.1 u.2.2.2.2.2.2.2.2.2.1 u.2.2.2.2.2.2.2.2.2.2.1 u.2.2.2.2.2.2.2.2.2.2.2.1 u.2.2.2.2.2.2.2.2.2.2.2.2) := by
  refine gC.of (cc := cX6_writeNew) (maxL := 4) (ret := (some .int)) (by decide) rfl (Nat.le_of_ble_eq_true rfl) ?_
  intro p e s m below meth c C0 hP hD hS ls hl
  obtain ⟨hx, hb, hr, hts, hown, hlocks, hml, hK⟩ := id C0
  have hl : lv_has ls 4 [(0, .ref (a 0)), (1, .int p0), (2, .int p1), (3, .int p2)] := hl
  have hA : ∀ q : Nat, s.heap.size ≤ q → va_A (modW G a ss was beg asi sta txt typ att rea got row oth) s.heap.size q := fun q h => Or.inr h
  have hP : va_P G.1 vwCl [((a 0), .inr (5, [.ref (a 1), .ref (a 2), .ref (a 3), .ref (a 4), .int sta, .ref (a 5), .int typ, .int att, .int rea, .ref (a 6), .ref (a 7), .ref (a 8)])), ((a 1), .inl (G.2.1, 411, .inl ss)), ((a 2), .inl (G.2.1, 1644, .inl was)), ((a 3), .inl (G.2.1, 411, .inl beg)), ((a 4), .inl (G.2.1, 411, .inl asi)), ((a 5), .inl (G.2.2.1, 60, .inl txt)), ((a 6), .inl (G.2.1, 4, .inl got)), ((a 7), .inl (G.2.1, 4, .inl row)), ((a 8), .inl (G.2.1, 4, .inl oth))] s.heap := hP
  have hD : va_D (va_A (modW G a ss was beg asi sta txt typ att rea got row oth) s.heap.size) [((a 0), .inr (5, [.ref (a 1), .ref (a 2), .ref (a 3), .ref (a 4), .int sta, .ref (a 5), .int typ, .int att, .int rea, .ref (a 6), .ref (a 7), .ref (a 8)])), ((a 1), .inl (G.2.1, 411, .inl ss)), ((a 2), .inl (G.2.1, 1644, .inl was)), ((a 3), .inl (G.2.1, 411, .inl beg)), ((a 4), .inl (G.2.1, 411, .inl asi)), ((a 5), .inl (G.2.2.1, 60, .inl txt)), ((a 6), .inl (G.2.1, 4, .inl got)), ((a 7), .inl (G.2.1, 4, .inl row)), ((a 8), .inl (G.2.1, 4, .inl oth))] := hD
  unfold fX6_writeNew at hf
  refine lv_aload_n hx hb dX6_writeNew_0 rfl (lv_at hl 0 rfl) ?_
  obtain ⟨r1, e2, hf⟩ := g_bdS hf
  refine g_contC (st1 := []) (g_runVC (As := []) (rest := []) ⟨hx, hb, hml, hown, hts⟩ (qX6_keeps l G a e2) (cwV 0 hts (TB_V TB_id tw_631 tw_633 tw_9 tw_54 tw_634) rfl rfl rfl (by decide +kernel) ⟨Nat.le_of_ble_eq_true rfl, Nat.le_of_ble_eq_true rfl⟩) hK (hP.sub [0, 1, 2, 3, 4, 5, 6, 7, 8] rfl) (hD.sub [0, 1, 2, 3, 4, 5, 6, 7, 8] (by decide) rfl) 0 rfl rfl rfl hl.1 rfl (Nat.le_of_ble_eq_true rfl) dX6_writeNew_1) rfl hP hD hS hA [0, 1, 2, 3, 4, 5, 6, 7, 8] rfl rfl (fun H locs hP hD hS => ?_)
  have hP : va_P G.1 vwCl [((a 0), .inr (5, [.ref (a 1), .ref (a 2), .ref (a 3), .ref (a 4), .int r1.2.2.2.2.1, .ref (a 5), .int r1.2.2.2.2.2.2.1, .int r1.2.2.2.2.2.2.2.1, .int r1.2.2.2.2.2.2.2.2.1, .ref (a 6), .ref (a 7), .ref (a 8)])), ((a 1), .inl (G.2.1, 411, .inl r1.1)), ((a 2), .inl (G.2.1, 1644, .inl r1.2.1)), ((a 3), .inl (G.2.1, 411, .inl r1.2.2.1)), ((a 4), .inl (G.2.1, 411, .inl r1.2.2.2.1)), ((a 5), .inl (G.2.2.1, 60, .inl r1.2.2.2.2.2.1)), ((a 6), .inl (G.2.1, 4, .inl r1.2.2.2.2.2.2.2.2.2.1)), ((a 7), .inl (G.2.1, 4, .inl r1.2.2.2.2.2.2.2.2.2.2.1)), ((a 8), .inl (G.2.1, 4, .inl r1.2.2.2.2.2.2.2.2.2.2.2))] H := hP
  have hD : va_D (va_A (modW G a ss was beg asi sta txt typ att rea got row oth) s.heap.size) [((a 0), .inr (5, [.ref (a 1), .ref (a 2), .ref (a 3), .ref (a 4), .int r1.2.2.2.2.1, .ref (a 5), .int r1.2.2.2.2.2.2.1, .int r1.2.2.2.2.2.2.2.1, .int r1.2.2.2.2.2.2.2.2.1, .ref (a 6), .ref (a 7), .ref (a 8)])), ((a 1), .inl (G.2.1, 411, .inl r1.1)), ((a 2), .inl (G.2.1, 1644, .inl r1.2.1)), ((a 3), .inl (G.2.1, 411, .inl r1.2.2.1)), ((a 4), .inl (G.2.1, 411, .inl r1.2.2.2.1)), ((a 5), .inl (G.2.2.1, 60, .inl r1.2.2.2.2.2.1)), ((a 6), .inl (G.2.1, 4, .inl r1.2.2.2.2.2.2.2.2.2.1)), ((a 7), .inl (G.2.1, 4, .inl r1.2.2.2.2.2.2.2.2.2.2.1)), ((a 8), .inl (G.2.1, 4, .inl r1.2.2.2.2.2.2.2.2.2.2.2))] := hD
  refine lv_aload_n hx hb dX6_writeNew_4 rfl (lv_at hl 0 rfl) ?_
  refine lv_aload_n hx hb dX6_writeNew_5 rfl (lv_at hl 0 rfl) ?_
  refine lv_iload_n hx hb dX6_writeNew_6 rfl (lv_at hl 1 rfl) ?_
  refine lv_iload_n hx hb dX6_writeNew_7 rfl (lv_at hl 2 rfl) ?_
  refine lv_iload_n hx hb dX6_writeNew_8 rfl (lv_at hl 3 rfl) ?_
  obtain ⟨r3, e4, hf⟩ := g_bdS hf
  refine g_contC (st1 := [.int r3.1, .ref (a 0)]) (g_runVC (As := [.int p0, .int p1, .int p2]) (rest := [.ref (a 0)]) ⟨hx, hb, hml, hown, hts⟩ (qX6_writesNew l G a e4) (cwV 3 hts (TB_V TB_id tw_739 tw_741 tw_28 tw_54 tw_742) rfl rfl rfl (by decide +kernel) ⟨Nat.le_of_ble_eq_true rfl, Nat.le_of_ble_eq_true rfl⟩) hK (hP.sub [0, 1, 2, 3, 4, 5, 6, 7, 8] rfl) (hD.sub [0, 1, 2, 3, 4, 5, 6, 7, 8] (by decide) rfl) 0 rfl rfl rfl hl.1 rfl (Nat.le_of_ble_eq_true rfl) dX6_writeNew_9) rfl hP hD hS hA [0, 1, 2, 3, 4, 5, 6, 7, 8] rfl rfl (fun H locs hP hD hS => ?_)
  have hP : va_P G.1 vwCl [((a 0), .inr (5, [.ref (a 1), .ref (a 2), .ref (a 3), .ref (a 4), .int r3.2.2.2.2.2.1, .ref (a 5), .int r3.2.2.2.2.2.2.2.1, .int r3.2.2.2.2.2.2.2.2.1, .int r3.2.2.2.2.2.2.2.2.2.1, .ref (a 6), .ref (a 7), .ref (a 8)])), ((a 1), .inl (G.2.1, 411, .inl r3.2.1)), ((a 2), .inl (G.2.1, 1644, .inl r3.2.2.1)), ((a 3), .inl (G.2.1, 411, .inl r3.2.2.2.1)), ((a 4), .inl (G.2.1, 411, .inl r3.2.2.2.2.1)), ((a 5), .inl (G.2.2.1, 60, .inl r3.2.2.2.2.2.2.1)), ((a 6), .inl (G.2.1, 4, .inl r3.2.2.2.2.2.2.2.2.2.2.1)), ((a 7), .inl (G.2.1, 4, .inl r3.2.2.2.2.2.2.2.2.2.2.2.1)), ((a 8), .inl (G.2.1, 4, .inl r3.2.2.2.2.2.2.2.2.2.2.2.2))] H := hP
  have hD : va_D (va_A (modW G a ss was beg asi sta txt typ att rea got row oth) s.heap.size) [((a 0), .inr (5, [.ref (a 1), .ref (a 2), .ref (a 3), .ref (a 4), .int r3.2.2.2.2.2.1, .ref (a 5), .int r3.2.2.2.2.2.2.2.1, .int r3.2.2.2.2.2.2.2.2.1, .int r3.2.2.2.2.2.2.2.2.2.1, .ref (a 6), .ref (a 7), .ref (a 8)])), ((a 1), .inl (G.2.1, 411, .inl r3.2.1)), ((a 2), .inl (G.2.1, 1644, .inl r3.2.2.1)), ((a 3), .inl (G.2.1, 411, .inl r3.2.2.2.1)), ((a 4), .inl (G.2.1, 411, .inl r3.2.2.2.2.1)), ((a 5), .inl (G.2.2.1, 60, .inl r3.2.2.2.2.2.2.1)), ((a 6), .inl (G.2.1, 4, .inl r3.2.2.2.2.2.2.2.2.2.2.1)), ((a 7), .inl (G.2.1, 4, .inl r3.2.2.2.2.2.2.2.2.2.2.2.1)), ((a 8), .inl (G.2.1, 4, .inl r3.2.2.2.2.2.2.2.2.2.2.2.2))] := hD
  obtain ⟨r5, e6, hf⟩ := g_bdS hf
  refine g_contC (st1 := [.int r5.1]) (g_runVC (As := [.int r3.1]) (rest := []) ⟨hx, hb, hml, hown, hts⟩ (qX6_acted l G a e6) (cwV 1 hts (TB_V TB_id tw_650 tw_652 tw_13 tw_54 tw_653) rfl rfl rfl (by decide +kernel) ⟨Nat.le_of_ble_eq_true rfl, Nat.le_of_ble_eq_true rfl⟩) hK (hP.sub [0, 1, 2, 3, 4, 5, 6, 7, 8] rfl) (hD.sub [0, 1, 2, 3, 4, 5, 6, 7, 8] (by decide) rfl) 0 rfl rfl rfl hl.1 rfl (Nat.le_of_ble_eq_true rfl) dX6_writeNew_12) rfl hP hD hS hA [0, 1, 2, 3, 4, 5, 6, 7, 8] rfl rfl (fun H locs hP hD hS => ?_)
  have hP : va_P G.1 vwCl [((a 0), .inr (5, [.ref (a 1), .ref (a 2), .ref (a 3), .ref (a 4), .int r5.2.2.2.2.2.1, .ref (a 5), .int r5.2.2.2.2.2.2.2.1, .int r5.2.2.2.2.2.2.2.2.1, .int r5.2.2.2.2.2.2.2.2.2.1, .ref (a 6), .ref (a 7), .ref (a 8)])), ((a 1), .inl (G.2.1, 411, .inl r5.2.1)), ((a 2), .inl (G.2.1, 1644, .inl r5.2.2.1)), ((a 3), .inl (G.2.1, 411, .inl r5.2.2.2.1)), ((a 4), .inl (G.2.1, 411, .inl r5.2.2.2.2.1)), ((a 5), .inl (G.2.2.1, 60, .inl r5.2.2.2.2.2.2.1)), ((a 6), .inl (G.2.1, 4, .inl r5.2.2.2.2.2.2.2.2.2.2.1)), ((a 7), .inl (G.2.1, 4, .inl r5.2.2.2.2.2.2.2.2.2.2.2.1)), ((a 8), .inl (G.2.1, 4, .inl r5.2.2.2.2.2.2.2.2.2.2.2.2))] H := hP
  have hD : va_D (va_A (modW G a ss was beg asi sta txt typ att rea got row oth) s.heap.size) [((a 0), .inr (5, [.ref (a 1), .ref (a 2), .ref (a 3), .ref (a 4), .int r5.2.2.2.2.2.1, .ref (a 5), .int r5.2.2.2.2.2.2.2.1, .int r5.2.2.2.2.2.2.2.2.1, .int r5.2.2.2.2.2.2.2.2.2.1, .ref (a 6), .ref (a 7), .ref (a 8)])), ((a 1), .inl (G.2.1, 411, .inl r5.2.1)), ((a 2), .inl (G.2.1, 1644, .inl r5.2.2.1)), ((a 3), .inl (G.2.1, 411, .inl r5.2.2.2.1)), ((a 4), .inl (G.2.1, 411, .inl r5.2.2.2.2.1)), ((a 5), .inl (G.2.2.1, 60, .inl r5.2.2.2.2.2.2.1)), ((a 6), .inl (G.2.1, 4, .inl r5.2.2.2.2.2.2.2.2.2.2.1)), ((a 7), .inl (G.2.1, 4, .inl r5.2.2.2.2.2.2.2.2.2.2.2.1)), ((a 8), .inl (G.2.1, 4, .inl r5.2.2.2.2.2.2.2.2.2.2.2.2))] := hD
  cases hf
  exact g_iretC hx hb hr hlocks hP hD hS dX6_writeNew_15
-- TwoShapesModel.removes(I)I
abbrev rmX6_removes : Room := { frames := 3, cells := 0, slots := 0, locals := 71 }
def fX6_removes_b28 : Nat → Int32 → Int32 → (Nat → Int32) → (Nat → Int32) → (Nat → Int32) → (Nat → Int32) → Int32 → (Nat → Int32) → Int32 → Int32 → Int32 → (Nat → Int32) → (Nat → Int32) → (Nat → Int32) → Option (Int32 × (Nat → Int32) × (Nat → Int32) × (Nat → Int32) × (Nat → Int32) × Int32 × (Nat → Int32) × Int32 × Int32 × Int32 × (Nat → Int32) × (Nat → Int32) × (Nat → Int32))
  | 0, _, _, _, _, _, _, _, _, _, _, _, _, _, _ => none
  | n + 1, x1, x2, ss, was, beg, asi, sta, txt, typ, att, rea, got, row, oth => (if (4 : Int32) ≤ x2 then ((fX6_first ss was beg asi sta txt typ att rea got row oth).bind fun r10 => ((fX6_comes x1 r10 (1 : Int32) ss was beg asi sta txt typ att rea got row oth).bind fun r12 => some (r12.1, r12.2.1, r12.2.2.1, r12.2.2.2.1, r12.2.2.2.2.1, r12.2.2.2.2.2.1, r12.2.2.2.2.2.2.1, r12.2.2.2.2.2.2.2.1, r12.2.2.2.2.2.2.2.2.1, r12.2.2.2.2.2.2.2.2.2.1, r12.2.2.2.2.2.2.2.2.2.2.1, r12.2.2.2.2.2.2.2.2.2.2.2.1, r12.2.2.2.2.2.2.2.2.2.2.2.2))) else g_gd (g_in x2 4) (fX6_removes_b28 n x1 (x2 + (1 : Int32)) ss was beg asi sta txt typ att rea got (upd row x2.toNatClampNeg (0 : Int32)) oth))
set_option maxHeartbeats 4000000 in
set_option maxRecDepth 100000 in
theorem kX6_removes_b28 {p : Program} {l : Launch} {e : Env} {s : State} {m : MethodId} {args : Array Value} {below : List Frame} {meth : Method} {c : Code} {G : gT} {a : Nat → Nat} {w0 : va_W} (C0 : gX p s m args meth c cX6_removes 3 (some .int) RX6 G) :
    ∀ (n : Nat) (x1 : Int32) (x2 : Int32) (ss : Nat → Int32) (was : Nat → Int32) (beg : Nat → Int32) (asi : Nat → Int32) (sta : Int32) (txt : Nat → Int32) (typ : Int32) (att : Int32) (rea : Int32) (got : Nat → Int32) (row : Nat → Int32) (oth : Nat → Int32) (u : Int32 × (Nat → Int32) × (Nat → Int32) × (Nat → Int32) × (Nat → Int32) × Int32 × (Nat → Int32) × Int32 × Int32 × Int32 × (Nat → Int32) × (Nat → Int32) × (Nat → Int32)), fX6_removes_b28 n x1 x2 ss was beg asi sta txt typ att rea got row oth = some u → ∀ (H : Heap) (locs : List Loc), va_P G.1 vwCl [((a 0), .inr (5, [.ref (a 1), .ref (a 2), .ref (a 3), .ref (a 4), .int sta, .ref (a 5), .int typ, .int att, .int rea, .ref (a 6), .ref (a 7), .ref (a 8)])), ((a 1), .inl (G.2.1, 411, .inl ss)), ((a 2), .inl (G.2.1, 1644, .inl was)), ((a 3), .inl (G.2.1, 411, .inl beg)), ((a 4), .inl (G.2.1, 411, .inl asi)), ((a 5), .inl (G.2.2.1, 60, .inl txt)), ((a 6), .inl (G.2.1, 4, .inl got)), ((a 7), .inl (G.2.1, 4, .inl row)), ((a 8), .inl (G.2.1, 4, .inl oth))] H → va_D (va_A w0 s.heap.size) [((a 0), .inr (5, [.ref (a 1), .ref (a 2), .ref (a 3), .ref (a 4), .int sta, .ref (a 5), .int typ, .int att, .int rea, .ref (a 6), .ref (a 7), .ref (a 8)])), ((a 1), .inl (G.2.1, 411, .inl ss)), ((a 2), .inl (G.2.1, 1644, .inl was)), ((a 3), .inl (G.2.1, 411, .inl beg)), ((a 4), .inl (G.2.1, 411, .inl asi)), ((a 5), .inl (G.2.2.1, 60, .inl txt)), ((a 6), .inl (G.2.1, 4, .inl got)), ((a 7), .inl (G.2.1, 4, .inl row)), ((a 8), .inl (G.2.1, 4, .inl oth))] → va_S (va_A w0 s.heap.size) s.heap H locs → ∀ ls, lv_has ls 3 [(0, .ref (a 0)), (1, .int x1), (2, .int x2)] → gW p l e (headSpec wsX6_removes rmX6_removes).room s m args below meth c G w0 (some (.int u.1)) (modW G a u.2.1 u.2.2.1 u.2.2.2.1 u.2.2.2.2.1 u.2.2.2.2.2.1 u.2.2.2.2.2.2.1 u.2.2.2.2.2.2.2.1 u.2.2.2.2.2.2.2.2.1 u.2.2.2.2.2.2.2.2.2.1 u.2.2.2.2.2.2.2.2.2.2.1 u.2.2.2.2.2.2.2.2.2.2.2.1 u.2.2.2.2.2.2.2.2.2.2.2.2) H locs 28 ls [] := by
  obtain ⟨hx, hb, hr, hts, hown, hlocks, hml, hK⟩ := id C0
  have hA : ∀ q : Nat, s.heap.size ≤ q → va_A w0 s.heap.size q := fun q h => Or.inr h
  intro n
  induction n with
  | zero =>
    intro x1 x2 ss was beg asi sta txt typ att rea got row oth u hf H locs hP hD hS ls hl
    have hf : (none : Option (Int32 × (Nat → Int32) × (Nat → Int32) × (Nat → Int32) × (Nat → Int32) × Int32 × (Nat → Int32) × Int32 × Int32 × Int32 × (Nat → Int32) × (Nat → Int32) × (Nat → Int32))) = some u := hf
    cases hf
  | succ n ih =>
    intro x1 x2 ss was beg asi sta txt typ att rea got row oth u hf H locs hP hD hS ls hl
    rw [fX6_removes_b28] at hf
    refine lv_iload_n hx hb dX6_removes_28 rfl (lv_at hl 2 rfl) ?_
    refine lv_iconst (v := (4 : Int32)) hx hb dX6_removes_29 (by decide) ?_
    refine lv_icmp_ge (tgt := 46) hx hb dX6_removes_30 (by decide) (fun c9 => ?_) (fun c9 => ?_)
    · have hf := g_ifT c9 hf
      refine lv_aload_n hx hb dX6_removes_46 rfl (lv_at hl 0 rfl) ?_
      refine lv_iload_n hx hb dX6_removes_47 rfl (lv_at hl 1 rfl) ?_
      refine lv_aload_n hx hb dX6_removes_48 rfl (lv_at hl 0 rfl) ?_
      obtain ⟨r10, e11, hf⟩ := g_bdS hf
      refine g_contR (st1 := [.int r10, .int x1, .ref (a 0)]) (g_runVR (As := []) (rest := [.int x1, .ref (a 0)]) ⟨hx, hb, hml, hown, hts⟩ (qX6_first l G a e11) (cwV 0 hts (TB_V TB_id tw_727 tw_729 tw_26 tw_54 tw_730) rfl rfl rfl (by decide +kernel) ⟨Nat.le_of_ble_eq_true rfl, Nat.le_of_ble_eq_true rfl⟩) hK (hP.sub [0, 1, 2, 3, 4, 5, 6, 7, 8] rfl) 0 rfl rfl rfl hl.1 rfl (Nat.le_of_ble_eq_true rfl) dX6_removes_49) rfl ?_
      refine lv_iconst (v := (1 : Int32)) hx hb dX6_removes_52 (by decide) ?_
      obtain ⟨r12, e13, hf⟩ := g_bdS hf
      refine g_contC (st1 := [.int r12.1]) (g_runVC (As := [.int x1, .int r10, .int (1 : Int32)]) (rest := []) ⟨hx, hb, hml, hown, hts⟩ (qX6_comes l G a e13) (cwV 3 hts (TB_V TB_id tw_721 tw_723 tw_25 tw_54 tw_724) rfl rfl rfl (by decide +kernel) ⟨Nat.le_of_ble_eq_true rfl, Nat.le_of_ble_eq_true rfl⟩) hK (hP.sub [0, 1, 2, 3, 4, 5, 6, 7, 8] rfl) (hD.sub [0, 1, 2, 3, 4, 5, 6, 7, 8] (by decide) rfl) 0 rfl rfl rfl hl.1 rfl (Nat.le_of_ble_eq_true rfl) dX6_removes_53) rfl hP hD hS hA [0, 1, 2, 3, 4, 5, 6, 7, 8] rfl rfl (fun H locs hP hD hS => ?_)
      have hP : va_P G.1 vwCl [((a 0), .inr (5, [.ref (a 1), .ref (a 2), .ref (a 3), .ref (a 4), .int r12.2.2.2.2.2.1, .ref (a 5), .int r12.2.2.2.2.2.2.2.1, .int r12.2.2.2.2.2.2.2.2.1, .int r12.2.2.2.2.2.2.2.2.2.1, .ref (a 6), .ref (a 7), .ref (a 8)])), ((a 1), .inl (G.2.1, 411, .inl r12.2.1)), ((a 2), .inl (G.2.1, 1644, .inl r12.2.2.1)), ((a 3), .inl (G.2.1, 411, .inl r12.2.2.2.1)), ((a 4), .inl (G.2.1, 411, .inl r12.2.2.2.2.1)), ((a 5), .inl (G.2.2.1, 60, .inl r12.2.2.2.2.2.2.1)), ((a 6), .inl (G.2.1, 4, .inl r12.2.2.2.2.2.2.2.2.2.2.1)), ((a 7), .inl (G.2.1, 4, .inl r12.2.2.2.2.2.2.2.2.2.2.2.1)), ((a 8), .inl (G.2.1, 4, .inl r12.2.2.2.2.2.2.2.2.2.2.2.2))] H := hP
      have hD : va_D (va_A w0 s.heap.size) [((a 0), .inr (5, [.ref (a 1), .ref (a 2), .ref (a 3), .ref (a 4), .int r12.2.2.2.2.2.1, .ref (a 5), .int r12.2.2.2.2.2.2.2.1, .int r12.2.2.2.2.2.2.2.2.1, .int r12.2.2.2.2.2.2.2.2.2.1, .ref (a 6), .ref (a 7), .ref (a 8)])), ((a 1), .inl (G.2.1, 411, .inl r12.2.1)), ((a 2), .inl (G.2.1, 1644, .inl r12.2.2.1)), ((a 3), .inl (G.2.1, 411, .inl r12.2.2.2.1)), ((a 4), .inl (G.2.1, 411, .inl r12.2.2.2.2.1)), ((a 5), .inl (G.2.2.1, 60, .inl r12.2.2.2.2.2.2.1)), ((a 6), .inl (G.2.1, 4, .inl r12.2.2.2.2.2.2.2.2.2.2.1)), ((a 7), .inl (G.2.1, 4, .inl r12.2.2.2.2.2.2.2.2.2.2.2.1)), ((a 8), .inl (G.2.1, 4, .inl r12.2.2.2.2.2.2.2.2.2.2.2.2))] := hD
      cases hf
      exact g_iretC hx hb hr hlocks hP hD hS dX6_removes_56
    · have hf := g_ifF c9 hf
      refine lv_aload_n hx hb dX6_removes_33 rfl (lv_at hl 0 rfl) ?_
      refine va_get (D := G.1) (ci := 5) (v := .ref (a 7)) (C := RX6) (T := TX6) (N := 12) hx hb hts hX6 hown hK.1 hP 0 rfl rfl 10 (by decide) (hts _ tw_598) (fun _ h9 => h9) rfl dX6_removes_34 ?_
      refine lv_iload_n hx hb dX6_removes_37 rfl (lv_at hl 2 rfl) ?_
      refine lv_iconst (v := (0 : Int32)) hx hb dX6_removes_38 (by decide) ?_
      obtain ⟨g14, hf⟩ := g_gdS hf
      refine va_iast hx hb hK.1 hP hD hS 7 0 rfl rfl (g_in_vp g14) dX6_removes_39 (fun H locs hP hD hS => ?_)
      have hP : va_P G.1 vwCl [((a 0), .inr (5, [.ref (a 1), .ref (a 2), .ref (a 3), .ref (a 4), .int sta, .ref (a 5), .int typ, .int att, .int rea, .ref (a 6), .ref (a 7), .ref (a 8)])), ((a 1), .inl (G.2.1, 411, .inl ss)), ((a 2), .inl (G.2.1, 1644, .inl was)), ((a 3), .inl (G.2.1, 411, .inl beg)), ((a 4), .inl (G.2.1, 411, .inl asi)), ((a 5), .inl (G.2.2.1, 60, .inl txt)), ((a 6), .inl (G.2.1, 4, .inl got)), ((a 7), .inl (G.2.1, 4, .inl (upd row x2.toNatClampNeg (0 : Int32)))), ((a 8), .inl (G.2.1, 4, .inl oth))] H := hP
      have hD : va_D (va_A w0 s.heap.size) [((a 0), .inr (5, [.ref (a 1), .ref (a 2), .ref (a 3), .ref (a 4), .int sta, .ref (a 5), .int typ, .int att, .int rea, .ref (a 6), .ref (a 7), .ref (a 8)])), ((a 1), .inl (G.2.1, 411, .inl ss)), ((a 2), .inl (G.2.1, 1644, .inl was)), ((a 3), .inl (G.2.1, 411, .inl beg)), ((a 4), .inl (G.2.1, 411, .inl asi)), ((a 5), .inl (G.2.2.1, 60, .inl txt)), ((a 6), .inl (G.2.1, 4, .inl got)), ((a 7), .inl (G.2.1, 4, .inl (upd row x2.toNatClampNeg (0 : Int32)))), ((a 8), .inl (G.2.1, 4, .inl oth))] := hD
      refine lv_iinc (v := (x2 + (1 : Int32))) (lv' := [(2, .int (x2 + (1 : Int32))), (0, .ref (a 0)), (1, .int x1)]) hx hb dX6_removes_40 hl (k := 2) rfl rfl (by decide) rfl (fun ls hl => ?_)
      refine lv_goto (tgt := 28) hx hb dX6_removes_43 (by decide) ?_
      exact ih _ _ _ _ _ _ _ _ _ _ _ _ _ _ _ hf _ _ hP hD hS ls (lv_sub hl [1, 2, 0] rfl)
def fX6_removes (p0 : Int32) (ss : Nat → Int32) (was : Nat → Int32) (beg : Nat → Int32) (asi : Nat → Int32) (sta : Int32) (txt : Nat → Int32) (typ : Int32) (att : Int32) (rea : Int32) (got : Nat → Int32) (row : Nat → Int32) (oth : Nat → Int32) : Option (Int32 × (Nat → Int32) × (Nat → Int32) × (Nat → Int32) × (Nat → Int32) × Int32 × (Nat → Int32) × Int32 × Int32 × Int32 × (Nat → Int32) × (Nat → Int32) × (Nat → Int32)) := ((fX6_isKey p0).bind fun r1 => (if r1 = (0 : Int32) then some ((-1000001 : Int32), ss, was, beg, asi, sta, txt, typ, att, rea, got, row, oth) else ((fX6_first ss was beg asi sta txt typ att rea got row oth).bind fun r4 => ((fX6_of r4 p0 (1 : Int32) ss was beg asi sta txt typ att rea got row oth).bind fun r6 => (if r6 = (0 : Int32) then some ((-1000002 : Int32), ss, was, beg, asi, sta, txt, typ, att, rea, got, row, oth) else fX6_removes_b28 2000 p0 (0 : Int32) ss was beg asi sta txt typ att rea got row oth)))))
set_option maxHeartbeats 4000000 in
set_option maxRecDepth 100000 in
theorem qX6_removes (l : Launch) (G : gT) (a : Nat → Nat) {p0 : Int32} {ss : Nat → Int32} {was : Nat → Int32} {beg : Nat → Int32} {asi : Nat → Int32} {sta : Int32} {txt : Nat → Int32} {typ : Int32} {att : Int32} {rea : Int32} {got : Nat → Int32} {row : Nat → Int32} {oth : Nat → Int32} {u : Int32 × (Nat → Int32) × (Nat → Int32) × (Nat → Int32) × (Nat → Int32) × Int32 × (Nat → Int32) × Int32 × Int32 × Int32 × (Nat → Int32) × (Nat → Int32) × (Nat → Int32)} (hf : fX6_removes p0 ss was beg asi sta txt typ att rea got row oth = some u) : gC l G yX6_removes wsX6_removes rmX6_removes [.ref (a 0), .int p0] (modW G a ss was beg asi sta txt typ att rea got row oth) (some (.int u.1)) (modW G a u.2.1 u.2.2.1 u.2.2.2.1 u.2.2.2.2.1 u.2.2.2.2.2.1 u.2.2.2.2.2.2.1 u.2.2.2.2.2.2.2.1 u.2.2.2.2.2.2.2.2.1 u.2.2.2.2.2.2.2.2.2.1 u.2.2.2.2.2.2.2.2.2.2.1 u.2.2.2.2.2.2.2.2.2.2.2.1 u.2.2.2.2.2.2.2.2.2.2.2.2) := by
  refine gC.of (cc := cX6_removes) (maxL := 3) (ret := (some .int)) (by decide) rfl (Nat.le_of_ble_eq_true rfl) ?_
  intro p e s m below meth c C0 hP hD hS ls hl
  obtain ⟨hx, hb, hr, hts, hown, hlocks, hml, hK⟩ := id C0
  have hl : lv_has ls 3 [(0, .ref (a 0)), (1, .int p0)] := hl
  have hA : ∀ q : Nat, s.heap.size ≤ q → va_A (modW G a ss was beg asi sta txt typ att rea got row oth) s.heap.size q := fun q h => Or.inr h
  have hP : va_P G.1 vwCl [((a 0), .inr (5, [.ref (a 1), .ref (a 2), .ref (a 3), .ref (a 4), .int sta, .ref (a 5), .int typ, .int att, .int rea, .ref (a 6), .ref (a 7), .ref (a 8)])), ((a 1), .inl (G.2.1, 411, .inl ss)), ((a 2), .inl (G.2.1, 1644, .inl was)), ((a 3), .inl (G.2.1, 411, .inl beg)), ((a 4), .inl (G.2.1, 411, .inl asi)), ((a 5), .inl (G.2.2.1, 60, .inl txt)), ((a 6), .inl (G.2.1, 4, .inl got)), ((a 7), .inl (G.2.1, 4, .inl row)), ((a 8), .inl (G.2.1, 4, .inl oth))] s.heap := hP
  have hD : va_D (va_A (modW G a ss was beg asi sta txt typ att rea got row oth) s.heap.size) [((a 0), .inr (5, [.ref (a 1), .ref (a 2), .ref (a 3), .ref (a 4), .int sta, .ref (a 5), .int typ, .int att, .int rea, .ref (a 6), .ref (a 7), .ref (a 8)])), ((a 1), .inl (G.2.1, 411, .inl ss)), ((a 2), .inl (G.2.1, 1644, .inl was)), ((a 3), .inl (G.2.1, 411, .inl beg)), ((a 4), .inl (G.2.1, 411, .inl asi)), ((a 5), .inl (G.2.2.1, 60, .inl txt)), ((a 6), .inl (G.2.1, 4, .inl got)), ((a 7), .inl (G.2.1, 4, .inl row)), ((a 8), .inl (G.2.1, 4, .inl oth))] := hD
  unfold fX6_removes at hf
  refine lv_iload_n hx hb dX6_removes_0 rfl (lv_at hl 1 rfl) ?_
  obtain ⟨r1, e2, hf⟩ := g_bdS hf
  refine g_contR (st1 := [.int r1]) (g_runSR (As := [.int p0]) (rest := []) ⟨hx, hb, hml, hown, hts⟩ (qX6_isKey l G e2) (va_cwS 1 hts (TB_S TB_id tw_711 tw_712 tw_54 tw_713) rfl rfl rfl (by decide +kernel) ⟨Nat.le_of_ble_eq_true rfl, Nat.le_of_ble_eq_true rfl⟩) hK (hP.sub [] rfl) rfl hl.1 rfl (Nat.le_of_ble_eq_true rfl) dX6_removes_1) rfl ?_
  refine lv_if_ne (tgt := 10) hx hb dX6_removes_4 (by decide) (fun c3 => ?_) (fun c3 => ?_)
  · have hf := g_ifF c3 hf
    refine lv_aload_n hx hb dX6_removes_10 rfl (lv_at hl 0 rfl) ?_
    refine lv_aload_n hx hb dX6_removes_11 rfl (lv_at hl 0 rfl) ?_
    obtain ⟨r4, e5, hf⟩ := g_bdS hf
    refine g_contR (st1 := [.int r4, .ref (a 0)]) (g_runVR (As := []) (rest := [.ref (a 0)]) ⟨hx, hb, hml, hown, hts⟩ (qX6_first l G a e5) (cwV 0 hts (TB_V TB_id tw_727 tw_729 tw_26 tw_54 tw_730) rfl rfl rfl (by decide +kernel) ⟨Nat.le_of_ble_eq_true rfl, Nat.le_of_ble_eq_true rfl⟩) hK (hP.sub [0, 1, 2, 3, 4, 5, 6, 7, 8] rfl) 0 rfl rfl rfl hl.1 rfl (Nat.le_of_ble_eq_true rfl) dX6_removes_12) rfl ?_
    refine lv_iload_n hx hb dX6_removes_15 rfl (lv_at hl 1 rfl) ?_
    refine lv_iconst (v := (1 : Int32)) hx hb dX6_removes_16 (by decide) ?_
    obtain ⟨r6, e7, hf⟩ := g_bdS hf
    refine g_contR (st1 := [.int r6]) (g_runVR (As := [.int r4, .int p0, .int (1 : Int32)]) (rest := []) ⟨hx, hb, hml, hown, hts⟩ (qX6_of l G a e7) (cwV 3 hts (TB_V TB_id tw_643 tw_645 tw_12 tw_54 tw_646) rfl rfl rfl (by decide +kernel) ⟨Nat.le_of_ble_eq_true rfl, Nat.le_of_ble_eq_true rfl⟩) hK (hP.sub [0, 1, 2, 3, 4, 5, 6, 7, 8] rfl) 0 rfl rfl rfl hl.1 rfl (Nat.le_of_ble_eq_true rfl) dX6_removes_17) rfl ?_
    refine lv_if_ne (tgt := 26) hx hb dX6_removes_20 (by decide) (fun c8 => ?_) (fun c8 => ?_)
    · have hf := g_ifF c8 hf
      refine lv_iconst (v := (0 : Int32)) hx hb dX6_removes_26 (by decide) ?_
      refine lv_istore_n (lv' := [(2, .int (0 : Int32)), (0, .ref (a 0)), (1, .int p0)]) hx hb dX6_removes_27 rfl hl (by decide) rfl (fun ls hl => ?_)
      exact kX6_removes_b28 C0 2000 _ _ _ _ _ _ _ _ _ _ _ _ _ _ _ hf _ _ hP hD hS ls (lv_sub hl [1, 2, 0] rfl)
    · have hf := g_ifT c8 hf
      refine lv_ldc (v := (-1000002 : Int32)) hx hb hown (hts _ tw_630) dX6_removes_23 ?_
      cases hf
      exact g_iretC hx hb hr hlocks hP hD hS dX6_removes_25
  · have hf := g_ifT c3 hf
    refine lv_ldc (v := (-1000001 : Int32)) hx hb hown (hts _ tw_654) dX6_removes_7 ?_
    cases hf
    exact g_iretC hx hb hr hlocks hP hD hS dX6_removes_9
-- TwoShapesModel.remove(I)I
abbrev rmX6_remove : Room := { frames := 4, cells := 0, slots := 0, locals := 93 }
def fX6_remove (p0 : Int32) (ss : Nat → Int32) (was : Nat → Int32) (beg : Nat → Int32) (asi : Nat → Int32) (sta : Int32) (txt : Nat → Int32) (typ : Int32) (att : Int32) (rea : Int32) (got : Nat → Int32) (row : Nat → Int32) (oth : Nat → Int32) : Option (Int32 × (Nat → Int32) × (Nat → Int32) × (Nat → Int32) × (Nat → Int32) × Int32 × (Nat → Int32) × Int32 × Int32 × Int32 × (Nat → Int32) × (Nat → Int32) × (Nat → Int32)) := ((fX6_keeps ss was beg asi sta txt typ att rea got row oth).bind fun r1 => ((fX6_removes p0 r1.1 r1.2.1 r1.2.2.1 r1.2.2.2.1 r1.2.2.2.2.1 r1.2.2.2.2.2.1 r1.2.2.2.2.2.2.1 r1.2.2.2.2.2.2.2.1 r1.2.2.2.2.2.2.2.2.1 r1.2.2.2.2.2.2.2.2.2.1 r1.2.2.2.2.2.2.2.2.2.2.1 r1.2.2.2.2.2.2.2.2.2.2.2).bind fun r3 => ((fX6_acted r3.1 r3.2.1 r3.2.2.1 r3.2.2.2.1 r3.2.2.2.2.1 r3.2.2.2.2.2.1 r3.2.2.2.2.2.2.1 r3.2.2.2.2.2.2.2.1 r3.2.2.2.2.2.2.2.2.1 r3.2.2.2.2.2.2.2.2.2.1 r3.2.2.2.2.2.2.2.2.2.2.1 r3.2.2.2.2.2.2.2.2.2.2.2.1 r3.2.2.2.2.2.2.2.2.2.2.2.2).bind fun r5 => some (r5.1, r5.2.1, r5.2.2.1, r5.2.2.2.1, r5.2.2.2.2.1, r5.2.2.2.2.2.1, r5.2.2.2.2.2.2.1, r5.2.2.2.2.2.2.2.1, r5.2.2.2.2.2.2.2.2.1, r5.2.2.2.2.2.2.2.2.2.1, r5.2.2.2.2.2.2.2.2.2.2.1, r5.2.2.2.2.2.2.2.2.2.2.2.1, r5.2.2.2.2.2.2.2.2.2.2.2.2))))
set_option maxHeartbeats 4000000 in
set_option maxRecDepth 100000 in
theorem qX6_remove (l : Launch) (G : gT) (a : Nat → Nat) {p0 : Int32} {ss : Nat → Int32} {was : Nat → Int32} {beg : Nat → Int32} {asi : Nat → Int32} {sta : Int32} {txt : Nat → Int32} {typ : Int32} {att : Int32} {rea : Int32} {got : Nat → Int32} {row : Nat → Int32} {oth : Nat → Int32} {u : Int32 × (Nat → Int32) × (Nat → Int32) × (Nat → Int32) × (Nat → Int32) × Int32 × (Nat → Int32) × Int32 × Int32 × Int32 × (Nat → Int32) × (Nat → Int32) × (Nat → Int32)} (hf : fX6_remove p0 ss was beg asi sta txt typ att rea got row oth = some u) : gC l G yX6_remove wsX6_remove rmX6_remove [.ref (a 0), .int p0] (modW G a ss was beg asi sta txt typ att rea got row oth) (some (.int u.1)) (modW G a u.2.1 u.2.2.1 u.2.2.2.1 u.2.2.2.2.1 u.2.2.2.2.2.1 u.2.2.2.2.2.2.1 u.2.2.2.2.2.2.2.1 u.2.2.2.2.2.2.2.2.1 u.2.2.2.2.2.2.2.2.2.1 u.2.2.2.2.2.2.2.2.2.2.1 u.2.2.2.2.2.2.2.2.2.2.2.1 u.2.2.2.2.2.2.2.2.2.2.2.2) := by
  refine gC.of (cc := cX6_remove) (maxL := 2) (ret := (some .int)) (by decide) rfl (Nat.le_of_ble_eq_true rfl) ?_
  intro p e s m below meth c C0 hP hD hS ls hl
  obtain ⟨hx, hb, hr, hts, hown, hlocks, hml, hK⟩ := id C0
  have hl : lv_has ls 2 [(0, .ref (a 0)), (1, .int p0)] := hl
  have hA : ∀ q : Nat, s.heap.size ≤ q → va_A (modW G a ss was beg asi sta txt typ att rea got row oth) s.heap.size q := fun q h => Or.inr h
  have hP : va_P G.1 vwCl [((a 0), .inr (5, [.ref (a 1), .ref (a 2), .ref (a 3), .ref (a 4), .int sta, .ref (a 5), .int typ, .int att, .int rea, .ref (a 6), .ref (a 7), .ref (a 8)])), ((a 1), .inl (G.2.1, 411, .inl ss)), ((a 2), .inl (G.2.1, 1644, .inl was)), ((a 3), .inl (G.2.1, 411, .inl beg)), ((a 4), .inl (G.2.1, 411, .inl asi)), ((a 5), .inl (G.2.2.1, 60, .inl txt)), ((a 6), .inl (G.2.1, 4, .inl got)), ((a 7), .inl (G.2.1, 4, .inl row)), ((a 8), .inl (G.2.1, 4, .inl oth))] s.heap := hP
  have hD : va_D (va_A (modW G a ss was beg asi sta txt typ att rea got row oth) s.heap.size) [((a 0), .inr (5, [.ref (a 1), .ref (a 2), .ref (a 3), .ref (a 4), .int sta, .ref (a 5), .int typ, .int att, .int rea, .ref (a 6), .ref (a 7), .ref (a 8)])), ((a 1), .inl (G.2.1, 411, .inl ss)), ((a 2), .inl (G.2.1, 1644, .inl was)), ((a 3), .inl (G.2.1, 411, .inl beg)), ((a 4), .inl (G.2.1, 411, .inl asi)), ((a 5), .inl (G.2.2.1, 60, .inl txt)), ((a 6), .inl (G.2.1, 4, .inl got)), ((a 7), .inl (G.2.1, 4, .inl row)), ((a 8), .inl (G.2.1, 4, .inl oth))] := hD
  unfold fX6_remove at hf
  refine lv_aload_n hx hb dX6_remove_0 rfl (lv_at hl 0 rfl) ?_
  obtain ⟨r1, e2, hf⟩ := g_bdS hf
  refine g_contC (st1 := []) (g_runVC (As := []) (rest := []) ⟨hx, hb, hml, hown, hts⟩ (qX6_keeps l G a e2) (cwV 0 hts (TB_V TB_id tw_631 tw_633 tw_9 tw_54 tw_634) rfl rfl rfl (by decide +kernel) ⟨Nat.le_of_ble_eq_true rfl, Nat.le_of_ble_eq_true rfl⟩) hK (hP.sub [0, 1, 2, 3, 4, 5, 6, 7, 8] rfl) (hD.sub [0, 1, 2, 3, 4, 5, 6, 7, 8] (by decide) rfl) 0 rfl rfl rfl hl.1 rfl (Nat.le_of_ble_eq_true rfl) dX6_remove_1) rfl hP hD hS hA [0, 1, 2, 3, 4, 5, 6, 7, 8] rfl rfl (fun H locs hP hD hS => ?_)
  have hP : va_P G.1 vwCl [((a 0), .inr (5, [.ref (a 1), .ref (a 2), .ref (a 3), .ref (a 4), .int r1.2.2.2.2.1, .ref (a 5), .int r1.2.2.2.2.2.2.1, .int r1.2.2.2.2.2.2.2.1, .int r1.2.2.2.2.2.2.2.2.1, .ref (a 6), .ref (a 7), .ref (a 8)])), ((a 1), .inl (G.2.1, 411, .inl r1.1)), ((a 2), .inl (G.2.1, 1644, .inl r1.2.1)), ((a 3), .inl (G.2.1, 411, .inl r1.2.2.1)), ((a 4), .inl (G.2.1, 411, .inl r1.2.2.2.1)), ((a 5), .inl (G.2.2.1, 60, .inl r1.2.2.2.2.2.1)), ((a 6), .inl (G.2.1, 4, .inl r1.2.2.2.2.2.2.2.2.2.1)), ((a 7), .inl (G.2.1, 4, .inl r1.2.2.2.2.2.2.2.2.2.2.1)), ((a 8), .inl (G.2.1, 4, .inl r1.2.2.2.2.2.2.2.2.2.2.2))] H := hP
  have hD : va_D (va_A (modW G a ss was beg asi sta txt typ att rea got row oth) s.heap.size) [((a 0), .inr (5, [.ref (a 1), .ref (a 2), .ref (a 3), .ref (a 4), .int r1.2.2.2.2.1, .ref (a 5), .int r1.2.2.2.2.2.2.1, .int r1.2.2.2.2.2.2.2.1, .int r1.2.2.2.2.2.2.2.2.1, .ref (a 6), .ref (a 7), .ref (a 8)])), ((a 1), .inl (G.2.1, 411, .inl r1.1)), ((a 2), .inl (G.2.1, 1644, .inl r1.2.1)), ((a 3), .inl (G.2.1, 411, .inl r1.2.2.1)), ((a 4), .inl (G.2.1, 411, .inl r1.2.2.2.1)), ((a 5), .inl (G.2.2.1, 60, .inl r1.2.2.2.2.2.1)), ((a 6), .inl (G.2.1, 4, .inl r1.2.2.2.2.2.2.2.2.2.1)), ((a 7), .inl (G.2.1, 4, .inl r1.2.2.2.2.2.2.2.2.2.2.1)), ((a 8), .inl (G.2.1, 4, .inl r1.2.2.2.2.2.2.2.2.2.2.2))] := hD
  refine lv_aload_n hx hb dX6_remove_4 rfl (lv_at hl 0 rfl) ?_
  refine lv_aload_n hx hb dX6_remove_5 rfl (lv_at hl 0 rfl) ?_
  refine lv_iload_n hx hb dX6_remove_6 rfl (lv_at hl 1 rfl) ?_
  obtain ⟨r3, e4, hf⟩ := g_bdS hf
  refine g_contC (st1 := [.int r3.1, .ref (a 0)]) (g_runVC (As := [.int p0]) (rest := [.ref (a 0)]) ⟨hx, hb, hml, hown, hts⟩ (qX6_removes l G a e4) (cwV 1 hts (TB_V TB_id tw_747 tw_749 tw_29 tw_54 tw_750) rfl rfl rfl (by decide +kernel) ⟨Nat.le_of_ble_eq_true rfl, Nat.le_of_ble_eq_true rfl⟩) hK (hP.sub [0, 1, 2, 3, 4, 5, 6, 7, 8] rfl) (hD.sub [0, 1, 2, 3, 4, 5, 6, 7, 8] (by decide) rfl) 0 rfl rfl rfl hl.1 rfl (Nat.le_of_ble_eq_true rfl) dX6_remove_7) rfl hP hD hS hA [0, 1, 2, 3, 4, 5, 6, 7, 8] rfl rfl (fun H locs hP hD hS => ?_)
  have hP : va_P G.1 vwCl [((a 0), .inr (5, [.ref (a 1), .ref (a 2), .ref (a 3), .ref (a 4), .int r3.2.2.2.2.2.1, .ref (a 5), .int r3.2.2.2.2.2.2.2.1, .int r3.2.2.2.2.2.2.2.2.1, .int r3.2.2.2.2.2.2.2.2.2.1, .ref (a 6), .ref (a 7), .ref (a 8)])), ((a 1), .inl (G.2.1, 411, .inl r3.2.1)), ((a 2), .inl (G.2.1, 1644, .inl r3.2.2.1)), ((a 3), .inl (G.2.1, 411, .inl r3.2.2.2.1)), ((a 4), .inl (G.2.1, 411, .inl r3.2.2.2.2.1)), ((a 5), .inl (G.2.2.1, 60, .inl r3.2.2.2.2.2.2.1)), ((a 6), .inl (G.2.1, 4, .inl r3.2.2.2.2.2.2.2.2.2.2.1)), ((a 7), .inl (G.2.1, 4, .inl r3.2.2.2.2.2.2.2.2.2.2.2.1)), ((a 8), .inl (G.2.1, 4, .inl r3.2.2.2.2.2.2.2.2.2.2.2.2))] H := hP
  have hD : va_D (va_A (modW G a ss was beg asi sta txt typ att rea got row oth) s.heap.size) [((a 0), .inr (5, [.ref (a 1), .ref (a 2), .ref (a 3), .ref (a 4), .int r3.2.2.2.2.2.1, .ref (a 5), .int r3.2.2.2.2.2.2.2.1, .int r3.2.2.2.2.2.2.2.2.1, .int r3.2.2.2.2.2.2.2.2.2.1, .ref (a 6), .ref (a 7), .ref (a 8)])), ((a 1), .inl (G.2.1, 411, .inl r3.2.1)), ((a 2), .inl (G.2.1, 1644, .inl r3.2.2.1)), ((a 3), .inl (G.2.1, 411, .inl r3.2.2.2.1)), ((a 4), .inl (G.2.1, 411, .inl r3.2.2.2.2.1)), ((a 5), .inl (G.2.2.1, 60, .inl r3.2.2.2.2.2.2.1)), ((a 6), .inl (G.2.1, 4, .inl r3.2.2.2.2.2.2.2.2.2.2.1)), ((a 7), .inl (G.2.1, 4, .inl r3.2.2.2.2.2.2.2.2.2.2.2.1)), ((a 8), .inl (G.2.1, 4, .inl r3.2.2.2.2.2.2.2.2.2.2.2.2))] := hD
  obtain ⟨r5, e6, hf⟩ := g_bdS hf
  refine g_contC (st1 := [.int r5.1]) (g_runVC (As := [.int r3.1]) (rest := []) ⟨hx, hb, hml, hown, hts⟩ (qX6_acted l G a e6) (cwV 1 hts (TB_V TB_id tw_650 tw_652 tw_13 tw_54 tw_653) rfl rfl rfl (by decide +kernel) ⟨Nat.le_of_ble_eq_true rfl, Nat.le_of_ble_eq_true rfl⟩) hK (hP.sub [0, 1, 2, 3, 4, 5, 6, 7, 8] rfl) (hD.sub [0, 1, 2, 3, 4, 5, 6, 7, 8] (by decide) rfl) 0 rfl rfl rfl hl.1 rfl (Nat.le_of_ble_eq_true rfl) dX6_remove_10) rfl hP hD hS hA [0, 1, 2, 3, 4, 5, 6, 7, 8] rfl rfl (fun H locs hP hD hS => ?_)
  have hP : va_P G.1 vwCl [((a 0), .inr (5, [.ref (a 1), .ref (a 2), .ref (a 3), .ref (a 4), .int r5.2.2.2.2.2.1, .ref (a 5), .int r5.2.2.2.2.2.2.2.1, .int r5.2.2.2.2.2.2.2.2.1, .int r5.2.2.2.2.2.2.2.2.2.1, .ref (a 6), .ref (a 7), .ref (a 8)])), ((a 1), .inl (G.2.1, 411, .inl r5.2.1)), ((a 2), .inl (G.2.1, 1644, .inl r5.2.2.1)), ((a 3), .inl (G.2.1, 411, .inl r5.2.2.2.1)), ((a 4), .inl (G.2.1, 411, .inl r5.2.2.2.2.1)), ((a 5), .inl (G.2.2.1, 60, .inl r5.2.2.2.2.2.2.1)), ((a 6), .inl (G.2.1, 4, .inl r5.2.2.2.2.2.2.2.2.2.2.1)), ((a 7), .inl (G.2.1, 4, .inl r5.2.2.2.2.2.2.2.2.2.2.2.1)), ((a 8), .inl (G.2.1, 4, .inl r5.2.2.2.2.2.2.2.2.2.2.2.2))] H := hP
  have hD : va_D (va_A (modW G a ss was beg asi sta txt typ att rea got row oth) s.heap.size) [((a 0), .inr (5, [.ref (a 1), .ref (a 2), .ref (a 3), .ref (a 4), .int r5.2.2.2.2.2.1, .ref (a 5), .int r5.2.2.2.2.2.2.2.1, .int r5.2.2.2.2.2.2.2.2.1, .int r5.2.2.2.2.2.2.2.2.2.1, .ref (a 6), .ref (a 7), .ref (a 8)])), ((a 1), .inl (G.2.1, 411, .inl r5.2.1)), ((a 2), .inl (G.2.1, 1644, .inl r5.2.2.1)), ((a 3), .inl (G.2.1, 411, .inl r5.2.2.2.1)), ((a 4), .inl (G.2.1, 411, .inl r5.2.2.2.2.1)), ((a 5), .inl (G.2.2.1, 60, .inl r5.2.2.2.2.2.2.1)), ((a 6), .inl (G.2.1, 4, .inl r5.2.2.2.2.2.2.2.2.2.2.1)), ((a 7), .inl (G.2.1, 4, .inl r5.2.2.2.2.2.2.2.2.2.2.2.1)), ((a 8), .inl (G.2.1, 4, .inl r5.2.2.2.2.2.2.2.2.2.2.2.2))] := hD
  cases hf
  exact g_iretC hx hb hr hlocks hP hD hS dX6_remove_13
-- TwoShapesModel.drainsOne()V
abbrev rmX6_drainsOne : Room := { frames := 2, cells := 0, slots := 0, locals := 46 }
def fX6_drainsOne_b92 : Nat → Int32 → (Nat → Int32) → (Nat → Int32) → (Nat → Int32) → (Nat → Int32) → Int32 → (Nat → Int32) → Int32 → Int32 → Int32 → (Nat → Int32) → (Nat → Int32) → (Nat → Int32) → Option ((Nat → Int32) × (Nat → Int32) × (Nat → Int32) × (Nat → Int32) × Int32 × (Nat → Int32) × Int32 × Int32 × Int32 × (Nat → Int32) × (Nat → Int32) × (Nat → Int32))
  | 0, _, _, _, _, _, _, _, _, _, _, _, _, _ => none
  | n + 1, x4, ss, was, beg, asi, sta, txt, typ, att, rea, got, row, oth => (if (49 : Int32) ≤ x4 then g_gd (g_in (3 : Int32) 411) (g_gd (g_in (3 : Int32) 411) (some ((upd ss (3 : Int32).toNatClampNeg ((ss (3 : Int32).toNatClampNeg) - (1 : Int32))), was, beg, asi, sta, txt, typ, att, rea, got, row, oth))) else g_gd (g_in (((14 : Int32) + x4) + (7 : Int32)) 411) (g_gd (g_in ((14 : Int32) + x4) 411) (fX6_drainsOne_b92 n (x4 + (1 : Int32)) (upd ss ((14 : Int32) + x4).toNatClampNeg (ss (((14 : Int32) + x4) + (7 : Int32)).toNatClampNeg)) was beg asi sta txt typ att rea got row oth)))
set_option maxHeartbeats 4000000 in
set_option maxRecDepth 100000 in
theorem kX6_drainsOne_b92 {p : Program} {l : Launch} {e : Env} {s : State} {m : MethodId} {args : Array Value} {below : List Frame} {meth : Method} {c : Code} {G : gT} {a : Nat → Nat} {w0 : va_W} (C0 : gX p s m args meth c cX6_drainsOne 5 none RX6 G) :
    ∀ (n : Nat) (x4 : Int32) (ss : Nat → Int32) (was : Nat → Int32) (beg : Nat → Int32) (asi : Nat → Int32) (sta : Int32) (txt : Nat → Int32) (typ : Int32) (att : Int32) (rea : Int32) (got : Nat → Int32) (row : Nat → Int32) (oth : Nat → Int32) (u : (Nat → Int32) × (Nat → Int32) × (Nat → Int32) × (Nat → Int32) × Int32 × (Nat → Int32) × Int32 × Int32 × Int32 × (Nat → Int32) × (Nat → Int32) × (Nat → Int32)), fX6_drainsOne_b92 n x4 ss was beg asi sta txt typ att rea got row oth = some u → ∀ (H : Heap) (locs : List Loc), va_P G.1 vwCl [((a 0), .inr (5, [.ref (a 1), .ref (a 2), .ref (a 3), .ref (a 4), .int sta, .ref (a 5), .int typ, .int att, .int rea, .ref (a 6), .ref (a 7), .ref (a 8)])), ((a 1), .inl (G.2.1, 411, .inl ss)), ((a 2), .inl (G.2.1, 1644, .inl was)), ((a 3), .inl (G.2.1, 411, .inl beg)), ((a 4), .inl (G.2.1, 411, .inl asi)), ((a 5), .inl (G.2.2.1, 60, .inl txt)), ((a 6), .inl (G.2.1, 4, .inl got)), ((a 7), .inl (G.2.1, 4, .inl row)), ((a 8), .inl (G.2.1, 4, .inl oth))] H → va_D (va_A w0 s.heap.size) [((a 0), .inr (5, [.ref (a 1), .ref (a 2), .ref (a 3), .ref (a 4), .int sta, .ref (a 5), .int typ, .int att, .int rea, .ref (a 6), .ref (a 7), .ref (a 8)])), ((a 1), .inl (G.2.1, 411, .inl ss)), ((a 2), .inl (G.2.1, 1644, .inl was)), ((a 3), .inl (G.2.1, 411, .inl beg)), ((a 4), .inl (G.2.1, 411, .inl asi)), ((a 5), .inl (G.2.2.1, 60, .inl txt)), ((a 6), .inl (G.2.1, 4, .inl got)), ((a 7), .inl (G.2.1, 4, .inl row)), ((a 8), .inl (G.2.1, 4, .inl oth))] → va_S (va_A w0 s.heap.size) s.heap H locs → ∀ ls, lv_has ls 5 [(0, .ref (a 0)), (4, .int x4)] → gW p l e (headSpec wsX6_drainsOne rmX6_drainsOne).room s m args below meth c G w0 none (modW G a u.1 u.2.1 u.2.2.1 u.2.2.2.1 u.2.2.2.2.1 u.2.2.2.2.2.1 u.2.2.2.2.2.2.1 u.2.2.2.2.2.2.2.1 u.2.2.2.2.2.2.2.2.1 u.2.2.2.2.2.2.2.2.2.1 u.2.2.2.2.2.2.2.2.2.2.1 u.2.2.2.2.2.2.2.2.2.2.2) H locs 92 ls [] := by
  obtain ⟨hx, hb, hr, hts, hown, hlocks, hml, hK⟩ := id C0
  have hA : ∀ q : Nat, s.heap.size ≤ q → va_A w0 s.heap.size q := fun q h => Or.inr h
  intro n
  induction n with
  | zero =>
    intro x4 ss was beg asi sta txt typ att rea got row oth u hf H locs hP hD hS ls hl
    have hf : (none : Option ((Nat → Int32) × (Nat → Int32) × (Nat → Int32) × (Nat → Int32) × Int32 × (Nat → Int32) × Int32 × Int32 × Int32 × (Nat → Int32) × (Nat → Int32) × (Nat → Int32))) = some u := hf
    cases hf
  | succ n ih =>
    intro x4 ss was beg asi sta txt typ att rea got row oth u hf H locs hP hD hS ls hl
    rw [fX6_drainsOne_b92] at hf
    refine lv_iload hx hb dX6_drainsOne_92 (lv_at hl 1 rfl) ?_
    refine lv_bipush (v := (49 : Int32)) hx hb dX6_drainsOne_94 (by decide) ?_
    refine lv_icmp_ge (tgt := 128) hx hb dX6_drainsOne_96 (by decide) (fun c10 => ?_) (fun c10 => ?_)
    · have hf := g_ifT c10 hf
      refine lv_aload_n hx hb dX6_drainsOne_128 rfl (lv_at hl 0 rfl) ?_
      refine va_get (D := G.1) (ci := 5) (v := .ref (a 1)) (C := RX6) (T := TX6) (N := 12) hx hb hts hX6 hown hK.1 hP 0 rfl rfl 0 (by decide) (hts _ tw_588) (fun _ h9 => h9) rfl dX6_drainsOne_129 ?_
      refine lv_iconst (v := (3 : Int32)) hx hb dX6_drainsOne_132 (by decide) ?_
      refine lv_dup2_11 hx hb dX6_drainsOne_133 rfl rfl ?_
      obtain ⟨g11, hf⟩ := g_gdS hf
      refine va_iald hx hb hK.1 hP 1 0 rfl rfl (g_in_vp g11) dX6_drainsOne_134 ?_
      refine lv_iconst (v := (1 : Int32)) hx hb dX6_drainsOne_135 (by decide) ?_
      refine lv_isub hx hb dX6_drainsOne_136 ?_
      obtain ⟨g12, hf⟩ := g_gdS hf
      refine va_iast hx hb hK.1 hP hD hS 1 0 rfl rfl (g_in_vp g12) dX6_drainsOne_137 (fun H locs hP hD hS => ?_)
      have hP : va_P G.1 vwCl [((a 0), .inr (5, [.ref (a 1), .ref (a 2), .ref (a 3), .ref (a 4), .int sta, .ref (a 5), .int typ, .int att, .int rea, .ref (a 6), .ref (a 7), .ref (a 8)])), ((a 1), .inl (G.2.1, 411, .inl (upd ss (3 : Int32).toNatClampNeg ((ss (3 : Int32).toNatClampNeg) - (1 : Int32))))), ((a 2), .inl (G.2.1, 1644, .inl was)), ((a 3), .inl (G.2.1, 411, .inl beg)), ((a 4), .inl (G.2.1, 411, .inl asi)), ((a 5), .inl (G.2.2.1, 60, .inl txt)), ((a 6), .inl (G.2.1, 4, .inl got)), ((a 7), .inl (G.2.1, 4, .inl row)), ((a 8), .inl (G.2.1, 4, .inl oth))] H := hP
      have hD : va_D (va_A w0 s.heap.size) [((a 0), .inr (5, [.ref (a 1), .ref (a 2), .ref (a 3), .ref (a 4), .int sta, .ref (a 5), .int typ, .int att, .int rea, .ref (a 6), .ref (a 7), .ref (a 8)])), ((a 1), .inl (G.2.1, 411, .inl (upd ss (3 : Int32).toNatClampNeg ((ss (3 : Int32).toNatClampNeg) - (1 : Int32))))), ((a 2), .inl (G.2.1, 1644, .inl was)), ((a 3), .inl (G.2.1, 411, .inl beg)), ((a 4), .inl (G.2.1, 411, .inl asi)), ((a 5), .inl (G.2.2.1, 60, .inl txt)), ((a 6), .inl (G.2.1, 4, .inl got)), ((a 7), .inl (G.2.1, 4, .inl row)), ((a 8), .inl (G.2.1, 4, .inl oth))] := hD
      cases hf
      exact g_vretC hx hb hr hlocks hP hD hS dX6_drainsOne_138
    · have hf := g_ifF c10 hf
      refine lv_aload_n hx hb dX6_drainsOne_99 rfl (lv_at hl 0 rfl) ?_
      refine va_get (D := G.1) (ci := 5) (v := .ref (a 1)) (C := RX6) (T := TX6) (N := 12) hx hb hts hX6 hown hK.1 hP 0 rfl rfl 0 (by decide) (hts _ tw_588) (fun _ h9 => h9) rfl dX6_drainsOne_100 ?_
      refine lv_bipush (v := (14 : Int32)) hx hb dX6_drainsOne_103 (by decide) ?_
      refine lv_iload hx hb dX6_drainsOne_105 (lv_at hl 1 rfl) ?_
      refine lv_iadd hx hb dX6_drainsOne_107 ?_
      refine lv_aload_n hx hb dX6_drainsOne_108 rfl (lv_at hl 0 rfl) ?_
      refine va_get (D := G.1) (ci := 5) (v := .ref (a 1)) (C := RX6) (T := TX6) (N := 12) hx hb hts hX6 hown hK.1 hP 0 rfl rfl 0 (by decide) (hts _ tw_588) (fun _ h9 => h9) rfl dX6_drainsOne_109 ?_
      refine lv_bipush (v := (14 : Int32)) hx hb dX6_drainsOne_112 (by decide) ?_
      refine lv_iload hx hb dX6_drainsOne_114 (lv_at hl 1 rfl) ?_
      refine lv_iadd hx hb dX6_drainsOne_116 ?_
      refine lv_bipush (v := (7 : Int32)) hx hb dX6_drainsOne_117 (by decide) ?_
      refine lv_iadd hx hb dX6_drainsOne_119 ?_
      obtain ⟨g13, hf⟩ := g_gdS hf
      refine va_iald hx hb hK.1 hP 1 0 rfl rfl (g_in_vp g13) dX6_drainsOne_120 ?_
      obtain ⟨g14, hf⟩ := g_gdS hf
      refine va_iast hx hb hK.1 hP hD hS 1 0 rfl rfl (g_in_vp g14) dX6_drainsOne_121 (fun H locs hP hD hS => ?_)
      have hP : va_P G.1 vwCl [((a 0), .inr (5, [.ref (a 1), .ref (a 2), .ref (a 3), .ref (a 4), .int sta, .ref (a 5), .int typ, .int att, .int rea, .ref (a 6), .ref (a 7), .ref (a 8)])), ((a 1), .inl (G.2.1, 411, .inl (upd ss ((14 : Int32) + x4).toNatClampNeg (ss (((14 : Int32) + x4) + (7 : Int32)).toNatClampNeg)))), ((a 2), .inl (G.2.1, 1644, .inl was)), ((a 3), .inl (G.2.1, 411, .inl beg)), ((a 4), .inl (G.2.1, 411, .inl asi)), ((a 5), .inl (G.2.2.1, 60, .inl txt)), ((a 6), .inl (G.2.1, 4, .inl got)), ((a 7), .inl (G.2.1, 4, .inl row)), ((a 8), .inl (G.2.1, 4, .inl oth))] H := hP
      have hD : va_D (va_A w0 s.heap.size) [((a 0), .inr (5, [.ref (a 1), .ref (a 2), .ref (a 3), .ref (a 4), .int sta, .ref (a 5), .int typ, .int att, .int rea, .ref (a 6), .ref (a 7), .ref (a 8)])), ((a 1), .inl (G.2.1, 411, .inl (upd ss ((14 : Int32) + x4).toNatClampNeg (ss (((14 : Int32) + x4) + (7 : Int32)).toNatClampNeg)))), ((a 2), .inl (G.2.1, 1644, .inl was)), ((a 3), .inl (G.2.1, 411, .inl beg)), ((a 4), .inl (G.2.1, 411, .inl asi)), ((a 5), .inl (G.2.2.1, 60, .inl txt)), ((a 6), .inl (G.2.1, 4, .inl got)), ((a 7), .inl (G.2.1, 4, .inl row)), ((a 8), .inl (G.2.1, 4, .inl oth))] := hD
      refine lv_iinc (v := (x4 + (1 : Int32))) (lv' := [(4, .int (x4 + (1 : Int32))), (0, .ref (a 0))]) hx hb dX6_drainsOne_122 hl (k := 1) rfl rfl (by decide) rfl (fun ls hl => ?_)
      refine lv_goto (tgt := 92) hx hb dX6_drainsOne_125 (by decide) ?_
      exact ih _ _ _ _ _ _ _ _ _ _ _ _ _ _ hf _ _ hP hD hS ls (lv_sub hl [1, 0] rfl)
def fX6_drainsOne_b42 : Nat → Int32 → Int32 → Int32 → Int32 → (Nat → Int32) → (Nat → Int32) → (Nat → Int32) → (Nat → Int32) → Int32 → (Nat → Int32) → Int32 → Int32 → Int32 → (Nat → Int32) → (Nat → Int32) → (Nat → Int32) → Option ((Nat → Int32) × (Nat → Int32) × (Nat → Int32) × (Nat → Int32) × Int32 × (Nat → Int32) × Int32 × Int32 × Int32 × (Nat → Int32) × (Nat → Int32) × (Nat → Int32))
  | 0, _, _, _, _, _, _, _, _, _, _, _, _, _, _, _, _ => none
  | n + 1, x1, x2, x3, x4, ss, was, beg, asi, sta, txt, typ, att, rea, got, row, oth => (if (4 : Int32) ≤ x4 then ((fX6_of x3 x1 (0 : Int32) ss was beg asi sta txt typ att rea got row oth).bind fun r7 => (if x2 < r7 then fX6_drainsOne_b92 2000 (0 : Int32) ss was beg asi sta txt typ att rea got row oth else ((fX6_lays x3 x1 x2 ss was beg asi sta txt typ att rea got row oth).bind fun r15 => fX6_drainsOne_b92 2000 (0 : Int32) r15.1 r15.2.1 r15.2.2.1 r15.2.2.2.1 r15.2.2.2.2.1 r15.2.2.2.2.2.1 r15.2.2.2.2.2.2.1 r15.2.2.2.2.2.2.2.1 r15.2.2.2.2.2.2.2.2.1 r15.2.2.2.2.2.2.2.2.2.1 r15.2.2.2.2.2.2.2.2.2.2.1 r15.2.2.2.2.2.2.2.2.2.2.2))) else g_gd (g_in ((17 : Int32) + x4) 411) (g_gd (g_in x4 4) (fX6_drainsOne_b42 n x1 x2 x3 (x4 + (1 : Int32)) ss was beg asi sta txt typ att rea got (upd row x4.toNatClampNeg (ss ((17 : Int32) + x4).toNatClampNeg)) oth)))
set_option maxHeartbeats 4000000 in
set_option maxRecDepth 100000 in
theorem kX6_drainsOne_b42 {p : Program} {l : Launch} {e : Env} {s : State} {m : MethodId} {args : Array Value} {below : List Frame} {meth : Method} {c : Code} {G : gT} {a : Nat → Nat} {w0 : va_W} (C0 : gX p s m args meth c cX6_drainsOne 5 none RX6 G) :
    ∀ (n : Nat) (x1 : Int32) (x2 : Int32) (x3 : Int32) (x4 : Int32) (ss : Nat → Int32) (was : Nat → Int32) (beg : Nat → Int32) (asi : Nat → Int32) (sta : Int32) (txt : Nat → Int32) (typ : Int32) (att : Int32) (rea : Int32) (got : Nat → Int32) (row : Nat → Int32) (oth : Nat → Int32) (u : (Nat → Int32) × (Nat → Int32) × (Nat → Int32) × (Nat → Int32) × Int32 × (Nat → Int32) × Int32 × Int32 × Int32 × (Nat → Int32) × (Nat → Int32) × (Nat → Int32)), fX6_drainsOne_b42 n x1 x2 x3 x4 ss was beg asi sta txt typ att rea got row oth = some u → ∀ (H : Heap) (locs : List Loc), va_P G.1 vwCl [((a 0), .inr (5, [.ref (a 1), .ref (a 2), .ref (a 3), .ref (a 4), .int sta, .ref (a 5), .int typ, .int att, .int rea, .ref (a 6), .ref (a 7), .ref (a 8)])), ((a 1), .inl (G.2.1, 411, .inl ss)), ((a 2), .inl (G.2.1, 1644, .inl was)), ((a 3), .inl (G.2.1, 411, .inl beg)), ((a 4), .inl (G.2.1, 411, .inl asi)), ((a 5), .inl (G.2.2.1, 60, .inl txt)), ((a 6), .inl (G.2.1, 4, .inl got)), ((a 7), .inl (G.2.1, 4, .inl row)), ((a 8), .inl (G.2.1, 4, .inl oth))] H → va_D (va_A w0 s.heap.size) [((a 0), .inr (5, [.ref (a 1), .ref (a 2), .ref (a 3), .ref (a 4), .int sta, .ref (a 5), .int typ, .int att, .int rea, .ref (a 6), .ref (a 7), .ref (a 8)])), ((a 1), .inl (G.2.1, 411, .inl ss)), ((a 2), .inl (G.2.1, 1644, .inl was)), ((a 3), .inl (G.2.1, 411, .inl beg)), ((a 4), .inl (G.2.1, 411, .inl asi)), ((a 5), .inl (G.2.2.1, 60, .inl txt)), ((a 6), .inl (G.2.1, 4, .inl got)), ((a 7), .inl (G.2.1, 4, .inl row)), ((a 8), .inl (G.2.1, 4, .inl oth))] → va_S (va_A w0 s.heap.size) s.heap H locs → ∀ ls, lv_has ls 5 [(0, .ref (a 0)), (1, .int x1), (2, .int x2), (3, .int x3), (4, .int x4)] → gW p l e (headSpec wsX6_drainsOne rmX6_drainsOne).room s m args below meth c G w0 none (modW G a u.1 u.2.1 u.2.2.1 u.2.2.2.1 u.2.2.2.2.1 u.2.2.2.2.2.1 u.2.2.2.2.2.2.1 u.2.2.2.2.2.2.2.1 u.2.2.2.2.2.2.2.2.1 u.2.2.2.2.2.2.2.2.2.1 u.2.2.2.2.2.2.2.2.2.2.1 u.2.2.2.2.2.2.2.2.2.2.2) H locs 42 ls [] := by
  obtain ⟨hx, hb, hr, hts, hown, hlocks, hml, hK⟩ := id C0
  have hA : ∀ q : Nat, s.heap.size ≤ q → va_A w0 s.heap.size q := fun q h => Or.inr h
  intro n
  induction n with
  | zero =>
    intro x1 x2 x3 x4 ss was beg asi sta txt typ att rea got row oth u hf H locs hP hD hS ls hl
    have hf : (none : Option ((Nat → Int32) × (Nat → Int32) × (Nat → Int32) × (Nat → Int32) × Int32 × (Nat → Int32) × Int32 × Int32 × Int32 × (Nat → Int32) × (Nat → Int32) × (Nat → Int32))) = some u := hf
    cases hf
  | succ n ih =>
    intro x1 x2 x3 x4 ss was beg asi sta txt typ att rea got row oth u hf H locs hP hD hS ls hl
    rw [fX6_drainsOne_b42] at hf
    refine lv_iload hx hb dX6_drainsOne_42 (lv_at hl 4 rfl) ?_
    refine lv_iconst (v := (4 : Int32)) hx hb dX6_drainsOne_44 (by decide) ?_
    refine lv_icmp_ge (tgt := 71) hx hb dX6_drainsOne_45 (by decide) (fun c6 => ?_) (fun c6 => ?_)
    · have hf := g_ifT c6 hf
      refine lv_iload_n hx hb dX6_drainsOne_71 rfl (lv_at hl 2 rfl) ?_
      refine lv_aload_n hx hb dX6_drainsOne_72 rfl (lv_at hl 0 rfl) ?_
      refine lv_iload_n hx hb dX6_drainsOne_73 rfl (lv_at hl 3 rfl) ?_
      refine lv_iload_n hx hb dX6_drainsOne_74 rfl (lv_at hl 1 rfl) ?_
      refine lv_iconst (v := (0 : Int32)) hx hb dX6_drainsOne_75 (by decide) ?_
      obtain ⟨r7, e8, hf⟩ := g_bdS hf
      refine g_contR (st1 := [.int r7, .int x2]) (g_runVR (As := [.int x3, .int x1, .int (0 : Int32)]) (rest := [.int x2]) ⟨hx, hb, hml, hown, hts⟩ (qX6_of l G a e8) (cwV 3 hts (TB_V TB_id tw_643 tw_645 tw_12 tw_54 tw_646) rfl rfl rfl (by decide +kernel) ⟨Nat.le_of_ble_eq_true rfl, Nat.le_of_ble_eq_true rfl⟩) hK (hP.sub [0, 1, 2, 3, 4, 5, 6, 7, 8] rfl) 0 rfl rfl rfl hl.1 rfl (Nat.le_of_ble_eq_true rfl) dX6_drainsOne_76) rfl ?_
      refine lv_icmp_lt (tgt := 89) hx hb dX6_drainsOne_79 (by decide) (fun c9 => ?_) (fun c9 => ?_)
      · have hf := g_ifT c9 hf
        refine lv_iconst (v := (0 : Int32)) hx hb dX6_drainsOne_89 (by decide) ?_
        refine lv_istore (lv' := [(4, .int (0 : Int32)), (0, .ref (a 0)), (1, .int x1), (2, .int x2), (3, .int x3)]) hx hb dX6_drainsOne_90 hl (by decide) rfl (fun ls hl => ?_)
        exact kX6_drainsOne_b92 C0 2000 _ _ _ _ _ _ _ _ _ _ _ _ _ _ hf _ _ hP hD hS ls (lv_sub hl [1, 0] rfl)
      · have hf := g_ifF c9 hf
        refine lv_aload_n hx hb dX6_drainsOne_82 rfl (lv_at hl 0 rfl) ?_
        refine lv_iload_n hx hb dX6_drainsOne_83 rfl (lv_at hl 3 rfl) ?_
        refine lv_iload_n hx hb dX6_drainsOne_84 rfl (lv_at hl 1 rfl) ?_
        refine lv_iload_n hx hb dX6_drainsOne_85 rfl (lv_at hl 2 rfl) ?_
        obtain ⟨r15, e16, hf⟩ := g_bdS hf
        refine g_contC (st1 := []) (g_runVC (As := [.int x3, .int x1, .int x2]) (rest := []) ⟨hx, hb, hml, hown, hts⟩ (qX6_lays l G a e16) (cwV 3 hts (TB_V TB_id tw_731 tw_733 tw_27 tw_54 tw_734) rfl rfl rfl (by decide +kernel) ⟨Nat.le_of_ble_eq_true rfl, Nat.le_of_ble_eq_true rfl⟩) hK (hP.sub [0, 1, 2, 3, 4, 5, 6, 7, 8] rfl) (hD.sub [0, 1, 2, 3, 4, 5, 6, 7, 8] (by decide) rfl) 0 rfl rfl rfl hl.1 rfl (Nat.le_of_ble_eq_true rfl) dX6_drainsOne_86) rfl hP hD hS hA [0, 1, 2, 3, 4, 5, 6, 7, 8] rfl rfl (fun H locs hP hD hS => ?_)
        have hP : va_P G.1 vwCl [((a 0), .inr (5, [.ref (a 1), .ref (a 2), .ref (a 3), .ref (a 4), .int r15.2.2.2.2.1, .ref (a 5), .int r15.2.2.2.2.2.2.1, .int r15.2.2.2.2.2.2.2.1, .int r15.2.2.2.2.2.2.2.2.1, .ref (a 6), .ref (a 7), .ref (a 8)])), ((a 1), .inl (G.2.1, 411, .inl r15.1)), ((a 2), .inl (G.2.1, 1644, .inl r15.2.1)), ((a 3), .inl (G.2.1, 411, .inl r15.2.2.1)), ((a 4), .inl (G.2.1, 411, .inl r15.2.2.2.1)), ((a 5), .inl (G.2.2.1, 60, .inl r15.2.2.2.2.2.1)), ((a 6), .inl (G.2.1, 4, .inl r15.2.2.2.2.2.2.2.2.2.1)), ((a 7), .inl (G.2.1, 4, .inl r15.2.2.2.2.2.2.2.2.2.2.1)), ((a 8), .inl (G.2.1, 4, .inl r15.2.2.2.2.2.2.2.2.2.2.2))] H := hP
        have hD : va_D (va_A w0 s.heap.size) [((a 0), .inr (5, [.ref (a 1), .ref (a 2), .ref (a 3), .ref (a 4), .int r15.2.2.2.2.1, .ref (a 5), .int r15.2.2.2.2.2.2.1, .int r15.2.2.2.2.2.2.2.1, .int r15.2.2.2.2.2.2.2.2.1, .ref (a 6), .ref (a 7), .ref (a 8)])), ((a 1), .inl (G.2.1, 411, .inl r15.1)), ((a 2), .inl (G.2.1, 1644, .inl r15.2.1)), ((a 3), .inl (G.2.1, 411, .inl r15.2.2.1)), ((a 4), .inl (G.2.1, 411, .inl r15.2.2.2.1)), ((a 5), .inl (G.2.2.1, 60, .inl r15.2.2.2.2.2.1)), ((a 6), .inl (G.2.1, 4, .inl r15.2.2.2.2.2.2.2.2.2.1)), ((a 7), .inl (G.2.1, 4, .inl r15.2.2.2.2.2.2.2.2.2.2.1)), ((a 8), .inl (G.2.1, 4, .inl r15.2.2.2.2.2.2.2.2.2.2.2))] := hD
        refine lv_iconst (v := (0 : Int32)) hx hb dX6_drainsOne_89 (by decide) ?_
        refine lv_istore (lv' := [(4, .int (0 : Int32)), (0, .ref (a 0)), (1, .int x1), (2, .int x2), (3, .int x3)]) hx hb dX6_drainsOne_90 hl (by decide) rfl (fun ls hl => ?_)
        exact kX6_drainsOne_b92 C0 2000 _ _ _ _ _ _ _ _ _ _ _ _ _ _ hf _ _ hP hD hS ls (lv_sub hl [1, 0] rfl)
    · have hf := g_ifF c6 hf
      refine lv_aload_n hx hb dX6_drainsOne_48 rfl (lv_at hl 0 rfl) ?_
      refine va_get (D := G.1) (ci := 5) (v := .ref (a 7)) (C := RX6) (T := TX6) (N := 12) hx hb hts hX6 hown hK.1 hP 0 rfl rfl 10 (by decide) (hts _ tw_598) (fun _ h9 => h9) rfl dX6_drainsOne_49 ?_
      refine lv_iload hx hb dX6_drainsOne_52 (lv_at hl 4 rfl) ?_
      refine lv_aload_n hx hb dX6_drainsOne_54 rfl (lv_at hl 0 rfl) ?_
      refine va_get (D := G.1) (ci := 5) (v := .ref (a 1)) (C := RX6) (T := TX6) (N := 12) hx hb hts hX6 hown hK.1 hP 0 rfl rfl 0 (by decide) (hts _ tw_588) (fun _ h9 => h9) rfl dX6_drainsOne_55 ?_
      refine lv_bipush (v := (17 : Int32)) hx hb dX6_drainsOne_58 (by decide) ?_
      refine lv_iload hx hb dX6_drainsOne_60 (lv_at hl 4 rfl) ?_
      refine lv_iadd hx hb dX6_drainsOne_62 ?_
      obtain ⟨g17, hf⟩ := g_gdS hf
      refine va_iald hx hb hK.1 hP 1 0 rfl rfl (g_in_vp g17) dX6_drainsOne_63 ?_
      obtain ⟨g18, hf⟩ := g_gdS hf
      refine va_iast hx hb hK.1 hP hD hS 7 0 rfl rfl (g_in_vp g18) dX6_drainsOne_64 (fun H locs hP hD hS => ?_)
      have hP : va_P G.1 vwCl [((a 0), .inr (5, [.ref (a 1), .ref (a 2), .ref (a 3), .ref (a 4), .int sta, .ref (a 5), .int typ, .int att, .int rea, .ref (a 6), .ref (a 7), .ref (a 8)])), ((a 1), .inl (G.2.1, 411, .inl ss)), ((a 2), .inl (G.2.1, 1644, .inl was)), ((a 3), .inl (G.2.1, 411, .inl beg)), ((a 4), .inl (G.2.1, 411, .inl asi)), ((a 5), .inl (G.2.2.1, 60, .inl txt)), ((a 6), .inl (G.2.1, 4, .inl got)), ((a 7), .inl (G.2.1, 4, .inl (upd row x4.toNatClampNeg (ss ((17 : Int32) + x4).toNatClampNeg)))), ((a 8), .inl (G.2.1, 4, .inl oth))] H := hP
      have hD : va_D (va_A w0 s.heap.size) [((a 0), .inr (5, [.ref (a 1), .ref (a 2), .ref (a 3), .ref (a 4), .int sta, .ref (a 5), .int typ, .int att, .int rea, .ref (a 6), .ref (a 7), .ref (a 8)])), ((a 1), .inl (G.2.1, 411, .inl ss)), ((a 2), .inl (G.2.1, 1644, .inl was)), ((a 3), .inl (G.2.1, 411, .inl beg)), ((a 4), .inl (G.2.1, 411, .inl asi)), ((a 5), .inl (G.2.2.1, 60, .inl txt)), ((a 6), .inl (G.2.1, 4, .inl got)), ((a 7), .inl (G.2.1, 4, .inl (upd row x4.toNatClampNeg (ss ((17 : Int32) + x4).toNatClampNeg)))), ((a 8), .inl (G.2.1, 4, .inl oth))] := hD
      refine lv_iinc (v := (x4 + (1 : Int32))) (lv' := [(4, .int (x4 + (1 : Int32))), (0, .ref (a 0)), (1, .int x1), (2, .int x2), (3, .int x3)]) hx hb dX6_drainsOne_65 hl (k := 4) rfl rfl (by decide) rfl (fun ls hl => ?_)
      refine lv_goto (tgt := 42) hx hb dX6_drainsOne_68 (by decide) ?_
      exact ih _ _ _ _ _ _ _ _ _ _ _ _ _ _ _ _ _ hf _ _ hP hD hS ls (lv_sub hl [1, 2, 3, 4, 0] rfl)
def fX6_drainsOne (ss : Nat → Int32) (was : Nat → Int32) (beg : Nat → Int32) (asi : Nat → Int32) (sta : Int32) (txt : Nat → Int32) (typ : Int32) (att : Int32) (rea : Int32) (got : Nat → Int32) (row : Nat → Int32) (oth : Nat → Int32) : Option ((Nat → Int32) × (Nat → Int32) × (Nat → Int32) × (Nat → Int32) × Int32 × (Nat → Int32) × Int32 × Int32 × Int32 × (Nat → Int32) × (Nat → Int32) × (Nat → Int32)) := g_gd (g_in (14 : Int32) 411) (g_gd (g_in (15 : Int32) 411) (g_gd (g_in (16 : Int32) 411) (g_gd (g_in (17 : Int32) 411) (g_gd (g_in (0 : Int32) 4) (fX6_drainsOne_b42 2000 (ss (14 : Int32).toNatClampNeg) (ss (15 : Int32).toNatClampNeg) (ss (16 : Int32).toNatClampNeg) (1 : Int32) ss was beg asi sta txt typ att rea got (upd row (0 : Int32).toNatClampNeg ((1 : Int32) - (ss (17 : Int32).toNatClampNeg))) oth)))))
set_option maxHeartbeats 4000000 in
set_option maxRecDepth 100000 in
theorem qX6_drainsOne (l : Launch) (G : gT) (a : Nat → Nat) {ss : Nat → Int32} {was : Nat → Int32} {beg : Nat → Int32} {asi : Nat → Int32} {sta : Int32} {txt : Nat → Int32} {typ : Int32} {att : Int32} {rea : Int32} {got : Nat → Int32} {row : Nat → Int32} {oth : Nat → Int32} {u : (Nat → Int32) × (Nat → Int32) × (Nat → Int32) × (Nat → Int32) × Int32 × (Nat → Int32) × Int32 × Int32 × Int32 × (Nat → Int32) × (Nat → Int32) × (Nat → Int32)} (hf : fX6_drainsOne ss was beg asi sta txt typ att rea got row oth = some u) : gC l G yX6_drainsOne wsX6_drainsOne rmX6_drainsOne [.ref (a 0)] (modW G a ss was beg asi sta txt typ att rea got row oth) none (modW G a u.1 u.2.1 u.2.2.1 u.2.2.2.1 u.2.2.2.2.1 u.2.2.2.2.2.1 u.2.2.2.2.2.2.1 u.2.2.2.2.2.2.2.1 u.2.2.2.2.2.2.2.2.1 u.2.2.2.2.2.2.2.2.2.1 u.2.2.2.2.2.2.2.2.2.2.1 u.2.2.2.2.2.2.2.2.2.2.2) := by
  refine gC.of (cc := cX6_drainsOne) (maxL := 5) (ret := none) (by decide) rfl (Nat.le_of_ble_eq_true rfl) ?_
  intro p e s m below meth c C0 hP hD hS ls hl
  obtain ⟨hx, hb, hr, hts, hown, hlocks, hml, hK⟩ := id C0
  have hl : lv_has ls 5 [(0, .ref (a 0))] := hl
  have hA : ∀ q : Nat, s.heap.size ≤ q → va_A (modW G a ss was beg asi sta txt typ att rea got row oth) s.heap.size q := fun q h => Or.inr h
  have hP : va_P G.1 vwCl [((a 0), .inr (5, [.ref (a 1), .ref (a 2), .ref (a 3), .ref (a 4), .int sta, .ref (a 5), .int typ, .int att, .int rea, .ref (a 6), .ref (a 7), .ref (a 8)])), ((a 1), .inl (G.2.1, 411, .inl ss)), ((a 2), .inl (G.2.1, 1644, .inl was)), ((a 3), .inl (G.2.1, 411, .inl beg)), ((a 4), .inl (G.2.1, 411, .inl asi)), ((a 5), .inl (G.2.2.1, 60, .inl txt)), ((a 6), .inl (G.2.1, 4, .inl got)), ((a 7), .inl (G.2.1, 4, .inl row)), ((a 8), .inl (G.2.1, 4, .inl oth))] s.heap := hP
  have hD : va_D (va_A (modW G a ss was beg asi sta txt typ att rea got row oth) s.heap.size) [((a 0), .inr (5, [.ref (a 1), .ref (a 2), .ref (a 3), .ref (a 4), .int sta, .ref (a 5), .int typ, .int att, .int rea, .ref (a 6), .ref (a 7), .ref (a 8)])), ((a 1), .inl (G.2.1, 411, .inl ss)), ((a 2), .inl (G.2.1, 1644, .inl was)), ((a 3), .inl (G.2.1, 411, .inl beg)), ((a 4), .inl (G.2.1, 411, .inl asi)), ((a 5), .inl (G.2.2.1, 60, .inl txt)), ((a 6), .inl (G.2.1, 4, .inl got)), ((a 7), .inl (G.2.1, 4, .inl row)), ((a 8), .inl (G.2.1, 4, .inl oth))] := hD
  unfold fX6_drainsOne at hf
  refine lv_aload_n hx hb dX6_drainsOne_0 rfl (lv_at hl 0 rfl) ?_
  refine va_get (D := G.1) (ci := 5) (v := .ref (a 1)) (C := RX6) (T := TX6) (N := 12) hx hb hts hX6 hown hK.1 hP 0 rfl rfl 0 (by decide) (hts _ tw_588) (fun _ h9 => h9) rfl dX6_drainsOne_1 ?_
  refine lv_bipush (v := (14 : Int32)) hx hb dX6_drainsOne_4 (by decide) ?_
  obtain ⟨g1, hf⟩ := g_gdS hf
  refine va_iald hx hb hK.1 hP 1 0 rfl rfl (g_in_vp g1) dX6_drainsOne_6 ?_
  refine lv_istore_n (lv' := [(1, .int (ss (14 : Int32).toNatClampNeg)), (0, .ref (a 0))]) hx hb dX6_drainsOne_7 rfl hl (by decide) rfl (fun ls hl => ?_)
  refine lv_aload_n hx hb dX6_drainsOne_8 rfl (lv_at hl 1 rfl) ?_
  refine va_get (D := G.1) (ci := 5) (v := .ref (a 1)) (C := RX6) (T := TX6) (N := 12) hx hb hts hX6 hown hK.1 hP 0 rfl rfl 0 (by decide) (hts _ tw_588) (fun _ h9 => h9) rfl dX6_drainsOne_9 ?_
  refine lv_bipush (v := (15 : Int32)) hx hb dX6_drainsOne_12 (by decide) ?_
  obtain ⟨g2, hf⟩ := g_gdS hf
  refine va_iald hx hb hK.1 hP 1 0 rfl rfl (g_in_vp g2) dX6_drainsOne_14 ?_
  refine lv_istore_n (lv' := [(2, .int (ss (15 : Int32).toNatClampNeg)), (1, .int (ss (14 : Int32).toNatClampNeg)), (0, .ref (a 0))]) hx hb dX6_drainsOne_15 rfl hl (by decide) rfl (fun ls hl => ?_)
  refine lv_aload_n hx hb dX6_drainsOne_16 rfl (lv_at hl 2 rfl) ?_
  refine va_get (D := G.1) (ci := 5) (v := .ref (a 1)) (C := RX6) (T := TX6) (N := 12) hx hb hts hX6 hown hK.1 hP 0 rfl rfl 0 (by decide) (hts _ tw_588) (fun _ h9 => h9) rfl dX6_drainsOne_17 ?_
  refine lv_bipush (v := (16 : Int32)) hx hb dX6_drainsOne_20 (by decide) ?_
  obtain ⟨g3, hf⟩ := g_gdS hf
  refine va_iald hx hb hK.1 hP 1 0 rfl rfl (g_in_vp g3) dX6_drainsOne_22 ?_
  refine lv_istore_n (lv' := [(3, .int (ss (16 : Int32).toNatClampNeg)), (2, .int (ss (15 : Int32).toNatClampNeg)), (1, .int (ss (14 : Int32).toNatClampNeg)), (0, .ref (a 0))]) hx hb dX6_drainsOne_23 rfl hl (by decide) rfl (fun ls hl => ?_)
  refine lv_aload_n hx hb dX6_drainsOne_24 rfl (lv_at hl 3 rfl) ?_
  refine va_get (D := G.1) (ci := 5) (v := .ref (a 7)) (C := RX6) (T := TX6) (N := 12) hx hb hts hX6 hown hK.1 hP 0 rfl rfl 10 (by decide) (hts _ tw_598) (fun _ h9 => h9) rfl dX6_drainsOne_25 ?_
  refine lv_iconst (v := (0 : Int32)) hx hb dX6_drainsOne_28 (by decide) ?_
  refine lv_iconst (v := (1 : Int32)) hx hb dX6_drainsOne_29 (by decide) ?_
  refine lv_aload_n hx hb dX6_drainsOne_30 rfl (lv_at hl 3 rfl) ?_
  refine va_get (D := G.1) (ci := 5) (v := .ref (a 1)) (C := RX6) (T := TX6) (N := 12) hx hb hts hX6 hown hK.1 hP 0 rfl rfl 0 (by decide) (hts _ tw_588) (fun _ h9 => h9) rfl dX6_drainsOne_31 ?_
  refine lv_bipush (v := (17 : Int32)) hx hb dX6_drainsOne_34 (by decide) ?_
  obtain ⟨g4, hf⟩ := g_gdS hf
  refine va_iald hx hb hK.1 hP 1 0 rfl rfl (g_in_vp g4) dX6_drainsOne_36 ?_
  refine lv_isub hx hb dX6_drainsOne_37 ?_
  obtain ⟨g5, hf⟩ := g_gdS hf
  refine va_iast hx hb hK.1 hP hD hS 7 0 rfl rfl (g_in_vp g5) dX6_drainsOne_38 (fun H locs hP hD hS => ?_)
  have hP : va_P G.1 vwCl [((a 0), .inr (5, [.ref (a 1), .ref (a 2), .ref (a 3), .ref (a 4), .int sta, .ref (a 5), .int typ, .int att, .int rea, .ref (a 6), .ref (a 7), .ref (a 8)])), ((a 1), .inl (G.2.1, 411, .inl ss)), ((a 2), .inl (G.2.1, 1644, .inl was)), ((a 3), .inl (G.2.1, 411, .inl beg)), ((a 4), .inl (G.2.1, 411, .inl asi)), ((a 5), .inl (G.2.2.1, 60, .inl txt)), ((a 6), .inl (G.2.1, 4, .inl got)), ((a 7), .inl (G.2.1, 4, .inl (upd row (0 : Int32).toNatClampNeg ((1 : Int32) - (ss (17 : Int32).toNatClampNeg))))), ((a 8), .inl (G.2.1, 4, .inl oth))] H := hP
  have hD : va_D (va_A (modW G a ss was beg asi sta txt typ att rea got row oth) s.heap.size) [((a 0), .inr (5, [.ref (a 1), .ref (a 2), .ref (a 3), .ref (a 4), .int sta, .ref (a 5), .int typ, .int att, .int rea, .ref (a 6), .ref (a 7), .ref (a 8)])), ((a 1), .inl (G.2.1, 411, .inl ss)), ((a 2), .inl (G.2.1, 1644, .inl was)), ((a 3), .inl (G.2.1, 411, .inl beg)), ((a 4), .inl (G.2.1, 411, .inl asi)), ((a 5), .inl (G.2.2.1, 60, .inl txt)), ((a 6), .inl (G.2.1, 4, .inl got)), ((a 7), .inl (G.2.1, 4, .inl (upd row (0 : Int32).toNatClampNeg ((1 : Int32) - (ss (17 : Int32).toNatClampNeg))))), ((a 8), .inl (G.2.1, 4, .inl oth))] := hD
  refine lv_iconst (v := (1 : Int32)) hx hb dX6_drainsOne_39 (by decide) ?_
  refine lv_istore (lv' := [(4, .int (1 : Int32)), (3, .int (ss (16 : Int32).toNatClampNeg)), (2, .int (ss (15 : Int32).toNatClampNeg)), (1, .int (ss (14 : Int32).toNatClampNeg)), (0, .ref (a 0))]) hx hb dX6_drainsOne_40 hl (by decide) rfl (fun ls hl => ?_)
  exact kX6_drainsOne_b42 C0 2000 _ _ _ _ _ _ _ _ _ _ _ _ _ _ _ _ _ hf _ _ hP hD hS ls (lv_sub hl [4, 3, 2, 1, 0] rfl)
-- TwoShapesModel.drains(I)I
abbrev rmX6_drains : Room := { frames := 3, cells := 0, slots := 0, locals := 70 }
def fX6_drains_b27 : Nat → Int32 → Int32 → (Nat → Int32) → (Nat → Int32) → (Nat → Int32) → (Nat → Int32) → Int32 → (Nat → Int32) → Int32 → Int32 → Int32 → (Nat → Int32) → (Nat → Int32) → (Nat → Int32) → Option (Int32 × (Nat → Int32) × (Nat → Int32) × (Nat → Int32) × (Nat → Int32) × Int32 × (Nat → Int32) × Int32 × Int32 × Int32 × (Nat → Int32) × (Nat → Int32) × (Nat → Int32))
  | 0, _, _, _, _, _, _, _, _, _, _, _, _, _, _ => none
  | n + 1, x1, x2, ss, was, beg, asi, sta, txt, typ, att, rea, got, row, oth => (if x1 ≤ x2 then g_gd (g_in (3 : Int32) 411) (some ((ss (3 : Int32).toNatClampNeg), ss, was, beg, asi, sta, txt, typ, att, rea, got, row, oth)) else g_gd (g_in (3 : Int32) 411) ((if (ss (3 : Int32).toNatClampNeg) ≤ (0 : Int32) then g_gd (g_in (3 : Int32) 411) (some ((ss (3 : Int32).toNatClampNeg), ss, was, beg, asi, sta, txt, typ, att, rea, got, row, oth)) else ((fX6_drainsOne ss was beg asi sta txt typ att rea got row oth).bind fun r11 => fX6_drains_b27 n x1 (x2 + (1 : Int32)) r11.1 r11.2.1 r11.2.2.1 r11.2.2.2.1 r11.2.2.2.2.1 r11.2.2.2.2.2.1 r11.2.2.2.2.2.2.1 r11.2.2.2.2.2.2.2.1 r11.2.2.2.2.2.2.2.2.1 r11.2.2.2.2.2.2.2.2.2.1 r11.2.2.2.2.2.2.2.2.2.2.1 r11.2.2.2.2.2.2.2.2.2.2.2))))
set_option maxHeartbeats 4000000 in
set_option maxRecDepth 100000 in
theorem kX6_drains_b27 {p : Program} {l : Launch} {e : Env} {s : State} {m : MethodId} {args : Array Value} {below : List Frame} {meth : Method} {c : Code} {G : gT} {a : Nat → Nat} {w0 : va_W} (C0 : gX p s m args meth c cX6_drains 3 (some .int) RX6 G) :
    ∀ (n : Nat) (x1 : Int32) (x2 : Int32) (ss : Nat → Int32) (was : Nat → Int32) (beg : Nat → Int32) (asi : Nat → Int32) (sta : Int32) (txt : Nat → Int32) (typ : Int32) (att : Int32) (rea : Int32) (got : Nat → Int32) (row : Nat → Int32) (oth : Nat → Int32) (u : Int32 × (Nat → Int32) × (Nat → Int32) × (Nat → Int32) × (Nat → Int32) × Int32 × (Nat → Int32) × Int32 × Int32 × Int32 × (Nat → Int32) × (Nat → Int32) × (Nat → Int32)), fX6_drains_b27 n x1 x2 ss was beg asi sta txt typ att rea got row oth = some u → ∀ (H : Heap) (locs : List Loc), va_P G.1 vwCl [((a 0), .inr (5, [.ref (a 1), .ref (a 2), .ref (a 3), .ref (a 4), .int sta, .ref (a 5), .int typ, .int att, .int rea, .ref (a 6), .ref (a 7), .ref (a 8)])), ((a 1), .inl (G.2.1, 411, .inl ss)), ((a 2), .inl (G.2.1, 1644, .inl was)), ((a 3), .inl (G.2.1, 411, .inl beg)), ((a 4), .inl (G.2.1, 411, .inl asi)), ((a 5), .inl (G.2.2.1, 60, .inl txt)), ((a 6), .inl (G.2.1, 4, .inl got)), ((a 7), .inl (G.2.1, 4, .inl row)), ((a 8), .inl (G.2.1, 4, .inl oth))] H → va_D (va_A w0 s.heap.size) [((a 0), .inr (5, [.ref (a 1), .ref (a 2), .ref (a 3), .ref (a 4), .int sta, .ref (a 5), .int typ, .int att, .int rea, .ref (a 6), .ref (a 7), .ref (a 8)])), ((a 1), .inl (G.2.1, 411, .inl ss)), ((a 2), .inl (G.2.1, 1644, .inl was)), ((a 3), .inl (G.2.1, 411, .inl beg)), ((a 4), .inl (G.2.1, 411, .inl asi)), ((a 5), .inl (G.2.2.1, 60, .inl txt)), ((a 6), .inl (G.2.1, 4, .inl got)), ((a 7), .inl (G.2.1, 4, .inl row)), ((a 8), .inl (G.2.1, 4, .inl oth))] → va_S (va_A w0 s.heap.size) s.heap H locs → ∀ ls, lv_has ls 3 [(0, .ref (a 0)), (1, .int x1), (2, .int x2)] → gW p l e (headSpec wsX6_drains rmX6_drains).room s m args below meth c G w0 (some (.int u.1)) (modW G a u.2.1 u.2.2.1 u.2.2.2.1 u.2.2.2.2.1 u.2.2.2.2.2.1 u.2.2.2.2.2.2.1 u.2.2.2.2.2.2.2.1 u.2.2.2.2.2.2.2.2.1 u.2.2.2.2.2.2.2.2.2.1 u.2.2.2.2.2.2.2.2.2.2.1 u.2.2.2.2.2.2.2.2.2.2.2.1 u.2.2.2.2.2.2.2.2.2.2.2.2) H locs 27 ls [] := by
  obtain ⟨hx, hb, hr, hts, hown, hlocks, hml, hK⟩ := id C0
  have hA : ∀ q : Nat, s.heap.size ≤ q → va_A w0 s.heap.size q := fun q h => Or.inr h
  intro n
  induction n with
  | zero =>
    intro x1 x2 ss was beg asi sta txt typ att rea got row oth u hf H locs hP hD hS ls hl
    have hf : (none : Option (Int32 × (Nat → Int32) × (Nat → Int32) × (Nat → Int32) × (Nat → Int32) × Int32 × (Nat → Int32) × Int32 × Int32 × Int32 × (Nat → Int32) × (Nat → Int32) × (Nat → Int32))) = some u := hf
    cases hf
  | succ n ih =>
    intro x1 x2 ss was beg asi sta txt typ att rea got row oth u hf H locs hP hD hS ls hl
    rw [fX6_drains_b27] at hf
    refine lv_iload_n hx hb dX6_drains_27 rfl (lv_at hl 2 rfl) ?_
    refine lv_iload_n hx hb dX6_drains_28 rfl (lv_at hl 1 rfl) ?_
    refine lv_icmp_ge (tgt := 51) hx hb dX6_drains_29 (by decide) (fun c6 => ?_) (fun c6 => ?_)
    · have hf := g_ifT c6 hf
      refine lv_aload_n hx hb dX6_drains_51 rfl (lv_at hl 0 rfl) ?_
      refine va_get (D := G.1) (ci := 5) (v := .ref (a 1)) (C := RX6) (T := TX6) (N := 12) hx hb hts hX6 hown hK.1 hP 0 rfl rfl 0 (by decide) (hts _ tw_588) (fun _ h9 => h9) rfl dX6_drains_52 ?_
      refine lv_iconst (v := (3 : Int32)) hx hb dX6_drains_55 (by decide) ?_
      obtain ⟨g7, hf⟩ := g_gdS hf
      refine va_iald hx hb hK.1 hP 1 0 rfl rfl (g_in_vp g7) dX6_drains_56 ?_
      cases hf
      exact g_iretC hx hb hr hlocks hP hD hS dX6_drains_57
    · have hf := g_ifF c6 hf
      refine lv_aload_n hx hb dX6_drains_32 rfl (lv_at hl 0 rfl) ?_
      refine va_get (D := G.1) (ci := 5) (v := .ref (a 1)) (C := RX6) (T := TX6) (N := 12) hx hb hts hX6 hown hK.1 hP 0 rfl rfl 0 (by decide) (hts _ tw_588) (fun _ h9 => h9) rfl dX6_drains_33 ?_
      refine lv_iconst (v := (3 : Int32)) hx hb dX6_drains_36 (by decide) ?_
      obtain ⟨g8, hf⟩ := g_gdS hf
      refine va_iald hx hb hK.1 hP 1 0 rfl rfl (g_in_vp g8) dX6_drains_37 ?_
      refine lv_if_le (tgt := 51) hx hb dX6_drains_38 (by decide) (fun c9 => ?_) (fun c9 => ?_)
      · have hf := g_ifT c9 hf
        refine lv_aload_n hx hb dX6_drains_51 rfl (lv_at hl 0 rfl) ?_
        refine va_get (D := G.1) (ci := 5) (v := .ref (a 1)) (C := RX6) (T := TX6) (N := 12) hx hb hts hX6 hown hK.1 hP 0 rfl rfl 0 (by decide) (hts _ tw_588) (fun _ h9 => h9) rfl dX6_drains_52 ?_
        refine lv_iconst (v := (3 : Int32)) hx hb dX6_drains_55 (by decide) ?_
        obtain ⟨g10, hf⟩ := g_gdS hf
        refine va_iald hx hb hK.1 hP 1 0 rfl rfl (g_in_vp g10) dX6_drains_56 ?_
        cases hf
        exact g_iretC hx hb hr hlocks hP hD hS dX6_drains_57
      · have hf := g_ifF c9 hf
        refine lv_aload_n hx hb dX6_drains_41 rfl (lv_at hl 0 rfl) ?_
        obtain ⟨r11, e12, hf⟩ := g_bdS hf
        refine g_contC (st1 := []) (g_runVC (As := []) (rest := []) ⟨hx, hb, hml, hown, hts⟩ (qX6_drainsOne l G a e12) (cwV 0 hts (TB_V TB_id tw_759 tw_761 tw_31 tw_54 tw_762) rfl rfl rfl (by decide +kernel) ⟨Nat.le_of_ble_eq_true rfl, Nat.le_of_ble_eq_true rfl⟩) hK (hP.sub [0, 1, 2, 3, 4, 5, 6, 7, 8] rfl) (hD.sub [0, 1, 2, 3, 4, 5, 6, 7, 8] (by decide) rfl) 0 rfl rfl rfl hl.1 rfl (Nat.le_of_ble_eq_true rfl) dX6_drains_42) rfl hP hD hS hA [0, 1, 2, 3, 4, 5, 6, 7, 8] rfl rfl (fun H locs hP hD hS => ?_)
        have hP : va_P G.1 vwCl [((a 0), .inr (5, [.ref (a 1), .ref (a 2), .ref (a 3), .ref (a 4), .int r11.2.2.2.2.1, .ref (a 5), .int r11.2.2.2.2.2.2.1, .int r11.2.2.2.2.2.2.2.1, .int r11.2.2.2.2.2.2.2.2.1, .ref (a 6), .ref (a 7), .ref (a 8)])), ((a 1), .inl (G.2.1, 411, .inl r11.1)), ((a 2), .inl (G.2.1, 1644, .inl r11.2.1)), ((a 3), .inl (G.2.1, 411, .inl r11.2.2.1)), ((a 4), .inl (G.2.1, 411, .inl r11.2.2.2.1)), ((a 5), .inl (G.2.2.1, 60, .inl r11.2.2.2.2.2.1)), ((a 6), .inl (G.2.1, 4, .inl r11.2.2.2.2.2.2.2.2.2.1)), ((a 7), .inl (G.2.1, 4, .inl r11.2.2.2.2.2.2.2.2.2.2.1)), ((a 8), .inl (G.2.1, 4, .inl r11.2.2.2.2.2.2.2.2.2.2.2))] H := hP
        have hD : va_D (va_A w0 s.heap.size) [((a 0), .inr (5, [.ref (a 1), .ref (a 2), .ref (a 3), .ref (a 4), .int r11.2.2.2.2.1, .ref (a 5), .int r11.2.2.2.2.2.2.1, .int r11.2.2.2.2.2.2.2.1, .int r11.2.2.2.2.2.2.2.2.1, .ref (a 6), .ref (a 7), .ref (a 8)])), ((a 1), .inl (G.2.1, 411, .inl r11.1)), ((a 2), .inl (G.2.1, 1644, .inl r11.2.1)), ((a 3), .inl (G.2.1, 411, .inl r11.2.2.1)), ((a 4), .inl (G.2.1, 411, .inl r11.2.2.2.1)), ((a 5), .inl (G.2.2.1, 60, .inl r11.2.2.2.2.2.1)), ((a 6), .inl (G.2.1, 4, .inl r11.2.2.2.2.2.2.2.2.2.1)), ((a 7), .inl (G.2.1, 4, .inl r11.2.2.2.2.2.2.2.2.2.2.1)), ((a 8), .inl (G.2.1, 4, .inl r11.2.2.2.2.2.2.2.2.2.2.2))] := hD
        refine lv_iinc (v := (x2 + (1 : Int32))) (lv' := [(2, .int (x2 + (1 : Int32))), (0, .ref (a 0)), (1, .int x1)]) hx hb dX6_drains_45 hl (k := 2) rfl rfl (by decide) rfl (fun ls hl => ?_)
        refine lv_goto (tgt := 27) hx hb dX6_drains_48 (by decide) ?_
        exact ih _ _ _ _ _ _ _ _ _ _ _ _ _ _ _ hf _ _ hP hD hS ls (lv_sub hl [1, 2, 0] rfl)
def fX6_drains (p0 : Int32) (ss : Nat → Int32) (was : Nat → Int32) (beg : Nat → Int32) (asi : Nat → Int32) (sta : Int32) (txt : Nat → Int32) (typ : Int32) (att : Int32) (rea : Int32) (got : Nat → Int32) (row : Nat → Int32) (oth : Nat → Int32) : Option (Int32 × (Nat → Int32) × (Nat → Int32) × (Nat → Int32) × (Nat → Int32) × Int32 × (Nat → Int32) × Int32 × Int32 × Int32 × (Nat → Int32) × (Nat → Int32) × (Nat → Int32)) := ((fX6_in p0 (1 : Int32) (8 : Int32)).bind fun r1 => (if r1 = (0 : Int32) then some ((-1000001 : Int32), ss, was, beg, asi, sta, txt, typ, att, rea, got, row, oth) else g_gd (g_in (3 : Int32) 411) ((if (ss (3 : Int32).toNatClampNeg) = (0 : Int32) then some ((-1000002 : Int32), ss, was, beg, asi, sta, txt, typ, att, rea, got, row, oth) else fX6_drains_b27 2000 p0 (0 : Int32) ss was beg asi sta txt typ att rea got row oth))))
set_option maxHeartbeats 4000000 in
set_option maxRecDepth 100000 in
theorem qX6_drains (l : Launch) (G : gT) (a : Nat → Nat) {p0 : Int32} {ss : Nat → Int32} {was : Nat → Int32} {beg : Nat → Int32} {asi : Nat → Int32} {sta : Int32} {txt : Nat → Int32} {typ : Int32} {att : Int32} {rea : Int32} {got : Nat → Int32} {row : Nat → Int32} {oth : Nat → Int32} {u : Int32 × (Nat → Int32) × (Nat → Int32) × (Nat → Int32) × (Nat → Int32) × Int32 × (Nat → Int32) × Int32 × Int32 × Int32 × (Nat → Int32) × (Nat → Int32) × (Nat → Int32)} (hf : fX6_drains p0 ss was beg asi sta txt typ att rea got row oth = some u) : gC l G yX6_drains wsX6_drains rmX6_drains [.ref (a 0), .int p0] (modW G a ss was beg asi sta txt typ att rea got row oth) (some (.int u.1)) (modW G a u.2.1 u.2.2.1 u.2.2.2.1 u.2.2.2.2.1 u.2.2.2.2.2.1 u.2.2.2.2.2.2.1 u.2.2.2.2.2.2.2.1 u.2.2.2.2.2.2.2.2.1 u.2.2.2.2.2.2.2.2.2.1 u.2.2.2.2.2.2.2.2.2.2.1 u.2.2.2.2.2.2.2.2.2.2.2.1 u.2.2.2.2.2.2.2.2.2.2.2.2) := by
  refine gC.of (cc := cX6_drains) (maxL := 3) (ret := (some .int)) (by decide) rfl (Nat.le_of_ble_eq_true rfl) ?_
  intro p e s m below meth c C0 hP hD hS ls hl
  obtain ⟨hx, hb, hr, hts, hown, hlocks, hml, hK⟩ := id C0
  have hl : lv_has ls 3 [(0, .ref (a 0)), (1, .int p0)] := hl
  have hA : ∀ q : Nat, s.heap.size ≤ q → va_A (modW G a ss was beg asi sta txt typ att rea got row oth) s.heap.size q := fun q h => Or.inr h
  have hP : va_P G.1 vwCl [((a 0), .inr (5, [.ref (a 1), .ref (a 2), .ref (a 3), .ref (a 4), .int sta, .ref (a 5), .int typ, .int att, .int rea, .ref (a 6), .ref (a 7), .ref (a 8)])), ((a 1), .inl (G.2.1, 411, .inl ss)), ((a 2), .inl (G.2.1, 1644, .inl was)), ((a 3), .inl (G.2.1, 411, .inl beg)), ((a 4), .inl (G.2.1, 411, .inl asi)), ((a 5), .inl (G.2.2.1, 60, .inl txt)), ((a 6), .inl (G.2.1, 4, .inl got)), ((a 7), .inl (G.2.1, 4, .inl row)), ((a 8), .inl (G.2.1, 4, .inl oth))] s.heap := hP
  have hD : va_D (va_A (modW G a ss was beg asi sta txt typ att rea got row oth) s.heap.size) [((a 0), .inr (5, [.ref (a 1), .ref (a 2), .ref (a 3), .ref (a 4), .int sta, .ref (a 5), .int typ, .int att, .int rea, .ref (a 6), .ref (a 7), .ref (a 8)])), ((a 1), .inl (G.2.1, 411, .inl ss)), ((a 2), .inl (G.2.1, 1644, .inl was)), ((a 3), .inl (G.2.1, 411, .inl beg)), ((a 4), .inl (G.2.1, 411, .inl asi)), ((a 5), .inl (G.2.2.1, 60, .inl txt)), ((a 6), .inl (G.2.1, 4, .inl got)), ((a 7), .inl (G.2.1, 4, .inl row)), ((a 8), .inl (G.2.1, 4, .inl oth))] := hD
  unfold fX6_drains at hf
  refine lv_iload_n hx hb dX6_drains_0 rfl (lv_at hl 1 rfl) ?_
  refine lv_iconst (v := (1 : Int32)) hx hb dX6_drains_1 (by decide) ?_
  refine lv_bipush (v := (8 : Int32)) hx hb dX6_drains_2 (by decide) ?_
  obtain ⟨r1, e2, hf⟩ := g_bdS hf
  refine g_contR (st1 := [.int r1]) (g_runSR (As := [.int p0, .int (1 : Int32), .int (8 : Int32)]) (rest := []) ⟨hx, hb, hml, hown, hts⟩ (qX6_in l G e2) (va_cwS 3 hts (TB_S TB_id tw_714 tw_715 tw_54 tw_716) rfl rfl rfl (by decide +kernel) ⟨Nat.le_of_ble_eq_true rfl, Nat.le_of_ble_eq_true rfl⟩) hK (hP.sub [] rfl) rfl hl.1 rfl (Nat.le_of_ble_eq_true rfl) dX6_drains_4) rfl ?_
  refine lv_if_ne (tgt := 13) hx hb dX6_drains_7 (by decide) (fun c3 => ?_) (fun c3 => ?_)
  · have hf := g_ifF c3 hf
    refine lv_aload_n hx hb dX6_drains_13 rfl (lv_at hl 0 rfl) ?_
    refine va_get (D := G.1) (ci := 5) (v := .ref (a 1)) (C := RX6) (T := TX6) (N := 12) hx hb hts hX6 hown hK.1 hP 0 rfl rfl 0 (by decide) (hts _ tw_588) (fun _ h9 => h9) rfl dX6_drains_14 ?_
    refine lv_iconst (v := (3 : Int32)) hx hb dX6_drains_17 (by decide) ?_
    obtain ⟨g4, hf⟩ := g_gdS hf
    refine va_iald hx hb hK.1 hP 1 0 rfl rfl (g_in_vp g4) dX6_drains_18 ?_
    refine lv_if_ne (tgt := 25) hx hb dX6_drains_19 (by decide) (fun c5 => ?_) (fun c5 => ?_)
    · have hf := g_ifF c5 hf
      refine lv_iconst (v := (0 : Int32)) hx hb dX6_drains_25 (by decide) ?_
      refine lv_istore_n (lv' := [(2, .int (0 : Int32)), (0, .ref (a 0)), (1, .int p0)]) hx hb dX6_drains_26 rfl hl (by decide) rfl (fun ls hl => ?_)
      exact kX6_drains_b27 C0 2000 _ _ _ _ _ _ _ _ _ _ _ _ _ _ _ hf _ _ hP hD hS ls (lv_sub hl [1, 2, 0] rfl)
    · have hf := g_ifT c5 hf
      refine lv_ldc (v := (-1000002 : Int32)) hx hb hown (hts _ tw_630) dX6_drains_22 ?_
      cases hf
      exact g_iretC hx hb hr hlocks hP hD hS dX6_drains_24
  · have hf := g_ifT c3 hf
    refine lv_ldc (v := (-1000001 : Int32)) hx hb hown (hts _ tw_654) dX6_drains_10 ?_
    cases hf
    exact g_iretC hx hb hr hlocks hP hD hS dX6_drains_12
-- TwoShapesModel.drain(I)I
abbrev rmX6_drain : Room := { frames := 4, cells := 0, slots := 0, locals := 92 }
def fX6_drain (p0 : Int32) (ss : Nat → Int32) (was : Nat → Int32) (beg : Nat → Int32) (asi : Nat → Int32) (sta : Int32) (txt : Nat → Int32) (typ : Int32) (att : Int32) (rea : Int32) (got : Nat → Int32) (row : Nat → Int32) (oth : Nat → Int32) : Option (Int32 × (Nat → Int32) × (Nat → Int32) × (Nat → Int32) × (Nat → Int32) × Int32 × (Nat → Int32) × Int32 × Int32 × Int32 × (Nat → Int32) × (Nat → Int32) × (Nat → Int32)) := ((fX6_keeps ss was beg asi sta txt typ att rea got row oth).bind fun r1 => ((fX6_drains p0 r1.1 r1.2.1 r1.2.2.1 r1.2.2.2.1 r1.2.2.2.2.1 r1.2.2.2.2.2.1 r1.2.2.2.2.2.2.1 r1.2.2.2.2.2.2.2.1 r1.2.2.2.2.2.2.2.2.1 r1.2.2.2.2.2.2.2.2.2.1 r1.2.2.2.2.2.2.2.2.2.2.1 r1.2.2.2.2.2.2.2.2.2.2.2).bind fun r3 => ((fX6_acted r3.1 r3.2.1 r3.2.2.1 r3.2.2.2.1 r3.2.2.2.2.1 r3.2.2.2.2.2.1 r3.2.2.2.2.2.2.1 r3.2.2.2.2.2.2.2.1 r3.2.2.2.2.2.2.2.2.1 r3.2.2.2.2.2.2.2.2.2.1 r3.2.2.2.2.2.2.2.2.2.2.1 r3.2.2.2.2.2.2.2.2.2.2.2.1 r3.2.2.2.2.2.2.2.2.2.2.2.2).bind fun r5 => some (r5.1, r5.2.1, r5.2.2.1, r5.2.2.2.1, r5.2.2.2.2.1, r5.2.2.2.2.2.1, r5.2.2.2.2.2.2.1, r5.2.2.2.2.2.2.2.1, r5.2.2.2.2.2.2.2.2.1, r5.2.2.2.2.2.2.2.2.2.1, r5.2.2.2.2.2.2.2.2.2.2.1, r5.2.2.2.2.2.2.2.2.2.2.2.1, r5.2.2.2.2.2.2.2.2.2.2.2.2))))
set_option maxHeartbeats 4000000 in
set_option maxRecDepth 100000 in
theorem qX6_drain (l : Launch) (G : gT) (a : Nat → Nat) {p0 : Int32} {ss : Nat → Int32} {was : Nat → Int32} {beg : Nat → Int32} {asi : Nat → Int32} {sta : Int32} {txt : Nat → Int32} {typ : Int32} {att : Int32} {rea : Int32} {got : Nat → Int32} {row : Nat → Int32} {oth : Nat → Int32} {u : Int32 × (Nat → Int32) × (Nat → Int32) × (Nat → Int32) × (Nat → Int32) × Int32 × (Nat → Int32) × Int32 × Int32 × Int32 × (Nat → Int32) × (Nat → Int32) × (Nat → Int32)} (hf : fX6_drain p0 ss was beg asi sta txt typ att rea got row oth = some u) : gC l G yX6_drain wsX6_drain rmX6_drain [.ref (a 0), .int p0] (modW G a ss was beg asi sta txt typ att rea got row oth) (some (.int u.1)) (modW G a u.2.1 u.2.2.1 u.2.2.2.1 u.2.2.2.2.1 u.2.2.2.2.2.1 u.2.2.2.2.2.2.1 u.2.2.2.2.2.2.2.1 u.2.2.2.2.2.2.2.2.1 u.2.2.2.2.2.2.2.2.2.1 u.2.2.2.2.2.2.2.2.2.2.1 u.2.2.2.2.2.2.2.2.2.2.2.1 u.2.2.2.2.2.2.2.2.2.2.2.2) := by
  refine gC.of (cc := cX6_drain) (maxL := 2) (ret := (some .int)) (by decide) rfl (Nat.le_of_ble_eq_true rfl) ?_
  intro p e s m below meth c C0 hP hD hS ls hl
  obtain ⟨hx, hb, hr, hts, hown, hlocks, hml, hK⟩ := id C0
  have hl : lv_has ls 2 [(0, .ref (a 0)), (1, .int p0)] := hl
  have hA : ∀ q : Nat, s.heap.size ≤ q → va_A (modW G a ss was beg asi sta txt typ att rea got row oth) s.heap.size q := fun q h => Or.inr h
  have hP : va_P G.1 vwCl [((a 0), .inr (5, [.ref (a 1), .ref (a 2), .ref (a 3), .ref (a 4), .int sta, .ref (a 5), .int typ, .int att, .int rea, .ref (a 6), .ref (a 7), .ref (a 8)])), ((a 1), .inl (G.2.1, 411, .inl ss)), ((a 2), .inl (G.2.1, 1644, .inl was)), ((a 3), .inl (G.2.1, 411, .inl beg)), ((a 4), .inl (G.2.1, 411, .inl asi)), ((a 5), .inl (G.2.2.1, 60, .inl txt)), ((a 6), .inl (G.2.1, 4, .inl got)), ((a 7), .inl (G.2.1, 4, .inl row)), ((a 8), .inl (G.2.1, 4, .inl oth))] s.heap := hP
  have hD : va_D (va_A (modW G a ss was beg asi sta txt typ att rea got row oth) s.heap.size) [((a 0), .inr (5, [.ref (a 1), .ref (a 2), .ref (a 3), .ref (a 4), .int sta, .ref (a 5), .int typ, .int att, .int rea, .ref (a 6), .ref (a 7), .ref (a 8)])), ((a 1), .inl (G.2.1, 411, .inl ss)), ((a 2), .inl (G.2.1, 1644, .inl was)), ((a 3), .inl (G.2.1, 411, .inl beg)), ((a 4), .inl (G.2.1, 411, .inl asi)), ((a 5), .inl (G.2.2.1, 60, .inl txt)), ((a 6), .inl (G.2.1, 4, .inl got)), ((a 7), .inl (G.2.1, 4, .inl row)), ((a 8), .inl (G.2.1, 4, .inl oth))] := hD
  unfold fX6_drain at hf
  refine lv_aload_n hx hb dX6_drain_0 rfl (lv_at hl 0 rfl) ?_
  obtain ⟨r1, e2, hf⟩ := g_bdS hf
  refine g_contC (st1 := []) (g_runVC (As := []) (rest := []) ⟨hx, hb, hml, hown, hts⟩ (qX6_keeps l G a e2) (cwV 0 hts (TB_V TB_id tw_631 tw_633 tw_9 tw_54 tw_634) rfl rfl rfl (by decide +kernel) ⟨Nat.le_of_ble_eq_true rfl, Nat.le_of_ble_eq_true rfl⟩) hK (hP.sub [0, 1, 2, 3, 4, 5, 6, 7, 8] rfl) (hD.sub [0, 1, 2, 3, 4, 5, 6, 7, 8] (by decide) rfl) 0 rfl rfl rfl hl.1 rfl (Nat.le_of_ble_eq_true rfl) dX6_drain_1) rfl hP hD hS hA [0, 1, 2, 3, 4, 5, 6, 7, 8] rfl rfl (fun H locs hP hD hS => ?_)
  have hP : va_P G.1 vwCl [((a 0), .inr (5, [.ref (a 1), .ref (a 2), .ref (a 3), .ref (a 4), .int r1.2.2.2.2.1, .ref (a 5), .int r1.2.2.2.2.2.2.1, .int r1.2.2.2.2.2.2.2.1, .int r1.2.2.2.2.2.2.2.2.1, .ref (a 6), .ref (a 7), .ref (a 8)])), ((a 1), .inl (G.2.1, 411, .inl r1.1)), ((a 2), .inl (G.2.1, 1644, .inl r1.2.1)), ((a 3), .inl (G.2.1, 411, .inl r1.2.2.1)), ((a 4), .inl (G.2.1, 411, .inl r1.2.2.2.1)), ((a 5), .inl (G.2.2.1, 60, .inl r1.2.2.2.2.2.1)), ((a 6), .inl (G.2.1, 4, .inl r1.2.2.2.2.2.2.2.2.2.1)), ((a 7), .inl (G.2.1, 4, .inl r1.2.2.2.2.2.2.2.2.2.2.1)), ((a 8), .inl (G.2.1, 4, .inl r1.2.2.2.2.2.2.2.2.2.2.2))] H := hP
  have hD : va_D (va_A (modW G a ss was beg asi sta txt typ att rea got row oth) s.heap.size) [((a 0), .inr (5, [.ref (a 1), .ref (a 2), .ref (a 3), .ref (a 4), .int r1.2.2.2.2.1, .ref (a 5), .int r1.2.2.2.2.2.2.1, .int r1.2.2.2.2.2.2.2.1, .int r1.2.2.2.2.2.2.2.2.1, .ref (a 6), .ref (a 7), .ref (a 8)])), ((a 1), .inl (G.2.1, 411, .inl r1.1)), ((a 2), .inl (G.2.1, 1644, .inl r1.2.1)), ((a 3), .inl (G.2.1, 411, .inl r1.2.2.1)), ((a 4), .inl (G.2.1, 411, .inl r1.2.2.2.1)), ((a 5), .inl (G.2.2.1, 60, .inl r1.2.2.2.2.2.1)), ((a 6), .inl (G.2.1, 4, .inl r1.2.2.2.2.2.2.2.2.2.1)), ((a 7), .inl (G.2.1, 4, .inl r1.2.2.2.2.2.2.2.2.2.2.1)), ((a 8), .inl (G.2.1, 4, .inl r1.2.2.2.2.2.2.2.2.2.2.2))] := hD
  refine lv_aload_n hx hb dX6_drain_4 rfl (lv_at hl 0 rfl) ?_
  refine lv_aload_n hx hb dX6_drain_5 rfl (lv_at hl 0 rfl) ?_
  refine lv_iload_n hx hb dX6_drain_6 rfl (lv_at hl 1 rfl) ?_
  obtain ⟨r3, e4, hf⟩ := g_bdS hf
  refine g_contC (st1 := [.int r3.1, .ref (a 0)]) (g_runVC (As := [.int p0]) (rest := [.ref (a 0)]) ⟨hx, hb, hml, hown, hts⟩ (qX6_drains l G a e4) (cwV 1 hts (TB_V TB_id tw_755 tw_757 tw_30 tw_54 tw_758) rfl rfl rfl (by decide +kernel) ⟨Nat.le_of_ble_eq_true rfl, Nat.le_of_ble_eq_true rfl⟩) hK (hP.sub [0, 1, 2, 3, 4, 5, 6, 7, 8] rfl) (hD.sub [0, 1, 2, 3, 4, 5, 6, 7, 8] (by decide) rfl) 0 rfl rfl rfl hl.1 rfl (Nat.le_of_ble_eq_true rfl) dX6_drain_7) rfl hP hD hS hA [0, 1, 2, 3, 4, 5, 6, 7, 8] rfl rfl (fun H locs hP hD hS => ?_)
  have hP : va_P G.1 vwCl [((a 0), .inr (5, [.ref (a 1), .ref (a 2), .ref (a 3), .ref (a 4), .int r3.2.2.2.2.2.1, .ref (a 5), .int r3.2.2.2.2.2.2.2.1, .int r3.2.2.2.2.2.2.2.2.1, .int r3.2.2.2.2.2.2.2.2.2.1, .ref (a 6), .ref (a 7), .ref (a 8)])), ((a 1), .inl (G.2.1, 411, .inl r3.2.1)), ((a 2), .inl (G.2.1, 1644, .inl r3.2.2.1)), ((a 3), .inl (G.2.1, 411, .inl r3.2.2.2.1)), ((a 4), .inl (G.2.1, 411, .inl r3.2.2.2.2.1)), ((a 5), .inl (G.2.2.1, 60, .inl r3.2.2.2.2.2.2.1)), ((a 6), .inl (G.2.1, 4, .inl r3.2.2.2.2.2.2.2.2.2.2.1)), ((a 7), .inl (G.2.1, 4, .inl r3.2.2.2.2.2.2.2.2.2.2.2.1)), ((a 8), .inl (G.2.1, 4, .inl r3.2.2.2.2.2.2.2.2.2.2.2.2))] H := hP
  have hD : va_D (va_A (modW G a ss was beg asi sta txt typ att rea got row oth) s.heap.size) [((a 0), .inr (5, [.ref (a 1), .ref (a 2), .ref (a 3), .ref (a 4), .int r3.2.2.2.2.2.1, .ref (a 5), .int r3.2.2.2.2.2.2.2.1, .int r3.2.2.2.2.2.2.2.2.1, .int r3.2.2.2.2.2.2.2.2.2.1, .ref (a 6), .ref (a 7), .ref (a 8)])), ((a 1), .inl (G.2.1, 411, .inl r3.2.1)), ((a 2), .inl (G.2.1, 1644, .inl r3.2.2.1)), ((a 3), .inl (G.2.1, 411, .inl r3.2.2.2.1)), ((a 4), .inl (G.2.1, 411, .inl r3.2.2.2.2.1)), ((a 5), .inl (G.2.2.1, 60, .inl r3.2.2.2.2.2.2.1)), ((a 6), .inl (G.2.1, 4, .inl r3.2.2.2.2.2.2.2.2.2.2.1)), ((a 7), .inl (G.2.1, 4, .inl r3.2.2.2.2.2.2.2.2.2.2.2.1)), ((a 8), .inl (G.2.1, 4, .inl r3.2.2.2.2.2.2.2.2.2.2.2.2))] := hD
  obtain ⟨r5, e6, hf⟩ := g_bdS hf
  refine g_contC (st1 := [.int r5.1]) (g_runVC (As := [.int r3.1]) (rest := []) ⟨hx, hb, hml, hown, hts⟩ (qX6_acted l G a e6) (cwV 1 hts (TB_V TB_id tw_650 tw_652 tw_13 tw_54 tw_653) rfl rfl rfl (by decide +kernel) ⟨Nat.le_of_ble_eq_true rfl, Nat.le_of_ble_eq_true rfl⟩) hK (hP.sub [0, 1, 2, 3, 4, 5, 6, 7, 8] rfl) (hD.sub [0, 1, 2, 3, 4, 5, 6, 7, 8] (by decide) rfl) 0 rfl rfl rfl hl.1 rfl (Nat.le_of_ble_eq_true rfl) dX6_drain_10) rfl hP hD hS hA [0, 1, 2, 3, 4, 5, 6, 7, 8] rfl rfl (fun H locs hP hD hS => ?_)
  have hP : va_P G.1 vwCl [((a 0), .inr (5, [.ref (a 1), .ref (a 2), .ref (a 3), .ref (a 4), .int r5.2.2.2.2.2.1, .ref (a 5), .int r5.2.2.2.2.2.2.2.1, .int r5.2.2.2.2.2.2.2.2.1, .int r5.2.2.2.2.2.2.2.2.2.1, .ref (a 6), .ref (a 7), .ref (a 8)])), ((a 1), .inl (G.2.1, 411, .inl r5.2.1)), ((a 2), .inl (G.2.1, 1644, .inl r5.2.2.1)), ((a 3), .inl (G.2.1, 411, .inl r5.2.2.2.1)), ((a 4), .inl (G.2.1, 411, .inl r5.2.2.2.2.1)), ((a 5), .inl (G.2.2.1, 60, .inl r5.2.2.2.2.2.2.1)), ((a 6), .inl (G.2.1, 4, .inl r5.2.2.2.2.2.2.2.2.2.2.1)), ((a 7), .inl (G.2.1, 4, .inl r5.2.2.2.2.2.2.2.2.2.2.2.1)), ((a 8), .inl (G.2.1, 4, .inl r5.2.2.2.2.2.2.2.2.2.2.2.2))] H := hP
  have hD : va_D (va_A (modW G a ss was beg asi sta txt typ att rea got row oth) s.heap.size) [((a 0), .inr (5, [.ref (a 1), .ref (a 2), .ref (a 3), .ref (a 4), .int r5.2.2.2.2.2.1, .ref (a 5), .int r5.2.2.2.2.2.2.2.1, .int r5.2.2.2.2.2.2.2.2.1, .int r5.2.2.2.2.2.2.2.2.2.1, .ref (a 6), .ref (a 7), .ref (a 8)])), ((a 1), .inl (G.2.1, 411, .inl r5.2.1)), ((a 2), .inl (G.2.1, 1644, .inl r5.2.2.1)), ((a 3), .inl (G.2.1, 411, .inl r5.2.2.2.1)), ((a 4), .inl (G.2.1, 411, .inl r5.2.2.2.2.1)), ((a 5), .inl (G.2.2.1, 60, .inl r5.2.2.2.2.2.2.1)), ((a 6), .inl (G.2.1, 4, .inl r5.2.2.2.2.2.2.2.2.2.2.1)), ((a 7), .inl (G.2.1, 4, .inl r5.2.2.2.2.2.2.2.2.2.2.2.1)), ((a 8), .inl (G.2.1, 4, .inl r5.2.2.2.2.2.2.2.2.2.2.2.2))] := hD
  cases hf
  exact g_iretC hx hb hr hlocks hP hD hS dX6_drain_13
-- TwoShapesModel.gets(II)V
abbrev rmX6_gets : Room := { frames := 3, cells := 0, slots := 0, locals := 67 }
def fX6_gets (p0 : Int32) (p1 : Int32) (ss : Nat → Int32) (was : Nat → Int32) (beg : Nat → Int32) (asi : Nat → Int32) (sta : Int32) (txt : Nat → Int32) (typ : Int32) (att : Int32) (rea : Int32) (got : Nat → Int32) (row : Nat → Int32) (oth : Nat → Int32) : Option ((Nat → Int32) × (Nat → Int32) × (Nat → Int32) × (Nat → Int32) × Int32 × (Nat → Int32) × Int32 × Int32 × Int32 × (Nat → Int32) × (Nat → Int32) × (Nat → Int32)) := ((fX6_takes ((1 : Int32) - p0) p1 ss was beg asi sta txt typ att rea got row oth).bind fun r1 => ((fX6_makes ((1 : Int32) - p0) p0 r1.1 r1.2.1 r1.2.2.1 r1.2.2.2.1 r1.2.2.2.2.1 r1.2.2.2.2.2.1 r1.2.2.2.2.2.2.1 r1.2.2.2.2.2.2.2.1 r1.2.2.2.2.2.2.2.2.1 r1.2.2.2.2.2.2.2.2.2.1 r1.2.2.2.2.2.2.2.2.2.2.1 r1.2.2.2.2.2.2.2.2.2.2.2).bind fun r3 => ((fX6_of ((1 : Int32) - p0) p1 (0 : Int32) r3.1 r3.2.1 r3.2.2.1 r3.2.2.2.1 r3.2.2.2.2.1 r3.2.2.2.2.2.1 r3.2.2.2.2.2.2.1 r3.2.2.2.2.2.2.2.1 r3.2.2.2.2.2.2.2.2.1 r3.2.2.2.2.2.2.2.2.2.1 r3.2.2.2.2.2.2.2.2.2.2.1 r3.2.2.2.2.2.2.2.2.2.2.2).bind fun r5 => ((fX6_lays p0 p1 r5 r3.1 r3.2.1 r3.2.2.1 r3.2.2.2.1 r3.2.2.2.2.1 r3.2.2.2.2.2.1 r3.2.2.2.2.2.2.1 r3.2.2.2.2.2.2.2.1 r3.2.2.2.2.2.2.2.2.1 r3.2.2.2.2.2.2.2.2.2.1 r3.2.2.2.2.2.2.2.2.2.2.1 r3.2.2.2.2.2.2.2.2.2.2.2).bind fun r7 => some (r7.1, r7.2.1, r7.2.2.1, r7.2.2.2.1, r7.2.2.2.2.1, r7.2.2.2.2.2.1, r7.2.2.2.2.2.2.1, r7.2.2.2.2.2.2.2.1, r7.2.2.2.2.2.2.2.2.1, r7.2.2.2.2.2.2.2.2.2.1, r7.2.2.2.2.2.2.2.2.2.2.1, r7.2.2.2.2.2.2.2.2.2.2.2)))))
set_option maxHeartbeats 4000000 in
set_option maxRecDepth 100000 in
theorem qX6_gets (l : Launch) (G : gT) (a : Nat → Nat) {p0 : Int32} {p1 : Int32} {ss : Nat → Int32} {was : Nat → Int32} {beg : Nat → Int32} {asi : Nat → Int32} {sta : Int32} {txt : Nat → Int32} {typ : Int32} {att : Int32} {rea : Int32} {got : Nat → Int32} {row : Nat → Int32} {oth : Nat → Int32} {u : (Nat → Int32) × (Nat → Int32) × (Nat → Int32) × (Nat → Int32) × Int32 × (Nat → Int32) × Int32 × Int32 × Int32 × (Nat → Int32) × (Nat → Int32) × (Nat → Int32)} (hf : fX6_gets p0 p1 ss was beg asi sta txt typ att rea got row oth = some u) : gC l G yX6_gets wsX6_gets rmX6_gets [.ref (a 0), .int p0, .int p1] (modW G a ss was beg asi sta txt typ att rea got row oth) none (modW G a u.1 u.2.1 u.2.2.1 u.2.2.2.1 u.2.2.2.2.1 u.2.2.2.2.2.1 u.2.2.2.2.2.2.1 u.2.2.2.2.2.2.2.1 u.2.2.2.2.2.2.2.2.1 u.2.2.2.2.2.2.2.2.2.1 u.2.2.2.2.2.2.2.2.2.2.1 u.2.2.2.2.2.2.2.2.2.2.2) := by
  refine gC.of (cc := cX6_gets) (maxL := 3) (ret := none) (by decide) rfl (Nat.le_of_ble_eq_true rfl) ?_
  intro p e s m below meth c C0 hP hD hS ls hl
  obtain ⟨hx, hb, hr, hts, hown, hlocks, hml, hK⟩ := id C0
  have hl : lv_has ls 3 [(0, .ref (a 0)), (1, .int p0), (2, .int p1)] := hl
  have hA : ∀ q : Nat, s.heap.size ≤ q → va_A (modW G a ss was beg asi sta txt typ att rea got row oth) s.heap.size q := fun q h => Or.inr h
  have hP : va_P G.1 vwCl [((a 0), .inr (5, [.ref (a 1), .ref (a 2), .ref (a 3), .ref (a 4), .int sta, .ref (a 5), .int typ, .int att, .int rea, .ref (a 6), .ref (a 7), .ref (a 8)])), ((a 1), .inl (G.2.1, 411, .inl ss)), ((a 2), .inl (G.2.1, 1644, .inl was)), ((a 3), .inl (G.2.1, 411, .inl beg)), ((a 4), .inl (G.2.1, 411, .inl asi)), ((a 5), .inl (G.2.2.1, 60, .inl txt)), ((a 6), .inl (G.2.1, 4, .inl got)), ((a 7), .inl (G.2.1, 4, .inl row)), ((a 8), .inl (G.2.1, 4, .inl oth))] s.heap := hP
  have hD : va_D (va_A (modW G a ss was beg asi sta txt typ att rea got row oth) s.heap.size) [((a 0), .inr (5, [.ref (a 1), .ref (a 2), .ref (a 3), .ref (a 4), .int sta, .ref (a 5), .int typ, .int att, .int rea, .ref (a 6), .ref (a 7), .ref (a 8)])), ((a 1), .inl (G.2.1, 411, .inl ss)), ((a 2), .inl (G.2.1, 1644, .inl was)), ((a 3), .inl (G.2.1, 411, .inl beg)), ((a 4), .inl (G.2.1, 411, .inl asi)), ((a 5), .inl (G.2.2.1, 60, .inl txt)), ((a 6), .inl (G.2.1, 4, .inl got)), ((a 7), .inl (G.2.1, 4, .inl row)), ((a 8), .inl (G.2.1, 4, .inl oth))] := hD
  unfold fX6_gets at hf
  refine lv_aload_n hx hb dX6_gets_0 rfl (lv_at hl 0 rfl) ?_
  refine lv_iconst (v := (1 : Int32)) hx hb dX6_gets_1 (by decide) ?_
  refine lv_iload_n hx hb dX6_gets_2 rfl (lv_at hl 1 rfl) ?_
  refine lv_isub hx hb dX6_gets_3 ?_
  refine lv_iload_n hx hb dX6_gets_4 rfl (lv_at hl 2 rfl) ?_
  obtain ⟨r1, e2, hf⟩ := g_bdS hf
  refine g_contC (st1 := []) (g_runVC (As := [.int ((1 : Int32) - p0), .int p1]) (rest := []) ⟨hx, hb, hml, hown, hts⟩ (qX6_takes l G a e2) (cwV 2 hts (TB_V TB_id tw_675 tw_677 tw_18 tw_54 tw_678) rfl rfl rfl (by decide +kernel) ⟨Nat.le_of_ble_eq_true rfl, Nat.le_of_ble_eq_true rfl⟩) hK (hP.sub [0, 1, 2, 3, 4, 5, 6, 7, 8] rfl) (hD.sub [0, 1, 2, 3, 4, 5, 6, 7, 8] (by decide) rfl) 0 rfl rfl rfl hl.1 rfl (Nat.le_of_ble_eq_true rfl) dX6_gets_5) rfl hP hD hS hA [0, 1, 2, 3, 4, 5, 6, 7, 8] rfl rfl (fun H locs hP hD hS => ?_)
  have hP : va_P G.1 vwCl [((a 0), .inr (5, [.ref (a 1), .ref (a 2), .ref (a 3), .ref (a 4), .int r1.2.2.2.2.1, .ref (a 5), .int r1.2.2.2.2.2.2.1, .int r1.2.2.2.2.2.2.2.1, .int r1.2.2.2.2.2.2.2.2.1, .ref (a 6), .ref (a 7), .ref (a 8)])), ((a 1), .inl (G.2.1, 411, .inl r1.1)), ((a 2), .inl (G.2.1, 1644, .inl r1.2.1)), ((a 3), .inl (G.2.1, 411, .inl r1.2.2.1)), ((a 4), .inl (G.2.1, 411, .inl r1.2.2.2.1)), ((a 5), .inl (G.2.2.1, 60, .inl r1.2.2.2.2.2.1)), ((a 6), .inl (G.2.1, 4, .inl r1.2.2.2.2.2.2.2.2.2.1)), ((a 7), .inl (G.2.1, 4, .inl r1.2.2.2.2.2.2.2.2.2.2.1)), ((a 8), .inl (G.2.1, 4, .inl r1.2.2.2.2.2.2.2.2.2.2.2))] H := hP
  have hD : va_D (va_A (modW G a ss was beg asi sta txt typ att rea got row oth) s.heap.size) [((a 0), .inr (5, [.ref (a 1), .ref (a 2), .ref (a 3), .ref (a 4), .int r1.2.2.2.2.1, .ref (a 5), .int r1.2.2.2.2.2.2.1, .int r1.2.2.2.2.2.2.2.1, .int r1.2.2.2.2.2.2.2.2.1, .ref (a 6), .ref (a 7), .ref (a 8)])), ((a 1), .inl (G.2.1, 411, .inl r1.1)), ((a 2), .inl (G.2.1, 1644, .inl r1.2.1)), ((a 3), .inl (G.2.1, 411, .inl r1.2.2.1)), ((a 4), .inl (G.2.1, 411, .inl r1.2.2.2.1)), ((a 5), .inl (G.2.2.1, 60, .inl r1.2.2.2.2.2.1)), ((a 6), .inl (G.2.1, 4, .inl r1.2.2.2.2.2.2.2.2.2.1)), ((a 7), .inl (G.2.1, 4, .inl r1.2.2.2.2.2.2.2.2.2.2.1)), ((a 8), .inl (G.2.1, 4, .inl r1.2.2.2.2.2.2.2.2.2.2.2))] := hD
  refine lv_aload_n hx hb dX6_gets_8 rfl (lv_at hl 0 rfl) ?_
  refine lv_iconst (v := (1 : Int32)) hx hb dX6_gets_9 (by decide) ?_
  refine lv_iload_n hx hb dX6_gets_10 rfl (lv_at hl 1 rfl) ?_
  refine lv_isub hx hb dX6_gets_11 ?_
  refine lv_iload_n hx hb dX6_gets_12 rfl (lv_at hl 1 rfl) ?_
  obtain ⟨r3, e4, hf⟩ := g_bdS hf
  refine g_contC (st1 := []) (g_runVC (As := [.int ((1 : Int32) - p0), .int p0]) (rest := []) ⟨hx, hb, hml, hown, hts⟩ (qX6_makes l G a e4) (cwV 2 hts (TB_V TB_id tw_679 tw_681 tw_19 tw_54 tw_682) rfl rfl rfl (by decide +kernel) ⟨Nat.le_of_ble_eq_true rfl, Nat.le_of_ble_eq_true rfl⟩) hK (hP.sub [0, 1, 2, 3, 4, 5, 6, 7, 8] rfl) (hD.sub [0, 1, 2, 3, 4, 5, 6, 7, 8] (by decide) rfl) 0 rfl rfl rfl hl.1 rfl (Nat.le_of_ble_eq_true rfl) dX6_gets_13) rfl hP hD hS hA [0, 1, 2, 3, 4, 5, 6, 7, 8] rfl rfl (fun H locs hP hD hS => ?_)
  have hP : va_P G.1 vwCl [((a 0), .inr (5, [.ref (a 1), .ref (a 2), .ref (a 3), .ref (a 4), .int r3.2.2.2.2.1, .ref (a 5), .int r3.2.2.2.2.2.2.1, .int r3.2.2.2.2.2.2.2.1, .int r3.2.2.2.2.2.2.2.2.1, .ref (a 6), .ref (a 7), .ref (a 8)])), ((a 1), .inl (G.2.1, 411, .inl r3.1)), ((a 2), .inl (G.2.1, 1644, .inl r3.2.1)), ((a 3), .inl (G.2.1, 411, .inl r3.2.2.1)), ((a 4), .inl (G.2.1, 411, .inl r3.2.2.2.1)), ((a 5), .inl (G.2.2.1, 60, .inl r3.2.2.2.2.2.1)), ((a 6), .inl (G.2.1, 4, .inl r3.2.2.2.2.2.2.2.2.2.1)), ((a 7), .inl (G.2.1, 4, .inl r3.2.2.2.2.2.2.2.2.2.2.1)), ((a 8), .inl (G.2.1, 4, .inl r3.2.2.2.2.2.2.2.2.2.2.2))] H := hP
  have hD : va_D (va_A (modW G a ss was beg asi sta txt typ att rea got row oth) s.heap.size) [((a 0), .inr (5, [.ref (a 1), .ref (a 2), .ref (a 3), .ref (a 4), .int r3.2.2.2.2.1, .ref (a 5), .int r3.2.2.2.2.2.2.1, .int r3.2.2.2.2.2.2.2.1, .int r3.2.2.2.2.2.2.2.2.1, .ref (a 6), .ref (a 7), .ref (a 8)])), ((a 1), .inl (G.2.1, 411, .inl r3.1)), ((a 2), .inl (G.2.1, 1644, .inl r3.2.1)), ((a 3), .inl (G.2.1, 411, .inl r3.2.2.1)), ((a 4), .inl (G.2.1, 411, .inl r3.2.2.2.1)), ((a 5), .inl (G.2.2.1, 60, .inl r3.2.2.2.2.2.1)), ((a 6), .inl (G.2.1, 4, .inl r3.2.2.2.2.2.2.2.2.2.1)), ((a 7), .inl (G.2.1, 4, .inl r3.2.2.2.2.2.2.2.2.2.2.1)), ((a 8), .inl (G.2.1, 4, .inl r3.2.2.2.2.2.2.2.2.2.2.2))] := hD
  refine lv_aload_n hx hb dX6_gets_16 rfl (lv_at hl 0 rfl) ?_
  refine lv_iload_n hx hb dX6_gets_17 rfl (lv_at hl 1 rfl) ?_
  refine lv_iload_n hx hb dX6_gets_18 rfl (lv_at hl 2 rfl) ?_
  refine lv_aload_n hx hb dX6_gets_19 rfl (lv_at hl 0 rfl) ?_
  refine lv_iconst (v := (1 : Int32)) hx hb dX6_gets_20 (by decide) ?_
  refine lv_iload_n hx hb dX6_gets_21 rfl (lv_at hl 1 rfl) ?_
  refine lv_isub hx hb dX6_gets_22 ?_
  refine lv_iload_n hx hb dX6_gets_23 rfl (lv_at hl 2 rfl) ?_
  refine lv_iconst (v := (0 : Int32)) hx hb dX6_gets_24 (by decide) ?_
  obtain ⟨r5, e6, hf⟩ := g_bdS hf
  refine g_contR (st1 := [.int r5, .int p1, .int p0, .ref (a 0)]) (g_runVR (As := [.int ((1 : Int32) - p0), .int p1, .int (0 : Int32)]) (rest := [.int p1, .int p0, .ref (a 0)]) ⟨hx, hb, hml, hown, hts⟩ (qX6_of l G a e6) (cwV 3 hts (TB_V TB_id tw_643 tw_645 tw_12 tw_54 tw_646) rfl rfl rfl (by decide +kernel) ⟨Nat.le_of_ble_eq_true rfl, Nat.le_of_ble_eq_true rfl⟩) hK (hP.sub [0, 1, 2, 3, 4, 5, 6, 7, 8] rfl) 0 rfl rfl rfl hl.1 rfl (Nat.le_of_ble_eq_true rfl) dX6_gets_25) rfl ?_
  obtain ⟨r7, e8, hf⟩ := g_bdS hf
  refine g_contC (st1 := []) (g_runVC (As := [.int p0, .int p1, .int r5]) (rest := []) ⟨hx, hb, hml, hown, hts⟩ (qX6_lays l G a e8) (cwV 3 hts (TB_V TB_id tw_731 tw_733 tw_27 tw_54 tw_734) rfl rfl rfl (by decide +kernel) ⟨Nat.le_of_ble_eq_true rfl, Nat.le_of_ble_eq_true rfl⟩) hK (hP.sub [0, 1, 2, 3, 4, 5, 6, 7, 8] rfl) (hD.sub [0, 1, 2, 3, 4, 5, 6, 7, 8] (by decide) rfl) 0 rfl rfl rfl hl.1 rfl (Nat.le_of_ble_eq_true rfl) dX6_gets_28) rfl hP hD hS hA [0, 1, 2, 3, 4, 5, 6, 7, 8] rfl rfl (fun H locs hP hD hS => ?_)
  have hP : va_P G.1 vwCl [((a 0), .inr (5, [.ref (a 1), .ref (a 2), .ref (a 3), .ref (a 4), .int r7.2.2.2.2.1, .ref (a 5), .int r7.2.2.2.2.2.2.1, .int r7.2.2.2.2.2.2.2.1, .int r7.2.2.2.2.2.2.2.2.1, .ref (a 6), .ref (a 7), .ref (a 8)])), ((a 1), .inl (G.2.1, 411, .inl r7.1)), ((a 2), .inl (G.2.1, 1644, .inl r7.2.1)), ((a 3), .inl (G.2.1, 411, .inl r7.2.2.1)), ((a 4), .inl (G.2.1, 411, .inl r7.2.2.2.1)), ((a 5), .inl (G.2.2.1, 60, .inl r7.2.2.2.2.2.1)), ((a 6), .inl (G.2.1, 4, .inl r7.2.2.2.2.2.2.2.2.2.1)), ((a 7), .inl (G.2.1, 4, .inl r7.2.2.2.2.2.2.2.2.2.2.1)), ((a 8), .inl (G.2.1, 4, .inl r7.2.2.2.2.2.2.2.2.2.2.2))] H := hP
  have hD : va_D (va_A (modW G a ss was beg asi sta txt typ att rea got row oth) s.heap.size) [((a 0), .inr (5, [.ref (a 1), .ref (a 2), .ref (a 3), .ref (a 4), .int r7.2.2.2.2.1, .ref (a 5), .int r7.2.2.2.2.2.2.1, .int r7.2.2.2.2.2.2.2.1, .int r7.2.2.2.2.2.2.2.2.1, .ref (a 6), .ref (a 7), .ref (a 8)])), ((a 1), .inl (G.2.1, 411, .inl r7.1)), ((a 2), .inl (G.2.1, 1644, .inl r7.2.1)), ((a 3), .inl (G.2.1, 411, .inl r7.2.2.1)), ((a 4), .inl (G.2.1, 411, .inl r7.2.2.2.1)), ((a 5), .inl (G.2.2.1, 60, .inl r7.2.2.2.2.2.1)), ((a 6), .inl (G.2.1, 4, .inl r7.2.2.2.2.2.2.2.2.2.1)), ((a 7), .inl (G.2.1, 4, .inl r7.2.2.2.2.2.2.2.2.2.2.1)), ((a 8), .inl (G.2.1, 4, .inl r7.2.2.2.2.2.2.2.2.2.2.2))] := hD
  cases hf
  exact g_vretC hx hb hr hlocks hP hD hS dX6_gets_31
-- TwoShapesModel.backfills(I)I
abbrev rmX6_backfills : Room := { frames := 4, cells := 0, slots := 0, locals := 89 }
def fX6_backfills_b41 : Nat → Int32 → Int32 → Int32 → (Nat → Int32) → (Nat → Int32) → (Nat → Int32) → (Nat → Int32) → Int32 → (Nat → Int32) → Int32 → Int32 → Int32 → (Nat → Int32) → (Nat → Int32) → (Nat → Int32) → Option (Int32 × (Nat → Int32) × (Nat → Int32) × (Nat → Int32) × (Nat → Int32) × Int32 × (Nat → Int32) × Int32 × Int32 × Int32 × (Nat → Int32) × (Nat → Int32) × (Nat → Int32))
  | 0, _, _, _, _, _, _, _, _, _, _, _, _, _, _, _ => none
  | n + 1, x1, x2, x3, ss, was, beg, asi, sta, txt, typ, att, rea, got, row, oth => (if x1 ≤ x3 then some (x2, ss, was, beg, asi, sta, txt, typ, att, rea, got, row, oth) else g_gd (g_in (2 : Int32) 411) ((if (31 : Int32) ≤ (ss (2 : Int32).toNatClampNeg) then some (x2, ss, was, beg, asi, sta, txt, typ, att, rea, got, row, oth) else g_gd (g_in (2 : Int32) 411) (((fX6_of (1 : Int32) (ss (2 : Int32).toNatClampNeg) (0 : Int32) ss was beg asi sta txt typ att rea got row oth).bind fun r12 => ((fX6_of (0 : Int32) (ss (2 : Int32).toNatClampNeg) (0 : Int32) ss was beg asi sta txt typ att rea got row oth).bind fun r14 => (if r14 ≤ r12 then g_gd (g_in (2 : Int32) 411) (g_gd (g_in (2 : Int32) 411) (fX6_backfills_b41 n x1 x2 (x3 + (1 : Int32)) (upd ss (2 : Int32).toNatClampNeg ((ss (2 : Int32).toNatClampNeg) + (1 : Int32))) was beg asi sta txt typ att rea got row oth)) else ((fX6_gets (1 : Int32) (ss (2 : Int32).toNatClampNeg) ss was beg asi sta txt typ att rea got row oth).bind fun r19 => g_gd (g_in (2 : Int32) 411) (g_gd (g_in (2 : Int32) 411) (fX6_backfills_b41 n x1 (x2 + (1 : Int32)) (x3 + (1 : Int32)) (upd r19.1 (2 : Int32).toNatClampNeg ((r19.1 (2 : Int32).toNatClampNeg) + (1 : Int32))) r19.2.1 r19.2.2.1 r19.2.2.2.1 r19.2.2.2.2.1 r19.2.2.2.2.2.1 r19.2.2.2.2.2.2.1 r19.2.2.2.2.2.2.2.1 r19.2.2.2.2.2.2.2.2.1 r19.2.2.2.2.2.2.2.2.2.1 r19.2.2.2.2.2.2.2.2.2.2.1 r19.2.2.2.2.2.2.2.2.2.2.2))))))))))
set_option maxHeartbeats 4000000 in
set_option maxRecDepth 100000 in
theorem kX6_backfills_b41 {p : Program} {l : Launch} {e : Env} {s : State} {m : MethodId} {args : Array Value} {below : List Frame} {meth : Method} {c : Code} {G : gT} {a : Nat → Nat} {w0 : va_W} (C0 : gX p s m args meth c cX6_backfills 5 (some .int) RX6 G) :
    ∀ (n : Nat) (x1 : Int32) (x2 : Int32) (x3 : Int32) (ss : Nat → Int32) (was : Nat → Int32) (beg : Nat → Int32) (asi : Nat → Int32) (sta : Int32) (txt : Nat → Int32) (typ : Int32) (att : Int32) (rea : Int32) (got : Nat → Int32) (row : Nat → Int32) (oth : Nat → Int32) (u : Int32 × (Nat → Int32) × (Nat → Int32) × (Nat → Int32) × (Nat → Int32) × Int32 × (Nat → Int32) × Int32 × Int32 × Int32 × (Nat → Int32) × (Nat → Int32) × (Nat → Int32)), fX6_backfills_b41 n x1 x2 x3 ss was beg asi sta txt typ att rea got row oth = some u → ∀ (H : Heap) (locs : List Loc), va_P G.1 vwCl [((a 0), .inr (5, [.ref (a 1), .ref (a 2), .ref (a 3), .ref (a 4), .int sta, .ref (a 5), .int typ, .int att, .int rea, .ref (a 6), .ref (a 7), .ref (a 8)])), ((a 1), .inl (G.2.1, 411, .inl ss)), ((a 2), .inl (G.2.1, 1644, .inl was)), ((a 3), .inl (G.2.1, 411, .inl beg)), ((a 4), .inl (G.2.1, 411, .inl asi)), ((a 5), .inl (G.2.2.1, 60, .inl txt)), ((a 6), .inl (G.2.1, 4, .inl got)), ((a 7), .inl (G.2.1, 4, .inl row)), ((a 8), .inl (G.2.1, 4, .inl oth))] H → va_D (va_A w0 s.heap.size) [((a 0), .inr (5, [.ref (a 1), .ref (a 2), .ref (a 3), .ref (a 4), .int sta, .ref (a 5), .int typ, .int att, .int rea, .ref (a 6), .ref (a 7), .ref (a 8)])), ((a 1), .inl (G.2.1, 411, .inl ss)), ((a 2), .inl (G.2.1, 1644, .inl was)), ((a 3), .inl (G.2.1, 411, .inl beg)), ((a 4), .inl (G.2.1, 411, .inl asi)), ((a 5), .inl (G.2.2.1, 60, .inl txt)), ((a 6), .inl (G.2.1, 4, .inl got)), ((a 7), .inl (G.2.1, 4, .inl row)), ((a 8), .inl (G.2.1, 4, .inl oth))] → va_S (va_A w0 s.heap.size) s.heap H locs → ∀ ls, lv_has ls 5 [(0, .ref (a 0)), (1, .int x1), (2, .int x2), (3, .int x3)] → gW p l e (headSpec wsX6_backfills rmX6_backfills).room s m args below meth c G w0 (some (.int u.1)) (modW G a u.2.1 u.2.2.1 u.2.2.2.1 u.2.2.2.2.1 u.2.2.2.2.2.1 u.2.2.2.2.2.2.1 u.2.2.2.2.2.2.2.1 u.2.2.2.2.2.2.2.2.1 u.2.2.2.2.2.2.2.2.2.1 u.2.2.2.2.2.2.2.2.2.2.1 u.2.2.2.2.2.2.2.2.2.2.2.1 u.2.2.2.2.2.2.2.2.2.2.2.2) H locs 41 ls [] := by
  obtain ⟨hx, hb, hr, hts, hown, hlocks, hml, hK⟩ := id C0
  have hA : ∀ q : Nat, s.heap.size ≤ q → va_A w0 s.heap.size q := fun q h => Or.inr h
  intro n
  induction n with
  | zero =>
    intro x1 x2 x3 ss was beg asi sta txt typ att rea got row oth u hf H locs hP hD hS ls hl
    have hf : (none : Option (Int32 × (Nat → Int32) × (Nat → Int32) × (Nat → Int32) × (Nat → Int32) × Int32 × (Nat → Int32) × Int32 × Int32 × Int32 × (Nat → Int32) × (Nat → Int32) × (Nat → Int32))) = some u := hf
    cases hf
  | succ n ih =>
    intro x1 x2 x3 ss was beg asi sta txt typ att rea got row oth u hf H locs hP hD hS ls hl
    rw [fX6_backfills_b41] at hf
    refine lv_iload_n hx hb dX6_backfills_41 rfl (lv_at hl 3 rfl) ?_
    refine lv_iload_n hx hb dX6_backfills_42 rfl (lv_at hl 1 rfl) ?_
    refine lv_icmp_ge (tgt := 110) hx hb dX6_backfills_43 (by decide) (fun c8 => ?_) (fun c8 => ?_)
    · have hf := g_ifT c8 hf
      refine lv_iload_n hx hb dX6_backfills_110 rfl (lv_at hl 2 rfl) ?_
      cases hf
      exact g_iretC hx hb hr hlocks hP hD hS dX6_backfills_111
    · have hf := g_ifF c8 hf
      refine lv_aload_n hx hb dX6_backfills_46 rfl (lv_at hl 0 rfl) ?_
      refine va_get (D := G.1) (ci := 5) (v := .ref (a 1)) (C := RX6) (T := TX6) (N := 12) hx hb hts hX6 hown hK.1 hP 0 rfl rfl 0 (by decide) (hts _ tw_588) (fun _ h9 => h9) rfl dX6_backfills_47 ?_
      refine lv_iconst (v := (2 : Int32)) hx hb dX6_backfills_50 (by decide) ?_
      obtain ⟨g9, hf⟩ := g_gdS hf
      refine va_iald hx hb hK.1 hP 1 0 rfl rfl (g_in_vp g9) dX6_backfills_51 ?_
      refine lv_bipush (v := (31 : Int32)) hx hb dX6_backfills_52 (by decide) ?_
      refine lv_icmp_ge (tgt := 110) hx hb dX6_backfills_54 (by decide) (fun c10 => ?_) (fun c10 => ?_)
      · have hf := g_ifT c10 hf
        refine lv_iload_n hx hb dX6_backfills_110 rfl (lv_at hl 2 rfl) ?_
        cases hf
        exact g_iretC hx hb hr hlocks hP hD hS dX6_backfills_111
      · have hf := g_ifF c10 hf
        refine lv_aload_n hx hb dX6_backfills_57 rfl (lv_at hl 0 rfl) ?_
        refine va_get (D := G.1) (ci := 5) (v := .ref (a 1)) (C := RX6) (T := TX6) (N := 12) hx hb hts hX6 hown hK.1 hP 0 rfl rfl 0 (by decide) (hts _ tw_588) (fun _ h9 => h9) rfl dX6_backfills_58 ?_
        refine lv_iconst (v := (2 : Int32)) hx hb dX6_backfills_61 (by decide) ?_
        obtain ⟨g11, hf⟩ := g_gdS hf
        refine va_iald hx hb hK.1 hP 1 0 rfl rfl (g_in_vp g11) dX6_backfills_62 ?_
        refine lv_istore (lv' := [(4, .int (ss (2 : Int32).toNatClampNeg)), (0, .ref (a 0)), (1, .int x1), (2, .int x2), (3, .int x3)]) hx hb dX6_backfills_63 hl (by decide) rfl (fun ls hl => ?_)
        refine lv_aload_n hx hb dX6_backfills_65 rfl (lv_at hl 1 rfl) ?_
        refine lv_iconst (v := (1 : Int32)) hx hb dX6_backfills_66 (by decide) ?_
        refine lv_iload hx hb dX6_backfills_67 (lv_at hl 0 rfl) ?_
        refine lv_iconst (v := (0 : Int32)) hx hb dX6_backfills_69 (by decide) ?_
        obtain ⟨r12, e13, hf⟩ := g_bdS hf
        refine g_contR (st1 := [.int r12]) (g_runVR (As := [.int (1 : Int32), .int (ss (2 : Int32).toNatClampNeg), .int (0 : Int32)]) (rest := []) ⟨hx, hb, hml, hown, hts⟩ (qX6_of l G a e13) (cwV 3 hts (TB_V TB_id tw_643 tw_645 tw_12 tw_54 tw_646) rfl rfl rfl (by decide +kernel) ⟨Nat.le_of_ble_eq_true rfl, Nat.le_of_ble_eq_true rfl⟩) hK (hP.sub [0, 1, 2, 3, 4, 5, 6, 7, 8] rfl) 0 rfl rfl rfl hl.1 rfl (Nat.le_of_ble_eq_true rfl) dX6_backfills_70) rfl ?_
        refine lv_aload_n hx hb dX6_backfills_73 rfl (lv_at hl 1 rfl) ?_
        refine lv_iconst (v := (0 : Int32)) hx hb dX6_backfills_74 (by decide) ?_
        refine lv_iload hx hb dX6_backfills_75 (lv_at hl 0 rfl) ?_
        refine lv_iconst (v := (0 : Int32)) hx hb dX6_backfills_77 (by decide) ?_
        obtain ⟨r14, e15, hf⟩ := g_bdS hf
        refine g_contR (st1 := [.int r14, .int r12]) (g_runVR (As := [.int (0 : Int32), .int (ss (2 : Int32).toNatClampNeg), .int (0 : Int32)]) (rest := [.int r12]) ⟨hx, hb, hml, hown, hts⟩ (qX6_of l G a e15) (cwV 3 hts (TB_V TB_id tw_643 tw_645 tw_12 tw_54 tw_646) rfl rfl rfl (by decide +kernel) ⟨Nat.le_of_ble_eq_true rfl, Nat.le_of_ble_eq_true rfl⟩) hK (hP.sub [0, 1, 2, 3, 4, 5, 6, 7, 8] rfl) 0 rfl rfl rfl hl.1 rfl (Nat.le_of_ble_eq_true rfl) dX6_backfills_78) rfl ?_
        refine lv_icmp_ge (tgt := 94) hx hb dX6_backfills_81 (by decide) (fun c16 => ?_) (fun c16 => ?_)
        · have hf := g_ifT c16 hf
          refine lv_aload_n hx hb dX6_backfills_94 rfl (lv_at hl 1 rfl) ?_
          refine va_get (D := G.1) (ci := 5) (v := .ref (a 1)) (C := RX6) (T := TX6) (N := 12) hx hb hts hX6 hown hK.1 hP 0 rfl rfl 0 (by decide) (hts _ tw_588) (fun _ h9 => h9) rfl dX6_backfills_95 ?_
          refine lv_iconst (v := (2 : Int32)) hx hb dX6_backfills_98 (by decide) ?_
          refine lv_dup2_11 hx hb dX6_backfills_99 rfl rfl ?_
          obtain ⟨g17, hf⟩ := g_gdS hf
          refine va_iald hx hb hK.1 hP 1 0 rfl rfl (g_in_vp g17) dX6_backfills_100 ?_
          refine lv_iconst (v := (1 : Int32)) hx hb dX6_backfills_101 (by decide) ?_
          refine lv_iadd hx hb dX6_backfills_102 ?_
          obtain ⟨g18, hf⟩ := g_gdS hf
          refine va_iast hx hb hK.1 hP hD hS 1 0 rfl rfl (g_in_vp g18) dX6_backfills_103 (fun H locs hP hD hS => ?_)
          have hP : va_P G.1 vwCl [((a 0), .inr (5, [.ref (a 1), .ref (a 2), .ref (a 3), .ref (a 4), .int sta, .ref (a 5), .int typ, .int att, .int rea, .ref (a 6), .ref (a 7), .ref (a 8)])), ((a 1), .inl (G.2.1, 411, .inl (upd ss (2 : Int32).toNatClampNeg ((ss (2 : Int32).toNatClampNeg) + (1 : Int32))))), ((a 2), .inl (G.2.1, 1644, .inl was)), ((a 3), .inl (G.2.1, 411, .inl beg)), ((a 4), .inl (G.2.1, 411, .inl asi)), ((a 5), .inl (G.2.2.1, 60, .inl txt)), ((a 6), .inl (G.2.1, 4, .inl got)), ((a 7), .inl (G.2.1, 4, .inl row)), ((a 8), .inl (G.2.1, 4, .inl oth))] H := hP
          have hD : va_D (va_A w0 s.heap.size) [((a 0), .inr (5, [.ref (a 1), .ref (a 2), .ref (a 3), .ref (a 4), .int sta, .ref (a 5), .int typ, .int att, .int rea, .ref (a 6), .ref (a 7), .ref (a 8)])), ((a 1), .inl (G.2.1, 411, .inl (upd ss (2 : Int32).toNatClampNeg ((ss (2 : Int32).toNatClampNeg) + (1 : Int32))))), ((a 2), .inl (G.2.1, 1644, .inl was)), ((a 3), .inl (G.2.1, 411, .inl beg)), ((a 4), .inl (G.2.1, 411, .inl asi)), ((a 5), .inl (G.2.2.1, 60, .inl txt)), ((a 6), .inl (G.2.1, 4, .inl got)), ((a 7), .inl (G.2.1, 4, .inl row)), ((a 8), .inl (G.2.1, 4, .inl oth))] := hD
          refine lv_iinc (v := (x3 + (1 : Int32))) (lv' := [(3, .int (x3 + (1 : Int32))), (4, .int (ss (2 : Int32).toNatClampNeg)), (0, .ref (a 0)), (1, .int x1), (2, .int x2)]) hx hb dX6_backfills_104 hl (k := 4) rfl rfl (by decide) rfl (fun ls hl => ?_)
          refine lv_goto (tgt := 41) hx hb dX6_backfills_107 (by decide) ?_
          exact ih _ _ _ _ _ _ _ _ _ _ _ _ _ _ _ _ hf _ _ hP hD hS ls (lv_sub hl [2, 3, 4, 0] rfl)
        · have hf := g_ifF c16 hf
          refine lv_aload_n hx hb dX6_backfills_84 rfl (lv_at hl 1 rfl) ?_
          refine lv_iconst (v := (1 : Int32)) hx hb dX6_backfills_85 (by decide) ?_
          refine lv_iload hx hb dX6_backfills_86 (lv_at hl 0 rfl) ?_
          obtain ⟨r19, e20, hf⟩ := g_bdS hf
          refine g_contC (st1 := []) (g_runVC (As := [.int (1 : Int32), .int (ss (2 : Int32).toNatClampNeg)]) (rest := []) ⟨hx, hb, hml, hown, hts⟩ (qX6_gets l G a e20) (cwV 2 hts (TB_V TB_id tw_771 tw_773 tw_33 tw_54 tw_774) rfl rfl rfl (by decide +kernel) ⟨Nat.le_of_ble_eq_true rfl, Nat.le_of_ble_eq_true rfl⟩) hK (hP.sub [0, 1, 2, 3, 4, 5, 6, 7, 8] rfl) (hD.sub [0, 1, 2, 3, 4, 5, 6, 7, 8] (by decide) rfl) 0 rfl rfl rfl hl.1 rfl (Nat.le_of_ble_eq_true rfl) dX6_backfills_88) rfl hP hD hS hA [0, 1, 2, 3, 4, 5, 6, 7, 8] rfl rfl (fun H locs hP hD hS => ?_)
          have hP : va_P G.1 vwCl [((a 0), .inr (5, [.ref (a 1), .ref (a 2), .ref (a 3), .ref (a 4), .int r19.2.2.2.2.1, .ref (a 5), .int r19.2.2.2.2.2.2.1, .int r19.2.2.2.2.2.2.2.1, .int r19.2.2.2.2.2.2.2.2.1, .ref (a 6), .ref (a 7), .ref (a 8)])), ((a 1), .inl (G.2.1, 411, .inl r19.1)), ((a 2), .inl (G.2.1, 1644, .inl r19.2.1)), ((a 3), .inl (G.2.1, 411, .inl r19.2.2.1)), ((a 4), .inl (G.2.1, 411, .inl r19.2.2.2.1)), ((a 5), .inl (G.2.2.1, 60, .inl r19.2.2.2.2.2.1)), ((a 6), .inl (G.2.1, 4, .inl r19.2.2.2.2.2.2.2.2.2.1)), ((a 7), .inl (G.2.1, 4, .inl r19.2.2.2.2.2.2.2.2.2.2.1)), ((a 8), .inl (G.2.1, 4, .inl r19.2.2.2.2.2.2.2.2.2.2.2))] H := hP
          have hD : va_D (va_A w0 s.heap.size) [((a 0), .inr (5, [.ref (a 1), .ref (a 2), .ref (a 3), .ref (a 4), .int r19.2.2.2.2.1, .ref (a 5), .int r19.2.2.2.2.2.2.1, .int r19.2.2.2.2.2.2.2.1, .int r19.2.2.2.2.2.2.2.2.1, .ref (a 6), .ref (a 7), .ref (a 8)])), ((a 1), .inl (G.2.1, 411, .inl r19.1)), ((a 2), .inl (G.2.1, 1644, .inl r19.2.1)), ((a 3), .inl (G.2.1, 411, .inl r19.2.2.1)), ((a 4), .inl (G.2.1, 411, .inl r19.2.2.2.1)), ((a 5), .inl (G.2.2.1, 60, .inl r19.2.2.2.2.2.1)), ((a 6), .inl (G.2.1, 4, .inl r19.2.2.2.2.2.2.2.2.2.1)), ((a 7), .inl (G.2.1, 4, .inl r19.2.2.2.2.2.2.2.2.2.2.1)), ((a 8), .inl (G.2.1, 4, .inl r19.2.2.2.2.2.2.2.2.2.2.2))] := hD
          refine lv_iinc (v := (x2 + (1 : Int32))) (lv' := [(2, .int (x2 + (1 : Int32))), (4, .int (ss (2 : Int32).toNatClampNeg)), (0, .ref (a 0)), (1, .int x1), (3, .int x3)]) hx hb dX6_backfills_91 hl (k := 3) rfl rfl (by decide) rfl (fun ls hl => ?_)
          refine lv_aload_n hx hb dX6_backfills_94 rfl (lv_at hl 2 rfl) ?_
          refine va_get (D := G.1) (ci := 5) (v := .ref (a 1)) (C := RX6) (T := TX6) (N := 12) hx hb hts hX6 hown hK.1 hP 0 rfl rfl 0 (by decide) (hts _ tw_588) (fun _ h9 => h9) rfl dX6_backfills_95 ?_
          refine lv_iconst (v := (2 : Int32)) hx hb dX6_backfills_98 (by decide) ?_
          refine lv_dup2_11 hx hb dX6_backfills_99 rfl rfl ?_
          obtain ⟨g21, hf⟩ := g_gdS hf
          refine va_iald hx hb hK.1 hP 1 0 rfl rfl (g_in_vp g21) dX6_backfills_100 ?_
          refine lv_iconst (v := (1 : Int32)) hx hb dX6_backfills_101 (by decide) ?_
          refine lv_iadd hx hb dX6_backfills_102 ?_
          obtain ⟨g22, hf⟩ := g_gdS hf
          refine va_iast hx hb hK.1 hP hD hS 1 0 rfl rfl (g_in_vp g22) dX6_backfills_103 (fun H locs hP hD hS => ?_)
          have hP : va_P G.1 vwCl [((a 0), .inr (5, [.ref (a 1), .ref (a 2), .ref (a 3), .ref (a 4), .int r19.2.2.2.2.1, .ref (a 5), .int r19.2.2.2.2.2.2.1, .int r19.2.2.2.2.2.2.2.1, .int r19.2.2.2.2.2.2.2.2.1, .ref (a 6), .ref (a 7), .ref (a 8)])), ((a 1), .inl (G.2.1, 411, .inl (upd r19.1 (2 : Int32).toNatClampNeg ((r19.1 (2 : Int32).toNatClampNeg) + (1 : Int32))))), ((a 2), .inl (G.2.1, 1644, .inl r19.2.1)), ((a 3), .inl (G.2.1, 411, .inl r19.2.2.1)), ((a 4), .inl (G.2.1, 411, .inl r19.2.2.2.1)), ((a 5), .inl (G.2.2.1, 60, .inl r19.2.2.2.2.2.1)), ((a 6), .inl (G.2.1, 4, .inl r19.2.2.2.2.2.2.2.2.2.1)), ((a 7), .inl (G.2.1, 4, .inl r19.2.2.2.2.2.2.2.2.2.2.1)), ((a 8), .inl (G.2.1, 4, .inl r19.2.2.2.2.2.2.2.2.2.2.2))] H := hP
          have hD : va_D (va_A w0 s.heap.size) [((a 0), .inr (5, [.ref (a 1), .ref (a 2), .ref (a 3), .ref (a 4), .int r19.2.2.2.2.1, .ref (a 5), .int r19.2.2.2.2.2.2.1, .int r19.2.2.2.2.2.2.2.1, .int r19.2.2.2.2.2.2.2.2.1, .ref (a 6), .ref (a 7), .ref (a 8)])), ((a 1), .inl (G.2.1, 411, .inl (upd r19.1 (2 : Int32).toNatClampNeg ((r19.1 (2 : Int32).toNatClampNeg) + (1 : Int32))))), ((a 2), .inl (G.2.1, 1644, .inl r19.2.1)), ((a 3), .inl (G.2.1, 411, .inl r19.2.2.1)), ((a 4), .inl (G.2.1, 411, .inl r19.2.2.2.1)), ((a 5), .inl (G.2.2.1, 60, .inl r19.2.2.2.2.2.1)), ((a 6), .inl (G.2.1, 4, .inl r19.2.2.2.2.2.2.2.2.2.1)), ((a 7), .inl (G.2.1, 4, .inl r19.2.2.2.2.2.2.2.2.2.2.1)), ((a 8), .inl (G.2.1, 4, .inl r19.2.2.2.2.2.2.2.2.2.2.2))] := hD
          refine lv_iinc (v := (x3 + (1 : Int32))) (lv' := [(3, .int (x3 + (1 : Int32))), (2, .int (x2 + (1 : Int32))), (4, .int (ss (2 : Int32).toNatClampNeg)), (0, .ref (a 0)), (1, .int x1)]) hx hb dX6_backfills_104 hl (k := 4) rfl rfl (by decide) rfl (fun ls hl => ?_)
          refine lv_goto (tgt := 41) hx hb dX6_backfills_107 (by decide) ?_
          exact ih _ _ _ _ _ _ _ _ _ _ _ _ _ _ _ _ hf _ _ hP hD hS ls (lv_sub hl [3, 4, 1, 0] rfl)
def fX6_backfills (p0 : Int32) (ss : Nat → Int32) (was : Nat → Int32) (beg : Nat → Int32) (asi : Nat → Int32) (sta : Int32) (txt : Nat → Int32) (typ : Int32) (att : Int32) (rea : Int32) (got : Nat → Int32) (row : Nat → Int32) (oth : Nat → Int32) : Option (Int32 × (Nat → Int32) × (Nat → Int32) × (Nat → Int32) × (Nat → Int32) × Int32 × (Nat → Int32) × Int32 × Int32 × Int32 × (Nat → Int32) × (Nat → Int32) × (Nat → Int32)) := ((fX6_in p0 (1 : Int32) (31 : Int32)).bind fun r1 => (if r1 = (0 : Int32) then some ((-1000001 : Int32), ss, was, beg, asi, sta, txt, typ, att, rea, got, row, oth) else g_gd (g_in (0 : Int32) 411) ((if (ss (0 : Int32).toNatClampNeg) = (1 : Int32) then g_gd (g_in (2 : Int32) 411) ((if (ss (2 : Int32).toNatClampNeg) = (31 : Int32) then some ((-1000002 : Int32), ss, was, beg, asi, sta, txt, typ, att, rea, got, row, oth) else fX6_backfills_b41 2000 p0 (0 : Int32) (0 : Int32) ss was beg asi sta txt typ att rea got row oth)) else some ((-1000002 : Int32), ss, was, beg, asi, sta, txt, typ, att, rea, got, row, oth)))))
set_option maxHeartbeats 4000000 in
set_option maxRecDepth 100000 in
theorem qX6_backfills (l : Launch) (G : gT) (a : Nat → Nat) {p0 : Int32} {ss : Nat → Int32} {was : Nat → Int32} {beg : Nat → Int32} {asi : Nat → Int32} {sta : Int32} {txt : Nat → Int32} {typ : Int32} {att : Int32} {rea : Int32} {got : Nat → Int32} {row : Nat → Int32} {oth : Nat → Int32} {u : Int32 × (Nat → Int32) × (Nat → Int32) × (Nat → Int32) × (Nat → Int32) × Int32 × (Nat → Int32) × Int32 × Int32 × Int32 × (Nat → Int32) × (Nat → Int32) × (Nat → Int32)} (hf : fX6_backfills p0 ss was beg asi sta txt typ att rea got row oth = some u) : gC l G yX6_backfills wsX6_backfills rmX6_backfills [.ref (a 0), .int p0] (modW G a ss was beg asi sta txt typ att rea got row oth) (some (.int u.1)) (modW G a u.2.1 u.2.2.1 u.2.2.2.1 u.2.2.2.2.1 u.2.2.2.2.2.1 u.2.2.2.2.2.2.1 u.2.2.2.2.2.2.2.1 u.2.2.2.2.2.2.2.2.1 u.2.2.2.2.2.2.2.2.2.1 u.2.2.2.2.2.2.2.2.2.2.1 u.2.2.2.2.2.2.2.2.2.2.2.1 u.2.2.2.2.2.2.2.2.2.2.2.2) := by
  refine gC.of (cc := cX6_backfills) (maxL := 5) (ret := (some .int)) (by decide) rfl (Nat.le_of_ble_eq_true rfl) ?_
  intro p e s m below meth c C0 hP hD hS ls hl
  obtain ⟨hx, hb, hr, hts, hown, hlocks, hml, hK⟩ := id C0
  have hl : lv_has ls 5 [(0, .ref (a 0)), (1, .int p0)] := hl
  have hA : ∀ q : Nat, s.heap.size ≤ q → va_A (modW G a ss was beg asi sta txt typ att rea got row oth) s.heap.size q := fun q h => Or.inr h
  have hP : va_P G.1 vwCl [((a 0), .inr (5, [.ref (a 1), .ref (a 2), .ref (a 3), .ref (a 4), .int sta, .ref (a 5), .int typ, .int att, .int rea, .ref (a 6), .ref (a 7), .ref (a 8)])), ((a 1), .inl (G.2.1, 411, .inl ss)), ((a 2), .inl (G.2.1, 1644, .inl was)), ((a 3), .inl (G.2.1, 411, .inl beg)), ((a 4), .inl (G.2.1, 411, .inl asi)), ((a 5), .inl (G.2.2.1, 60, .inl txt)), ((a 6), .inl (G.2.1, 4, .inl got)), ((a 7), .inl (G.2.1, 4, .inl row)), ((a 8), .inl (G.2.1, 4, .inl oth))] s.heap := hP
  have hD : va_D (va_A (modW G a ss was beg asi sta txt typ att rea got row oth) s.heap.size) [((a 0), .inr (5, [.ref (a 1), .ref (a 2), .ref (a 3), .ref (a 4), .int sta, .ref (a 5), .int typ, .int att, .int rea, .ref (a 6), .ref (a 7), .ref (a 8)])), ((a 1), .inl (G.2.1, 411, .inl ss)), ((a 2), .inl (G.2.1, 1644, .inl was)), ((a 3), .inl (G.2.1, 411, .inl beg)), ((a 4), .inl (G.2.1, 411, .inl asi)), ((a 5), .inl (G.2.2.1, 60, .inl txt)), ((a 6), .inl (G.2.1, 4, .inl got)), ((a 7), .inl (G.2.1, 4, .inl row)), ((a 8), .inl (G.2.1, 4, .inl oth))] := hD
  unfold fX6_backfills at hf
  refine lv_iload_n hx hb dX6_backfills_0 rfl (lv_at hl 1 rfl) ?_
  refine lv_iconst (v := (1 : Int32)) hx hb dX6_backfills_1 (by decide) ?_
  refine lv_bipush (v := (31 : Int32)) hx hb dX6_backfills_2 (by decide) ?_
  obtain ⟨r1, e2, hf⟩ := g_bdS hf
  refine g_contR (st1 := [.int r1]) (g_runSR (As := [.int p0, .int (1 : Int32), .int (31 : Int32)]) (rest := []) ⟨hx, hb, hml, hown, hts⟩ (qX6_in l G e2) (va_cwS 3 hts (TB_S TB_id tw_714 tw_715 tw_54 tw_716) rfl rfl rfl (by decide +kernel) ⟨Nat.le_of_ble_eq_true rfl, Nat.le_of_ble_eq_true rfl⟩) hK (hP.sub [] rfl) rfl hl.1 rfl (Nat.le_of_ble_eq_true rfl) dX6_backfills_4) rfl ?_
  refine lv_if_ne (tgt := 13) hx hb dX6_backfills_7 (by decide) (fun c3 => ?_) (fun c3 => ?_)
  · have hf := g_ifF c3 hf
    refine lv_aload_n hx hb dX6_backfills_13 rfl (lv_at hl 0 rfl) ?_
    refine va_get (D := G.1) (ci := 5) (v := .ref (a 1)) (C := RX6) (T := TX6) (N := 12) hx hb hts hX6 hown hK.1 hP 0 rfl rfl 0 (by decide) (hts _ tw_588) (fun _ h9 => h9) rfl dX6_backfills_14 ?_
    refine lv_iconst (v := (0 : Int32)) hx hb dX6_backfills_17 (by decide) ?_
    obtain ⟨g4, hf⟩ := g_gdS hf
    refine va_iald hx hb hK.1 hP 1 0 rfl rfl (g_in_vp g4) dX6_backfills_18 ?_
    refine lv_iconst (v := (1 : Int32)) hx hb dX6_backfills_19 (by decide) ?_
    refine lv_icmp_ne (tgt := 34) hx hb dX6_backfills_20 (by decide) (fun c5 => ?_) (fun c5 => ?_)
    · have hf := g_ifF c5 hf
      refine lv_ldc (v := (-1000002 : Int32)) hx hb hown (hts _ tw_630) dX6_backfills_34 ?_
      cases hf
      exact g_iretC hx hb hr hlocks hP hD hS dX6_backfills_36
    · have hf := g_ifT c5 hf
      refine lv_aload_n hx hb dX6_backfills_23 rfl (lv_at hl 0 rfl) ?_
      refine va_get (D := G.1) (ci := 5) (v := .ref (a 1)) (C := RX6) (T := TX6) (N := 12) hx hb hts hX6 hown hK.1 hP 0 rfl rfl 0 (by decide) (hts _ tw_588) (fun _ h9 => h9) rfl dX6_backfills_24 ?_
      refine lv_iconst (v := (2 : Int32)) hx hb dX6_backfills_27 (by decide) ?_
      obtain ⟨g6, hf⟩ := g_gdS hf
      refine va_iald hx hb hK.1 hP 1 0 rfl rfl (g_in_vp g6) dX6_backfills_28 ?_
      refine lv_bipush (v := (31 : Int32)) hx hb dX6_backfills_29 (by decide) ?_
      refine lv_icmp_ne (tgt := 37) hx hb dX6_backfills_31 (by decide) (fun c7 => ?_) (fun c7 => ?_)
      · have hf := g_ifF c7 hf
        refine lv_iconst (v := (0 : Int32)) hx hb dX6_backfills_37 (by decide) ?_
        refine lv_istore_n (lv' := [(2, .int (0 : Int32)), (0, .ref (a 0)), (1, .int p0)]) hx hb dX6_backfills_38 rfl hl (by decide) rfl (fun ls hl => ?_)
        refine lv_iconst (v := (0 : Int32)) hx hb dX6_backfills_39 (by decide) ?_
        refine lv_istore_n (lv' := [(3, .int (0 : Int32)), (2, .int (0 : Int32)), (0, .ref (a 0)), (1, .int p0)]) hx hb dX6_backfills_40 rfl hl (by decide) rfl (fun ls hl => ?_)
        exact kX6_backfills_b41 C0 2000 _ _ _ _ _ _ _ _ _ _ _ _ _ _ _ _ hf _ _ hP hD hS ls (lv_sub hl [2, 3, 1, 0] rfl)
      · have hf := g_ifT c7 hf
        refine lv_ldc (v := (-1000002 : Int32)) hx hb hown (hts _ tw_630) dX6_backfills_34 ?_
        cases hf
        exact g_iretC hx hb hr hlocks hP hD hS dX6_backfills_36
  · have hf := g_ifT c3 hf
    refine lv_ldc (v := (-1000001 : Int32)) hx hb hown (hts _ tw_654) dX6_backfills_10 ?_
    cases hf
    exact g_iretC hx hb hr hlocks hP hD hS dX6_backfills_12
-- TwoShapesModel.backfill(I)I
abbrev rmX6_backfill : Room := { frames := 5, cells := 0, slots := 0, locals := 113 }
def fX6_backfill (p0 : Int32) (ss : Nat → Int32) (was : Nat → Int32) (beg : Nat → Int32) (asi : Nat → Int32) (sta : Int32) (txt : Nat → Int32) (typ : Int32) (att : Int32) (rea : Int32) (got : Nat → Int32) (row : Nat → Int32) (oth : Nat → Int32) : Option (Int32 × (Nat → Int32) × (Nat → Int32) × (Nat → Int32) × (Nat → Int32) × Int32 × (Nat → Int32) × Int32 × Int32 × Int32 × (Nat → Int32) × (Nat → Int32) × (Nat → Int32)) := ((fX6_keeps ss was beg asi sta txt typ att rea got row oth).bind fun r1 => ((fX6_backfills p0 r1.1 r1.2.1 r1.2.2.1 r1.2.2.2.1 r1.2.2.2.2.1 r1.2.2.2.2.2.1 r1.2.2.2.2.2.2.1 r1.2.2.2.2.2.2.2.1 r1.2.2.2.2.2.2.2.2.1 r1.2.2.2.2.2.2.2.2.2.1 r1.2.2.2.2.2.2.2.2.2.2.1 r1.2.2.2.2.2.2.2.2.2.2.2).bind fun r3 => ((fX6_acted r3.1 r3.2.1 r3.2.2.1 r3.2.2.2.1 r3.2.2.2.2.1 r3.2.2.2.2.2.1 r3.2.2.2.2.2.2.1 r3.2.2.2.2.2.2.2.1 r3.2.2.2.2.2.2.2.2.1 r3.2.2.2.2.2.2.2.2.2.1 r3.2.2.2.2.2.2.2.2.2.2.1 r3.2.2.2.2.2.2.2.2.2.2.2.1 r3.2.2.2.2.2.2.2.2.2.2.2.2).bind fun r5 => some (r5.1, r5.2.1, r5.2.2.1, r5.2.2.2.1, r5.2.2.2.2.1, r5.2.2.2.2.2.1, r5.2.2.2.2.2.2.1, r5.2.2.2.2.2.2.2.1, r5.2.2.2.2.2.2.2.2.1, r5.2.2.2.2.2.2.2.2.2.1, r5.2.2.2.2.2.2.2.2.2.2.1, r5.2.2.2.2.2.2.2.2.2.2.2.1, r5.2.2.2.2.2.2.2.2.2.2.2.2))))
set_option maxHeartbeats 4000000 in
set_option maxRecDepth 100000 in
theorem qX6_backfill (l : Launch) (G : gT) (a : Nat → Nat) {p0 : Int32} {ss : Nat → Int32} {was : Nat → Int32} {beg : Nat → Int32} {asi : Nat → Int32} {sta : Int32} {txt : Nat → Int32} {typ : Int32} {att : Int32} {rea : Int32} {got : Nat → Int32} {row : Nat → Int32} {oth : Nat → Int32} {u : Int32 × (Nat → Int32) × (Nat → Int32) × (Nat → Int32) × (Nat → Int32) × Int32 × (Nat → Int32) × Int32 × Int32 × Int32 × (Nat → Int32) × (Nat → Int32) × (Nat → Int32)} (hf : fX6_backfill p0 ss was beg asi sta txt typ att rea got row oth = some u) : gC l G yX6_backfill wsX6_backfill rmX6_backfill [.ref (a 0), .int p0] (modW G a ss was beg asi sta txt typ att rea got row oth) (some (.int u.1)) (modW G a u.2.1 u.2.2.1 u.2.2.2.1 u.2.2.2.2.1 u.2.2.2.2.2.1 u.2.2.2.2.2.2.1 u.2.2.2.2.2.2.2.1 u.2.2.2.2.2.2.2.2.1 u.2.2.2.2.2.2.2.2.2.1 u.2.2.2.2.2.2.2.2.2.2.1 u.2.2.2.2.2.2.2.2.2.2.2.1 u.2.2.2.2.2.2.2.2.2.2.2.2) := by
  refine gC.of (cc := cX6_backfill) (maxL := 2) (ret := (some .int)) (by decide) rfl (Nat.le_of_ble_eq_true rfl) ?_
  intro p e s m below meth c C0 hP hD hS ls hl
  obtain ⟨hx, hb, hr, hts, hown, hlocks, hml, hK⟩ := id C0
  have hl : lv_has ls 2 [(0, .ref (a 0)), (1, .int p0)] := hl
  have hA : ∀ q : Nat, s.heap.size ≤ q → va_A (modW G a ss was beg asi sta txt typ att rea got row oth) s.heap.size q := fun q h => Or.inr h
  have hP : va_P G.1 vwCl [((a 0), .inr (5, [.ref (a 1), .ref (a 2), .ref (a 3), .ref (a 4), .int sta, .ref (a 5), .int typ, .int att, .int rea, .ref (a 6), .ref (a 7), .ref (a 8)])), ((a 1), .inl (G.2.1, 411, .inl ss)), ((a 2), .inl (G.2.1, 1644, .inl was)), ((a 3), .inl (G.2.1, 411, .inl beg)), ((a 4), .inl (G.2.1, 411, .inl asi)), ((a 5), .inl (G.2.2.1, 60, .inl txt)), ((a 6), .inl (G.2.1, 4, .inl got)), ((a 7), .inl (G.2.1, 4, .inl row)), ((a 8), .inl (G.2.1, 4, .inl oth))] s.heap := hP
  have hD : va_D (va_A (modW G a ss was beg asi sta txt typ att rea got row oth) s.heap.size) [((a 0), .inr (5, [.ref (a 1), .ref (a 2), .ref (a 3), .ref (a 4), .int sta, .ref (a 5), .int typ, .int att, .int rea, .ref (a 6), .ref (a 7), .ref (a 8)])), ((a 1), .inl (G.2.1, 411, .inl ss)), ((a 2), .inl (G.2.1, 1644, .inl was)), ((a 3), .inl (G.2.1, 411, .inl beg)), ((a 4), .inl (G.2.1, 411, .inl asi)), ((a 5), .inl (G.2.2.1, 60, .inl txt)), ((a 6), .inl (G.2.1, 4, .inl got)), ((a 7), .inl (G.2.1, 4, .inl row)), ((a 8), .inl (G.2.1, 4, .inl oth))] := hD
  unfold fX6_backfill at hf
  refine lv_aload_n hx hb dX6_backfill_0 rfl (lv_at hl 0 rfl) ?_
  obtain ⟨r1, e2, hf⟩ := g_bdS hf
  refine g_contC (st1 := []) (g_runVC (As := []) (rest := []) ⟨hx, hb, hml, hown, hts⟩ (qX6_keeps l G a e2) (cwV 0 hts (TB_V TB_id tw_631 tw_633 tw_9 tw_54 tw_634) rfl rfl rfl (by decide +kernel) ⟨Nat.le_of_ble_eq_true rfl, Nat.le_of_ble_eq_true rfl⟩) hK (hP.sub [0, 1, 2, 3, 4, 5, 6, 7, 8] rfl) (hD.sub [0, 1, 2, 3, 4, 5, 6, 7, 8] (by decide) rfl) 0 rfl rfl rfl hl.1 rfl (Nat.le_of_ble_eq_true rfl) dX6_backfill_1) rfl hP hD hS hA [0, 1, 2, 3, 4, 5, 6, 7, 8] rfl rfl (fun H locs hP hD hS => ?_)
  have hP : va_P G.1 vwCl [((a 0), .inr (5, [.ref (a 1), .ref (a 2), .ref (a 3), .ref (a 4), .int r1.2.2.2.2.1, .ref (a 5), .int r1.2.2.2.2.2.2.1, .int r1.2.2.2.2.2.2.2.1, .int r1.2.2.2.2.2.2.2.2.1, .ref (a 6), .ref (a 7), .ref (a 8)])), ((a 1), .inl (G.2.1, 411, .inl r1.1)), ((a 2), .inl (G.2.1, 1644, .inl r1.2.1)), ((a 3), .inl (G.2.1, 411, .inl r1.2.2.1)), ((a 4), .inl (G.2.1, 411, .inl r1.2.2.2.1)), ((a 5), .inl (G.2.2.1, 60, .inl r1.2.2.2.2.2.1)), ((a 6), .inl (G.2.1, 4, .inl r1.2.2.2.2.2.2.2.2.2.1)), ((a 7), .inl (G.2.1, 4, .inl r1.2.2.2.2.2.2.2.2.2.2.1)), ((a 8), .inl (G.2.1, 4, .inl r1.2.2.2.2.2.2.2.2.2.2.2))] H := hP
  have hD : va_D (va_A (modW G a ss was beg asi sta txt typ att rea got row oth) s.heap.size) [((a 0), .inr (5, [.ref (a 1), .ref (a 2), .ref (a 3), .ref (a 4), .int r1.2.2.2.2.1, .ref (a 5), .int r1.2.2.2.2.2.2.1, .int r1.2.2.2.2.2.2.2.1, .int r1.2.2.2.2.2.2.2.2.1, .ref (a 6), .ref (a 7), .ref (a 8)])), ((a 1), .inl (G.2.1, 411, .inl r1.1)), ((a 2), .inl (G.2.1, 1644, .inl r1.2.1)), ((a 3), .inl (G.2.1, 411, .inl r1.2.2.1)), ((a 4), .inl (G.2.1, 411, .inl r1.2.2.2.1)), ((a 5), .inl (G.2.2.1, 60, .inl r1.2.2.2.2.2.1)), ((a 6), .inl (G.2.1, 4, .inl r1.2.2.2.2.2.2.2.2.2.1)), ((a 7), .inl (G.2.1, 4, .inl r1.2.2.2.2.2.2.2.2.2.2.1)), ((a 8), .inl (G.2.1, 4, .inl r1.2.2.2.2.2.2.2.2.2.2.2))] := hD
  refine lv_aload_n hx hb dX6_backfill_4 rfl (lv_at hl 0 rfl) ?_
  refine lv_aload_n hx hb dX6_backfill_5 rfl (lv_at hl 0 rfl) ?_
  refine lv_iload_n hx hb dX6_backfill_6 rfl (lv_at hl 1 rfl) ?_
  obtain ⟨r3, e4, hf⟩ := g_bdS hf
  refine g_contC (st1 := [.int r3.1, .ref (a 0)]) (g_runVC (As := [.int p0]) (rest := [.ref (a 0)]) ⟨hx, hb, hml, hown, hts⟩ (qX6_backfills l G a e4) (cwV 1 hts (TB_V TB_id tw_767 tw_769 tw_32 tw_54 tw_770) rfl rfl rfl (by decide +kernel) ⟨Nat.le_of_ble_eq_true rfl, Nat.le_of_ble_eq_true rfl⟩) hK (hP.sub [0, 1, 2, 3, 4, 5, 6, 7, 8] rfl) (hD.sub [0, 1, 2, 3, 4, 5, 6, 7, 8] (by decide) rfl) 0 rfl rfl rfl hl.1 rfl (Nat.le_of_ble_eq_true rfl) dX6_backfill_7) rfl hP hD hS hA [0, 1, 2, 3, 4, 5, 6, 7, 8] rfl rfl (fun H locs hP hD hS => ?_)
  have hP : va_P G.1 vwCl [((a 0), .inr (5, [.ref (a 1), .ref (a 2), .ref (a 3), .ref (a 4), .int r3.2.2.2.2.2.1, .ref (a 5), .int r3.2.2.2.2.2.2.2.1, .int r3.2.2.2.2.2.2.2.2.1, .int r3.2.2.2.2.2.2.2.2.2.1, .ref (a 6), .ref (a 7), .ref (a 8)])), ((a 1), .inl (G.2.1, 411, .inl r3.2.1)), ((a 2), .inl (G.2.1, 1644, .inl r3.2.2.1)), ((a 3), .inl (G.2.1, 411, .inl r3.2.2.2.1)), ((a 4), .inl (G.2.1, 411, .inl r3.2.2.2.2.1)), ((a 5), .inl (G.2.2.1, 60, .inl r3.2.2.2.2.2.2.1)), ((a 6), .inl (G.2.1, 4, .inl r3.2.2.2.2.2.2.2.2.2.2.1)), ((a 7), .inl (G.2.1, 4, .inl r3.2.2.2.2.2.2.2.2.2.2.2.1)), ((a 8), .inl (G.2.1, 4, .inl r3.2.2.2.2.2.2.2.2.2.2.2.2))] H := hP
  have hD : va_D (va_A (modW G a ss was beg asi sta txt typ att rea got row oth) s.heap.size) [((a 0), .inr (5, [.ref (a 1), .ref (a 2), .ref (a 3), .ref (a 4), .int r3.2.2.2.2.2.1, .ref (a 5), .int r3.2.2.2.2.2.2.2.1, .int r3.2.2.2.2.2.2.2.2.1, .int r3.2.2.2.2.2.2.2.2.2.1, .ref (a 6), .ref (a 7), .ref (a 8)])), ((a 1), .inl (G.2.1, 411, .inl r3.2.1)), ((a 2), .inl (G.2.1, 1644, .inl r3.2.2.1)), ((a 3), .inl (G.2.1, 411, .inl r3.2.2.2.1)), ((a 4), .inl (G.2.1, 411, .inl r3.2.2.2.2.1)), ((a 5), .inl (G.2.2.1, 60, .inl r3.2.2.2.2.2.2.1)), ((a 6), .inl (G.2.1, 4, .inl r3.2.2.2.2.2.2.2.2.2.2.1)), ((a 7), .inl (G.2.1, 4, .inl r3.2.2.2.2.2.2.2.2.2.2.2.1)), ((a 8), .inl (G.2.1, 4, .inl r3.2.2.2.2.2.2.2.2.2.2.2.2))] := hD
  obtain ⟨r5, e6, hf⟩ := g_bdS hf
  refine g_contC (st1 := [.int r5.1]) (g_runVC (As := [.int r3.1]) (rest := []) ⟨hx, hb, hml, hown, hts⟩ (qX6_acted l G a e6) (cwV 1 hts (TB_V TB_id tw_650 tw_652 tw_13 tw_54 tw_653) rfl rfl rfl (by decide +kernel) ⟨Nat.le_of_ble_eq_true rfl, Nat.le_of_ble_eq_true rfl⟩) hK (hP.sub [0, 1, 2, 3, 4, 5, 6, 7, 8] rfl) (hD.sub [0, 1, 2, 3, 4, 5, 6, 7, 8] (by decide) rfl) 0 rfl rfl rfl hl.1 rfl (Nat.le_of_ble_eq_true rfl) dX6_backfill_10) rfl hP hD hS hA [0, 1, 2, 3, 4, 5, 6, 7, 8] rfl rfl (fun H locs hP hD hS => ?_)
  have hP : va_P G.1 vwCl [((a 0), .inr (5, [.ref (a 1), .ref (a 2), .ref (a 3), .ref (a 4), .int r5.2.2.2.2.2.1, .ref (a 5), .int r5.2.2.2.2.2.2.2.1, .int r5.2.2.2.2.2.2.2.2.1, .int r5.2.2.2.2.2.2.2.2.2.1, .ref (a 6), .ref (a 7), .ref (a 8)])), ((a 1), .inl (G.2.1, 411, .inl r5.2.1)), ((a 2), .inl (G.2.1, 1644, .inl r5.2.2.1)), ((a 3), .inl (G.2.1, 411, .inl r5.2.2.2.1)), ((a 4), .inl (G.2.1, 411, .inl r5.2.2.2.2.1)), ((a 5), .inl (G.2.2.1, 60, .inl r5.2.2.2.2.2.2.1)), ((a 6), .inl (G.2.1, 4, .inl r5.2.2.2.2.2.2.2.2.2.2.1)), ((a 7), .inl (G.2.1, 4, .inl r5.2.2.2.2.2.2.2.2.2.2.2.1)), ((a 8), .inl (G.2.1, 4, .inl r5.2.2.2.2.2.2.2.2.2.2.2.2))] H := hP
  have hD : va_D (va_A (modW G a ss was beg asi sta txt typ att rea got row oth) s.heap.size) [((a 0), .inr (5, [.ref (a 1), .ref (a 2), .ref (a 3), .ref (a 4), .int r5.2.2.2.2.2.1, .ref (a 5), .int r5.2.2.2.2.2.2.2.1, .int r5.2.2.2.2.2.2.2.2.1, .int r5.2.2.2.2.2.2.2.2.2.1, .ref (a 6), .ref (a 7), .ref (a 8)])), ((a 1), .inl (G.2.1, 411, .inl r5.2.1)), ((a 2), .inl (G.2.1, 1644, .inl r5.2.2.1)), ((a 3), .inl (G.2.1, 411, .inl r5.2.2.2.1)), ((a 4), .inl (G.2.1, 411, .inl r5.2.2.2.2.1)), ((a 5), .inl (G.2.2.1, 60, .inl r5.2.2.2.2.2.2.1)), ((a 6), .inl (G.2.1, 4, .inl r5.2.2.2.2.2.2.2.2.2.2.1)), ((a 7), .inl (G.2.1, 4, .inl r5.2.2.2.2.2.2.2.2.2.2.2.1)), ((a 8), .inl (G.2.1, 4, .inl r5.2.2.2.2.2.2.2.2.2.2.2.2))] := hD
  cases hf
  exact g_iretC hx hb hr hlocks hP hD hS dX6_backfill_13
-- TwoShapesModel.crash()I
abbrev rmX6_crash : Room := { frames := 1, cells := 0, slots := 0, locals := 22 }
def fX6_crash (ss : Nat → Int32) (was : Nat → Int32) (beg : Nat → Int32) (asi : Nat → Int32) (sta : Int32) (txt : Nat → Int32) (typ : Int32) (att : Int32) (rea : Int32) (got : Nat → Int32) (row : Nat → Int32) (oth : Nat → Int32) : Option (Int32 × (Nat → Int32) × (Nat → Int32) × (Nat → Int32) × (Nat → Int32) × Int32 × (Nat → Int32) × Int32 × Int32 × Int32 × (Nat → Int32) × (Nat → Int32) × (Nat → Int32)) := g_gd (g_in (3 : Int32) 411) ((if (ss (3 : Int32).toNatClampNeg) = (0 : Int32) then some ((-1000002 : Int32), ss, was, beg, asi, sta, txt, typ, att, rea, got, row, oth) else ((fX6_keeps ss was beg asi sta txt typ att rea got row oth).bind fun r3 => g_gd (g_in (3 : Int32) 411) (g_gd (g_in (4 : Int32) 411) (g_gd (g_in (4 : Int32) 411) (g_gd (g_in (3 : Int32) 411) (((fX6_acted (r3.1 (3 : Int32).toNatClampNeg) (upd (upd r3.1 (4 : Int32).toNatClampNeg ((r3.1 (4 : Int32).toNatClampNeg) + (r3.1 (3 : Int32).toNatClampNeg))) (3 : Int32).toNatClampNeg (0 : Int32)) r3.2.1 r3.2.2.1 r3.2.2.2.1 r3.2.2.2.2.1 r3.2.2.2.2.2.1 r3.2.2.2.2.2.2.1 r3.2.2.2.2.2.2.2.1 r3.2.2.2.2.2.2.2.2.1 r3.2.2.2.2.2.2.2.2.2.1 r3.2.2.2.2.2.2.2.2.2.2.1 r3.2.2.2.2.2.2.2.2.2.2.2).bind fun r9 => some (r9.1, r9.2.1, r9.2.2.1, r9.2.2.2.1, r9.2.2.2.2.1, r9.2.2.2.2.2.1, r9.2.2.2.2.2.2.1, r9.2.2.2.2.2.2.2.1, r9.2.2.2.2.2.2.2.2.1, r9.2.2.2.2.2.2.2.2.2.1, r9.2.2.2.2.2.2.2.2.2.2.1, r9.2.2.2.2.2.2.2.2.2.2.2.1, r9.2.2.2.2.2.2.2.2.2.2.2.2)))))))))
set_option maxHeartbeats 4000000 in
set_option maxRecDepth 100000 in
theorem qX6_crash (l : Launch) (G : gT) (a : Nat → Nat) {ss : Nat → Int32} {was : Nat → Int32} {beg : Nat → Int32} {asi : Nat → Int32} {sta : Int32} {txt : Nat → Int32} {typ : Int32} {att : Int32} {rea : Int32} {got : Nat → Int32} {row : Nat → Int32} {oth : Nat → Int32} {u : Int32 × (Nat → Int32) × (Nat → Int32) × (Nat → Int32) × (Nat → Int32) × Int32 × (Nat → Int32) × Int32 × Int32 × Int32 × (Nat → Int32) × (Nat → Int32) × (Nat → Int32)} (hf : fX6_crash ss was beg asi sta txt typ att rea got row oth = some u) : gC l G yX6_crash wsX6_crash rmX6_crash [.ref (a 0)] (modW G a ss was beg asi sta txt typ att rea got row oth) (some (.int u.1)) (modW G a u.2.1 u.2.2.1 u.2.2.2.1 u.2.2.2.2.1 u.2.2.2.2.2.1 u.2.2.2.2.2.2.1 u.2.2.2.2.2.2.2.1 u.2.2.2.2.2.2.2.2.1 u.2.2.2.2.2.2.2.2.2.1 u.2.2.2.2.2.2.2.2.2.2.1 u.2.2.2.2.2.2.2.2.2.2.2.1 u.2.2.2.2.2.2.2.2.2.2.2.2) := by
  refine gC.of (cc := cX6_crash) (maxL := 2) (ret := (some .int)) (by decide) rfl (Nat.le_of_ble_eq_true rfl) ?_
  intro p e s m below meth c C0 hP hD hS ls hl
  obtain ⟨hx, hb, hr, hts, hown, hlocks, hml, hK⟩ := id C0
  have hl : lv_has ls 2 [(0, .ref (a 0))] := hl
  have hA : ∀ q : Nat, s.heap.size ≤ q → va_A (modW G a ss was beg asi sta txt typ att rea got row oth) s.heap.size q := fun q h => Or.inr h
  have hP : va_P G.1 vwCl [((a 0), .inr (5, [.ref (a 1), .ref (a 2), .ref (a 3), .ref (a 4), .int sta, .ref (a 5), .int typ, .int att, .int rea, .ref (a 6), .ref (a 7), .ref (a 8)])), ((a 1), .inl (G.2.1, 411, .inl ss)), ((a 2), .inl (G.2.1, 1644, .inl was)), ((a 3), .inl (G.2.1, 411, .inl beg)), ((a 4), .inl (G.2.1, 411, .inl asi)), ((a 5), .inl (G.2.2.1, 60, .inl txt)), ((a 6), .inl (G.2.1, 4, .inl got)), ((a 7), .inl (G.2.1, 4, .inl row)), ((a 8), .inl (G.2.1, 4, .inl oth))] s.heap := hP
  have hD : va_D (va_A (modW G a ss was beg asi sta txt typ att rea got row oth) s.heap.size) [((a 0), .inr (5, [.ref (a 1), .ref (a 2), .ref (a 3), .ref (a 4), .int sta, .ref (a 5), .int typ, .int att, .int rea, .ref (a 6), .ref (a 7), .ref (a 8)])), ((a 1), .inl (G.2.1, 411, .inl ss)), ((a 2), .inl (G.2.1, 1644, .inl was)), ((a 3), .inl (G.2.1, 411, .inl beg)), ((a 4), .inl (G.2.1, 411, .inl asi)), ((a 5), .inl (G.2.2.1, 60, .inl txt)), ((a 6), .inl (G.2.1, 4, .inl got)), ((a 7), .inl (G.2.1, 4, .inl row)), ((a 8), .inl (G.2.1, 4, .inl oth))] := hD
  unfold fX6_crash at hf
  refine lv_aload_n hx hb dX6_crash_0 rfl (lv_at hl 0 rfl) ?_
  refine va_get (D := G.1) (ci := 5) (v := .ref (a 1)) (C := RX6) (T := TX6) (N := 12) hx hb hts hX6 hown hK.1 hP 0 rfl rfl 0 (by decide) (hts _ tw_588) (fun _ h9 => h9) rfl dX6_crash_1 ?_
  refine lv_iconst (v := (3 : Int32)) hx hb dX6_crash_4 (by decide) ?_
  obtain ⟨g1, hf⟩ := g_gdS hf
  refine va_iald hx hb hK.1 hP 1 0 rfl rfl (g_in_vp g1) dX6_crash_5 ?_
  refine lv_if_ne (tgt := 12) hx hb dX6_crash_6 (by decide) (fun c2 => ?_) (fun c2 => ?_)
  · have hf := g_ifF c2 hf
    refine lv_aload_n hx hb dX6_crash_12 rfl (lv_at hl 0 rfl) ?_
    obtain ⟨r3, e4, hf⟩ := g_bdS hf
    refine g_contC (st1 := []) (g_runVC (As := []) (rest := []) ⟨hx, hb, hml, hown, hts⟩ (qX6_keeps l G a e4) (cwV 0 hts (TB_V TB_id tw_631 tw_633 tw_9 tw_54 tw_634) rfl rfl rfl (by decide +kernel) ⟨Nat.le_of_ble_eq_true rfl, Nat.le_of_ble_eq_true rfl⟩) hK (hP.sub [0, 1, 2, 3, 4, 5, 6, 7, 8] rfl) (hD.sub [0, 1, 2, 3, 4, 5, 6, 7, 8] (by decide) rfl) 0 rfl rfl rfl hl.1 rfl (Nat.le_of_ble_eq_true rfl) dX6_crash_13) rfl hP hD hS hA [0, 1, 2, 3, 4, 5, 6, 7, 8] rfl rfl (fun H locs hP hD hS => ?_)
    have hP : va_P G.1 vwCl [((a 0), .inr (5, [.ref (a 1), .ref (a 2), .ref (a 3), .ref (a 4), .int r3.2.2.2.2.1, .ref (a 5), .int r3.2.2.2.2.2.2.1, .int r3.2.2.2.2.2.2.2.1, .int r3.2.2.2.2.2.2.2.2.1, .ref (a 6), .ref (a 7), .ref (a 8)])), ((a 1), .inl (G.2.1, 411, .inl r3.1)), ((a 2), .inl (G.2.1, 1644, .inl r3.2.1)), ((a 3), .inl (G.2.1, 411, .inl r3.2.2.1)), ((a 4), .inl (G.2.1, 411, .inl r3.2.2.2.1)), ((a 5), .inl (G.2.2.1, 60, .inl r3.2.2.2.2.2.1)), ((a 6), .inl (G.2.1, 4, .inl r3.2.2.2.2.2.2.2.2.2.1)), ((a 7), .inl (G.2.1, 4, .inl r3.2.2.2.2.2.2.2.2.2.2.1)), ((a 8), .inl (G.2.1, 4, .inl r3.2.2.2.2.2.2.2.2.2.2.2))] H := hP
    have hD : va_D (va_A (modW G a ss was beg asi sta txt typ att rea got row oth) s.heap.size) [((a 0), .inr (5, [.ref (a 1), .ref (a 2), .ref (a 3), .ref (a 4), .int r3.2.2.2.2.1, .ref (a 5), .int r3.2.2.2.2.2.2.1, .int r3.2.2.2.2.2.2.2.1, .int r3.2.2.2.2.2.2.2.2.1, .ref (a 6), .ref (a 7), .ref (a 8)])), ((a 1), .inl (G.2.1, 411, .inl r3.1)), ((a 2), .inl (G.2.1, 1644, .inl r3.2.1)), ((a 3), .inl (G.2.1, 411, .inl r3.2.2.1)), ((a 4), .inl (G.2.1, 411, .inl r3.2.2.2.1)), ((a 5), .inl (G.2.2.1, 60, .inl r3.2.2.2.2.2.1)), ((a 6), .inl (G.2.1, 4, .inl r3.2.2.2.2.2.2.2.2.2.1)), ((a 7), .inl (G.2.1, 4, .inl r3.2.2.2.2.2.2.2.2.2.2.1)), ((a 8), .inl (G.2.1, 4, .inl r3.2.2.2.2.2.2.2.2.2.2.2))] := hD
    refine lv_aload_n hx hb dX6_crash_16 rfl (lv_at hl 0 rfl) ?_
    refine va_get (D := G.1) (ci := 5) (v := .ref (a 1)) (C := RX6) (T := TX6) (N := 12) hx hb hts hX6 hown hK.1 hP 0 rfl rfl 0 (by decide) (hts _ tw_588) (fun _ h9 => h9) rfl dX6_crash_17 ?_
    refine lv_iconst (v := (3 : Int32)) hx hb dX6_crash_20 (by decide) ?_
    obtain ⟨g5, hf⟩ := g_gdS hf
    refine va_iald hx hb hK.1 hP 1 0 rfl rfl (g_in_vp g5) dX6_crash_21 ?_
    refine lv_istore_n (lv' := [(1, .int (r3.1 (3 : Int32).toNatClampNeg)), (0, .ref (a 0))]) hx hb dX6_crash_22 rfl hl (by decide) rfl (fun ls hl => ?_)
    refine lv_aload_n hx hb dX6_crash_23 rfl (lv_at hl 1 rfl) ?_
    refine va_get (D := G.1) (ci := 5) (v := .ref (a 1)) (C := RX6) (T := TX6) (N := 12) hx hb hts hX6 hown hK.1 hP 0 rfl rfl 0 (by decide) (hts _ tw_588) (fun _ h9 => h9) rfl dX6_crash_24 ?_
    refine lv_iconst (v := (4 : Int32)) hx hb dX6_crash_27 (by decide) ?_
    refine lv_dup2_11 hx hb dX6_crash_28 rfl rfl ?_
    obtain ⟨g6, hf⟩ := g_gdS hf
    refine va_iald hx hb hK.1 hP 1 0 rfl rfl (g_in_vp g6) dX6_crash_29 ?_
    refine lv_iload_n hx hb dX6_crash_30 rfl (lv_at hl 0 rfl) ?_
    refine lv_iadd hx hb dX6_crash_31 ?_
    obtain ⟨g7, hf⟩ := g_gdS hf
    refine va_iast hx hb hK.1 hP hD hS 1 0 rfl rfl (g_in_vp g7) dX6_crash_32 (fun H locs hP hD hS => ?_)
    have hP : va_P G.1 vwCl [((a 0), .inr (5, [.ref (a 1), .ref (a 2), .ref (a 3), .ref (a 4), .int r3.2.2.2.2.1, .ref (a 5), .int r3.2.2.2.2.2.2.1, .int r3.2.2.2.2.2.2.2.1, .int r3.2.2.2.2.2.2.2.2.1, .ref (a 6), .ref (a 7), .ref (a 8)])), ((a 1), .inl (G.2.1, 411, .inl (upd r3.1 (4 : Int32).toNatClampNeg ((r3.1 (4 : Int32).toNatClampNeg) + (r3.1 (3 : Int32).toNatClampNeg))))), ((a 2), .inl (G.2.1, 1644, .inl r3.2.1)), ((a 3), .inl (G.2.1, 411, .inl r3.2.2.1)), ((a 4), .inl (G.2.1, 411, .inl r3.2.2.2.1)), ((a 5), .inl (G.2.2.1, 60, .inl r3.2.2.2.2.2.1)), ((a 6), .inl (G.2.1, 4, .inl r3.2.2.2.2.2.2.2.2.2.1)), ((a 7), .inl (G.2.1, 4, .inl r3.2.2.2.2.2.2.2.2.2.2.1)), ((a 8), .inl (G.2.1, 4, .inl r3.2.2.2.2.2.2.2.2.2.2.2))] H := hP
    have hD : va_D (va_A (modW G a ss was beg asi sta txt typ att rea got row oth) s.heap.size) [((a 0), .inr (5, [.ref (a 1), .ref (a 2), .ref (a 3), .ref (a 4), .int r3.2.2.2.2.1, .ref (a 5), .int r3.2.2.2.2.2.2.1, .int r3.2.2.2.2.2.2.2.1, .int r3.2.2.2.2.2.2.2.2.1, .ref (a 6), .ref (a 7), .ref (a 8)])), ((a 1), .inl (G.2.1, 411, .inl (upd r3.1 (4 : Int32).toNatClampNeg ((r3.1 (4 : Int32).toNatClampNeg) + (r3.1 (3 : Int32).toNatClampNeg))))), ((a 2), .inl (G.2.1, 1644, .inl r3.2.1)), ((a 3), .inl (G.2.1, 411, .inl r3.2.2.1)), ((a 4), .inl (G.2.1, 411, .inl r3.2.2.2.1)), ((a 5), .inl (G.2.2.1, 60, .inl r3.2.2.2.2.2.1)), ((a 6), .inl (G.2.1, 4, .inl r3.2.2.2.2.2.2.2.2.2.1)), ((a 7), .inl (G.2.1, 4, .inl r3.2.2.2.2.2.2.2.2.2.2.1)), ((a 8), .inl (G.2.1, 4, .inl r3.2.2.2.2.2.2.2.2.2.2.2))] := hD
    refine lv_aload_n hx hb dX6_crash_33 rfl (lv_at hl 1 rfl) ?_
    refine va_get (D := G.1) (ci := 5) (v := .ref (a 1)) (C := RX6) (T := TX6) (N := 12) hx hb hts hX6 hown hK.1 hP 0 rfl rfl 0 (by decide) (hts _ tw_588) (fun _ h9 => h9) rfl dX6_crash_34 ?_
    refine lv_iconst (v := (3 : Int32)) hx hb dX6_crash_37 (by decide) ?_
    refine lv_iconst (v := (0 : Int32)) hx hb dX6_crash_38 (by decide) ?_
    obtain ⟨g8, hf⟩ := g_gdS hf
    refine va_iast hx hb hK.1 hP hD hS 1 0 rfl rfl (g_in_vp g8) dX6_crash_39 (fun H locs hP hD hS => ?_)
    have hP : va_P G.1 vwCl [((a 0), .inr (5, [.ref (a 1), .ref (a 2), .ref (a 3), .ref (a 4), .int r3.2.2.2.2.1, .ref (a 5), .int r3.2.2.2.2.2.2.1, .int r3.2.2.2.2.2.2.2.1, .int r3.2.2.2.2.2.2.2.2.1, .ref (a 6), .ref (a 7), .ref (a 8)])), ((a 1), .inl (G.2.1, 411, .inl (upd (upd r3.1 (4 : Int32).toNatClampNeg ((r3.1 (4 : Int32).toNatClampNeg) + (r3.1 (3 : Int32).toNatClampNeg))) (3 : Int32).toNatClampNeg (0 : Int32)))), ((a 2), .inl (G.2.1, 1644, .inl r3.2.1)), ((a 3), .inl (G.2.1, 411, .inl r3.2.2.1)), ((a 4), .inl (G.2.1, 411, .inl r3.2.2.2.1)), ((a 5), .inl (G.2.2.1, 60, .inl r3.2.2.2.2.2.1)), ((a 6), .inl (G.2.1, 4, .inl r3.2.2.2.2.2.2.2.2.2.1)), ((a 7), .inl (G.2.1, 4, .inl r3.2.2.2.2.2.2.2.2.2.2.1)), ((a 8), .inl (G.2.1, 4, .inl r3.2.2.2.2.2.2.2.2.2.2.2))] H := hP
    have hD : va_D (va_A (modW G a ss was beg asi sta txt typ att rea got row oth) s.heap.size) [((a 0), .inr (5, [.ref (a 1), .ref (a 2), .ref (a 3), .ref (a 4), .int r3.2.2.2.2.1, .ref (a 5), .int r3.2.2.2.2.2.2.1, .int r3.2.2.2.2.2.2.2.1, .int r3.2.2.2.2.2.2.2.2.1, .ref (a 6), .ref (a 7), .ref (a 8)])), ((a 1), .inl (G.2.1, 411, .inl (upd (upd r3.1 (4 : Int32).toNatClampNeg ((r3.1 (4 : Int32).toNatClampNeg) + (r3.1 (3 : Int32).toNatClampNeg))) (3 : Int32).toNatClampNeg (0 : Int32)))), ((a 2), .inl (G.2.1, 1644, .inl r3.2.1)), ((a 3), .inl (G.2.1, 411, .inl r3.2.2.1)), ((a 4), .inl (G.2.1, 411, .inl r3.2.2.2.1)), ((a 5), .inl (G.2.2.1, 60, .inl r3.2.2.2.2.2.1)), ((a 6), .inl (G.2.1, 4, .inl r3.2.2.2.2.2.2.2.2.2.1)), ((a 7), .inl (G.2.1, 4, .inl r3.2.2.2.2.2.2.2.2.2.2.1)), ((a 8), .inl (G.2.1, 4, .inl r3.2.2.2.2.2.2.2.2.2.2.2))] := hD
    refine lv_aload_n hx hb dX6_crash_40 rfl (lv_at hl 1 rfl) ?_
    refine lv_iload_n hx hb dX6_crash_41 rfl (lv_at hl 0 rfl) ?_
    obtain ⟨r9, e10, hf⟩ := g_bdS hf
    refine g_contC (st1 := [.int r9.1]) (g_runVC (As := [.int (r3.1 (3 : Int32).toNatClampNeg)]) (rest := []) ⟨hx, hb, hml, hown, hts⟩ (qX6_acted l G a e10) (cwV 1 hts (TB_V TB_id tw_650 tw_652 tw_13 tw_54 tw_653) rfl rfl rfl (by decide +kernel) ⟨Nat.le_of_ble_eq_true rfl, Nat.le_of_ble_eq_true rfl⟩) hK (hP.sub [0, 1, 2, 3, 4, 5, 6, 7, 8] rfl) (hD.sub [0, 1, 2, 3, 4, 5, 6, 7, 8] (by decide) rfl) 0 rfl rfl rfl hl.1 rfl (Nat.le_of_ble_eq_true rfl) dX6_crash_42) rfl hP hD hS hA [0, 1, 2, 3, 4, 5, 6, 7, 8] rfl rfl (fun H locs hP hD hS => ?_)
    have hP : va_P G.1 vwCl [((a 0), .inr (5, [.ref (a 1), .ref (a 2), .ref (a 3), .ref (a 4), .int r9.2.2.2.2.2.1, .ref (a 5), .int r9.2.2.2.2.2.2.2.1, .int r9.2.2.2.2.2.2.2.2.1, .int r9.2.2.2.2.2.2.2.2.2.1, .ref (a 6), .ref (a 7), .ref (a 8)])), ((a 1), .inl (G.2.1, 411, .inl r9.2.1)), ((a 2), .inl (G.2.1, 1644, .inl r9.2.2.1)), ((a 3), .inl (G.2.1, 411, .inl r9.2.2.2.1)), ((a 4), .inl (G.2.1, 411, .inl r9.2.2.2.2.1)), ((a 5), .inl (G.2.2.1, 60, .inl r9.2.2.2.2.2.2.1)), ((a 6), .inl (G.2.1, 4, .inl r9.2.2.2.2.2.2.2.2.2.2.1)), ((a 7), .inl (G.2.1, 4, .inl r9.2.2.2.2.2.2.2.2.2.2.2.1)), ((a 8), .inl (G.2.1, 4, .inl r9.2.2.2.2.2.2.2.2.2.2.2.2))] H := hP
    have hD : va_D (va_A (modW G a ss was beg asi sta txt typ att rea got row oth) s.heap.size) [((a 0), .inr (5, [.ref (a 1), .ref (a 2), .ref (a 3), .ref (a 4), .int r9.2.2.2.2.2.1, .ref (a 5), .int r9.2.2.2.2.2.2.2.1, .int r9.2.2.2.2.2.2.2.2.1, .int r9.2.2.2.2.2.2.2.2.2.1, .ref (a 6), .ref (a 7), .ref (a 8)])), ((a 1), .inl (G.2.1, 411, .inl r9.2.1)), ((a 2), .inl (G.2.1, 1644, .inl r9.2.2.1)), ((a 3), .inl (G.2.1, 411, .inl r9.2.2.2.1)), ((a 4), .inl (G.2.1, 411, .inl r9.2.2.2.2.1)), ((a 5), .inl (G.2.2.1, 60, .inl r9.2.2.2.2.2.2.1)), ((a 6), .inl (G.2.1, 4, .inl r9.2.2.2.2.2.2.2.2.2.2.1)), ((a 7), .inl (G.2.1, 4, .inl r9.2.2.2.2.2.2.2.2.2.2.2.1)), ((a 8), .inl (G.2.1, 4, .inl r9.2.2.2.2.2.2.2.2.2.2.2.2))] := hD
    cases hf
    exact g_iretC hx hb hr hlocks hP hD hS dX6_crash_45
  · have hf := g_ifT c2 hf
    refine lv_ldc (v := (-1000002 : Int32)) hx hb hown (hts _ tw_630) dX6_crash_9 ?_
    cases hf
    exact g_iretC hx hb hr hlocks hP hD hS dX6_crash_11
-- TwoShapesModel.latest(I)I
abbrev rmX6_latest : Room := { frames := 0, cells := 0, slots := 0, locals := 0 }
def fX6_latest_b4 : Nat → Int32 → Int32 → Int32 → (Nat → Int32) → (Nat → Int32) → (Nat → Int32) → (Nat → Int32) → Int32 → (Nat → Int32) → Int32 → Int32 → Int32 → (Nat → Int32) → (Nat → Int32) → (Nat → Int32) → Option (Int32)
  | 0, _, _, _, _, _, _, _, _, _, _, _, _, _, _, _ => none
  | n + 1, x1, x2, x3, ss, was, beg, asi, sta, txt, typ, att, rea, got, row, oth => g_gd (g_in (3 : Int32) 411) ((if (ss (3 : Int32).toNatClampNeg) ≤ x3 then some (x2) else g_gd (g_in ((14 : Int32) + ((7 : Int32) * x3)) 411) ((if (ss ((14 : Int32) + ((7 : Int32) * x3)).toNatClampNeg) = x1 then fX6_latest_b4 n x1 x3 (x3 + (1 : Int32)) ss was beg asi sta txt typ att rea got row oth else fX6_latest_b4 n x1 x2 (x3 + (1 : Int32)) ss was beg asi sta txt typ att rea got row oth))))
set_option maxHeartbeats 4000000 in
set_option maxRecDepth 100000 in
theorem kX6_latest_b4 {p : Program} {l : Launch} {e : Env} {s : State} {m : MethodId} {args : Array Value} {below : List Frame} {meth : Method} {c : Code} {G : gT} {a : Nat → Nat} (C0 : gX p s m args meth c cX6_latest 4 (some .int) RX6 G) :
    ∀ (n : Nat) (x1 : Int32) (x2 : Int32) (x3 : Int32) (ss : Nat → Int32) (was : Nat → Int32) (beg : Nat → Int32) (asi : Nat → Int32) (sta : Int32) (txt : Nat → Int32) (typ : Int32) (att : Int32) (rea : Int32) (got : Nat → Int32) (row : Nat → Int32) (oth : Nat → Int32) (u : Int32), fX6_latest_b4 n x1 x2 x3 ss was beg asi sta txt typ att rea got row oth = some u → va_P G.1 vwCl [((a 0), .inr (5, [.ref (a 1), .ref (a 2), .ref (a 3), .ref (a 4), .int sta, .ref (a 5), .int typ, .int att, .int rea, .ref (a 6), .ref (a 7), .ref (a 8)])), ((a 1), .inl (G.2.1, 411, .inl ss)), ((a 2), .inl (G.2.1, 1644, .inl was)), ((a 3), .inl (G.2.1, 411, .inl beg)), ((a 4), .inl (G.2.1, 411, .inl asi)), ((a 5), .inl (G.2.2.1, 60, .inl txt)), ((a 6), .inl (G.2.1, 4, .inl got)), ((a 7), .inl (G.2.1, 4, .inl row)), ((a 8), .inl (G.2.1, 4, .inl oth))] s.heap → ∀ ls, lv_has ls 4 [(0, .ref (a 0)), (1, .int x1), (2, .int x2), (3, .int x3)] → gV p l e (headSpec wsX6_latest rmX6_latest).room s m args below meth c (some (.int u)) 4 ls [] := by
  obtain ⟨hx, hb, hr, hts, hown, hlocks, hml, hK⟩ := id C0
  intro n
  induction n with
  | zero =>
    intro x1 x2 x3 ss was beg asi sta txt typ att rea got row oth u hf hP ls hl
    have hf : (none : Option (Int32)) = some u := hf
    cases hf
  | succ n ih =>
    intro x1 x2 x3 ss was beg asi sta txt typ att rea got row oth u hf hP ls hl
    rw [fX6_latest_b4] at hf
    refine lv_iload_n hx hb dX6_latest_4 rfl (lv_at hl 3 rfl) ?_
    refine lv_aload_n hx hb dX6_latest_5 rfl (lv_at hl 0 rfl) ?_
    refine va_get (D := G.1) (ci := 5) (v := .ref (a 1)) (C := RX6) (T := TX6) (N := 12) hx hb hts hX6 hown hK.1 hP 0 rfl rfl 0 (by decide) (hts _ tw_588) (fun _ h9 => h9) rfl dX6_latest_6 ?_
    refine lv_iconst (v := (3 : Int32)) hx hb dX6_latest_9 (by decide) ?_
    obtain ⟨g1, hf⟩ := g_gdS hf
    refine va_iald hx hb hK.1 hP 1 0 rfl rfl (g_in_vp g1) dX6_latest_10 ?_
    refine lv_icmp_ge (tgt := 42) hx hb dX6_latest_11 (by decide) (fun c2 => ?_) (fun c2 => ?_)
    · have hf := g_ifT c2 hf
      refine lv_iload_n hx hb dX6_latest_42 rfl (lv_at hl 2 rfl) ?_
      cases hf
      exact g_iretR hx hb hr hlocks dX6_latest_43
    · have hf := g_ifF c2 hf
      refine lv_aload_n hx hb dX6_latest_14 rfl (lv_at hl 0 rfl) ?_
      refine va_get (D := G.1) (ci := 5) (v := .ref (a 1)) (C := RX6) (T := TX6) (N := 12) hx hb hts hX6 hown hK.1 hP 0 rfl rfl 0 (by decide) (hts _ tw_588) (fun _ h9 => h9) rfl dX6_latest_15 ?_
      refine lv_bipush (v := (14 : Int32)) hx hb dX6_latest_18 (by decide) ?_
      refine lv_bipush (v := (7 : Int32)) hx hb dX6_latest_20 (by decide) ?_
      refine lv_iload_n hx hb dX6_latest_22 rfl (lv_at hl 3 rfl) ?_
      refine lv_imul hx hb dX6_latest_23 ?_
      refine lv_iadd hx hb dX6_latest_24 ?_
      obtain ⟨g3, hf⟩ := g_gdS hf
      refine va_iald hx hb hK.1 hP 1 0 rfl rfl (g_in_vp g3) dX6_latest_25 ?_
      refine lv_iload_n hx hb dX6_latest_26 rfl (lv_at hl 1 rfl) ?_
      refine lv_icmp_ne (tgt := 34) hx hb dX6_latest_27 (by decide) (fun c4 => ?_) (fun c4 => ?_)
      · have hf := g_ifF c4 hf
        refine lv_iload_n hx hb dX6_latest_34 rfl (lv_at hl 2 rfl) ?_
        refine lv_istore_n (lv' := [(2, .int x2), (0, .ref (a 0)), (1, .int x1), (3, .int x3)]) hx hb dX6_latest_35 rfl hl (by decide) rfl (fun ls hl => ?_)
        refine lv_iinc (v := (x3 + (1 : Int32))) (lv' := [(3, .int (x3 + (1 : Int32))), (2, .int x2), (0, .ref (a 0)), (1, .int x1)]) hx hb dX6_latest_36 hl (k := 3) rfl rfl (by decide) rfl (fun ls hl => ?_)
        refine lv_goto (tgt := 4) hx hb dX6_latest_39 (by decide) ?_
        exact ih _ _ _ _ _ _ _ _ _ _ _ _ _ _ _ _ hf hP ls (lv_sub hl [2, 3, 1, 0] rfl)
      · have hf := g_ifT c4 hf
        refine lv_iload_n hx hb dX6_latest_30 rfl (lv_at hl 3 rfl) ?_
        refine lv_goto (tgt := 35) hx hb dX6_latest_31 (by decide) ?_
        refine lv_istore_n (lv' := [(2, .int x3), (0, .ref (a 0)), (1, .int x1), (3, .int x3)]) hx hb dX6_latest_35 rfl hl (by decide) rfl (fun ls hl => ?_)
        refine lv_iinc (v := (x3 + (1 : Int32))) (lv' := [(3, .int (x3 + (1 : Int32))), (2, .int x3), (0, .ref (a 0)), (1, .int x1)]) hx hb dX6_latest_36 hl (k := 3) rfl rfl (by decide) rfl (fun ls hl => ?_)
        refine lv_goto (tgt := 4) hx hb dX6_latest_39 (by decide) ?_
        exact ih _ _ _ _ _ _ _ _ _ _ _ _ _ _ _ _ hf hP ls (lv_sub hl [2, 3, 1, 0] rfl)
def fX6_latest (p0 : Int32) (ss : Nat → Int32) (was : Nat → Int32) (beg : Nat → Int32) (asi : Nat → Int32) (sta : Int32) (txt : Nat → Int32) (typ : Int32) (att : Int32) (rea : Int32) (got : Nat → Int32) (row : Nat → Int32) (oth : Nat → Int32) : Option (Int32) := fX6_latest_b4 2000 p0 (-1 : Int32) (0 : Int32) ss was beg asi sta txt typ att rea got row oth
set_option maxHeartbeats 4000000 in
set_option maxRecDepth 100000 in
theorem qX6_latest (l : Launch) (G : gT) (a : Nat → Nat) {p0 : Int32} {ss : Nat → Int32} {was : Nat → Int32} {beg : Nat → Int32} {asi : Nat → Int32} {sta : Int32} {txt : Nat → Int32} {typ : Int32} {att : Int32} {rea : Int32} {got : Nat → Int32} {row : Nat → Int32} {oth : Nat → Int32} {u : Int32} (hf : fX6_latest p0 ss was beg asi sta txt typ att rea got row oth = some u) : gR l G yX6_latest wsX6_latest rmX6_latest [.ref (a 0), .int p0] (modW G a ss was beg asi sta txt typ att rea got row oth) (some (.int u)) := by
  refine gR.of (cc := cX6_latest) (maxL := 4) (ret := (some .int)) (by decide) rfl (Nat.le_of_ble_eq_true rfl) ?_
  intro p e s m below meth c C0 hP ls hl
  obtain ⟨hx, hb, hr, hts, hown, hlocks, hml, hK⟩ := id C0
  have hl : lv_has ls 4 [(0, .ref (a 0)), (1, .int p0)] := hl
  have hP : va_P G.1 vwCl [((a 0), .inr (5, [.ref (a 1), .ref (a 2), .ref (a 3), .ref (a 4), .int sta, .ref (a 5), .int typ, .int att, .int rea, .ref (a 6), .ref (a 7), .ref (a 8)])), ((a 1), .inl (G.2.1, 411, .inl ss)), ((a 2), .inl (G.2.1, 1644, .inl was)), ((a 3), .inl (G.2.1, 411, .inl beg)), ((a 4), .inl (G.2.1, 411, .inl asi)), ((a 5), .inl (G.2.2.1, 60, .inl txt)), ((a 6), .inl (G.2.1, 4, .inl got)), ((a 7), .inl (G.2.1, 4, .inl row)), ((a 8), .inl (G.2.1, 4, .inl oth))] s.heap := hP
  unfold fX6_latest at hf
  refine lv_iconst (v := (-1 : Int32)) hx hb dX6_latest_0 (by decide) ?_
  refine lv_istore_n (lv' := [(2, .int (-1 : Int32)), (0, .ref (a 0)), (1, .int p0)]) hx hb dX6_latest_1 rfl hl (by decide) rfl (fun ls hl => ?_)
  refine lv_iconst (v := (0 : Int32)) hx hb dX6_latest_2 (by decide) ?_
  refine lv_istore_n (lv' := [(3, .int (0 : Int32)), (2, .int (-1 : Int32)), (0, .ref (a 0)), (1, .int p0)]) hx hb dX6_latest_3 rfl hl (by decide) rfl (fun ls hl => ?_)
  exact kX6_latest_b4 C0 2000 _ _ _ _ _ _ _ _ _ _ _ _ _ _ _ _ hf hP ls (lv_sub hl [2, 3, 1, 0] rfl)
-- TwoShapesModel.mends(I)I
abbrev rmX6_mends : Room := { frames := 4, cells := 0, slots := 0, locals := 90 }
def fX6_mends (p0 : Int32) (ss : Nat → Int32) (was : Nat → Int32) (beg : Nat → Int32) (asi : Nat → Int32) (sta : Int32) (txt : Nat → Int32) (typ : Int32) (att : Int32) (rea : Int32) (got : Nat → Int32) (row : Nat → Int32) (oth : Nat → Int32) : Option (Int32 × (Nat → Int32) × (Nat → Int32) × (Nat → Int32) × (Nat → Int32) × Int32 × (Nat → Int32) × Int32 × Int32 × Int32 × (Nat → Int32) × (Nat → Int32) × (Nat → Int32)) := ((fX6_isKey p0).bind fun r1 => (if r1 = (0 : Int32) then some ((-1000001 : Int32), ss, was, beg, asi, sta, txt, typ, att, rea, got, row, oth) else ((fX6_areBoth ss was beg asi sta txt typ att rea got row oth).bind fun r4 => (if r4 = (0 : Int32) then some ((-1000002 : Int32), ss, was, beg, asi, sta, txt, typ, att, rea, got, row, oth) else ((fX6_latest p0 ss was beg asi sta txt typ att rea got row oth).bind fun r7 => (if r7 < (0 : Int32) then ((fX6_differs p0 ss was beg asi sta txt typ att rea got row oth).bind fun r10 => (if r10.1 = (0 : Int32) then some ((0 : Int32), r10.2.1, r10.2.2.1, r10.2.2.2.1, r10.2.2.2.2.1, r10.2.2.2.2.2.1, r10.2.2.2.2.2.2.1, r10.2.2.2.2.2.2.2.1, r10.2.2.2.2.2.2.2.2.1, r10.2.2.2.2.2.2.2.2.2.1, r10.2.2.2.2.2.2.2.2.2.2.1, r10.2.2.2.2.2.2.2.2.2.2.2.1, r10.2.2.2.2.2.2.2.2.2.2.2.2) else ((fX6_of (0 : Int32) p0 (0 : Int32) r10.2.1 r10.2.2.1 r10.2.2.2.1 r10.2.2.2.2.1 r10.2.2.2.2.2.1 r10.2.2.2.2.2.2.1 r10.2.2.2.2.2.2.2.1 r10.2.2.2.2.2.2.2.2.1 r10.2.2.2.2.2.2.2.2.2.1 r10.2.2.2.2.2.2.2.2.2.2.1 r10.2.2.2.2.2.2.2.2.2.2.2.1 r10.2.2.2.2.2.2.2.2.2.2.2.2).bind fun r13 => ((fX6_of (1 : Int32) p0 (0 : Int32) r10.2.1 r10.2.2.1 r10.2.2.2.1 r10.2.2.2.2.1 r10.2.2.2.2.2.1 r10.2.2.2.2.2.2.1 r10.2.2.2.2.2.2.2.1 r10.2.2.2.2.2.2.2.2.1 r10.2.2.2.2.2.2.2.2.2.1 r10.2.2.2.2.2.2.2.2.2.2.1 r10.2.2.2.2.2.2.2.2.2.2.2.1 r10.2.2.2.2.2.2.2.2.2.2.2.2).bind fun r15 => (if r15 ≤ r13 then (if r13 ≤ r15 then ((fX6_first r10.2.1 r10.2.2.1 r10.2.2.2.1 r10.2.2.2.2.1 r10.2.2.2.2.2.1 r10.2.2.2.2.2.2.1 r10.2.2.2.2.2.2.2.1 r10.2.2.2.2.2.2.2.2.1 r10.2.2.2.2.2.2.2.2.2.1 r10.2.2.2.2.2.2.2.2.2.2.1 r10.2.2.2.2.2.2.2.2.2.2.2.1 r10.2.2.2.2.2.2.2.2.2.2.2.2).bind fun r19 => ((fX6_gets ((1 : Int32) - r19) p0 r10.2.1 r10.2.2.1 r10.2.2.2.1 r10.2.2.2.2.1 r10.2.2.2.2.2.1 r10.2.2.2.2.2.2.1 r10.2.2.2.2.2.2.2.1 r10.2.2.2.2.2.2.2.2.1 r10.2.2.2.2.2.2.2.2.2.1 r10.2.2.2.2.2.2.2.2.2.2.1 r10.2.2.2.2.2.2.2.2.2.2.2.1 r10.2.2.2.2.2.2.2.2.2.2.2.2).bind fun r21 => some ((1 : Int32), r21.1, r21.2.1, r21.2.2.1, r21.2.2.2.1, r21.2.2.2.2.1, r21.2.2.2.2.2.1, r21.2.2.2.2.2.2.1, r21.2.2.2.2.2.2.2.1, r21.2.2.2.2.2.2.2.2.1, r21.2.2.2.2.2.2.2.2.2.1, r21.2.2.2.2.2.2.2.2.2.2.1, r21.2.2.2.2.2.2.2.2.2.2.2))) else ((fX6_gets (1 : Int32) p0 r10.2.1 r10.2.2.1 r10.2.2.2.1 r10.2.2.2.2.1 r10.2.2.2.2.2.1 r10.2.2.2.2.2.2.1 r10.2.2.2.2.2.2.2.1 r10.2.2.2.2.2.2.2.2.1 r10.2.2.2.2.2.2.2.2.2.1 r10.2.2.2.2.2.2.2.2.2.2.1 r10.2.2.2.2.2.2.2.2.2.2.2.1 r10.2.2.2.2.2.2.2.2.2.2.2.2).bind fun r23 => some ((1 : Int32), r23.1, r23.2.1, r23.2.2.1, r23.2.2.2.1, r23.2.2.2.2.1, r23.2.2.2.2.2.1, r23.2.2.2.2.2.2.1, r23.2.2.2.2.2.2.2.1, r23.2.2.2.2.2.2.2.2.1, r23.2.2.2.2.2.2.2.2.2.1, r23.2.2.2.2.2.2.2.2.2.2.1, r23.2.2.2.2.2.2.2.2.2.2.2))) else ((fX6_gets (0 : Int32) p0 r10.2.1 r10.2.2.1 r10.2.2.2.1 r10.2.2.2.2.1 r10.2.2.2.2.2.1 r10.2.2.2.2.2.2.1 r10.2.2.2.2.2.2.2.1 r10.2.2.2.2.2.2.2.2.1 r10.2.2.2.2.2.2.2.2.2.1 r10.2.2.2.2.2.2.2.2.2.2.1 r10.2.2.2.2.2.2.2.2.2.2.2.1 r10.2.2.2.2.2.2.2.2.2.2.2.2).bind fun r25 => some ((1 : Int32), r25.1, r25.2.1, r25.2.2.1, r25.2.2.2.1, r25.2.2.2.2.1, r25.2.2.2.2.2.1, r25.2.2.2.2.2.2.1, r25.2.2.2.2.2.2.2.1, r25.2.2.2.2.2.2.2.2.1, r25.2.2.2.2.2.2.2.2.2.1, r25.2.2.2.2.2.2.2.2.2.2.1, r25.2.2.2.2.2.2.2.2.2.2.2))))))) else some ((-1000002 : Int32), ss, was, beg, asi, sta, txt, typ, att, rea, got, row, oth)))))))
set_option maxHeartbeats 4000000 in
set_option maxRecDepth 100000 in
theorem qX6_mends (l : Launch) (G : gT) (a : Nat → Nat) {p0 : Int32} {ss : Nat → Int32} {was : Nat → Int32} {beg : Nat → Int32} {asi : Nat → Int32} {sta : Int32} {txt : Nat → Int32} {typ : Int32} {att : Int32} {rea : Int32} {got : Nat → Int32} {row : Nat → Int32} {oth : Nat → Int32} {u : Int32 × (Nat → Int32) × (Nat → Int32) × (Nat → Int32) × (Nat → Int32) × Int32 × (Nat → Int32) × Int32 × Int32 × Int32 × (Nat → Int32) × (Nat → Int32) × (Nat → Int32)} (hf : fX6_mends p0 ss was beg asi sta txt typ att rea got row oth = some u) : gC l G yX6_mends wsX6_mends rmX6_mends [.ref (a 0), .int p0] (modW G a ss was beg asi sta txt typ att rea got row oth) (some (.int u.1)) (modW G a u.2.1 u.2.2.1 u.2.2.2.1 u.2.2.2.2.1 u.2.2.2.2.2.1 u.2.2.2.2.2.2.1 u.2.2.2.2.2.2.2.1 u.2.2.2.2.2.2.2.2.1 u.2.2.2.2.2.2.2.2.2.1 u.2.2.2.2.2.2.2.2.2.2.1 u.2.2.2.2.2.2.2.2.2.2.2.1 u.2.2.2.2.2.2.2.2.2.2.2.2) := by
  refine gC.of (cc := cX6_mends) (maxL := 4) (ret := (some .int)) (by decide) rfl (Nat.le_of_ble_eq_true rfl) ?_
  intro p e s m below meth c C0 hP hD hS ls hl
  obtain ⟨hx, hb, hr, hts, hown, hlocks, hml, hK⟩ := id C0
  have hl : lv_has ls 4 [(0, .ref (a 0)), (1, .int p0)] := hl
  have hA : ∀ q : Nat, s.heap.size ≤ q → va_A (modW G a ss was beg asi sta txt typ att rea got row oth) s.heap.size q := fun q h => Or.inr h
  have hP : va_P G.1 vwCl [((a 0), .inr (5, [.ref (a 1), .ref (a 2), .ref (a 3), .ref (a 4), .int sta, .ref (a 5), .int typ, .int att, .int rea, .ref (a 6), .ref (a 7), .ref (a 8)])), ((a 1), .inl (G.2.1, 411, .inl ss)), ((a 2), .inl (G.2.1, 1644, .inl was)), ((a 3), .inl (G.2.1, 411, .inl beg)), ((a 4), .inl (G.2.1, 411, .inl asi)), ((a 5), .inl (G.2.2.1, 60, .inl txt)), ((a 6), .inl (G.2.1, 4, .inl got)), ((a 7), .inl (G.2.1, 4, .inl row)), ((a 8), .inl (G.2.1, 4, .inl oth))] s.heap := hP
  have hD : va_D (va_A (modW G a ss was beg asi sta txt typ att rea got row oth) s.heap.size) [((a 0), .inr (5, [.ref (a 1), .ref (a 2), .ref (a 3), .ref (a 4), .int sta, .ref (a 5), .int typ, .int att, .int rea, .ref (a 6), .ref (a 7), .ref (a 8)])), ((a 1), .inl (G.2.1, 411, .inl ss)), ((a 2), .inl (G.2.1, 1644, .inl was)), ((a 3), .inl (G.2.1, 411, .inl beg)), ((a 4), .inl (G.2.1, 411, .inl asi)), ((a 5), .inl (G.2.2.1, 60, .inl txt)), ((a 6), .inl (G.2.1, 4, .inl got)), ((a 7), .inl (G.2.1, 4, .inl row)), ((a 8), .inl (G.2.1, 4, .inl oth))] := hD
  unfold fX6_mends at hf
  refine lv_iload_n hx hb dX6_mends_0 rfl (lv_at hl 1 rfl) ?_
  obtain ⟨r1, e2, hf⟩ := g_bdS hf
  refine g_contR (st1 := [.int r1]) (g_runSR (As := [.int p0]) (rest := []) ⟨hx, hb, hml, hown, hts⟩ (qX6_isKey l G e2) (va_cwS 1 hts (TB_S TB_id tw_711 tw_712 tw_54 tw_713) rfl rfl rfl (by decide +kernel) ⟨Nat.le_of_ble_eq_true rfl, Nat.le_of_ble_eq_true rfl⟩) hK (hP.sub [] rfl) rfl hl.1 rfl (Nat.le_of_ble_eq_true rfl) dX6_mends_1) rfl ?_
  refine lv_if_ne (tgt := 10) hx hb dX6_mends_4 (by decide) (fun c3 => ?_) (fun c3 => ?_)
  · have hf := g_ifF c3 hf
    refine lv_aload_n hx hb dX6_mends_10 rfl (lv_at hl 0 rfl) ?_
    obtain ⟨r4, e5, hf⟩ := g_bdS hf
    refine g_contR (st1 := [.int r4]) (g_runVR (As := []) (rest := []) ⟨hx, hb, hml, hown, hts⟩ (qX6_areBoth l G a e5) (cwV 0 hts (TB_V TB_id tw_691 tw_693 tw_21 tw_54 tw_694) rfl rfl rfl (by decide +kernel) ⟨Nat.le_of_ble_eq_true rfl, Nat.le_of_ble_eq_true rfl⟩) hK (hP.sub [0, 1, 2, 3, 4, 5, 6, 7, 8] rfl) 0 rfl rfl rfl hl.1 rfl (Nat.le_of_ble_eq_true rfl) dX6_mends_11) rfl ?_
    refine lv_if_eq (tgt := 25) hx hb dX6_mends_14 (by decide) (fun c6 => ?_) (fun c6 => ?_)
    · have hf := g_ifT c6 hf
      refine lv_ldc (v := (-1000002 : Int32)) hx hb hown (hts _ tw_630) dX6_mends_25 ?_
      cases hf
      exact g_iretC hx hb hr hlocks hP hD hS dX6_mends_27
    · have hf := g_ifF c6 hf
      refine lv_aload_n hx hb dX6_mends_17 rfl (lv_at hl 0 rfl) ?_
      refine lv_iload_n hx hb dX6_mends_18 rfl (lv_at hl 1 rfl) ?_
      obtain ⟨r7, e8, hf⟩ := g_bdS hf
      refine g_contR (st1 := [.int r7]) (g_runVR (As := [.int p0]) (rest := []) ⟨hx, hb, hml, hown, hts⟩ (qX6_latest l G a e8) (cwV 1 hts (TB_V TB_id tw_787 tw_789 tw_35 tw_54 tw_790) rfl rfl rfl (by decide +kernel) ⟨Nat.le_of_ble_eq_true rfl, Nat.le_of_ble_eq_true rfl⟩) hK (hP.sub [0, 1, 2, 3, 4, 5, 6, 7, 8] rfl) 0 rfl rfl rfl hl.1 rfl (Nat.le_of_ble_eq_true rfl) dX6_mends_19) rfl ?_
      refine lv_if_lt (tgt := 28) hx hb dX6_mends_22 (by decide) (fun c9 => ?_) (fun c9 => ?_)
      · have hf := g_ifT c9 hf
        refine lv_aload_n hx hb dX6_mends_28 rfl (lv_at hl 0 rfl) ?_
        refine lv_iload_n hx hb dX6_mends_29 rfl (lv_at hl 1 rfl) ?_
        obtain ⟨r10, e11, hf⟩ := g_bdS hf
        refine g_contC (st1 := [.int r10.1]) (g_runVC (As := [.int p0]) (rest := []) ⟨hx, hb, hml, hown, hts⟩ (qX6_differs l G a e11) (cwV 1 hts (TB_V TB_id tw_671 tw_673 tw_17 tw_54 tw_674) rfl rfl rfl (by decide +kernel) ⟨Nat.le_of_ble_eq_true rfl, Nat.le_of_ble_eq_true rfl⟩) hK (hP.sub [0, 1, 2, 3, 4, 5, 6, 7, 8] rfl) (hD.sub [0, 1, 2, 3, 4, 5, 6, 7, 8] (by decide) rfl) 0 rfl rfl rfl hl.1 rfl (Nat.le_of_ble_eq_true rfl) dX6_mends_30) rfl hP hD hS hA [0, 1, 2, 3, 4, 5, 6, 7, 8] rfl rfl (fun H locs hP hD hS => ?_)
        have hP : va_P G.1 vwCl [((a 0), .inr (5, [.ref (a 1), .ref (a 2), .ref (a 3), .ref (a 4), .int r10.2.2.2.2.2.1, .ref (a 5), .int r10.2.2.2.2.2.2.2.1, .int r10.2.2.2.2.2.2.2.2.1, .int r10.2.2.2.2.2.2.2.2.2.1, .ref (a 6), .ref (a 7), .ref (a 8)])), ((a 1), .inl (G.2.1, 411, .inl r10.2.1)), ((a 2), .inl (G.2.1, 1644, .inl r10.2.2.1)), ((a 3), .inl (G.2.1, 411, .inl r10.2.2.2.1)), ((a 4), .inl (G.2.1, 411, .inl r10.2.2.2.2.1)), ((a 5), .inl (G.2.2.1, 60, .inl r10.2.2.2.2.2.2.1)), ((a 6), .inl (G.2.1, 4, .inl r10.2.2.2.2.2.2.2.2.2.2.1)), ((a 7), .inl (G.2.1, 4, .inl r10.2.2.2.2.2.2.2.2.2.2.2.1)), ((a 8), .inl (G.2.1, 4, .inl r10.2.2.2.2.2.2.2.2.2.2.2.2))] H := hP
        have hD : va_D (va_A (modW G a ss was beg asi sta txt typ att rea got row oth) s.heap.size) [((a 0), .inr (5, [.ref (a 1), .ref (a 2), .ref (a 3), .ref (a 4), .int r10.2.2.2.2.2.1, .ref (a 5), .int r10.2.2.2.2.2.2.2.1, .int r10.2.2.2.2.2.2.2.2.1, .int r10.2.2.2.2.2.2.2.2.2.1, .ref (a 6), .ref (a 7), .ref (a 8)])), ((a 1), .inl (G.2.1, 411, .inl r10.2.1)), ((a 2), .inl (G.2.1, 1644, .inl r10.2.2.1)), ((a 3), .inl (G.2.1, 411, .inl r10.2.2.2.1)), ((a 4), .inl (G.2.1, 411, .inl r10.2.2.2.2.1)), ((a 5), .inl (G.2.2.1, 60, .inl r10.2.2.2.2.2.2.1)), ((a 6), .inl (G.2.1, 4, .inl r10.2.2.2.2.2.2.2.2.2.2.1)), ((a 7), .inl (G.2.1, 4, .inl r10.2.2.2.2.2.2.2.2.2.2.2.1)), ((a 8), .inl (G.2.1, 4, .inl r10.2.2.2.2.2.2.2.2.2.2.2.2))] := hD
        refine lv_if_ne (tgt := 38) hx hb dX6_mends_33 (by decide) (fun c12 => ?_) (fun c12 => ?_)
        · have hf := g_ifF c12 hf
          refine lv_aload_n hx hb dX6_mends_38 rfl (lv_at hl 0 rfl) ?_
          refine lv_iconst (v := (0 : Int32)) hx hb dX6_mends_39 (by decide) ?_
          refine lv_iload_n hx hb dX6_mends_40 rfl (lv_at hl 1 rfl) ?_
          refine lv_iconst (v := (0 : Int32)) hx hb dX6_mends_41 (by decide) ?_
          obtain ⟨r13, e14, hf⟩ := g_bdS hf
          refine g_contR (st1 := [.int r13]) (g_runVR (As := [.int (0 : Int32), .int p0, .int (0 : Int32)]) (rest := []) ⟨hx, hb, hml, hown, hts⟩ (qX6_of l G a e14) (cwV 3 hts (TB_V TB_id tw_643 tw_645 tw_12 tw_54 tw_646) rfl rfl rfl (by decide +kernel) ⟨Nat.le_of_ble_eq_true rfl, Nat.le_of_ble_eq_true rfl⟩) hK (hP.sub [0, 1, 2, 3, 4, 5, 6, 7, 8] rfl) 0 rfl rfl rfl hl.1 rfl (Nat.le_of_ble_eq_true rfl) dX6_mends_42) rfl ?_
          refine lv_istore_n (lv' := [(2, .int r13), (0, .ref (a 0)), (1, .int p0)]) hx hb dX6_mends_45 rfl hl (by decide) rfl (fun ls hl => ?_)
          refine lv_aload_n hx hb dX6_mends_46 rfl (lv_at hl 1 rfl) ?_
          refine lv_iconst (v := (1 : Int32)) hx hb dX6_mends_47 (by decide) ?_
          refine lv_iload_n hx hb dX6_mends_48 rfl (lv_at hl 2 rfl) ?_
          refine lv_iconst (v := (0 : Int32)) hx hb dX6_mends_49 (by decide) ?_
          obtain ⟨r15, e16, hf⟩ := g_bdS hf
          refine g_contR (st1 := [.int r15]) (g_runVR (As := [.int (1 : Int32), .int p0, .int (0 : Int32)]) (rest := []) ⟨hx, hb, hml, hown, hts⟩ (qX6_of l G a e16) (cwV 3 hts (TB_V TB_id tw_643 tw_645 tw_12 tw_54 tw_646) rfl rfl rfl (by decide +kernel) ⟨Nat.le_of_ble_eq_true rfl, Nat.le_of_ble_eq_true rfl⟩) hK (hP.sub [0, 1, 2, 3, 4, 5, 6, 7, 8] rfl) 0 rfl rfl rfl hl.1 rfl (Nat.le_of_ble_eq_true rfl) dX6_mends_50) rfl ?_
          refine lv_istore_n (lv' := [(3, .int r15), (2, .int r13), (0, .ref (a 0)), (1, .int p0)]) hx hb dX6_mends_53 rfl hl (by decide) rfl (fun ls hl => ?_)
          refine lv_aload_n hx hb dX6_mends_54 rfl (lv_at hl 2 rfl) ?_
          refine lv_iload_n hx hb dX6_mends_55 rfl (lv_at hl 1 rfl) ?_
          refine lv_iload_n hx hb dX6_mends_56 rfl (lv_at hl 0 rfl) ?_
          refine lv_icmp_ge (tgt := 64) hx hb dX6_mends_57 (by decide) (fun c17 => ?_) (fun c17 => ?_)
          · have hf := g_ifT c17 hf
            refine lv_iload_n hx hb dX6_mends_64 rfl (lv_at hl 0 rfl) ?_
            refine lv_iload_n hx hb dX6_mends_65 rfl (lv_at hl 1 rfl) ?_
            refine lv_icmp_ge (tgt := 73) hx hb dX6_mends_66 (by decide) (fun c18 => ?_) (fun c18 => ?_)
            · have hf := g_ifT c18 hf
              refine lv_iconst (v := (1 : Int32)) hx hb dX6_mends_73 (by decide) ?_
              refine lv_aload_n hx hb dX6_mends_74 rfl (lv_at hl 2 rfl) ?_
              obtain ⟨r19, e20, hf⟩ := g_bdS hf
              refine g_contR (st1 := [.int r19, .int (1 : Int32), .ref (a 0)]) (g_runVR (As := []) (rest := [.int (1 : Int32), .ref (a 0)]) ⟨hx, hb, hml, hown, hts⟩ (qX6_first l G a e20) (cwV 0 hts (TB_V TB_id tw_727 tw_729 tw_26 tw_54 tw_730) rfl rfl rfl (by decide +kernel) ⟨Nat.le_of_ble_eq_true rfl, Nat.le_of_ble_eq_true rfl⟩) hK (hP.sub [0, 1, 2, 3, 4, 5, 6, 7, 8] rfl) 0 rfl rfl rfl hl.1 rfl (Nat.le_of_ble_eq_true rfl) dX6_mends_75) rfl ?_
              refine lv_isub hx hb dX6_mends_78 ?_
              refine lv_iload_n hx hb dX6_mends_79 rfl (lv_at hl 3 rfl) ?_
              obtain ⟨r21, e22, hf⟩ := g_bdS hf
              refine g_contC (st1 := []) (g_runVC (As := [.int ((1 : Int32) - r19), .int p0]) (rest := []) ⟨hx, hb, hml, hown, hts⟩ (qX6_gets l G a e22) (cwV 2 hts (TB_V TB_id tw_771 tw_773 tw_33 tw_54 tw_774) rfl rfl rfl (by decide +kernel) ⟨Nat.le_of_ble_eq_true rfl, Nat.le_of_ble_eq_true rfl⟩) hK (hP.sub [0, 1, 2, 3, 4, 5, 6, 7, 8] rfl) (hD.sub [0, 1, 2, 3, 4, 5, 6, 7, 8] (by decide) rfl) 0 rfl rfl rfl hl.1 rfl (Nat.le_of_ble_eq_true rfl) dX6_mends_80) rfl hP hD hS hA [0, 1, 2, 3, 4, 5, 6, 7, 8] rfl rfl (fun H locs hP hD hS => ?_)
              have hP : va_P G.1 vwCl [((a 0), .inr (5, [.ref (a 1), .ref (a 2), .ref (a 3), .ref (a 4), .int r21.2.2.2.2.1, .ref (a 5), .int r21.2.2.2.2.2.2.1, .int r21.2.2.2.2.2.2.2.1, .int r21.2.2.2.2.2.2.2.2.1, .ref (a 6), .ref (a 7), .ref (a 8)])), ((a 1), .inl (G.2.1, 411, .inl r21.1)), ((a 2), .inl (G.2.1, 1644, .inl r21.2.1)), ((a 3), .inl (G.2.1, 411, .inl r21.2.2.1)), ((a 4), .inl (G.2.1, 411, .inl r21.2.2.2.1)), ((a 5), .inl (G.2.2.1, 60, .inl r21.2.2.2.2.2.1)), ((a 6), .inl (G.2.1, 4, .inl r21.2.2.2.2.2.2.2.2.2.1)), ((a 7), .inl (G.2.1, 4, .inl r21.2.2.2.2.2.2.2.2.2.2.1)), ((a 8), .inl (G.2.1, 4, .inl r21.2.2.2.2.2.2.2.2.2.2.2))] H := hP
              have hD : va_D (va_A (modW G a ss was beg asi sta txt typ att rea got row oth) s.heap.size) [((a 0), .inr (5, [.ref (a 1), .ref (a 2), .ref (a 3), .ref (a 4), .int r21.2.2.2.2.1, .ref (a 5), .int r21.2.2.2.2.2.2.1, .int r21.2.2.2.2.2.2.2.1, .int r21.2.2.2.2.2.2.2.2.1, .ref (a 6), .ref (a 7), .ref (a 8)])), ((a 1), .inl (G.2.1, 411, .inl r21.1)), ((a 2), .inl (G.2.1, 1644, .inl r21.2.1)), ((a 3), .inl (G.2.1, 411, .inl r21.2.2.1)), ((a 4), .inl (G.2.1, 411, .inl r21.2.2.2.1)), ((a 5), .inl (G.2.2.1, 60, .inl r21.2.2.2.2.2.1)), ((a 6), .inl (G.2.1, 4, .inl r21.2.2.2.2.2.2.2.2.2.1)), ((a 7), .inl (G.2.1, 4, .inl r21.2.2.2.2.2.2.2.2.2.2.1)), ((a 8), .inl (G.2.1, 4, .inl r21.2.2.2.2.2.2.2.2.2.2.2))] := hD
              refine lv_iconst (v := (1 : Int32)) hx hb dX6_mends_83 (by decide) ?_
              cases hf
              exact g_iretC hx hb hr hlocks hP hD hS dX6_mends_84
            · have hf := g_ifF c18 hf
              refine lv_iconst (v := (1 : Int32)) hx hb dX6_mends_69 (by decide) ?_
              refine lv_goto (tgt := 79) hx hb dX6_mends_70 (by decide) ?_
              refine lv_iload_n hx hb dX6_mends_79 rfl (lv_at hl 3 rfl) ?_
              obtain ⟨r23, e24, hf⟩ := g_bdS hf
              refine g_contC (st1 := []) (g_runVC (As := [.int (1 : Int32), .int p0]) (rest := []) ⟨hx, hb, hml, hown, hts⟩ (qX6_gets l G a e24) (cwV 2 hts (TB_V TB_id tw_771 tw_773 tw_33 tw_54 tw_774) rfl rfl rfl (by decide +kernel) ⟨Nat.le_of_ble_eq_true rfl, Nat.le_of_ble_eq_true rfl⟩) hK (hP.sub [0, 1, 2, 3, 4, 5, 6, 7, 8] rfl) (hD.sub [0, 1, 2, 3, 4, 5, 6, 7, 8] (by decide) rfl) 0 rfl rfl rfl hl.1 rfl (Nat.le_of_ble_eq_true rfl) dX6_mends_80) rfl hP hD hS hA [0, 1, 2, 3, 4, 5, 6, 7, 8] rfl rfl (fun H locs hP hD hS => ?_)
              have hP : va_P G.1 vwCl [((a 0), .inr (5, [.ref (a 1), .ref (a 2), .ref (a 3), .ref (a 4), .int r23.2.2.2.2.1, .ref (a 5), .int r23.2.2.2.2.2.2.1, .int r23.2.2.2.2.2.2.2.1, .int r23.2.2.2.2.2.2.2.2.1, .ref (a 6), .ref (a 7), .ref (a 8)])), ((a 1), .inl (G.2.1, 411, .inl r23.1)), ((a 2), .inl (G.2.1, 1644, .inl r23.2.1)), ((a 3), .inl (G.2.1, 411, .inl r23.2.2.1)), ((a 4), .inl (G.2.1, 411, .inl r23.2.2.2.1)), ((a 5), .inl (G.2.2.1, 60, .inl r23.2.2.2.2.2.1)), ((a 6), .inl (G.2.1, 4, .inl r23.2.2.2.2.2.2.2.2.2.1)), ((a 7), .inl (G.2.1, 4, .inl r23.2.2.2.2.2.2.2.2.2.2.1)), ((a 8), .inl (G.2.1, 4, .inl r23.2.2.2.2.2.2.2.2.2.2.2))] H := hP
              have hD : va_D (va_A (modW G a ss was beg asi sta txt typ att rea got row oth) s.heap.size) [((a 0), .inr (5, [.ref (a 1), .ref (a 2), .ref (a 3), .ref (a 4), .int r23.2.2.2.2.1, .ref (a 5), .int r23.2.2.2.2.2.2.1, .int r23.2.2.2.2.2.2.2.1, .int r23.2.2.2.2.2.2.2.2.1, .ref (a 6), .ref (a 7), .ref (a 8)])), ((a 1), .inl (G.2.1, 411, .inl r23.1)), ((a 2), .inl (G.2.1, 1644, .inl r23.2.1)), ((a 3), .inl (G.2.1, 411, .inl r23.2.2.1)), ((a 4), .inl (G.2.1, 411, .inl r23.2.2.2.1)), ((a 5), .inl (G.2.2.1, 60, .inl r23.2.2.2.2.2.1)), ((a 6), .inl (G.2.1, 4, .inl r23.2.2.2.2.2.2.2.2.2.1)), ((a 7), .inl (G.2.1, 4, .inl r23.2.2.2.2.2.2.2.2.2.2.1)), ((a 8), .inl (G.2.1, 4, .inl r23.2.2.2.2.2.2.2.2.2.2.2))] := hD
              refine lv_iconst (v := (1 : Int32)) hx hb dX6_mends_83 (by decide) ?_
              cases hf
              exact g_iretC hx hb hr hlocks hP hD hS dX6_mends_84
          · have hf := g_ifF c17 hf
            refine lv_iconst (v := (0 : Int32)) hx hb dX6_mends_60 (by decide) ?_
            refine lv_goto (tgt := 79) hx hb dX6_mends_61 (by decide) ?_
            refine lv_iload_n hx hb dX6_mends_79 rfl (lv_at hl 3 rfl) ?_
            obtain ⟨r25, e26, hf⟩ := g_bdS hf
            refine g_contC (st1 := []) (g_runVC (As := [.int (0 : Int32), .int p0]) (rest := []) ⟨hx, hb, hml, hown, hts⟩ (qX6_gets l G a e26) (cwV 2 hts (TB_V TB_id tw_771 tw_773 tw_33 tw_54 tw_774) rfl rfl rfl (by decide +kernel) ⟨Nat.le_of_ble_eq_true rfl, Nat.le_of_ble_eq_true rfl⟩) hK (hP.sub [0, 1, 2, 3, 4, 5, 6, 7, 8] rfl) (hD.sub [0, 1, 2, 3, 4, 5, 6, 7, 8] (by decide) rfl) 0 rfl rfl rfl hl.1 rfl (Nat.le_of_ble_eq_true rfl) dX6_mends_80) rfl hP hD hS hA [0, 1, 2, 3, 4, 5, 6, 7, 8] rfl rfl (fun H locs hP hD hS => ?_)
            have hP : va_P G.1 vwCl [((a 0), .inr (5, [.ref (a 1), .ref (a 2), .ref (a 3), .ref (a 4), .int r25.2.2.2.2.1, .ref (a 5), .int r25.2.2.2.2.2.2.1, .int r25.2.2.2.2.2.2.2.1, .int r25.2.2.2.2.2.2.2.2.1, .ref (a 6), .ref (a 7), .ref (a 8)])), ((a 1), .inl (G.2.1, 411, .inl r25.1)), ((a 2), .inl (G.2.1, 1644, .inl r25.2.1)), ((a 3), .inl (G.2.1, 411, .inl r25.2.2.1)), ((a 4), .inl (G.2.1, 411, .inl r25.2.2.2.1)), ((a 5), .inl (G.2.2.1, 60, .inl r25.2.2.2.2.2.1)), ((a 6), .inl (G.2.1, 4, .inl r25.2.2.2.2.2.2.2.2.2.1)), ((a 7), .inl (G.2.1, 4, .inl r25.2.2.2.2.2.2.2.2.2.2.1)), ((a 8), .inl (G.2.1, 4, .inl r25.2.2.2.2.2.2.2.2.2.2.2))] H := hP
            have hD : va_D (va_A (modW G a ss was beg asi sta txt typ att rea got row oth) s.heap.size) [((a 0), .inr (5, [.ref (a 1), .ref (a 2), .ref (a 3), .ref (a 4), .int r25.2.2.2.2.1, .ref (a 5), .int r25.2.2.2.2.2.2.1, .int r25.2.2.2.2.2.2.2.1, .int r25.2.2.2.2.2.2.2.2.1, .ref (a 6), .ref (a 7), .ref (a 8)])), ((a 1), .inl (G.2.1, 411, .inl r25.1)), ((a 2), .inl (G.2.1, 1644, .inl r25.2.1)), ((a 3), .inl (G.2.1, 411, .inl r25.2.2.1)), ((a 4), .inl (G.2.1, 411, .inl r25.2.2.2.1)), ((a 5), .inl (G.2.2.1, 60, .inl r25.2.2.2.2.2.1)), ((a 6), .inl (G.2.1, 4, .inl r25.2.2.2.2.2.2.2.2.2.1)), ((a 7), .inl (G.2.1, 4, .inl r25.2.2.2.2.2.2.2.2.2.2.1)), ((a 8), .inl (G.2.1, 4, .inl r25.2.2.2.2.2.2.2.2.2.2.2))] := hD
            refine lv_iconst (v := (1 : Int32)) hx hb dX6_mends_83 (by decide) ?_
            cases hf
            exact g_iretC hx hb hr hlocks hP hD hS dX6_mends_84
        · have hf := g_ifT c12 hf
          refine lv_iconst (v := (0 : Int32)) hx hb dX6_mends_36 (by decide) ?_
          cases hf
          exact g_iretC hx hb hr hlocks hP hD hS dX6_mends_37
      · have hf := g_ifF c9 hf
        refine lv_ldc (v := (-1000002 : Int32)) hx hb hown (hts _ tw_630) dX6_mends_25 ?_
        cases hf
        exact g_iretC hx hb hr hlocks hP hD hS dX6_mends_27
  · have hf := g_ifT c3 hf
    refine lv_ldc (v := (-1000001 : Int32)) hx hb hown (hts _ tw_654) dX6_mends_7 ?_
    cases hf
    exact g_iretC hx hb hr hlocks hP hD hS dX6_mends_9
-- TwoShapesModel.mend(I)I
abbrev rmX6_mend : Room := { frames := 5, cells := 0, slots := 0, locals := 113 }
def fX6_mend (p0 : Int32) (ss : Nat → Int32) (was : Nat → Int32) (beg : Nat → Int32) (asi : Nat → Int32) (sta : Int32) (txt : Nat → Int32) (typ : Int32) (att : Int32) (rea : Int32) (got : Nat → Int32) (row : Nat → Int32) (oth : Nat → Int32) : Option (Int32 × (Nat → Int32) × (Nat → Int32) × (Nat → Int32) × (Nat → Int32) × Int32 × (Nat → Int32) × Int32 × Int32 × Int32 × (Nat → Int32) × (Nat → Int32) × (Nat → Int32)) := ((fX6_keeps ss was beg asi sta txt typ att rea got row oth).bind fun r1 => ((fX6_mends p0 r1.1 r1.2.1 r1.2.2.1 r1.2.2.2.1 r1.2.2.2.2.1 r1.2.2.2.2.2.1 r1.2.2.2.2.2.2.1 r1.2.2.2.2.2.2.2.1 r1.2.2.2.2.2.2.2.2.1 r1.2.2.2.2.2.2.2.2.2.1 r1.2.2.2.2.2.2.2.2.2.2.1 r1.2.2.2.2.2.2.2.2.2.2.2).bind fun r3 => ((fX6_acted r3.1 r3.2.1 r3.2.2.1 r3.2.2.2.1 r3.2.2.2.2.1 r3.2.2.2.2.2.1 r3.2.2.2.2.2.2.1 r3.2.2.2.2.2.2.2.1 r3.2.2.2.2.2.2.2.2.1 r3.2.2.2.2.2.2.2.2.2.1 r3.2.2.2.2.2.2.2.2.2.2.1 r3.2.2.2.2.2.2.2.2.2.2.2.1 r3.2.2.2.2.2.2.2.2.2.2.2.2).bind fun r5 => some (r5.1, r5.2.1, r5.2.2.1, r5.2.2.2.1, r5.2.2.2.2.1, r5.2.2.2.2.2.1, r5.2.2.2.2.2.2.1, r5.2.2.2.2.2.2.2.1, r5.2.2.2.2.2.2.2.2.1, r5.2.2.2.2.2.2.2.2.2.1, r5.2.2.2.2.2.2.2.2.2.2.1, r5.2.2.2.2.2.2.2.2.2.2.2.1, r5.2.2.2.2.2.2.2.2.2.2.2.2))))
set_option maxHeartbeats 4000000 in
set_option maxRecDepth 100000 in
theorem qX6_mend (l : Launch) (G : gT) (a : Nat → Nat) {p0 : Int32} {ss : Nat → Int32} {was : Nat → Int32} {beg : Nat → Int32} {asi : Nat → Int32} {sta : Int32} {txt : Nat → Int32} {typ : Int32} {att : Int32} {rea : Int32} {got : Nat → Int32} {row : Nat → Int32} {oth : Nat → Int32} {u : Int32 × (Nat → Int32) × (Nat → Int32) × (Nat → Int32) × (Nat → Int32) × Int32 × (Nat → Int32) × Int32 × Int32 × Int32 × (Nat → Int32) × (Nat → Int32) × (Nat → Int32)} (hf : fX6_mend p0 ss was beg asi sta txt typ att rea got row oth = some u) : gC l G yX6_mend wsX6_mend rmX6_mend [.ref (a 0), .int p0] (modW G a ss was beg asi sta txt typ att rea got row oth) (some (.int u.1)) (modW G a u.2.1 u.2.2.1 u.2.2.2.1 u.2.2.2.2.1 u.2.2.2.2.2.1 u.2.2.2.2.2.2.1 u.2.2.2.2.2.2.2.1 u.2.2.2.2.2.2.2.2.1 u.2.2.2.2.2.2.2.2.2.1 u.2.2.2.2.2.2.2.2.2.2.1 u.2.2.2.2.2.2.2.2.2.2.2.1 u.2.2.2.2.2.2.2.2.2.2.2.2) := by
  refine gC.of (cc := cX6_mend) (maxL := 2) (ret := (some .int)) (by decide) rfl (Nat.le_of_ble_eq_true rfl) ?_
  intro p e s m below meth c C0 hP hD hS ls hl
  obtain ⟨hx, hb, hr, hts, hown, hlocks, hml, hK⟩ := id C0
  have hl : lv_has ls 2 [(0, .ref (a 0)), (1, .int p0)] := hl
  have hA : ∀ q : Nat, s.heap.size ≤ q → va_A (modW G a ss was beg asi sta txt typ att rea got row oth) s.heap.size q := fun q h => Or.inr h
  have hP : va_P G.1 vwCl [((a 0), .inr (5, [.ref (a 1), .ref (a 2), .ref (a 3), .ref (a 4), .int sta, .ref (a 5), .int typ, .int att, .int rea, .ref (a 6), .ref (a 7), .ref (a 8)])), ((a 1), .inl (G.2.1, 411, .inl ss)), ((a 2), .inl (G.2.1, 1644, .inl was)), ((a 3), .inl (G.2.1, 411, .inl beg)), ((a 4), .inl (G.2.1, 411, .inl asi)), ((a 5), .inl (G.2.2.1, 60, .inl txt)), ((a 6), .inl (G.2.1, 4, .inl got)), ((a 7), .inl (G.2.1, 4, .inl row)), ((a 8), .inl (G.2.1, 4, .inl oth))] s.heap := hP
  have hD : va_D (va_A (modW G a ss was beg asi sta txt typ att rea got row oth) s.heap.size) [((a 0), .inr (5, [.ref (a 1), .ref (a 2), .ref (a 3), .ref (a 4), .int sta, .ref (a 5), .int typ, .int att, .int rea, .ref (a 6), .ref (a 7), .ref (a 8)])), ((a 1), .inl (G.2.1, 411, .inl ss)), ((a 2), .inl (G.2.1, 1644, .inl was)), ((a 3), .inl (G.2.1, 411, .inl beg)), ((a 4), .inl (G.2.1, 411, .inl asi)), ((a 5), .inl (G.2.2.1, 60, .inl txt)), ((a 6), .inl (G.2.1, 4, .inl got)), ((a 7), .inl (G.2.1, 4, .inl row)), ((a 8), .inl (G.2.1, 4, .inl oth))] := hD
  unfold fX6_mend at hf
  refine lv_aload_n hx hb dX6_mend_0 rfl (lv_at hl 0 rfl) ?_
  obtain ⟨r1, e2, hf⟩ := g_bdS hf
  refine g_contC (st1 := []) (g_runVC (As := []) (rest := []) ⟨hx, hb, hml, hown, hts⟩ (qX6_keeps l G a e2) (cwV 0 hts (TB_V TB_id tw_631 tw_633 tw_9 tw_54 tw_634) rfl rfl rfl (by decide +kernel) ⟨Nat.le_of_ble_eq_true rfl, Nat.le_of_ble_eq_true rfl⟩) hK (hP.sub [0, 1, 2, 3, 4, 5, 6, 7, 8] rfl) (hD.sub [0, 1, 2, 3, 4, 5, 6, 7, 8] (by decide) rfl) 0 rfl rfl rfl hl.1 rfl (Nat.le_of_ble_eq_true rfl) dX6_mend_1) rfl hP hD hS hA [0, 1, 2, 3, 4, 5, 6, 7, 8] rfl rfl (fun H locs hP hD hS => ?_)
  have hP : va_P G.1 vwCl [((a 0), .inr (5, [.ref (a 1), .ref (a 2), .ref (a 3), .ref (a 4), .int r1.2.2.2.2.1, .ref (a 5), .int r1.2.2.2.2.2.2.1, .int r1.2.2.2.2.2.2.2.1, .int r1.2.2.2.2.2.2.2.2.1, .ref (a 6), .ref (a 7), .ref (a 8)])), ((a 1), .inl (G.2.1, 411, .inl r1.1)), ((a 2), .inl (G.2.1, 1644, .inl r1.2.1)), ((a 3), .inl (G.2.1, 411, .inl r1.2.2.1)), ((a 4), .inl (G.2.1, 411, .inl r1.2.2.2.1)), ((a 5), .inl (G.2.2.1, 60, .inl r1.2.2.2.2.2.1)), ((a 6), .inl (G.2.1, 4, .inl r1.2.2.2.2.2.2.2.2.2.1)), ((a 7), .inl (G.2.1, 4, .inl r1.2.2.2.2.2.2.2.2.2.2.1)), ((a 8), .inl (G.2.1, 4, .inl r1.2.2.2.2.2.2.2.2.2.2.2))] H := hP
  have hD : va_D (va_A (modW G a ss was beg asi sta txt typ att rea got row oth) s.heap.size) [((a 0), .inr (5, [.ref (a 1), .ref (a 2), .ref (a 3), .ref (a 4), .int r1.2.2.2.2.1, .ref (a 5), .int r1.2.2.2.2.2.2.1, .int r1.2.2.2.2.2.2.2.1, .int r1.2.2.2.2.2.2.2.2.1, .ref (a 6), .ref (a 7), .ref (a 8)])), ((a 1), .inl (G.2.1, 411, .inl r1.1)), ((a 2), .inl (G.2.1, 1644, .inl r1.2.1)), ((a 3), .inl (G.2.1, 411, .inl r1.2.2.1)), ((a 4), .inl (G.2.1, 411, .inl r1.2.2.2.1)), ((a 5), .inl (G.2.2.1, 60, .inl r1.2.2.2.2.2.1)), ((a 6), .inl (G.2.1, 4, .inl r1.2.2.2.2.2.2.2.2.2.1)), ((a 7), .inl (G.2.1, 4, .inl r1.2.2.2.2.2.2.2.2.2.2.1)), ((a 8), .inl (G.2.1, 4, .inl r1.2.2.2.2.2.2.2.2.2.2.2))] := hD
  refine lv_aload_n hx hb dX6_mend_4 rfl (lv_at hl 0 rfl) ?_
  refine lv_aload_n hx hb dX6_mend_5 rfl (lv_at hl 0 rfl) ?_
  refine lv_iload_n hx hb dX6_mend_6 rfl (lv_at hl 1 rfl) ?_
  obtain ⟨r3, e4, hf⟩ := g_bdS hf
  refine g_contC (st1 := [.int r3.1, .ref (a 0)]) (g_runVC (As := [.int p0]) (rest := [.ref (a 0)]) ⟨hx, hb, hml, hown, hts⟩ (qX6_mends l G a e4) (cwV 1 hts (TB_V TB_id tw_783 tw_785 tw_34 tw_54 tw_786) rfl rfl rfl (by decide +kernel) ⟨Nat.le_of_ble_eq_true rfl, Nat.le_of_ble_eq_true rfl⟩) hK (hP.sub [0, 1, 2, 3, 4, 5, 6, 7, 8] rfl) (hD.sub [0, 1, 2, 3, 4, 5, 6, 7, 8] (by decide) rfl) 0 rfl rfl rfl hl.1 rfl (Nat.le_of_ble_eq_true rfl) dX6_mend_7) rfl hP hD hS hA [0, 1, 2, 3, 4, 5, 6, 7, 8] rfl rfl (fun H locs hP hD hS => ?_)
  have hP : va_P G.1 vwCl [((a 0), .inr (5, [.ref (a 1), .ref (a 2), .ref (a 3), .ref (a 4), .int r3.2.2.2.2.2.1, .ref (a 5), .int r3.2.2.2.2.2.2.2.1, .int r3.2.2.2.2.2.2.2.2.1, .int r3.2.2.2.2.2.2.2.2.2.1, .ref (a 6), .ref (a 7), .ref (a 8)])), ((a 1), .inl (G.2.1, 411, .inl r3.2.1)), ((a 2), .inl (G.2.1, 1644, .inl r3.2.2.1)), ((a 3), .inl (G.2.1, 411, .inl r3.2.2.2.1)), ((a 4), .inl (G.2.1, 411, .inl r3.2.2.2.2.1)), ((a 5), .inl (G.2.2.1, 60, .inl r3.2.2.2.2.2.2.1)), ((a 6), .inl (G.2.1, 4, .inl r3.2.2.2.2.2.2.2.2.2.2.1)), ((a 7), .inl (G.2.1, 4, .inl r3.2.2.2.2.2.2.2.2.2.2.2.1)), ((a 8), .inl (G.2.1, 4, .inl r3.2.2.2.2.2.2.2.2.2.2.2.2))] H := hP
  have hD : va_D (va_A (modW G a ss was beg asi sta txt typ att rea got row oth) s.heap.size) [((a 0), .inr (5, [.ref (a 1), .ref (a 2), .ref (a 3), .ref (a 4), .int r3.2.2.2.2.2.1, .ref (a 5), .int r3.2.2.2.2.2.2.2.1, .int r3.2.2.2.2.2.2.2.2.1, .int r3.2.2.2.2.2.2.2.2.2.1, .ref (a 6), .ref (a 7), .ref (a 8)])), ((a 1), .inl (G.2.1, 411, .inl r3.2.1)), ((a 2), .inl (G.2.1, 1644, .inl r3.2.2.1)), ((a 3), .inl (G.2.1, 411, .inl r3.2.2.2.1)), ((a 4), .inl (G.2.1, 411, .inl r3.2.2.2.2.1)), ((a 5), .inl (G.2.2.1, 60, .inl r3.2.2.2.2.2.2.1)), ((a 6), .inl (G.2.1, 4, .inl r3.2.2.2.2.2.2.2.2.2.2.1)), ((a 7), .inl (G.2.1, 4, .inl r3.2.2.2.2.2.2.2.2.2.2.2.1)), ((a 8), .inl (G.2.1, 4, .inl r3.2.2.2.2.2.2.2.2.2.2.2.2))] := hD
  obtain ⟨r5, e6, hf⟩ := g_bdS hf
  refine g_contC (st1 := [.int r5.1]) (g_runVC (As := [.int r3.1]) (rest := []) ⟨hx, hb, hml, hown, hts⟩ (qX6_acted l G a e6) (cwV 1 hts (TB_V TB_id tw_650 tw_652 tw_13 tw_54 tw_653) rfl rfl rfl (by decide +kernel) ⟨Nat.le_of_ble_eq_true rfl, Nat.le_of_ble_eq_true rfl⟩) hK (hP.sub [0, 1, 2, 3, 4, 5, 6, 7, 8] rfl) (hD.sub [0, 1, 2, 3, 4, 5, 6, 7, 8] (by decide) rfl) 0 rfl rfl rfl hl.1 rfl (Nat.le_of_ble_eq_true rfl) dX6_mend_10) rfl hP hD hS hA [0, 1, 2, 3, 4, 5, 6, 7, 8] rfl rfl (fun H locs hP hD hS => ?_)
  have hP : va_P G.1 vwCl [((a 0), .inr (5, [.ref (a 1), .ref (a 2), .ref (a 3), .ref (a 4), .int r5.2.2.2.2.2.1, .ref (a 5), .int r5.2.2.2.2.2.2.2.1, .int r5.2.2.2.2.2.2.2.2.1, .int r5.2.2.2.2.2.2.2.2.2.1, .ref (a 6), .ref (a 7), .ref (a 8)])), ((a 1), .inl (G.2.1, 411, .inl r5.2.1)), ((a 2), .inl (G.2.1, 1644, .inl r5.2.2.1)), ((a 3), .inl (G.2.1, 411, .inl r5.2.2.2.1)), ((a 4), .inl (G.2.1, 411, .inl r5.2.2.2.2.1)), ((a 5), .inl (G.2.2.1, 60, .inl r5.2.2.2.2.2.2.1)), ((a 6), .inl (G.2.1, 4, .inl r5.2.2.2.2.2.2.2.2.2.2.1)), ((a 7), .inl (G.2.1, 4, .inl r5.2.2.2.2.2.2.2.2.2.2.2.1)), ((a 8), .inl (G.2.1, 4, .inl r5.2.2.2.2.2.2.2.2.2.2.2.2))] H := hP
  have hD : va_D (va_A (modW G a ss was beg asi sta txt typ att rea got row oth) s.heap.size) [((a 0), .inr (5, [.ref (a 1), .ref (a 2), .ref (a 3), .ref (a 4), .int r5.2.2.2.2.2.1, .ref (a 5), .int r5.2.2.2.2.2.2.2.1, .int r5.2.2.2.2.2.2.2.2.1, .int r5.2.2.2.2.2.2.2.2.2.1, .ref (a 6), .ref (a 7), .ref (a 8)])), ((a 1), .inl (G.2.1, 411, .inl r5.2.1)), ((a 2), .inl (G.2.1, 1644, .inl r5.2.2.1)), ((a 3), .inl (G.2.1, 411, .inl r5.2.2.2.1)), ((a 4), .inl (G.2.1, 411, .inl r5.2.2.2.2.1)), ((a 5), .inl (G.2.2.1, 60, .inl r5.2.2.2.2.2.2.1)), ((a 6), .inl (G.2.1, 4, .inl r5.2.2.2.2.2.2.2.2.2.2.1)), ((a 7), .inl (G.2.1, 4, .inl r5.2.2.2.2.2.2.2.2.2.2.2.1)), ((a 8), .inl (G.2.1, 4, .inl r5.2.2.2.2.2.2.2.2.2.2.2.2))] := hD
  cases hf
  exact g_iretC hx hb hr hlocks hP hD hS dX6_mend_13
