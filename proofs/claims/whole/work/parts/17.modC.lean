-- TwoShapesModel.reads(II)Z
abbrev rmX6_reads : Room := { frames := 3, cells := 0, slots := 0, locals := 67 }
def fX6_reads_b156 (x1 : Int32) (x2 : Int32) (t0 : Int32) (ss : Nat → Int32) (was : Nat → Int32) (beg : Nat → Int32) (asi : Nat → Int32) (sta : Int32) (txt : Nat → Int32) (typ : Int32) (att : Int32) (rea : Int32) (got : Nat → Int32) (row : Nat → Int32) (oth : Nat → Int32) : Option (Int32 × (Nat → Int32) × (Nat → Int32) × (Nat → Int32) × (Nat → Int32) × Int32 × (Nat → Int32) × Int32 × Int32 × Int32 × (Nat → Int32) × (Nat → Int32) × (Nat → Int32)) := ((fX6_takes t0 x1 ss was beg asi sta txt typ att rea got row oth).bind fun r9 => ((fX6_makes t0 x2 r9.1 r9.2.1 r9.2.2.1 r9.2.2.2.1 r9.2.2.2.2.1 r9.2.2.2.2.2.1 r9.2.2.2.2.2.2.1 r9.2.2.2.2.2.2.2.1 r9.2.2.2.2.2.2.2.2.1 r9.2.2.2.2.2.2.2.2.2.1 r9.2.2.2.2.2.2.2.2.2.2.1 r9.2.2.2.2.2.2.2.2.2.2.2).bind fun r11 => g_gd (g_in (0 : Int32) 4) ((if (r11.2.2.2.2.2.2.2.2.2.2.1 (0 : Int32).toNatClampNeg) = (1 : Int32) then some ((1 : Int32), r11.1, r11.2.1, r11.2.2.1, r11.2.2.2.1, r11.2.2.2.2.1, r11.2.2.2.2.2.1, r11.2.2.2.2.2.2.1, r11.2.2.2.2.2.2.2.1, r11.2.2.2.2.2.2.2.2.1, r11.2.2.2.2.2.2.2.2.2.1, r11.2.2.2.2.2.2.2.2.2.2.1, r11.2.2.2.2.2.2.2.2.2.2.2) else some ((0 : Int32), r11.1, r11.2.1, r11.2.2.1, r11.2.2.2.1, r11.2.2.2.2.1, r11.2.2.2.2.2.1, r11.2.2.2.2.2.2.1, r11.2.2.2.2.2.2.2.1, r11.2.2.2.2.2.2.2.2.1, r11.2.2.2.2.2.2.2.2.2.1, r11.2.2.2.2.2.2.2.2.2.2.1, r11.2.2.2.2.2.2.2.2.2.2.2)))))
set_option maxHeartbeats 4000000 in
set_option maxRecDepth 100000 in
theorem kX6_reads_b156 {p : Program} {l : Launch} {e : Env} {s : State} {m : MethodId} {args : Array Value} {below : List Frame} {meth : Method} {c : Code} {G : gT} {a : Nat → Nat} {w0 : va_W} (C0 : gX p s m args meth c cX6_reads 6 (some .boolean) RX6 G) :
    ∀ (x1 : Int32) (x2 : Int32) (t0 : Int32) (ss : Nat → Int32) (was : Nat → Int32) (beg : Nat → Int32) (asi : Nat → Int32) (sta : Int32) (txt : Nat → Int32) (typ : Int32) (att : Int32) (rea : Int32) (got : Nat → Int32) (row : Nat → Int32) (oth : Nat → Int32) (u : Int32 × (Nat → Int32) × (Nat → Int32) × (Nat → Int32) × (Nat → Int32) × Int32 × (Nat → Int32) × Int32 × Int32 × Int32 × (Nat → Int32) × (Nat → Int32) × (Nat → Int32)), fX6_reads_b156 x1 x2 t0 ss was beg asi sta txt typ att rea got row oth = some u → ∀ (H : Heap) (locs : List Loc), va_P G.1 vwCl [((a 0), .inr (5, [.ref (a 1), .ref (a 2), .ref (a 3), .ref (a 4), .int sta, .ref (a 5), .int typ, .int att, .int rea, .ref (a 6), .ref (a 7), .ref (a 8)])), ((a 1), .inl (G.2.1, 411, .inl ss)), ((a 2), .inl (G.2.1, 1644, .inl was)), ((a 3), .inl (G.2.1, 411, .inl beg)), ((a 4), .inl (G.2.1, 411, .inl asi)), ((a 5), .inl (G.2.2.1, 60, .inl txt)), ((a 6), .inl (G.2.1, 4, .inl got)), ((a 7), .inl (G.2.1, 4, .inl row)), ((a 8), .inl (G.2.1, 4, .inl oth))] H → va_D (va_A w0 s.heap.size) [((a 0), .inr (5, [.ref (a 1), .ref (a 2), .ref (a 3), .ref (a 4), .int sta, .ref (a 5), .int typ, .int att, .int rea, .ref (a 6), .ref (a 7), .ref (a 8)])), ((a 1), .inl (G.2.1, 411, .inl ss)), ((a 2), .inl (G.2.1, 1644, .inl was)), ((a 3), .inl (G.2.1, 411, .inl beg)), ((a 4), .inl (G.2.1, 411, .inl asi)), ((a 5), .inl (G.2.2.1, 60, .inl txt)), ((a 6), .inl (G.2.1, 4, .inl got)), ((a 7), .inl (G.2.1, 4, .inl row)), ((a 8), .inl (G.2.1, 4, .inl oth))] → va_S (va_A w0 s.heap.size) s.heap H locs → ∀ ls, lv_has ls 6 [(0, .ref (a 0)), (1, .int x1), (2, .int x2)] → gW p l e (headSpec wsX6_reads rmX6_reads).room s m args below meth c G w0 (some (.int u.1)) (modW G a u.2.1 u.2.2.1 u.2.2.2.1 u.2.2.2.2.1 u.2.2.2.2.2.1 u.2.2.2.2.2.2.1 u.2.2.2.2.2.2.2.1 u.2.2.2.2.2.2.2.2.1 u.2.2.2.2.2.2.2.2.2.1 u.2.2.2.2.2.2.2.2.2.2.1 u.2.2.2.2.2.2.2.2.2.2.2.1 u.2.2.2.2.2.2.2.2.2.2.2.2) H locs 156 ls [.int t0] := by
  obtain ⟨hx, hb, hr, hts, hown, hlocks, hml, hK⟩ := id C0
  have hA : ∀ q : Nat, s.heap.size ≤ q → va_A w0 s.heap.size q := fun q h => Or.inr h
  intro x1 x2 t0 ss was beg asi sta txt typ att rea got row oth u hf H locs hP hD hS ls hl
  unfold fX6_reads_b156 at hf
  refine lv_istore_n (lv' := [(3, .int t0), (0, .ref (a 0)), (1, .int x1), (2, .int x2)]) hx hb dX6_reads_156 rfl hl (by decide) rfl (fun ls hl => ?_)
  refine lv_aload_n hx hb dX6_reads_157 rfl (lv_at hl 1 rfl) ?_
  refine lv_iload_n hx hb dX6_reads_158 rfl (lv_at hl 0 rfl) ?_
  refine lv_iload_n hx hb dX6_reads_159 rfl (lv_at hl 2 rfl) ?_
  obtain ⟨r9, e10, hf⟩ := g_bdS hf
  refine g_contC (st1 := []) (g_runVC (As := [.int t0, .int x1]) (rest := []) ⟨hx, hb, hml, hown, hts⟩ (qX6_takes l G a e10) (cwV 2 hts (TB_V TB_id tw_675 tw_677 tw_18 tw_54 tw_678) rfl rfl rfl (by decide +kernel) ⟨Nat.le_of_ble_eq_true rfl, Nat.le_of_ble_eq_true rfl⟩) hK (hP.sub [0, 1, 2, 3, 4, 5, 6, 7, 8] rfl) (hD.sub [0, 1, 2, 3, 4, 5, 6, 7, 8] (by decide) rfl) 0 rfl rfl rfl hl.1 rfl (Nat.le_of_ble_eq_true rfl) dX6_reads_160) rfl hP hD hS hA [0, 1, 2, 3, 4, 5, 6, 7, 8] rfl rfl (fun H locs hP hD hS => ?_)
  have hP : va_P G.1 vwCl [((a 0), .inr (5, [.ref (a 1), .ref (a 2), .ref (a 3), .ref (a 4), .int r9.2.2.2.2.1, .ref (a 5), .int r9.2.2.2.2.2.2.1, .int r9.2.2.2.2.2.2.2.1, .int r9.2.2.2.2.2.2.2.2.1, .ref (a 6), .ref (a 7), .ref (a 8)])), ((a 1), .inl (G.2.1, 411, .inl r9.1)), ((a 2), .inl (G.2.1, 1644, .inl r9.2.1)), ((a 3), .inl (G.2.1, 411, .inl r9.2.2.1)), ((a 4), .inl (G.2.1, 411, .inl r9.2.2.2.1)), ((a 5), .inl (G.2.2.1, 60, .inl r9.2.2.2.2.2.1)), ((a 6), .inl (G.2.1, 4, .inl r9.2.2.2.2.2.2.2.2.2.1)), ((a 7), .inl (G.2.1, 4, .inl r9.2.2.2.2.2.2.2.2.2.2.1)), ((a 8), .inl (G.2.1, 4, .inl r9.2.2.2.2.2.2.2.2.2.2.2))] H := hP
  have hD : va_D (va_A w0 s.heap.size) [((a 0), .inr (5, [.ref (a 1), .ref (a 2), .ref (a 3), .ref (a 4), .int r9.2.2.2.2.1, .ref (a 5), .int r9.2.2.2.2.2.2.1, .int r9.2.2.2.2.2.2.2.1, .int r9.2.2.2.2.2.2.2.2.1, .ref (a 6), .ref (a 7), .ref (a 8)])), ((a 1), .inl (G.2.1, 411, .inl r9.1)), ((a 2), .inl (G.2.1, 1644, .inl r9.2.1)), ((a 3), .inl (G.2.1, 411, .inl r9.2.2.1)), ((a 4), .inl (G.2.1, 411, .inl r9.2.2.2.1)), ((a 5), .inl (G.2.2.1, 60, .inl r9.2.2.2.2.2.1)), ((a 6), .inl (G.2.1, 4, .inl r9.2.2.2.2.2.2.2.2.2.1)), ((a 7), .inl (G.2.1, 4, .inl r9.2.2.2.2.2.2.2.2.2.2.1)), ((a 8), .inl (G.2.1, 4, .inl r9.2.2.2.2.2.2.2.2.2.2.2))] := hD
  refine lv_aload_n hx hb dX6_reads_163 rfl (lv_at hl 1 rfl) ?_
  refine lv_iload_n hx hb dX6_reads_164 rfl (lv_at hl 0 rfl) ?_
  refine lv_iload_n hx hb dX6_reads_165 rfl (lv_at hl 3 rfl) ?_
  obtain ⟨r11, e12, hf⟩ := g_bdS hf
  refine g_contC (st1 := []) (g_runVC (As := [.int t0, .int x2]) (rest := []) ⟨hx, hb, hml, hown, hts⟩ (qX6_makes l G a e12) (cwV 2 hts (TB_V TB_id tw_679 tw_681 tw_19 tw_54 tw_682) rfl rfl rfl (by decide +kernel) ⟨Nat.le_of_ble_eq_true rfl, Nat.le_of_ble_eq_true rfl⟩) hK (hP.sub [0, 1, 2, 3, 4, 5, 6, 7, 8] rfl) (hD.sub [0, 1, 2, 3, 4, 5, 6, 7, 8] (by decide) rfl) 0 rfl rfl rfl hl.1 rfl (Nat.le_of_ble_eq_true rfl) dX6_reads_166) rfl hP hD hS hA [0, 1, 2, 3, 4, 5, 6, 7, 8] rfl rfl (fun H locs hP hD hS => ?_)
  have hP : va_P G.1 vwCl [((a 0), .inr (5, [.ref (a 1), .ref (a 2), .ref (a 3), .ref (a 4), .int r11.2.2.2.2.1, .ref (a 5), .int r11.2.2.2.2.2.2.1, .int r11.2.2.2.2.2.2.2.1, .int r11.2.2.2.2.2.2.2.2.1, .ref (a 6), .ref (a 7), .ref (a 8)])), ((a 1), .inl (G.2.1, 411, .inl r11.1)), ((a 2), .inl (G.2.1, 1644, .inl r11.2.1)), ((a 3), .inl (G.2.1, 411, .inl r11.2.2.1)), ((a 4), .inl (G.2.1, 411, .inl r11.2.2.2.1)), ((a 5), .inl (G.2.2.1, 60, .inl r11.2.2.2.2.2.1)), ((a 6), .inl (G.2.1, 4, .inl r11.2.2.2.2.2.2.2.2.2.1)), ((a 7), .inl (G.2.1, 4, .inl r11.2.2.2.2.2.2.2.2.2.2.1)), ((a 8), .inl (G.2.1, 4, .inl r11.2.2.2.2.2.2.2.2.2.2.2))] H := hP
  have hD : va_D (va_A w0 s.heap.size) [((a 0), .inr (5, [.ref (a 1), .ref (a 2), .ref (a 3), .ref (a 4), .int r11.2.2.2.2.1, .ref (a 5), .int r11.2.2.2.2.2.2.1, .int r11.2.2.2.2.2.2.2.1, .int r11.2.2.2.2.2.2.2.2.1, .ref (a 6), .ref (a 7), .ref (a 8)])), ((a 1), .inl (G.2.1, 411, .inl r11.1)), ((a 2), .inl (G.2.1, 1644, .inl r11.2.1)), ((a 3), .inl (G.2.1, 411, .inl r11.2.2.1)), ((a 4), .inl (G.2.1, 411, .inl r11.2.2.2.1)), ((a 5), .inl (G.2.2.1, 60, .inl r11.2.2.2.2.2.1)), ((a 6), .inl (G.2.1, 4, .inl r11.2.2.2.2.2.2.2.2.2.1)), ((a 7), .inl (G.2.1, 4, .inl r11.2.2.2.2.2.2.2.2.2.2.1)), ((a 8), .inl (G.2.1, 4, .inl r11.2.2.2.2.2.2.2.2.2.2.2))] := hD
  refine lv_aload_n hx hb dX6_reads_169 rfl (lv_at hl 1 rfl) ?_
  refine va_get (D := G.1) (ci := 5) (v := .ref (a 7)) (C := RX6) (T := TX6) (N := 12) hx hb hts hX6 hown hK.1 hP 0 rfl rfl 10 (by decide) (hts _ tw_598) (fun _ h9 => h9) rfl dX6_reads_170 ?_
  refine lv_iconst (v := (0 : Int32)) hx hb dX6_reads_173 (by decide) ?_
  obtain ⟨g13, hf⟩ := g_gdS hf
  refine va_iald hx hb hK.1 hP 7 0 rfl rfl (g_in_vp g13) dX6_reads_174 ?_
  refine lv_iconst (v := (1 : Int32)) hx hb dX6_reads_175 (by decide) ?_
  refine lv_icmp_ne (tgt := 183) hx hb dX6_reads_176 (by decide) (fun c14 => ?_) (fun c14 => ?_)
  · have hf := g_ifF c14 hf
    refine lv_iconst (v := (0 : Int32)) hx hb dX6_reads_183 (by decide) ?_
    cases hf
    exact g_zretC hx hb hr hlocks g_nb0 hP hD hS dX6_reads_184
  · have hf := g_ifT c14 hf
    refine lv_iconst (v := (1 : Int32)) hx hb dX6_reads_179 (by decide) ?_
    refine lv_goto (tgt := 184) hx hb dX6_reads_180 (by decide) ?_
    cases hf
    exact g_zretC hx hb hr hlocks g_nb1 hP hD hS dX6_reads_184
def fX6_reads_b155 (x1 : Int32) (x2 : Int32) (x3 : Int32) (ss : Nat → Int32) (was : Nat → Int32) (beg : Nat → Int32) (asi : Nat → Int32) (sta : Int32) (txt : Nat → Int32) (typ : Int32) (att : Int32) (rea : Int32) (got : Nat → Int32) (row : Nat → Int32) (oth : Nat → Int32) : Option (Int32 × (Nat → Int32) × (Nat → Int32) × (Nat → Int32) × (Nat → Int32) × Int32 × (Nat → Int32) × Int32 × Int32 × Int32 × (Nat → Int32) × (Nat → Int32) × (Nat → Int32)) := fX6_reads_b156 x1 x2 x3 ss was beg asi sta txt typ att rea got row oth
set_option maxHeartbeats 4000000 in
set_option maxRecDepth 100000 in
theorem kX6_reads_b155 {p : Program} {l : Launch} {e : Env} {s : State} {m : MethodId} {args : Array Value} {below : List Frame} {meth : Method} {c : Code} {G : gT} {a : Nat → Nat} {w0 : va_W} (C0 : gX p s m args meth c cX6_reads 6 (some .boolean) RX6 G) :
    ∀ (x1 : Int32) (x2 : Int32) (x3 : Int32) (ss : Nat → Int32) (was : Nat → Int32) (beg : Nat → Int32) (asi : Nat → Int32) (sta : Int32) (txt : Nat → Int32) (typ : Int32) (att : Int32) (rea : Int32) (got : Nat → Int32) (row : Nat → Int32) (oth : Nat → Int32) (u : Int32 × (Nat → Int32) × (Nat → Int32) × (Nat → Int32) × (Nat → Int32) × Int32 × (Nat → Int32) × Int32 × Int32 × Int32 × (Nat → Int32) × (Nat → Int32) × (Nat → Int32)), fX6_reads_b155 x1 x2 x3 ss was beg asi sta txt typ att rea got row oth = some u → ∀ (H : Heap) (locs : List Loc), va_P G.1 vwCl [((a 0), .inr (5, [.ref (a 1), .ref (a 2), .ref (a 3), .ref (a 4), .int sta, .ref (a 5), .int typ, .int att, .int rea, .ref (a 6), .ref (a 7), .ref (a 8)])), ((a 1), .inl (G.2.1, 411, .inl ss)), ((a 2), .inl (G.2.1, 1644, .inl was)), ((a 3), .inl (G.2.1, 411, .inl beg)), ((a 4), .inl (G.2.1, 411, .inl asi)), ((a 5), .inl (G.2.2.1, 60, .inl txt)), ((a 6), .inl (G.2.1, 4, .inl got)), ((a 7), .inl (G.2.1, 4, .inl row)), ((a 8), .inl (G.2.1, 4, .inl oth))] H → va_D (va_A w0 s.heap.size) [((a 0), .inr (5, [.ref (a 1), .ref (a 2), .ref (a 3), .ref (a 4), .int sta, .ref (a 5), .int typ, .int att, .int rea, .ref (a 6), .ref (a 7), .ref (a 8)])), ((a 1), .inl (G.2.1, 411, .inl ss)), ((a 2), .inl (G.2.1, 1644, .inl was)), ((a 3), .inl (G.2.1, 411, .inl beg)), ((a 4), .inl (G.2.1, 411, .inl asi)), ((a 5), .inl (G.2.2.1, 60, .inl txt)), ((a 6), .inl (G.2.1, 4, .inl got)), ((a 7), .inl (G.2.1, 4, .inl row)), ((a 8), .inl (G.2.1, 4, .inl oth))] → va_S (va_A w0 s.heap.size) s.heap H locs → ∀ ls, lv_has ls 6 [(0, .ref (a 0)), (1, .int x1), (2, .int x2), (3, .int x3)] → gW p l e (headSpec wsX6_reads rmX6_reads).room s m args below meth c G w0 (some (.int u.1)) (modW G a u.2.1 u.2.2.1 u.2.2.2.1 u.2.2.2.2.1 u.2.2.2.2.2.1 u.2.2.2.2.2.2.1 u.2.2.2.2.2.2.2.1 u.2.2.2.2.2.2.2.2.1 u.2.2.2.2.2.2.2.2.2.1 u.2.2.2.2.2.2.2.2.2.2.1 u.2.2.2.2.2.2.2.2.2.2.2.1 u.2.2.2.2.2.2.2.2.2.2.2.2) H locs 155 ls [] := by
  obtain ⟨hx, hb, hr, hts, hown, hlocks, hml, hK⟩ := id C0
  have hA : ∀ q : Nat, s.heap.size ≤ q → va_A w0 s.heap.size q := fun q h => Or.inr h
  intro x1 x2 x3 ss was beg asi sta txt typ att rea got row oth u hf H locs hP hD hS ls hl
  unfold fX6_reads_b155 at hf
  refine lv_iload_n hx hb dX6_reads_155 rfl (lv_at hl 3 rfl) ?_
  exact kX6_reads_b156 C0 _ _ _ _ _ _ _ _ _ _ _ _ _ _ _ _ hf _ _ hP hD hS ls (lv_sub hl [0, 1, 2] rfl)
def fX6_reads_b126 (x1 : Int32) (x2 : Int32) (x3 : Int32) (ss : Nat → Int32) (was : Nat → Int32) (beg : Nat → Int32) (asi : Nat → Int32) (sta : Int32) (txt : Nat → Int32) (typ : Int32) (att : Int32) (rea : Int32) (got : Nat → Int32) (row : Nat → Int32) (oth : Nat → Int32) : Option (Int32 × (Nat → Int32) × (Nat → Int32) × (Nat → Int32) × (Nat → Int32) × Int32 × (Nat → Int32) × Int32 × Int32 × Int32 × (Nat → Int32) × (Nat → Int32) × (Nat → Int32)) := g_gd (g_in (0 : Int32) 411) ((if (ss (0 : Int32).toNatClampNeg) = (1 : Int32) then (if x2 = (1 : Int32) then ((fX6_of (1 : Int32) x1 (0 : Int32) ss was beg asi sta txt typ att rea got row oth).bind fun r16 => (if r16 = (0 : Int32) then fX6_reads_b156 x1 x2 (0 : Int32) ss was beg asi sta txt typ att rea got row oth else fX6_reads_b155 x1 x2 x3 ss was beg asi sta txt typ att rea got row oth)) else fX6_reads_b155 x1 x2 x3 ss was beg asi sta txt typ att rea got row oth) else fX6_reads_b155 x1 x2 x3 ss was beg asi sta txt typ att rea got row oth))
set_option maxHeartbeats 4000000 in
set_option maxRecDepth 100000 in
theorem kX6_reads_b126 {p : Program} {l : Launch} {e : Env} {s : State} {m : MethodId} {args : Array Value} {below : List Frame} {meth : Method} {c : Code} {G : gT} {a : Nat → Nat} {w0 : va_W} (C0 : gX p s m args meth c cX6_reads 6 (some .boolean) RX6 G) :
    ∀ (x1 : Int32) (x2 : Int32) (x3 : Int32) (ss : Nat → Int32) (was : Nat → Int32) (beg : Nat → Int32) (asi : Nat → Int32) (sta : Int32) (txt : Nat → Int32) (typ : Int32) (att : Int32) (rea : Int32) (got : Nat → Int32) (row : Nat → Int32) (oth : Nat → Int32) (u : Int32 × (Nat → Int32) × (Nat → Int32) × (Nat → Int32) × (Nat → Int32) × Int32 × (Nat → Int32) × Int32 × Int32 × Int32 × (Nat → Int32) × (Nat → Int32) × (Nat → Int32)), fX6_reads_b126 x1 x2 x3 ss was beg asi sta txt typ att rea got row oth = some u → ∀ (H : Heap) (locs : List Loc), va_P G.1 vwCl [((a 0), .inr (5, [.ref (a 1), .ref (a 2), .ref (a 3), .ref (a 4), .int sta, .ref (a 5), .int typ, .int att, .int rea, .ref (a 6), .ref (a 7), .ref (a 8)])), ((a 1), .inl (G.2.1, 411, .inl ss)), ((a 2), .inl (G.2.1, 1644, .inl was)), ((a 3), .inl (G.2.1, 411, .inl beg)), ((a 4), .inl (G.2.1, 411, .inl asi)), ((a 5), .inl (G.2.2.1, 60, .inl txt)), ((a 6), .inl (G.2.1, 4, .inl got)), ((a 7), .inl (G.2.1, 4, .inl row)), ((a 8), .inl (G.2.1, 4, .inl oth))] H → va_D (va_A w0 s.heap.size) [((a 0), .inr (5, [.ref (a 1), .ref (a 2), .ref (a 3), .ref (a 4), .int sta, .ref (a 5), .int typ, .int att, .int rea, .ref (a 6), .ref (a 7), .ref (a 8)])), ((a 1), .inl (G.2.1, 411, .inl ss)), ((a 2), .inl (G.2.1, 1644, .inl was)), ((a 3), .inl (G.2.1, 411, .inl beg)), ((a 4), .inl (G.2.1, 411, .inl asi)), ((a 5), .inl (G.2.2.1, 60, .inl txt)), ((a 6), .inl (G.2.1, 4, .inl got)), ((a 7), .inl (G.2.1, 4, .inl row)), ((a 8), .inl (G.2.1, 4, .inl oth))] → va_S (va_A w0 s.heap.size) s.heap H locs → ∀ ls, lv_has ls 6 [(0, .ref (a 0)), (1, .int x1), (2, .int x2), (3, .int x3)] → gW p l e (headSpec wsX6_reads rmX6_reads).room s m args below meth c G w0 (some (.int u.1)) (modW G a u.2.1 u.2.2.1 u.2.2.2.1 u.2.2.2.2.1 u.2.2.2.2.2.1 u.2.2.2.2.2.2.1 u.2.2.2.2.2.2.2.1 u.2.2.2.2.2.2.2.2.1 u.2.2.2.2.2.2.2.2.2.1 u.2.2.2.2.2.2.2.2.2.2.1 u.2.2.2.2.2.2.2.2.2.2.2.1 u.2.2.2.2.2.2.2.2.2.2.2.2) H locs 126 ls [] := by
  obtain ⟨hx, hb, hr, hts, hown, hlocks, hml, hK⟩ := id C0
  have hA : ∀ q : Nat, s.heap.size ≤ q → va_A w0 s.heap.size q := fun q h => Or.inr h
  intro x1 x2 x3 ss was beg asi sta txt typ att rea got row oth u hf H locs hP hD hS ls hl
  unfold fX6_reads_b126 at hf
  refine lv_aload_n hx hb dX6_reads_126 rfl (lv_at hl 0 rfl) ?_
  refine va_get (D := G.1) (ci := 5) (v := .ref (a 1)) (C := RX6) (T := TX6) (N := 12) hx hb hts hX6 hown hK.1 hP 0 rfl rfl 0 (by decide) (hts _ tw_588) (fun _ h9 => h9) rfl dX6_reads_127 ?_
  refine lv_iconst (v := (0 : Int32)) hx hb dX6_reads_130 (by decide) ?_
  obtain ⟨g7, hf⟩ := g_gdS hf
  refine va_iald hx hb hK.1 hP 1 0 rfl rfl (g_in_vp g7) dX6_reads_131 ?_
  refine lv_iconst (v := (1 : Int32)) hx hb dX6_reads_132 (by decide) ?_
  refine lv_icmp_ne (tgt := 155) hx hb dX6_reads_133 (by decide) (fun c8 => ?_) (fun c8 => ?_)
  · have hf := g_ifF c8 hf
    exact kX6_reads_b155 C0 _ _ _ _ _ _ _ _ _ _ _ _ _ _ _ _ hf _ _ hP hD hS ls (lv_sub hl [0, 1, 2, 3] rfl)
  · have hf := g_ifT c8 hf
    refine lv_iload_n hx hb dX6_reads_136 rfl (lv_at hl 2 rfl) ?_
    refine lv_iconst (v := (1 : Int32)) hx hb dX6_reads_137 (by decide) ?_
    refine lv_icmp_ne (tgt := 155) hx hb dX6_reads_138 (by decide) (fun c15 => ?_) (fun c15 => ?_)
    · have hf := g_ifF c15 hf
      exact kX6_reads_b155 C0 _ _ _ _ _ _ _ _ _ _ _ _ _ _ _ _ hf _ _ hP hD hS ls (lv_sub hl [0, 1, 2, 3] rfl)
    · have hf := g_ifT c15 hf
      refine lv_aload_n hx hb dX6_reads_141 rfl (lv_at hl 0 rfl) ?_
      refine lv_iconst (v := (1 : Int32)) hx hb dX6_reads_142 (by decide) ?_
      refine lv_iload_n hx hb dX6_reads_143 rfl (lv_at hl 1 rfl) ?_
      refine lv_iconst (v := (0 : Int32)) hx hb dX6_reads_144 (by decide) ?_
      obtain ⟨r16, e17, hf⟩ := g_bdS hf
      refine g_contR (st1 := [.int r16]) (g_runVR (As := [.int (1 : Int32), .int x1, .int (0 : Int32)]) (rest := []) ⟨hx, hb, hml, hown, hts⟩ (qX6_of l G a e17) (cwV 3 hts (TB_V TB_id tw_643 tw_645 tw_12 tw_54 tw_646) rfl rfl rfl (by decide +kernel) ⟨Nat.le_of_ble_eq_true rfl, Nat.le_of_ble_eq_true rfl⟩) hK (hP.sub [0, 1, 2, 3, 4, 5, 6, 7, 8] rfl) 0 rfl rfl rfl hl.1 rfl (Nat.le_of_ble_eq_true rfl) dX6_reads_145) rfl ?_
      refine lv_if_ne (tgt := 155) hx hb dX6_reads_148 (by decide) (fun c18 => ?_) (fun c18 => ?_)
      · have hf := g_ifF c18 hf
        exact kX6_reads_b155 C0 _ _ _ _ _ _ _ _ _ _ _ _ _ _ _ _ hf _ _ hP hD hS ls (lv_sub hl [0, 1, 2, 3] rfl)
      · have hf := g_ifT c18 hf
        refine lv_iconst (v := (0 : Int32)) hx hb dX6_reads_151 (by decide) ?_
        refine lv_goto (tgt := 156) hx hb dX6_reads_152 (by decide) ?_
        exact kX6_reads_b156 C0 _ _ _ _ _ _ _ _ _ _ _ _ _ _ _ _ hf _ _ hP hD hS ls (lv_sub hl [0, 1, 2] rfl)
def fX6_reads_b73 : Nat → Int32 → Int32 → (Nat → Int32) → (Nat → Int32) → (Nat → Int32) → (Nat → Int32) → Int32 → (Nat → Int32) → Int32 → Int32 → Int32 → (Nat → Int32) → (Nat → Int32) → (Nat → Int32) → Option (Int32 × (Nat → Int32) × (Nat → Int32) × (Nat → Int32) × (Nat → Int32) × Int32 × (Nat → Int32) × Int32 × Int32 × Int32 × (Nat → Int32) × (Nat → Int32) × (Nat → Int32))
  | 0, _, _, _, _, _, _, _, _, _, _, _, _, _, _ => none
  | n + 1, x4, x5, ss, was, beg, asi, sta, txt, typ, att, rea, got, row, oth => (if (4 : Int32) ≤ x5 then g_gd (g_in (0 : Int32) 4) ((if (row (0 : Int32).toNatClampNeg) = (1 : Int32) then some ((1 : Int32), ss, was, beg, asi, sta, txt, typ, att, rea, got, row, oth) else some ((0 : Int32), ss, was, beg, asi, sta, txt, typ, att, rea, got, row, oth))) else g_gd (g_in ((((14 : Int32) + ((7 : Int32) * x4)) + (3 : Int32)) + x5) 411) (g_gd (g_in x5 4) (fX6_reads_b73 n x4 (x5 + (1 : Int32)) ss was beg asi sta txt typ att rea got (upd row x5.toNatClampNeg (ss ((((14 : Int32) + ((7 : Int32) * x4)) + (3 : Int32)) + x5).toNatClampNeg)) oth)))
set_option maxHeartbeats 4000000 in
set_option maxRecDepth 100000 in
theorem kX6_reads_b73 {p : Program} {l : Launch} {e : Env} {s : State} {m : MethodId} {args : Array Value} {below : List Frame} {meth : Method} {c : Code} {G : gT} {a : Nat → Nat} {w0 : va_W} (C0 : gX p s m args meth c cX6_reads 6 (some .boolean) RX6 G) :
    ∀ (n : Nat) (x4 : Int32) (x5 : Int32) (ss : Nat → Int32) (was : Nat → Int32) (beg : Nat → Int32) (asi : Nat → Int32) (sta : Int32) (txt : Nat → Int32) (typ : Int32) (att : Int32) (rea : Int32) (got : Nat → Int32) (row : Nat → Int32) (oth : Nat → Int32) (u : Int32 × (Nat → Int32) × (Nat → Int32) × (Nat → Int32) × (Nat → Int32) × Int32 × (Nat → Int32) × Int32 × Int32 × Int32 × (Nat → Int32) × (Nat → Int32) × (Nat → Int32)), fX6_reads_b73 n x4 x5 ss was beg asi sta txt typ att rea got row oth = some u → ∀ (H : Heap) (locs : List Loc), va_P G.1 vwCl [((a 0), .inr (5, [.ref (a 1), .ref (a 2), .ref (a 3), .ref (a 4), .int sta, .ref (a 5), .int typ, .int att, .int rea, .ref (a 6), .ref (a 7), .ref (a 8)])), ((a 1), .inl (G.2.1, 411, .inl ss)), ((a 2), .inl (G.2.1, 1644, .inl was)), ((a 3), .inl (G.2.1, 411, .inl beg)), ((a 4), .inl (G.2.1, 411, .inl asi)), ((a 5), .inl (G.2.2.1, 60, .inl txt)), ((a 6), .inl (G.2.1, 4, .inl got)), ((a 7), .inl (G.2.1, 4, .inl row)), ((a 8), .inl (G.2.1, 4, .inl oth))] H → va_D (va_A w0 s.heap.size) [((a 0), .inr (5, [.ref (a 1), .ref (a 2), .ref (a 3), .ref (a 4), .int sta, .ref (a 5), .int typ, .int att, .int rea, .ref (a 6), .ref (a 7), .ref (a 8)])), ((a 1), .inl (G.2.1, 411, .inl ss)), ((a 2), .inl (G.2.1, 1644, .inl was)), ((a 3), .inl (G.2.1, 411, .inl beg)), ((a 4), .inl (G.2.1, 411, .inl asi)), ((a 5), .inl (G.2.2.1, 60, .inl txt)), ((a 6), .inl (G.2.1, 4, .inl got)), ((a 7), .inl (G.2.1, 4, .inl row)), ((a 8), .inl (G.2.1, 4, .inl oth))] → va_S (va_A w0 s.heap.size) s.heap H locs → ∀ ls, lv_has ls 6 [(0, .ref (a 0)), (4, .int x4), (5, .int x5)] → gW p l e (headSpec wsX6_reads rmX6_reads).room s m args below meth c G w0 (some (.int u.1)) (modW G a u.2.1 u.2.2.1 u.2.2.2.1 u.2.2.2.2.1 u.2.2.2.2.2.1 u.2.2.2.2.2.2.1 u.2.2.2.2.2.2.2.1 u.2.2.2.2.2.2.2.2.1 u.2.2.2.2.2.2.2.2.2.1 u.2.2.2.2.2.2.2.2.2.2.1 u.2.2.2.2.2.2.2.2.2.2.2.1 u.2.2.2.2.2.2.2.2.2.2.2.2) H locs 73 ls [] := by
  obtain ⟨hx, hb, hr, hts, hown, hlocks, hml, hK⟩ := id C0
  have hA : ∀ q : Nat, s.heap.size ≤ q → va_A w0 s.heap.size q := fun q h => Or.inr h
  intro n
  induction n with
  | zero =>
    intro x4 x5 ss was beg asi sta txt typ att rea got row oth u hf H locs hP hD hS ls hl
    have hf : (none : Option (Int32 × (Nat → Int32) × (Nat → Int32) × (Nat → Int32) × (Nat → Int32) × Int32 × (Nat → Int32) × Int32 × Int32 × Int32 × (Nat → Int32) × (Nat → Int32) × (Nat → Int32))) = some u := hf
    cases hf
  | succ n ih =>
    intro x4 x5 ss was beg asi sta txt typ att rea got row oth u hf H locs hP hD hS ls hl
    rw [fX6_reads_b73] at hf
    refine lv_iload hx hb dX6_reads_73 (lv_at hl 2 rfl) ?_
    refine lv_iconst (v := (4 : Int32)) hx hb dX6_reads_75 (by decide) ?_
    refine lv_icmp_ge (tgt := 110) hx hb dX6_reads_76 (by decide) (fun c23 => ?_) (fun c23 => ?_)
    · have hf := g_ifT c23 hf
      refine lv_aload_n hx hb dX6_reads_110 rfl (lv_at hl 0 rfl) ?_
      refine va_get (D := G.1) (ci := 5) (v := .ref (a 7)) (C := RX6) (T := TX6) (N := 12) hx hb hts hX6 hown hK.1 hP 0 rfl rfl 10 (by decide) (hts _ tw_598) (fun _ h9 => h9) rfl dX6_reads_111 ?_
      refine lv_iconst (v := (0 : Int32)) hx hb dX6_reads_114 (by decide) ?_
      obtain ⟨g24, hf⟩ := g_gdS hf
      refine va_iald hx hb hK.1 hP 7 0 rfl rfl (g_in_vp g24) dX6_reads_115 ?_
      refine lv_iconst (v := (1 : Int32)) hx hb dX6_reads_116 (by decide) ?_
      refine lv_icmp_ne (tgt := 124) hx hb dX6_reads_117 (by decide) (fun c25 => ?_) (fun c25 => ?_)
      · have hf := g_ifF c25 hf
        refine lv_iconst (v := (0 : Int32)) hx hb dX6_reads_124 (by decide) ?_
        cases hf
        exact g_zretC hx hb hr hlocks g_nb0 hP hD hS dX6_reads_125
      · have hf := g_ifT c25 hf
        refine lv_iconst (v := (1 : Int32)) hx hb dX6_reads_120 (by decide) ?_
        refine lv_goto (tgt := 125) hx hb dX6_reads_121 (by decide) ?_
        cases hf
        exact g_zretC hx hb hr hlocks g_nb1 hP hD hS dX6_reads_125
    · have hf := g_ifF c23 hf
      refine lv_aload_n hx hb dX6_reads_79 rfl (lv_at hl 0 rfl) ?_
      refine va_get (D := G.1) (ci := 5) (v := .ref (a 7)) (C := RX6) (T := TX6) (N := 12) hx hb hts hX6 hown hK.1 hP 0 rfl rfl 10 (by decide) (hts _ tw_598) (fun _ h9 => h9) rfl dX6_reads_80 ?_
      refine lv_iload hx hb dX6_reads_83 (lv_at hl 2 rfl) ?_
      refine lv_aload_n hx hb dX6_reads_85 rfl (lv_at hl 0 rfl) ?_
      refine va_get (D := G.1) (ci := 5) (v := .ref (a 1)) (C := RX6) (T := TX6) (N := 12) hx hb hts hX6 hown hK.1 hP 0 rfl rfl 0 (by decide) (hts _ tw_588) (fun _ h9 => h9) rfl dX6_reads_86 ?_
      refine lv_bipush (v := (14 : Int32)) hx hb dX6_reads_89 (by decide) ?_
      refine lv_bipush (v := (7 : Int32)) hx hb dX6_reads_91 (by decide) ?_
      refine lv_iload hx hb dX6_reads_93 (lv_at hl 1 rfl) ?_
      refine lv_imul hx hb dX6_reads_95 ?_
      refine lv_iadd hx hb dX6_reads_96 ?_
      refine lv_iconst (v := (3 : Int32)) hx hb dX6_reads_97 (by decide) ?_
      refine lv_iadd hx hb dX6_reads_98 ?_
      refine lv_iload hx hb dX6_reads_99 (lv_at hl 2 rfl) ?_
      refine lv_iadd hx hb dX6_reads_101 ?_
      obtain ⟨g26, hf⟩ := g_gdS hf
      refine va_iald hx hb hK.1 hP 1 0 rfl rfl (g_in_vp g26) dX6_reads_102 ?_
      obtain ⟨g27, hf⟩ := g_gdS hf
      refine va_iast hx hb hK.1 hP hD hS 7 0 rfl rfl (g_in_vp g27) dX6_reads_103 (fun H locs hP hD hS => ?_)
      have hP : va_P G.1 vwCl [((a 0), .inr (5, [.ref (a 1), .ref (a 2), .ref (a 3), .ref (a 4), .int sta, .ref (a 5), .int typ, .int att, .int rea, .ref (a 6), .ref (a 7), .ref (a 8)])), ((a 1), .inl (G.2.1, 411, .inl ss)), ((a 2), .inl (G.2.1, 1644, .inl was)), ((a 3), .inl (G.2.1, 411, .inl beg)), ((a 4), .inl (G.2.1, 411, .inl asi)), ((a 5), .inl (G.2.2.1, 60, .inl txt)), ((a 6), .inl (G.2.1, 4, .inl got)), ((a 7), .inl (G.2.1, 4, .inl (upd row x5.toNatClampNeg (ss ((((14 : Int32) + ((7 : Int32) * x4)) + (3 : Int32)) + x5).toNatClampNeg)))), ((a 8), .inl (G.2.1, 4, .inl oth))] H := hP
      have hD : va_D (va_A w0 s.heap.size) [((a 0), .inr (5, [.ref (a 1), .ref (a 2), .ref (a 3), .ref (a 4), .int sta, .ref (a 5), .int typ, .int att, .int rea, .ref (a 6), .ref (a 7), .ref (a 8)])), ((a 1), .inl (G.2.1, 411, .inl ss)), ((a 2), .inl (G.2.1, 1644, .inl was)), ((a 3), .inl (G.2.1, 411, .inl beg)), ((a 4), .inl (G.2.1, 411, .inl asi)), ((a 5), .inl (G.2.2.1, 60, .inl txt)), ((a 6), .inl (G.2.1, 4, .inl got)), ((a 7), .inl (G.2.1, 4, .inl (upd row x5.toNatClampNeg (ss ((((14 : Int32) + ((7 : Int32) * x4)) + (3 : Int32)) + x5).toNatClampNeg)))), ((a 8), .inl (G.2.1, 4, .inl oth))] := hD
      refine lv_iinc (v := (x5 + (1 : Int32))) (lv' := [(5, .int (x5 + (1 : Int32))), (0, .ref (a 0)), (4, .int x4)]) hx hb dX6_reads_104 hl (k := 2) rfl rfl (by decide) rfl (fun ls hl => ?_)
      refine lv_goto (tgt := 73) hx hb dX6_reads_107 (by decide) ?_
      exact ih _ _ _ _ _ _ _ _ _ _ _ _ _ _ _ hf _ _ hP hD hS ls (lv_sub hl [1, 2, 0] rfl)
def fX6_reads_b15 (x1 : Int32) (x2 : Int32) (t0 : Int32) (ss : Nat → Int32) (was : Nat → Int32) (beg : Nat → Int32) (asi : Nat → Int32) (sta : Int32) (txt : Nat → Int32) (typ : Int32) (att : Int32) (rea : Int32) (got : Nat → Int32) (row : Nat → Int32) (oth : Nat → Int32) : Option (Int32 × (Nat → Int32) × (Nat → Int32) × (Nat → Int32) × (Nat → Int32) × Int32 × (Nat → Int32) × Int32 × Int32 × Int32 × (Nat → Int32) × (Nat → Int32) × (Nat → Int32)) := ((fX6_latest x1 ss was beg asi sta txt typ att rea got row oth).bind fun r4 => (if r4 < (0 : Int32) then fX6_reads_b126 x1 x2 t0 ss was beg asi sta txt typ att rea got row oth else g_gd (g_in (((14 : Int32) + ((7 : Int32) * r4)) + (2 : Int32)) 411) ((if (ss (((14 : Int32) + ((7 : Int32) * r4)) + (2 : Int32)).toNatClampNeg) = x2 then g_gd (g_in (((14 : Int32) + ((7 : Int32) * r4)) + (3 : Int32)) 411) (g_gd (g_in (0 : Int32) 4) (fX6_reads_b73 2000 r4 (1 : Int32) ss was beg asi sta txt typ att rea got (upd row (0 : Int32).toNatClampNeg ((1 : Int32) - (ss (((14 : Int32) + ((7 : Int32) * r4)) + (3 : Int32)).toNatClampNeg))) oth)) else fX6_reads_b126 x1 x2 t0 ss was beg asi sta txt typ att rea got row oth))))
set_option maxHeartbeats 4000000 in
set_option maxRecDepth 100000 in
theorem kX6_reads_b15 {p : Program} {l : Launch} {e : Env} {s : State} {m : MethodId} {args : Array Value} {below : List Frame} {meth : Method} {c : Code} {G : gT} {a : Nat → Nat} {w0 : va_W} (C0 : gX p s m args meth c cX6_reads 6 (some .boolean) RX6 G) :
    ∀ (x1 : Int32) (x2 : Int32) (t0 : Int32) (ss : Nat → Int32) (was : Nat → Int32) (beg : Nat → Int32) (asi : Nat → Int32) (sta : Int32) (txt : Nat → Int32) (typ : Int32) (att : Int32) (rea : Int32) (got : Nat → Int32) (row : Nat → Int32) (oth : Nat → Int32) (u : Int32 × (Nat → Int32) × (Nat → Int32) × (Nat → Int32) × (Nat → Int32) × Int32 × (Nat → Int32) × Int32 × Int32 × Int32 × (Nat → Int32) × (Nat → Int32) × (Nat → Int32)), fX6_reads_b15 x1 x2 t0 ss was beg asi sta txt typ att rea got row oth = some u → ∀ (H : Heap) (locs : List Loc), va_P G.1 vwCl [((a 0), .inr (5, [.ref (a 1), .ref (a 2), .ref (a 3), .ref (a 4), .int sta, .ref (a 5), .int typ, .int att, .int rea, .ref (a 6), .ref (a 7), .ref (a 8)])), ((a 1), .inl (G.2.1, 411, .inl ss)), ((a 2), .inl (G.2.1, 1644, .inl was)), ((a 3), .inl (G.2.1, 411, .inl beg)), ((a 4), .inl (G.2.1, 411, .inl asi)), ((a 5), .inl (G.2.2.1, 60, .inl txt)), ((a 6), .inl (G.2.1, 4, .inl got)), ((a 7), .inl (G.2.1, 4, .inl row)), ((a 8), .inl (G.2.1, 4, .inl oth))] H → va_D (va_A w0 s.heap.size) [((a 0), .inr (5, [.ref (a 1), .ref (a 2), .ref (a 3), .ref (a 4), .int sta, .ref (a 5), .int typ, .int att, .int rea, .ref (a 6), .ref (a 7), .ref (a 8)])), ((a 1), .inl (G.2.1, 411, .inl ss)), ((a 2), .inl (G.2.1, 1644, .inl was)), ((a 3), .inl (G.2.1, 411, .inl beg)), ((a 4), .inl (G.2.1, 411, .inl asi)), ((a 5), .inl (G.2.2.1, 60, .inl txt)), ((a 6), .inl (G.2.1, 4, .inl got)), ((a 7), .inl (G.2.1, 4, .inl row)), ((a 8), .inl (G.2.1, 4, .inl oth))] → va_S (va_A w0 s.heap.size) s.heap H locs → ∀ ls, lv_has ls 6 [(0, .ref (a 0)), (1, .int x1), (2, .int x2)] → gW p l e (headSpec wsX6_reads rmX6_reads).room s m args below meth c G w0 (some (.int u.1)) (modW G a u.2.1 u.2.2.1 u.2.2.2.1 u.2.2.2.2.1 u.2.2.2.2.2.1 u.2.2.2.2.2.2.1 u.2.2.2.2.2.2.2.1 u.2.2.2.2.2.2.2.2.1 u.2.2.2.2.2.2.2.2.2.1 u.2.2.2.2.2.2.2.2.2.2.1 u.2.2.2.2.2.2.2.2.2.2.2.1 u.2.2.2.2.2.2.2.2.2.2.2.2) H locs 15 ls [.int t0] := by
  obtain ⟨hx, hb, hr, hts, hown, hlocks, hml, hK⟩ := id C0
  have hA : ∀ q : Nat, s.heap.size ≤ q → va_A w0 s.heap.size q := fun q h => Or.inr h
  intro x1 x2 t0 ss was beg asi sta txt typ att rea got row oth u hf H locs hP hD hS ls hl
  unfold fX6_reads_b15 at hf
  refine lv_istore_n (lv' := [(3, .int t0), (0, .ref (a 0)), (1, .int x1), (2, .int x2)]) hx hb dX6_reads_15 rfl hl (by decide) rfl (fun ls hl => ?_)
  refine lv_aload_n hx hb dX6_reads_16 rfl (lv_at hl 1 rfl) ?_
  refine lv_iload_n hx hb dX6_reads_17 rfl (lv_at hl 2 rfl) ?_
  obtain ⟨r4, e5, hf⟩ := g_bdS hf
  refine g_contR (st1 := [.int r4]) (g_runVR (As := [.int x1]) (rest := []) ⟨hx, hb, hml, hown, hts⟩ (qX6_latest l G a e5) (cwV 1 hts (TB_V TB_id tw_787 tw_789 tw_35 tw_54 tw_790) rfl rfl rfl (by decide +kernel) ⟨Nat.le_of_ble_eq_true rfl, Nat.le_of_ble_eq_true rfl⟩) hK (hP.sub [0, 1, 2, 3, 4, 5, 6, 7, 8] rfl) 0 rfl rfl rfl hl.1 rfl (Nat.le_of_ble_eq_true rfl) dX6_reads_18) rfl ?_
  refine lv_istore (lv' := [(4, .int r4), (3, .int t0), (0, .ref (a 0)), (1, .int x1), (2, .int x2)]) hx hb dX6_reads_21 hl (by decide) rfl (fun ls hl => ?_)
  refine lv_iload hx hb dX6_reads_23 (lv_at hl 0 rfl) ?_
  refine lv_if_lt (tgt := 126) hx hb dX6_reads_25 (by decide) (fun c6 => ?_) (fun c6 => ?_)
  · have hf := g_ifT c6 hf
    exact kX6_reads_b126 C0 _ _ _ _ _ _ _ _ _ _ _ _ _ _ _ _ hf _ _ hP hD hS ls (lv_sub hl [2, 3, 4, 1] rfl)
  · have hf := g_ifF c6 hf
    refine lv_aload_n hx hb dX6_reads_28 rfl (lv_at hl 2 rfl) ?_
    refine va_get (D := G.1) (ci := 5) (v := .ref (a 1)) (C := RX6) (T := TX6) (N := 12) hx hb hts hX6 hown hK.1 hP 0 rfl rfl 0 (by decide) (hts _ tw_588) (fun _ h9 => h9) rfl dX6_reads_29 ?_
    refine lv_bipush (v := (14 : Int32)) hx hb dX6_reads_32 (by decide) ?_
    refine lv_bipush (v := (7 : Int32)) hx hb dX6_reads_34 (by decide) ?_
    refine lv_iload hx hb dX6_reads_36 (lv_at hl 0 rfl) ?_
    refine lv_imul hx hb dX6_reads_38 ?_
    refine lv_iadd hx hb dX6_reads_39 ?_
    refine lv_iconst (v := (2 : Int32)) hx hb dX6_reads_40 (by decide) ?_
    refine lv_iadd hx hb dX6_reads_41 ?_
    obtain ⟨g19, hf⟩ := g_gdS hf
    refine va_iald hx hb hK.1 hP 1 0 rfl rfl (g_in_vp g19) dX6_reads_42 ?_
    refine lv_iload_n hx hb dX6_reads_43 rfl (lv_at hl 4 rfl) ?_
    refine lv_icmp_ne (tgt := 126) hx hb dX6_reads_44 (by decide) (fun c20 => ?_) (fun c20 => ?_)
    · have hf := g_ifF c20 hf
      exact kX6_reads_b126 C0 _ _ _ _ _ _ _ _ _ _ _ _ _ _ _ _ hf _ _ hP hD hS ls (lv_sub hl [2, 3, 4, 1] rfl)
    · have hf := g_ifT c20 hf
      refine lv_aload_n hx hb dX6_reads_47 rfl (lv_at hl 2 rfl) ?_
      refine va_get (D := G.1) (ci := 5) (v := .ref (a 7)) (C := RX6) (T := TX6) (N := 12) hx hb hts hX6 hown hK.1 hP 0 rfl rfl 10 (by decide) (hts _ tw_598) (fun _ h9 => h9) rfl dX6_reads_48 ?_
      refine lv_iconst (v := (0 : Int32)) hx hb dX6_reads_51 (by decide) ?_
      refine lv_iconst (v := (1 : Int32)) hx hb dX6_reads_52 (by decide) ?_
      refine lv_aload_n hx hb dX6_reads_53 rfl (lv_at hl 2 rfl) ?_
      refine va_get (D := G.1) (ci := 5) (v := .ref (a 1)) (C := RX6) (T := TX6) (N := 12) hx hb hts hX6 hown hK.1 hP 0 rfl rfl 0 (by decide) (hts _ tw_588) (fun _ h9 => h9) rfl dX6_reads_54 ?_
      refine lv_bipush (v := (14 : Int32)) hx hb dX6_reads_57 (by decide) ?_
      refine lv_bipush (v := (7 : Int32)) hx hb dX6_reads_59 (by decide) ?_
      refine lv_iload hx hb dX6_reads_61 (lv_at hl 0 rfl) ?_
      refine lv_imul hx hb dX6_reads_63 ?_
      refine lv_iadd hx hb dX6_reads_64 ?_
      refine lv_iconst (v := (3 : Int32)) hx hb dX6_reads_65 (by decide) ?_
      refine lv_iadd hx hb dX6_reads_66 ?_
      obtain ⟨g21, hf⟩ := g_gdS hf
      refine va_iald hx hb hK.1 hP 1 0 rfl rfl (g_in_vp g21) dX6_reads_67 ?_
      refine lv_isub hx hb dX6_reads_68 ?_
      obtain ⟨g22, hf⟩ := g_gdS hf
      refine va_iast hx hb hK.1 hP hD hS 7 0 rfl rfl (g_in_vp g22) dX6_reads_69 (fun H locs hP hD hS => ?_)
      have hP : va_P G.1 vwCl [((a 0), .inr (5, [.ref (a 1), .ref (a 2), .ref (a 3), .ref (a 4), .int sta, .ref (a 5), .int typ, .int att, .int rea, .ref (a 6), .ref (a 7), .ref (a 8)])), ((a 1), .inl (G.2.1, 411, .inl ss)), ((a 2), .inl (G.2.1, 1644, .inl was)), ((a 3), .inl (G.2.1, 411, .inl beg)), ((a 4), .inl (G.2.1, 411, .inl asi)), ((a 5), .inl (G.2.2.1, 60, .inl txt)), ((a 6), .inl (G.2.1, 4, .inl got)), ((a 7), .inl (G.2.1, 4, .inl (upd row (0 : Int32).toNatClampNeg ((1 : Int32) - (ss (((14 : Int32) + ((7 : Int32) * r4)) + (3 : Int32)).toNatClampNeg))))), ((a 8), .inl (G.2.1, 4, .inl oth))] H := hP
      have hD : va_D (va_A w0 s.heap.size) [((a 0), .inr (5, [.ref (a 1), .ref (a 2), .ref (a 3), .ref (a 4), .int sta, .ref (a 5), .int typ, .int att, .int rea, .ref (a 6), .ref (a 7), .ref (a 8)])), ((a 1), .inl (G.2.1, 411, .inl ss)), ((a 2), .inl (G.2.1, 1644, .inl was)), ((a 3), .inl (G.2.1, 411, .inl beg)), ((a 4), .inl (G.2.1, 411, .inl asi)), ((a 5), .inl (G.2.2.1, 60, .inl txt)), ((a 6), .inl (G.2.1, 4, .inl got)), ((a 7), .inl (G.2.1, 4, .inl (upd row (0 : Int32).toNatClampNeg ((1 : Int32) - (ss (((14 : Int32) + ((7 : Int32) * r4)) + (3 : Int32)).toNatClampNeg))))), ((a 8), .inl (G.2.1, 4, .inl oth))] := hD
      refine lv_iconst (v := (1 : Int32)) hx hb dX6_reads_70 (by decide) ?_
      refine lv_istore (lv' := [(5, .int (1 : Int32)), (4, .int r4), (3, .int t0), (0, .ref (a 0)), (1, .int x1), (2, .int x2)]) hx hb dX6_reads_71 hl (by decide) rfl (fun ls hl => ?_)
      exact kX6_reads_b73 C0 2000 _ _ _ _ _ _ _ _ _ _ _ _ _ _ _ hf _ _ hP hD hS ls (lv_sub hl [3, 1, 0] rfl)
def fX6_reads (p0 : Int32) (p1 : Int32) (ss : Nat → Int32) (was : Nat → Int32) (beg : Nat → Int32) (asi : Nat → Int32) (sta : Int32) (txt : Nat → Int32) (typ : Int32) (att : Int32) (rea : Int32) (got : Nat → Int32) (row : Nat → Int32) (oth : Nat → Int32) : Option (Int32 × (Nat → Int32) × (Nat → Int32) × (Nat → Int32) × (Nat → Int32) × Int32 × (Nat → Int32) × Int32 × Int32 × Int32 × (Nat → Int32) × (Nat → Int32) × (Nat → Int32)) := ((fX6_isThere p1 ss was beg asi sta txt typ att rea got row oth).bind fun r1 => (if r1 = (0 : Int32) then fX6_reads_b15 p0 p1 ((1 : Int32) - p1) ss was beg asi sta txt typ att rea got row oth else fX6_reads_b15 p0 p1 p1 ss was beg asi sta txt typ att rea got row oth))
set_option maxHeartbeats 4000000 in
set_option maxRecDepth 100000 in
theorem qX6_reads (l : Launch) (G : gT) (a : Nat → Nat) {p0 : Int32} {p1 : Int32} {ss : Nat → Int32} {was : Nat → Int32} {beg : Nat → Int32} {asi : Nat → Int32} {sta : Int32} {txt : Nat → Int32} {typ : Int32} {att : Int32} {rea : Int32} {got : Nat → Int32} {row : Nat → Int32} {oth : Nat → Int32} {u : Int32 × (Nat → Int32) × (Nat → Int32) × (Nat → Int32) × (Nat → Int32) × Int32 × (Nat → Int32) × Int32 × Int32 × Int32 × (Nat → Int32) × (Nat → Int32) × (Nat → Int32)} (hf : fX6_reads p0 p1 ss was beg asi sta txt typ att rea got row oth = some u) : gC l G yX6_reads wsX6_reads rmX6_reads [.ref (a 0), .int p0, .int p1] (modW G a ss was beg asi sta txt typ att rea got row oth) (some (.int u.1)) (modW G a u.2.1 u.2.2.1 u.2.2.2.1 u.2.2.2.2.1 u.2.2.2.2.2.1 u.2.2.2.2.2.2.1 u.2.2.2.2.2.2.2.1 u.2.2.2.2.2.2.2.2.1 u.2.2.2.2.2.2.2.2.2.1 u.2.2.2.2.2.2.2.2.2.2.1 u.2.2.2.2.2.2.2.2.2.2.2.1 u.2.2.2.2.2.2.2.2.2.2.2.2) := by
  refine gC.of (cc := cX6_reads) (maxL := 6) (ret := (some .boolean)) (by decide) rfl (Nat.le_of_ble_eq_true rfl) ?_
  intro p e s m below meth c C0 hP hD hS ls hl
  obtain ⟨hx, hb, hr, hts, hown, hlocks, hml, hK⟩ := id C0
  have hl : lv_has ls 6 [(0, .ref (a 0)), (1, .int p0), (2, .int p1)] := hl
  have hA : ∀ q : Nat, s.heap.size ≤ q → va_A (modW G a ss was beg asi sta txt typ att rea got row oth) s.heap.size q := fun q h => Or.inr h
  have hP : va_P G.1 vwCl [((a 0), .inr (5, [.ref (a 1), .ref (a 2), .ref (a 3), .ref (a 4), .int sta, .ref (a 5), .int typ, .int att, .int rea, .ref (a 6), .ref (a 7), .ref (a 8)])), ((a 1), .inl (G.2.1, 411, .inl ss)), ((a 2), .inl (G.2.1, 1644, .inl was)), ((a 3), .inl (G.2.1, 411, .inl beg)), ((a 4), .inl (G.2.1, 411, .inl asi)), ((a 5), .inl (G.2.2.1, 60, .inl txt)), ((a 6), .inl (G.2.1, 4, .inl got)), ((a 7), .inl (G.2.1, 4, .inl row)), ((a 8), .inl (G.2.1, 4, .inl oth))] s.heap := hP
  have hD : va_D (va_A (modW G a ss was beg asi sta txt typ att rea got row oth) s.heap.size) [((a 0), .inr (5, [.ref (a 1), .ref (a 2), .ref (a 3), .ref (a 4), .int sta, .ref (a 5), .int typ, .int att, .int rea, .ref (a 6), .ref (a 7), .ref (a 8)])), ((a 1), .inl (G.2.1, 411, .inl ss)), ((a 2), .inl (G.2.1, 1644, .inl was)), ((a 3), .inl (G.2.1, 411, .inl beg)), ((a 4), .inl (G.2.1, 411, .inl asi)), ((a 5), .inl (G.2.2.1, 60, .inl txt)), ((a 6), .inl (G.2.1, 4, .inl got)), ((a 7), .inl (G.2.1, 4, .inl row)), ((a 8), .inl (G.2.1, 4, .inl oth))] := hD
  unfold fX6_reads at hf
  refine lv_aload_n hx hb dX6_reads_0 rfl (lv_at hl 0 rfl) ?_
  refine lv_iload_n hx hb dX6_reads_1 rfl (lv_at hl 2 rfl) ?_
  obtain ⟨r1, e2, hf⟩ := g_bdS hf
  refine g_contR (st1 := [.int r1]) (g_runVR (As := [.int p1]) (rest := []) ⟨hx, hb, hml, hown, hts⟩ (qX6_isThere l G a e2) (cwV 1 hts (TB_V TB_id tw_799 tw_801 tw_37 tw_54 tw_802) rfl rfl rfl (by decide +kernel) ⟨Nat.le_of_ble_eq_true rfl, Nat.le_of_ble_eq_true rfl⟩) hK (hP.sub [0, 1, 2, 3, 4, 5, 6, 7, 8] rfl) 0 rfl rfl rfl hl.1 rfl (Nat.le_of_ble_eq_true rfl) dX6_reads_2) rfl ?_
  refine lv_if_eq (tgt := 12) hx hb dX6_reads_5 (by decide) (fun c3 => ?_) (fun c3 => ?_)
  · have hf := g_ifT c3 hf
    refine lv_iconst (v := (1 : Int32)) hx hb dX6_reads_12 (by decide) ?_
    refine lv_iload_n hx hb dX6_reads_13 rfl (lv_at hl 2 rfl) ?_
    refine lv_isub hx hb dX6_reads_14 ?_
    exact kX6_reads_b15 C0 _ _ _ _ _ _ _ _ _ _ _ _ _ _ _ _ hf _ _ hP hD hS ls (lv_sub hl [0, 1, 2] rfl)
  · have hf := g_ifF c3 hf
    refine lv_iload_n hx hb dX6_reads_8 rfl (lv_at hl 2 rfl) ?_
    refine lv_goto (tgt := 15) hx hb dX6_reads_9 (by decide) ?_
    exact kX6_reads_b15 C0 _ _ _ _ _ _ _ _ _ _ _ _ _ _ _ _ hf _ _ hP hD hS ls (lv_sub hl [0, 1, 2] rfl)
-- TwoShapesModel.read(III)I
abbrev rmX6_read : Room := { frames := 4, cells := 0, slots := 0, locals := 92 }
def fX6_read (p0 : Int32) (p1 : Int32) (p2 : Int32) (ss : Nat → Int32) (was : Nat → Int32) (beg : Nat → Int32) (asi : Nat → Int32) (sta : Int32) (txt : Nat → Int32) (typ : Int32) (att : Int32) (rea : Int32) (got : Nat → Int32) (row : Nat → Int32) (oth : Nat → Int32) : Option (Int32 × (Nat → Int32) × (Nat → Int32) × (Nat → Int32) × (Nat → Int32) × Int32 × (Nat → Int32) × Int32 × Int32 × Int32 × (Nat → Int32) × (Nat → Int32) × (Nat → Int32)) := ((fX6_isKey p0).bind fun r1 => (if r1 = (0 : Int32) then some ((-1000001 : Int32), ss, was, beg, asi, sta, txt, typ, att, rea, got, row, oth) else ((fX6_in p1 (0 : Int32) (1 : Int32)).bind fun r4 => (if r4 = (0 : Int32) then some ((-1000001 : Int32), ss, was, beg, asi, sta, txt, typ, att, rea, got, row, oth) else ((fX6_in p2 (0 : Int32) ((2 : Int32) - p1)).bind fun r7 => (if r7 = (0 : Int32) then some ((-1000001 : Int32), ss, was, beg, asi, sta, txt, typ, att, rea, got, row, oth) else ((fX6_reads p0 p1 ss was beg asi sta txt typ att rea got row oth).bind fun r10 => (if r10.1 = (0 : Int32) then some ((-1000004 : Int32), r10.2.1, r10.2.2.1, r10.2.2.2.1, r10.2.2.2.2.1, r10.2.2.2.2.2.1, r10.2.2.2.2.2.2.1, r10.2.2.2.2.2.2.2.1, r10.2.2.2.2.2.2.2.2.1, r10.2.2.2.2.2.2.2.2.2.1, r10.2.2.2.2.2.2.2.2.2.2.1, r10.2.2.2.2.2.2.2.2.2.2.2.1, r10.2.2.2.2.2.2.2.2.2.2.2.2) else g_gd (g_in ((1 : Int32) + p2) 4) (some ((r10.2.2.2.2.2.2.2.2.2.2.2.1 ((1 : Int32) + p2).toNatClampNeg), r10.2.1, r10.2.2.1, r10.2.2.2.1, r10.2.2.2.2.1, r10.2.2.2.2.2.1, r10.2.2.2.2.2.2.1, r10.2.2.2.2.2.2.2.1, r10.2.2.2.2.2.2.2.2.1, r10.2.2.2.2.2.2.2.2.2.1, r10.2.2.2.2.2.2.2.2.2.2.1, r10.2.2.2.2.2.2.2.2.2.2.2.1, r10.2.2.2.2.2.2.2.2.2.2.2.2))))))))))
set_option maxHeartbeats 4000000 in
set_option maxRecDepth 100000 in
theorem qX6_read (l : Launch) (G : gT) (a : Nat → Nat) {p0 : Int32} {p1 : Int32} {p2 : Int32} {ss : Nat → Int32} {was : Nat → Int32} {beg : Nat → Int32} {asi : Nat → Int32} {sta : Int32} {txt : Nat → Int32} {typ : Int32} {att : Int32} {rea : Int32} {got : Nat → Int32} {row : Nat → Int32} {oth : Nat → Int32} {u : Int32 × (Nat → Int32) × (Nat → Int32) × (Nat → Int32) × (Nat → Int32) × Int32 × (Nat → Int32) × Int32 × Int32 × Int32 × (Nat → Int32) × (Nat → Int32) × (Nat → Int32)} (hf : fX6_read p0 p1 p2 ss was beg asi sta txt typ att rea got row oth = some u) : gC l G yX6_read wsX6_read rmX6_read [.ref (a 0), .int p0, .int p1, .int p2] (modW G a ss was beg asi sta txt typ att rea got row oth) (some (.int u.1)) (modW G a u.2.1 u.2.2.1 u.2.2.2.1 u.2.2.2.2.1 u.2.2.2.2.2.1 u.2.2.2.2.2.2.1 u.2.2.2.2.2.2.2.1 u.2.2.2.2.2.2.2.2.1 u.2.2.2.2.2.2.2.2.2.1 u.2.2.2.2.2.2.2.2.2.2.1 u.2.2.2.2.2.2.2.2.2.2.2.1 u.2.2.2.2.2.2.2.2.2.2.2.2) := by
  refine gC.of (cc := cX6_read) (maxL := 4) (ret := (some .int)) (by decide) rfl (Nat.le_of_ble_eq_true rfl) ?_
  intro p e s m below meth c C0 hP hD hS ls hl
  obtain ⟨hx, hb, hr, hts, hown, hlocks, hml, hK⟩ := id C0
  have hl : lv_has ls 4 [(0, .ref (a 0)), (1, .int p0), (2, .int p1), (3, .int p2)] := hl
  have hA : ∀ q : Nat, s.heap.size ≤ q → va_A (modW G a ss was beg asi sta txt typ att rea got row oth) s.heap.size q := fun q h => Or.inr h
  have hP : va_P G.1 vwCl [((a 0), .inr (5, [.ref (a 1), .ref (a 2), .ref (a 3), .ref (a 4), .int sta, .ref (a 5), .int typ, .int att, .int rea, .ref (a 6), .ref (a 7), .ref (a 8)])), ((a 1), .inl (G.2.1, 411, .inl ss)), ((a 2), .inl (G.2.1, 1644, .inl was)), ((a 3), .inl (G.2.1, 411, .inl beg)), ((a 4), .inl (G.2.1, 411, .inl asi)), ((a 5), .inl (G.2.2.1, 60, .inl txt)), ((a 6), .inl (G.2.1, 4, .inl got)), ((a 7), .inl (G.2.1, 4, .inl row)), ((a 8), .inl (G.2.1, 4, .inl oth))] s.heap := hP
  have hD : va_D (va_A (modW G a ss was beg asi sta txt typ att rea got row oth) s.heap.size) [((a 0), .inr (5, [.ref (a 1), .ref (a 2), .ref (a 3), .ref (a 4), .int sta, .ref (a 5), .int typ, .int att, .int rea, .ref (a 6), .ref (a 7), .ref (a 8)])), ((a 1), .inl (G.2.1, 411, .inl ss)), ((a 2), .inl (G.2.1, 1644, .inl was)), ((a 3), .inl (G.2.1, 411, .inl beg)), ((a 4), .inl (G.2.1, 411, .inl asi)), ((a 5), .inl (G.2.2.1, 60, .inl txt)), ((a 6), .inl (G.2.1, 4, .inl got)), ((a 7), .inl (G.2.1, 4, .inl row)), ((a 8), .inl (G.2.1, 4, .inl oth))] := hD
  unfold fX6_read at hf
  refine lv_iload_n hx hb dX6_read_0 rfl (lv_at hl 1 rfl) ?_
  obtain ⟨r1, e2, hf⟩ := g_bdS hf
  refine g_contR (st1 := [.int r1]) (g_runSR (As := [.int p0]) (rest := []) ⟨hx, hb, hml, hown, hts⟩ (qX6_isKey l G e2) (va_cwS 1 hts (TB_S TB_id tw_711 tw_712 tw_54 tw_713) rfl rfl rfl (by decide +kernel) ⟨Nat.le_of_ble_eq_true rfl, Nat.le_of_ble_eq_true rfl⟩) hK (hP.sub [] rfl) rfl hl.1 rfl (Nat.le_of_ble_eq_true rfl) dX6_read_1) rfl ?_
  refine lv_if_eq (tgt := 27) hx hb dX6_read_4 (by decide) (fun c3 => ?_) (fun c3 => ?_)
  · have hf := g_ifT c3 hf
    refine lv_ldc (v := (-1000001 : Int32)) hx hb hown (hts _ tw_654) dX6_read_27 ?_
    cases hf
    exact g_iretC hx hb hr hlocks hP hD hS dX6_read_29
  · have hf := g_ifF c3 hf
    refine lv_iload_n hx hb dX6_read_7 rfl (lv_at hl 2 rfl) ?_
    refine lv_iconst (v := (0 : Int32)) hx hb dX6_read_8 (by decide) ?_
    refine lv_iconst (v := (1 : Int32)) hx hb dX6_read_9 (by decide) ?_
    obtain ⟨r4, e5, hf⟩ := g_bdS hf
    refine g_contR (st1 := [.int r4]) (g_runSR (As := [.int p1, .int (0 : Int32), .int (1 : Int32)]) (rest := []) ⟨hx, hb, hml, hown, hts⟩ (qX6_in l G e5) (va_cwS 3 hts (TB_S TB_id tw_714 tw_715 tw_54 tw_716) rfl rfl rfl (by decide +kernel) ⟨Nat.le_of_ble_eq_true rfl, Nat.le_of_ble_eq_true rfl⟩) hK (hP.sub [] rfl) rfl hl.1 rfl (Nat.le_of_ble_eq_true rfl) dX6_read_10) rfl ?_
    refine lv_if_eq (tgt := 27) hx hb dX6_read_13 (by decide) (fun c6 => ?_) (fun c6 => ?_)
    · have hf := g_ifT c6 hf
      refine lv_ldc (v := (-1000001 : Int32)) hx hb hown (hts _ tw_654) dX6_read_27 ?_
      cases hf
      exact g_iretC hx hb hr hlocks hP hD hS dX6_read_29
    · have hf := g_ifF c6 hf
      refine lv_iload_n hx hb dX6_read_16 rfl (lv_at hl 3 rfl) ?_
      refine lv_iconst (v := (0 : Int32)) hx hb dX6_read_17 (by decide) ?_
      refine lv_iconst (v := (2 : Int32)) hx hb dX6_read_18 (by decide) ?_
      refine lv_iload_n hx hb dX6_read_19 rfl (lv_at hl 2 rfl) ?_
      refine lv_isub hx hb dX6_read_20 ?_
      obtain ⟨r7, e8, hf⟩ := g_bdS hf
      refine g_contR (st1 := [.int r7]) (g_runSR (As := [.int p2, .int (0 : Int32), .int ((2 : Int32) - p1)]) (rest := []) ⟨hx, hb, hml, hown, hts⟩ (qX6_in l G e8) (va_cwS 3 hts (TB_S TB_id tw_714 tw_715 tw_54 tw_716) rfl rfl rfl (by decide +kernel) ⟨Nat.le_of_ble_eq_true rfl, Nat.le_of_ble_eq_true rfl⟩) hK (hP.sub [] rfl) rfl hl.1 rfl (Nat.le_of_ble_eq_true rfl) dX6_read_21) rfl ?_
      refine lv_if_ne (tgt := 30) hx hb dX6_read_24 (by decide) (fun c9 => ?_) (fun c9 => ?_)
      · have hf := g_ifF c9 hf
        refine lv_aload_n hx hb dX6_read_30 rfl (lv_at hl 0 rfl) ?_
        refine lv_iload_n hx hb dX6_read_31 rfl (lv_at hl 1 rfl) ?_
        refine lv_iload_n hx hb dX6_read_32 rfl (lv_at hl 2 rfl) ?_
        obtain ⟨r10, e11, hf⟩ := g_bdS hf
        refine g_contC (st1 := [.int r10.1]) (g_runVC (As := [.int p0, .int p1]) (rest := []) ⟨hx, hb, hml, hown, hts⟩ (qX6_reads l G a e11) (cwV 2 hts (TB_V TB_id tw_795 tw_797 tw_36 tw_54 tw_798) rfl rfl rfl (by decide +kernel) ⟨Nat.le_of_ble_eq_true rfl, Nat.le_of_ble_eq_true rfl⟩) hK (hP.sub [0, 1, 2, 3, 4, 5, 6, 7, 8] rfl) (hD.sub [0, 1, 2, 3, 4, 5, 6, 7, 8] (by decide) rfl) 0 rfl rfl rfl hl.1 rfl (Nat.le_of_ble_eq_true rfl) dX6_read_33) rfl hP hD hS hA [0, 1, 2, 3, 4, 5, 6, 7, 8] rfl rfl (fun H locs hP hD hS => ?_)
        have hP : va_P G.1 vwCl [((a 0), .inr (5, [.ref (a 1), .ref (a 2), .ref (a 3), .ref (a 4), .int r10.2.2.2.2.2.1, .ref (a 5), .int r10.2.2.2.2.2.2.2.1, .int r10.2.2.2.2.2.2.2.2.1, .int r10.2.2.2.2.2.2.2.2.2.1, .ref (a 6), .ref (a 7), .ref (a 8)])), ((a 1), .inl (G.2.1, 411, .inl r10.2.1)), ((a 2), .inl (G.2.1, 1644, .inl r10.2.2.1)), ((a 3), .inl (G.2.1, 411, .inl r10.2.2.2.1)), ((a 4), .inl (G.2.1, 411, .inl r10.2.2.2.2.1)), ((a 5), .inl (G.2.2.1, 60, .inl r10.2.2.2.2.2.2.1)), ((a 6), .inl (G.2.1, 4, .inl r10.2.2.2.2.2.2.2.2.2.2.1)), ((a 7), .inl (G.2.1, 4, .inl r10.2.2.2.2.2.2.2.2.2.2.2.1)), ((a 8), .inl (G.2.1, 4, .inl r10.2.2.2.2.2.2.2.2.2.2.2.2))] H := hP
        have hD : va_D (va_A (modW G a ss was beg asi sta txt typ att rea got row oth) s.heap.size) [((a 0), .inr (5, [.ref (a 1), .ref (a 2), .ref (a 3), .ref (a 4), .int r10.2.2.2.2.2.1, .ref (a 5), .int r10.2.2.2.2.2.2.2.1, .int r10.2.2.2.2.2.2.2.2.1, .int r10.2.2.2.2.2.2.2.2.2.1, .ref (a 6), .ref (a 7), .ref (a 8)])), ((a 1), .inl (G.2.1, 411, .inl r10.2.1)), ((a 2), .inl (G.2.1, 1644, .inl r10.2.2.1)), ((a 3), .inl (G.2.1, 411, .inl r10.2.2.2.1)), ((a 4), .inl (G.2.1, 411, .inl r10.2.2.2.2.1)), ((a 5), .inl (G.2.2.1, 60, .inl r10.2.2.2.2.2.2.1)), ((a 6), .inl (G.2.1, 4, .inl r10.2.2.2.2.2.2.2.2.2.2.1)), ((a 7), .inl (G.2.1, 4, .inl r10.2.2.2.2.2.2.2.2.2.2.2.1)), ((a 8), .inl (G.2.1, 4, .inl r10.2.2.2.2.2.2.2.2.2.2.2.2))] := hD
        refine lv_if_eq (tgt := 50) hx hb dX6_read_36 (by decide) (fun c12 => ?_) (fun c12 => ?_)
        · have hf := g_ifT c12 hf
          refine lv_ldc (v := (-1000004 : Int32)) hx hb hown (hts _ tw_803) dX6_read_50 ?_
          cases hf
          exact g_iretC hx hb hr hlocks hP hD hS dX6_read_52
        · have hf := g_ifF c12 hf
          refine lv_aload_n hx hb dX6_read_39 rfl (lv_at hl 0 rfl) ?_
          refine va_get (D := G.1) (ci := 5) (v := .ref (a 7)) (C := RX6) (T := TX6) (N := 12) hx hb hts hX6 hown hK.1 hP 0 rfl rfl 10 (by decide) (hts _ tw_598) (fun _ h9 => h9) rfl dX6_read_40 ?_
          refine lv_iconst (v := (1 : Int32)) hx hb dX6_read_43 (by decide) ?_
          refine lv_iload_n hx hb dX6_read_44 rfl (lv_at hl 3 rfl) ?_
          refine lv_iadd hx hb dX6_read_45 ?_
          obtain ⟨g13, hf⟩ := g_gdS hf
          refine va_iald hx hb hK.1 hP 7 0 rfl rfl (g_in_vp g13) dX6_read_46 ?_
          refine lv_goto (tgt := 52) hx hb dX6_read_47 (by decide) ?_
          cases hf
          exact g_iretC hx hb hr hlocks hP hD hS dX6_read_52
      · have hf := g_ifT c9 hf
        refine lv_ldc (v := (-1000001 : Int32)) hx hb hown (hts _ tw_654) dX6_read_27 ?_
        cases hf
        exact g_iretC hx hb hr hlocks hP hD hS dX6_read_29
-- TwoShapesModel.shapeOf(III)I
abbrev rmX6_shapeOf : Room := { frames := 2, cells := 0, slots := 0, locals := 44 }
def fX6_shapeOf_b69 (x1 : Int32) (x2 : Int32) (x3 : Int32) (t0 : Int32) (ss : Nat → Int32) (was : Nat → Int32) (beg : Nat → Int32) (asi : Nat → Int32) (sta : Int32) (txt : Nat → Int32) (typ : Int32) (att : Int32) (rea : Int32) (got : Nat → Int32) (row : Nat → Int32) (oth : Nat → Int32) : Option (Int32) := (if t0 = (0 : Int32) then ((fX6_of x2 x1 x3 ss was beg asi sta txt typ att rea got row oth).bind fun r16 => some (r16)) else some ((-1000004 : Int32)))
set_option maxHeartbeats 4000000 in
set_option maxRecDepth 100000 in
theorem kX6_shapeOf_b69 {p : Program} {l : Launch} {e : Env} {s : State} {m : MethodId} {args : Array Value} {below : List Frame} {meth : Method} {c : Code} {G : gT} {a : Nat → Nat} (C0 : gX p s m args meth c cX6_shapeOf 5 (some .int) RX6 G) :
    ∀ (x1 : Int32) (x2 : Int32) (x3 : Int32) (t0 : Int32) (ss : Nat → Int32) (was : Nat → Int32) (beg : Nat → Int32) (asi : Nat → Int32) (sta : Int32) (txt : Nat → Int32) (typ : Int32) (att : Int32) (rea : Int32) (got : Nat → Int32) (row : Nat → Int32) (oth : Nat → Int32) (u : Int32), fX6_shapeOf_b69 x1 x2 x3 t0 ss was beg asi sta txt typ att rea got row oth = some u → va_P G.1 vwCl [((a 0), .inr (5, [.ref (a 1), .ref (a 2), .ref (a 3), .ref (a 4), .int sta, .ref (a 5), .int typ, .int att, .int rea, .ref (a 6), .ref (a 7), .ref (a 8)])), ((a 1), .inl (G.2.1, 411, .inl ss)), ((a 2), .inl (G.2.1, 1644, .inl was)), ((a 3), .inl (G.2.1, 411, .inl beg)), ((a 4), .inl (G.2.1, 411, .inl asi)), ((a 5), .inl (G.2.2.1, 60, .inl txt)), ((a 6), .inl (G.2.1, 4, .inl got)), ((a 7), .inl (G.2.1, 4, .inl row)), ((a 8), .inl (G.2.1, 4, .inl oth))] s.heap → ∀ ls, lv_has ls 5 [(0, .ref (a 0)), (1, .int x1), (2, .int x2), (3, .int x3)] → gV p l e (headSpec wsX6_shapeOf rmX6_shapeOf).room s m args below meth c (some (.int u)) 69 ls [.int t0] := by
  obtain ⟨hx, hb, hr, hts, hown, hlocks, hml, hK⟩ := id C0
  intro x1 x2 x3 t0 ss was beg asi sta txt typ att rea got row oth u hf hP ls hl
  unfold fX6_shapeOf_b69 at hf
  refine lv_istore (lv' := [(4, .int t0), (0, .ref (a 0)), (1, .int x1), (2, .int x2), (3, .int x3)]) hx hb dX6_shapeOf_69 hl (by decide) rfl (fun ls hl => ?_)
  refine lv_iload hx hb dX6_shapeOf_71 (lv_at hl 0 rfl) ?_
  refine lv_if_eq (tgt := 81) hx hb dX6_shapeOf_73 (by decide) (fun c15 => ?_) (fun c15 => ?_)
  · have hf := g_ifT c15 hf
    refine lv_aload_n hx hb dX6_shapeOf_81 rfl (lv_at hl 1 rfl) ?_
    refine lv_iload_n hx hb dX6_shapeOf_82 rfl (lv_at hl 3 rfl) ?_
    refine lv_iload_n hx hb dX6_shapeOf_83 rfl (lv_at hl 2 rfl) ?_
    refine lv_iload_n hx hb dX6_shapeOf_84 rfl (lv_at hl 4 rfl) ?_
    obtain ⟨r16, e17, hf⟩ := g_bdS hf
    refine g_contR (st1 := [.int r16]) (g_runVR (As := [.int x2, .int x1, .int x3]) (rest := []) ⟨hx, hb, hml, hown, hts⟩ (qX6_of l G a e17) (cwV 3 hts (TB_V TB_id tw_643 tw_645 tw_12 tw_54 tw_646) rfl rfl rfl (by decide +kernel) ⟨Nat.le_of_ble_eq_true rfl, Nat.le_of_ble_eq_true rfl⟩) hK (hP.sub [0, 1, 2, 3, 4, 5, 6, 7, 8] rfl) 0 rfl rfl rfl hl.1 rfl (Nat.le_of_ble_eq_true rfl) dX6_shapeOf_85) rfl ?_
    cases hf
    exact g_iretR hx hb hr hlocks dX6_shapeOf_88
  · have hf := g_ifF c15 hf
    refine lv_ldc (v := (-1000004 : Int32)) hx hb hown (hts _ tw_803) dX6_shapeOf_76 ?_
    refine lv_goto (tgt := 88) hx hb dX6_shapeOf_78 (by decide) ?_
    cases hf
    exact g_iretR hx hb hr hlocks dX6_shapeOf_88
def fX6_shapeOf_b68 (x1 : Int32) (x2 : Int32) (x3 : Int32) (ss : Nat → Int32) (was : Nat → Int32) (beg : Nat → Int32) (asi : Nat → Int32) (sta : Int32) (txt : Nat → Int32) (typ : Int32) (att : Int32) (rea : Int32) (got : Nat → Int32) (row : Nat → Int32) (oth : Nat → Int32) : Option (Int32) := fX6_shapeOf_b69 x1 x2 x3 (0 : Int32) ss was beg asi sta txt typ att rea got row oth
set_option maxHeartbeats 4000000 in
set_option maxRecDepth 100000 in
theorem kX6_shapeOf_b68 {p : Program} {l : Launch} {e : Env} {s : State} {m : MethodId} {args : Array Value} {below : List Frame} {meth : Method} {c : Code} {G : gT} {a : Nat → Nat} (C0 : gX p s m args meth c cX6_shapeOf 5 (some .int) RX6 G) :
    ∀ (x1 : Int32) (x2 : Int32) (x3 : Int32) (ss : Nat → Int32) (was : Nat → Int32) (beg : Nat → Int32) (asi : Nat → Int32) (sta : Int32) (txt : Nat → Int32) (typ : Int32) (att : Int32) (rea : Int32) (got : Nat → Int32) (row : Nat → Int32) (oth : Nat → Int32) (u : Int32), fX6_shapeOf_b68 x1 x2 x3 ss was beg asi sta txt typ att rea got row oth = some u → va_P G.1 vwCl [((a 0), .inr (5, [.ref (a 1), .ref (a 2), .ref (a 3), .ref (a 4), .int sta, .ref (a 5), .int typ, .int att, .int rea, .ref (a 6), .ref (a 7), .ref (a 8)])), ((a 1), .inl (G.2.1, 411, .inl ss)), ((a 2), .inl (G.2.1, 1644, .inl was)), ((a 3), .inl (G.2.1, 411, .inl beg)), ((a 4), .inl (G.2.1, 411, .inl asi)), ((a 5), .inl (G.2.2.1, 60, .inl txt)), ((a 6), .inl (G.2.1, 4, .inl got)), ((a 7), .inl (G.2.1, 4, .inl row)), ((a 8), .inl (G.2.1, 4, .inl oth))] s.heap → ∀ ls, lv_has ls 5 [(0, .ref (a 0)), (1, .int x1), (2, .int x2), (3, .int x3)] → gV p l e (headSpec wsX6_shapeOf rmX6_shapeOf).room s m args below meth c (some (.int u)) 68 ls [] := by
  obtain ⟨hx, hb, hr, hts, hown, hlocks, hml, hK⟩ := id C0
  intro x1 x2 x3 ss was beg asi sta txt typ att rea got row oth u hf hP ls hl
  unfold fX6_shapeOf_b68 at hf
  refine lv_iconst (v := (0 : Int32)) hx hb dX6_shapeOf_68 (by decide) ?_
  exact kX6_shapeOf_b69 C0 _ _ _ _ _ _ _ _ _ _ _ _ _ _ _ _ _ hf hP ls (lv_sub hl [0, 1, 2, 3] rfl)
def fX6_shapeOf_b64 (x1 : Int32) (x2 : Int32) (x3 : Int32) (ss : Nat → Int32) (was : Nat → Int32) (beg : Nat → Int32) (asi : Nat → Int32) (sta : Int32) (txt : Nat → Int32) (typ : Int32) (att : Int32) (rea : Int32) (got : Nat → Int32) (row : Nat → Int32) (oth : Nat → Int32) : Option (Int32) := fX6_shapeOf_b69 x1 x2 x3 (1 : Int32) ss was beg asi sta txt typ att rea got row oth
set_option maxHeartbeats 4000000 in
set_option maxRecDepth 100000 in
theorem kX6_shapeOf_b64 {p : Program} {l : Launch} {e : Env} {s : State} {m : MethodId} {args : Array Value} {below : List Frame} {meth : Method} {c : Code} {G : gT} {a : Nat → Nat} (C0 : gX p s m args meth c cX6_shapeOf 5 (some .int) RX6 G) :
    ∀ (x1 : Int32) (x2 : Int32) (x3 : Int32) (ss : Nat → Int32) (was : Nat → Int32) (beg : Nat → Int32) (asi : Nat → Int32) (sta : Int32) (txt : Nat → Int32) (typ : Int32) (att : Int32) (rea : Int32) (got : Nat → Int32) (row : Nat → Int32) (oth : Nat → Int32) (u : Int32), fX6_shapeOf_b64 x1 x2 x3 ss was beg asi sta txt typ att rea got row oth = some u → va_P G.1 vwCl [((a 0), .inr (5, [.ref (a 1), .ref (a 2), .ref (a 3), .ref (a 4), .int sta, .ref (a 5), .int typ, .int att, .int rea, .ref (a 6), .ref (a 7), .ref (a 8)])), ((a 1), .inl (G.2.1, 411, .inl ss)), ((a 2), .inl (G.2.1, 1644, .inl was)), ((a 3), .inl (G.2.1, 411, .inl beg)), ((a 4), .inl (G.2.1, 411, .inl asi)), ((a 5), .inl (G.2.2.1, 60, .inl txt)), ((a 6), .inl (G.2.1, 4, .inl got)), ((a 7), .inl (G.2.1, 4, .inl row)), ((a 8), .inl (G.2.1, 4, .inl oth))] s.heap → ∀ ls, lv_has ls 5 [(0, .ref (a 0)), (1, .int x1), (2, .int x2), (3, .int x3)] → gV p l e (headSpec wsX6_shapeOf rmX6_shapeOf).room s m args below meth c (some (.int u)) 64 ls [] := by
  obtain ⟨hx, hb, hr, hts, hown, hlocks, hml, hK⟩ := id C0
  intro x1 x2 x3 ss was beg asi sta txt typ att rea got row oth u hf hP ls hl
  unfold fX6_shapeOf_b64 at hf
  refine lv_iconst (v := (1 : Int32)) hx hb dX6_shapeOf_64 (by decide) ?_
  refine lv_goto (tgt := 69) hx hb dX6_shapeOf_65 (by decide) ?_
  exact kX6_shapeOf_b69 C0 _ _ _ _ _ _ _ _ _ _ _ _ _ _ _ _ _ hf hP ls (lv_sub hl [0, 1, 2, 3] rfl)
def fX6_shapeOf_b54 (x1 : Int32) (x2 : Int32) (x3 : Int32) (ss : Nat → Int32) (was : Nat → Int32) (beg : Nat → Int32) (asi : Nat → Int32) (sta : Int32) (txt : Nat → Int32) (typ : Int32) (att : Int32) (rea : Int32) (got : Nat → Int32) (row : Nat → Int32) (oth : Nat → Int32) : Option (Int32) := (if x3 = (4 : Int32) then (if x2 = (1 : Int32) then fX6_shapeOf_b64 x1 x2 x3 ss was beg asi sta txt typ att rea got row oth else fX6_shapeOf_b68 x1 x2 x3 ss was beg asi sta txt typ att rea got row oth) else fX6_shapeOf_b68 x1 x2 x3 ss was beg asi sta txt typ att rea got row oth)
set_option maxHeartbeats 4000000 in
set_option maxRecDepth 100000 in
theorem kX6_shapeOf_b54 {p : Program} {l : Launch} {e : Env} {s : State} {m : MethodId} {args : Array Value} {below : List Frame} {meth : Method} {c : Code} {G : gT} {a : Nat → Nat} (C0 : gX p s m args meth c cX6_shapeOf 5 (some .int) RX6 G) :
    ∀ (x1 : Int32) (x2 : Int32) (x3 : Int32) (ss : Nat → Int32) (was : Nat → Int32) (beg : Nat → Int32) (asi : Nat → Int32) (sta : Int32) (txt : Nat → Int32) (typ : Int32) (att : Int32) (rea : Int32) (got : Nat → Int32) (row : Nat → Int32) (oth : Nat → Int32) (u : Int32), fX6_shapeOf_b54 x1 x2 x3 ss was beg asi sta txt typ att rea got row oth = some u → va_P G.1 vwCl [((a 0), .inr (5, [.ref (a 1), .ref (a 2), .ref (a 3), .ref (a 4), .int sta, .ref (a 5), .int typ, .int att, .int rea, .ref (a 6), .ref (a 7), .ref (a 8)])), ((a 1), .inl (G.2.1, 411, .inl ss)), ((a 2), .inl (G.2.1, 1644, .inl was)), ((a 3), .inl (G.2.1, 411, .inl beg)), ((a 4), .inl (G.2.1, 411, .inl asi)), ((a 5), .inl (G.2.2.1, 60, .inl txt)), ((a 6), .inl (G.2.1, 4, .inl got)), ((a 7), .inl (G.2.1, 4, .inl row)), ((a 8), .inl (G.2.1, 4, .inl oth))] s.heap → ∀ ls, lv_has ls 5 [(0, .ref (a 0)), (1, .int x1), (2, .int x2), (3, .int x3)] → gV p l e (headSpec wsX6_shapeOf rmX6_shapeOf).room s m args below meth c (some (.int u)) 54 ls [] := by
  obtain ⟨hx, hb, hr, hts, hown, hlocks, hml, hK⟩ := id C0
  intro x1 x2 x3 ss was beg asi sta txt typ att rea got row oth u hf hP ls hl
  unfold fX6_shapeOf_b54 at hf
  refine lv_iload_n hx hb dX6_shapeOf_54 rfl (lv_at hl 3 rfl) ?_
  refine lv_iconst (v := (4 : Int32)) hx hb dX6_shapeOf_55 (by decide) ?_
  refine lv_icmp_ne (tgt := 68) hx hb dX6_shapeOf_56 (by decide) (fun c14 => ?_) (fun c14 => ?_)
  · have hf := g_ifF c14 hf
    exact kX6_shapeOf_b68 C0 _ _ _ _ _ _ _ _ _ _ _ _ _ _ _ _ hf hP ls (lv_sub hl [0, 1, 2, 3] rfl)
  · have hf := g_ifT c14 hf
    refine lv_iload_n hx hb dX6_shapeOf_59 rfl (lv_at hl 2 rfl) ?_
    refine lv_iconst (v := (1 : Int32)) hx hb dX6_shapeOf_60 (by decide) ?_
    refine lv_icmp_ne (tgt := 68) hx hb dX6_shapeOf_61 (by decide) (fun c18 => ?_) (fun c18 => ?_)
    · have hf := g_ifF c18 hf
      exact kX6_shapeOf_b68 C0 _ _ _ _ _ _ _ _ _ _ _ _ _ _ _ _ hf hP ls (lv_sub hl [0, 1, 2, 3] rfl)
    · have hf := g_ifT c18 hf
      exact kX6_shapeOf_b64 C0 _ _ _ _ _ _ _ _ _ _ _ _ _ _ _ _ hf hP ls (lv_sub hl [0, 1, 2, 3] rfl)
def fX6_shapeOf (p0 : Int32) (p1 : Int32) (p2 : Int32) (ss : Nat → Int32) (was : Nat → Int32) (beg : Nat → Int32) (asi : Nat → Int32) (sta : Int32) (txt : Nat → Int32) (typ : Int32) (att : Int32) (rea : Int32) (got : Nat → Int32) (row : Nat → Int32) (oth : Nat → Int32) : Option (Int32) := ((fX6_isKey p0).bind fun r1 => (if r1 = (0 : Int32) then some ((-1000001 : Int32)) else ((fX6_in p1 (0 : Int32) (1 : Int32)).bind fun r4 => (if r4 = (0 : Int32) then some ((-1000001 : Int32)) else ((fX6_in p2 (0 : Int32) (4 : Int32)).bind fun r7 => (if r7 = (0 : Int32) then some ((-1000001 : Int32)) else ((fX6_isThere p1 ss was beg asi sta txt typ att rea got row oth).bind fun r10 => (if r10 = (0 : Int32) then some ((-1000002 : Int32)) else (if p2 ≤ (1 : Int32) then fX6_shapeOf_b54 p0 p1 p2 ss was beg asi sta txt typ att rea got row oth else ((fX6_of p1 p0 (1 : Int32) ss was beg asi sta txt typ att rea got row oth).bind fun r19 => (if r19 = (0 : Int32) then fX6_shapeOf_b64 p0 p1 p2 ss was beg asi sta txt typ att rea got row oth else fX6_shapeOf_b54 p0 p1 p2 ss was beg asi sta txt typ att rea got row oth)))))))))))
set_option maxHeartbeats 4000000 in
set_option maxRecDepth 100000 in
theorem qX6_shapeOf (l : Launch) (G : gT) (a : Nat → Nat) {p0 : Int32} {p1 : Int32} {p2 : Int32} {ss : Nat → Int32} {was : Nat → Int32} {beg : Nat → Int32} {asi : Nat → Int32} {sta : Int32} {txt : Nat → Int32} {typ : Int32} {att : Int32} {rea : Int32} {got : Nat → Int32} {row : Nat → Int32} {oth : Nat → Int32} {u : Int32} (hf : fX6_shapeOf p0 p1 p2 ss was beg asi sta txt typ att rea got row oth = some u) : gR l G yX6_shapeOf wsX6_shapeOf rmX6_shapeOf [.ref (a 0), .int p0, .int p1, .int p2] (modW G a ss was beg asi sta txt typ att rea got row oth) (some (.int u)) := by
  refine gR.of (cc := cX6_shapeOf) (maxL := 5) (ret := (some .int)) (by decide) rfl (Nat.le_of_ble_eq_true rfl) ?_
  intro p e s m below meth c C0 hP ls hl
  obtain ⟨hx, hb, hr, hts, hown, hlocks, hml, hK⟩ := id C0
  have hl : lv_has ls 5 [(0, .ref (a 0)), (1, .int p0), (2, .int p1), (3, .int p2)] := hl
  have hP : va_P G.1 vwCl [((a 0), .inr (5, [.ref (a 1), .ref (a 2), .ref (a 3), .ref (a 4), .int sta, .ref (a 5), .int typ, .int att, .int rea, .ref (a 6), .ref (a 7), .ref (a 8)])), ((a 1), .inl (G.2.1, 411, .inl ss)), ((a 2), .inl (G.2.1, 1644, .inl was)), ((a 3), .inl (G.2.1, 411, .inl beg)), ((a 4), .inl (G.2.1, 411, .inl asi)), ((a 5), .inl (G.2.2.1, 60, .inl txt)), ((a 6), .inl (G.2.1, 4, .inl got)), ((a 7), .inl (G.2.1, 4, .inl row)), ((a 8), .inl (G.2.1, 4, .inl oth))] s.heap := hP
  unfold fX6_shapeOf at hf
  refine lv_iload_n hx hb dX6_shapeOf_0 rfl (lv_at hl 1 rfl) ?_
  obtain ⟨r1, e2, hf⟩ := g_bdS hf
  refine g_contR (st1 := [.int r1]) (g_runSR (As := [.int p0]) (rest := []) ⟨hx, hb, hml, hown, hts⟩ (qX6_isKey l G e2) (va_cwS 1 hts (TB_S TB_id tw_711 tw_712 tw_54 tw_713) rfl rfl rfl (by decide +kernel) ⟨Nat.le_of_ble_eq_true rfl, Nat.le_of_ble_eq_true rfl⟩) hK (hP.sub [] rfl) rfl hl.1 rfl (Nat.le_of_ble_eq_true rfl) dX6_shapeOf_1) rfl ?_
  refine lv_if_eq (tgt := 25) hx hb dX6_shapeOf_4 (by decide) (fun c3 => ?_) (fun c3 => ?_)
  · have hf := g_ifT c3 hf
    refine lv_ldc (v := (-1000001 : Int32)) hx hb hown (hts _ tw_654) dX6_shapeOf_25 ?_
    cases hf
    exact g_iretR hx hb hr hlocks dX6_shapeOf_27
  · have hf := g_ifF c3 hf
    refine lv_iload_n hx hb dX6_shapeOf_7 rfl (lv_at hl 2 rfl) ?_
    refine lv_iconst (v := (0 : Int32)) hx hb dX6_shapeOf_8 (by decide) ?_
    refine lv_iconst (v := (1 : Int32)) hx hb dX6_shapeOf_9 (by decide) ?_
    obtain ⟨r4, e5, hf⟩ := g_bdS hf
    refine g_contR (st1 := [.int r4]) (g_runSR (As := [.int p1, .int (0 : Int32), .int (1 : Int32)]) (rest := []) ⟨hx, hb, hml, hown, hts⟩ (qX6_in l G e5) (va_cwS 3 hts (TB_S TB_id tw_714 tw_715 tw_54 tw_716) rfl rfl rfl (by decide +kernel) ⟨Nat.le_of_ble_eq_true rfl, Nat.le_of_ble_eq_true rfl⟩) hK (hP.sub [] rfl) rfl hl.1 rfl (Nat.le_of_ble_eq_true rfl) dX6_shapeOf_10) rfl ?_
    refine lv_if_eq (tgt := 25) hx hb dX6_shapeOf_13 (by decide) (fun c6 => ?_) (fun c6 => ?_)
    · have hf := g_ifT c6 hf
      refine lv_ldc (v := (-1000001 : Int32)) hx hb hown (hts _ tw_654) dX6_shapeOf_25 ?_
      cases hf
      exact g_iretR hx hb hr hlocks dX6_shapeOf_27
    · have hf := g_ifF c6 hf
      refine lv_iload_n hx hb dX6_shapeOf_16 rfl (lv_at hl 3 rfl) ?_
      refine lv_iconst (v := (0 : Int32)) hx hb dX6_shapeOf_17 (by decide) ?_
      refine lv_iconst (v := (4 : Int32)) hx hb dX6_shapeOf_18 (by decide) ?_
      obtain ⟨r7, e8, hf⟩ := g_bdS hf
      refine g_contR (st1 := [.int r7]) (g_runSR (As := [.int p2, .int (0 : Int32), .int (4 : Int32)]) (rest := []) ⟨hx, hb, hml, hown, hts⟩ (qX6_in l G e8) (va_cwS 3 hts (TB_S TB_id tw_714 tw_715 tw_54 tw_716) rfl rfl rfl (by decide +kernel) ⟨Nat.le_of_ble_eq_true rfl, Nat.le_of_ble_eq_true rfl⟩) hK (hP.sub [] rfl) rfl hl.1 rfl (Nat.le_of_ble_eq_true rfl) dX6_shapeOf_19) rfl ?_
      refine lv_if_ne (tgt := 28) hx hb dX6_shapeOf_22 (by decide) (fun c9 => ?_) (fun c9 => ?_)
      · have hf := g_ifF c9 hf
        refine lv_aload_n hx hb dX6_shapeOf_28 rfl (lv_at hl 0 rfl) ?_
        refine lv_iload_n hx hb dX6_shapeOf_29 rfl (lv_at hl 2 rfl) ?_
        obtain ⟨r10, e11, hf⟩ := g_bdS hf
        refine g_contR (st1 := [.int r10]) (g_runVR (As := [.int p1]) (rest := []) ⟨hx, hb, hml, hown, hts⟩ (qX6_isThere l G a e11) (cwV 1 hts (TB_V TB_id tw_799 tw_801 tw_37 tw_54 tw_802) rfl rfl rfl (by decide +kernel) ⟨Nat.le_of_ble_eq_true rfl, Nat.le_of_ble_eq_true rfl⟩) hK (hP.sub [0, 1, 2, 3, 4, 5, 6, 7, 8] rfl) 0 rfl rfl rfl hl.1 rfl (Nat.le_of_ble_eq_true rfl) dX6_shapeOf_30) rfl ?_
        refine lv_if_ne (tgt := 39) hx hb dX6_shapeOf_33 (by decide) (fun c12 => ?_) (fun c12 => ?_)
        · have hf := g_ifF c12 hf
          refine lv_iload_n hx hb dX6_shapeOf_39 rfl (lv_at hl 3 rfl) ?_
          refine lv_iconst (v := (1 : Int32)) hx hb dX6_shapeOf_40 (by decide) ?_
          refine lv_icmp_le (tgt := 54) hx hb dX6_shapeOf_41 (by decide) (fun c13 => ?_) (fun c13 => ?_)
          · have hf := g_ifT c13 hf
            exact kX6_shapeOf_b54 C0 _ _ _ _ _ _ _ _ _ _ _ _ _ _ _ _ hf hP ls (lv_sub hl [0, 1, 2, 3] rfl)
          · have hf := g_ifF c13 hf
            refine lv_aload_n hx hb dX6_shapeOf_44 rfl (lv_at hl 0 rfl) ?_
            refine lv_iload_n hx hb dX6_shapeOf_45 rfl (lv_at hl 2 rfl) ?_
            refine lv_iload_n hx hb dX6_shapeOf_46 rfl (lv_at hl 1 rfl) ?_
            refine lv_iconst (v := (1 : Int32)) hx hb dX6_shapeOf_47 (by decide) ?_
            obtain ⟨r19, e20, hf⟩ := g_bdS hf
            refine g_contR (st1 := [.int r19]) (g_runVR (As := [.int p1, .int p0, .int (1 : Int32)]) (rest := []) ⟨hx, hb, hml, hown, hts⟩ (qX6_of l G a e20) (cwV 3 hts (TB_V TB_id tw_643 tw_645 tw_12 tw_54 tw_646) rfl rfl rfl (by decide +kernel) ⟨Nat.le_of_ble_eq_true rfl, Nat.le_of_ble_eq_true rfl⟩) hK (hP.sub [0, 1, 2, 3, 4, 5, 6, 7, 8] rfl) 0 rfl rfl rfl hl.1 rfl (Nat.le_of_ble_eq_true rfl) dX6_shapeOf_48) rfl ?_
            refine lv_if_eq (tgt := 64) hx hb dX6_shapeOf_51 (by decide) (fun c21 => ?_) (fun c21 => ?_)
            · have hf := g_ifT c21 hf
              exact kX6_shapeOf_b64 C0 _ _ _ _ _ _ _ _ _ _ _ _ _ _ _ _ hf hP ls (lv_sub hl [0, 1, 2, 3] rfl)
            · have hf := g_ifF c21 hf
              exact kX6_shapeOf_b54 C0 _ _ _ _ _ _ _ _ _ _ _ _ _ _ _ _ hf hP ls (lv_sub hl [0, 1, 2, 3] rfl)
        · have hf := g_ifT c12 hf
          refine lv_ldc (v := (-1000002 : Int32)) hx hb hown (hts _ tw_630) dX6_shapeOf_36 ?_
          cases hf
          exact g_iretR hx hb hr hlocks dX6_shapeOf_38
      · have hf := g_ifT c9 hf
        refine lv_ldc (v := (-1000001 : Int32)) hx hb hown (hts _ tw_654) dX6_shapeOf_25 ?_
        cases hf
        exact g_iretR hx hb hr hlocks dX6_shapeOf_27
-- TwoShapesModel.queued(II)I
abbrev rmX6_queued : Room := { frames := 1, cells := 0, slots := 0, locals := 22 }
def fX6_queued (p0 : Int32) (p1 : Int32) (ss : Nat → Int32) (was : Nat → Int32) (beg : Nat → Int32) (asi : Nat → Int32) (sta : Int32) (txt : Nat → Int32) (typ : Int32) (att : Int32) (rea : Int32) (got : Nat → Int32) (row : Nat → Int32) (oth : Nat → Int32) : Option (Int32) := (if p0 < (0 : Int32) then some ((-1000001 : Int32)) else ((fX6_in p1 (0 : Int32) (3 : Int32)).bind fun r2 => (if r2 = (0 : Int32) then some ((-1000001 : Int32)) else g_gd (g_in (3 : Int32) 411) ((if (ss (3 : Int32).toNatClampNeg) ≤ p0 then some ((-1000004 : Int32)) else g_gd (g_in (((14 : Int32) + ((7 : Int32) * p0)) + p1) 411) (some ((ss (((14 : Int32) + ((7 : Int32) * p0)) + p1).toNatClampNeg))))))))
set_option maxHeartbeats 4000000 in
set_option maxRecDepth 100000 in
theorem qX6_queued (l : Launch) (G : gT) (a : Nat → Nat) {p0 : Int32} {p1 : Int32} {ss : Nat → Int32} {was : Nat → Int32} {beg : Nat → Int32} {asi : Nat → Int32} {sta : Int32} {txt : Nat → Int32} {typ : Int32} {att : Int32} {rea : Int32} {got : Nat → Int32} {row : Nat → Int32} {oth : Nat → Int32} {u : Int32} (hf : fX6_queued p0 p1 ss was beg asi sta txt typ att rea got row oth = some u) : gR l G yX6_queued wsX6_queued rmX6_queued [.ref (a 0), .int p0, .int p1] (modW G a ss was beg asi sta txt typ att rea got row oth) (some (.int u)) := by
  refine gR.of (cc := cX6_queued) (maxL := 3) (ret := (some .int)) (by decide) rfl (Nat.le_of_ble_eq_true rfl) ?_
  intro p e s m below meth c C0 hP ls hl
  obtain ⟨hx, hb, hr, hts, hown, hlocks, hml, hK⟩ := id C0
  have hl : lv_has ls 3 [(0, .ref (a 0)), (1, .int p0), (2, .int p1)] := hl
  have hP : va_P G.1 vwCl [((a 0), .inr (5, [.ref (a 1), .ref (a 2), .ref (a 3), .ref (a 4), .int sta, .ref (a 5), .int typ, .int att, .int rea, .ref (a 6), .ref (a 7), .ref (a 8)])), ((a 1), .inl (G.2.1, 411, .inl ss)), ((a 2), .inl (G.2.1, 1644, .inl was)), ((a 3), .inl (G.2.1, 411, .inl beg)), ((a 4), .inl (G.2.1, 411, .inl asi)), ((a 5), .inl (G.2.2.1, 60, .inl txt)), ((a 6), .inl (G.2.1, 4, .inl got)), ((a 7), .inl (G.2.1, 4, .inl row)), ((a 8), .inl (G.2.1, 4, .inl oth))] s.heap := hP
  unfold fX6_queued at hf
  refine lv_iload_n hx hb dX6_queued_0 rfl (lv_at hl 1 rfl) ?_
  refine lv_if_lt (tgt := 13) hx hb dX6_queued_1 (by decide) (fun c1 => ?_) (fun c1 => ?_)
  · have hf := g_ifT c1 hf
    refine lv_ldc (v := (-1000001 : Int32)) hx hb hown (hts _ tw_654) dX6_queued_13 ?_
    cases hf
    exact g_iretR hx hb hr hlocks dX6_queued_15
  · have hf := g_ifF c1 hf
    refine lv_iload_n hx hb dX6_queued_4 rfl (lv_at hl 2 rfl) ?_
    refine lv_iconst (v := (0 : Int32)) hx hb dX6_queued_5 (by decide) ?_
    refine lv_iconst (v := (3 : Int32)) hx hb dX6_queued_6 (by decide) ?_
    obtain ⟨r2, e3, hf⟩ := g_bdS hf
    refine g_contR (st1 := [.int r2]) (g_runSR (As := [.int p1, .int (0 : Int32), .int (3 : Int32)]) (rest := []) ⟨hx, hb, hml, hown, hts⟩ (qX6_in l G e3) (va_cwS 3 hts (TB_S TB_id tw_714 tw_715 tw_54 tw_716) rfl rfl rfl (by decide +kernel) ⟨Nat.le_of_ble_eq_true rfl, Nat.le_of_ble_eq_true rfl⟩) hK (hP.sub [] rfl) rfl hl.1 rfl (Nat.le_of_ble_eq_true rfl) dX6_queued_7) rfl ?_
    refine lv_if_ne (tgt := 16) hx hb dX6_queued_10 (by decide) (fun c4 => ?_) (fun c4 => ?_)
    · have hf := g_ifF c4 hf
      refine lv_iload_n hx hb dX6_queued_16 rfl (lv_at hl 1 rfl) ?_
      refine lv_aload_n hx hb dX6_queued_17 rfl (lv_at hl 0 rfl) ?_
      refine va_get (D := G.1) (ci := 5) (v := .ref (a 1)) (C := RX6) (T := TX6) (N := 12) hx hb hts hX6 hown hK.1 hP 0 rfl rfl 0 (by decide) (hts _ tw_588) (fun _ h9 => h9) rfl dX6_queued_18 ?_
      refine lv_iconst (v := (3 : Int32)) hx hb dX6_queued_21 (by decide) ?_
      obtain ⟨g5, hf⟩ := g_gdS hf
      refine va_iald hx hb hK.1 hP 1 0 rfl rfl (g_in_vp g5) dX6_queued_22 ?_
      refine lv_icmp_ge (tgt := 43) hx hb dX6_queued_23 (by decide) (fun c6 => ?_) (fun c6 => ?_)
      · have hf := g_ifT c6 hf
        refine lv_ldc (v := (-1000004 : Int32)) hx hb hown (hts _ tw_803) dX6_queued_43 ?_
        cases hf
        exact g_iretR hx hb hr hlocks dX6_queued_45
      · have hf := g_ifF c6 hf
        refine lv_aload_n hx hb dX6_queued_26 rfl (lv_at hl 0 rfl) ?_
        refine va_get (D := G.1) (ci := 5) (v := .ref (a 1)) (C := RX6) (T := TX6) (N := 12) hx hb hts hX6 hown hK.1 hP 0 rfl rfl 0 (by decide) (hts _ tw_588) (fun _ h9 => h9) rfl dX6_queued_27 ?_
        refine lv_bipush (v := (14 : Int32)) hx hb dX6_queued_30 (by decide) ?_
        refine lv_bipush (v := (7 : Int32)) hx hb dX6_queued_32 (by decide) ?_
        refine lv_iload_n hx hb dX6_queued_34 rfl (lv_at hl 1 rfl) ?_
        refine lv_imul hx hb dX6_queued_35 ?_
        refine lv_iadd hx hb dX6_queued_36 ?_
        refine lv_iload_n hx hb dX6_queued_37 rfl (lv_at hl 2 rfl) ?_
        refine lv_iadd hx hb dX6_queued_38 ?_
        obtain ⟨g7, hf⟩ := g_gdS hf
        refine va_iald hx hb hK.1 hP 1 0 rfl rfl (g_in_vp g7) dX6_queued_39 ?_
        refine lv_goto (tgt := 45) hx hb dX6_queued_40 (by decide) ?_
        cases hf
        exact g_iretR hx hb hr hlocks dX6_queued_45
    · have hf := g_ifT c4 hf
      refine lv_ldc (v := (-1000001 : Int32)) hx hb hown (hts _ tw_654) dX6_queued_13 ?_
      cases hf
      exact g_iretR hx hb hr hlocks dX6_queued_15
-- TwoShapesModel.readable(I)I
abbrev rmX6_readable : Room := { frames := 4, cells := 0, slots := 0, locals := 92 }
def fX6_readable_b4 : Nat → Int32 → Int32 → Int32 → (Nat → Int32) → (Nat → Int32) → (Nat → Int32) → (Nat → Int32) → Int32 → (Nat → Int32) → Int32 → Int32 → Int32 → (Nat → Int32) → (Nat → Int32) → (Nat → Int32) → Option (Int32 × (Nat → Int32) × (Nat → Int32) × (Nat → Int32) × (Nat → Int32) × Int32 × (Nat → Int32) × Int32 × Int32 × Int32 × (Nat → Int32) × (Nat → Int32) × (Nat → Int32))
  | 0, _, _, _, _, _, _, _, _, _, _, _, _, _, _, _ => none
  | n + 1, x1, x2, x3, ss, was, beg, asi, sta, txt, typ, att, rea, got, row, oth => (if (31 : Int32) ≤ x3 then some (x2, ss, was, beg, asi, sta, txt, typ, att, rea, got, row, oth) else ((fX6_reads x3 x1 ss was beg asi sta txt typ att rea got row oth).bind fun r2 => (if r2.1 = (0 : Int32) then fX6_readable_b4 n x1 (x2 ||| (0 : Int32)) (x3 + (1 : Int32)) r2.2.1 r2.2.2.1 r2.2.2.2.1 r2.2.2.2.2.1 r2.2.2.2.2.2.1 r2.2.2.2.2.2.2.1 r2.2.2.2.2.2.2.2.1 r2.2.2.2.2.2.2.2.2.1 r2.2.2.2.2.2.2.2.2.2.1 r2.2.2.2.2.2.2.2.2.2.2.1 r2.2.2.2.2.2.2.2.2.2.2.2.1 r2.2.2.2.2.2.2.2.2.2.2.2.2 else fX6_readable_b4 n x1 (x2 ||| ((1 : Int32) <<< (x3 &&& 31))) (x3 + (1 : Int32)) r2.2.1 r2.2.2.1 r2.2.2.2.1 r2.2.2.2.2.1 r2.2.2.2.2.2.1 r2.2.2.2.2.2.2.1 r2.2.2.2.2.2.2.2.1 r2.2.2.2.2.2.2.2.2.1 r2.2.2.2.2.2.2.2.2.2.1 r2.2.2.2.2.2.2.2.2.2.2.1 r2.2.2.2.2.2.2.2.2.2.2.2.1 r2.2.2.2.2.2.2.2.2.2.2.2.2)))
set_option maxHeartbeats 4000000 in
set_option maxRecDepth 100000 in
theorem kX6_readable_b4 {p : Program} {l : Launch} {e : Env} {s : State} {m : MethodId} {args : Array Value} {below : List Frame} {meth : Method} {c : Code} {G : gT} {a : Nat → Nat} {w0 : va_W} (C0 : gX p s m args meth c cX6_readable 4 (some .int) RX6 G) :
    ∀ (n : Nat) (x1 : Int32) (x2 : Int32) (x3 : Int32) (ss : Nat → Int32) (was : Nat → Int32) (beg : Nat → Int32) (asi : Nat → Int32) (sta : Int32) (txt : Nat → Int32) (typ : Int32) (att : Int32) (rea : Int32) (got : Nat → Int32) (row : Nat → Int32) (oth : Nat → Int32) (u : Int32 × (Nat → Int32) × (Nat → Int32) × (Nat → Int32) × (Nat → Int32) × Int32 × (Nat → Int32) × Int32 × Int32 × Int32 × (Nat → Int32) × (Nat → Int32) × (Nat → Int32)), fX6_readable_b4 n x1 x2 x3 ss was beg asi sta txt typ att rea got row oth = some u → ∀ (H : Heap) (locs : List Loc), va_P G.1 vwCl [((a 0), .inr (5, [.ref (a 1), .ref (a 2), .ref (a 3), .ref (a 4), .int sta, .ref (a 5), .int typ, .int att, .int rea, .ref (a 6), .ref (a 7), .ref (a 8)])), ((a 1), .inl (G.2.1, 411, .inl ss)), ((a 2), .inl (G.2.1, 1644, .inl was)), ((a 3), .inl (G.2.1, 411, .inl beg)), ((a 4), .inl (G.2.1, 411, .inl asi)), ((a 5), .inl (G.2.2.1, 60, .inl txt)), ((a 6), .inl (G.2.1, 4, .inl got)), ((a 7), .inl (G.2.1, 4, .inl row)), ((a 8), .inl (G.2.1, 4, .inl oth))] H → va_D (va_A w0 s.heap.size) [((a 0), .inr (5, [.ref (a 1), .ref (a 2), .ref (a 3), .ref (a 4), .int sta, .ref (a 5), .int typ, .int att, .int rea, .ref (a 6), .ref (a 7), .ref (a 8)])), ((a 1), .inl (G.2.1, 411, .inl ss)), ((a 2), .inl (G.2.1, 1644, .inl was)), ((a 3), .inl (G.2.1, 411, .inl beg)), ((a 4), .inl (G.2.1, 411, .inl asi)), ((a 5), .inl (G.2.2.1, 60, .inl txt)), ((a 6), .inl (G.2.1, 4, .inl got)), ((a 7), .inl (G.2.1, 4, .inl row)), ((a 8), .inl (G.2.1, 4, .inl oth))] → va_S (va_A w0 s.heap.size) s.heap H locs → ∀ ls, lv_has ls 4 [(0, .ref (a 0)), (1, .int x1), (2, .int x2), (3, .int x3)] → gW p l e (headSpec wsX6_readable rmX6_readable).room s m args below meth c G w0 (some (.int u.1)) (modW G a u.2.1 u.2.2.1 u.2.2.2.1 u.2.2.2.2.1 u.2.2.2.2.2.1 u.2.2.2.2.2.2.1 u.2.2.2.2.2.2.2.1 u.2.2.2.2.2.2.2.2.1 u.2.2.2.2.2.2.2.2.2.1 u.2.2.2.2.2.2.2.2.2.2.1 u.2.2.2.2.2.2.2.2.2.2.2.1 u.2.2.2.2.2.2.2.2.2.2.2.2) H locs 4 ls [] := by
  obtain ⟨hx, hb, hr, hts, hown, hlocks, hml, hK⟩ := id C0
  have hA : ∀ q : Nat, s.heap.size ≤ q → va_A w0 s.heap.size q := fun q h => Or.inr h
  intro n
  induction n with
  | zero =>
    intro x1 x2 x3 ss was beg asi sta txt typ att rea got row oth u hf H locs hP hD hS ls hl
    have hf : (none : Option (Int32 × (Nat → Int32) × (Nat → Int32) × (Nat → Int32) × (Nat → Int32) × Int32 × (Nat → Int32) × Int32 × Int32 × Int32 × (Nat → Int32) × (Nat → Int32) × (Nat → Int32))) = some u := hf
    cases hf
  | succ n ih =>
    intro x1 x2 x3 ss was beg asi sta txt typ att rea got row oth u hf H locs hP hD hS ls hl
    rw [fX6_readable_b4] at hf
    refine lv_iload_n hx hb dX6_readable_4 rfl (lv_at hl 3 rfl) ?_
    refine lv_bipush (v := (31 : Int32)) hx hb dX6_readable_5 (by decide) ?_
    refine lv_icmp_ge (tgt := 35) hx hb dX6_readable_7 (by decide) (fun c1 => ?_) (fun c1 => ?_)
    · have hf := g_ifT c1 hf
      refine lv_iload_n hx hb dX6_readable_35 rfl (lv_at hl 2 rfl) ?_
      cases hf
      exact g_iretC hx hb hr hlocks hP hD hS dX6_readable_36
    · have hf := g_ifF c1 hf
      refine lv_iload_n hx hb dX6_readable_10 rfl (lv_at hl 2 rfl) ?_
      refine lv_aload_n hx hb dX6_readable_11 rfl (lv_at hl 0 rfl) ?_
      refine lv_iload_n hx hb dX6_readable_12 rfl (lv_at hl 3 rfl) ?_
      refine lv_iload_n hx hb dX6_readable_13 rfl (lv_at hl 1 rfl) ?_
      obtain ⟨r2, e3, hf⟩ := g_bdS hf
      refine g_contC (st1 := [.int r2.1, .int x2]) (g_runVC (As := [.int x3, .int x1]) (rest := [.int x2]) ⟨hx, hb, hml, hown, hts⟩ (qX6_reads l G a e3) (cwV 2 hts (TB_V TB_id tw_795 tw_797 tw_36 tw_54 tw_798) rfl rfl rfl (by decide +kernel) ⟨Nat.le_of_ble_eq_true rfl, Nat.le_of_ble_eq_true rfl⟩) hK (hP.sub [0, 1, 2, 3, 4, 5, 6, 7, 8] rfl) (hD.sub [0, 1, 2, 3, 4, 5, 6, 7, 8] (by decide) rfl) 0 rfl rfl rfl hl.1 rfl (Nat.le_of_ble_eq_true rfl) dX6_readable_14) rfl hP hD hS hA [0, 1, 2, 3, 4, 5, 6, 7, 8] rfl rfl (fun H locs hP hD hS => ?_)
      have hP : va_P G.1 vwCl [((a 0), .inr (5, [.ref (a 1), .ref (a 2), .ref (a 3), .ref (a 4), .int r2.2.2.2.2.2.1, .ref (a 5), .int r2.2.2.2.2.2.2.2.1, .int r2.2.2.2.2.2.2.2.2.1, .int r2.2.2.2.2.2.2.2.2.2.1, .ref (a 6), .ref (a 7), .ref (a 8)])), ((a 1), .inl (G.2.1, 411, .inl r2.2.1)), ((a 2), .inl (G.2.1, 1644, .inl r2.2.2.1)), ((a 3), .inl (G.2.1, 411, .inl r2.2.2.2.1)), ((a 4), .inl (G.2.1, 411, .inl r2.2.2.2.2.1)), ((a 5), .inl (G.2.2.1, 60, .inl r2.2.2.2.2.2.2.1)), ((a 6), .inl (G.2.1, 4, .inl r2.2.2.2.2.2.2.2.2.2.2.1)), ((a 7), .inl (G.2.1, 4, .inl r2.2.2.2.2.2.2.2.2.2.2.2.1)), ((a 8), .inl (G.2.1, 4, .inl r2.2.2.2.2.2.2.2.2.2.2.2.2))] H := hP
      have hD : va_D (va_A w0 s.heap.size) [((a 0), .inr (5, [.ref (a 1), .ref (a 2), .ref (a 3), .ref (a 4), .int r2.2.2.2.2.2.1, .ref (a 5), .int r2.2.2.2.2.2.2.2.1, .int r2.2.2.2.2.2.2.2.2.1, .int r2.2.2.2.2.2.2.2.2.2.1, .ref (a 6), .ref (a 7), .ref (a 8)])), ((a 1), .inl (G.2.1, 411, .inl r2.2.1)), ((a 2), .inl (G.2.1, 1644, .inl r2.2.2.1)), ((a 3), .inl (G.2.1, 411, .inl r2.2.2.2.1)), ((a 4), .inl (G.2.1, 411, .inl r2.2.2.2.2.1)), ((a 5), .inl (G.2.2.1, 60, .inl r2.2.2.2.2.2.2.1)), ((a 6), .inl (G.2.1, 4, .inl r2.2.2.2.2.2.2.2.2.2.2.1)), ((a 7), .inl (G.2.1, 4, .inl r2.2.2.2.2.2.2.2.2.2.2.2.1)), ((a 8), .inl (G.2.1, 4, .inl r2.2.2.2.2.2.2.2.2.2.2.2.2))] := hD
      refine lv_if_eq (tgt := 26) hx hb dX6_readable_17 (by decide) (fun c4 => ?_) (fun c4 => ?_)
      · have hf := g_ifT c4 hf
        refine lv_iconst (v := (0 : Int32)) hx hb dX6_readable_26 (by decide) ?_
        refine lv_ior hx hb dX6_readable_27 ?_
        refine lv_istore_n (lv' := [(2, .int (x2 ||| (0 : Int32))), (0, .ref (a 0)), (1, .int x1), (3, .int x3)]) hx hb dX6_readable_28 rfl hl (by decide) rfl (fun ls hl => ?_)
        refine lv_iinc (v := (x3 + (1 : Int32))) (lv' := [(3, .int (x3 + (1 : Int32))), (2, .int (x2 ||| (0 : Int32))), (0, .ref (a 0)), (1, .int x1)]) hx hb dX6_readable_29 hl (k := 3) rfl rfl (by decide) rfl (fun ls hl => ?_)
        refine lv_goto (tgt := 4) hx hb dX6_readable_32 (by decide) ?_
        exact ih _ _ _ _ _ _ _ _ _ _ _ _ _ _ _ _ hf _ _ hP hD hS ls (lv_sub hl [2, 3, 1, 0] rfl)
      · have hf := g_ifF c4 hf
        refine lv_iconst (v := (1 : Int32)) hx hb dX6_readable_20 (by decide) ?_
        refine lv_iload_n hx hb dX6_readable_21 rfl (lv_at hl 3 rfl) ?_
        refine lv_ishl hx hb dX6_readable_22 ?_
        refine lv_goto (tgt := 27) hx hb dX6_readable_23 (by decide) ?_
        refine lv_ior hx hb dX6_readable_27 ?_
        refine lv_istore_n (lv' := [(2, .int (x2 ||| ((1 : Int32) <<< (x3 &&& 31)))), (0, .ref (a 0)), (1, .int x1), (3, .int x3)]) hx hb dX6_readable_28 rfl hl (by decide) rfl (fun ls hl => ?_)
        refine lv_iinc (v := (x3 + (1 : Int32))) (lv' := [(3, .int (x3 + (1 : Int32))), (2, .int (x2 ||| ((1 : Int32) <<< (x3 &&& 31)))), (0, .ref (a 0)), (1, .int x1)]) hx hb dX6_readable_29 hl (k := 3) rfl rfl (by decide) rfl (fun ls hl => ?_)
        refine lv_goto (tgt := 4) hx hb dX6_readable_32 (by decide) ?_
        exact ih _ _ _ _ _ _ _ _ _ _ _ _ _ _ _ _ hf _ _ hP hD hS ls (lv_sub hl [2, 3, 1, 0] rfl)
def fX6_readable (p0 : Int32) (ss : Nat → Int32) (was : Nat → Int32) (beg : Nat → Int32) (asi : Nat → Int32) (sta : Int32) (txt : Nat → Int32) (typ : Int32) (att : Int32) (rea : Int32) (got : Nat → Int32) (row : Nat → Int32) (oth : Nat → Int32) : Option (Int32 × (Nat → Int32) × (Nat → Int32) × (Nat → Int32) × (Nat → Int32) × Int32 × (Nat → Int32) × Int32 × Int32 × Int32 × (Nat → Int32) × (Nat → Int32) × (Nat → Int32)) := fX6_readable_b4 2000 p0 (0 : Int32) (0 : Int32) ss was beg asi sta txt typ att rea got row oth
set_option maxHeartbeats 4000000 in
set_option maxRecDepth 100000 in
theorem qX6_readable (l : Launch) (G : gT) (a : Nat → Nat) {p0 : Int32} {ss : Nat → Int32} {was : Nat → Int32} {beg : Nat → Int32} {asi : Nat → Int32} {sta : Int32} {txt : Nat → Int32} {typ : Int32} {att : Int32} {rea : Int32} {got : Nat → Int32} {row : Nat → Int32} {oth : Nat → Int32} {u : Int32 × (Nat → Int32) × (Nat → Int32) × (Nat → Int32) × (Nat → Int32) × Int32 × (Nat → Int32) × Int32 × Int32 × Int32 × (Nat → Int32) × (Nat → Int32) × (Nat → Int32)} (hf : fX6_readable p0 ss was beg asi sta txt typ att rea got row oth = some u) : gC l G yX6_readable wsX6_readable rmX6_readable [.ref (a 0), .int p0] (modW G a ss was beg asi sta txt typ att rea got row oth) (some (.int u.1)) (modW G a u.2.1 u.2.2.1 u.2.2.2.1 u.2.2.2.2.1 u.2.2.2.2.2.1 u.2.2.2.2.2.2.1 u.2.2.2.2.2.2.2.1 u.2.2.2.2.2.2.2.2.1 u.2.2.2.2.2.2.2.2.2.1 u.2.2.2.2.2.2.2.2.2.2.1 u.2.2.2.2.2.2.2.2.2.2.2.1 u.2.2.2.2.2.2.2.2.2.2.2.2) := by
  refine gC.of (cc := cX6_readable) (maxL := 4) (ret := (some .int)) (by decide) rfl (Nat.le_of_ble_eq_true rfl) ?_
  intro p e s m below meth c C0 hP hD hS ls hl
  obtain ⟨hx, hb, hr, hts, hown, hlocks, hml, hK⟩ := id C0
  have hl : lv_has ls 4 [(0, .ref (a 0)), (1, .int p0)] := hl
  have hA : ∀ q : Nat, s.heap.size ≤ q → va_A (modW G a ss was beg asi sta txt typ att rea got row oth) s.heap.size q := fun q h => Or.inr h
  have hP : va_P G.1 vwCl [((a 0), .inr (5, [.ref (a 1), .ref (a 2), .ref (a 3), .ref (a 4), .int sta, .ref (a 5), .int typ, .int att, .int rea, .ref (a 6), .ref (a 7), .ref (a 8)])), ((a 1), .inl (G.2.1, 411, .inl ss)), ((a 2), .inl (G.2.1, 1644, .inl was)), ((a 3), .inl (G.2.1, 411, .inl beg)), ((a 4), .inl (G.2.1, 411, .inl asi)), ((a 5), .inl (G.2.2.1, 60, .inl txt)), ((a 6), .inl (G.2.1, 4, .inl got)), ((a 7), .inl (G.2.1, 4, .inl row)), ((a 8), .inl (G.2.1, 4, .inl oth))] s.heap := hP
  have hD : va_D (va_A (modW G a ss was beg asi sta txt typ att rea got row oth) s.heap.size) [((a 0), .inr (5, [.ref (a 1), .ref (a 2), .ref (a 3), .ref (a 4), .int sta, .ref (a 5), .int typ, .int att, .int rea, .ref (a 6), .ref (a 7), .ref (a 8)])), ((a 1), .inl (G.2.1, 411, .inl ss)), ((a 2), .inl (G.2.1, 1644, .inl was)), ((a 3), .inl (G.2.1, 411, .inl beg)), ((a 4), .inl (G.2.1, 411, .inl asi)), ((a 5), .inl (G.2.2.1, 60, .inl txt)), ((a 6), .inl (G.2.1, 4, .inl got)), ((a 7), .inl (G.2.1, 4, .inl row)), ((a 8), .inl (G.2.1, 4, .inl oth))] := hD
  unfold fX6_readable at hf
  refine lv_iconst (v := (0 : Int32)) hx hb dX6_readable_0 (by decide) ?_
  refine lv_istore_n (lv' := [(2, .int (0 : Int32)), (0, .ref (a 0)), (1, .int p0)]) hx hb dX6_readable_1 rfl hl (by decide) rfl (fun ls hl => ?_)
  refine lv_iconst (v := (0 : Int32)) hx hb dX6_readable_2 (by decide) ?_
  refine lv_istore_n (lv' := [(3, .int (0 : Int32)), (2, .int (0 : Int32)), (0, .ref (a 0)), (1, .int p0)]) hx hb dX6_readable_3 rfl hl (by decide) rfl (fun ls hl => ?_)
  exact kX6_readable_b4 C0 2000 _ _ _ _ _ _ _ _ _ _ _ _ _ _ _ _ hf _ _ hP hD hS ls (lv_sub hl [2, 3, 1, 0] rfl)
-- TwoShapesModel.keys(I)I
abbrev rmX6_keys : Room := { frames := 5, cells := 0, slots := 0, locals := 115 }
def fX6_keys (p0 : Int32) (ss : Nat → Int32) (was : Nat → Int32) (beg : Nat → Int32) (asi : Nat → Int32) (sta : Int32) (txt : Nat → Int32) (typ : Int32) (att : Int32) (rea : Int32) (got : Nat → Int32) (row : Nat → Int32) (oth : Nat → Int32) : Option (Int32 × (Nat → Int32) × (Nat → Int32) × (Nat → Int32) × (Nat → Int32) × Int32 × (Nat → Int32) × Int32 × Int32 × Int32 × (Nat → Int32) × (Nat → Int32) × (Nat → Int32)) := ((fX6_in p0 (0 : Int32) (1 : Int32)).bind fun r1 => (if r1 = (0 : Int32) then some ((-1000001 : Int32), ss, was, beg, asi, sta, txt, typ, att, rea, got, row, oth) else ((fX6_readable p0 ss was beg asi sta txt typ att rea got row oth).bind fun r4 => some (r4.1, r4.2.1, r4.2.2.1, r4.2.2.2.1, r4.2.2.2.2.1, r4.2.2.2.2.2.1, r4.2.2.2.2.2.2.1, r4.2.2.2.2.2.2.2.1, r4.2.2.2.2.2.2.2.2.1, r4.2.2.2.2.2.2.2.2.2.1, r4.2.2.2.2.2.2.2.2.2.2.1, r4.2.2.2.2.2.2.2.2.2.2.2.1, r4.2.2.2.2.2.2.2.2.2.2.2.2))))
set_option maxHeartbeats 4000000 in
set_option maxRecDepth 100000 in
theorem qX6_keys (l : Launch) (G : gT) (a : Nat → Nat) {p0 : Int32} {ss : Nat → Int32} {was : Nat → Int32} {beg : Nat → Int32} {asi : Nat → Int32} {sta : Int32} {txt : Nat → Int32} {typ : Int32} {att : Int32} {rea : Int32} {got : Nat → Int32} {row : Nat → Int32} {oth : Nat → Int32} {u : Int32 × (Nat → Int32) × (Nat → Int32) × (Nat → Int32) × (Nat → Int32) × Int32 × (Nat → Int32) × Int32 × Int32 × Int32 × (Nat → Int32) × (Nat → Int32) × (Nat → Int32)} (hf : fX6_keys p0 ss was beg asi sta txt typ att rea got row oth = some u) : gC l G yX6_keys wsX6_keys rmX6_keys [.ref (a 0), .int p0] (modW G a ss was beg asi sta txt typ att rea got row oth) (some (.int u.1)) (modW G a u.2.1 u.2.2.1 u.2.2.2.1 u.2.2.2.2.1 u.2.2.2.2.2.1 u.2.2.2.2.2.2.1 u.2.2.2.2.2.2.2.1 u.2.2.2.2.2.2.2.2.1 u.2.2.2.2.2.2.2.2.2.1 u.2.2.2.2.2.2.2.2.2.2.1 u.2.2.2.2.2.2.2.2.2.2.2.1 u.2.2.2.2.2.2.2.2.2.2.2.2) := by
  refine gC.of (cc := cX6_keys) (maxL := 2) (ret := (some .int)) (by decide) rfl (Nat.le_of_ble_eq_true rfl) ?_
  intro p e s m below meth c C0 hP hD hS ls hl
  obtain ⟨hx, hb, hr, hts, hown, hlocks, hml, hK⟩ := id C0
  have hl : lv_has ls 2 [(0, .ref (a 0)), (1, .int p0)] := hl
  have hA : ∀ q : Nat, s.heap.size ≤ q → va_A (modW G a ss was beg asi sta txt typ att rea got row oth) s.heap.size q := fun q h => Or.inr h
  have hP : va_P G.1 vwCl [((a 0), .inr (5, [.ref (a 1), .ref (a 2), .ref (a 3), .ref (a 4), .int sta, .ref (a 5), .int typ, .int att, .int rea, .ref (a 6), .ref (a 7), .ref (a 8)])), ((a 1), .inl (G.2.1, 411, .inl ss)), ((a 2), .inl (G.2.1, 1644, .inl was)), ((a 3), .inl (G.2.1, 411, .inl beg)), ((a 4), .inl (G.2.1, 411, .inl asi)), ((a 5), .inl (G.2.2.1, 60, .inl txt)), ((a 6), .inl (G.2.1, 4, .inl got)), ((a 7), .inl (G.2.1, 4, .inl row)), ((a 8), .inl (G.2.1, 4, .inl oth))] s.heap := hP
  have hD : va_D (va_A (modW G a ss was beg asi sta txt typ att rea got row oth) s.heap.size) [((a 0), .inr (5, [.ref (a 1), .ref (a 2), .ref (a 3), .ref (a 4), .int sta, .ref (a 5), .int typ, .int att, .int rea, .ref (a 6), .ref (a 7), .ref (a 8)])), ((a 1), .inl (G.2.1, 411, .inl ss)), ((a 2), .inl (G.2.1, 1644, .inl was)), ((a 3), .inl (G.2.1, 411, .inl beg)), ((a 4), .inl (G.2.1, 411, .inl asi)), ((a 5), .inl (G.2.2.1, 60, .inl txt)), ((a 6), .inl (G.2.1, 4, .inl got)), ((a 7), .inl (G.2.1, 4, .inl row)), ((a 8), .inl (G.2.1, 4, .inl oth))] := hD
  unfold fX6_keys at hf
  refine lv_iload_n hx hb dX6_keys_0 rfl (lv_at hl 1 rfl) ?_
  refine lv_iconst (v := (0 : Int32)) hx hb dX6_keys_1 (by decide) ?_
  refine lv_iconst (v := (1 : Int32)) hx hb dX6_keys_2 (by decide) ?_
  obtain ⟨r1, e2, hf⟩ := g_bdS hf
  refine g_contR (st1 := [.int r1]) (g_runSR (As := [.int p0, .int (0 : Int32), .int (1 : Int32)]) (rest := []) ⟨hx, hb, hml, hown, hts⟩ (qX6_in l G e2) (va_cwS 3 hts (TB_S TB_id tw_714 tw_715 tw_54 tw_716) rfl rfl rfl (by decide +kernel) ⟨Nat.le_of_ble_eq_true rfl, Nat.le_of_ble_eq_true rfl⟩) hK (hP.sub [] rfl) rfl hl.1 rfl (Nat.le_of_ble_eq_true rfl) dX6_keys_3) rfl ?_
  refine lv_if_eq (tgt := 17) hx hb dX6_keys_6 (by decide) (fun c3 => ?_) (fun c3 => ?_)
  · have hf := g_ifT c3 hf
    refine lv_ldc (v := (-1000001 : Int32)) hx hb hown (hts _ tw_654) dX6_keys_17 ?_
    cases hf
    exact g_iretC hx hb hr hlocks hP hD hS dX6_keys_19
  · have hf := g_ifF c3 hf
    refine lv_aload_n hx hb dX6_keys_9 rfl (lv_at hl 0 rfl) ?_
    refine lv_iload_n hx hb dX6_keys_10 rfl (lv_at hl 1 rfl) ?_
    obtain ⟨r4, e5, hf⟩ := g_bdS hf
    refine g_contC (st1 := [.int r4.1]) (g_runVC (As := [.int p0]) (rest := []) ⟨hx, hb, hml, hown, hts⟩ (qX6_readable l G a e5) (cwV 1 hts (TB_V TB_id tw_816 tw_818 tw_38 tw_54 tw_819) rfl rfl rfl (by decide +kernel) ⟨Nat.le_of_ble_eq_true rfl, Nat.le_of_ble_eq_true rfl⟩) hK (hP.sub [0, 1, 2, 3, 4, 5, 6, 7, 8] rfl) (hD.sub [0, 1, 2, 3, 4, 5, 6, 7, 8] (by decide) rfl) 0 rfl rfl rfl hl.1 rfl (Nat.le_of_ble_eq_true rfl) dX6_keys_11) rfl hP hD hS hA [0, 1, 2, 3, 4, 5, 6, 7, 8] rfl rfl (fun H locs hP hD hS => ?_)
    have hP : va_P G.1 vwCl [((a 0), .inr (5, [.ref (a 1), .ref (a 2), .ref (a 3), .ref (a 4), .int r4.2.2.2.2.2.1, .ref (a 5), .int r4.2.2.2.2.2.2.2.1, .int r4.2.2.2.2.2.2.2.2.1, .int r4.2.2.2.2.2.2.2.2.2.1, .ref (a 6), .ref (a 7), .ref (a 8)])), ((a 1), .inl (G.2.1, 411, .inl r4.2.1)), ((a 2), .inl (G.2.1, 1644, .inl r4.2.2.1)), ((a 3), .inl (G.2.1, 411, .inl r4.2.2.2.1)), ((a 4), .inl (G.2.1, 411, .inl r4.2.2.2.2.1)), ((a 5), .inl (G.2.2.1, 60, .inl r4.2.2.2.2.2.2.1)), ((a 6), .inl (G.2.1, 4, .inl r4.2.2.2.2.2.2.2.2.2.2.1)), ((a 7), .inl (G.2.1, 4, .inl r4.2.2.2.2.2.2.2.2.2.2.2.1)), ((a 8), .inl (G.2.1, 4, .inl r4.2.2.2.2.2.2.2.2.2.2.2.2))] H := hP
    have hD : va_D (va_A (modW G a ss was beg asi sta txt typ att rea got row oth) s.heap.size) [((a 0), .inr (5, [.ref (a 1), .ref (a 2), .ref (a 3), .ref (a 4), .int r4.2.2.2.2.2.1, .ref (a 5), .int r4.2.2.2.2.2.2.2.1, .int r4.2.2.2.2.2.2.2.2.1, .int r4.2.2.2.2.2.2.2.2.2.1, .ref (a 6), .ref (a 7), .ref (a 8)])), ((a 1), .inl (G.2.1, 411, .inl r4.2.1)), ((a 2), .inl (G.2.1, 1644, .inl r4.2.2.1)), ((a 3), .inl (G.2.1, 411, .inl r4.2.2.2.1)), ((a 4), .inl (G.2.1, 411, .inl r4.2.2.2.2.1)), ((a 5), .inl (G.2.2.1, 60, .inl r4.2.2.2.2.2.2.1)), ((a 6), .inl (G.2.1, 4, .inl r4.2.2.2.2.2.2.2.2.2.2.1)), ((a 7), .inl (G.2.1, 4, .inl r4.2.2.2.2.2.2.2.2.2.2.2.1)), ((a 8), .inl (G.2.1, 4, .inl r4.2.2.2.2.2.2.2.2.2.2.2.2))] := hD
    refine lv_goto (tgt := 19) hx hb dX6_keys_14 (by decide) ?_
    cases hf
    exact g_iretC hx hb hr hlocks hP hD hS dX6_keys_19
-- TwoShapesModel.check()I
abbrev rmX6_check : Room := { frames := 5, cells := 0, slots := 0, locals := 112 }
def fX6_check (ss : Nat → Int32) (was : Nat → Int32) (beg : Nat → Int32) (asi : Nat → Int32) (sta : Int32) (txt : Nat → Int32) (typ : Int32) (att : Int32) (rea : Int32) (got : Nat → Int32) (row : Nat → Int32) (oth : Nat → Int32) : Option (Int32 × (Nat → Int32) × (Nat → Int32) × (Nat → Int32) × (Nat → Int32) × Int32 × (Nat → Int32) × Int32 × Int32 × Int32 × (Nat → Int32) × (Nat → Int32) × (Nat → Int32)) := ((fX6_areBoth ss was beg asi sta txt typ att rea got row oth).bind fun r1 => (if r1 = (0 : Int32) then some ((-1000002 : Int32), ss, was, beg, asi, sta, txt, typ, att, rea, got, row, oth) else ((fX6_differing ss was beg asi sta txt typ att rea got row oth).bind fun r4 => some (r4.1, r4.2.1, r4.2.2.1, r4.2.2.2.1, r4.2.2.2.2.1, r4.2.2.2.2.2.1, r4.2.2.2.2.2.2.1, r4.2.2.2.2.2.2.2.1, r4.2.2.2.2.2.2.2.2.1, r4.2.2.2.2.2.2.2.2.2.1, r4.2.2.2.2.2.2.2.2.2.2.1, r4.2.2.2.2.2.2.2.2.2.2.2.1, r4.2.2.2.2.2.2.2.2.2.2.2.2))))
set_option maxHeartbeats 4000000 in
set_option maxRecDepth 100000 in
theorem qX6_check (l : Launch) (G : gT) (a : Nat → Nat) {ss : Nat → Int32} {was : Nat → Int32} {beg : Nat → Int32} {asi : Nat → Int32} {sta : Int32} {txt : Nat → Int32} {typ : Int32} {att : Int32} {rea : Int32} {got : Nat → Int32} {row : Nat → Int32} {oth : Nat → Int32} {u : Int32 × (Nat → Int32) × (Nat → Int32) × (Nat → Int32) × (Nat → Int32) × Int32 × (Nat → Int32) × Int32 × Int32 × Int32 × (Nat → Int32) × (Nat → Int32) × (Nat → Int32)} (hf : fX6_check ss was beg asi sta txt typ att rea got row oth = some u) : gC l G yX6_check wsX6_check rmX6_check [.ref (a 0)] (modW G a ss was beg asi sta txt typ att rea got row oth) (some (.int u.1)) (modW G a u.2.1 u.2.2.1 u.2.2.2.1 u.2.2.2.2.1 u.2.2.2.2.2.1 u.2.2.2.2.2.2.1 u.2.2.2.2.2.2.2.1 u.2.2.2.2.2.2.2.2.1 u.2.2.2.2.2.2.2.2.2.1 u.2.2.2.2.2.2.2.2.2.2.1 u.2.2.2.2.2.2.2.2.2.2.2.1 u.2.2.2.2.2.2.2.2.2.2.2.2) := by
  refine gC.of (cc := cX6_check) (maxL := 1) (ret := (some .int)) (by decide) rfl (Nat.le_of_ble_eq_true rfl) ?_
  intro p e s m below meth c C0 hP hD hS ls hl
  obtain ⟨hx, hb, hr, hts, hown, hlocks, hml, hK⟩ := id C0
  have hl : lv_has ls 1 [(0, .ref (a 0))] := hl
  have hA : ∀ q : Nat, s.heap.size ≤ q → va_A (modW G a ss was beg asi sta txt typ att rea got row oth) s.heap.size q := fun q h => Or.inr h
  have hP : va_P G.1 vwCl [((a 0), .inr (5, [.ref (a 1), .ref (a 2), .ref (a 3), .ref (a 4), .int sta, .ref (a 5), .int typ, .int att, .int rea, .ref (a 6), .ref (a 7), .ref (a 8)])), ((a 1), .inl (G.2.1, 411, .inl ss)), ((a 2), .inl (G.2.1, 1644, .inl was)), ((a 3), .inl (G.2.1, 411, .inl beg)), ((a 4), .inl (G.2.1, 411, .inl asi)), ((a 5), .inl (G.2.2.1, 60, .inl txt)), ((a 6), .inl (G.2.1, 4, .inl got)), ((a 7), .inl (G.2.1, 4, .inl row)), ((a 8), .inl (G.2.1, 4, .inl oth))] s.heap := hP
  have hD : va_D (va_A (modW G a ss was beg asi sta txt typ att rea got row oth) s.heap.size) [((a 0), .inr (5, [.ref (a 1), .ref (a 2), .ref (a 3), .ref (a 4), .int sta, .ref (a 5), .int typ, .int att, .int rea, .ref (a 6), .ref (a 7), .ref (a 8)])), ((a 1), .inl (G.2.1, 411, .inl ss)), ((a 2), .inl (G.2.1, 1644, .inl was)), ((a 3), .inl (G.2.1, 411, .inl beg)), ((a 4), .inl (G.2.1, 411, .inl asi)), ((a 5), .inl (G.2.2.1, 60, .inl txt)), ((a 6), .inl (G.2.1, 4, .inl got)), ((a 7), .inl (G.2.1, 4, .inl row)), ((a 8), .inl (G.2.1, 4, .inl oth))] := hD
  unfold fX6_check at hf
  refine lv_aload_n hx hb dX6_check_0 rfl (lv_at hl 0 rfl) ?_
  obtain ⟨r1, e2, hf⟩ := g_bdS hf
  refine g_contR (st1 := [.int r1]) (g_runVR (As := []) (rest := []) ⟨hx, hb, hml, hown, hts⟩ (qX6_areBoth l G a e2) (cwV 0 hts (TB_V TB_id tw_691 tw_693 tw_21 tw_54 tw_694) rfl rfl rfl (by decide +kernel) ⟨Nat.le_of_ble_eq_true rfl, Nat.le_of_ble_eq_true rfl⟩) hK (hP.sub [0, 1, 2, 3, 4, 5, 6, 7, 8] rfl) 0 rfl rfl rfl hl.1 rfl (Nat.le_of_ble_eq_true rfl) dX6_check_1) rfl ?_
  refine lv_if_eq (tgt := 14) hx hb dX6_check_4 (by decide) (fun c3 => ?_) (fun c3 => ?_)
  · have hf := g_ifT c3 hf
    refine lv_ldc (v := (-1000002 : Int32)) hx hb hown (hts _ tw_630) dX6_check_14 ?_
    cases hf
    exact g_iretC hx hb hr hlocks hP hD hS dX6_check_16
  · have hf := g_ifF c3 hf
    refine lv_aload_n hx hb dX6_check_7 rfl (lv_at hl 0 rfl) ?_
    obtain ⟨r4, e5, hf⟩ := g_bdS hf
    refine g_contC (st1 := [.int r4.1]) (g_runVC (As := []) (rest := []) ⟨hx, hb, hml, hown, hts⟩ (qX6_differing l G a e5) (cwV 0 hts (TB_V TB_id tw_667 tw_669 tw_16 tw_54 tw_670) rfl rfl rfl (by decide +kernel) ⟨Nat.le_of_ble_eq_true rfl, Nat.le_of_ble_eq_true rfl⟩) hK (hP.sub [0, 1, 2, 3, 4, 5, 6, 7, 8] rfl) (hD.sub [0, 1, 2, 3, 4, 5, 6, 7, 8] (by decide) rfl) 0 rfl rfl rfl hl.1 rfl (Nat.le_of_ble_eq_true rfl) dX6_check_8) rfl hP hD hS hA [0, 1, 2, 3, 4, 5, 6, 7, 8] rfl rfl (fun H locs hP hD hS => ?_)
    have hP : va_P G.1 vwCl [((a 0), .inr (5, [.ref (a 1), .ref (a 2), .ref (a 3), .ref (a 4), .int r4.2.2.2.2.2.1, .ref (a 5), .int r4.2.2.2.2.2.2.2.1, .int r4.2.2.2.2.2.2.2.2.1, .int r4.2.2.2.2.2.2.2.2.2.1, .ref (a 6), .ref (a 7), .ref (a 8)])), ((a 1), .inl (G.2.1, 411, .inl r4.2.1)), ((a 2), .inl (G.2.1, 1644, .inl r4.2.2.1)), ((a 3), .inl (G.2.1, 411, .inl r4.2.2.2.1)), ((a 4), .inl (G.2.1, 411, .inl r4.2.2.2.2.1)), ((a 5), .inl (G.2.2.1, 60, .inl r4.2.2.2.2.2.2.1)), ((a 6), .inl (G.2.1, 4, .inl r4.2.2.2.2.2.2.2.2.2.2.1)), ((a 7), .inl (G.2.1, 4, .inl r4.2.2.2.2.2.2.2.2.2.2.2.1)), ((a 8), .inl (G.2.1, 4, .inl r4.2.2.2.2.2.2.2.2.2.2.2.2))] H := hP
    have hD : va_D (va_A (modW G a ss was beg asi sta txt typ att rea got row oth) s.heap.size) [((a 0), .inr (5, [.ref (a 1), .ref (a 2), .ref (a 3), .ref (a 4), .int r4.2.2.2.2.2.1, .ref (a 5), .int r4.2.2.2.2.2.2.2.1, .int r4.2.2.2.2.2.2.2.2.1, .int r4.2.2.2.2.2.2.2.2.2.1, .ref (a 6), .ref (a 7), .ref (a 8)])), ((a 1), .inl (G.2.1, 411, .inl r4.2.1)), ((a 2), .inl (G.2.1, 1644, .inl r4.2.2.1)), ((a 3), .inl (G.2.1, 411, .inl r4.2.2.2.1)), ((a 4), .inl (G.2.1, 411, .inl r4.2.2.2.2.1)), ((a 5), .inl (G.2.2.1, 60, .inl r4.2.2.2.2.2.2.1)), ((a 6), .inl (G.2.1, 4, .inl r4.2.2.2.2.2.2.2.2.2.2.1)), ((a 7), .inl (G.2.1, 4, .inl r4.2.2.2.2.2.2.2.2.2.2.2.1)), ((a 8), .inl (G.2.1, 4, .inl r4.2.2.2.2.2.2.2.2.2.2.2.2))] := hD
    refine lv_goto (tgt := 16) hx hb dX6_check_11 (by decide) ?_
    cases hf
    exact g_iretC hx hb hr hlocks hP hD hS dX6_check_16
-- TwoShapesModel.quarrels(I)Z
abbrev rmX6_quarrels : Room := { frames := 4, cells := 0, slots := 0, locals := 92 }
def fX6_quarrels_b60 : Nat → Int32 → Int32 → Int32 → Int32 → (Nat → Int32) → (Nat → Int32) → (Nat → Int32) → (Nat → Int32) → Int32 → (Nat → Int32) → Int32 → Int32 → Int32 → (Nat → Int32) → (Nat → Int32) → (Nat → Int32) → Option (Int32 × (Nat → Int32) × (Nat → Int32) × (Nat → Int32) × (Nat → Int32) × Int32 × (Nat → Int32) × Int32 × Int32 × Int32 × (Nat → Int32) × (Nat → Int32) × (Nat → Int32))
  | 0, _, _, _, _, _, _, _, _, _, _, _, _, _, _, _, _ => none
  | n + 1, x2, x3, x4, x5, ss, was, beg, asi, sta, txt, typ, att, rea, got, row, oth => (if (4 : Int32) ≤ x5 then g_gd (g_bl x4) (some (x4, ss, was, beg, asi, sta, txt, typ, att, rea, got, row, oth)) else (if x4 = (0 : Int32) then (if x2 = (0 : Int32) then fX6_quarrels_b60 n x2 x3 (0 : Int32) (x5 + (1 : Int32)) ss was beg asi sta txt typ att rea got row oth else (if x3 = (0 : Int32) then fX6_quarrels_b60 n x2 x3 (0 : Int32) (x5 + (1 : Int32)) ss was beg asi sta txt typ att rea got row oth else g_gd (g_in x5 4) (g_gd (g_in x5 4) ((if (row x5.toNatClampNeg) = (oth x5.toNatClampNeg) then fX6_quarrels_b60 n x2 x3 (0 : Int32) (x5 + (1 : Int32)) ss was beg asi sta txt typ att rea got row oth else fX6_quarrels_b60 n x2 x3 (1 : Int32) (x5 + (1 : Int32)) ss was beg asi sta txt typ att rea got row oth))))) else fX6_quarrels_b60 n x2 x3 (1 : Int32) (x5 + (1 : Int32)) ss was beg asi sta txt typ att rea got row oth))
set_option maxHeartbeats 4000000 in
set_option maxRecDepth 100000 in
theorem kX6_quarrels_b60 {p : Program} {l : Launch} {e : Env} {s : State} {m : MethodId} {args : Array Value} {below : List Frame} {meth : Method} {c : Code} {G : gT} {a : Nat → Nat} {w0 : va_W} (C0 : gX p s m args meth c cX6_quarrels 6 (some .boolean) RX6 G) :
    ∀ (n : Nat) (x2 : Int32) (x3 : Int32) (x4 : Int32) (x5 : Int32) (ss : Nat → Int32) (was : Nat → Int32) (beg : Nat → Int32) (asi : Nat → Int32) (sta : Int32) (txt : Nat → Int32) (typ : Int32) (att : Int32) (rea : Int32) (got : Nat → Int32) (row : Nat → Int32) (oth : Nat → Int32) (u : Int32 × (Nat → Int32) × (Nat → Int32) × (Nat → Int32) × (Nat → Int32) × Int32 × (Nat → Int32) × Int32 × Int32 × Int32 × (Nat → Int32) × (Nat → Int32) × (Nat → Int32)), fX6_quarrels_b60 n x2 x3 x4 x5 ss was beg asi sta txt typ att rea got row oth = some u → ∀ (H : Heap) (locs : List Loc), va_P G.1 vwCl [((a 0), .inr (5, [.ref (a 1), .ref (a 2), .ref (a 3), .ref (a 4), .int sta, .ref (a 5), .int typ, .int att, .int rea, .ref (a 6), .ref (a 7), .ref (a 8)])), ((a 1), .inl (G.2.1, 411, .inl ss)), ((a 2), .inl (G.2.1, 1644, .inl was)), ((a 3), .inl (G.2.1, 411, .inl beg)), ((a 4), .inl (G.2.1, 411, .inl asi)), ((a 5), .inl (G.2.2.1, 60, .inl txt)), ((a 6), .inl (G.2.1, 4, .inl got)), ((a 7), .inl (G.2.1, 4, .inl row)), ((a 8), .inl (G.2.1, 4, .inl oth))] H → va_D (va_A w0 s.heap.size) [((a 0), .inr (5, [.ref (a 1), .ref (a 2), .ref (a 3), .ref (a 4), .int sta, .ref (a 5), .int typ, .int att, .int rea, .ref (a 6), .ref (a 7), .ref (a 8)])), ((a 1), .inl (G.2.1, 411, .inl ss)), ((a 2), .inl (G.2.1, 1644, .inl was)), ((a 3), .inl (G.2.1, 411, .inl beg)), ((a 4), .inl (G.2.1, 411, .inl asi)), ((a 5), .inl (G.2.2.1, 60, .inl txt)), ((a 6), .inl (G.2.1, 4, .inl got)), ((a 7), .inl (G.2.1, 4, .inl row)), ((a 8), .inl (G.2.1, 4, .inl oth))] → va_S (va_A w0 s.heap.size) s.heap H locs → ∀ ls, lv_has ls 6 [(0, .ref (a 0)), (2, .int x2), (3, .int x3), (4, .int x4), (5, .int x5)] → gW p l e (headSpec wsX6_quarrels rmX6_quarrels).room s m args below meth c G w0 (some (.int u.1)) (modW G a u.2.1 u.2.2.1 u.2.2.2.1 u.2.2.2.2.1 u.2.2.2.2.2.1 u.2.2.2.2.2.2.1 u.2.2.2.2.2.2.2.1 u.2.2.2.2.2.2.2.2.1 u.2.2.2.2.2.2.2.2.2.1 u.2.2.2.2.2.2.2.2.2.2.1 u.2.2.2.2.2.2.2.2.2.2.2.1 u.2.2.2.2.2.2.2.2.2.2.2.2) H locs 60 ls [] := by
  obtain ⟨hx, hb, hr, hts, hown, hlocks, hml, hK⟩ := id C0
  have hA : ∀ q : Nat, s.heap.size ≤ q → va_A w0 s.heap.size q := fun q h => Or.inr h
  intro n
  induction n with
  | zero =>
    intro x2 x3 x4 x5 ss was beg asi sta txt typ att rea got row oth u hf H locs hP hD hS ls hl
    have hf : (none : Option (Int32 × (Nat → Int32) × (Nat → Int32) × (Nat → Int32) × (Nat → Int32) × Int32 × (Nat → Int32) × Int32 × Int32 × Int32 × (Nat → Int32) × (Nat → Int32) × (Nat → Int32))) = some u := hf
    cases hf
  | succ n ih =>
    intro x2 x3 x4 x5 ss was beg asi sta txt typ att rea got row oth u hf H locs hP hD hS ls hl
    rw [fX6_quarrels_b60] at hf
    refine lv_iload hx hb dX6_quarrels_60 (lv_at hl 4 rfl) ?_
    refine lv_iconst (v := (4 : Int32)) hx hb dX6_quarrels_62 (by decide) ?_
    refine lv_icmp_ge (tgt := 109) hx hb dX6_quarrels_63 (by decide) (fun c9 => ?_) (fun c9 => ?_)
    · have hf := g_ifT c9 hf
      refine lv_iload hx hb dX6_quarrels_109 (lv_at hl 3 rfl) ?_
      obtain ⟨g10, hf⟩ := g_gdS hf
      cases hf
      exact g_zretC hx hb hr hlocks (g_nb g10) hP hD hS dX6_quarrels_111
    · have hf := g_ifF c9 hf
      refine lv_iload hx hb dX6_quarrels_66 (lv_at hl 3 rfl) ?_
      refine lv_if_ne (tgt := 96) hx hb dX6_quarrels_68 (by decide) (fun c11 => ?_) (fun c11 => ?_)
      · have hf := g_ifF c11 hf
        refine lv_iconst (v := (1 : Int32)) hx hb dX6_quarrels_96 (by decide) ?_
        refine lv_goto (tgt := 101) hx hb dX6_quarrels_97 (by decide) ?_
        refine lv_istore (lv' := [(4, .int (1 : Int32)), (0, .ref (a 0)), (2, .int x2), (3, .int x3), (5, .int x5)]) hx hb dX6_quarrels_101 hl (by decide) rfl (fun ls hl => ?_)
        refine lv_iinc (v := (x5 + (1 : Int32))) (lv' := [(5, .int (x5 + (1 : Int32))), (4, .int (1 : Int32)), (0, .ref (a 0)), (2, .int x2), (3, .int x3)]) hx hb dX6_quarrels_103 hl (k := 4) rfl rfl (by decide) rfl (fun ls hl => ?_)
        refine lv_goto (tgt := 60) hx hb dX6_quarrels_106 (by decide) ?_
        exact ih _ _ _ _ _ _ _ _ _ _ _ _ _ _ _ _ _ hf _ _ hP hD hS ls (lv_sub hl [2, 3, 4, 1, 0] rfl)
      · have hf := g_ifT c11 hf
        refine lv_iload_n hx hb dX6_quarrels_71 rfl (lv_at hl 1 rfl) ?_
        refine lv_if_eq (tgt := 100) hx hb dX6_quarrels_72 (by decide) (fun c12 => ?_) (fun c12 => ?_)
        · have hf := g_ifT c12 hf
          refine lv_iconst (v := (0 : Int32)) hx hb dX6_quarrels_100 (by decide) ?_
          refine lv_istore (lv' := [(4, .int (0 : Int32)), (0, .ref (a 0)), (2, .int x2), (3, .int x3), (5, .int x5)]) hx hb dX6_quarrels_101 hl (by decide) rfl (fun ls hl => ?_)
          refine lv_iinc (v := (x5 + (1 : Int32))) (lv' := [(5, .int (x5 + (1 : Int32))), (4, .int (0 : Int32)), (0, .ref (a 0)), (2, .int x2), (3, .int x3)]) hx hb dX6_quarrels_103 hl (k := 4) rfl rfl (by decide) rfl (fun ls hl => ?_)
          refine lv_goto (tgt := 60) hx hb dX6_quarrels_106 (by decide) ?_
          exact ih _ _ _ _ _ _ _ _ _ _ _ _ _ _ _ _ _ hf _ _ hP hD hS ls (lv_sub hl [2, 3, 4, 1, 0] rfl)
        · have hf := g_ifF c12 hf
          refine lv_iload_n hx hb dX6_quarrels_75 rfl (lv_at hl 2 rfl) ?_
          refine lv_if_eq (tgt := 100) hx hb dX6_quarrels_76 (by decide) (fun c13 => ?_) (fun c13 => ?_)
          · have hf := g_ifT c13 hf
            refine lv_iconst (v := (0 : Int32)) hx hb dX6_quarrels_100 (by decide) ?_
            refine lv_istore (lv' := [(4, .int (0 : Int32)), (0, .ref (a 0)), (2, .int x2), (3, .int x3), (5, .int x5)]) hx hb dX6_quarrels_101 hl (by decide) rfl (fun ls hl => ?_)
            refine lv_iinc (v := (x5 + (1 : Int32))) (lv' := [(5, .int (x5 + (1 : Int32))), (4, .int (0 : Int32)), (0, .ref (a 0)), (2, .int x2), (3, .int x3)]) hx hb dX6_quarrels_103 hl (k := 4) rfl rfl (by decide) rfl (fun ls hl => ?_)
            refine lv_goto (tgt := 60) hx hb dX6_quarrels_106 (by decide) ?_
            exact ih _ _ _ _ _ _ _ _ _ _ _ _ _ _ _ _ _ hf _ _ hP hD hS ls (lv_sub hl [2, 3, 4, 1, 0] rfl)
          · have hf := g_ifF c13 hf
            refine lv_aload_n hx hb dX6_quarrels_79 rfl (lv_at hl 0 rfl) ?_
            refine va_get (D := G.1) (ci := 5) (v := .ref (a 7)) (C := RX6) (T := TX6) (N := 12) hx hb hts hX6 hown hK.1 hP 0 rfl rfl 10 (by decide) (hts _ tw_598) (fun _ h9 => h9) rfl dX6_quarrels_80 ?_
            refine lv_iload hx hb dX6_quarrels_83 (lv_at hl 4 rfl) ?_
            obtain ⟨g14, hf⟩ := g_gdS hf
            refine va_iald hx hb hK.1 hP 7 0 rfl rfl (g_in_vp g14) dX6_quarrels_85 ?_
            refine lv_aload_n hx hb dX6_quarrels_86 rfl (lv_at hl 0 rfl) ?_
            refine va_get (D := G.1) (ci := 5) (v := .ref (a 8)) (C := RX6) (T := TX6) (N := 12) hx hb hts hX6 hown hK.1 hP 0 rfl rfl 11 (by decide) (hts _ tw_599) (fun _ h9 => h9) rfl dX6_quarrels_87 ?_
            refine lv_iload hx hb dX6_quarrels_90 (lv_at hl 4 rfl) ?_
            obtain ⟨g15, hf⟩ := g_gdS hf
            refine va_iald hx hb hK.1 hP 8 0 rfl rfl (g_in_vp g15) dX6_quarrels_92 ?_
            refine lv_icmp_eq (tgt := 100) hx hb dX6_quarrels_93 (by decide) (fun c16 => ?_) (fun c16 => ?_)
            · have hf := g_ifT c16 hf
              refine lv_iconst (v := (0 : Int32)) hx hb dX6_quarrels_100 (by decide) ?_
              refine lv_istore (lv' := [(4, .int (0 : Int32)), (0, .ref (a 0)), (2, .int x2), (3, .int x3), (5, .int x5)]) hx hb dX6_quarrels_101 hl (by decide) rfl (fun ls hl => ?_)
              refine lv_iinc (v := (x5 + (1 : Int32))) (lv' := [(5, .int (x5 + (1 : Int32))), (4, .int (0 : Int32)), (0, .ref (a 0)), (2, .int x2), (3, .int x3)]) hx hb dX6_quarrels_103 hl (k := 4) rfl rfl (by decide) rfl (fun ls hl => ?_)
              refine lv_goto (tgt := 60) hx hb dX6_quarrels_106 (by decide) ?_
              exact ih _ _ _ _ _ _ _ _ _ _ _ _ _ _ _ _ _ hf _ _ hP hD hS ls (lv_sub hl [2, 3, 4, 1, 0] rfl)
            · have hf := g_ifF c16 hf
              refine lv_iconst (v := (1 : Int32)) hx hb dX6_quarrels_96 (by decide) ?_
              refine lv_goto (tgt := 101) hx hb dX6_quarrels_97 (by decide) ?_
              refine lv_istore (lv' := [(4, .int (1 : Int32)), (0, .ref (a 0)), (2, .int x2), (3, .int x3), (5, .int x5)]) hx hb dX6_quarrels_101 hl (by decide) rfl (fun ls hl => ?_)
              refine lv_iinc (v := (x5 + (1 : Int32))) (lv' := [(5, .int (x5 + (1 : Int32))), (4, .int (1 : Int32)), (0, .ref (a 0)), (2, .int x2), (3, .int x3)]) hx hb dX6_quarrels_103 hl (k := 4) rfl rfl (by decide) rfl (fun ls hl => ?_)
              refine lv_goto (tgt := 60) hx hb dX6_quarrels_106 (by decide) ?_
              exact ih _ _ _ _ _ _ _ _ _ _ _ _ _ _ _ _ _ hf _ _ hP hD hS ls (lv_sub hl [2, 3, 4, 1, 0] rfl)
def fX6_quarrels_b9 : Nat → Int32 → Int32 → Int32 → (Nat → Int32) → (Nat → Int32) → (Nat → Int32) → (Nat → Int32) → Int32 → (Nat → Int32) → Int32 → Int32 → Int32 → (Nat → Int32) → (Nat → Int32) → (Nat → Int32) → Option (Int32 × (Nat → Int32) × (Nat → Int32) × (Nat → Int32) × (Nat → Int32) × Int32 × (Nat → Int32) × Int32 × Int32 × Int32 × (Nat → Int32) × (Nat → Int32) × (Nat → Int32))
  | 0, _, _, _, _, _, _, _, _, _, _, _, _, _, _, _ => none
  | n + 1, x1, x2, x3, ss, was, beg, asi, sta, txt, typ, att, rea, got, row, oth => (if (4 : Int32) ≤ x3 then ((fX6_reads x1 (1 : Int32) ss was beg asi sta txt typ att rea got row oth).bind fun r4 => ((fX6_makes (1 : Int32) (0 : Int32) r4.2.1 r4.2.2.1 r4.2.2.2.1 r4.2.2.2.2.1 r4.2.2.2.2.2.1 r4.2.2.2.2.2.2.1 r4.2.2.2.2.2.2.2.1 r4.2.2.2.2.2.2.2.2.1 r4.2.2.2.2.2.2.2.2.2.1 r4.2.2.2.2.2.2.2.2.2.2.1 r4.2.2.2.2.2.2.2.2.2.2.2.1 r4.2.2.2.2.2.2.2.2.2.2.2.2).bind fun r6 => (if x2 = r4.1 then fX6_quarrels_b60 2000 x2 r4.1 (0 : Int32) (1 : Int32) r6.1 r6.2.1 r6.2.2.1 r6.2.2.2.1 r6.2.2.2.2.1 r6.2.2.2.2.2.1 r6.2.2.2.2.2.2.1 r6.2.2.2.2.2.2.2.1 r6.2.2.2.2.2.2.2.2.1 r6.2.2.2.2.2.2.2.2.2.1 r6.2.2.2.2.2.2.2.2.2.2.1 r6.2.2.2.2.2.2.2.2.2.2.2 else fX6_quarrels_b60 2000 x2 r4.1 (1 : Int32) (1 : Int32) r6.1 r6.2.1 r6.2.2.1 r6.2.2.2.1 r6.2.2.2.2.1 r6.2.2.2.2.2.1 r6.2.2.2.2.2.2.1 r6.2.2.2.2.2.2.2.1 r6.2.2.2.2.2.2.2.2.1 r6.2.2.2.2.2.2.2.2.2.1 r6.2.2.2.2.2.2.2.2.2.2.1 r6.2.2.2.2.2.2.2.2.2.2.2))) else g_gd (g_in x3 4) (g_gd (g_in x3 4) (fX6_quarrels_b9 n x1 x2 (x3 + (1 : Int32)) ss was beg asi sta txt typ att rea got row (upd oth x3.toNatClampNeg (row x3.toNatClampNeg)))))
set_option maxHeartbeats 4000000 in
set_option maxRecDepth 100000 in
theorem kX6_quarrels_b9 {p : Program} {l : Launch} {e : Env} {s : State} {m : MethodId} {args : Array Value} {below : List Frame} {meth : Method} {c : Code} {G : gT} {a : Nat → Nat} {w0 : va_W} (C0 : gX p s m args meth c cX6_quarrels 6 (some .boolean) RX6 G) :
    ∀ (n : Nat) (x1 : Int32) (x2 : Int32) (x3 : Int32) (ss : Nat → Int32) (was : Nat → Int32) (beg : Nat → Int32) (asi : Nat → Int32) (sta : Int32) (txt : Nat → Int32) (typ : Int32) (att : Int32) (rea : Int32) (got : Nat → Int32) (row : Nat → Int32) (oth : Nat → Int32) (u : Int32 × (Nat → Int32) × (Nat → Int32) × (Nat → Int32) × (Nat → Int32) × Int32 × (Nat → Int32) × Int32 × Int32 × Int32 × (Nat → Int32) × (Nat → Int32) × (Nat → Int32)), fX6_quarrels_b9 n x1 x2 x3 ss was beg asi sta txt typ att rea got row oth = some u → ∀ (H : Heap) (locs : List Loc), va_P G.1 vwCl [((a 0), .inr (5, [.ref (a 1), .ref (a 2), .ref (a 3), .ref (a 4), .int sta, .ref (a 5), .int typ, .int att, .int rea, .ref (a 6), .ref (a 7), .ref (a 8)])), ((a 1), .inl (G.2.1, 411, .inl ss)), ((a 2), .inl (G.2.1, 1644, .inl was)), ((a 3), .inl (G.2.1, 411, .inl beg)), ((a 4), .inl (G.2.1, 411, .inl asi)), ((a 5), .inl (G.2.2.1, 60, .inl txt)), ((a 6), .inl (G.2.1, 4, .inl got)), ((a 7), .inl (G.2.1, 4, .inl row)), ((a 8), .inl (G.2.1, 4, .inl oth))] H → va_D (va_A w0 s.heap.size) [((a 0), .inr (5, [.ref (a 1), .ref (a 2), .ref (a 3), .ref (a 4), .int sta, .ref (a 5), .int typ, .int att, .int rea, .ref (a 6), .ref (a 7), .ref (a 8)])), ((a 1), .inl (G.2.1, 411, .inl ss)), ((a 2), .inl (G.2.1, 1644, .inl was)), ((a 3), .inl (G.2.1, 411, .inl beg)), ((a 4), .inl (G.2.1, 411, .inl asi)), ((a 5), .inl (G.2.2.1, 60, .inl txt)), ((a 6), .inl (G.2.1, 4, .inl got)), ((a 7), .inl (G.2.1, 4, .inl row)), ((a 8), .inl (G.2.1, 4, .inl oth))] → va_S (va_A w0 s.heap.size) s.heap H locs → ∀ ls, lv_has ls 6 [(0, .ref (a 0)), (1, .int x1), (2, .int x2), (3, .int x3)] → gW p l e (headSpec wsX6_quarrels rmX6_quarrels).room s m args below meth c G w0 (some (.int u.1)) (modW G a u.2.1 u.2.2.1 u.2.2.2.1 u.2.2.2.2.1 u.2.2.2.2.2.1 u.2.2.2.2.2.2.1 u.2.2.2.2.2.2.2.1 u.2.2.2.2.2.2.2.2.1 u.2.2.2.2.2.2.2.2.2.1 u.2.2.2.2.2.2.2.2.2.2.1 u.2.2.2.2.2.2.2.2.2.2.2.1 u.2.2.2.2.2.2.2.2.2.2.2.2) H locs 9 ls [] := by
  obtain ⟨hx, hb, hr, hts, hown, hlocks, hml, hK⟩ := id C0
  have hA : ∀ q : Nat, s.heap.size ≤ q → va_A w0 s.heap.size q := fun q h => Or.inr h
  intro n
  induction n with
  | zero =>
    intro x1 x2 x3 ss was beg asi sta txt typ att rea got row oth u hf H locs hP hD hS ls hl
    have hf : (none : Option (Int32 × (Nat → Int32) × (Nat → Int32) × (Nat → Int32) × (Nat → Int32) × Int32 × (Nat → Int32) × Int32 × Int32 × Int32 × (Nat → Int32) × (Nat → Int32) × (Nat → Int32))) = some u := hf
    cases hf
  | succ n ih =>
    intro x1 x2 x3 ss was beg asi sta txt typ att rea got row oth u hf H locs hP hD hS ls hl
    rw [fX6_quarrels_b9] at hf
    refine lv_iload_n hx hb dX6_quarrels_9 rfl (lv_at hl 3 rfl) ?_
    refine lv_iconst (v := (4 : Int32)) hx hb dX6_quarrels_10 (by decide) ?_
    refine lv_icmp_ge (tgt := 32) hx hb dX6_quarrels_11 (by decide) (fun c3 => ?_) (fun c3 => ?_)
    · have hf := g_ifT c3 hf
      refine lv_aload_n hx hb dX6_quarrels_32 rfl (lv_at hl 0 rfl) ?_
      refine lv_iload_n hx hb dX6_quarrels_33 rfl (lv_at hl 1 rfl) ?_
      refine lv_iconst (v := (1 : Int32)) hx hb dX6_quarrels_34 (by decide) ?_
      obtain ⟨r4, e5, hf⟩ := g_bdS hf
      refine g_contC (st1 := [.int r4.1]) (g_runVC (As := [.int x1, .int (1 : Int32)]) (rest := []) ⟨hx, hb, hml, hown, hts⟩ (qX6_reads l G a e5) (cwV 2 hts (TB_V TB_id tw_795 tw_797 tw_36 tw_54 tw_798) rfl rfl rfl (by decide +kernel) ⟨Nat.le_of_ble_eq_true rfl, Nat.le_of_ble_eq_true rfl⟩) hK (hP.sub [0, 1, 2, 3, 4, 5, 6, 7, 8] rfl) (hD.sub [0, 1, 2, 3, 4, 5, 6, 7, 8] (by decide) rfl) 0 rfl rfl rfl hl.1 rfl (Nat.le_of_ble_eq_true rfl) dX6_quarrels_35) rfl hP hD hS hA [0, 1, 2, 3, 4, 5, 6, 7, 8] rfl rfl (fun H locs hP hD hS => ?_)
      have hP : va_P G.1 vwCl [((a 0), .inr (5, [.ref (a 1), .ref (a 2), .ref (a 3), .ref (a 4), .int r4.2.2.2.2.2.1, .ref (a 5), .int r4.2.2.2.2.2.2.2.1, .int r4.2.2.2.2.2.2.2.2.1, .int r4.2.2.2.2.2.2.2.2.2.1, .ref (a 6), .ref (a 7), .ref (a 8)])), ((a 1), .inl (G.2.1, 411, .inl r4.2.1)), ((a 2), .inl (G.2.1, 1644, .inl r4.2.2.1)), ((a 3), .inl (G.2.1, 411, .inl r4.2.2.2.1)), ((a 4), .inl (G.2.1, 411, .inl r4.2.2.2.2.1)), ((a 5), .inl (G.2.2.1, 60, .inl r4.2.2.2.2.2.2.1)), ((a 6), .inl (G.2.1, 4, .inl r4.2.2.2.2.2.2.2.2.2.2.1)), ((a 7), .inl (G.2.1, 4, .inl r4.2.2.2.2.2.2.2.2.2.2.2.1)), ((a 8), .inl (G.2.1, 4, .inl r4.2.2.2.2.2.2.2.2.2.2.2.2))] H := hP
      have hD : va_D (va_A w0 s.heap.size) [((a 0), .inr (5, [.ref (a 1), .ref (a 2), .ref (a 3), .ref (a 4), .int r4.2.2.2.2.2.1, .ref (a 5), .int r4.2.2.2.2.2.2.2.1, .int r4.2.2.2.2.2.2.2.2.1, .int r4.2.2.2.2.2.2.2.2.2.1, .ref (a 6), .ref (a 7), .ref (a 8)])), ((a 1), .inl (G.2.1, 411, .inl r4.2.1)), ((a 2), .inl (G.2.1, 1644, .inl r4.2.2.1)), ((a 3), .inl (G.2.1, 411, .inl r4.2.2.2.1)), ((a 4), .inl (G.2.1, 411, .inl r4.2.2.2.2.1)), ((a 5), .inl (G.2.2.1, 60, .inl r4.2.2.2.2.2.2.1)), ((a 6), .inl (G.2.1, 4, .inl r4.2.2.2.2.2.2.2.2.2.2.1)), ((a 7), .inl (G.2.1, 4, .inl r4.2.2.2.2.2.2.2.2.2.2.2.1)), ((a 8), .inl (G.2.1, 4, .inl r4.2.2.2.2.2.2.2.2.2.2.2.2))] := hD
      refine lv_istore_n (lv' := [(3, .int r4.1), (0, .ref (a 0)), (1, .int x1), (2, .int x2)]) hx hb dX6_quarrels_38 rfl hl (by decide) rfl (fun ls hl => ?_)
      refine lv_aload_n hx hb dX6_quarrels_39 rfl (lv_at hl 1 rfl) ?_
      refine lv_iconst (v := (1 : Int32)) hx hb dX6_quarrels_40 (by decide) ?_
      refine lv_iconst (v := (0 : Int32)) hx hb dX6_quarrels_41 (by decide) ?_
      obtain ⟨r6, e7, hf⟩ := g_bdS hf
      refine g_contC (st1 := []) (g_runVC (As := [.int (1 : Int32), .int (0 : Int32)]) (rest := []) ⟨hx, hb, hml, hown, hts⟩ (qX6_makes l G a e7) (cwV 2 hts (TB_V TB_id tw_679 tw_681 tw_19 tw_54 tw_682) rfl rfl rfl (by decide +kernel) ⟨Nat.le_of_ble_eq_true rfl, Nat.le_of_ble_eq_true rfl⟩) hK (hP.sub [0, 1, 2, 3, 4, 5, 6, 7, 8] rfl) (hD.sub [0, 1, 2, 3, 4, 5, 6, 7, 8] (by decide) rfl) 0 rfl rfl rfl hl.1 rfl (Nat.le_of_ble_eq_true rfl) dX6_quarrels_42) rfl hP hD hS hA [0, 1, 2, 3, 4, 5, 6, 7, 8] rfl rfl (fun H locs hP hD hS => ?_)
      have hP : va_P G.1 vwCl [((a 0), .inr (5, [.ref (a 1), .ref (a 2), .ref (a 3), .ref (a 4), .int r6.2.2.2.2.1, .ref (a 5), .int r6.2.2.2.2.2.2.1, .int r6.2.2.2.2.2.2.2.1, .int r6.2.2.2.2.2.2.2.2.1, .ref (a 6), .ref (a 7), .ref (a 8)])), ((a 1), .inl (G.2.1, 411, .inl r6.1)), ((a 2), .inl (G.2.1, 1644, .inl r6.2.1)), ((a 3), .inl (G.2.1, 411, .inl r6.2.2.1)), ((a 4), .inl (G.2.1, 411, .inl r6.2.2.2.1)), ((a 5), .inl (G.2.2.1, 60, .inl r6.2.2.2.2.2.1)), ((a 6), .inl (G.2.1, 4, .inl r6.2.2.2.2.2.2.2.2.2.1)), ((a 7), .inl (G.2.1, 4, .inl r6.2.2.2.2.2.2.2.2.2.2.1)), ((a 8), .inl (G.2.1, 4, .inl r6.2.2.2.2.2.2.2.2.2.2.2))] H := hP
      have hD : va_D (va_A w0 s.heap.size) [((a 0), .inr (5, [.ref (a 1), .ref (a 2), .ref (a 3), .ref (a 4), .int r6.2.2.2.2.1, .ref (a 5), .int r6.2.2.2.2.2.2.1, .int r6.2.2.2.2.2.2.2.1, .int r6.2.2.2.2.2.2.2.2.1, .ref (a 6), .ref (a 7), .ref (a 8)])), ((a 1), .inl (G.2.1, 411, .inl r6.1)), ((a 2), .inl (G.2.1, 1644, .inl r6.2.1)), ((a 3), .inl (G.2.1, 411, .inl r6.2.2.1)), ((a 4), .inl (G.2.1, 411, .inl r6.2.2.2.1)), ((a 5), .inl (G.2.2.1, 60, .inl r6.2.2.2.2.2.1)), ((a 6), .inl (G.2.1, 4, .inl r6.2.2.2.2.2.2.2.2.2.1)), ((a 7), .inl (G.2.1, 4, .inl r6.2.2.2.2.2.2.2.2.2.2.1)), ((a 8), .inl (G.2.1, 4, .inl r6.2.2.2.2.2.2.2.2.2.2.2))] := hD
      refine lv_iload_n hx hb dX6_quarrels_45 rfl (lv_at hl 3 rfl) ?_
      refine lv_iload_n hx hb dX6_quarrels_46 rfl (lv_at hl 0 rfl) ?_
      refine lv_icmp_eq (tgt := 54) hx hb dX6_quarrels_47 (by decide) (fun c8 => ?_) (fun c8 => ?_)
      · have hf := g_ifT c8 hf
        refine lv_iconst (v := (0 : Int32)) hx hb dX6_quarrels_54 (by decide) ?_
        refine lv_istore (lv' := [(4, .int (0 : Int32)), (3, .int r4.1), (0, .ref (a 0)), (1, .int x1), (2, .int x2)]) hx hb dX6_quarrels_55 hl (by decide) rfl (fun ls hl => ?_)
        refine lv_iconst (v := (1 : Int32)) hx hb dX6_quarrels_57 (by decide) ?_
        refine lv_istore (lv' := [(5, .int (1 : Int32)), (4, .int (0 : Int32)), (3, .int r4.1), (0, .ref (a 0)), (1, .int x1), (2, .int x2)]) hx hb dX6_quarrels_58 hl (by decide) rfl (fun ls hl => ?_)
        exact kX6_quarrels_b60 C0 2000 _ _ _ _ _ _ _ _ _ _ _ _ _ _ _ _ _ hf _ _ hP hD hS ls (lv_sub hl [3, 5, 2, 1, 0] rfl)
      · have hf := g_ifF c8 hf
        refine lv_iconst (v := (1 : Int32)) hx hb dX6_quarrels_50 (by decide) ?_
        refine lv_goto (tgt := 55) hx hb dX6_quarrels_51 (by decide) ?_
        refine lv_istore (lv' := [(4, .int (1 : Int32)), (3, .int r4.1), (0, .ref (a 0)), (1, .int x1), (2, .int x2)]) hx hb dX6_quarrels_55 hl (by decide) rfl (fun ls hl => ?_)
        refine lv_iconst (v := (1 : Int32)) hx hb dX6_quarrels_57 (by decide) ?_
        refine lv_istore (lv' := [(5, .int (1 : Int32)), (4, .int (1 : Int32)), (3, .int r4.1), (0, .ref (a 0)), (1, .int x1), (2, .int x2)]) hx hb dX6_quarrels_58 hl (by decide) rfl (fun ls hl => ?_)
        exact kX6_quarrels_b60 C0 2000 _ _ _ _ _ _ _ _ _ _ _ _ _ _ _ _ _ hf _ _ hP hD hS ls (lv_sub hl [3, 5, 2, 1, 0] rfl)
    · have hf := g_ifF c3 hf
      refine lv_aload_n hx hb dX6_quarrels_14 rfl (lv_at hl 0 rfl) ?_
      refine va_get (D := G.1) (ci := 5) (v := .ref (a 8)) (C := RX6) (T := TX6) (N := 12) hx hb hts hX6 hown hK.1 hP 0 rfl rfl 11 (by decide) (hts _ tw_599) (fun _ h9 => h9) rfl dX6_quarrels_15 ?_
      refine lv_iload_n hx hb dX6_quarrels_18 rfl (lv_at hl 3 rfl) ?_
      refine lv_aload_n hx hb dX6_quarrels_19 rfl (lv_at hl 0 rfl) ?_
      refine va_get (D := G.1) (ci := 5) (v := .ref (a 7)) (C := RX6) (T := TX6) (N := 12) hx hb hts hX6 hown hK.1 hP 0 rfl rfl 10 (by decide) (hts _ tw_598) (fun _ h9 => h9) rfl dX6_quarrels_20 ?_
      refine lv_iload_n hx hb dX6_quarrels_23 rfl (lv_at hl 3 rfl) ?_
      obtain ⟨g17, hf⟩ := g_gdS hf
      refine va_iald hx hb hK.1 hP 7 0 rfl rfl (g_in_vp g17) dX6_quarrels_24 ?_
      obtain ⟨g18, hf⟩ := g_gdS hf
      refine va_iast hx hb hK.1 hP hD hS 8 0 rfl rfl (g_in_vp g18) dX6_quarrels_25 (fun H locs hP hD hS => ?_)
      have hP : va_P G.1 vwCl [((a 0), .inr (5, [.ref (a 1), .ref (a 2), .ref (a 3), .ref (a 4), .int sta, .ref (a 5), .int typ, .int att, .int rea, .ref (a 6), .ref (a 7), .ref (a 8)])), ((a 1), .inl (G.2.1, 411, .inl ss)), ((a 2), .inl (G.2.1, 1644, .inl was)), ((a 3), .inl (G.2.1, 411, .inl beg)), ((a 4), .inl (G.2.1, 411, .inl asi)), ((a 5), .inl (G.2.2.1, 60, .inl txt)), ((a 6), .inl (G.2.1, 4, .inl got)), ((a 7), .inl (G.2.1, 4, .inl row)), ((a 8), .inl (G.2.1, 4, .inl (upd oth x3.toNatClampNeg (row x3.toNatClampNeg))))] H := hP
      have hD : va_D (va_A w0 s.heap.size) [((a 0), .inr (5, [.ref (a 1), .ref (a 2), .ref (a 3), .ref (a 4), .int sta, .ref (a 5), .int typ, .int att, .int rea, .ref (a 6), .ref (a 7), .ref (a 8)])), ((a 1), .inl (G.2.1, 411, .inl ss)), ((a 2), .inl (G.2.1, 1644, .inl was)), ((a 3), .inl (G.2.1, 411, .inl beg)), ((a 4), .inl (G.2.1, 411, .inl asi)), ((a 5), .inl (G.2.2.1, 60, .inl txt)), ((a 6), .inl (G.2.1, 4, .inl got)), ((a 7), .inl (G.2.1, 4, .inl row)), ((a 8), .inl (G.2.1, 4, .inl (upd oth x3.toNatClampNeg (row x3.toNatClampNeg))))] := hD
      refine lv_iinc (v := (x3 + (1 : Int32))) (lv' := [(3, .int (x3 + (1 : Int32))), (0, .ref (a 0)), (1, .int x1), (2, .int x2)]) hx hb dX6_quarrels_26 hl (k := 3) rfl rfl (by decide) rfl (fun ls hl => ?_)
      refine lv_goto (tgt := 9) hx hb dX6_quarrels_29 (by decide) ?_
      exact ih _ _ _ _ _ _ _ _ _ _ _ _ _ _ _ _ hf _ _ hP hD hS ls (lv_sub hl [1, 2, 3, 0] rfl)
def fX6_quarrels (p0 : Int32) (ss : Nat → Int32) (was : Nat → Int32) (beg : Nat → Int32) (asi : Nat → Int32) (sta : Int32) (txt : Nat → Int32) (typ : Int32) (att : Int32) (rea : Int32) (got : Nat → Int32) (row : Nat → Int32) (oth : Nat → Int32) : Option (Int32 × (Nat → Int32) × (Nat → Int32) × (Nat → Int32) × (Nat → Int32) × Int32 × (Nat → Int32) × Int32 × Int32 × Int32 × (Nat → Int32) × (Nat → Int32) × (Nat → Int32)) := ((fX6_reads p0 (0 : Int32) ss was beg asi sta txt typ att rea got row oth).bind fun r1 => fX6_quarrels_b9 2000 p0 r1.1 (0 : Int32) r1.2.1 r1.2.2.1 r1.2.2.2.1 r1.2.2.2.2.1 r1.2.2.2.2.2.1 r1.2.2.2.2.2.2.1 r1.2.2.2.2.2.2.2.1 r1.2.2.2.2.2.2.2.2.1 r1.2.2.2.2.2.2.2.2.2.1 r1.2.2.2.2.2.2.2.2.2.2.1 r1.2.2.2.2.2.2.2.2.2.2.2.1 r1.2.2.2.2.2.2.2.2.2.2.2.2)
set_option maxHeartbeats 4000000 in
set_option maxRecDepth 100000 in
theorem qX6_quarrels (l : Launch) (G : gT) (a : Nat → Nat) {p0 : Int32} {ss : Nat → Int32} {was : Nat → Int32} {beg : Nat → Int32} {asi : Nat → Int32} {sta : Int32} {txt : Nat → Int32} {typ : Int32} {att : Int32} {rea : Int32} {got : Nat → Int32} {row : Nat → Int32} {oth : Nat → Int32} {u : Int32 × (Nat → Int32) × (Nat → Int32) × (Nat → Int32) × (Nat → Int32) × Int32 × (Nat → Int32) × Int32 × Int32 × Int32 × (Nat → Int32) × (Nat → Int32) × (Nat → Int32)} (hf : fX6_quarrels p0 ss was beg asi sta txt typ att rea got row oth = some u) : gC l G yX6_quarrels wsX6_quarrels rmX6_quarrels [.ref (a 0), .int p0] (modW G a ss was beg asi sta txt typ att rea got row oth) (some (.int u.1)) (modW G a u.2.1 u.2.2.1 u.2.2.2.1 u.2.2.2.2.1 u.2.2.2.2.2.1 u.2.2.2.2.2.2.1 u.2.2.2.2.2.2.2.1 u.2.2.2.2.2.2.2.2.1 u.2.2.2.2.2.2.2.2.2.1 u.2.2.2.2.2.2.2.2.2.2.1 u.2.2.2.2.2.2.2.2.2.2.2.1 u.2.2.2.2.2.2.2.2.2.2.2.2) := by
  refine gC.of (cc := cX6_quarrels) (maxL := 6) (ret := (some .boolean)) (by decide) rfl (Nat.le_of_ble_eq_true rfl) ?_
  intro p e s m below meth c C0 hP hD hS ls hl
  obtain ⟨hx, hb, hr, hts, hown, hlocks, hml, hK⟩ := id C0
  have hl : lv_has ls 6 [(0, .ref (a 0)), (1, .int p0)] := hl
  have hA : ∀ q : Nat, s.heap.size ≤ q → va_A (modW G a ss was beg asi sta txt typ att rea got row oth) s.heap.size q := fun q h => Or.inr h
  have hP : va_P G.1 vwCl [((a 0), .inr (5, [.ref (a 1), .ref (a 2), .ref (a 3), .ref (a 4), .int sta, .ref (a 5), .int typ, .int att, .int rea, .ref (a 6), .ref (a 7), .ref (a 8)])), ((a 1), .inl (G.2.1, 411, .inl ss)), ((a 2), .inl (G.2.1, 1644, .inl was)), ((a 3), .inl (G.2.1, 411, .inl beg)), ((a 4), .inl (G.2.1, 411, .inl asi)), ((a 5), .inl (G.2.2.1, 60, .inl txt)), ((a 6), .inl (G.2.1, 4, .inl got)), ((a 7), .inl (G.2.1, 4, .inl row)), ((a 8), .inl (G.2.1, 4, .inl oth))] s.heap := hP
  have hD : va_D (va_A (modW G a ss was beg asi sta txt typ att rea got row oth) s.heap.size) [((a 0), .inr (5, [.ref (a 1), .ref (a 2), .ref (a 3), .ref (a 4), .int sta, .ref (a 5), .int typ, .int att, .int rea, .ref (a 6), .ref (a 7), .ref (a 8)])), ((a 1), .inl (G.2.1, 411, .inl ss)), ((a 2), .inl (G.2.1, 1644, .inl was)), ((a 3), .inl (G.2.1, 411, .inl beg)), ((a 4), .inl (G.2.1, 411, .inl asi)), ((a 5), .inl (G.2.2.1, 60, .inl txt)), ((a 6), .inl (G.2.1, 4, .inl got)), ((a 7), .inl (G.2.1, 4, .inl row)), ((a 8), .inl (G.2.1, 4, .inl oth))] := hD
  unfold fX6_quarrels at hf
  refine lv_aload_n hx hb dX6_quarrels_0 rfl (lv_at hl 0 rfl) ?_
  refine lv_iload_n hx hb dX6_quarrels_1 rfl (lv_at hl 1 rfl) ?_
  refine lv_iconst (v := (0 : Int32)) hx hb dX6_quarrels_2 (by decide) ?_
  obtain ⟨r1, e2, hf⟩ := g_bdS hf
  refine g_contC (st1 := [.int r1.1]) (g_runVC (As := [.int p0, .int (0 : Int32)]) (rest := []) ⟨hx, hb, hml, hown, hts⟩ (qX6_reads l G a e2) (cwV 2 hts (TB_V TB_id tw_795 tw_797 tw_36 tw_54 tw_798) rfl rfl rfl (by decide +kernel) ⟨Nat.le_of_ble_eq_true rfl, Nat.le_of_ble_eq_true rfl⟩) hK (hP.sub [0, 1, 2, 3, 4, 5, 6, 7, 8] rfl) (hD.sub [0, 1, 2, 3, 4, 5, 6, 7, 8] (by decide) rfl) 0 rfl rfl rfl hl.1 rfl (Nat.le_of_ble_eq_true rfl) dX6_quarrels_3) rfl hP hD hS hA [0, 1, 2, 3, 4, 5, 6, 7, 8] rfl rfl (fun H locs hP hD hS => ?_)
  have hP : va_P G.1 vwCl [((a 0), .inr (5, [.ref (a 1), .ref (a 2), .ref (a 3), .ref (a 4), .int r1.2.2.2.2.2.1, .ref (a 5), .int r1.2.2.2.2.2.2.2.1, .int r1.2.2.2.2.2.2.2.2.1, .int r1.2.2.2.2.2.2.2.2.2.1, .ref (a 6), .ref (a 7), .ref (a 8)])), ((a 1), .inl (G.2.1, 411, .inl r1.2.1)), ((a 2), .inl (G.2.1, 1644, .inl r1.2.2.1)), ((a 3), .inl (G.2.1, 411, .inl r1.2.2.2.1)), ((a 4), .inl (G.2.1, 411, .inl r1.2.2.2.2.1)), ((a 5), .inl (G.2.2.1, 60, .inl r1.2.2.2.2.2.2.1)), ((a 6), .inl (G.2.1, 4, .inl r1.2.2.2.2.2.2.2.2.2.2.1)), ((a 7), .inl (G.2.1, 4, .inl r1.2.2.2.2.2.2.2.2.2.2.2.1)), ((a 8), .inl (G.2.1, 4, .inl r1.2.2.2.2.2.2.2.2.2.2.2.2))] H := hP
  have hD : va_D (va_A (modW G a ss was beg asi sta txt typ att rea got row oth) s.heap.size) [((a 0), .inr (5, [.ref (a 1), .ref (a 2), .ref (a 3), .ref (a 4), .int r1.2.2.2.2.2.1, .ref (a 5), .int r1.2.2.2.2.2.2.2.1, .int r1.2.2.2.2.2.2.2.2.1, .int r1.2.2.2.2.2.2.2.2.2.1, .ref (a 6), .ref (a 7), .ref (a 8)])), ((a 1), .inl (G.2.1, 411, .inl r1.2.1)), ((a 2), .inl (G.2.1, 1644, .inl r1.2.2.1)), ((a 3), .inl (G.2.1, 411, .inl r1.2.2.2.1)), ((a 4), .inl (G.2.1, 411, .inl r1.2.2.2.2.1)), ((a 5), .inl (G.2.2.1, 60, .inl r1.2.2.2.2.2.2.1)), ((a 6), .inl (G.2.1, 4, .inl r1.2.2.2.2.2.2.2.2.2.2.1)), ((a 7), .inl (G.2.1, 4, .inl r1.2.2.2.2.2.2.2.2.2.2.2.1)), ((a 8), .inl (G.2.1, 4, .inl r1.2.2.2.2.2.2.2.2.2.2.2.2))] := hD
  refine lv_istore_n (lv' := [(2, .int r1.1), (0, .ref (a 0)), (1, .int p0)]) hx hb dX6_quarrels_6 rfl hl (by decide) rfl (fun ls hl => ?_)
  refine lv_iconst (v := (0 : Int32)) hx hb dX6_quarrels_7 (by decide) ?_
  refine lv_istore_n (lv' := [(3, .int (0 : Int32)), (2, .int r1.1), (0, .ref (a 0)), (1, .int p0)]) hx hb dX6_quarrels_8 rfl hl (by decide) rfl (fun ls hl => ?_)
  exact kX6_quarrels_b9 C0 2000 _ _ _ _ _ _ _ _ _ _ _ _ _ _ _ _ hf _ _ hP hD hS ls (lv_sub hl [2, 3, 1, 0] rfl)
-- TwoShapesModel.quarrel()I
abbrev rmX6_quarrel : Room := { frames := 5, cells := 0, slots := 0, locals := 117 }
def fX6_quarrel_b4 : Nat → Int32 → Int32 → (Nat → Int32) → (Nat → Int32) → (Nat → Int32) → (Nat → Int32) → Int32 → (Nat → Int32) → Int32 → Int32 → Int32 → (Nat → Int32) → (Nat → Int32) → (Nat → Int32) → Option (Int32 × (Nat → Int32) × (Nat → Int32) × (Nat → Int32) × (Nat → Int32) × Int32 × (Nat → Int32) × Int32 × Int32 × Int32 × (Nat → Int32) × (Nat → Int32) × (Nat → Int32))
  | 0, _, _, _, _, _, _, _, _, _, _, _, _, _, _ => none
  | n + 1, x1, x2, ss, was, beg, asi, sta, txt, typ, att, rea, got, row, oth => (if (31 : Int32) ≤ x2 then some (x1, ss, was, beg, asi, sta, txt, typ, att, rea, got, row, oth) else ((fX6_quarrels x2 ss was beg asi sta txt typ att rea got row oth).bind fun r2 => (if r2.1 = (0 : Int32) then fX6_quarrel_b4 n (x1 ||| (0 : Int32)) (x2 + (1 : Int32)) r2.2.1 r2.2.2.1 r2.2.2.2.1 r2.2.2.2.2.1 r2.2.2.2.2.2.1 r2.2.2.2.2.2.2.1 r2.2.2.2.2.2.2.2.1 r2.2.2.2.2.2.2.2.2.1 r2.2.2.2.2.2.2.2.2.2.1 r2.2.2.2.2.2.2.2.2.2.2.1 r2.2.2.2.2.2.2.2.2.2.2.2.1 r2.2.2.2.2.2.2.2.2.2.2.2.2 else fX6_quarrel_b4 n (x1 ||| ((1 : Int32) <<< (x2 &&& 31))) (x2 + (1 : Int32)) r2.2.1 r2.2.2.1 r2.2.2.2.1 r2.2.2.2.2.1 r2.2.2.2.2.2.1 r2.2.2.2.2.2.2.1 r2.2.2.2.2.2.2.2.1 r2.2.2.2.2.2.2.2.2.1 r2.2.2.2.2.2.2.2.2.2.1 r2.2.2.2.2.2.2.2.2.2.2.1 r2.2.2.2.2.2.2.2.2.2.2.2.1 r2.2.2.2.2.2.2.2.2.2.2.2.2)))
set_option maxHeartbeats 4000000 in
set_option maxRecDepth 100000 in
theorem kX6_quarrel_b4 {p : Program} {l : Launch} {e : Env} {s : State} {m : MethodId} {args : Array Value} {below : List Frame} {meth : Method} {c : Code} {G : gT} {a : Nat → Nat} {w0 : va_W} (C0 : gX p s m args meth c cX6_quarrel 3 (some .int) RX6 G) :
    ∀ (n : Nat) (x1 : Int32) (x2 : Int32) (ss : Nat → Int32) (was : Nat → Int32) (beg : Nat → Int32) (asi : Nat → Int32) (sta : Int32) (txt : Nat → Int32) (typ : Int32) (att : Int32) (rea : Int32) (got : Nat → Int32) (row : Nat → Int32) (oth : Nat → Int32) (u : Int32 × (Nat → Int32) × (Nat → Int32) × (Nat → Int32) × (Nat → Int32) × Int32 × (Nat → Int32) × Int32 × Int32 × Int32 × (Nat → Int32) × (Nat → Int32) × (Nat → Int32)), fX6_quarrel_b4 n x1 x2 ss was beg asi sta txt typ att rea got row oth = some u → ∀ (H : Heap) (locs : List Loc), va_P G.1 vwCl [((a 0), .inr (5, [.ref (a 1), .ref (a 2), .ref (a 3), .ref (a 4), .int sta, .ref (a 5), .int typ, .int att, .int rea, .ref (a 6), .ref (a 7), .ref (a 8)])), ((a 1), .inl (G.2.1, 411, .inl ss)), ((a 2), .inl (G.2.1, 1644, .inl was)), ((a 3), .inl (G.2.1, 411, .inl beg)), ((a 4), .inl (G.2.1, 411, .inl asi)), ((a 5), .inl (G.2.2.1, 60, .inl txt)), ((a 6), .inl (G.2.1, 4, .inl got)), ((a 7), .inl (G.2.1, 4, .inl row)), ((a 8), .inl (G.2.1, 4, .inl oth))] H → va_D (va_A w0 s.heap.size) [((a 0), .inr (5, [.ref (a 1), .ref (a 2), .ref (a 3), .ref (a 4), .int sta, .ref (a 5), .int typ, .int att, .int rea, .ref (a 6), .ref (a 7), .ref (a 8)])), ((a 1), .inl (G.2.1, 411, .inl ss)), ((a 2), .inl (G.2.1, 1644, .inl was)), ((a 3), .inl (G.2.1, 411, .inl beg)), ((a 4), .inl (G.2.1, 411, .inl asi)), ((a 5), .inl (G.2.2.1, 60, .inl txt)), ((a 6), .inl (G.2.1, 4, .inl got)), ((a 7), .inl (G.2.1, 4, .inl row)), ((a 8), .inl (G.2.1, 4, .inl oth))] → va_S (va_A w0 s.heap.size) s.heap H locs → ∀ ls, lv_has ls 3 [(0, .ref (a 0)), (1, .int x1), (2, .int x2)] → gW p l e (headSpec wsX6_quarrel rmX6_quarrel).room s m args below meth c G w0 (some (.int u.1)) (modW G a u.2.1 u.2.2.1 u.2.2.2.1 u.2.2.2.2.1 u.2.2.2.2.2.1 u.2.2.2.2.2.2.1 u.2.2.2.2.2.2.2.1 u.2.2.2.2.2.2.2.2.1 u.2.2.2.2.2.2.2.2.2.1 u.2.2.2.2.2.2.2.2.2.2.1 u.2.2.2.2.2.2.2.2.2.2.2.1 u.2.2.2.2.2.2.2.2.2.2.2.2) H locs 4 ls [] := by
  obtain ⟨hx, hb, hr, hts, hown, hlocks, hml, hK⟩ := id C0
  have hA : ∀ q : Nat, s.heap.size ≤ q → va_A w0 s.heap.size q := fun q h => Or.inr h
  intro n
  induction n with
  | zero =>
    intro x1 x2 ss was beg asi sta txt typ att rea got row oth u hf H locs hP hD hS ls hl
    have hf : (none : Option (Int32 × (Nat → Int32) × (Nat → Int32) × (Nat → Int32) × (Nat → Int32) × Int32 × (Nat → Int32) × Int32 × Int32 × Int32 × (Nat → Int32) × (Nat → Int32) × (Nat → Int32))) = some u := hf
    cases hf
  | succ n ih =>
    intro x1 x2 ss was beg asi sta txt typ att rea got row oth u hf H locs hP hD hS ls hl
    rw [fX6_quarrel_b4] at hf
    refine lv_iload_n hx hb dX6_quarrel_4 rfl (lv_at hl 2 rfl) ?_
    refine lv_bipush (v := (31 : Int32)) hx hb dX6_quarrel_5 (by decide) ?_
    refine lv_icmp_ge (tgt := 34) hx hb dX6_quarrel_7 (by decide) (fun c1 => ?_) (fun c1 => ?_)
    · have hf := g_ifT c1 hf
      refine lv_iload_n hx hb dX6_quarrel_34 rfl (lv_at hl 1 rfl) ?_
      cases hf
      exact g_iretC hx hb hr hlocks hP hD hS dX6_quarrel_35
    · have hf := g_ifF c1 hf
      refine lv_iload_n hx hb dX6_quarrel_10 rfl (lv_at hl 1 rfl) ?_
      refine lv_aload_n hx hb dX6_quarrel_11 rfl (lv_at hl 0 rfl) ?_
      refine lv_iload_n hx hb dX6_quarrel_12 rfl (lv_at hl 2 rfl) ?_
      obtain ⟨r2, e3, hf⟩ := g_bdS hf
      refine g_contC (st1 := [.int r2.1, .int x1]) (g_runVC (As := [.int x2]) (rest := [.int x1]) ⟨hx, hb, hml, hown, hts⟩ (qX6_quarrels l G a e3) (cwV 1 hts (TB_V TB_id tw_828 tw_830 tw_39 tw_54 tw_831) rfl rfl rfl (by decide +kernel) ⟨Nat.le_of_ble_eq_true rfl, Nat.le_of_ble_eq_true rfl⟩) hK (hP.sub [0, 1, 2, 3, 4, 5, 6, 7, 8] rfl) (hD.sub [0, 1, 2, 3, 4, 5, 6, 7, 8] (by decide) rfl) 0 rfl rfl rfl hl.1 rfl (Nat.le_of_ble_eq_true rfl) dX6_quarrel_13) rfl hP hD hS hA [0, 1, 2, 3, 4, 5, 6, 7, 8] rfl rfl (fun H locs hP hD hS => ?_)
      have hP : va_P G.1 vwCl [((a 0), .inr (5, [.ref (a 1), .ref (a 2), .ref (a 3), .ref (a 4), .int r2.2.2.2.2.2.1, .ref (a 5), .int r2.2.2.2.2.2.2.2.1, .int r2.2.2.2.2.2.2.2.2.1, .int r2.2.2.2.2.2.2.2.2.2.1, .ref (a 6), .ref (a 7), .ref (a 8)])), ((a 1), .inl (G.2.1, 411, .inl r2.2.1)), ((a 2), .inl (G.2.1, 1644, .inl r2.2.2.1)), ((a 3), .inl (G.2.1, 411, .inl r2.2.2.2.1)), ((a 4), .inl (G.2.1, 411, .inl r2.2.2.2.2.1)), ((a 5), .inl (G.2.2.1, 60, .inl r2.2.2.2.2.2.2.1)), ((a 6), .inl (G.2.1, 4, .inl r2.2.2.2.2.2.2.2.2.2.2.1)), ((a 7), .inl (G.2.1, 4, .inl r2.2.2.2.2.2.2.2.2.2.2.2.1)), ((a 8), .inl (G.2.1, 4, .inl r2.2.2.2.2.2.2.2.2.2.2.2.2))] H := hP
      have hD : va_D (va_A w0 s.heap.size) [((a 0), .inr (5, [.ref (a 1), .ref (a 2), .ref (a 3), .ref (a 4), .int r2.2.2.2.2.2.1, .ref (a 5), .int r2.2.2.2.2.2.2.2.1, .int r2.2.2.2.2.2.2.2.2.1, .int r2.2.2.2.2.2.2.2.2.2.1, .ref (a 6), .ref (a 7), .ref (a 8)])), ((a 1), .inl (G.2.1, 411, .inl r2.2.1)), ((a 2), .inl (G.2.1, 1644, .inl r2.2.2.1)), ((a 3), .inl (G.2.1, 411, .inl r2.2.2.2.1)), ((a 4), .inl (G.2.1, 411, .inl r2.2.2.2.2.1)), ((a 5), .inl (G.2.2.1, 60, .inl r2.2.2.2.2.2.2.1)), ((a 6), .inl (G.2.1, 4, .inl r2.2.2.2.2.2.2.2.2.2.2.1)), ((a 7), .inl (G.2.1, 4, .inl r2.2.2.2.2.2.2.2.2.2.2.2.1)), ((a 8), .inl (G.2.1, 4, .inl r2.2.2.2.2.2.2.2.2.2.2.2.2))] := hD
      refine lv_if_eq (tgt := 25) hx hb dX6_quarrel_16 (by decide) (fun c4 => ?_) (fun c4 => ?_)
      · have hf := g_ifT c4 hf
        refine lv_iconst (v := (0 : Int32)) hx hb dX6_quarrel_25 (by decide) ?_
        refine lv_ior hx hb dX6_quarrel_26 ?_
        refine lv_istore_n (lv' := [(1, .int (x1 ||| (0 : Int32))), (0, .ref (a 0)), (2, .int x2)]) hx hb dX6_quarrel_27 rfl hl (by decide) rfl (fun ls hl => ?_)
        refine lv_iinc (v := (x2 + (1 : Int32))) (lv' := [(2, .int (x2 + (1 : Int32))), (1, .int (x1 ||| (0 : Int32))), (0, .ref (a 0))]) hx hb dX6_quarrel_28 hl (k := 2) rfl rfl (by decide) rfl (fun ls hl => ?_)
        refine lv_goto (tgt := 4) hx hb dX6_quarrel_31 (by decide) ?_
        exact ih _ _ _ _ _ _ _ _ _ _ _ _ _ _ _ hf _ _ hP hD hS ls (lv_sub hl [2, 1, 0] rfl)
      · have hf := g_ifF c4 hf
        refine lv_iconst (v := (1 : Int32)) hx hb dX6_quarrel_19 (by decide) ?_
        refine lv_iload_n hx hb dX6_quarrel_20 rfl (lv_at hl 2 rfl) ?_
        refine lv_ishl hx hb dX6_quarrel_21 ?_
        refine lv_goto (tgt := 26) hx hb dX6_quarrel_22 (by decide) ?_
        refine lv_ior hx hb dX6_quarrel_26 ?_
        refine lv_istore_n (lv' := [(1, .int (x1 ||| ((1 : Int32) <<< (x2 &&& 31)))), (0, .ref (a 0)), (2, .int x2)]) hx hb dX6_quarrel_27 rfl hl (by decide) rfl (fun ls hl => ?_)
        refine lv_iinc (v := (x2 + (1 : Int32))) (lv' := [(2, .int (x2 + (1 : Int32))), (1, .int (x1 ||| ((1 : Int32) <<< (x2 &&& 31)))), (0, .ref (a 0))]) hx hb dX6_quarrel_28 hl (k := 2) rfl rfl (by decide) rfl (fun ls hl => ?_)
        refine lv_goto (tgt := 4) hx hb dX6_quarrel_31 (by decide) ?_
        exact ih _ _ _ _ _ _ _ _ _ _ _ _ _ _ _ hf _ _ hP hD hS ls (lv_sub hl [2, 1, 0] rfl)
def fX6_quarrel (ss : Nat → Int32) (was : Nat → Int32) (beg : Nat → Int32) (asi : Nat → Int32) (sta : Int32) (txt : Nat → Int32) (typ : Int32) (att : Int32) (rea : Int32) (got : Nat → Int32) (row : Nat → Int32) (oth : Nat → Int32) : Option (Int32 × (Nat → Int32) × (Nat → Int32) × (Nat → Int32) × (Nat → Int32) × Int32 × (Nat → Int32) × Int32 × Int32 × Int32 × (Nat → Int32) × (Nat → Int32) × (Nat → Int32)) := fX6_quarrel_b4 2000 (0 : Int32) (0 : Int32) ss was beg asi sta txt typ att rea got row oth
set_option maxHeartbeats 4000000 in
set_option maxRecDepth 100000 in
theorem qX6_quarrel (l : Launch) (G : gT) (a : Nat → Nat) {ss : Nat → Int32} {was : Nat → Int32} {beg : Nat → Int32} {asi : Nat → Int32} {sta : Int32} {txt : Nat → Int32} {typ : Int32} {att : Int32} {rea : Int32} {got : Nat → Int32} {row : Nat → Int32} {oth : Nat → Int32} {u : Int32 × (Nat → Int32) × (Nat → Int32) × (Nat → Int32) × (Nat → Int32) × Int32 × (Nat → Int32) × Int32 × Int32 × Int32 × (Nat → Int32) × (Nat → Int32) × (Nat → Int32)} (hf : fX6_quarrel ss was beg asi sta txt typ att rea got row oth = some u) : gC l G yX6_quarrel wsX6_quarrel rmX6_quarrel [.ref (a 0)] (modW G a ss was beg asi sta txt typ att rea got row oth) (some (.int u.1)) (modW G a u.2.1 u.2.2.1 u.2.2.2.1 u.2.2.2.2.1 u.2.2.2.2.2.1 u.2.2.2.2.2.2.1 u.2.2.2.2.2.2.2.1 u.2.2.2.2.2.2.2.2.1 u.2.2.2.2.2.2.2.2.2.1 u.2.2.2.2.2.2.2.2.2.2.1 u.2.2.2.2.2.2.2.2.2.2.2.1 u.2.2.2.2.2.2.2.2.2.2.2.2) := by
  refine gC.of (cc := cX6_quarrel) (maxL := 3) (ret := (some .int)) (by decide) rfl (Nat.le_of_ble_eq_true rfl) ?_
  intro p e s m below meth c C0 hP hD hS ls hl
  obtain ⟨hx, hb, hr, hts, hown, hlocks, hml, hK⟩ := id C0
  have hl : lv_has ls 3 [(0, .ref (a 0))] := hl
  have hA : ∀ q : Nat, s.heap.size ≤ q → va_A (modW G a ss was beg asi sta txt typ att rea got row oth) s.heap.size q := fun q h => Or.inr h
  have hP : va_P G.1 vwCl [((a 0), .inr (5, [.ref (a 1), .ref (a 2), .ref (a 3), .ref (a 4), .int sta, .ref (a 5), .int typ, .int att, .int rea, .ref (a 6), .ref (a 7), .ref (a 8)])), ((a 1), .inl (G.2.1, 411, .inl ss)), ((a 2), .inl (G.2.1, 1644, .inl was)), ((a 3), .inl (G.2.1, 411, .inl beg)), ((a 4), .inl (G.2.1, 411, .inl asi)), ((a 5), .inl (G.2.2.1, 60, .inl txt)), ((a 6), .inl (G.2.1, 4, .inl got)), ((a 7), .inl (G.2.1, 4, .inl row)), ((a 8), .inl (G.2.1, 4, .inl oth))] s.heap := hP
  have hD : va_D (va_A (modW G a ss was beg asi sta txt typ att rea got row oth) s.heap.size) [((a 0), .inr (5, [.ref (a 1), .ref (a 2), .ref (a 3), .ref (a 4), .int sta, .ref (a 5), .int typ, .int att, .int rea, .ref (a 6), .ref (a 7), .ref (a 8)])), ((a 1), .inl (G.2.1, 411, .inl ss)), ((a 2), .inl (G.2.1, 1644, .inl was)), ((a 3), .inl (G.2.1, 411, .inl beg)), ((a 4), .inl (G.2.1, 411, .inl asi)), ((a 5), .inl (G.2.2.1, 60, .inl txt)), ((a 6), .inl (G.2.1, 4, .inl got)), ((a 7), .inl (G.2.1, 4, .inl row)), ((a 8), .inl (G.2.1, 4, .inl oth))] := hD
  unfold fX6_quarrel at hf
  refine lv_iconst (v := (0 : Int32)) hx hb dX6_quarrel_0 (by decide) ?_
  refine lv_istore_n (lv' := [(1, .int (0 : Int32)), (0, .ref (a 0))]) hx hb dX6_quarrel_1 rfl hl (by decide) rfl (fun ls hl => ?_)
  refine lv_iconst (v := (0 : Int32)) hx hb dX6_quarrel_2 (by decide) ?_
  refine lv_istore_n (lv' := [(2, .int (0 : Int32)), (1, .int (0 : Int32)), (0, .ref (a 0))]) hx hb dX6_quarrel_3 rfl hl (by decide) rfl (fun ls hl => ?_)
  exact kX6_quarrel_b4 C0 2000 _ _ _ _ _ _ _ _ _ _ _ _ _ _ _ hf _ _ hP hD hS ls (lv_sub hl [2, 1, 0] rfl)
-- TwoShapesModel.atRisk()I
abbrev rmX6_atRisk : Room := { frames := 2, cells := 0, slots := 0, locals := 44 }
def fX6_atRisk_b17 : Nat → Int32 → Int32 → (Nat → Int32) → (Nat → Int32) → (Nat → Int32) → (Nat → Int32) → Int32 → (Nat → Int32) → Int32 → Int32 → Int32 → (Nat → Int32) → (Nat → Int32) → (Nat → Int32) → Option (Int32)
  | 0, _, _, _, _, _, _, _, _, _, _, _, _, _, _ => none
  | n + 1, x1, x2, ss, was, beg, asi, sta, txt, typ, att, rea, got, row, oth => (if (31 : Int32) ≤ x2 then some (x1) else ((fX6_of (0 : Int32) x2 (0 : Int32) ss was beg asi sta txt typ att rea got row oth).bind fun r4 => g_gd (g_in ((70 : Int32) + x2) 411) ((if r4 = (ss ((70 : Int32) + x2).toNatClampNeg) then fX6_atRisk_b17 n (x1 ||| (0 : Int32)) (x2 + (1 : Int32)) ss was beg asi sta txt typ att rea got row oth else fX6_atRisk_b17 n (x1 ||| ((1 : Int32) <<< (x2 &&& 31))) (x2 + (1 : Int32)) ss was beg asi sta txt typ att rea got row oth))))
set_option maxHeartbeats 4000000 in
set_option maxRecDepth 100000 in
theorem kX6_atRisk_b17 {p : Program} {l : Launch} {e : Env} {s : State} {m : MethodId} {args : Array Value} {below : List Frame} {meth : Method} {c : Code} {G : gT} {a : Nat → Nat} (C0 : gX p s m args meth c cX6_atRisk 3 (some .int) RX6 G) :
    ∀ (n : Nat) (x1 : Int32) (x2 : Int32) (ss : Nat → Int32) (was : Nat → Int32) (beg : Nat → Int32) (asi : Nat → Int32) (sta : Int32) (txt : Nat → Int32) (typ : Int32) (att : Int32) (rea : Int32) (got : Nat → Int32) (row : Nat → Int32) (oth : Nat → Int32) (u : Int32), fX6_atRisk_b17 n x1 x2 ss was beg asi sta txt typ att rea got row oth = some u → va_P G.1 vwCl [((a 0), .inr (5, [.ref (a 1), .ref (a 2), .ref (a 3), .ref (a 4), .int sta, .ref (a 5), .int typ, .int att, .int rea, .ref (a 6), .ref (a 7), .ref (a 8)])), ((a 1), .inl (G.2.1, 411, .inl ss)), ((a 2), .inl (G.2.1, 1644, .inl was)), ((a 3), .inl (G.2.1, 411, .inl beg)), ((a 4), .inl (G.2.1, 411, .inl asi)), ((a 5), .inl (G.2.2.1, 60, .inl txt)), ((a 6), .inl (G.2.1, 4, .inl got)), ((a 7), .inl (G.2.1, 4, .inl row)), ((a 8), .inl (G.2.1, 4, .inl oth))] s.heap → ∀ ls, lv_has ls 3 [(0, .ref (a 0)), (1, .int x1), (2, .int x2)] → gV p l e (headSpec wsX6_atRisk rmX6_atRisk).room s m args below meth c (some (.int u)) 17 ls [] := by
  obtain ⟨hx, hb, hr, hts, hown, hlocks, hml, hK⟩ := id C0
  intro n
  induction n with
  | zero =>
    intro x1 x2 ss was beg asi sta txt typ att rea got row oth u hf hP ls hl
    have hf : (none : Option (Int32)) = some u := hf
    cases hf
  | succ n ih =>
    intro x1 x2 ss was beg asi sta txt typ att rea got row oth u hf hP ls hl
    rw [fX6_atRisk_b17] at hf
    refine lv_iload_n hx hb dX6_atRisk_17 rfl (lv_at hl 2 rfl) ?_
    refine lv_bipush (v := (31 : Int32)) hx hb dX6_atRisk_18 (by decide) ?_
    refine lv_icmp_ge (tgt := 58) hx hb dX6_atRisk_20 (by decide) (fun c3 => ?_) (fun c3 => ?_)
    · have hf := g_ifT c3 hf
      refine lv_iload_n hx hb dX6_atRisk_58 rfl (lv_at hl 1 rfl) ?_
      cases hf
      exact g_iretR hx hb hr hlocks dX6_atRisk_59
    · have hf := g_ifF c3 hf
      refine lv_iload_n hx hb dX6_atRisk_23 rfl (lv_at hl 1 rfl) ?_
      refine lv_aload_n hx hb dX6_atRisk_24 rfl (lv_at hl 0 rfl) ?_
      refine lv_iconst (v := (0 : Int32)) hx hb dX6_atRisk_25 (by decide) ?_
      refine lv_iload_n hx hb dX6_atRisk_26 rfl (lv_at hl 2 rfl) ?_
      refine lv_iconst (v := (0 : Int32)) hx hb dX6_atRisk_27 (by decide) ?_
      obtain ⟨r4, e5, hf⟩ := g_bdS hf
      refine g_contR (st1 := [.int r4, .int x1]) (g_runVR (As := [.int (0 : Int32), .int x2, .int (0 : Int32)]) (rest := [.int x1]) ⟨hx, hb, hml, hown, hts⟩ (qX6_of l G a e5) (cwV 3 hts (TB_V TB_id tw_643 tw_645 tw_12 tw_54 tw_646) rfl rfl rfl (by decide +kernel) ⟨Nat.le_of_ble_eq_true rfl, Nat.le_of_ble_eq_true rfl⟩) hK (hP.sub [0, 1, 2, 3, 4, 5, 6, 7, 8] rfl) 0 rfl rfl rfl hl.1 rfl (Nat.le_of_ble_eq_true rfl) dX6_atRisk_28) rfl ?_
      refine lv_aload_n hx hb dX6_atRisk_31 rfl (lv_at hl 0 rfl) ?_
      refine va_get (D := G.1) (ci := 5) (v := .ref (a 1)) (C := RX6) (T := TX6) (N := 12) hx hb hts hX6 hown hK.1 hP 0 rfl rfl 0 (by decide) (hts _ tw_588) (fun _ h9 => h9) rfl dX6_atRisk_32 ?_
      refine lv_bipush (v := (70 : Int32)) hx hb dX6_atRisk_35 (by decide) ?_
      refine lv_iload_n hx hb dX6_atRisk_37 rfl (lv_at hl 2 rfl) ?_
      refine lv_iadd hx hb dX6_atRisk_38 ?_
      obtain ⟨g6, hf⟩ := g_gdS hf
      refine va_iald hx hb hK.1 hP 1 0 rfl rfl (g_in_vp g6) dX6_atRisk_39 ?_
      refine lv_icmp_eq (tgt := 49) hx hb dX6_atRisk_40 (by decide) (fun c7 => ?_) (fun c7 => ?_)
      · have hf := g_ifT c7 hf
        refine lv_iconst (v := (0 : Int32)) hx hb dX6_atRisk_49 (by decide) ?_
        refine lv_ior hx hb dX6_atRisk_50 ?_
        refine lv_istore_n (lv' := [(1, .int (x1 ||| (0 : Int32))), (0, .ref (a 0)), (2, .int x2)]) hx hb dX6_atRisk_51 rfl hl (by decide) rfl (fun ls hl => ?_)
        refine lv_iinc (v := (x2 + (1 : Int32))) (lv' := [(2, .int (x2 + (1 : Int32))), (1, .int (x1 ||| (0 : Int32))), (0, .ref (a 0))]) hx hb dX6_atRisk_52 hl (k := 2) rfl rfl (by decide) rfl (fun ls hl => ?_)
        refine lv_goto (tgt := 17) hx hb dX6_atRisk_55 (by decide) ?_
        exact ih _ _ _ _ _ _ _ _ _ _ _ _ _ _ _ hf hP ls (lv_sub hl [2, 1, 0] rfl)
      · have hf := g_ifF c7 hf
        refine lv_iconst (v := (1 : Int32)) hx hb dX6_atRisk_43 (by decide) ?_
        refine lv_iload_n hx hb dX6_atRisk_44 rfl (lv_at hl 2 rfl) ?_
        refine lv_ishl hx hb dX6_atRisk_45 ?_
        refine lv_goto (tgt := 50) hx hb dX6_atRisk_46 (by decide) ?_
        refine lv_ior hx hb dX6_atRisk_50 ?_
        refine lv_istore_n (lv' := [(1, .int (x1 ||| ((1 : Int32) <<< (x2 &&& 31)))), (0, .ref (a 0)), (2, .int x2)]) hx hb dX6_atRisk_51 rfl hl (by decide) rfl (fun ls hl => ?_)
        refine lv_iinc (v := (x2 + (1 : Int32))) (lv' := [(2, .int (x2 + (1 : Int32))), (1, .int (x1 ||| ((1 : Int32) <<< (x2 &&& 31)))), (0, .ref (a 0))]) hx hb dX6_atRisk_52 hl (k := 2) rfl rfl (by decide) rfl (fun ls hl => ?_)
        refine lv_goto (tgt := 17) hx hb dX6_atRisk_55 (by decide) ?_
        exact ih _ _ _ _ _ _ _ _ _ _ _ _ _ _ _ hf hP ls (lv_sub hl [2, 1, 0] rfl)
def fX6_atRisk (ss : Nat → Int32) (was : Nat → Int32) (beg : Nat → Int32) (asi : Nat → Int32) (sta : Int32) (txt : Nat → Int32) (typ : Int32) (att : Int32) (rea : Int32) (got : Nat → Int32) (row : Nat → Int32) (oth : Nat → Int32) : Option (Int32) := g_gd (g_in (0 : Int32) 411) ((if (ss (0 : Int32).toNatClampNeg) = (3 : Int32) then some ((-1000002 : Int32)) else fX6_atRisk_b17 2000 (0 : Int32) (0 : Int32) ss was beg asi sta txt typ att rea got row oth))
set_option maxHeartbeats 4000000 in
set_option maxRecDepth 100000 in
theorem qX6_atRisk (l : Launch) (G : gT) (a : Nat → Nat) {ss : Nat → Int32} {was : Nat → Int32} {beg : Nat → Int32} {asi : Nat → Int32} {sta : Int32} {txt : Nat → Int32} {typ : Int32} {att : Int32} {rea : Int32} {got : Nat → Int32} {row : Nat → Int32} {oth : Nat → Int32} {u : Int32} (hf : fX6_atRisk ss was beg asi sta txt typ att rea got row oth = some u) : gR l G yX6_atRisk wsX6_atRisk rmX6_atRisk [.ref (a 0)] (modW G a ss was beg asi sta txt typ att rea got row oth) (some (.int u)) := by
  refine gR.of (cc := cX6_atRisk) (maxL := 3) (ret := (some .int)) (by decide) rfl (Nat.le_of_ble_eq_true rfl) ?_
  intro p e s m below meth c C0 hP ls hl
  obtain ⟨hx, hb, hr, hts, hown, hlocks, hml, hK⟩ := id C0
  have hl : lv_has ls 3 [(0, .ref (a 0))] := hl
  have hP : va_P G.1 vwCl [((a 0), .inr (5, [.ref (a 1), .ref (a 2), .ref (a 3), .ref (a 4), .int sta, .ref (a 5), .int typ, .int att, .int rea, .ref (a 6), .ref (a 7), .ref (a 8)])), ((a 1), .inl (G.2.1, 411, .inl ss)), ((a 2), .inl (G.2.1, 1644, .inl was)), ((a 3), .inl (G.2.1, 411, .inl beg)), ((a 4), .inl (G.2.1, 411, .inl asi)), ((a 5), .inl (G.2.2.1, 60, .inl txt)), ((a 6), .inl (G.2.1, 4, .inl got)), ((a 7), .inl (G.2.1, 4, .inl row)), ((a 8), .inl (G.2.1, 4, .inl oth))] s.heap := hP
  unfold fX6_atRisk at hf
  refine lv_aload_n hx hb dX6_atRisk_0 rfl (lv_at hl 0 rfl) ?_
  refine va_get (D := G.1) (ci := 5) (v := .ref (a 1)) (C := RX6) (T := TX6) (N := 12) hx hb hts hX6 hown hK.1 hP 0 rfl rfl 0 (by decide) (hts _ tw_588) (fun _ h9 => h9) rfl dX6_atRisk_1 ?_
  refine lv_iconst (v := (0 : Int32)) hx hb dX6_atRisk_4 (by decide) ?_
  obtain ⟨g1, hf⟩ := g_gdS hf
  refine va_iald hx hb hK.1 hP 1 0 rfl rfl (g_in_vp g1) dX6_atRisk_5 ?_
  refine lv_iconst (v := (3 : Int32)) hx hb dX6_atRisk_6 (by decide) ?_
  refine lv_icmp_ne (tgt := 13) hx hb dX6_atRisk_7 (by decide) (fun c2 => ?_) (fun c2 => ?_)
  · have hf := g_ifF c2 hf
    refine lv_iconst (v := (0 : Int32)) hx hb dX6_atRisk_13 (by decide) ?_
    refine lv_istore_n (lv' := [(1, .int (0 : Int32)), (0, .ref (a 0))]) hx hb dX6_atRisk_14 rfl hl (by decide) rfl (fun ls hl => ?_)
    refine lv_iconst (v := (0 : Int32)) hx hb dX6_atRisk_15 (by decide) ?_
    refine lv_istore_n (lv' := [(2, .int (0 : Int32)), (1, .int (0 : Int32)), (0, .ref (a 0))]) hx hb dX6_atRisk_16 rfl hl (by decide) rfl (fun ls hl => ?_)
    exact kX6_atRisk_b17 C0 2000 _ _ _ _ _ _ _ _ _ _ _ _ _ _ _ hf hP ls (lv_sub hl [2, 1, 0] rfl)
  · have hf := g_ifT c2 hf
    refine lv_ldc (v := (-1000002 : Int32)) hx hb hown (hts _ tw_630) dX6_atRisk_10 ?_
    cases hf
    exact g_iretR hx hb hr hlocks dX6_atRisk_12
-- TwoShapesModel.ones(I)I
abbrev rmX6_ones : Room := { frames := 0, cells := 0, slots := 0, locals := 0 }
def fX6_ones_b4 : Nat → Int32 → Int32 → Int32 → Option (Int32)
  | 0, _, _, _ => none
  | n + 1, x0, x1, x2 => (if (31 : Int32) ≤ x2 then some (x1) else fX6_ones_b4 n x0 (x1 + ((x0 >>> (x2 &&& 31)) &&& (1 : Int32))) (x2 + (1 : Int32)))
set_option maxHeartbeats 4000000 in
set_option maxRecDepth 100000 in
theorem kX6_ones_b4 {p : Program} {l : Launch} {e : Env} {s : State} {m : MethodId} {args : Array Value} {below : List Frame} {meth : Method} {c : Code} {G : gT}  (C0 : gX p s m args meth c cX6_ones 3 (some .int) RX6 G) :
    ∀ (n : Nat) (x0 : Int32) (x1 : Int32) (x2 : Int32) (u : Int32), fX6_ones_b4 n x0 x1 x2 = some u → va_P G.1 vwCl [] s.heap → ∀ ls, lv_has ls 3 [(0, .int x0), (1, .int x1), (2, .int x2)] → gV p l e (headSpec wsX6_ones rmX6_ones).room s m args below meth c (some (.int u)) 4 ls [] := by
  obtain ⟨hx, hb, hr, hts, hown, hlocks, hml, hK⟩ := id C0
  intro n
  induction n with
  | zero =>
    intro x0 x1 x2 u hf hP ls hl
    have hf : (none : Option (Int32)) = some u := hf
    cases hf
  | succ n ih =>
    intro x0 x1 x2 u hf hP ls hl
    rw [fX6_ones_b4] at hf
    refine lv_iload_n hx hb dX6_ones_4 rfl (lv_at hl 2 rfl) ?_
    refine lv_bipush (v := (31 : Int32)) hx hb dX6_ones_5 (by decide) ?_
    refine lv_icmp_ge (tgt := 24) hx hb dX6_ones_7 (by decide) (fun c1 => ?_) (fun c1 => ?_)
    · have hf := g_ifT c1 hf
      refine lv_iload_n hx hb dX6_ones_24 rfl (lv_at hl 1 rfl) ?_
      cases hf
      exact g_iretR hx hb hr hlocks dX6_ones_25
    · have hf := g_ifF c1 hf
      refine lv_iload_n hx hb dX6_ones_10 rfl (lv_at hl 1 rfl) ?_
      refine lv_iload_n hx hb dX6_ones_11 rfl (lv_at hl 0 rfl) ?_
      refine lv_iload_n hx hb dX6_ones_12 rfl (lv_at hl 2 rfl) ?_
      refine lv_ishr hx hb dX6_ones_13 ?_
      refine lv_iconst (v := (1 : Int32)) hx hb dX6_ones_14 (by decide) ?_
      refine lv_iand hx hb dX6_ones_15 ?_
      refine lv_iadd hx hb dX6_ones_16 ?_
      refine lv_istore_n (lv' := [(1, .int (x1 + ((x0 >>> (x2 &&& 31)) &&& (1 : Int32)))), (0, .int x0), (2, .int x2)]) hx hb dX6_ones_17 rfl hl (by decide) rfl (fun ls hl => ?_)
      refine lv_iinc (v := (x2 + (1 : Int32))) (lv' := [(2, .int (x2 + (1 : Int32))), (1, .int (x1 + ((x0 >>> (x2 &&& 31)) &&& (1 : Int32)))), (0, .int x0)]) hx hb dX6_ones_18 hl (k := 2) rfl rfl (by decide) rfl (fun ls hl => ?_)
      refine lv_goto (tgt := 4) hx hb dX6_ones_21 (by decide) ?_
      exact ih _ _ _ _ hf hP ls (lv_sub hl [2, 1, 0] rfl)
def fX6_ones (p0 : Int32) : Option (Int32) := fX6_ones_b4 2000 p0 (0 : Int32) (0 : Int32)
set_option maxHeartbeats 4000000 in
set_option maxRecDepth 100000 in
theorem qX6_ones (l : Launch) (G : gT)  {p0 : Int32} {u : Int32} (hf : fX6_ones p0 = some u) : gR l G yX6_ones wsX6_ones rmX6_ones [.int p0] [] (some (.int u)) := by
  refine gR.of (cc := cX6_ones) (maxL := 3) (ret := (some .int)) (by decide) rfl (Nat.le_of_ble_eq_true rfl) ?_
  intro p e s m below meth c C0 hP ls hl
  obtain ⟨hx, hb, hr, hts, hown, hlocks, hml, hK⟩ := id C0
  have hl : lv_has ls 3 [(0, .int p0)] := hl
  have hP : va_P G.1 vwCl [] s.heap := hP
  unfold fX6_ones at hf
  refine lv_iconst (v := (0 : Int32)) hx hb dX6_ones_0 (by decide) ?_
  refine lv_istore_n (lv' := [(1, .int (0 : Int32)), (0, .int p0)]) hx hb dX6_ones_1 rfl hl (by decide) rfl (fun ls hl => ?_)
  refine lv_iconst (v := (0 : Int32)) hx hb dX6_ones_2 (by decide) ?_
  refine lv_istore_n (lv' := [(2, .int (0 : Int32)), (1, .int (0 : Int32)), (0, .int p0)]) hx hb dX6_ones_3 rfl hl (by decide) rfl (fun ls hl => ?_)
  exact kX6_ones_b4 C0 2000 _ _ _ _ hf hP ls (lv_sub hl [2, 1, 0] rfl)
-- TwoShapesModel.walk(II)I
abbrev rmX6_walk : Room := { frames := 5, cells := 0, slots := 0, locals := 115 }
def fX6_walk (p0 : Int32) (p1 : Int32) (ss : Nat → Int32) (was : Nat → Int32) (beg : Nat → Int32) (asi : Nat → Int32) (sta : Int32) (txt : Nat → Int32) (typ : Int32) (att : Int32) (rea : Int32) (got : Nat → Int32) (row : Nat → Int32) (oth : Nat → Int32) : Option (Int32 × (Nat → Int32) × (Nat → Int32) × (Nat → Int32) × (Nat → Int32) × Int32 × (Nat → Int32) × Int32 × Int32 × Int32 × (Nat → Int32) × (Nat → Int32) × (Nat → Int32)) := ((fX6_in p0 (0 : Int32) (2 : Int32)).bind fun r1 => (if r1 = (0 : Int32) then some ((-1000001 : Int32), ss, was, beg, asi, sta, txt, typ, att, rea, got, row, oth) else ((fX6_in p1 (0 : Int32) (1 : Int32)).bind fun r4 => (if r4 = (0 : Int32) then some ((-1000001 : Int32), ss, was, beg, asi, sta, txt, typ, att, rea, got, row, oth) else ((fX6_keeps ss was beg asi sta txt typ att rea got row oth).bind fun r7 => g_gd (g_in ((5 : Int32) + ((3 : Int32) * p0)) 411) (g_gd (g_in (((5 : Int32) + ((3 : Int32) * p0)) + (1 : Int32)) 411) (g_gd (g_in (((5 : Int32) + ((3 : Int32) * p0)) + (2 : Int32)) 411) (((fX6_readable p1 (upd (upd (upd r7.1 ((5 : Int32) + ((3 : Int32) * p0)).toNatClampNeg (1 : Int32)) (((5 : Int32) + ((3 : Int32) * p0)) + (1 : Int32)).toNatClampNeg p1) (((5 : Int32) + ((3 : Int32) * p0)) + (2 : Int32)).toNatClampNeg (-1 : Int32)) r7.2.1 r7.2.2.1 r7.2.2.2.1 r7.2.2.2.2.1 r7.2.2.2.2.2.1 r7.2.2.2.2.2.2.1 r7.2.2.2.2.2.2.2.1 r7.2.2.2.2.2.2.2.2.1 r7.2.2.2.2.2.2.2.2.2.1 r7.2.2.2.2.2.2.2.2.2.2.1 r7.2.2.2.2.2.2.2.2.2.2.2).bind fun r12 => ((fX6_ones r12.1).bind fun r14 => ((fX6_acted r14 r12.2.1 r12.2.2.1 r12.2.2.2.1 r12.2.2.2.2.1 r12.2.2.2.2.2.1 r12.2.2.2.2.2.2.1 r12.2.2.2.2.2.2.2.1 r12.2.2.2.2.2.2.2.2.1 r12.2.2.2.2.2.2.2.2.2.1 r12.2.2.2.2.2.2.2.2.2.2.1 r12.2.2.2.2.2.2.2.2.2.2.2.1 r12.2.2.2.2.2.2.2.2.2.2.2.2).bind fun r16 => some (r16.1, r16.2.1, r16.2.2.1, r16.2.2.2.1, r16.2.2.2.2.1, r16.2.2.2.2.2.1, r16.2.2.2.2.2.2.1, r16.2.2.2.2.2.2.2.1, r16.2.2.2.2.2.2.2.2.1, r16.2.2.2.2.2.2.2.2.2.1, r16.2.2.2.2.2.2.2.2.2.2.1, r16.2.2.2.2.2.2.2.2.2.2.2.1, r16.2.2.2.2.2.2.2.2.2.2.2.2))))))))))))
set_option maxHeartbeats 4000000 in
set_option maxRecDepth 100000 in
theorem qX6_walk (l : Launch) (G : gT) (a : Nat → Nat) {p0 : Int32} {p1 : Int32} {ss : Nat → Int32} {was : Nat → Int32} {beg : Nat → Int32} {asi : Nat → Int32} {sta : Int32} {txt : Nat → Int32} {typ : Int32} {att : Int32} {rea : Int32} {got : Nat → Int32} {row : Nat → Int32} {oth : Nat → Int32} {u : Int32 × (Nat → Int32) × (Nat → Int32) × (Nat → Int32) × (Nat → Int32) × Int32 × (Nat → Int32) × Int32 × Int32 × Int32 × (Nat → Int32) × (Nat → Int32) × (Nat → Int32)} (hf : fX6_walk p0 p1 ss was beg asi sta txt typ att rea got row oth = some u) : gC l G yX6_walk wsX6_walk rmX6_walk [.ref (a 0), .int p0, .int p1] (modW G a ss was beg asi sta txt typ att rea got row oth) (some (.int u.1)) (modW G a u.2.1 u.2.2.1 u.2.2.2.1 u.2.2.2.2.1 u.2.2.2.2.2.1 u.2.2.2.2.2.2.1 u.2.2.2.2.2.2.2.1 u.2.2.2.2.2.2.2.2.1 u.2.2.2.2.2.2.2.2.2.1 u.2.2.2.2.2.2.2.2.2.2.1 u.2.2.2.2.2.2.2.2.2.2.2.1 u.2.2.2.2.2.2.2.2.2.2.2.2) := by
  refine gC.of (cc := cX6_walk) (maxL := 3) (ret := (some .int)) (by decide) rfl (Nat.le_of_ble_eq_true rfl) ?_
  intro p e s m below meth c C0 hP hD hS ls hl
  obtain ⟨hx, hb, hr, hts, hown, hlocks, hml, hK⟩ := id C0
  have hl : lv_has ls 3 [(0, .ref (a 0)), (1, .int p0), (2, .int p1)] := hl
  have hA : ∀ q : Nat, s.heap.size ≤ q → va_A (modW G a ss was beg asi sta txt typ att rea got row oth) s.heap.size q := fun q h => Or.inr h
  have hP : va_P G.1 vwCl [((a 0), .inr (5, [.ref (a 1), .ref (a 2), .ref (a 3), .ref (a 4), .int sta, .ref (a 5), .int typ, .int att, .int rea, .ref (a 6), .ref (a 7), .ref (a 8)])), ((a 1), .inl (G.2.1, 411, .inl ss)), ((a 2), .inl (G.2.1, 1644, .inl was)), ((a 3), .inl (G.2.1, 411, .inl beg)), ((a 4), .inl (G.2.1, 411, .inl asi)), ((a 5), .inl (G.2.2.1, 60, .inl txt)), ((a 6), .inl (G.2.1, 4, .inl got)), ((a 7), .inl (G.2.1, 4, .inl row)), ((a 8), .inl (G.2.1, 4, .inl oth))] s.heap := hP
  have hD : va_D (va_A (modW G a ss was beg asi sta txt typ att rea got row oth) s.heap.size) [((a 0), .inr (5, [.ref (a 1), .ref (a 2), .ref (a 3), .ref (a 4), .int sta, .ref (a 5), .int typ, .int att, .int rea, .ref (a 6), .ref (a 7), .ref (a 8)])), ((a 1), .inl (G.2.1, 411, .inl ss)), ((a 2), .inl (G.2.1, 1644, .inl was)), ((a 3), .inl (G.2.1, 411, .inl beg)), ((a 4), .inl (G.2.1, 411, .inl asi)), ((a 5), .inl (G.2.2.1, 60, .inl txt)), ((a 6), .inl (G.2.1, 4, .inl got)), ((a 7), .inl (G.2.1, 4, .inl row)), ((a 8), .inl (G.2.1, 4, .inl oth))] := hD
  unfold fX6_walk at hf
  refine lv_iload_n hx hb dX6_walk_0 rfl (lv_at hl 1 rfl) ?_
  refine lv_iconst (v := (0 : Int32)) hx hb dX6_walk_1 (by decide) ?_
  refine lv_iconst (v := (2 : Int32)) hx hb dX6_walk_2 (by decide) ?_
  obtain ⟨r1, e2, hf⟩ := g_bdS hf
  refine g_contR (st1 := [.int r1]) (g_runSR (As := [.int p0, .int (0 : Int32), .int (2 : Int32)]) (rest := []) ⟨hx, hb, hml, hown, hts⟩ (qX6_in l G e2) (va_cwS 3 hts (TB_S TB_id tw_714 tw_715 tw_54 tw_716) rfl rfl rfl (by decide +kernel) ⟨Nat.le_of_ble_eq_true rfl, Nat.le_of_ble_eq_true rfl⟩) hK (hP.sub [] rfl) rfl hl.1 rfl (Nat.le_of_ble_eq_true rfl) dX6_walk_3) rfl ?_
  refine lv_if_eq (tgt := 18) hx hb dX6_walk_6 (by decide) (fun c3 => ?_) (fun c3 => ?_)
  · have hf := g_ifT c3 hf
    refine lv_ldc (v := (-1000001 : Int32)) hx hb hown (hts _ tw_654) dX6_walk_18 ?_
    cases hf
    exact g_iretC hx hb hr hlocks hP hD hS dX6_walk_20
  · have hf := g_ifF c3 hf
    refine lv_iload_n hx hb dX6_walk_9 rfl (lv_at hl 2 rfl) ?_
    refine lv_iconst (v := (0 : Int32)) hx hb dX6_walk_10 (by decide) ?_
    refine lv_iconst (v := (1 : Int32)) hx hb dX6_walk_11 (by decide) ?_
    obtain ⟨r4, e5, hf⟩ := g_bdS hf
    refine g_contR (st1 := [.int r4]) (g_runSR (As := [.int p1, .int (0 : Int32), .int (1 : Int32)]) (rest := []) ⟨hx, hb, hml, hown, hts⟩ (qX6_in l G e5) (va_cwS 3 hts (TB_S TB_id tw_714 tw_715 tw_54 tw_716) rfl rfl rfl (by decide +kernel) ⟨Nat.le_of_ble_eq_true rfl, Nat.le_of_ble_eq_true rfl⟩) hK (hP.sub [] rfl) rfl hl.1 rfl (Nat.le_of_ble_eq_true rfl) dX6_walk_12) rfl ?_
    refine lv_if_ne (tgt := 21) hx hb dX6_walk_15 (by decide) (fun c6 => ?_) (fun c6 => ?_)
    · have hf := g_ifF c6 hf
      refine lv_aload_n hx hb dX6_walk_21 rfl (lv_at hl 0 rfl) ?_
      obtain ⟨r7, e8, hf⟩ := g_bdS hf
      refine g_contC (st1 := []) (g_runVC (As := []) (rest := []) ⟨hx, hb, hml, hown, hts⟩ (qX6_keeps l G a e8) (cwV 0 hts (TB_V TB_id tw_631 tw_633 tw_9 tw_54 tw_634) rfl rfl rfl (by decide +kernel) ⟨Nat.le_of_ble_eq_true rfl, Nat.le_of_ble_eq_true rfl⟩) hK (hP.sub [0, 1, 2, 3, 4, 5, 6, 7, 8] rfl) (hD.sub [0, 1, 2, 3, 4, 5, 6, 7, 8] (by decide) rfl) 0 rfl rfl rfl hl.1 rfl (Nat.le_of_ble_eq_true rfl) dX6_walk_22) rfl hP hD hS hA [0, 1, 2, 3, 4, 5, 6, 7, 8] rfl rfl (fun H locs hP hD hS => ?_)
      have hP : va_P G.1 vwCl [((a 0), .inr (5, [.ref (a 1), .ref (a 2), .ref (a 3), .ref (a 4), .int r7.2.2.2.2.1, .ref (a 5), .int r7.2.2.2.2.2.2.1, .int r7.2.2.2.2.2.2.2.1, .int r7.2.2.2.2.2.2.2.2.1, .ref (a 6), .ref (a 7), .ref (a 8)])), ((a 1), .inl (G.2.1, 411, .inl r7.1)), ((a 2), .inl (G.2.1, 1644, .inl r7.2.1)), ((a 3), .inl (G.2.1, 411, .inl r7.2.2.1)), ((a 4), .inl (G.2.1, 411, .inl r7.2.2.2.1)), ((a 5), .inl (G.2.2.1, 60, .inl r7.2.2.2.2.2.1)), ((a 6), .inl (G.2.1, 4, .inl r7.2.2.2.2.2.2.2.2.2.1)), ((a 7), .inl (G.2.1, 4, .inl r7.2.2.2.2.2.2.2.2.2.2.1)), ((a 8), .inl (G.2.1, 4, .inl r7.2.2.2.2.2.2.2.2.2.2.2))] H := hP
      have hD : va_D (va_A (modW G a ss was beg asi sta txt typ att rea got row oth) s.heap.size) [((a 0), .inr (5, [.ref (a 1), .ref (a 2), .ref (a 3), .ref (a 4), .int r7.2.2.2.2.1, .ref (a 5), .int r7.2.2.2.2.2.2.1, .int r7.2.2.2.2.2.2.2.1, .int r7.2.2.2.2.2.2.2.2.1, .ref (a 6), .ref (a 7), .ref (a 8)])), ((a 1), .inl (G.2.1, 411, .inl r7.1)), ((a 2), .inl (G.2.1, 1644, .inl r7.2.1)), ((a 3), .inl (G.2.1, 411, .inl r7.2.2.1)), ((a 4), .inl (G.2.1, 411, .inl r7.2.2.2.1)), ((a 5), .inl (G.2.2.1, 60, .inl r7.2.2.2.2.2.1)), ((a 6), .inl (G.2.1, 4, .inl r7.2.2.2.2.2.2.2.2.2.1)), ((a 7), .inl (G.2.1, 4, .inl r7.2.2.2.2.2.2.2.2.2.2.1)), ((a 8), .inl (G.2.1, 4, .inl r7.2.2.2.2.2.2.2.2.2.2.2))] := hD
      refine lv_aload_n hx hb dX6_walk_25 rfl (lv_at hl 0 rfl) ?_
      refine va_get (D := G.1) (ci := 5) (v := .ref (a 1)) (C := RX6) (T := TX6) (N := 12) hx hb hts hX6 hown hK.1 hP 0 rfl rfl 0 (by decide) (hts _ tw_588) (fun _ h9 => h9) rfl dX6_walk_26 ?_
      refine lv_iconst (v := (5 : Int32)) hx hb dX6_walk_29 (by decide) ?_
      refine lv_iconst (v := (3 : Int32)) hx hb dX6_walk_30 (by decide) ?_
      refine lv_iload_n hx hb dX6_walk_31 rfl (lv_at hl 1 rfl) ?_
      refine lv_imul hx hb dX6_walk_32 ?_
      refine lv_iadd hx hb dX6_walk_33 ?_
      refine lv_iconst (v := (1 : Int32)) hx hb dX6_walk_34 (by decide) ?_
      obtain ⟨g9, hf⟩ := g_gdS hf
      refine va_iast hx hb hK.1 hP hD hS 1 0 rfl rfl (g_in_vp g9) dX6_walk_35 (fun H locs hP hD hS => ?_)
      have hP : va_P G.1 vwCl [((a 0), .inr (5, [.ref (a 1), .ref (a 2), .ref (a 3), .ref (a 4), .int r7.2.2.2.2.1, .ref (a 5), .int r7.2.2.2.2.2.2.1, .int r7.2.2.2.2.2.2.2.1, .int r7.2.2.2.2.2.2.2.2.1, .ref (a 6), .ref (a 7), .ref (a 8)])), ((a 1), .inl (G.2.1, 411, .inl (upd r7.1 ((5 : Int32) + ((3 : Int32) * p0)).toNatClampNeg (1 : Int32)))), ((a 2), .inl (G.2.1, 1644, .inl r7.2.1)), ((a 3), .inl (G.2.1, 411, .inl r7.2.2.1)), ((a 4), .inl (G.2.1, 411, .inl r7.2.2.2.1)), ((a 5), .inl (G.2.2.1, 60, .inl r7.2.2.2.2.2.1)), ((a 6), .inl (G.2.1, 4, .inl r7.2.2.2.2.2.2.2.2.2.1)), ((a 7), .inl (G.2.1, 4, .inl r7.2.2.2.2.2.2.2.2.2.2.1)), ((a 8), .inl (G.2.1, 4, .inl r7.2.2.2.2.2.2.2.2.2.2.2))] H := hP
      have hD : va_D (va_A (modW G a ss was beg asi sta txt typ att rea got row oth) s.heap.size) [((a 0), .inr (5, [.ref (a 1), .ref (a 2), .ref (a 3), .ref (a 4), .int r7.2.2.2.2.1, .ref (a 5), .int r7.2.2.2.2.2.2.1, .int r7.2.2.2.2.2.2.2.1, .int r7.2.2.2.2.2.2.2.2.1, .ref (a 6), .ref (a 7), .ref (a 8)])), ((a 1), .inl (G.2.1, 411, .inl (upd r7.1 ((5 : Int32) + ((3 : Int32) * p0)).toNatClampNeg (1 : Int32)))), ((a 2), .inl (G.2.1, 1644, .inl r7.2.1)), ((a 3), .inl (G.2.1, 411, .inl r7.2.2.1)), ((a 4), .inl (G.2.1, 411, .inl r7.2.2.2.1)), ((a 5), .inl (G.2.2.1, 60, .inl r7.2.2.2.2.2.1)), ((a 6), .inl (G.2.1, 4, .inl r7.2.2.2.2.2.2.2.2.2.1)), ((a 7), .inl (G.2.1, 4, .inl r7.2.2.2.2.2.2.2.2.2.2.1)), ((a 8), .inl (G.2.1, 4, .inl r7.2.2.2.2.2.2.2.2.2.2.2))] := hD
      refine lv_aload_n hx hb dX6_walk_36 rfl (lv_at hl 0 rfl) ?_
      refine va_get (D := G.1) (ci := 5) (v := .ref (a 1)) (C := RX6) (T := TX6) (N := 12) hx hb hts hX6 hown hK.1 hP 0 rfl rfl 0 (by decide) (hts _ tw_588) (fun _ h9 => h9) rfl dX6_walk_37 ?_
      refine lv_iconst (v := (5 : Int32)) hx hb dX6_walk_40 (by decide) ?_
      refine lv_iconst (v := (3 : Int32)) hx hb dX6_walk_41 (by decide) ?_
      refine lv_iload_n hx hb dX6_walk_42 rfl (lv_at hl 1 rfl) ?_
      refine lv_imul hx hb dX6_walk_43 ?_
      refine lv_iadd hx hb dX6_walk_44 ?_
      refine lv_iconst (v := (1 : Int32)) hx hb dX6_walk_45 (by decide) ?_
      refine lv_iadd hx hb dX6_walk_46 ?_
      refine lv_iload_n hx hb dX6_walk_47 rfl (lv_at hl 2 rfl) ?_
      obtain ⟨g10, hf⟩ := g_gdS hf
      refine va_iast hx hb hK.1 hP hD hS 1 0 rfl rfl (g_in_vp g10) dX6_walk_48 (fun H locs hP hD hS => ?_)
      have hP : va_P G.1 vwCl [((a 0), .inr (5, [.ref (a 1), .ref (a 2), .ref (a 3), .ref (a 4), .int r7.2.2.2.2.1, .ref (a 5), .int r7.2.2.2.2.2.2.1, .int r7.2.2.2.2.2.2.2.1, .int r7.2.2.2.2.2.2.2.2.1, .ref (a 6), .ref (a 7), .ref (a 8)])), ((a 1), .inl (G.2.1, 411, .inl (upd (upd r7.1 ((5 : Int32) + ((3 : Int32) * p0)).toNatClampNeg (1 : Int32)) (((5 : Int32) + ((3 : Int32) * p0)) + (1 : Int32)).toNatClampNeg p1))), ((a 2), .inl (G.2.1, 1644, .inl r7.2.1)), ((a 3), .inl (G.2.1, 411, .inl r7.2.2.1)), ((a 4), .inl (G.2.1, 411, .inl r7.2.2.2.1)), ((a 5), .inl (G.2.2.1, 60, .inl r7.2.2.2.2.2.1)), ((a 6), .inl (G.2.1, 4, .inl r7.2.2.2.2.2.2.2.2.2.1)), ((a 7), .inl (G.2.1, 4, .inl r7.2.2.2.2.2.2.2.2.2.2.1)), ((a 8), .inl (G.2.1, 4, .inl r7.2.2.2.2.2.2.2.2.2.2.2))] H := hP
      have hD : va_D (va_A (modW G a ss was beg asi sta txt typ att rea got row oth) s.heap.size) [((a 0), .inr (5, [.ref (a 1), .ref (a 2), .ref (a 3), .ref (a 4), .int r7.2.2.2.2.1, .ref (a 5), .int r7.2.2.2.2.2.2.1, .int r7.2.2.2.2.2.2.2.1, .int r7.2.2.2.2.2.2.2.2.1, .ref (a 6), .ref (a 7), .ref (a 8)])), ((a 1), .inl (G.2.1, 411, .inl (upd (upd r7.1 ((5 : Int32) + ((3 : Int32) * p0)).toNatClampNeg (1 : Int32)) (((5 : Int32) + ((3 : Int32) * p0)) + (1 : Int32)).toNatClampNeg p1))), ((a 2), .inl (G.2.1, 1644, .inl r7.2.1)), ((a 3), .inl (G.2.1, 411, .inl r7.2.2.1)), ((a 4), .inl (G.2.1, 411, .inl r7.2.2.2.1)), ((a 5), .inl (G.2.2.1, 60, .inl r7.2.2.2.2.2.1)), ((a 6), .inl (G.2.1, 4, .inl r7.2.2.2.2.2.2.2.2.2.1)), ((a 7), .inl (G.2.1, 4, .inl r7.2.2.2.2.2.2.2.2.2.2.1)), ((a 8), .inl (G.2.1, 4, .inl r7.2.2.2.2.2.2.2.2.2.2.2))] := hD
      refine lv_aload_n hx hb dX6_walk_49 rfl (lv_at hl 0 rfl) ?_
      refine va_get (D := G.1) (ci := 5) (v := .ref (a 1)) (C := RX6) (T := TX6) (N := 12) hx hb hts hX6 hown hK.1 hP 0 rfl rfl 0 (by decide) (hts _ tw_588) (fun _ h9 => h9) rfl dX6_walk_50 ?_
      refine lv_iconst (v := (5 : Int32)) hx hb dX6_walk_53 (by decide) ?_
      refine lv_iconst (v := (3 : Int32)) hx hb dX6_walk_54 (by decide) ?_
      refine lv_iload_n hx hb dX6_walk_55 rfl (lv_at hl 1 rfl) ?_
      refine lv_imul hx hb dX6_walk_56 ?_
      refine lv_iadd hx hb dX6_walk_57 ?_
      refine lv_iconst (v := (2 : Int32)) hx hb dX6_walk_58 (by decide) ?_
      refine lv_iadd hx hb dX6_walk_59 ?_
      refine lv_iconst (v := (-1 : Int32)) hx hb dX6_walk_60 (by decide) ?_
      obtain ⟨g11, hf⟩ := g_gdS hf
      refine va_iast hx hb hK.1 hP hD hS 1 0 rfl rfl (g_in_vp g11) dX6_walk_61 (fun H locs hP hD hS => ?_)
      have hP : va_P G.1 vwCl [((a 0), .inr (5, [.ref (a 1), .ref (a 2), .ref (a 3), .ref (a 4), .int r7.2.2.2.2.1, .ref (a 5), .int r7.2.2.2.2.2.2.1, .int r7.2.2.2.2.2.2.2.1, .int r7.2.2.2.2.2.2.2.2.1, .ref (a 6), .ref (a 7), .ref (a 8)])), ((a 1), .inl (G.2.1, 411, .inl (upd (upd (upd r7.1 ((5 : Int32) + ((3 : Int32) * p0)).toNatClampNeg (1 : Int32)) (((5 : Int32) + ((3 : Int32) * p0)) + (1 : Int32)).toNatClampNeg p1) (((5 : Int32) + ((3 : Int32) * p0)) + (2 : Int32)).toNatClampNeg (-1 : Int32)))), ((a 2), .inl (G.2.1, 1644, .inl r7.2.1)), ((a 3), .inl (G.2.1, 411, .inl r7.2.2.1)), ((a 4), .inl (G.2.1, 411, .inl r7.2.2.2.1)), ((a 5), .inl (G.2.2.1, 60, .inl r7.2.2.2.2.2.1)), ((a 6), .inl (G.2.1, 4, .inl r7.2.2.2.2.2.2.2.2.2.1)), ((a 7), .inl (G.2.1, 4, .inl r7.2.2.2.2.2.2.2.2.2.2.1)), ((a 8), .inl (G.2.1, 4, .inl r7.2.2.2.2.2.2.2.2.2.2.2))] H := hP
      have hD : va_D (va_A (modW G a ss was beg asi sta txt typ att rea got row oth) s.heap.size) [((a 0), .inr (5, [.ref (a 1), .ref (a 2), .ref (a 3), .ref (a 4), .int r7.2.2.2.2.1, .ref (a 5), .int r7.2.2.2.2.2.2.1, .int r7.2.2.2.2.2.2.2.1, .int r7.2.2.2.2.2.2.2.2.1, .ref (a 6), .ref (a 7), .ref (a 8)])), ((a 1), .inl (G.2.1, 411, .inl (upd (upd (upd r7.1 ((5 : Int32) + ((3 : Int32) * p0)).toNatClampNeg (1 : Int32)) (((5 : Int32) + ((3 : Int32) * p0)) + (1 : Int32)).toNatClampNeg p1) (((5 : Int32) + ((3 : Int32) * p0)) + (2 : Int32)).toNatClampNeg (-1 : Int32)))), ((a 2), .inl (G.2.1, 1644, .inl r7.2.1)), ((a 3), .inl (G.2.1, 411, .inl r7.2.2.1)), ((a 4), .inl (G.2.1, 411, .inl r7.2.2.2.1)), ((a 5), .inl (G.2.2.1, 60, .inl r7.2.2.2.2.2.1)), ((a 6), .inl (G.2.1, 4, .inl r7.2.2.2.2.2.2.2.2.2.1)), ((a 7), .inl (G.2.1, 4, .inl r7.2.2.2.2.2.2.2.2.2.2.1)), ((a 8), .inl (G.2.1, 4, .inl r7.2.2.2.2.2.2.2.2.2.2.2))] := hD
      refine lv_aload_n hx hb dX6_walk_62 rfl (lv_at hl 0 rfl) ?_
      refine lv_aload_n hx hb dX6_walk_63 rfl (lv_at hl 0 rfl) ?_
      refine lv_iload_n hx hb dX6_walk_64 rfl (lv_at hl 2 rfl) ?_
      obtain ⟨r12, e13, hf⟩ := g_bdS hf
      refine g_contC (st1 := [.int r12.1, .ref (a 0)]) (g_runVC (As := [.int p1]) (rest := [.ref (a 0)]) ⟨hx, hb, hml, hown, hts⟩ (qX6_readable l G a e13) (cwV 1 hts (TB_V TB_id tw_816 tw_818 tw_38 tw_54 tw_819) rfl rfl rfl (by decide +kernel) ⟨Nat.le_of_ble_eq_true rfl, Nat.le_of_ble_eq_true rfl⟩) hK (hP.sub [0, 1, 2, 3, 4, 5, 6, 7, 8] rfl) (hD.sub [0, 1, 2, 3, 4, 5, 6, 7, 8] (by decide) rfl) 0 rfl rfl rfl hl.1 rfl (Nat.le_of_ble_eq_true rfl) dX6_walk_65) rfl hP hD hS hA [0, 1, 2, 3, 4, 5, 6, 7, 8] rfl rfl (fun H locs hP hD hS => ?_)
      have hP : va_P G.1 vwCl [((a 0), .inr (5, [.ref (a 1), .ref (a 2), .ref (a 3), .ref (a 4), .int r12.2.2.2.2.2.1, .ref (a 5), .int r12.2.2.2.2.2.2.2.1, .int r12.2.2.2.2.2.2.2.2.1, .int r12.2.2.2.2.2.2.2.2.2.1, .ref (a 6), .ref (a 7), .ref (a 8)])), ((a 1), .inl (G.2.1, 411, .inl r12.2.1)), ((a 2), .inl (G.2.1, 1644, .inl r12.2.2.1)), ((a 3), .inl (G.2.1, 411, .inl r12.2.2.2.1)), ((a 4), .inl (G.2.1, 411, .inl r12.2.2.2.2.1)), ((a 5), .inl (G.2.2.1, 60, .inl r12.2.2.2.2.2.2.1)), ((a 6), .inl (G.2.1, 4, .inl r12.2.2.2.2.2.2.2.2.2.2.1)), ((a 7), .inl (G.2.1, 4, .inl r12.2.2.2.2.2.2.2.2.2.2.2.1)), ((a 8), .inl (G.2.1, 4, .inl r12.2.2.2.2.2.2.2.2.2.2.2.2))] H := hP
      have hD : va_D (va_A (modW G a ss was beg asi sta txt typ att rea got row oth) s.heap.size) [((a 0), .inr (5, [.ref (a 1), .ref (a 2), .ref (a 3), .ref (a 4), .int r12.2.2.2.2.2.1, .ref (a 5), .int r12.2.2.2.2.2.2.2.1, .int r12.2.2.2.2.2.2.2.2.1, .int r12.2.2.2.2.2.2.2.2.2.1, .ref (a 6), .ref (a 7), .ref (a 8)])), ((a 1), .inl (G.2.1, 411, .inl r12.2.1)), ((a 2), .inl (G.2.1, 1644, .inl r12.2.2.1)), ((a 3), .inl (G.2.1, 411, .inl r12.2.2.2.1)), ((a 4), .inl (G.2.1, 411, .inl r12.2.2.2.2.1)), ((a 5), .inl (G.2.2.1, 60, .inl r12.2.2.2.2.2.2.1)), ((a 6), .inl (G.2.1, 4, .inl r12.2.2.2.2.2.2.2.2.2.2.1)), ((a 7), .inl (G.2.1, 4, .inl r12.2.2.2.2.2.2.2.2.2.2.2.1)), ((a 8), .inl (G.2.1, 4, .inl r12.2.2.2.2.2.2.2.2.2.2.2.2))] := hD
      obtain ⟨r14, e15, hf⟩ := g_bdS hf
      refine g_contR (st1 := [.int r14, .ref (a 0)]) (g_runSR (As := [.int r12.1]) (rest := [.ref (a 0)]) ⟨hx, hb, hml, hown, hts⟩ (qX6_ones l G e15) (va_cwS 1 hts (TB_S TB_id tw_840 tw_841 tw_54 tw_842) rfl rfl rfl (by decide +kernel) ⟨Nat.le_of_ble_eq_true rfl, Nat.le_of_ble_eq_true rfl⟩) hK (hP.sub [] rfl) rfl hl.1 rfl (Nat.le_of_ble_eq_true rfl) dX6_walk_68) rfl ?_
      obtain ⟨r16, e17, hf⟩ := g_bdS hf
      refine g_contC (st1 := [.int r16.1]) (g_runVC (As := [.int r14]) (rest := []) ⟨hx, hb, hml, hown, hts⟩ (qX6_acted l G a e17) (cwV 1 hts (TB_V TB_id tw_650 tw_652 tw_13 tw_54 tw_653) rfl rfl rfl (by decide +kernel) ⟨Nat.le_of_ble_eq_true rfl, Nat.le_of_ble_eq_true rfl⟩) hK (hP.sub [0, 1, 2, 3, 4, 5, 6, 7, 8] rfl) (hD.sub [0, 1, 2, 3, 4, 5, 6, 7, 8] (by decide) rfl) 0 rfl rfl rfl hl.1 rfl (Nat.le_of_ble_eq_true rfl) dX6_walk_71) rfl hP hD hS hA [0, 1, 2, 3, 4, 5, 6, 7, 8] rfl rfl (fun H locs hP hD hS => ?_)
      have hP : va_P G.1 vwCl [((a 0), .inr (5, [.ref (a 1), .ref (a 2), .ref (a 3), .ref (a 4), .int r16.2.2.2.2.2.1, .ref (a 5), .int r16.2.2.2.2.2.2.2.1, .int r16.2.2.2.2.2.2.2.2.1, .int r16.2.2.2.2.2.2.2.2.2.1, .ref (a 6), .ref (a 7), .ref (a 8)])), ((a 1), .inl (G.2.1, 411, .inl r16.2.1)), ((a 2), .inl (G.2.1, 1644, .inl r16.2.2.1)), ((a 3), .inl (G.2.1, 411, .inl r16.2.2.2.1)), ((a 4), .inl (G.2.1, 411, .inl r16.2.2.2.2.1)), ((a 5), .inl (G.2.2.1, 60, .inl r16.2.2.2.2.2.2.1)), ((a 6), .inl (G.2.1, 4, .inl r16.2.2.2.2.2.2.2.2.2.2.1)), ((a 7), .inl (G.2.1, 4, .inl r16.2.2.2.2.2.2.2.2.2.2.2.1)), ((a 8), .inl (G.2.1, 4, .inl r16.2.2.2.2.2.2.2.2.2.2.2.2))] H := hP
      have hD : va_D (va_A (modW G a ss was beg asi sta txt typ att rea got row oth) s.heap.size) [((a 0), .inr (5, [.ref (a 1), .ref (a 2), .ref (a 3), .ref (a 4), .int r16.2.2.2.2.2.1, .ref (a 5), .int r16.2.2.2.2.2.2.2.1, .int r16.2.2.2.2.2.2.2.2.1, .int r16.2.2.2.2.2.2.2.2.2.1, .ref (a 6), .ref (a 7), .ref (a 8)])), ((a 1), .inl (G.2.1, 411, .inl r16.2.1)), ((a 2), .inl (G.2.1, 1644, .inl r16.2.2.1)), ((a 3), .inl (G.2.1, 411, .inl r16.2.2.2.1)), ((a 4), .inl (G.2.1, 411, .inl r16.2.2.2.2.1)), ((a 5), .inl (G.2.2.1, 60, .inl r16.2.2.2.2.2.2.1)), ((a 6), .inl (G.2.1, 4, .inl r16.2.2.2.2.2.2.2.2.2.2.1)), ((a 7), .inl (G.2.1, 4, .inl r16.2.2.2.2.2.2.2.2.2.2.2.1)), ((a 8), .inl (G.2.1, 4, .inl r16.2.2.2.2.2.2.2.2.2.2.2.2))] := hD
      cases hf
      exact g_iretC hx hb hr hlocks hP hD hS dX6_walk_74
    · have hf := g_ifT c6 hf
      refine lv_ldc (v := (-1000001 : Int32)) hx hb hown (hts _ tw_654) dX6_walk_18 ?_
      cases hf
      exact g_iretC hx hb hr hlocks hP hD hS dX6_walk_20
-- TwoShapesModel.step(I)I
abbrev rmX6_step : Room := { frames := 4, cells := 0, slots := 0, locals := 92 }
def fX6_step_b89 (x2 : Int32) (x3 : Int32) (t0 : Int32) (t1 : Int32) (ss : Nat → Int32) (was : Nat → Int32) (beg : Nat → Int32) (asi : Nat → Int32) (sta : Int32) (txt : Nat → Int32) (typ : Int32) (att : Int32) (rea : Int32) (got : Nat → Int32) (row : Nat → Int32) (oth : Nat → Int32) : Option (Int32 × (Nat → Int32) × (Nat → Int32) × (Nat → Int32) × (Nat → Int32) × Int32 × (Nat → Int32) × Int32 × Int32 × Int32 × (Nat → Int32) × (Nat → Int32) × (Nat → Int32)) := g_gd (g_in t1 411) (g_gd (g_in (x2 + (2 : Int32)) 411) (((fX6_acted x3 (upd (upd ss t1.toNatClampNeg t0) (x2 + (2 : Int32)).toNatClampNeg x3) was beg asi sta txt typ att rea got row oth).bind fun r13 => some (r13.1, r13.2.1, r13.2.2.1, r13.2.2.2.1, r13.2.2.2.2.1, r13.2.2.2.2.2.1, r13.2.2.2.2.2.2.1, r13.2.2.2.2.2.2.2.1, r13.2.2.2.2.2.2.2.2.1, r13.2.2.2.2.2.2.2.2.2.1, r13.2.2.2.2.2.2.2.2.2.2.1, r13.2.2.2.2.2.2.2.2.2.2.2.1, r13.2.2.2.2.2.2.2.2.2.2.2.2))))
set_option maxHeartbeats 4000000 in
set_option maxRecDepth 100000 in
theorem kX6_step_b89 {p : Program} {l : Launch} {e : Env} {s : State} {m : MethodId} {args : Array Value} {below : List Frame} {meth : Method} {c : Code} {G : gT} {a : Nat → Nat} {w0 : va_W} (C0 : gX p s m args meth c cX6_step 4 (some .int) RX6 G) :
    ∀ (x2 : Int32) (x3 : Int32) (t0 : Int32) (t1 : Int32) (ss : Nat → Int32) (was : Nat → Int32) (beg : Nat → Int32) (asi : Nat → Int32) (sta : Int32) (txt : Nat → Int32) (typ : Int32) (att : Int32) (rea : Int32) (got : Nat → Int32) (row : Nat → Int32) (oth : Nat → Int32) (u : Int32 × (Nat → Int32) × (Nat → Int32) × (Nat → Int32) × (Nat → Int32) × Int32 × (Nat → Int32) × Int32 × Int32 × Int32 × (Nat → Int32) × (Nat → Int32) × (Nat → Int32)), fX6_step_b89 x2 x3 t0 t1 ss was beg asi sta txt typ att rea got row oth = some u → ∀ (H : Heap) (locs : List Loc), va_P G.1 vwCl [((a 0), .inr (5, [.ref (a 1), .ref (a 2), .ref (a 3), .ref (a 4), .int sta, .ref (a 5), .int typ, .int att, .int rea, .ref (a 6), .ref (a 7), .ref (a 8)])), ((a 1), .inl (G.2.1, 411, .inl ss)), ((a 2), .inl (G.2.1, 1644, .inl was)), ((a 3), .inl (G.2.1, 411, .inl beg)), ((a 4), .inl (G.2.1, 411, .inl asi)), ((a 5), .inl (G.2.2.1, 60, .inl txt)), ((a 6), .inl (G.2.1, 4, .inl got)), ((a 7), .inl (G.2.1, 4, .inl row)), ((a 8), .inl (G.2.1, 4, .inl oth))] H → va_D (va_A w0 s.heap.size) [((a 0), .inr (5, [.ref (a 1), .ref (a 2), .ref (a 3), .ref (a 4), .int sta, .ref (a 5), .int typ, .int att, .int rea, .ref (a 6), .ref (a 7), .ref (a 8)])), ((a 1), .inl (G.2.1, 411, .inl ss)), ((a 2), .inl (G.2.1, 1644, .inl was)), ((a 3), .inl (G.2.1, 411, .inl beg)), ((a 4), .inl (G.2.1, 411, .inl asi)), ((a 5), .inl (G.2.2.1, 60, .inl txt)), ((a 6), .inl (G.2.1, 4, .inl got)), ((a 7), .inl (G.2.1, 4, .inl row)), ((a 8), .inl (G.2.1, 4, .inl oth))] → va_S (va_A w0 s.heap.size) s.heap H locs → ∀ ls, lv_has ls 4 [(0, .ref (a 0)), (2, .int x2), (3, .int x3)] → gW p l e (headSpec wsX6_step rmX6_step).room s m args below meth c G w0 (some (.int u.1)) (modW G a u.2.1 u.2.2.1 u.2.2.2.1 u.2.2.2.2.1 u.2.2.2.2.2.1 u.2.2.2.2.2.2.1 u.2.2.2.2.2.2.2.1 u.2.2.2.2.2.2.2.2.1 u.2.2.2.2.2.2.2.2.2.1 u.2.2.2.2.2.2.2.2.2.2.1 u.2.2.2.2.2.2.2.2.2.2.2.1 u.2.2.2.2.2.2.2.2.2.2.2.2) H locs 89 ls [.int t0, .int t1, .ref (a 1)] := by
  obtain ⟨hx, hb, hr, hts, hown, hlocks, hml, hK⟩ := id C0
  have hA : ∀ q : Nat, s.heap.size ≤ q → va_A w0 s.heap.size q := fun q h => Or.inr h
  intro x2 x3 t0 t1 ss was beg asi sta txt typ att rea got row oth u hf H locs hP hD hS ls hl
  unfold fX6_step_b89 at hf
  obtain ⟨g11, hf⟩ := g_gdS hf
  refine va_iast hx hb hK.1 hP hD hS 1 0 rfl rfl (g_in_vp g11) dX6_step_89 (fun H locs hP hD hS => ?_)
  have hP : va_P G.1 vwCl [((a 0), .inr (5, [.ref (a 1), .ref (a 2), .ref (a 3), .ref (a 4), .int sta, .ref (a 5), .int typ, .int att, .int rea, .ref (a 6), .ref (a 7), .ref (a 8)])), ((a 1), .inl (G.2.1, 411, .inl (upd ss t1.toNatClampNeg t0))), ((a 2), .inl (G.2.1, 1644, .inl was)), ((a 3), .inl (G.2.1, 411, .inl beg)), ((a 4), .inl (G.2.1, 411, .inl asi)), ((a 5), .inl (G.2.2.1, 60, .inl txt)), ((a 6), .inl (G.2.1, 4, .inl got)), ((a 7), .inl (G.2.1, 4, .inl row)), ((a 8), .inl (G.2.1, 4, .inl oth))] H := hP
  have hD : va_D (va_A w0 s.heap.size) [((a 0), .inr (5, [.ref (a 1), .ref (a 2), .ref (a 3), .ref (a 4), .int sta, .ref (a 5), .int typ, .int att, .int rea, .ref (a 6), .ref (a 7), .ref (a 8)])), ((a 1), .inl (G.2.1, 411, .inl (upd ss t1.toNatClampNeg t0))), ((a 2), .inl (G.2.1, 1644, .inl was)), ((a 3), .inl (G.2.1, 411, .inl beg)), ((a 4), .inl (G.2.1, 411, .inl asi)), ((a 5), .inl (G.2.2.1, 60, .inl txt)), ((a 6), .inl (G.2.1, 4, .inl got)), ((a 7), .inl (G.2.1, 4, .inl row)), ((a 8), .inl (G.2.1, 4, .inl oth))] := hD
  refine lv_aload_n hx hb dX6_step_90 rfl (lv_at hl 0 rfl) ?_
  refine va_get (D := G.1) (ci := 5) (v := .ref (a 1)) (C := RX6) (T := TX6) (N := 12) hx hb hts hX6 hown hK.1 hP 0 rfl rfl 0 (by decide) (hts _ tw_588) (fun _ h9 => h9) rfl dX6_step_91 ?_
  refine lv_iload_n hx hb dX6_step_94 rfl (lv_at hl 1 rfl) ?_
  refine lv_iconst (v := (2 : Int32)) hx hb dX6_step_95 (by decide) ?_
  refine lv_iadd hx hb dX6_step_96 ?_
  refine lv_iload_n hx hb dX6_step_97 rfl (lv_at hl 2 rfl) ?_
  obtain ⟨g12, hf⟩ := g_gdS hf
  refine va_iast hx hb hK.1 hP hD hS 1 0 rfl rfl (g_in_vp g12) dX6_step_98 (fun H locs hP hD hS => ?_)
  have hP : va_P G.1 vwCl [((a 0), .inr (5, [.ref (a 1), .ref (a 2), .ref (a 3), .ref (a 4), .int sta, .ref (a 5), .int typ, .int att, .int rea, .ref (a 6), .ref (a 7), .ref (a 8)])), ((a 1), .inl (G.2.1, 411, .inl (upd (upd ss t1.toNatClampNeg t0) (x2 + (2 : Int32)).toNatClampNeg x3))), ((a 2), .inl (G.2.1, 1644, .inl was)), ((a 3), .inl (G.2.1, 411, .inl beg)), ((a 4), .inl (G.2.1, 411, .inl asi)), ((a 5), .inl (G.2.2.1, 60, .inl txt)), ((a 6), .inl (G.2.1, 4, .inl got)), ((a 7), .inl (G.2.1, 4, .inl row)), ((a 8), .inl (G.2.1, 4, .inl oth))] H := hP
  have hD : va_D (va_A w0 s.heap.size) [((a 0), .inr (5, [.ref (a 1), .ref (a 2), .ref (a 3), .ref (a 4), .int sta, .ref (a 5), .int typ, .int att, .int rea, .ref (a 6), .ref (a 7), .ref (a 8)])), ((a 1), .inl (G.2.1, 411, .inl (upd (upd ss t1.toNatClampNeg t0) (x2 + (2 : Int32)).toNatClampNeg x3))), ((a 2), .inl (G.2.1, 1644, .inl was)), ((a 3), .inl (G.2.1, 411, .inl beg)), ((a 4), .inl (G.2.1, 411, .inl asi)), ((a 5), .inl (G.2.2.1, 60, .inl txt)), ((a 6), .inl (G.2.1, 4, .inl got)), ((a 7), .inl (G.2.1, 4, .inl row)), ((a 8), .inl (G.2.1, 4, .inl oth))] := hD
  refine lv_aload_n hx hb dX6_step_99 rfl (lv_at hl 0 rfl) ?_
  refine lv_iload_n hx hb dX6_step_100 rfl (lv_at hl 2 rfl) ?_
  obtain ⟨r13, e14, hf⟩ := g_bdS hf
  refine g_contC (st1 := [.int r13.1]) (g_runVC (As := [.int x3]) (rest := []) ⟨hx, hb, hml, hown, hts⟩ (qX6_acted l G a e14) (cwV 1 hts (TB_V TB_id tw_650 tw_652 tw_13 tw_54 tw_653) rfl rfl rfl (by decide +kernel) ⟨Nat.le_of_ble_eq_true rfl, Nat.le_of_ble_eq_true rfl⟩) hK (hP.sub [0, 1, 2, 3, 4, 5, 6, 7, 8] rfl) (hD.sub [0, 1, 2, 3, 4, 5, 6, 7, 8] (by decide) rfl) 0 rfl rfl rfl hl.1 rfl (Nat.le_of_ble_eq_true rfl) dX6_step_101) rfl hP hD hS hA [0, 1, 2, 3, 4, 5, 6, 7, 8] rfl rfl (fun H locs hP hD hS => ?_)
  have hP : va_P G.1 vwCl [((a 0), .inr (5, [.ref (a 1), .ref (a 2), .ref (a 3), .ref (a 4), .int r13.2.2.2.2.2.1, .ref (a 5), .int r13.2.2.2.2.2.2.2.1, .int r13.2.2.2.2.2.2.2.2.1, .int r13.2.2.2.2.2.2.2.2.2.1, .ref (a 6), .ref (a 7), .ref (a 8)])), ((a 1), .inl (G.2.1, 411, .inl r13.2.1)), ((a 2), .inl (G.2.1, 1644, .inl r13.2.2.1)), ((a 3), .inl (G.2.1, 411, .inl r13.2.2.2.1)), ((a 4), .inl (G.2.1, 411, .inl r13.2.2.2.2.1)), ((a 5), .inl (G.2.2.1, 60, .inl r13.2.2.2.2.2.2.1)), ((a 6), .inl (G.2.1, 4, .inl r13.2.2.2.2.2.2.2.2.2.2.1)), ((a 7), .inl (G.2.1, 4, .inl r13.2.2.2.2.2.2.2.2.2.2.2.1)), ((a 8), .inl (G.2.1, 4, .inl r13.2.2.2.2.2.2.2.2.2.2.2.2))] H := hP
  have hD : va_D (va_A w0 s.heap.size) [((a 0), .inr (5, [.ref (a 1), .ref (a 2), .ref (a 3), .ref (a 4), .int r13.2.2.2.2.2.1, .ref (a 5), .int r13.2.2.2.2.2.2.2.1, .int r13.2.2.2.2.2.2.2.2.1, .int r13.2.2.2.2.2.2.2.2.2.1, .ref (a 6), .ref (a 7), .ref (a 8)])), ((a 1), .inl (G.2.1, 411, .inl r13.2.1)), ((a 2), .inl (G.2.1, 1644, .inl r13.2.2.1)), ((a 3), .inl (G.2.1, 411, .inl r13.2.2.2.1)), ((a 4), .inl (G.2.1, 411, .inl r13.2.2.2.2.1)), ((a 5), .inl (G.2.2.1, 60, .inl r13.2.2.2.2.2.2.1)), ((a 6), .inl (G.2.1, 4, .inl r13.2.2.2.2.2.2.2.2.2.2.1)), ((a 7), .inl (G.2.1, 4, .inl r13.2.2.2.2.2.2.2.2.2.2.2.1)), ((a 8), .inl (G.2.1, 4, .inl r13.2.2.2.2.2.2.2.2.2.2.2.2))] := hD
  cases hf
  exact g_iretC hx hb hr hlocks hP hD hS dX6_step_104
def fX6_step_b73 (x2 : Int32) (x3 : Int32) (ss : Nat → Int32) (was : Nat → Int32) (beg : Nat → Int32) (asi : Nat → Int32) (sta : Int32) (txt : Nat → Int32) (typ : Int32) (att : Int32) (rea : Int32) (got : Nat → Int32) (row : Nat → Int32) (oth : Nat → Int32) : Option (Int32 × (Nat → Int32) × (Nat → Int32) × (Nat → Int32) × (Nat → Int32) × Int32 × (Nat → Int32) × Int32 × Int32 × Int32 × (Nat → Int32) × (Nat → Int32) × (Nat → Int32)) := (if (31 : Int32) ≤ x3 then fX6_step_b89 x2 x3 (0 : Int32) x2 ss was beg asi sta txt typ att rea got row oth else fX6_step_b89 x2 x3 (1 : Int32) x2 ss was beg asi sta txt typ att rea got row oth)
set_option maxHeartbeats 4000000 in
set_option maxRecDepth 100000 in
theorem kX6_step_b73 {p : Program} {l : Launch} {e : Env} {s : State} {m : MethodId} {args : Array Value} {below : List Frame} {meth : Method} {c : Code} {G : gT} {a : Nat → Nat} {w0 : va_W} (C0 : gX p s m args meth c cX6_step 4 (some .int) RX6 G) :
    ∀ (x2 : Int32) (x3 : Int32) (ss : Nat → Int32) (was : Nat → Int32) (beg : Nat → Int32) (asi : Nat → Int32) (sta : Int32) (txt : Nat → Int32) (typ : Int32) (att : Int32) (rea : Int32) (got : Nat → Int32) (row : Nat → Int32) (oth : Nat → Int32) (u : Int32 × (Nat → Int32) × (Nat → Int32) × (Nat → Int32) × (Nat → Int32) × Int32 × (Nat → Int32) × Int32 × Int32 × Int32 × (Nat → Int32) × (Nat → Int32) × (Nat → Int32)), fX6_step_b73 x2 x3 ss was beg asi sta txt typ att rea got row oth = some u → ∀ (H : Heap) (locs : List Loc), va_P G.1 vwCl [((a 0), .inr (5, [.ref (a 1), .ref (a 2), .ref (a 3), .ref (a 4), .int sta, .ref (a 5), .int typ, .int att, .int rea, .ref (a 6), .ref (a 7), .ref (a 8)])), ((a 1), .inl (G.2.1, 411, .inl ss)), ((a 2), .inl (G.2.1, 1644, .inl was)), ((a 3), .inl (G.2.1, 411, .inl beg)), ((a 4), .inl (G.2.1, 411, .inl asi)), ((a 5), .inl (G.2.2.1, 60, .inl txt)), ((a 6), .inl (G.2.1, 4, .inl got)), ((a 7), .inl (G.2.1, 4, .inl row)), ((a 8), .inl (G.2.1, 4, .inl oth))] H → va_D (va_A w0 s.heap.size) [((a 0), .inr (5, [.ref (a 1), .ref (a 2), .ref (a 3), .ref (a 4), .int sta, .ref (a 5), .int typ, .int att, .int rea, .ref (a 6), .ref (a 7), .ref (a 8)])), ((a 1), .inl (G.2.1, 411, .inl ss)), ((a 2), .inl (G.2.1, 1644, .inl was)), ((a 3), .inl (G.2.1, 411, .inl beg)), ((a 4), .inl (G.2.1, 411, .inl asi)), ((a 5), .inl (G.2.2.1, 60, .inl txt)), ((a 6), .inl (G.2.1, 4, .inl got)), ((a 7), .inl (G.2.1, 4, .inl row)), ((a 8), .inl (G.2.1, 4, .inl oth))] → va_S (va_A w0 s.heap.size) s.heap H locs → ∀ ls, lv_has ls 4 [(0, .ref (a 0)), (2, .int x2), (3, .int x3)] → gW p l e (headSpec wsX6_step rmX6_step).room s m args below meth c G w0 (some (.int u.1)) (modW G a u.2.1 u.2.2.1 u.2.2.2.1 u.2.2.2.2.1 u.2.2.2.2.2.1 u.2.2.2.2.2.2.1 u.2.2.2.2.2.2.2.1 u.2.2.2.2.2.2.2.2.1 u.2.2.2.2.2.2.2.2.2.1 u.2.2.2.2.2.2.2.2.2.2.1 u.2.2.2.2.2.2.2.2.2.2.2.1 u.2.2.2.2.2.2.2.2.2.2.2.2) H locs 73 ls [] := by
  obtain ⟨hx, hb, hr, hts, hown, hlocks, hml, hK⟩ := id C0
  have hA : ∀ q : Nat, s.heap.size ≤ q → va_A w0 s.heap.size q := fun q h => Or.inr h
  intro x2 x3 ss was beg asi sta txt typ att rea got row oth u hf H locs hP hD hS ls hl
  unfold fX6_step_b73 at hf
  refine lv_aload_n hx hb dX6_step_73 rfl (lv_at hl 0 rfl) ?_
  refine va_get (D := G.1) (ci := 5) (v := .ref (a 1)) (C := RX6) (T := TX6) (N := 12) hx hb hts hX6 hown hK.1 hP 0 rfl rfl 0 (by decide) (hts _ tw_588) (fun _ h9 => h9) rfl dX6_step_74 ?_
  refine lv_iload_n hx hb dX6_step_77 rfl (lv_at hl 1 rfl) ?_
  refine lv_iload_n hx hb dX6_step_78 rfl (lv_at hl 2 rfl) ?_
  refine lv_bipush (v := (31 : Int32)) hx hb dX6_step_79 (by decide) ?_
  refine lv_icmp_ge (tgt := 88) hx hb dX6_step_81 (by decide) (fun c10 => ?_) (fun c10 => ?_)
  · have hf := g_ifT c10 hf
    refine lv_iconst (v := (0 : Int32)) hx hb dX6_step_88 (by decide) ?_
    exact kX6_step_b89 C0 _ _ _ _ _ _ _ _ _ _ _ _ _ _ _ _ _ hf _ _ hP hD hS ls (lv_sub hl [0, 1, 2] rfl)
  · have hf := g_ifF c10 hf
    refine lv_iconst (v := (1 : Int32)) hx hb dX6_step_84 (by decide) ?_
    refine lv_goto (tgt := 89) hx hb dX6_step_85 (by decide) ?_
    exact kX6_step_b89 C0 _ _ _ _ _ _ _ _ _ _ _ _ _ _ _ _ _ hf _ _ hP hD hS ls (lv_sub hl [0, 1, 2] rfl)
def fX6_step_b45 : Nat → Int32 → Int32 → (Nat → Int32) → (Nat → Int32) → (Nat → Int32) → (Nat → Int32) → Int32 → (Nat → Int32) → Int32 → Int32 → Int32 → (Nat → Int32) → (Nat → Int32) → (Nat → Int32) → Option (Int32 × (Nat → Int32) × (Nat → Int32) × (Nat → Int32) × (Nat → Int32) × Int32 × (Nat → Int32) × Int32 × Int32 × Int32 × (Nat → Int32) × (Nat → Int32) × (Nat → Int32))
  | 0, _, _, _, _, _, _, _, _, _, _, _, _, _, _ => none
  | n + 1, x2, x3, ss, was, beg, asi, sta, txt, typ, att, rea, got, row, oth => (if (31 : Int32) ≤ x3 then fX6_step_b73 x2 x3 ss was beg asi sta txt typ att rea got row oth else g_gd (g_in (x2 + (1 : Int32)) 411) (((fX6_reads x3 (ss (x2 + (1 : Int32)).toNatClampNeg) ss was beg asi sta txt typ att rea got row oth).bind fun r16 => (if r16.1 = (0 : Int32) then fX6_step_b45 n x2 (x3 + (1 : Int32)) r16.2.1 r16.2.2.1 r16.2.2.2.1 r16.2.2.2.2.1 r16.2.2.2.2.2.1 r16.2.2.2.2.2.2.1 r16.2.2.2.2.2.2.2.1 r16.2.2.2.2.2.2.2.2.1 r16.2.2.2.2.2.2.2.2.2.1 r16.2.2.2.2.2.2.2.2.2.2.1 r16.2.2.2.2.2.2.2.2.2.2.2.1 r16.2.2.2.2.2.2.2.2.2.2.2.2 else fX6_step_b73 x2 x3 r16.2.1 r16.2.2.1 r16.2.2.2.1 r16.2.2.2.2.1 r16.2.2.2.2.2.1 r16.2.2.2.2.2.2.1 r16.2.2.2.2.2.2.2.1 r16.2.2.2.2.2.2.2.2.1 r16.2.2.2.2.2.2.2.2.2.1 r16.2.2.2.2.2.2.2.2.2.2.1 r16.2.2.2.2.2.2.2.2.2.2.2.1 r16.2.2.2.2.2.2.2.2.2.2.2.2))))
set_option maxHeartbeats 4000000 in
set_option maxRecDepth 100000 in
theorem kX6_step_b45 {p : Program} {l : Launch} {e : Env} {s : State} {m : MethodId} {args : Array Value} {below : List Frame} {meth : Method} {c : Code} {G : gT} {a : Nat → Nat} {w0 : va_W} (C0 : gX p s m args meth c cX6_step 4 (some .int) RX6 G) :
    ∀ (n : Nat) (x2 : Int32) (x3 : Int32) (ss : Nat → Int32) (was : Nat → Int32) (beg : Nat → Int32) (asi : Nat → Int32) (sta : Int32) (txt : Nat → Int32) (typ : Int32) (att : Int32) (rea : Int32) (got : Nat → Int32) (row : Nat → Int32) (oth : Nat → Int32) (u : Int32 × (Nat → Int32) × (Nat → Int32) × (Nat → Int32) × (Nat → Int32) × Int32 × (Nat → Int32) × Int32 × Int32 × Int32 × (Nat → Int32) × (Nat → Int32) × (Nat → Int32)), fX6_step_b45 n x2 x3 ss was beg asi sta txt typ att rea got row oth = some u → ∀ (H : Heap) (locs : List Loc), va_P G.1 vwCl [((a 0), .inr (5, [.ref (a 1), .ref (a 2), .ref (a 3), .ref (a 4), .int sta, .ref (a 5), .int typ, .int att, .int rea, .ref (a 6), .ref (a 7), .ref (a 8)])), ((a 1), .inl (G.2.1, 411, .inl ss)), ((a 2), .inl (G.2.1, 1644, .inl was)), ((a 3), .inl (G.2.1, 411, .inl beg)), ((a 4), .inl (G.2.1, 411, .inl asi)), ((a 5), .inl (G.2.2.1, 60, .inl txt)), ((a 6), .inl (G.2.1, 4, .inl got)), ((a 7), .inl (G.2.1, 4, .inl row)), ((a 8), .inl (G.2.1, 4, .inl oth))] H → va_D (va_A w0 s.heap.size) [((a 0), .inr (5, [.ref (a 1), .ref (a 2), .ref (a 3), .ref (a 4), .int sta, .ref (a 5), .int typ, .int att, .int rea, .ref (a 6), .ref (a 7), .ref (a 8)])), ((a 1), .inl (G.2.1, 411, .inl ss)), ((a 2), .inl (G.2.1, 1644, .inl was)), ((a 3), .inl (G.2.1, 411, .inl beg)), ((a 4), .inl (G.2.1, 411, .inl asi)), ((a 5), .inl (G.2.2.1, 60, .inl txt)), ((a 6), .inl (G.2.1, 4, .inl got)), ((a 7), .inl (G.2.1, 4, .inl row)), ((a 8), .inl (G.2.1, 4, .inl oth))] → va_S (va_A w0 s.heap.size) s.heap H locs → ∀ ls, lv_has ls 4 [(0, .ref (a 0)), (2, .int x2), (3, .int x3)] → gW p l e (headSpec wsX6_step rmX6_step).room s m args below meth c G w0 (some (.int u.1)) (modW G a u.2.1 u.2.2.1 u.2.2.2.1 u.2.2.2.2.1 u.2.2.2.2.2.1 u.2.2.2.2.2.2.1 u.2.2.2.2.2.2.2.1 u.2.2.2.2.2.2.2.2.1 u.2.2.2.2.2.2.2.2.2.1 u.2.2.2.2.2.2.2.2.2.2.1 u.2.2.2.2.2.2.2.2.2.2.2.1 u.2.2.2.2.2.2.2.2.2.2.2.2) H locs 45 ls [] := by
  obtain ⟨hx, hb, hr, hts, hown, hlocks, hml, hK⟩ := id C0
  have hA : ∀ q : Nat, s.heap.size ≤ q → va_A w0 s.heap.size q := fun q h => Or.inr h
  intro n
  induction n with
  | zero =>
    intro x2 x3 ss was beg asi sta txt typ att rea got row oth u hf H locs hP hD hS ls hl
    have hf : (none : Option (Int32 × (Nat → Int32) × (Nat → Int32) × (Nat → Int32) × (Nat → Int32) × Int32 × (Nat → Int32) × Int32 × Int32 × Int32 × (Nat → Int32) × (Nat → Int32) × (Nat → Int32))) = some u := hf
    cases hf
  | succ n ih =>
    intro x2 x3 ss was beg asi sta txt typ att rea got row oth u hf H locs hP hD hS ls hl
    rw [fX6_step_b45] at hf
    refine lv_iload_n hx hb dX6_step_45 rfl (lv_at hl 2 rfl) ?_
    refine lv_bipush (v := (31 : Int32)) hx hb dX6_step_46 (by decide) ?_
    refine lv_icmp_ge (tgt := 73) hx hb dX6_step_48 (by decide) (fun c9 => ?_) (fun c9 => ?_)
    · have hf := g_ifT c9 hf
      exact kX6_step_b73 C0 _ _ _ _ _ _ _ _ _ _ _ _ _ _ _ hf _ _ hP hD hS ls (lv_sub hl [0, 1, 2] rfl)
    · have hf := g_ifF c9 hf
      refine lv_aload_n hx hb dX6_step_51 rfl (lv_at hl 0 rfl) ?_
      refine lv_iload_n hx hb dX6_step_52 rfl (lv_at hl 2 rfl) ?_
      refine lv_aload_n hx hb dX6_step_53 rfl (lv_at hl 0 rfl) ?_
      refine va_get (D := G.1) (ci := 5) (v := .ref (a 1)) (C := RX6) (T := TX6) (N := 12) hx hb hts hX6 hown hK.1 hP 0 rfl rfl 0 (by decide) (hts _ tw_588) (fun _ h9 => h9) rfl dX6_step_54 ?_
      refine lv_iload_n hx hb dX6_step_57 rfl (lv_at hl 1 rfl) ?_
      refine lv_iconst (v := (1 : Int32)) hx hb dX6_step_58 (by decide) ?_
      refine lv_iadd hx hb dX6_step_59 ?_
      obtain ⟨g15, hf⟩ := g_gdS hf
      refine va_iald hx hb hK.1 hP 1 0 rfl rfl (g_in_vp g15) dX6_step_60 ?_
      obtain ⟨r16, e17, hf⟩ := g_bdS hf
      refine g_contC (st1 := [.int r16.1]) (g_runVC (As := [.int x3, .int (ss (x2 + (1 : Int32)).toNatClampNeg)]) (rest := []) ⟨hx, hb, hml, hown, hts⟩ (qX6_reads l G a e17) (cwV 2 hts (TB_V TB_id tw_795 tw_797 tw_36 tw_54 tw_798) rfl rfl rfl (by decide +kernel) ⟨Nat.le_of_ble_eq_true rfl, Nat.le_of_ble_eq_true rfl⟩) hK (hP.sub [0, 1, 2, 3, 4, 5, 6, 7, 8] rfl) (hD.sub [0, 1, 2, 3, 4, 5, 6, 7, 8] (by decide) rfl) 0 rfl rfl rfl hl.1 rfl (Nat.le_of_ble_eq_true rfl) dX6_step_61) rfl hP hD hS hA [0, 1, 2, 3, 4, 5, 6, 7, 8] rfl rfl (fun H locs hP hD hS => ?_)
      have hP : va_P G.1 vwCl [((a 0), .inr (5, [.ref (a 1), .ref (a 2), .ref (a 3), .ref (a 4), .int r16.2.2.2.2.2.1, .ref (a 5), .int r16.2.2.2.2.2.2.2.1, .int r16.2.2.2.2.2.2.2.2.1, .int r16.2.2.2.2.2.2.2.2.2.1, .ref (a 6), .ref (a 7), .ref (a 8)])), ((a 1), .inl (G.2.1, 411, .inl r16.2.1)), ((a 2), .inl (G.2.1, 1644, .inl r16.2.2.1)), ((a 3), .inl (G.2.1, 411, .inl r16.2.2.2.1)), ((a 4), .inl (G.2.1, 411, .inl r16.2.2.2.2.1)), ((a 5), .inl (G.2.2.1, 60, .inl r16.2.2.2.2.2.2.1)), ((a 6), .inl (G.2.1, 4, .inl r16.2.2.2.2.2.2.2.2.2.2.1)), ((a 7), .inl (G.2.1, 4, .inl r16.2.2.2.2.2.2.2.2.2.2.2.1)), ((a 8), .inl (G.2.1, 4, .inl r16.2.2.2.2.2.2.2.2.2.2.2.2))] H := hP
      have hD : va_D (va_A w0 s.heap.size) [((a 0), .inr (5, [.ref (a 1), .ref (a 2), .ref (a 3), .ref (a 4), .int r16.2.2.2.2.2.1, .ref (a 5), .int r16.2.2.2.2.2.2.2.1, .int r16.2.2.2.2.2.2.2.2.1, .int r16.2.2.2.2.2.2.2.2.2.1, .ref (a 6), .ref (a 7), .ref (a 8)])), ((a 1), .inl (G.2.1, 411, .inl r16.2.1)), ((a 2), .inl (G.2.1, 1644, .inl r16.2.2.1)), ((a 3), .inl (G.2.1, 411, .inl r16.2.2.2.1)), ((a 4), .inl (G.2.1, 411, .inl r16.2.2.2.2.1)), ((a 5), .inl (G.2.2.1, 60, .inl r16.2.2.2.2.2.2.1)), ((a 6), .inl (G.2.1, 4, .inl r16.2.2.2.2.2.2.2.2.2.2.1)), ((a 7), .inl (G.2.1, 4, .inl r16.2.2.2.2.2.2.2.2.2.2.2.1)), ((a 8), .inl (G.2.1, 4, .inl r16.2.2.2.2.2.2.2.2.2.2.2.2))] := hD
      refine lv_if_ne (tgt := 73) hx hb dX6_step_64 (by decide) (fun c18 => ?_) (fun c18 => ?_)
      · have hf := g_ifF c18 hf
        exact kX6_step_b73 C0 _ _ _ _ _ _ _ _ _ _ _ _ _ _ _ hf _ _ hP hD hS ls (lv_sub hl [0, 1, 2] rfl)
      · have hf := g_ifT c18 hf
        refine lv_iinc (v := (x3 + (1 : Int32))) (lv' := [(3, .int (x3 + (1 : Int32))), (0, .ref (a 0)), (2, .int x2)]) hx hb dX6_step_67 hl (k := 2) rfl rfl (by decide) rfl (fun ls hl => ?_)
        refine lv_goto (tgt := 45) hx hb dX6_step_70 (by decide) ?_
        exact ih _ _ _ _ _ _ _ _ _ _ _ _ _ _ _ hf _ _ hP hD hS ls (lv_sub hl [1, 2, 0] rfl)
def fX6_step (p0 : Int32) (ss : Nat → Int32) (was : Nat → Int32) (beg : Nat → Int32) (asi : Nat → Int32) (sta : Int32) (txt : Nat → Int32) (typ : Int32) (att : Int32) (rea : Int32) (got : Nat → Int32) (row : Nat → Int32) (oth : Nat → Int32) : Option (Int32 × (Nat → Int32) × (Nat → Int32) × (Nat → Int32) × (Nat → Int32) × Int32 × (Nat → Int32) × Int32 × Int32 × Int32 × (Nat → Int32) × (Nat → Int32) × (Nat → Int32)) := ((fX6_in p0 (0 : Int32) (2 : Int32)).bind fun r1 => (if r1 = (0 : Int32) then some ((-1000001 : Int32), ss, was, beg, asi, sta, txt, typ, att, rea, got, row, oth) else g_gd (g_in ((5 : Int32) + ((3 : Int32) * p0)) 411) ((if (ss ((5 : Int32) + ((3 : Int32) * p0)).toNatClampNeg) = (0 : Int32) then some ((-1000002 : Int32), ss, was, beg, asi, sta, txt, typ, att, rea, got, row, oth) else ((fX6_keeps ss was beg asi sta txt typ att rea got row oth).bind fun r6 => g_gd (g_in (((5 : Int32) + ((3 : Int32) * p0)) + (2 : Int32)) 411) (fX6_step_b45 2000 ((5 : Int32) + ((3 : Int32) * p0)) ((r6.1 (((5 : Int32) + ((3 : Int32) * p0)) + (2 : Int32)).toNatClampNeg) + (1 : Int32)) r6.1 r6.2.1 r6.2.2.1 r6.2.2.2.1 r6.2.2.2.2.1 r6.2.2.2.2.2.1 r6.2.2.2.2.2.2.1 r6.2.2.2.2.2.2.2.1 r6.2.2.2.2.2.2.2.2.1 r6.2.2.2.2.2.2.2.2.2.1 r6.2.2.2.2.2.2.2.2.2.2.1 r6.2.2.2.2.2.2.2.2.2.2.2))))))
set_option maxHeartbeats 4000000 in
set_option maxRecDepth 100000 in
theorem qX6_step (l : Launch) (G : gT) (a : Nat → Nat) {p0 : Int32} {ss : Nat → Int32} {was : Nat → Int32} {beg : Nat → Int32} {asi : Nat → Int32} {sta : Int32} {txt : Nat → Int32} {typ : Int32} {att : Int32} {rea : Int32} {got : Nat → Int32} {row : Nat → Int32} {oth : Nat → Int32} {u : Int32 × (Nat → Int32) × (Nat → Int32) × (Nat → Int32) × (Nat → Int32) × Int32 × (Nat → Int32) × Int32 × Int32 × Int32 × (Nat → Int32) × (Nat → Int32) × (Nat → Int32)} (hf : fX6_step p0 ss was beg asi sta txt typ att rea got row oth = some u) : gC l G yX6_step wsX6_step rmX6_step [.ref (a 0), .int p0] (modW G a ss was beg asi sta txt typ att rea got row oth) (some (.int u.1)) (modW G a u.2.1 u.2.2.1 u.2.2.2.1 u.2.2.2.2.1 u.2.2.2.2.2.1 u.2.2.2.2.2.2.1 u.2.2.2.2.2.2.2.1 u.2.2.2.2.2.2.2.2.1 u.2.2.2.2.2.2.2.2.2.1 u.2.2.2.2.2.2.2.2.2.2.1 u.2.2.2.2.2.2.2.2.2.2.2.1 u.2.2.2.2.2.2.2.2.2.2.2.2) := by
  refine gC.of (cc := cX6_step) (maxL := 4) (ret := (some .int)) (by decide) rfl (Nat.le_of_ble_eq_true rfl) ?_
  intro p e s m below meth c C0 hP hD hS ls hl
  obtain ⟨hx, hb, hr, hts, hown, hlocks, hml, hK⟩ := id C0
  have hl : lv_has ls 4 [(0, .ref (a 0)), (1, .int p0)] := hl
  have hA : ∀ q : Nat, s.heap.size ≤ q → va_A (modW G a ss was beg asi sta txt typ att rea got row oth) s.heap.size q := fun q h => Or.inr h
  have hP : va_P G.1 vwCl [((a 0), .inr (5, [.ref (a 1), .ref (a 2), .ref (a 3), .ref (a 4), .int sta, .ref (a 5), .int typ, .int att, .int rea, .ref (a 6), .ref (a 7), .ref (a 8)])), ((a 1), .inl (G.2.1, 411, .inl ss)), ((a 2), .inl (G.2.1, 1644, .inl was)), ((a 3), .inl (G.2.1, 411, .inl beg)), ((a 4), .inl (G.2.1, 411, .inl asi)), ((a 5), .inl (G.2.2.1, 60, .inl txt)), ((a 6), .inl (G.2.1, 4, .inl got)), ((a 7), .inl (G.2.1, 4, .inl row)), ((a 8), .inl (G.2.1, 4, .inl oth))] s.heap := hP
  have hD : va_D (va_A (modW G a ss was beg asi sta txt typ att rea got row oth) s.heap.size) [((a 0), .inr (5, [.ref (a 1), .ref (a 2), .ref (a 3), .ref (a 4), .int sta, .ref (a 5), .int typ, .int att, .int rea, .ref (a 6), .ref (a 7), .ref (a 8)])), ((a 1), .inl (G.2.1, 411, .inl ss)), ((a 2), .inl (G.2.1, 1644, .inl was)), ((a 3), .inl (G.2.1, 411, .inl beg)), ((a 4), .inl (G.2.1, 411, .inl asi)), ((a 5), .inl (G.2.2.1, 60, .inl txt)), ((a 6), .inl (G.2.1, 4, .inl got)), ((a 7), .inl (G.2.1, 4, .inl row)), ((a 8), .inl (G.2.1, 4, .inl oth))] := hD
  unfold fX6_step at hf
  refine lv_iload_n hx hb dX6_step_0 rfl (lv_at hl 1 rfl) ?_
  refine lv_iconst (v := (0 : Int32)) hx hb dX6_step_1 (by decide) ?_
  refine lv_iconst (v := (2 : Int32)) hx hb dX6_step_2 (by decide) ?_
  obtain ⟨r1, e2, hf⟩ := g_bdS hf
  refine g_contR (st1 := [.int r1]) (g_runSR (As := [.int p0, .int (0 : Int32), .int (2 : Int32)]) (rest := []) ⟨hx, hb, hml, hown, hts⟩ (qX6_in l G e2) (va_cwS 3 hts (TB_S TB_id tw_714 tw_715 tw_54 tw_716) rfl rfl rfl (by decide +kernel) ⟨Nat.le_of_ble_eq_true rfl, Nat.le_of_ble_eq_true rfl⟩) hK (hP.sub [] rfl) rfl hl.1 rfl (Nat.le_of_ble_eq_true rfl) dX6_step_3) rfl ?_
  refine lv_if_ne (tgt := 12) hx hb dX6_step_6 (by decide) (fun c3 => ?_) (fun c3 => ?_)
  · have hf := g_ifF c3 hf
    refine lv_iconst (v := (5 : Int32)) hx hb dX6_step_12 (by decide) ?_
    refine lv_iconst (v := (3 : Int32)) hx hb dX6_step_13 (by decide) ?_
    refine lv_iload_n hx hb dX6_step_14 rfl (lv_at hl 1 rfl) ?_
    refine lv_imul hx hb dX6_step_15 ?_
    refine lv_iadd hx hb dX6_step_16 ?_
    refine lv_istore_n (lv' := [(2, .int ((5 : Int32) + ((3 : Int32) * p0))), (0, .ref (a 0)), (1, .int p0)]) hx hb dX6_step_17 rfl hl (by decide) rfl (fun ls hl => ?_)
    refine lv_aload_n hx hb dX6_step_18 rfl (lv_at hl 1 rfl) ?_
    refine va_get (D := G.1) (ci := 5) (v := .ref (a 1)) (C := RX6) (T := TX6) (N := 12) hx hb hts hX6 hown hK.1 hP 0 rfl rfl 0 (by decide) (hts _ tw_588) (fun _ h9 => h9) rfl dX6_step_19 ?_
    refine lv_iload_n hx hb dX6_step_22 rfl (lv_at hl 0 rfl) ?_
    obtain ⟨g4, hf⟩ := g_gdS hf
    refine va_iald hx hb hK.1 hP 1 0 rfl rfl (g_in_vp g4) dX6_step_23 ?_
    refine lv_if_ne (tgt := 30) hx hb dX6_step_24 (by decide) (fun c5 => ?_) (fun c5 => ?_)
    · have hf := g_ifF c5 hf
      refine lv_aload_n hx hb dX6_step_30 rfl (lv_at hl 1 rfl) ?_
      obtain ⟨r6, e7, hf⟩ := g_bdS hf
      refine g_contC (st1 := []) (g_runVC (As := []) (rest := []) ⟨hx, hb, hml, hown, hts⟩ (qX6_keeps l G a e7) (cwV 0 hts (TB_V TB_id tw_631 tw_633 tw_9 tw_54 tw_634) rfl rfl rfl (by decide +kernel) ⟨Nat.le_of_ble_eq_true rfl, Nat.le_of_ble_eq_true rfl⟩) hK (hP.sub [0, 1, 2, 3, 4, 5, 6, 7, 8] rfl) (hD.sub [0, 1, 2, 3, 4, 5, 6, 7, 8] (by decide) rfl) 0 rfl rfl rfl hl.1 rfl (Nat.le_of_ble_eq_true rfl) dX6_step_31) rfl hP hD hS hA [0, 1, 2, 3, 4, 5, 6, 7, 8] rfl rfl (fun H locs hP hD hS => ?_)
      have hP : va_P G.1 vwCl [((a 0), .inr (5, [.ref (a 1), .ref (a 2), .ref (a 3), .ref (a 4), .int r6.2.2.2.2.1, .ref (a 5), .int r6.2.2.2.2.2.2.1, .int r6.2.2.2.2.2.2.2.1, .int r6.2.2.2.2.2.2.2.2.1, .ref (a 6), .ref (a 7), .ref (a 8)])), ((a 1), .inl (G.2.1, 411, .inl r6.1)), ((a 2), .inl (G.2.1, 1644, .inl r6.2.1)), ((a 3), .inl (G.2.1, 411, .inl r6.2.2.1)), ((a 4), .inl (G.2.1, 411, .inl r6.2.2.2.1)), ((a 5), .inl (G.2.2.1, 60, .inl r6.2.2.2.2.2.1)), ((a 6), .inl (G.2.1, 4, .inl r6.2.2.2.2.2.2.2.2.2.1)), ((a 7), .inl (G.2.1, 4, .inl r6.2.2.2.2.2.2.2.2.2.2.1)), ((a 8), .inl (G.2.1, 4, .inl r6.2.2.2.2.2.2.2.2.2.2.2))] H := hP
      have hD : va_D (va_A (modW G a ss was beg asi sta txt typ att rea got row oth) s.heap.size) [((a 0), .inr (5, [.ref (a 1), .ref (a 2), .ref (a 3), .ref (a 4), .int r6.2.2.2.2.1, .ref (a 5), .int r6.2.2.2.2.2.2.1, .int r6.2.2.2.2.2.2.2.1, .int r6.2.2.2.2.2.2.2.2.1, .ref (a 6), .ref (a 7), .ref (a 8)])), ((a 1), .inl (G.2.1, 411, .inl r6.1)), ((a 2), .inl (G.2.1, 1644, .inl r6.2.1)), ((a 3), .inl (G.2.1, 411, .inl r6.2.2.1)), ((a 4), .inl (G.2.1, 411, .inl r6.2.2.2.1)), ((a 5), .inl (G.2.2.1, 60, .inl r6.2.2.2.2.2.1)), ((a 6), .inl (G.2.1, 4, .inl r6.2.2.2.2.2.2.2.2.2.1)), ((a 7), .inl (G.2.1, 4, .inl r6.2.2.2.2.2.2.2.2.2.2.1)), ((a 8), .inl (G.2.1, 4, .inl r6.2.2.2.2.2.2.2.2.2.2.2))] := hD
      refine lv_aload_n hx hb dX6_step_34 rfl (lv_at hl 1 rfl) ?_
      refine va_get (D := G.1) (ci := 5) (v := .ref (a 1)) (C := RX6) (T := TX6) (N := 12) hx hb hts hX6 hown hK.1 hP 0 rfl rfl 0 (by decide) (hts _ tw_588) (fun _ h9 => h9) rfl dX6_step_35 ?_
      refine lv_iload_n hx hb dX6_step_38 rfl (lv_at hl 0 rfl) ?_
      refine lv_iconst (v := (2 : Int32)) hx hb dX6_step_39 (by decide) ?_
      refine lv_iadd hx hb dX6_step_40 ?_
      obtain ⟨g8, hf⟩ := g_gdS hf
      refine va_iald hx hb hK.1 hP 1 0 rfl rfl (g_in_vp g8) dX6_step_41 ?_
      refine lv_iconst (v := (1 : Int32)) hx hb dX6_step_42 (by decide) ?_
      refine lv_iadd hx hb dX6_step_43 ?_
      refine lv_istore_n (lv' := [(3, .int ((r6.1 (((5 : Int32) + ((3 : Int32) * p0)) + (2 : Int32)).toNatClampNeg) + (1 : Int32))), (2, .int ((5 : Int32) + ((3 : Int32) * p0))), (0, .ref (a 0)), (1, .int p0)]) hx hb dX6_step_44 rfl hl (by decide) rfl (fun ls hl => ?_)
      exact kX6_step_b45 C0 2000 _ _ _ _ _ _ _ _ _ _ _ _ _ _ _ hf _ _ hP hD hS ls (lv_sub hl [2, 1, 0] rfl)
    · have hf := g_ifT c5 hf
      refine lv_ldc (v := (-1000002 : Int32)) hx hb hown (hts _ tw_630) dX6_step_27 ?_
      cases hf
      exact g_iretC hx hb hr hlocks hP hD hS dX6_step_29
  · have hf := g_ifT c3 hf
    refine lv_ldc (v := (-1000001 : Int32)) hx hb hown (hts _ tw_654) dX6_step_9 ?_
    cases hf
    exact g_iretC hx hb hr hlocks hP hD hS dX6_step_11
-- TwoShapesModel.known()I
abbrev rmX6_known : Room := { frames := 2, cells := 0, slots := 0, locals := 44 }
def fX6_known_b4 : Nat → Int32 → Int32 → (Nat → Int32) → (Nat → Int32) → (Nat → Int32) → (Nat → Int32) → Int32 → (Nat → Int32) → Int32 → Int32 → Int32 → (Nat → Int32) → (Nat → Int32) → (Nat → Int32) → Option (Int32)
  | 0, _, _, _, _, _, _, _, _, _, _, _, _, _, _ => none
  | n + 1, x1, x2, ss, was, beg, asi, sta, txt, typ, att, rea, got, row, oth => (if (31 : Int32) ≤ x2 then some (x1) else ((fX6_of (1 : Int32) x2 (0 : Int32) ss was beg asi sta txt typ att rea got row oth).bind fun r2 => (if r2 ≤ (0 : Int32) then fX6_known_b4 n (x1 + (0 : Int32)) (x2 + (1 : Int32)) ss was beg asi sta txt typ att rea got row oth else fX6_known_b4 n (x1 + (1 : Int32)) (x2 + (1 : Int32)) ss was beg asi sta txt typ att rea got row oth)))
set_option maxHeartbeats 4000000 in
set_option maxRecDepth 100000 in
theorem kX6_known_b4 {p : Program} {l : Launch} {e : Env} {s : State} {m : MethodId} {args : Array Value} {below : List Frame} {meth : Method} {c : Code} {G : gT} {a : Nat → Nat} (C0 : gX p s m args meth c cX6_known 3 (some .int) RX6 G) :
    ∀ (n : Nat) (x1 : Int32) (x2 : Int32) (ss : Nat → Int32) (was : Nat → Int32) (beg : Nat → Int32) (asi : Nat → Int32) (sta : Int32) (txt : Nat → Int32) (typ : Int32) (att : Int32) (rea : Int32) (got : Nat → Int32) (row : Nat → Int32) (oth : Nat → Int32) (u : Int32), fX6_known_b4 n x1 x2 ss was beg asi sta txt typ att rea got row oth = some u → va_P G.1 vwCl [((a 0), .inr (5, [.ref (a 1), .ref (a 2), .ref (a 3), .ref (a 4), .int sta, .ref (a 5), .int typ, .int att, .int rea, .ref (a 6), .ref (a 7), .ref (a 8)])), ((a 1), .inl (G.2.1, 411, .inl ss)), ((a 2), .inl (G.2.1, 1644, .inl was)), ((a 3), .inl (G.2.1, 411, .inl beg)), ((a 4), .inl (G.2.1, 411, .inl asi)), ((a 5), .inl (G.2.2.1, 60, .inl txt)), ((a 6), .inl (G.2.1, 4, .inl got)), ((a 7), .inl (G.2.1, 4, .inl row)), ((a 8), .inl (G.2.1, 4, .inl oth))] s.heap → ∀ ls, lv_has ls 3 [(0, .ref (a 0)), (1, .int x1), (2, .int x2)] → gV p l e (headSpec wsX6_known rmX6_known).room s m args below meth c (some (.int u)) 4 ls [] := by
  obtain ⟨hx, hb, hr, hts, hown, hlocks, hml, hK⟩ := id C0
  intro n
  induction n with
  | zero =>
    intro x1 x2 ss was beg asi sta txt typ att rea got row oth u hf hP ls hl
    have hf : (none : Option (Int32)) = some u := hf
    cases hf
  | succ n ih =>
    intro x1 x2 ss was beg asi sta txt typ att rea got row oth u hf hP ls hl
    rw [fX6_known_b4] at hf
    refine lv_iload_n hx hb dX6_known_4 rfl (lv_at hl 2 rfl) ?_
    refine lv_bipush (v := (31 : Int32)) hx hb dX6_known_5 (by decide) ?_
    refine lv_icmp_ge (tgt := 34) hx hb dX6_known_7 (by decide) (fun c1 => ?_) (fun c1 => ?_)
    · have hf := g_ifT c1 hf
      refine lv_iload_n hx hb dX6_known_34 rfl (lv_at hl 1 rfl) ?_
      cases hf
      exact g_iretR hx hb hr hlocks dX6_known_35
    · have hf := g_ifF c1 hf
      refine lv_iload_n hx hb dX6_known_10 rfl (lv_at hl 1 rfl) ?_
      refine lv_aload_n hx hb dX6_known_11 rfl (lv_at hl 0 rfl) ?_
      refine lv_iconst (v := (1 : Int32)) hx hb dX6_known_12 (by decide) ?_
      refine lv_iload_n hx hb dX6_known_13 rfl (lv_at hl 2 rfl) ?_
      refine lv_iconst (v := (0 : Int32)) hx hb dX6_known_14 (by decide) ?_
      obtain ⟨r2, e3, hf⟩ := g_bdS hf
      refine g_contR (st1 := [.int r2, .int x1]) (g_runVR (As := [.int (1 : Int32), .int x2, .int (0 : Int32)]) (rest := [.int x1]) ⟨hx, hb, hml, hown, hts⟩ (qX6_of l G a e3) (cwV 3 hts (TB_V TB_id tw_643 tw_645 tw_12 tw_54 tw_646) rfl rfl rfl (by decide +kernel) ⟨Nat.le_of_ble_eq_true rfl, Nat.le_of_ble_eq_true rfl⟩) hK (hP.sub [0, 1, 2, 3, 4, 5, 6, 7, 8] rfl) 0 rfl rfl rfl hl.1 rfl (Nat.le_of_ble_eq_true rfl) dX6_known_15) rfl ?_
      refine lv_if_le (tgt := 25) hx hb dX6_known_18 (by decide) (fun c4 => ?_) (fun c4 => ?_)
      · have hf := g_ifT c4 hf
        refine lv_iconst (v := (0 : Int32)) hx hb dX6_known_25 (by decide) ?_
        refine lv_iadd hx hb dX6_known_26 ?_
        refine lv_istore_n (lv' := [(1, .int (x1 + (0 : Int32))), (0, .ref (a 0)), (2, .int x2)]) hx hb dX6_known_27 rfl hl (by decide) rfl (fun ls hl => ?_)
        refine lv_iinc (v := (x2 + (1 : Int32))) (lv' := [(2, .int (x2 + (1 : Int32))), (1, .int (x1 + (0 : Int32))), (0, .ref (a 0))]) hx hb dX6_known_28 hl (k := 2) rfl rfl (by decide) rfl (fun ls hl => ?_)
        refine lv_goto (tgt := 4) hx hb dX6_known_31 (by decide) ?_
        exact ih _ _ _ _ _ _ _ _ _ _ _ _ _ _ _ hf hP ls (lv_sub hl [2, 1, 0] rfl)
      · have hf := g_ifF c4 hf
        refine lv_iconst (v := (1 : Int32)) hx hb dX6_known_21 (by decide) ?_
        refine lv_goto (tgt := 26) hx hb dX6_known_22 (by decide) ?_
        refine lv_iadd hx hb dX6_known_26 ?_
        refine lv_istore_n (lv' := [(1, .int (x1 + (1 : Int32))), (0, .ref (a 0)), (2, .int x2)]) hx hb dX6_known_27 rfl hl (by decide) rfl (fun ls hl => ?_)
        refine lv_iinc (v := (x2 + (1 : Int32))) (lv' := [(2, .int (x2 + (1 : Int32))), (1, .int (x1 + (1 : Int32))), (0, .ref (a 0))]) hx hb dX6_known_28 hl (k := 2) rfl rfl (by decide) rfl (fun ls hl => ?_)
        refine lv_goto (tgt := 4) hx hb dX6_known_31 (by decide) ?_
        exact ih _ _ _ _ _ _ _ _ _ _ _ _ _ _ _ hf hP ls (lv_sub hl [2, 1, 0] rfl)
def fX6_known (ss : Nat → Int32) (was : Nat → Int32) (beg : Nat → Int32) (asi : Nat → Int32) (sta : Int32) (txt : Nat → Int32) (typ : Int32) (att : Int32) (rea : Int32) (got : Nat → Int32) (row : Nat → Int32) (oth : Nat → Int32) : Option (Int32) := fX6_known_b4 2000 (0 : Int32) (0 : Int32) ss was beg asi sta txt typ att rea got row oth
set_option maxHeartbeats 4000000 in
set_option maxRecDepth 100000 in
theorem qX6_known (l : Launch) (G : gT) (a : Nat → Nat) {ss : Nat → Int32} {was : Nat → Int32} {beg : Nat → Int32} {asi : Nat → Int32} {sta : Int32} {txt : Nat → Int32} {typ : Int32} {att : Int32} {rea : Int32} {got : Nat → Int32} {row : Nat → Int32} {oth : Nat → Int32} {u : Int32} (hf : fX6_known ss was beg asi sta txt typ att rea got row oth = some u) : gR l G yX6_known wsX6_known rmX6_known [.ref (a 0)] (modW G a ss was beg asi sta txt typ att rea got row oth) (some (.int u)) := by
  refine gR.of (cc := cX6_known) (maxL := 3) (ret := (some .int)) (by decide) rfl (Nat.le_of_ble_eq_true rfl) ?_
  intro p e s m below meth c C0 hP ls hl
  obtain ⟨hx, hb, hr, hts, hown, hlocks, hml, hK⟩ := id C0
  have hl : lv_has ls 3 [(0, .ref (a 0))] := hl
  have hP : va_P G.1 vwCl [((a 0), .inr (5, [.ref (a 1), .ref (a 2), .ref (a 3), .ref (a 4), .int sta, .ref (a 5), .int typ, .int att, .int rea, .ref (a 6), .ref (a 7), .ref (a 8)])), ((a 1), .inl (G.2.1, 411, .inl ss)), ((a 2), .inl (G.2.1, 1644, .inl was)), ((a 3), .inl (G.2.1, 411, .inl beg)), ((a 4), .inl (G.2.1, 411, .inl asi)), ((a 5), .inl (G.2.2.1, 60, .inl txt)), ((a 6), .inl (G.2.1, 4, .inl got)), ((a 7), .inl (G.2.1, 4, .inl row)), ((a 8), .inl (G.2.1, 4, .inl oth))] s.heap := hP
  unfold fX6_known at hf
  refine lv_iconst (v := (0 : Int32)) hx hb dX6_known_0 (by decide) ?_
  refine lv_istore_n (lv' := [(1, .int (0 : Int32)), (0, .ref (a 0))]) hx hb dX6_known_1 rfl hl (by decide) rfl (fun ls hl => ?_)
  refine lv_iconst (v := (0 : Int32)) hx hb dX6_known_2 (by decide) ?_
  refine lv_istore_n (lv' := [(2, .int (0 : Int32)), (1, .int (0 : Int32)), (0, .ref (a 0))]) hx hb dX6_known_3 rfl hl (by decide) rfl (fun ls hl => ?_)
  exact kX6_known_b4 C0 2000 _ _ _ _ _ _ _ _ _ _ _ _ _ _ _ hf hP ls (lv_sub hl [2, 1, 0] rfl)
-- TwoShapesModel.count(I)I
abbrev rmX6_count : Room := { frames := 6, cells := 0, slots := 0, locals := 132 }
def fX6_count (p0 : Int32) (ss : Nat → Int32) (was : Nat → Int32) (beg : Nat → Int32) (asi : Nat → Int32) (sta : Int32) (txt : Nat → Int32) (typ : Int32) (att : Int32) (rea : Int32) (got : Nat → Int32) (row : Nat → Int32) (oth : Nat → Int32) : Option (Int32 × (Nat → Int32) × (Nat → Int32) × (Nat → Int32) × (Nat → Int32) × Int32 × (Nat → Int32) × Int32 × Int32 × Int32 × (Nat → Int32) × (Nat → Int32) × (Nat → Int32)) := ((if p0 = (0 : Int32) then g_gd (g_in (0 : Int32) 411) (some ((ss (0 : Int32).toNatClampNeg), ss, was, beg, asi, sta, txt, typ, att, rea, got, row, oth)) else (if p0 = (1 : Int32) then g_gd (g_in (1 : Int32) 411) (some ((ss (1 : Int32).toNatClampNeg), ss, was, beg, asi, sta, txt, typ, att, rea, got, row, oth)) else (if p0 = (2 : Int32) then g_gd (g_in (0 : Int32) 411) ((if (ss (0 : Int32).toNatClampNeg) = (1 : Int32) then g_gd (g_in (2 : Int32) 411) (some ((ss (2 : Int32).toNatClampNeg), ss, was, beg, asi, sta, txt, typ, att, rea, got, row, oth)) else some ((-1000004 : Int32), ss, was, beg, asi, sta, txt, typ, att, rea, got, row, oth))) else (if p0 = (3 : Int32) then g_gd (g_in (3 : Int32) 411) (some ((ss (3 : Int32).toNatClampNeg), ss, was, beg, asi, sta, txt, typ, att, rea, got, row, oth)) else (if p0 = (4 : Int32) then ((fX6_rows (p0 - (4 : Int32)) ss was beg asi sta txt typ att rea got row oth).bind fun r12 => some (r12, ss, was, beg, asi, sta, txt, typ, att, rea, got, row, oth)) else (if p0 = (5 : Int32) then ((fX6_rows (p0 - (4 : Int32)) ss was beg asi sta txt typ att rea got row oth).bind fun r15 => some (r15, ss, was, beg, asi, sta, txt, typ, att, rea, got, row, oth)) else (if p0 = (6 : Int32) then ((fX6_strange ss was beg asi sta txt typ att rea got row oth).bind fun r18 => some (r18, ss, was, beg, asi, sta, txt, typ, att, rea, got, row, oth)) else (if p0 = (7 : Int32) then ((fX6_known ss was beg asi sta txt typ att rea got row oth).bind fun r21 => some (r21, ss, was, beg, asi, sta, txt, typ, att, rea, got, row, oth)) else (if p0 = (8 : Int32) then ((fX6_isReady ss was beg asi sta txt typ att rea got row oth).bind fun r24 => (if r24.1 = (0 : Int32) then some ((0 : Int32), r24.2.1, r24.2.2.1, r24.2.2.2.1, r24.2.2.2.2.1, r24.2.2.2.2.2.1, r24.2.2.2.2.2.2.1, r24.2.2.2.2.2.2.2.1, r24.2.2.2.2.2.2.2.2.1, r24.2.2.2.2.2.2.2.2.2.1, r24.2.2.2.2.2.2.2.2.2.2.1, r24.2.2.2.2.2.2.2.2.2.2.2.1, r24.2.2.2.2.2.2.2.2.2.2.2.2) else some ((1 : Int32), r24.2.1, r24.2.2.1, r24.2.2.2.1, r24.2.2.2.2.1, r24.2.2.2.2.2.1, r24.2.2.2.2.2.2.1, r24.2.2.2.2.2.2.2.1, r24.2.2.2.2.2.2.2.2.1, r24.2.2.2.2.2.2.2.2.2.1, r24.2.2.2.2.2.2.2.2.2.2.1, r24.2.2.2.2.2.2.2.2.2.2.2.1, r24.2.2.2.2.2.2.2.2.2.2.2.2))) else (if p0 = (9 : Int32) then g_gd (g_in (4 : Int32) 411) (some ((ss (4 : Int32).toNatClampNeg), ss, was, beg, asi, sta, txt, typ, att, rea, got, row, oth)) else (if p0 = (10 : Int32) then g_gd (g_in (5 : Int32) 411) (g_gd (g_in (8 : Int32) 411) (g_gd (g_in (11 : Int32) 411) (some ((((ss (5 : Int32).toNatClampNeg) ||| ((ss (8 : Int32).toNatClampNeg) <<< ((1 : Int32) &&& 31))) ||| ((ss (11 : Int32).toNatClampNeg) <<< ((2 : Int32) &&& 31))), ss, was, beg, asi, sta, txt, typ, att, rea, got, row, oth)))) else (if p0 = (11 : Int32) then some (sta, ss, was, beg, asi, sta, txt, typ, att, rea, got, row, oth) else (if p0 = (12 : Int32) then some (typ, ss, was, beg, asi, sta, txt, typ, att, rea, got, row, oth) else some ((-1000001 : Int32), ss, was, beg, asi, sta, txt, typ, att, rea, got, row, oth)))))))))))))))
set_option maxHeartbeats 4000000 in
set_option maxRecDepth 100000 in
theorem qX6_count (l : Launch) (G : gT) (a : Nat → Nat) {p0 : Int32} {ss : Nat → Int32} {was : Nat → Int32} {beg : Nat → Int32} {asi : Nat → Int32} {sta : Int32} {txt : Nat → Int32} {typ : Int32} {att : Int32} {rea : Int32} {got : Nat → Int32} {row : Nat → Int32} {oth : Nat → Int32} {u : Int32 × (Nat → Int32) × (Nat → Int32) × (Nat → Int32) × (Nat → Int32) × Int32 × (Nat → Int32) × Int32 × Int32 × Int32 × (Nat → Int32) × (Nat → Int32) × (Nat → Int32)} (hf : fX6_count p0 ss was beg asi sta txt typ att rea got row oth = some u) : gC l G yX6_count wsX6_count rmX6_count [.ref (a 0), .int p0] (modW G a ss was beg asi sta txt typ att rea got row oth) (some (.int u.1)) (modW G a u.2.1 u.2.2.1 u.2.2.2.1 u.2.2.2.2.1 u.2.2.2.2.2.1 u.2.2.2.2.2.2.1 u.2.2.2.2.2.2.2.1 u.2.2.2.2.2.2.2.2.1 u.2.2.2.2.2.2.2.2.2.1 u.2.2.2.2.2.2.2.2.2.2.1 u.2.2.2.2.2.2.2.2.2.2.2.1 u.2.2.2.2.2.2.2.2.2.2.2.2) := by
  refine gC.of (cc := cX6_count) (maxL := 2) (ret := (some .int)) (by decide) rfl (Nat.le_of_ble_eq_true rfl) ?_
  intro p e s m below meth c C0 hP hD hS ls hl
  obtain ⟨hx, hb, hr, hts, hown, hlocks, hml, hK⟩ := id C0
  have hl : lv_has ls 2 [(0, .ref (a 0)), (1, .int p0)] := hl
  have hA : ∀ q : Nat, s.heap.size ≤ q → va_A (modW G a ss was beg asi sta txt typ att rea got row oth) s.heap.size q := fun q h => Or.inr h
  have hP : va_P G.1 vwCl [((a 0), .inr (5, [.ref (a 1), .ref (a 2), .ref (a 3), .ref (a 4), .int sta, .ref (a 5), .int typ, .int att, .int rea, .ref (a 6), .ref (a 7), .ref (a 8)])), ((a 1), .inl (G.2.1, 411, .inl ss)), ((a 2), .inl (G.2.1, 1644, .inl was)), ((a 3), .inl (G.2.1, 411, .inl beg)), ((a 4), .inl (G.2.1, 411, .inl asi)), ((a 5), .inl (G.2.2.1, 60, .inl txt)), ((a 6), .inl (G.2.1, 4, .inl got)), ((a 7), .inl (G.2.1, 4, .inl row)), ((a 8), .inl (G.2.1, 4, .inl oth))] s.heap := hP
  have hD : va_D (va_A (modW G a ss was beg asi sta txt typ att rea got row oth) s.heap.size) [((a 0), .inr (5, [.ref (a 1), .ref (a 2), .ref (a 3), .ref (a 4), .int sta, .ref (a 5), .int typ, .int att, .int rea, .ref (a 6), .ref (a 7), .ref (a 8)])), ((a 1), .inl (G.2.1, 411, .inl ss)), ((a 2), .inl (G.2.1, 1644, .inl was)), ((a 3), .inl (G.2.1, 411, .inl beg)), ((a 4), .inl (G.2.1, 411, .inl asi)), ((a 5), .inl (G.2.2.1, 60, .inl txt)), ((a 6), .inl (G.2.1, 4, .inl got)), ((a 7), .inl (G.2.1, 4, .inl row)), ((a 8), .inl (G.2.1, 4, .inl oth))] := hD
  unfold fX6_count at hf
  refine lv_iload_n hx hb dX6_count_0 rfl (lv_at hl 1 rfl) ?_
  by_cases c1 : p0 = (0 : Int32)
  · have hf := g_ifT c1 hf
    refine g_tsw (tgt := 68) (off := 67) hx hb dX6_count_1 (by rw [c1]; decide) (by decide) (by decide) ?_
    refine lv_aload_n hx hb dX6_count_68 rfl (lv_at hl 0 rfl) ?_
    refine va_get (D := G.1) (ci := 5) (v := .ref (a 1)) (C := RX6) (T := TX6) (N := 12) hx hb hts hX6 hown hK.1 hP 0 rfl rfl 0 (by decide) (hts _ tw_588) (fun _ h9 => h9) rfl dX6_count_69 ?_
    refine lv_iconst (v := (0 : Int32)) hx hb dX6_count_72 (by decide) ?_
    obtain ⟨g2, hf⟩ := g_gdS hf
    refine va_iald hx hb hK.1 hP 1 0 rfl rfl (g_in_vp g2) dX6_count_73 ?_
    cases hf
    exact g_iretC hx hb hr hlocks hP hD hS dX6_count_74
  have hf := g_ifF c1 hf
  by_cases c3 : p0 = (1 : Int32)
  · have hf := g_ifT c3 hf
    refine g_tsw (tgt := 75) (off := 74) hx hb dX6_count_1 (by rw [c3]; decide) (by decide) (by decide) ?_
    refine lv_aload_n hx hb dX6_count_75 rfl (lv_at hl 0 rfl) ?_
    refine va_get (D := G.1) (ci := 5) (v := .ref (a 1)) (C := RX6) (T := TX6) (N := 12) hx hb hts hX6 hown hK.1 hP 0 rfl rfl 0 (by decide) (hts _ tw_588) (fun _ h9 => h9) rfl dX6_count_76 ?_
    refine lv_iconst (v := (1 : Int32)) hx hb dX6_count_79 (by decide) ?_
    obtain ⟨g4, hf⟩ := g_gdS hf
    refine va_iald hx hb hK.1 hP 1 0 rfl rfl (g_in_vp g4) dX6_count_80 ?_
    cases hf
    exact g_iretC hx hb hr hlocks hP hD hS dX6_count_81
  have hf := g_ifF c3 hf
  by_cases c5 : p0 = (2 : Int32)
  · have hf := g_ifT c5 hf
    refine g_tsw (tgt := 82) (off := 81) hx hb dX6_count_1 (by rw [c5]; decide) (by decide) (by decide) ?_
    refine lv_aload_n hx hb dX6_count_82 rfl (lv_at hl 0 rfl) ?_
    refine va_get (D := G.1) (ci := 5) (v := .ref (a 1)) (C := RX6) (T := TX6) (N := 12) hx hb hts hX6 hown hK.1 hP 0 rfl rfl 0 (by decide) (hts _ tw_588) (fun _ h9 => h9) rfl dX6_count_83 ?_
    refine lv_iconst (v := (0 : Int32)) hx hb dX6_count_86 (by decide) ?_
    obtain ⟨g6, hf⟩ := g_gdS hf
    refine va_iald hx hb hK.1 hP 1 0 rfl rfl (g_in_vp g6) dX6_count_87 ?_
    refine lv_iconst (v := (1 : Int32)) hx hb dX6_count_88 (by decide) ?_
    refine lv_icmp_ne (tgt := 101) hx hb dX6_count_89 (by decide) (fun c7 => ?_) (fun c7 => ?_)
    · have hf := g_ifF c7 hf
      refine lv_ldc (v := (-1000004 : Int32)) hx hb hown (hts _ tw_803) dX6_count_101 ?_
      cases hf
      exact g_iretC hx hb hr hlocks hP hD hS dX6_count_103
    · have hf := g_ifT c7 hf
      refine lv_aload_n hx hb dX6_count_92 rfl (lv_at hl 0 rfl) ?_
      refine va_get (D := G.1) (ci := 5) (v := .ref (a 1)) (C := RX6) (T := TX6) (N := 12) hx hb hts hX6 hown hK.1 hP 0 rfl rfl 0 (by decide) (hts _ tw_588) (fun _ h9 => h9) rfl dX6_count_93 ?_
      refine lv_iconst (v := (2 : Int32)) hx hb dX6_count_96 (by decide) ?_
      obtain ⟨g8, hf⟩ := g_gdS hf
      refine va_iald hx hb hK.1 hP 1 0 rfl rfl (g_in_vp g8) dX6_count_97 ?_
      refine lv_goto (tgt := 103) hx hb dX6_count_98 (by decide) ?_
      cases hf
      exact g_iretC hx hb hr hlocks hP hD hS dX6_count_103
  have hf := g_ifF c5 hf
  by_cases c9 : p0 = (3 : Int32)
  · have hf := g_ifT c9 hf
    refine g_tsw (tgt := 104) (off := 103) hx hb dX6_count_1 (by rw [c9]; decide) (by decide) (by decide) ?_
    refine lv_aload_n hx hb dX6_count_104 rfl (lv_at hl 0 rfl) ?_
    refine va_get (D := G.1) (ci := 5) (v := .ref (a 1)) (C := RX6) (T := TX6) (N := 12) hx hb hts hX6 hown hK.1 hP 0 rfl rfl 0 (by decide) (hts _ tw_588) (fun _ h9 => h9) rfl dX6_count_105 ?_
    refine lv_iconst (v := (3 : Int32)) hx hb dX6_count_108 (by decide) ?_
    obtain ⟨g10, hf⟩ := g_gdS hf
    refine va_iald hx hb hK.1 hP 1 0 rfl rfl (g_in_vp g10) dX6_count_109 ?_
    cases hf
    exact g_iretC hx hb hr hlocks hP hD hS dX6_count_110
  have hf := g_ifF c9 hf
  by_cases c11 : p0 = (4 : Int32)
  · have hf := g_ifT c11 hf
    refine g_tsw (tgt := 111) (off := 110) hx hb dX6_count_1 (by rw [c11]; decide) (by decide) (by decide) ?_
    refine lv_aload_n hx hb dX6_count_111 rfl (lv_at hl 0 rfl) ?_
    refine lv_iload_n hx hb dX6_count_112 rfl (lv_at hl 1 rfl) ?_
    refine lv_iconst (v := (4 : Int32)) hx hb dX6_count_113 (by decide) ?_
    refine lv_isub hx hb dX6_count_114 ?_
    obtain ⟨r12, e13, hf⟩ := g_bdS hf
    refine g_contR (st1 := [.int r12]) (g_runVR (As := [.int (p0 - (4 : Int32))]) (rest := []) ⟨hx, hb, hml, hown, hts⟩ (qX6_rows l G a e13) (cwV 1 hts (TB_V TB_id tw_639 tw_641 tw_11 tw_54 tw_642) rfl rfl rfl (by decide +kernel) ⟨Nat.le_of_ble_eq_true rfl, Nat.le_of_ble_eq_true rfl⟩) hK (hP.sub [0, 1, 2, 3, 4, 5, 6, 7, 8] rfl) 0 rfl rfl rfl hl.1 rfl (Nat.le_of_ble_eq_true rfl) dX6_count_115) rfl ?_
    cases hf
    exact g_iretC hx hb hr hlocks hP hD hS dX6_count_118
  have hf := g_ifF c11 hf
  by_cases c14 : p0 = (5 : Int32)
  · have hf := g_ifT c14 hf
    refine g_tsw (tgt := 111) (off := 110) hx hb dX6_count_1 (by rw [c14]; decide) (by decide) (by decide) ?_
    refine lv_aload_n hx hb dX6_count_111 rfl (lv_at hl 0 rfl) ?_
    refine lv_iload_n hx hb dX6_count_112 rfl (lv_at hl 1 rfl) ?_
    refine lv_iconst (v := (4 : Int32)) hx hb dX6_count_113 (by decide) ?_
    refine lv_isub hx hb dX6_count_114 ?_
    obtain ⟨r15, e16, hf⟩ := g_bdS hf
    refine g_contR (st1 := [.int r15]) (g_runVR (As := [.int (p0 - (4 : Int32))]) (rest := []) ⟨hx, hb, hml, hown, hts⟩ (qX6_rows l G a e16) (cwV 1 hts (TB_V TB_id tw_639 tw_641 tw_11 tw_54 tw_642) rfl rfl rfl (by decide +kernel) ⟨Nat.le_of_ble_eq_true rfl, Nat.le_of_ble_eq_true rfl⟩) hK (hP.sub [0, 1, 2, 3, 4, 5, 6, 7, 8] rfl) 0 rfl rfl rfl hl.1 rfl (Nat.le_of_ble_eq_true rfl) dX6_count_115) rfl ?_
    cases hf
    exact g_iretC hx hb hr hlocks hP hD hS dX6_count_118
  have hf := g_ifF c14 hf
  by_cases c17 : p0 = (6 : Int32)
  · have hf := g_ifT c17 hf
    refine g_tsw (tgt := 119) (off := 118) hx hb dX6_count_1 (by rw [c17]; decide) (by decide) (by decide) ?_
    refine lv_aload_n hx hb dX6_count_119 rfl (lv_at hl 0 rfl) ?_
    obtain ⟨r18, e19, hf⟩ := g_bdS hf
    refine g_contR (st1 := [.int r18]) (g_runVR (As := []) (rest := []) ⟨hx, hb, hml, hown, hts⟩ (qX6_strange l G a e19) (cwV 0 hts (TB_V TB_id tw_699 tw_701 tw_22 tw_54 tw_702) rfl rfl rfl (by decide +kernel) ⟨Nat.le_of_ble_eq_true rfl, Nat.le_of_ble_eq_true rfl⟩) hK (hP.sub [0, 1, 2, 3, 4, 5, 6, 7, 8] rfl) 0 rfl rfl rfl hl.1 rfl (Nat.le_of_ble_eq_true rfl) dX6_count_120) rfl ?_
    cases hf
    exact g_iretC hx hb hr hlocks hP hD hS dX6_count_123
  have hf := g_ifF c17 hf
  by_cases c20 : p0 = (7 : Int32)
  · have hf := g_ifT c20 hf
    refine g_tsw (tgt := 124) (off := 123) hx hb dX6_count_1 (by rw [c20]; decide) (by decide) (by decide) ?_
    refine lv_aload_n hx hb dX6_count_124 rfl (lv_at hl 0 rfl) ?_
    obtain ⟨r21, e22, hf⟩ := g_bdS hf
    refine g_contR (st1 := [.int r21]) (g_runVR (As := []) (rest := []) ⟨hx, hb, hml, hown, hts⟩ (qX6_known l G a e22) (cwV 0 hts (TB_V TB_id tw_851 tw_853 tw_40 tw_54 tw_854) rfl rfl rfl (by decide +kernel) ⟨Nat.le_of_ble_eq_true rfl, Nat.le_of_ble_eq_true rfl⟩) hK (hP.sub [0, 1, 2, 3, 4, 5, 6, 7, 8] rfl) 0 rfl rfl rfl hl.1 rfl (Nat.le_of_ble_eq_true rfl) dX6_count_125) rfl ?_
    cases hf
    exact g_iretC hx hb hr hlocks hP hD hS dX6_count_128
  have hf := g_ifF c20 hf
  by_cases c23 : p0 = (8 : Int32)
  · have hf := g_ifT c23 hf
    refine g_tsw (tgt := 129) (off := 128) hx hb dX6_count_1 (by rw [c23]; decide) (by decide) (by decide) ?_
    refine lv_aload_n hx hb dX6_count_129 rfl (lv_at hl 0 rfl) ?_
    obtain ⟨r24, e25, hf⟩ := g_bdS hf
    refine g_contC (st1 := [.int r24.1]) (g_runVC (As := []) (rest := []) ⟨hx, hb, hml, hown, hts⟩ (qX6_isReady l G a e25) (cwV 0 hts (TB_V TB_id tw_663 tw_665 tw_15 tw_54 tw_666) rfl rfl rfl (by decide +kernel) ⟨Nat.le_of_ble_eq_true rfl, Nat.le_of_ble_eq_true rfl⟩) hK (hP.sub [0, 1, 2, 3, 4, 5, 6, 7, 8] rfl) (hD.sub [0, 1, 2, 3, 4, 5, 6, 7, 8] (by decide) rfl) 0 rfl rfl rfl hl.1 rfl (Nat.le_of_ble_eq_true rfl) dX6_count_130) rfl hP hD hS hA [0, 1, 2, 3, 4, 5, 6, 7, 8] rfl rfl (fun H locs hP hD hS => ?_)
    have hP : va_P G.1 vwCl [((a 0), .inr (5, [.ref (a 1), .ref (a 2), .ref (a 3), .ref (a 4), .int r24.2.2.2.2.2.1, .ref (a 5), .int r24.2.2.2.2.2.2.2.1, .int r24.2.2.2.2.2.2.2.2.1, .int r24.2.2.2.2.2.2.2.2.2.1, .ref (a 6), .ref (a 7), .ref (a 8)])), ((a 1), .inl (G.2.1, 411, .inl r24.2.1)), ((a 2), .inl (G.2.1, 1644, .inl r24.2.2.1)), ((a 3), .inl (G.2.1, 411, .inl r24.2.2.2.1)), ((a 4), .inl (G.2.1, 411, .inl r24.2.2.2.2.1)), ((a 5), .inl (G.2.2.1, 60, .inl r24.2.2.2.2.2.2.1)), ((a 6), .inl (G.2.1, 4, .inl r24.2.2.2.2.2.2.2.2.2.2.1)), ((a 7), .inl (G.2.1, 4, .inl r24.2.2.2.2.2.2.2.2.2.2.2.1)), ((a 8), .inl (G.2.1, 4, .inl r24.2.2.2.2.2.2.2.2.2.2.2.2))] H := hP
    have hD : va_D (va_A (modW G a ss was beg asi sta txt typ att rea got row oth) s.heap.size) [((a 0), .inr (5, [.ref (a 1), .ref (a 2), .ref (a 3), .ref (a 4), .int r24.2.2.2.2.2.1, .ref (a 5), .int r24.2.2.2.2.2.2.2.1, .int r24.2.2.2.2.2.2.2.2.1, .int r24.2.2.2.2.2.2.2.2.2.1, .ref (a 6), .ref (a 7), .ref (a 8)])), ((a 1), .inl (G.2.1, 411, .inl r24.2.1)), ((a 2), .inl (G.2.1, 1644, .inl r24.2.2.1)), ((a 3), .inl (G.2.1, 411, .inl r24.2.2.2.1)), ((a 4), .inl (G.2.1, 411, .inl r24.2.2.2.2.1)), ((a 5), .inl (G.2.2.1, 60, .inl r24.2.2.2.2.2.2.1)), ((a 6), .inl (G.2.1, 4, .inl r24.2.2.2.2.2.2.2.2.2.2.1)), ((a 7), .inl (G.2.1, 4, .inl r24.2.2.2.2.2.2.2.2.2.2.2.1)), ((a 8), .inl (G.2.1, 4, .inl r24.2.2.2.2.2.2.2.2.2.2.2.2))] := hD
    refine lv_if_eq (tgt := 140) hx hb dX6_count_133 (by decide) (fun c26 => ?_) (fun c26 => ?_)
    · have hf := g_ifT c26 hf
      refine lv_iconst (v := (0 : Int32)) hx hb dX6_count_140 (by decide) ?_
      cases hf
      exact g_iretC hx hb hr hlocks hP hD hS dX6_count_141
    · have hf := g_ifF c26 hf
      refine lv_iconst (v := (1 : Int32)) hx hb dX6_count_136 (by decide) ?_
      refine lv_goto (tgt := 141) hx hb dX6_count_137 (by decide) ?_
      cases hf
      exact g_iretC hx hb hr hlocks hP hD hS dX6_count_141
  have hf := g_ifF c23 hf
  by_cases c27 : p0 = (9 : Int32)
  · have hf := g_ifT c27 hf
    refine g_tsw (tgt := 142) (off := 141) hx hb dX6_count_1 (by rw [c27]; decide) (by decide) (by decide) ?_
    refine lv_aload_n hx hb dX6_count_142 rfl (lv_at hl 0 rfl) ?_
    refine va_get (D := G.1) (ci := 5) (v := .ref (a 1)) (C := RX6) (T := TX6) (N := 12) hx hb hts hX6 hown hK.1 hP 0 rfl rfl 0 (by decide) (hts _ tw_588) (fun _ h9 => h9) rfl dX6_count_143 ?_
    refine lv_iconst (v := (4 : Int32)) hx hb dX6_count_146 (by decide) ?_
    obtain ⟨g28, hf⟩ := g_gdS hf
    refine va_iald hx hb hK.1 hP 1 0 rfl rfl (g_in_vp g28) dX6_count_147 ?_
    cases hf
    exact g_iretC hx hb hr hlocks hP hD hS dX6_count_148
  have hf := g_ifF c27 hf
  by_cases c29 : p0 = (10 : Int32)
  · have hf := g_ifT c29 hf
    refine g_tsw (tgt := 149) (off := 148) hx hb dX6_count_1 (by rw [c29]; decide) (by decide) (by decide) ?_
    refine lv_aload_n hx hb dX6_count_149 rfl (lv_at hl 0 rfl) ?_
    refine va_get (D := G.1) (ci := 5) (v := .ref (a 1)) (C := RX6) (T := TX6) (N := 12) hx hb hts hX6 hown hK.1 hP 0 rfl rfl 0 (by decide) (hts _ tw_588) (fun _ h9 => h9) rfl dX6_count_150 ?_
    refine lv_iconst (v := (5 : Int32)) hx hb dX6_count_153 (by decide) ?_
    obtain ⟨g30, hf⟩ := g_gdS hf
    refine va_iald hx hb hK.1 hP 1 0 rfl rfl (g_in_vp g30) dX6_count_154 ?_
    refine lv_aload_n hx hb dX6_count_155 rfl (lv_at hl 0 rfl) ?_
    refine va_get (D := G.1) (ci := 5) (v := .ref (a 1)) (C := RX6) (T := TX6) (N := 12) hx hb hts hX6 hown hK.1 hP 0 rfl rfl 0 (by decide) (hts _ tw_588) (fun _ h9 => h9) rfl dX6_count_156 ?_
    refine lv_bipush (v := (8 : Int32)) hx hb dX6_count_159 (by decide) ?_
    obtain ⟨g31, hf⟩ := g_gdS hf
    refine va_iald hx hb hK.1 hP 1 0 rfl rfl (g_in_vp g31) dX6_count_161 ?_
    refine lv_iconst (v := (1 : Int32)) hx hb dX6_count_162 (by decide) ?_
    refine lv_ishl hx hb dX6_count_163 ?_
    refine lv_ior hx hb dX6_count_164 ?_
    refine lv_aload_n hx hb dX6_count_165 rfl (lv_at hl 0 rfl) ?_
    refine va_get (D := G.1) (ci := 5) (v := .ref (a 1)) (C := RX6) (T := TX6) (N := 12) hx hb hts hX6 hown hK.1 hP 0 rfl rfl 0 (by decide) (hts _ tw_588) (fun _ h9 => h9) rfl dX6_count_166 ?_
    refine lv_bipush (v := (11 : Int32)) hx hb dX6_count_169 (by decide) ?_
    obtain ⟨g32, hf⟩ := g_gdS hf
    refine va_iald hx hb hK.1 hP 1 0 rfl rfl (g_in_vp g32) dX6_count_171 ?_
    refine lv_iconst (v := (2 : Int32)) hx hb dX6_count_172 (by decide) ?_
    refine lv_ishl hx hb dX6_count_173 ?_
    refine lv_ior hx hb dX6_count_174 ?_
    cases hf
    exact g_iretC hx hb hr hlocks hP hD hS dX6_count_175
  have hf := g_ifF c29 hf
  by_cases c33 : p0 = (11 : Int32)
  · have hf := g_ifT c33 hf
    refine g_tsw (tgt := 176) (off := 175) hx hb dX6_count_1 (by rw [c33]; decide) (by decide) (by decide) ?_
    refine lv_aload_n hx hb dX6_count_176 rfl (lv_at hl 0 rfl) ?_
    refine va_get (D := G.1) (ci := 5) (v := .int sta) (C := RX6) (T := TX6) (N := 12) hx hb hts hX6 hown hK.1 hP 0 rfl rfl 4 (by decide) (hts _ tw_592) (fun _ h9 => h9) rfl dX6_count_177 ?_
    cases hf
    exact g_iretC hx hb hr hlocks hP hD hS dX6_count_180
  have hf := g_ifF c33 hf
  by_cases c34 : p0 = (12 : Int32)
  · have hf := g_ifT c34 hf
    refine g_tsw (tgt := 181) (off := 180) hx hb dX6_count_1 (by rw [c34]; decide) (by decide) (by decide) ?_
    refine lv_aload_n hx hb dX6_count_181 rfl (lv_at hl 0 rfl) ?_
    refine va_get (D := G.1) (ci := 5) (v := .int typ) (C := RX6) (T := TX6) (N := 12) hx hb hts hX6 hown hK.1 hP 0 rfl rfl 6 (by decide) (hts _ tw_594) (fun _ h9 => h9) rfl dX6_count_182 ?_
    cases hf
    exact g_iretC hx hb hr hlocks hP hD hS dX6_count_185
  have hf := g_ifF c34 hf
  refine g_tsw (tgt := 186) (off := 185) hx hb dX6_count_1 (g_swd (185) (0) (12) #[67, 74, 81, 103, 110, 110, 118, 123, 128, 141, 148, 175, 180] [0, 1, 2, 3, 4, 5, 6, 7, 8, 9, 10, 11, 12] (by decide) (by decide) (by simp only [List.mem_cons, List.not_mem_nil, or_false, not_or]; exact ⟨lv_neT c1 rfl, lv_neT c3 rfl, lv_neT c5 rfl, lv_neT c9 rfl, lv_neT c11 rfl, lv_neT c14 rfl, lv_neT c17 rfl, lv_neT c20 rfl, lv_neT c23 rfl, lv_neT c27 rfl, lv_neT c29 rfl, lv_neT c33 rfl, lv_neT c34 rfl⟩)) (by decide) (by decide) ?_
  refine lv_ldc (v := (-1000001 : Int32)) hx hb hown (hts _ tw_654) dX6_count_186 ?_
  cases hf
  exact g_iretC hx hb hr hlocks hP hD hS dX6_count_188
-- TwoShapesModel.undo()I
abbrev rmX6_undo : Room := { frames := 0, cells := 0, slots := 0, locals := 0 }
def fX6_undo_b22 : Nat → Int32 → (Nat → Int32) → (Nat → Int32) → (Nat → Int32) → (Nat → Int32) → Int32 → (Nat → Int32) → Int32 → Int32 → Int32 → (Nat → Int32) → (Nat → Int32) → (Nat → Int32) → Option (Int32 × (Nat → Int32) × (Nat → Int32) × (Nat → Int32) × (Nat → Int32) × Int32 × (Nat → Int32) × Int32 × Int32 × Int32 × (Nat → Int32) × (Nat → Int32) × (Nat → Int32))
  | 0, _, _, _, _, _, _, _, _, _, _, _, _, _ => none
  | n + 1, x1, ss, was, beg, asi, sta, txt, typ, att, rea, got, row, oth => (if (411 : Int32) ≤ x1 then some (sta, ss, was, beg, asi, sta, txt, typ, att, rea, got, row, oth) else g_gd (g_in (((411 : Int32) * sta) + x1) 1644) (g_gd (g_in x1 411) (fX6_undo_b22 n (x1 + (1 : Int32)) (upd ss x1.toNatClampNeg (was (((411 : Int32) * sta) + x1).toNatClampNeg)) was beg asi sta txt typ att rea got row oth)))
set_option maxHeartbeats 4000000 in
set_option maxRecDepth 100000 in
theorem kX6_undo_b22 {p : Program} {l : Launch} {e : Env} {s : State} {m : MethodId} {args : Array Value} {below : List Frame} {meth : Method} {c : Code} {G : gT} {a : Nat → Nat} {w0 : va_W} (C0 : gX p s m args meth c cX6_undo 2 (some .int) RX6 G) :
    ∀ (n : Nat) (x1 : Int32) (ss : Nat → Int32) (was : Nat → Int32) (beg : Nat → Int32) (asi : Nat → Int32) (sta : Int32) (txt : Nat → Int32) (typ : Int32) (att : Int32) (rea : Int32) (got : Nat → Int32) (row : Nat → Int32) (oth : Nat → Int32) (u : Int32 × (Nat → Int32) × (Nat → Int32) × (Nat → Int32) × (Nat → Int32) × Int32 × (Nat → Int32) × Int32 × Int32 × Int32 × (Nat → Int32) × (Nat → Int32) × (Nat → Int32)), fX6_undo_b22 n x1 ss was beg asi sta txt typ att rea got row oth = some u → ∀ (H : Heap) (locs : List Loc), va_P G.1 vwCl [((a 0), .inr (5, [.ref (a 1), .ref (a 2), .ref (a 3), .ref (a 4), .int sta, .ref (a 5), .int typ, .int att, .int rea, .ref (a 6), .ref (a 7), .ref (a 8)])), ((a 1), .inl (G.2.1, 411, .inl ss)), ((a 2), .inl (G.2.1, 1644, .inl was)), ((a 3), .inl (G.2.1, 411, .inl beg)), ((a 4), .inl (G.2.1, 411, .inl asi)), ((a 5), .inl (G.2.2.1, 60, .inl txt)), ((a 6), .inl (G.2.1, 4, .inl got)), ((a 7), .inl (G.2.1, 4, .inl row)), ((a 8), .inl (G.2.1, 4, .inl oth))] H → va_D (va_A w0 s.heap.size) [((a 0), .inr (5, [.ref (a 1), .ref (a 2), .ref (a 3), .ref (a 4), .int sta, .ref (a 5), .int typ, .int att, .int rea, .ref (a 6), .ref (a 7), .ref (a 8)])), ((a 1), .inl (G.2.1, 411, .inl ss)), ((a 2), .inl (G.2.1, 1644, .inl was)), ((a 3), .inl (G.2.1, 411, .inl beg)), ((a 4), .inl (G.2.1, 411, .inl asi)), ((a 5), .inl (G.2.2.1, 60, .inl txt)), ((a 6), .inl (G.2.1, 4, .inl got)), ((a 7), .inl (G.2.1, 4, .inl row)), ((a 8), .inl (G.2.1, 4, .inl oth))] → va_S (va_A w0 s.heap.size) s.heap H locs → ∀ ls, lv_has ls 2 [(0, .ref (a 0)), (1, .int x1)] → gW p l e (headSpec wsX6_undo rmX6_undo).room s m args below meth c G w0 (some (.int u.1)) (modW G a u.2.1 u.2.2.1 u.2.2.2.1 u.2.2.2.2.1 u.2.2.2.2.2.1 u.2.2.2.2.2.2.1 u.2.2.2.2.2.2.2.1 u.2.2.2.2.2.2.2.2.1 u.2.2.2.2.2.2.2.2.2.1 u.2.2.2.2.2.2.2.2.2.2.1 u.2.2.2.2.2.2.2.2.2.2.2.1 u.2.2.2.2.2.2.2.2.2.2.2.2) H locs 22 ls [] := by
  obtain ⟨hx, hb, hr, hts, hown, hlocks, hml, hK⟩ := id C0
  have hA : ∀ q : Nat, s.heap.size ≤ q → va_A w0 s.heap.size q := fun q h => Or.inr h
  intro n
  induction n with
  | zero =>
    intro x1 ss was beg asi sta txt typ att rea got row oth u hf H locs hP hD hS ls hl
    have hf : (none : Option (Int32 × (Nat → Int32) × (Nat → Int32) × (Nat → Int32) × (Nat → Int32) × Int32 × (Nat → Int32) × Int32 × Int32 × Int32 × (Nat → Int32) × (Nat → Int32) × (Nat → Int32))) = some u := hf
    cases hf
  | succ n ih =>
    intro x1 ss was beg asi sta txt typ att rea got row oth u hf H locs hP hD hS ls hl
    rw [fX6_undo_b22] at hf
    refine lv_iload_n hx hb dX6_undo_22 rfl (lv_at hl 1 rfl) ?_
    refine lv_sipush (v := (411 : Int32)) hx hb dX6_undo_23 (by decide) ?_
    refine lv_icmp_ge (tgt := 56) hx hb dX6_undo_26 (by decide) (fun c2 => ?_) (fun c2 => ?_)
    · have hf := g_ifT c2 hf
      refine lv_aload_n hx hb dX6_undo_56 rfl (lv_at hl 0 rfl) ?_
      refine va_get (D := G.1) (ci := 5) (v := .int sta) (C := RX6) (T := TX6) (N := 12) hx hb hts hX6 hown hK.1 hP 0 rfl rfl 4 (by decide) (hts _ tw_592) (fun _ h9 => h9) rfl dX6_undo_57 ?_
      cases hf
      exact g_iretC hx hb hr hlocks hP hD hS dX6_undo_60
    · have hf := g_ifF c2 hf
      refine lv_aload_n hx hb dX6_undo_29 rfl (lv_at hl 0 rfl) ?_
      refine va_get (D := G.1) (ci := 5) (v := .ref (a 1)) (C := RX6) (T := TX6) (N := 12) hx hb hts hX6 hown hK.1 hP 0 rfl rfl 0 (by decide) (hts _ tw_588) (fun _ h9 => h9) rfl dX6_undo_30 ?_
      refine lv_iload_n hx hb dX6_undo_33 rfl (lv_at hl 1 rfl) ?_
      refine lv_aload_n hx hb dX6_undo_34 rfl (lv_at hl 0 rfl) ?_
      refine va_get (D := G.1) (ci := 5) (v := .ref (a 2)) (C := RX6) (T := TX6) (N := 12) hx hb hts hX6 hown hK.1 hP 0 rfl rfl 1 (by decide) (hts _ tw_589) (fun _ h9 => h9) rfl dX6_undo_35 ?_
      refine lv_sipush (v := (411 : Int32)) hx hb dX6_undo_38 (by decide) ?_
      refine lv_aload_n hx hb dX6_undo_41 rfl (lv_at hl 0 rfl) ?_
      refine va_get (D := G.1) (ci := 5) (v := .int sta) (C := RX6) (T := TX6) (N := 12) hx hb hts hX6 hown hK.1 hP 0 rfl rfl 4 (by decide) (hts _ tw_592) (fun _ h9 => h9) rfl dX6_undo_42 ?_
      refine lv_imul hx hb dX6_undo_45 ?_
      refine lv_iload_n hx hb dX6_undo_46 rfl (lv_at hl 1 rfl) ?_
      refine lv_iadd hx hb dX6_undo_47 ?_
      obtain ⟨g3, hf⟩ := g_gdS hf
      refine va_iald hx hb hK.1 hP 2 0 rfl rfl (g_in_vp g3) dX6_undo_48 ?_
      obtain ⟨g4, hf⟩ := g_gdS hf
      refine va_iast hx hb hK.1 hP hD hS 1 0 rfl rfl (g_in_vp g4) dX6_undo_49 (fun H locs hP hD hS => ?_)
      have hP : va_P G.1 vwCl [((a 0), .inr (5, [.ref (a 1), .ref (a 2), .ref (a 3), .ref (a 4), .int sta, .ref (a 5), .int typ, .int att, .int rea, .ref (a 6), .ref (a 7), .ref (a 8)])), ((a 1), .inl (G.2.1, 411, .inl (upd ss x1.toNatClampNeg (was (((411 : Int32) * sta) + x1).toNatClampNeg)))), ((a 2), .inl (G.2.1, 1644, .inl was)), ((a 3), .inl (G.2.1, 411, .inl beg)), ((a 4), .inl (G.2.1, 411, .inl asi)), ((a 5), .inl (G.2.2.1, 60, .inl txt)), ((a 6), .inl (G.2.1, 4, .inl got)), ((a 7), .inl (G.2.1, 4, .inl row)), ((a 8), .inl (G.2.1, 4, .inl oth))] H := hP
      have hD : va_D (va_A w0 s.heap.size) [((a 0), .inr (5, [.ref (a 1), .ref (a 2), .ref (a 3), .ref (a 4), .int sta, .ref (a 5), .int typ, .int att, .int rea, .ref (a 6), .ref (a 7), .ref (a 8)])), ((a 1), .inl (G.2.1, 411, .inl (upd ss x1.toNatClampNeg (was (((411 : Int32) * sta) + x1).toNatClampNeg)))), ((a 2), .inl (G.2.1, 1644, .inl was)), ((a 3), .inl (G.2.1, 411, .inl beg)), ((a 4), .inl (G.2.1, 411, .inl asi)), ((a 5), .inl (G.2.2.1, 60, .inl txt)), ((a 6), .inl (G.2.1, 4, .inl got)), ((a 7), .inl (G.2.1, 4, .inl row)), ((a 8), .inl (G.2.1, 4, .inl oth))] := hD
      refine lv_iinc (v := (x1 + (1 : Int32))) (lv' := [(1, .int (x1 + (1 : Int32))), (0, .ref (a 0))]) hx hb dX6_undo_50 hl (k := 1) rfl rfl (by decide) rfl (fun ls hl => ?_)
      refine lv_goto (tgt := 22) hx hb dX6_undo_53 (by decide) ?_
      exact ih _ _ _ _ _ _ _ _ _ _ _ _ _ _ hf _ _ hP hD hS ls (lv_sub hl [1, 0] rfl)
def fX6_undo (ss : Nat → Int32) (was : Nat → Int32) (beg : Nat → Int32) (asi : Nat → Int32) (sta : Int32) (txt : Nat → Int32) (typ : Int32) (att : Int32) (rea : Int32) (got : Nat → Int32) (row : Nat → Int32) (oth : Nat → Int32) : Option (Int32 × (Nat → Int32) × (Nat → Int32) × (Nat → Int32) × (Nat → Int32) × Int32 × (Nat → Int32) × Int32 × Int32 × Int32 × (Nat → Int32) × (Nat → Int32) × (Nat → Int32)) := (if sta = (0 : Int32) then some ((-1000002 : Int32), ss, was, beg, asi, sta, txt, typ, att, rea, got, row, oth) else fX6_undo_b22 2000 (0 : Int32) ss was beg asi (sta - (1 : Int32)) txt typ att rea got row oth)
set_option maxHeartbeats 4000000 in
set_option maxRecDepth 100000 in
theorem qX6_undo (l : Launch) (G : gT) (a : Nat → Nat) {ss : Nat → Int32} {was : Nat → Int32} {beg : Nat → Int32} {asi : Nat → Int32} {sta : Int32} {txt : Nat → Int32} {typ : Int32} {att : Int32} {rea : Int32} {got : Nat → Int32} {row : Nat → Int32} {oth : Nat → Int32} {u : Int32 × (Nat → Int32) × (Nat → Int32) × (Nat → Int32) × (Nat → Int32) × Int32 × (Nat → Int32) × Int32 × Int32 × Int32 × (Nat → Int32) × (Nat → Int32) × (Nat → Int32)} (hf : fX6_undo ss was beg asi sta txt typ att rea got row oth = some u) : gC l G yX6_undo wsX6_undo rmX6_undo [.ref (a 0)] (modW G a ss was beg asi sta txt typ att rea got row oth) (some (.int u.1)) (modW G a u.2.1 u.2.2.1 u.2.2.2.1 u.2.2.2.2.1 u.2.2.2.2.2.1 u.2.2.2.2.2.2.1 u.2.2.2.2.2.2.2.1 u.2.2.2.2.2.2.2.2.1 u.2.2.2.2.2.2.2.2.2.1 u.2.2.2.2.2.2.2.2.2.2.1 u.2.2.2.2.2.2.2.2.2.2.2.1 u.2.2.2.2.2.2.2.2.2.2.2.2) := by
  refine gC.of (cc := cX6_undo) (maxL := 2) (ret := (some .int)) (by decide) rfl (Nat.le_of_ble_eq_true rfl) ?_
  intro p e s m below meth c C0 hP hD hS ls hl
  obtain ⟨hx, hb, hr, hts, hown, hlocks, hml, hK⟩ := id C0
  have hl : lv_has ls 2 [(0, .ref (a 0))] := hl
  have hA : ∀ q : Nat, s.heap.size ≤ q → va_A (modW G a ss was beg asi sta txt typ att rea got row oth) s.heap.size q := fun q h => Or.inr h
  have hP : va_P G.1 vwCl [((a 0), .inr (5, [.ref (a 1), .ref (a 2), .ref (a 3), .ref (a 4), .int sta, .ref (a 5), .int typ, .int att, .int rea, .ref (a 6), .ref (a 7), .ref (a 8)])), ((a 1), .inl (G.2.1, 411, .inl ss)), ((a 2), .inl (G.2.1, 1644, .inl was)), ((a 3), .inl (G.2.1, 411, .inl beg)), ((a 4), .inl (G.2.1, 411, .inl asi)), ((a 5), .inl (G.2.2.1, 60, .inl txt)), ((a 6), .inl (G.2.1, 4, .inl got)), ((a 7), .inl (G.2.1, 4, .inl row)), ((a 8), .inl (G.2.1, 4, .inl oth))] s.heap := hP
  have hD : va_D (va_A (modW G a ss was beg asi sta txt typ att rea got row oth) s.heap.size) [((a 0), .inr (5, [.ref (a 1), .ref (a 2), .ref (a 3), .ref (a 4), .int sta, .ref (a 5), .int typ, .int att, .int rea, .ref (a 6), .ref (a 7), .ref (a 8)])), ((a 1), .inl (G.2.1, 411, .inl ss)), ((a 2), .inl (G.2.1, 1644, .inl was)), ((a 3), .inl (G.2.1, 411, .inl beg)), ((a 4), .inl (G.2.1, 411, .inl asi)), ((a 5), .inl (G.2.2.1, 60, .inl txt)), ((a 6), .inl (G.2.1, 4, .inl got)), ((a 7), .inl (G.2.1, 4, .inl row)), ((a 8), .inl (G.2.1, 4, .inl oth))] := hD
  unfold fX6_undo at hf
  refine lv_aload_n hx hb dX6_undo_0 rfl (lv_at hl 0 rfl) ?_
  refine va_get (D := G.1) (ci := 5) (v := .int sta) (C := RX6) (T := TX6) (N := 12) hx hb hts hX6 hown hK.1 hP 0 rfl rfl 4 (by decide) (hts _ tw_592) (fun _ h9 => h9) rfl dX6_undo_1 ?_
  refine lv_if_ne (tgt := 10) hx hb dX6_undo_4 (by decide) (fun c1 => ?_) (fun c1 => ?_)
  · have hf := g_ifF c1 hf
    refine lv_aload_n hx hb dX6_undo_10 rfl (lv_at hl 0 rfl) ?_
    refine lv_dup hx hb dX6_undo_11 rfl ?_
    refine va_get (D := G.1) (ci := 5) (v := .int sta) (C := RX6) (T := TX6) (N := 12) hx hb hts hX6 hown hK.1 hP 0 rfl rfl 4 (by decide) (hts _ tw_592) (fun _ h9 => h9) rfl dX6_undo_12 ?_
    refine lv_iconst (v := (1 : Int32)) hx hb dX6_undo_15 (by decide) ?_
    refine lv_isub hx hb dX6_undo_16 ?_
    refine va_put (D := G.1) (ci := 5) (v := .int (sta - (1 : Int32))) (ty := .int) (C := RX6) (T := TX6) (N := 12) hx hb hts hX6 tyX6 tyX6_ok nmX6 hown hK.1 hP hD hS 0 rfl rfl 4 (by decide) (hts _ tw_592) (fun _ h9 => h9) rfl (by decide +kernel) rfl rfl (Nat.le_of_ble_eq_true rfl) dX6_undo_17 (fun H locs hP hD hS => ?_)
    have hP : va_P G.1 vwCl [((a 0), .inr (5, [.ref (a 1), .ref (a 2), .ref (a 3), .ref (a 4), .int (sta - (1 : Int32)), .ref (a 5), .int typ, .int att, .int rea, .ref (a 6), .ref (a 7), .ref (a 8)])), ((a 1), .inl (G.2.1, 411, .inl ss)), ((a 2), .inl (G.2.1, 1644, .inl was)), ((a 3), .inl (G.2.1, 411, .inl beg)), ((a 4), .inl (G.2.1, 411, .inl asi)), ((a 5), .inl (G.2.2.1, 60, .inl txt)), ((a 6), .inl (G.2.1, 4, .inl got)), ((a 7), .inl (G.2.1, 4, .inl row)), ((a 8), .inl (G.2.1, 4, .inl oth))] H := hP
    have hD : va_D (va_A (modW G a ss was beg asi sta txt typ att rea got row oth) s.heap.size) [((a 0), .inr (5, [.ref (a 1), .ref (a 2), .ref (a 3), .ref (a 4), .int (sta - (1 : Int32)), .ref (a 5), .int typ, .int att, .int rea, .ref (a 6), .ref (a 7), .ref (a 8)])), ((a 1), .inl (G.2.1, 411, .inl ss)), ((a 2), .inl (G.2.1, 1644, .inl was)), ((a 3), .inl (G.2.1, 411, .inl beg)), ((a 4), .inl (G.2.1, 411, .inl asi)), ((a 5), .inl (G.2.2.1, 60, .inl txt)), ((a 6), .inl (G.2.1, 4, .inl got)), ((a 7), .inl (G.2.1, 4, .inl row)), ((a 8), .inl (G.2.1, 4, .inl oth))] := hD
    refine lv_iconst (v := (0 : Int32)) hx hb dX6_undo_20 (by decide) ?_
    refine lv_istore_n (lv' := [(1, .int (0 : Int32)), (0, .ref (a 0))]) hx hb dX6_undo_21 rfl hl (by decide) rfl (fun ls hl => ?_)
    exact kX6_undo_b22 C0 2000 _ _ _ _ _ _ _ _ _ _ _ _ _ _ hf _ _ hP hD hS ls (lv_sub hl [1, 0] rfl)
  · have hf := g_ifT c1 hf
    refine lv_ldc (v := (-1000002 : Int32)) hx hb hown (hts _ tw_630) dX6_undo_7 ?_
    cases hf
    exact g_iretC hx hb hr hlocks hP hD hS dX6_undo_9
-- TwoShapesModel.type(I)I
abbrev rmX6_type : Room := { frames := 1, cells := 0, slots := 0, locals := 22 }
def fX6_type (p0 : Int32) (ss : Nat → Int32) (was : Nat → Int32) (beg : Nat → Int32) (asi : Nat → Int32) (sta : Int32) (txt : Nat → Int32) (typ : Int32) (att : Int32) (rea : Int32) (got : Nat → Int32) (row : Nat → Int32) (oth : Nat → Int32) : Option (Int32 × (Nat → Int32) × (Nat → Int32) × (Nat → Int32) × (Nat → Int32) × Int32 × (Nat → Int32) × Int32 × Int32 × Int32 × (Nat → Int32) × (Nat → Int32) × (Nat → Int32)) := ((fX6_in p0 (32 : Int32) (126 : Int32)).bind fun r1 => (if r1 = (0 : Int32) then some ((-1000001 : Int32), ss, was, beg, asi, sta, txt, typ, att, rea, got, row, oth) else (if typ = (60 : Int32) then some ((-1000003 : Int32), ss, was, beg, asi, sta, txt, typ, att, rea, got, row, oth) else g_gd (g_in typ 60) (some ((typ + (1 : Int32)), ss, was, beg, asi, sta, (upd txt typ.toNatClampNeg (vp_nar .char ((p0.toUInt32 % 65536).toInt32))), (typ + (1 : Int32)), att, rea, got, row, oth)))))
set_option maxHeartbeats 4000000 in
set_option maxRecDepth 100000 in
theorem qX6_type (l : Launch) (G : gT) (a : Nat → Nat) {p0 : Int32} {ss : Nat → Int32} {was : Nat → Int32} {beg : Nat → Int32} {asi : Nat → Int32} {sta : Int32} {txt : Nat → Int32} {typ : Int32} {att : Int32} {rea : Int32} {got : Nat → Int32} {row : Nat → Int32} {oth : Nat → Int32} {u : Int32 × (Nat → Int32) × (Nat → Int32) × (Nat → Int32) × (Nat → Int32) × Int32 × (Nat → Int32) × Int32 × Int32 × Int32 × (Nat → Int32) × (Nat → Int32) × (Nat → Int32)} (hf : fX6_type p0 ss was beg asi sta txt typ att rea got row oth = some u) : gC l G yX6_type wsX6_type rmX6_type [.ref (a 0), .int p0] (modW G a ss was beg asi sta txt typ att rea got row oth) (some (.int u.1)) (modW G a u.2.1 u.2.2.1 u.2.2.2.1 u.2.2.2.2.1 u.2.2.2.2.2.1 u.2.2.2.2.2.2.1 u.2.2.2.2.2.2.2.1 u.2.2.2.2.2.2.2.2.1 u.2.2.2.2.2.2.2.2.2.1 u.2.2.2.2.2.2.2.2.2.2.1 u.2.2.2.2.2.2.2.2.2.2.2.1 u.2.2.2.2.2.2.2.2.2.2.2.2) := by
  refine gC.of (cc := cX6_type) (maxL := 2) (ret := (some .int)) (by decide) rfl (Nat.le_of_ble_eq_true rfl) ?_
  intro p e s m below meth c C0 hP hD hS ls hl
  obtain ⟨hx, hb, hr, hts, hown, hlocks, hml, hK⟩ := id C0
  have hl : lv_has ls 2 [(0, .ref (a 0)), (1, .int p0)] := hl
  have hA : ∀ q : Nat, s.heap.size ≤ q → va_A (modW G a ss was beg asi sta txt typ att rea got row oth) s.heap.size q := fun q h => Or.inr h
  have hP : va_P G.1 vwCl [((a 0), .inr (5, [.ref (a 1), .ref (a 2), .ref (a 3), .ref (a 4), .int sta, .ref (a 5), .int typ, .int att, .int rea, .ref (a 6), .ref (a 7), .ref (a 8)])), ((a 1), .inl (G.2.1, 411, .inl ss)), ((a 2), .inl (G.2.1, 1644, .inl was)), ((a 3), .inl (G.2.1, 411, .inl beg)), ((a 4), .inl (G.2.1, 411, .inl asi)), ((a 5), .inl (G.2.2.1, 60, .inl txt)), ((a 6), .inl (G.2.1, 4, .inl got)), ((a 7), .inl (G.2.1, 4, .inl row)), ((a 8), .inl (G.2.1, 4, .inl oth))] s.heap := hP
  have hD : va_D (va_A (modW G a ss was beg asi sta txt typ att rea got row oth) s.heap.size) [((a 0), .inr (5, [.ref (a 1), .ref (a 2), .ref (a 3), .ref (a 4), .int sta, .ref (a 5), .int typ, .int att, .int rea, .ref (a 6), .ref (a 7), .ref (a 8)])), ((a 1), .inl (G.2.1, 411, .inl ss)), ((a 2), .inl (G.2.1, 1644, .inl was)), ((a 3), .inl (G.2.1, 411, .inl beg)), ((a 4), .inl (G.2.1, 411, .inl asi)), ((a 5), .inl (G.2.2.1, 60, .inl txt)), ((a 6), .inl (G.2.1, 4, .inl got)), ((a 7), .inl (G.2.1, 4, .inl row)), ((a 8), .inl (G.2.1, 4, .inl oth))] := hD
  unfold fX6_type at hf
  refine lv_iload_n hx hb dX6_type_0 rfl (lv_at hl 1 rfl) ?_
  refine lv_bipush (v := (32 : Int32)) hx hb dX6_type_1 (by decide) ?_
  refine lv_bipush (v := (126 : Int32)) hx hb dX6_type_3 (by decide) ?_
  obtain ⟨r1, e2, hf⟩ := g_bdS hf
  refine g_contR (st1 := [.int r1]) (g_runSR (As := [.int p0, .int (32 : Int32), .int (126 : Int32)]) (rest := []) ⟨hx, hb, hml, hown, hts⟩ (qX6_in l G e2) (va_cwS 3 hts (TB_S TB_id tw_714 tw_715 tw_54 tw_716) rfl rfl rfl (by decide +kernel) ⟨Nat.le_of_ble_eq_true rfl, Nat.le_of_ble_eq_true rfl⟩) hK (hP.sub [] rfl) rfl hl.1 rfl (Nat.le_of_ble_eq_true rfl) dX6_type_5) rfl ?_
  refine lv_if_ne (tgt := 14) hx hb dX6_type_8 (by decide) (fun c3 => ?_) (fun c3 => ?_)
  · have hf := g_ifF c3 hf
    refine lv_aload_n hx hb dX6_type_14 rfl (lv_at hl 0 rfl) ?_
    refine va_get (D := G.1) (ci := 5) (v := .int typ) (C := RX6) (T := TX6) (N := 12) hx hb hts hX6 hown hK.1 hP 0 rfl rfl 6 (by decide) (hts _ tw_594) (fun _ h9 => h9) rfl dX6_type_15 ?_
    refine lv_bipush (v := (60 : Int32)) hx hb dX6_type_18 (by decide) ?_
    refine lv_icmp_ne (tgt := 26) hx hb dX6_type_20 (by decide) (fun c4 => ?_) (fun c4 => ?_)
    · have hf := g_ifF c4 hf
      refine lv_aload_n hx hb dX6_type_26 rfl (lv_at hl 0 rfl) ?_
      refine va_get (D := G.1) (ci := 5) (v := .ref (a 5)) (C := RX6) (T := TX6) (N := 12) hx hb hts hX6 hown hK.1 hP 0 rfl rfl 5 (by decide) (hts _ tw_593) (fun _ h9 => h9) rfl dX6_type_27 ?_
      refine lv_aload_n hx hb dX6_type_30 rfl (lv_at hl 0 rfl) ?_
      refine va_get (D := G.1) (ci := 5) (v := .int typ) (C := RX6) (T := TX6) (N := 12) hx hb hts hX6 hown hK.1 hP 0 rfl rfl 6 (by decide) (hts _ tw_594) (fun _ h9 => h9) rfl dX6_type_31 ?_
      refine lv_iload_n hx hb dX6_type_34 rfl (lv_at hl 1 rfl) ?_
      refine lv_i2c hx hb dX6_type_35 rfl ?_
      obtain ⟨g5, hf⟩ := g_gdS hf
      refine va_cast hx hb hK.1 hP hD hS 5 1 rfl rfl (g_in_vp g5) dX6_type_36 (fun H locs hP hD hS => ?_)
      have hP : va_P G.1 vwCl [((a 0), .inr (5, [.ref (a 1), .ref (a 2), .ref (a 3), .ref (a 4), .int sta, .ref (a 5), .int typ, .int att, .int rea, .ref (a 6), .ref (a 7), .ref (a 8)])), ((a 1), .inl (G.2.1, 411, .inl ss)), ((a 2), .inl (G.2.1, 1644, .inl was)), ((a 3), .inl (G.2.1, 411, .inl beg)), ((a 4), .inl (G.2.1, 411, .inl asi)), ((a 5), .inl (G.2.2.1, 60, .inl (upd txt typ.toNatClampNeg (vp_nar .char ((p0.toUInt32 % 65536).toInt32))))), ((a 6), .inl (G.2.1, 4, .inl got)), ((a 7), .inl (G.2.1, 4, .inl row)), ((a 8), .inl (G.2.1, 4, .inl oth))] H := hP
      have hD : va_D (va_A (modW G a ss was beg asi sta txt typ att rea got row oth) s.heap.size) [((a 0), .inr (5, [.ref (a 1), .ref (a 2), .ref (a 3), .ref (a 4), .int sta, .ref (a 5), .int typ, .int att, .int rea, .ref (a 6), .ref (a 7), .ref (a 8)])), ((a 1), .inl (G.2.1, 411, .inl ss)), ((a 2), .inl (G.2.1, 1644, .inl was)), ((a 3), .inl (G.2.1, 411, .inl beg)), ((a 4), .inl (G.2.1, 411, .inl asi)), ((a 5), .inl (G.2.2.1, 60, .inl (upd txt typ.toNatClampNeg (vp_nar .char ((p0.toUInt32 % 65536).toInt32))))), ((a 6), .inl (G.2.1, 4, .inl got)), ((a 7), .inl (G.2.1, 4, .inl row)), ((a 8), .inl (G.2.1, 4, .inl oth))] := hD
      refine lv_aload_n hx hb dX6_type_37 rfl (lv_at hl 0 rfl) ?_
      refine lv_dup hx hb dX6_type_38 rfl ?_
      refine va_get (D := G.1) (ci := 5) (v := .int typ) (C := RX6) (T := TX6) (N := 12) hx hb hts hX6 hown hK.1 hP 0 rfl rfl 6 (by decide) (hts _ tw_594) (fun _ h9 => h9) rfl dX6_type_39 ?_
      refine lv_iconst (v := (1 : Int32)) hx hb dX6_type_42 (by decide) ?_
      refine lv_iadd hx hb dX6_type_43 ?_
      refine va_put (D := G.1) (ci := 5) (v := .int (typ + (1 : Int32))) (ty := .int) (C := RX6) (T := TX6) (N := 12) hx hb hts hX6 tyX6 tyX6_ok nmX6 hown hK.1 hP hD hS 0 rfl rfl 6 (by decide) (hts _ tw_594) (fun _ h9 => h9) rfl (by decide +kernel) rfl rfl (Nat.le_of_ble_eq_true rfl) dX6_type_44 (fun H locs hP hD hS => ?_)
      have hP : va_P G.1 vwCl [((a 0), .inr (5, [.ref (a 1), .ref (a 2), .ref (a 3), .ref (a 4), .int sta, .ref (a 5), .int (typ + (1 : Int32)), .int att, .int rea, .ref (a 6), .ref (a 7), .ref (a 8)])), ((a 1), .inl (G.2.1, 411, .inl ss)), ((a 2), .inl (G.2.1, 1644, .inl was)), ((a 3), .inl (G.2.1, 411, .inl beg)), ((a 4), .inl (G.2.1, 411, .inl asi)), ((a 5), .inl (G.2.2.1, 60, .inl (upd txt typ.toNatClampNeg (vp_nar .char ((p0.toUInt32 % 65536).toInt32))))), ((a 6), .inl (G.2.1, 4, .inl got)), ((a 7), .inl (G.2.1, 4, .inl row)), ((a 8), .inl (G.2.1, 4, .inl oth))] H := hP
      have hD : va_D (va_A (modW G a ss was beg asi sta txt typ att rea got row oth) s.heap.size) [((a 0), .inr (5, [.ref (a 1), .ref (a 2), .ref (a 3), .ref (a 4), .int sta, .ref (a 5), .int (typ + (1 : Int32)), .int att, .int rea, .ref (a 6), .ref (a 7), .ref (a 8)])), ((a 1), .inl (G.2.1, 411, .inl ss)), ((a 2), .inl (G.2.1, 1644, .inl was)), ((a 3), .inl (G.2.1, 411, .inl beg)), ((a 4), .inl (G.2.1, 411, .inl asi)), ((a 5), .inl (G.2.2.1, 60, .inl (upd txt typ.toNatClampNeg (vp_nar .char ((p0.toUInt32 % 65536).toInt32))))), ((a 6), .inl (G.2.1, 4, .inl got)), ((a 7), .inl (G.2.1, 4, .inl row)), ((a 8), .inl (G.2.1, 4, .inl oth))] := hD
      refine lv_aload_n hx hb dX6_type_47 rfl (lv_at hl 0 rfl) ?_
      refine va_get (D := G.1) (ci := 5) (v := .int (typ + (1 : Int32))) (C := RX6) (T := TX6) (N := 12) hx hb hts hX6 hown hK.1 hP 0 rfl rfl 6 (by decide) (hts _ tw_594) (fun _ h9 => h9) rfl dX6_type_48 ?_
      cases hf
      exact g_iretC hx hb hr hlocks hP hD hS dX6_type_51
    · have hf := g_ifT c4 hf
      refine lv_ldc (v := (-1000003 : Int32)) hx hb hown (hts _ tw_726) dX6_type_23 ?_
      cases hf
      exact g_iretC hx hb hr hlocks hP hD hS dX6_type_25
  · have hf := g_ifT c3 hf
    refine lv_ldc (v := (-1000001 : Int32)) hx hb hown (hts _ tw_654) dX6_type_11 ?_
    cases hf
    exact g_iretC hx hb hr hlocks hP hD hS dX6_type_13
-- TwoShapesModel.clearText()I
abbrev rmX6_clearText : Room := { frames := 0, cells := 0, slots := 0, locals := 0 }
def fX6_clearText (ss : Nat → Int32) (was : Nat → Int32) (beg : Nat → Int32) (asi : Nat → Int32) (sta : Int32) (txt : Nat → Int32) (typ : Int32) (att : Int32) (rea : Int32) (got : Nat → Int32) (row : Nat → Int32) (oth : Nat → Int32) : Option (Int32 × (Nat → Int32) × (Nat → Int32) × (Nat → Int32) × (Nat → Int32) × Int32 × (Nat → Int32) × Int32 × Int32 × Int32 × (Nat → Int32) × (Nat → Int32) × (Nat → Int32)) := some (typ, ss, was, beg, asi, sta, txt, (0 : Int32), att, rea, got, row, oth)
set_option maxHeartbeats 4000000 in
set_option maxRecDepth 100000 in
theorem qX6_clearText (l : Launch) (G : gT) (a : Nat → Nat) {ss : Nat → Int32} {was : Nat → Int32} {beg : Nat → Int32} {asi : Nat → Int32} {sta : Int32} {txt : Nat → Int32} {typ : Int32} {att : Int32} {rea : Int32} {got : Nat → Int32} {row : Nat → Int32} {oth : Nat → Int32} {u : Int32 × (Nat → Int32) × (Nat → Int32) × (Nat → Int32) × (Nat → Int32) × Int32 × (Nat → Int32) × Int32 × Int32 × Int32 × (Nat → Int32) × (Nat → Int32) × (Nat → Int32)} (hf : fX6_clearText ss was beg asi sta txt typ att rea got row oth = some u) : gC l G yX6_clearText wsX6_clearText rmX6_clearText [.ref (a 0)] (modW G a ss was beg asi sta txt typ att rea got row oth) (some (.int u.1)) (modW G a u.2.1 u.2.2.1 u.2.2.2.1 u.2.2.2.2.1 u.2.2.2.2.2.1 u.2.2.2.2.2.2.1 u.2.2.2.2.2.2.2.1 u.2.2.2.2.2.2.2.2.1 u.2.2.2.2.2.2.2.2.2.1 u.2.2.2.2.2.2.2.2.2.2.1 u.2.2.2.2.2.2.2.2.2.2.2.1 u.2.2.2.2.2.2.2.2.2.2.2.2) := by
  refine gC.of (cc := cX6_clearText) (maxL := 2) (ret := (some .int)) (by decide) rfl (Nat.le_of_ble_eq_true rfl) ?_
  intro p e s m below meth c C0 hP hD hS ls hl
  obtain ⟨hx, hb, hr, hts, hown, hlocks, hml, hK⟩ := id C0
  have hl : lv_has ls 2 [(0, .ref (a 0))] := hl
  have hA : ∀ q : Nat, s.heap.size ≤ q → va_A (modW G a ss was beg asi sta txt typ att rea got row oth) s.heap.size q := fun q h => Or.inr h
  have hP : va_P G.1 vwCl [((a 0), .inr (5, [.ref (a 1), .ref (a 2), .ref (a 3), .ref (a 4), .int sta, .ref (a 5), .int typ, .int att, .int rea, .ref (a 6), .ref (a 7), .ref (a 8)])), ((a 1), .inl (G.2.1, 411, .inl ss)), ((a 2), .inl (G.2.1, 1644, .inl was)), ((a 3), .inl (G.2.1, 411, .inl beg)), ((a 4), .inl (G.2.1, 411, .inl asi)), ((a 5), .inl (G.2.2.1, 60, .inl txt)), ((a 6), .inl (G.2.1, 4, .inl got)), ((a 7), .inl (G.2.1, 4, .inl row)), ((a 8), .inl (G.2.1, 4, .inl oth))] s.heap := hP
  have hD : va_D (va_A (modW G a ss was beg asi sta txt typ att rea got row oth) s.heap.size) [((a 0), .inr (5, [.ref (a 1), .ref (a 2), .ref (a 3), .ref (a 4), .int sta, .ref (a 5), .int typ, .int att, .int rea, .ref (a 6), .ref (a 7), .ref (a 8)])), ((a 1), .inl (G.2.1, 411, .inl ss)), ((a 2), .inl (G.2.1, 1644, .inl was)), ((a 3), .inl (G.2.1, 411, .inl beg)), ((a 4), .inl (G.2.1, 411, .inl asi)), ((a 5), .inl (G.2.2.1, 60, .inl txt)), ((a 6), .inl (G.2.1, 4, .inl got)), ((a 7), .inl (G.2.1, 4, .inl row)), ((a 8), .inl (G.2.1, 4, .inl oth))] := hD
  unfold fX6_clearText at hf
  refine lv_aload_n hx hb dX6_clearText_0 rfl (lv_at hl 0 rfl) ?_
  refine va_get (D := G.1) (ci := 5) (v := .int typ) (C := RX6) (T := TX6) (N := 12) hx hb hts hX6 hown hK.1 hP 0 rfl rfl 6 (by decide) (hts _ tw_594) (fun _ h9 => h9) rfl dX6_clearText_1 ?_
  refine lv_istore_n (lv' := [(1, .int typ), (0, .ref (a 0))]) hx hb dX6_clearText_4 rfl hl (by decide) rfl (fun ls hl => ?_)
  refine lv_aload_n hx hb dX6_clearText_5 rfl (lv_at hl 1 rfl) ?_
  refine lv_iconst (v := (0 : Int32)) hx hb dX6_clearText_6 (by decide) ?_
  refine va_put (D := G.1) (ci := 5) (v := .int (0 : Int32)) (ty := .int) (C := RX6) (T := TX6) (N := 12) hx hb hts hX6 tyX6 tyX6_ok nmX6 hown hK.1 hP hD hS 0 rfl rfl 6 (by decide) (hts _ tw_594) (fun _ h9 => h9) rfl (by decide +kernel) rfl rfl (Nat.le_of_ble_eq_true rfl) dX6_clearText_7 (fun H locs hP hD hS => ?_)
  have hP : va_P G.1 vwCl [((a 0), .inr (5, [.ref (a 1), .ref (a 2), .ref (a 3), .ref (a 4), .int sta, .ref (a 5), .int (0 : Int32), .int att, .int rea, .ref (a 6), .ref (a 7), .ref (a 8)])), ((a 1), .inl (G.2.1, 411, .inl ss)), ((a 2), .inl (G.2.1, 1644, .inl was)), ((a 3), .inl (G.2.1, 411, .inl beg)), ((a 4), .inl (G.2.1, 411, .inl asi)), ((a 5), .inl (G.2.2.1, 60, .inl txt)), ((a 6), .inl (G.2.1, 4, .inl got)), ((a 7), .inl (G.2.1, 4, .inl row)), ((a 8), .inl (G.2.1, 4, .inl oth))] H := hP
  have hD : va_D (va_A (modW G a ss was beg asi sta txt typ att rea got row oth) s.heap.size) [((a 0), .inr (5, [.ref (a 1), .ref (a 2), .ref (a 3), .ref (a 4), .int sta, .ref (a 5), .int (0 : Int32), .int att, .int rea, .ref (a 6), .ref (a 7), .ref (a 8)])), ((a 1), .inl (G.2.1, 411, .inl ss)), ((a 2), .inl (G.2.1, 1644, .inl was)), ((a 3), .inl (G.2.1, 411, .inl beg)), ((a 4), .inl (G.2.1, 411, .inl asi)), ((a 5), .inl (G.2.2.1, 60, .inl txt)), ((a 6), .inl (G.2.1, 4, .inl got)), ((a 7), .inl (G.2.1, 4, .inl row)), ((a 8), .inl (G.2.1, 4, .inl oth))] := hD
  refine lv_iload_n hx hb dX6_clearText_10 rfl (lv_at hl 0 rfl) ?_
  cases hf
  exact g_iretC hx hb hr hlocks hP hD hS dX6_clearText_11
-- TwoShapesModel.has(C)Z
abbrev rmX6_has : Room := { frames := 0, cells := 0, slots := 0, locals := 0 }
def fX6_has_b29 (t0 : Int32) (ss : Nat → Int32) (was : Nat → Int32) (beg : Nat → Int32) (asi : Nat → Int32) (sta : Int32) (txt : Nat → Int32) (typ : Int32) (att : Int32) (rea : Int32) (got : Nat → Int32) (row : Nat → Int32) (oth : Nat → Int32) : Option (Int32 × (Nat → Int32) × (Nat → Int32) × (Nat → Int32) × (Nat → Int32) × Int32 × (Nat → Int32) × Int32 × Int32 × Int32 × (Nat → Int32) × (Nat → Int32) × (Nat → Int32)) := (if t0 = (0 : Int32) then g_gd (g_bl t0) (some (t0, ss, was, beg, asi, sta, txt, typ, (att + (0 : Int32)), rea, got, row, oth)) else g_gd (g_bl t0) (some (t0, ss, was, beg, asi, sta, txt, typ, (att + (1 : Int32)), rea, got, row, oth)))
set_option maxHeartbeats 4000000 in
set_option maxRecDepth 100000 in
theorem kX6_has_b29 {p : Program} {l : Launch} {e : Env} {s : State} {m : MethodId} {args : Array Value} {below : List Frame} {meth : Method} {c : Code} {G : gT} {a : Nat → Nat} {w0 : va_W} (C0 : gX p s m args meth c cX6_has 3 (some .boolean) RX6 G) :
    ∀ (t0 : Int32) (ss : Nat → Int32) (was : Nat → Int32) (beg : Nat → Int32) (asi : Nat → Int32) (sta : Int32) (txt : Nat → Int32) (typ : Int32) (att : Int32) (rea : Int32) (got : Nat → Int32) (row : Nat → Int32) (oth : Nat → Int32) (u : Int32 × (Nat → Int32) × (Nat → Int32) × (Nat → Int32) × (Nat → Int32) × Int32 × (Nat → Int32) × Int32 × Int32 × Int32 × (Nat → Int32) × (Nat → Int32) × (Nat → Int32)), fX6_has_b29 t0 ss was beg asi sta txt typ att rea got row oth = some u → ∀ (H : Heap) (locs : List Loc), va_P G.1 vwCl [((a 0), .inr (5, [.ref (a 1), .ref (a 2), .ref (a 3), .ref (a 4), .int sta, .ref (a 5), .int typ, .int att, .int rea, .ref (a 6), .ref (a 7), .ref (a 8)])), ((a 1), .inl (G.2.1, 411, .inl ss)), ((a 2), .inl (G.2.1, 1644, .inl was)), ((a 3), .inl (G.2.1, 411, .inl beg)), ((a 4), .inl (G.2.1, 411, .inl asi)), ((a 5), .inl (G.2.2.1, 60, .inl txt)), ((a 6), .inl (G.2.1, 4, .inl got)), ((a 7), .inl (G.2.1, 4, .inl row)), ((a 8), .inl (G.2.1, 4, .inl oth))] H → va_D (va_A w0 s.heap.size) [((a 0), .inr (5, [.ref (a 1), .ref (a 2), .ref (a 3), .ref (a 4), .int sta, .ref (a 5), .int typ, .int att, .int rea, .ref (a 6), .ref (a 7), .ref (a 8)])), ((a 1), .inl (G.2.1, 411, .inl ss)), ((a 2), .inl (G.2.1, 1644, .inl was)), ((a 3), .inl (G.2.1, 411, .inl beg)), ((a 4), .inl (G.2.1, 411, .inl asi)), ((a 5), .inl (G.2.2.1, 60, .inl txt)), ((a 6), .inl (G.2.1, 4, .inl got)), ((a 7), .inl (G.2.1, 4, .inl row)), ((a 8), .inl (G.2.1, 4, .inl oth))] → va_S (va_A w0 s.heap.size) s.heap H locs → ∀ ls, lv_has ls 3 [(0, .ref (a 0))] → gW p l e (headSpec wsX6_has rmX6_has).room s m args below meth c G w0 (some (.int u.1)) (modW G a u.2.1 u.2.2.1 u.2.2.2.1 u.2.2.2.2.1 u.2.2.2.2.2.1 u.2.2.2.2.2.2.1 u.2.2.2.2.2.2.2.1 u.2.2.2.2.2.2.2.2.1 u.2.2.2.2.2.2.2.2.2.1 u.2.2.2.2.2.2.2.2.2.2.1 u.2.2.2.2.2.2.2.2.2.2.2.1 u.2.2.2.2.2.2.2.2.2.2.2.2) H locs 29 ls [.int t0] := by
  obtain ⟨hx, hb, hr, hts, hown, hlocks, hml, hK⟩ := id C0
  have hA : ∀ q : Nat, s.heap.size ≤ q → va_A w0 s.heap.size q := fun q h => Or.inr h
  intro t0 ss was beg asi sta txt typ att rea got row oth u hf H locs hP hD hS ls hl
  unfold fX6_has_b29 at hf
  refine lv_istore_n (lv' := [(2, .int t0), (0, .ref (a 0))]) hx hb dX6_has_29 rfl hl (by decide) rfl (fun ls hl => ?_)
  refine lv_aload_n hx hb dX6_has_30 rfl (lv_at hl 1 rfl) ?_
  refine lv_dup hx hb dX6_has_31 rfl ?_
  refine va_get (D := G.1) (ci := 5) (v := .int att) (C := RX6) (T := TX6) (N := 12) hx hb hts hX6 hown hK.1 hP 0 rfl rfl 7 (by decide) (hts _ tw_595) (fun _ h9 => h9) rfl dX6_has_32 ?_
  refine lv_iload_n hx hb dX6_has_35 rfl (lv_at hl 0 rfl) ?_
  refine lv_if_eq (tgt := 43) hx hb dX6_has_36 (by decide) (fun c2 => ?_) (fun c2 => ?_)
  · have hf := g_ifT c2 hf
    refine lv_iconst (v := (0 : Int32)) hx hb dX6_has_43 (by decide) ?_
    refine lv_iadd hx hb dX6_has_44 ?_
    refine va_put (D := G.1) (ci := 5) (v := .int (att + (0 : Int32))) (ty := .int) (C := RX6) (T := TX6) (N := 12) hx hb hts hX6 tyX6 tyX6_ok nmX6 hown hK.1 hP hD hS 0 rfl rfl 7 (by decide) (hts _ tw_595) (fun _ h9 => h9) rfl (by decide +kernel) rfl rfl (Nat.le_of_ble_eq_true rfl) dX6_has_45 (fun H locs hP hD hS => ?_)
    have hP : va_P G.1 vwCl [((a 0), .inr (5, [.ref (a 1), .ref (a 2), .ref (a 3), .ref (a 4), .int sta, .ref (a 5), .int typ, .int (att + (0 : Int32)), .int rea, .ref (a 6), .ref (a 7), .ref (a 8)])), ((a 1), .inl (G.2.1, 411, .inl ss)), ((a 2), .inl (G.2.1, 1644, .inl was)), ((a 3), .inl (G.2.1, 411, .inl beg)), ((a 4), .inl (G.2.1, 411, .inl asi)), ((a 5), .inl (G.2.2.1, 60, .inl txt)), ((a 6), .inl (G.2.1, 4, .inl got)), ((a 7), .inl (G.2.1, 4, .inl row)), ((a 8), .inl (G.2.1, 4, .inl oth))] H := hP
    have hD : va_D (va_A w0 s.heap.size) [((a 0), .inr (5, [.ref (a 1), .ref (a 2), .ref (a 3), .ref (a 4), .int sta, .ref (a 5), .int typ, .int (att + (0 : Int32)), .int rea, .ref (a 6), .ref (a 7), .ref (a 8)])), ((a 1), .inl (G.2.1, 411, .inl ss)), ((a 2), .inl (G.2.1, 1644, .inl was)), ((a 3), .inl (G.2.1, 411, .inl beg)), ((a 4), .inl (G.2.1, 411, .inl asi)), ((a 5), .inl (G.2.2.1, 60, .inl txt)), ((a 6), .inl (G.2.1, 4, .inl got)), ((a 7), .inl (G.2.1, 4, .inl row)), ((a 8), .inl (G.2.1, 4, .inl oth))] := hD
    refine lv_iload_n hx hb dX6_has_48 rfl (lv_at hl 0 rfl) ?_
    obtain ⟨g3, hf⟩ := g_gdS hf
    cases hf
    exact g_zretC hx hb hr hlocks (g_nb g3) hP hD hS dX6_has_49
  · have hf := g_ifF c2 hf
    refine lv_iconst (v := (1 : Int32)) hx hb dX6_has_39 (by decide) ?_
    refine lv_goto (tgt := 44) hx hb dX6_has_40 (by decide) ?_
    refine lv_iadd hx hb dX6_has_44 ?_
    refine va_put (D := G.1) (ci := 5) (v := .int (att + (1 : Int32))) (ty := .int) (C := RX6) (T := TX6) (N := 12) hx hb hts hX6 tyX6 tyX6_ok nmX6 hown hK.1 hP hD hS 0 rfl rfl 7 (by decide) (hts _ tw_595) (fun _ h9 => h9) rfl (by decide +kernel) rfl rfl (Nat.le_of_ble_eq_true rfl) dX6_has_45 (fun H locs hP hD hS => ?_)
    have hP : va_P G.1 vwCl [((a 0), .inr (5, [.ref (a 1), .ref (a 2), .ref (a 3), .ref (a 4), .int sta, .ref (a 5), .int typ, .int (att + (1 : Int32)), .int rea, .ref (a 6), .ref (a 7), .ref (a 8)])), ((a 1), .inl (G.2.1, 411, .inl ss)), ((a 2), .inl (G.2.1, 1644, .inl was)), ((a 3), .inl (G.2.1, 411, .inl beg)), ((a 4), .inl (G.2.1, 411, .inl asi)), ((a 5), .inl (G.2.2.1, 60, .inl txt)), ((a 6), .inl (G.2.1, 4, .inl got)), ((a 7), .inl (G.2.1, 4, .inl row)), ((a 8), .inl (G.2.1, 4, .inl oth))] H := hP
    have hD : va_D (va_A w0 s.heap.size) [((a 0), .inr (5, [.ref (a 1), .ref (a 2), .ref (a 3), .ref (a 4), .int sta, .ref (a 5), .int typ, .int (att + (1 : Int32)), .int rea, .ref (a 6), .ref (a 7), .ref (a 8)])), ((a 1), .inl (G.2.1, 411, .inl ss)), ((a 2), .inl (G.2.1, 1644, .inl was)), ((a 3), .inl (G.2.1, 411, .inl beg)), ((a 4), .inl (G.2.1, 411, .inl asi)), ((a 5), .inl (G.2.2.1, 60, .inl txt)), ((a 6), .inl (G.2.1, 4, .inl got)), ((a 7), .inl (G.2.1, 4, .inl row)), ((a 8), .inl (G.2.1, 4, .inl oth))] := hD
    refine lv_iload_n hx hb dX6_has_48 rfl (lv_at hl 0 rfl) ?_
    obtain ⟨g4, hf⟩ := g_gdS hf
    cases hf
    exact g_zretC hx hb hr hlocks (g_nb g4) hP hD hS dX6_has_49
def fX6_has_b28 (ss : Nat → Int32) (was : Nat → Int32) (beg : Nat → Int32) (asi : Nat → Int32) (sta : Int32) (txt : Nat → Int32) (typ : Int32) (att : Int32) (rea : Int32) (got : Nat → Int32) (row : Nat → Int32) (oth : Nat → Int32) : Option (Int32 × (Nat → Int32) × (Nat → Int32) × (Nat → Int32) × (Nat → Int32) × Int32 × (Nat → Int32) × Int32 × Int32 × Int32 × (Nat → Int32) × (Nat → Int32) × (Nat → Int32)) := fX6_has_b29 (0 : Int32) ss was beg asi sta txt typ att rea got row oth
set_option maxHeartbeats 4000000 in
set_option maxRecDepth 100000 in
theorem kX6_has_b28 {p : Program} {l : Launch} {e : Env} {s : State} {m : MethodId} {args : Array Value} {below : List Frame} {meth : Method} {c : Code} {G : gT} {a : Nat → Nat} {w0 : va_W} (C0 : gX p s m args meth c cX6_has 3 (some .boolean) RX6 G) :
    ∀ (ss : Nat → Int32) (was : Nat → Int32) (beg : Nat → Int32) (asi : Nat → Int32) (sta : Int32) (txt : Nat → Int32) (typ : Int32) (att : Int32) (rea : Int32) (got : Nat → Int32) (row : Nat → Int32) (oth : Nat → Int32) (u : Int32 × (Nat → Int32) × (Nat → Int32) × (Nat → Int32) × (Nat → Int32) × Int32 × (Nat → Int32) × Int32 × Int32 × Int32 × (Nat → Int32) × (Nat → Int32) × (Nat → Int32)), fX6_has_b28 ss was beg asi sta txt typ att rea got row oth = some u → ∀ (H : Heap) (locs : List Loc), va_P G.1 vwCl [((a 0), .inr (5, [.ref (a 1), .ref (a 2), .ref (a 3), .ref (a 4), .int sta, .ref (a 5), .int typ, .int att, .int rea, .ref (a 6), .ref (a 7), .ref (a 8)])), ((a 1), .inl (G.2.1, 411, .inl ss)), ((a 2), .inl (G.2.1, 1644, .inl was)), ((a 3), .inl (G.2.1, 411, .inl beg)), ((a 4), .inl (G.2.1, 411, .inl asi)), ((a 5), .inl (G.2.2.1, 60, .inl txt)), ((a 6), .inl (G.2.1, 4, .inl got)), ((a 7), .inl (G.2.1, 4, .inl row)), ((a 8), .inl (G.2.1, 4, .inl oth))] H → va_D (va_A w0 s.heap.size) [((a 0), .inr (5, [.ref (a 1), .ref (a 2), .ref (a 3), .ref (a 4), .int sta, .ref (a 5), .int typ, .int att, .int rea, .ref (a 6), .ref (a 7), .ref (a 8)])), ((a 1), .inl (G.2.1, 411, .inl ss)), ((a 2), .inl (G.2.1, 1644, .inl was)), ((a 3), .inl (G.2.1, 411, .inl beg)), ((a 4), .inl (G.2.1, 411, .inl asi)), ((a 5), .inl (G.2.2.1, 60, .inl txt)), ((a 6), .inl (G.2.1, 4, .inl got)), ((a 7), .inl (G.2.1, 4, .inl row)), ((a 8), .inl (G.2.1, 4, .inl oth))] → va_S (va_A w0 s.heap.size) s.heap H locs → ∀ ls, lv_has ls 3 [(0, .ref (a 0))] → gW p l e (headSpec wsX6_has rmX6_has).room s m args below meth c G w0 (some (.int u.1)) (modW G a u.2.1 u.2.2.1 u.2.2.2.1 u.2.2.2.2.1 u.2.2.2.2.2.1 u.2.2.2.2.2.2.1 u.2.2.2.2.2.2.2.1 u.2.2.2.2.2.2.2.2.1 u.2.2.2.2.2.2.2.2.2.1 u.2.2.2.2.2.2.2.2.2.2.1 u.2.2.2.2.2.2.2.2.2.2.2.1 u.2.2.2.2.2.2.2.2.2.2.2.2) H locs 28 ls [] := by
  obtain ⟨hx, hb, hr, hts, hown, hlocks, hml, hK⟩ := id C0
  have hA : ∀ q : Nat, s.heap.size ≤ q → va_A w0 s.heap.size q := fun q h => Or.inr h
  intro ss was beg asi sta txt typ att rea got row oth u hf H locs hP hD hS ls hl
  unfold fX6_has_b28 at hf
  refine lv_iconst (v := (0 : Int32)) hx hb dX6_has_28 (by decide) ?_
  exact kX6_has_b29 C0 _ _ _ _ _ _ _ _ _ _ _ _ _ _ hf _ _ hP hD hS ls (lv_sub hl [0] rfl)
def fX6_has (p0 : Int32) (ss : Nat → Int32) (was : Nat → Int32) (beg : Nat → Int32) (asi : Nat → Int32) (sta : Int32) (txt : Nat → Int32) (typ : Int32) (att : Int32) (rea : Int32) (got : Nat → Int32) (row : Nat → Int32) (oth : Nat → Int32) : Option (Int32 × (Nat → Int32) × (Nat → Int32) × (Nat → Int32) × (Nat → Int32) × Int32 × (Nat → Int32) × Int32 × Int32 × Int32 × (Nat → Int32) × (Nat → Int32) × (Nat → Int32)) := (if typ ≤ att then fX6_has_b28 ss was beg asi sta txt typ att rea got row oth else g_gd (g_in att 60) ((if (txt att.toNatClampNeg) = p0 then fX6_has_b29 (1 : Int32) ss was beg asi sta txt typ att rea got row oth else fX6_has_b28 ss was beg asi sta txt typ att rea got row oth)))
set_option maxHeartbeats 4000000 in
set_option maxRecDepth 100000 in
theorem qX6_has (l : Launch) (G : gT) (a : Nat → Nat) {p0 : Int32} {ss : Nat → Int32} {was : Nat → Int32} {beg : Nat → Int32} {asi : Nat → Int32} {sta : Int32} {txt : Nat → Int32} {typ : Int32} {att : Int32} {rea : Int32} {got : Nat → Int32} {row : Nat → Int32} {oth : Nat → Int32} {u : Int32 × (Nat → Int32) × (Nat → Int32) × (Nat → Int32) × (Nat → Int32) × Int32 × (Nat → Int32) × Int32 × Int32 × Int32 × (Nat → Int32) × (Nat → Int32) × (Nat → Int32)} (hf : fX6_has p0 ss was beg asi sta txt typ att rea got row oth = some u) : gC l G yX6_has wsX6_has rmX6_has [.ref (a 0), .int p0] (modW G a ss was beg asi sta txt typ att rea got row oth) (some (.int u.1)) (modW G a u.2.1 u.2.2.1 u.2.2.2.1 u.2.2.2.2.1 u.2.2.2.2.2.1 u.2.2.2.2.2.2.1 u.2.2.2.2.2.2.2.1 u.2.2.2.2.2.2.2.2.1 u.2.2.2.2.2.2.2.2.2.1 u.2.2.2.2.2.2.2.2.2.2.1 u.2.2.2.2.2.2.2.2.2.2.2.1 u.2.2.2.2.2.2.2.2.2.2.2.2) := by
  refine gC.of (cc := cX6_has) (maxL := 3) (ret := (some .boolean)) (by decide) rfl (Nat.le_of_ble_eq_true rfl) ?_
  intro p e s m below meth c C0 hP hD hS ls hl
  obtain ⟨hx, hb, hr, hts, hown, hlocks, hml, hK⟩ := id C0
  have hl : lv_has ls 3 [(0, .ref (a 0)), (1, .int p0)] := hl
  have hA : ∀ q : Nat, s.heap.size ≤ q → va_A (modW G a ss was beg asi sta txt typ att rea got row oth) s.heap.size q := fun q h => Or.inr h
  have hP : va_P G.1 vwCl [((a 0), .inr (5, [.ref (a 1), .ref (a 2), .ref (a 3), .ref (a 4), .int sta, .ref (a 5), .int typ, .int att, .int rea, .ref (a 6), .ref (a 7), .ref (a 8)])), ((a 1), .inl (G.2.1, 411, .inl ss)), ((a 2), .inl (G.2.1, 1644, .inl was)), ((a 3), .inl (G.2.1, 411, .inl beg)), ((a 4), .inl (G.2.1, 411, .inl asi)), ((a 5), .inl (G.2.2.1, 60, .inl txt)), ((a 6), .inl (G.2.1, 4, .inl got)), ((a 7), .inl (G.2.1, 4, .inl row)), ((a 8), .inl (G.2.1, 4, .inl oth))] s.heap := hP
  have hD : va_D (va_A (modW G a ss was beg asi sta txt typ att rea got row oth) s.heap.size) [((a 0), .inr (5, [.ref (a 1), .ref (a 2), .ref (a 3), .ref (a 4), .int sta, .ref (a 5), .int typ, .int att, .int rea, .ref (a 6), .ref (a 7), .ref (a 8)])), ((a 1), .inl (G.2.1, 411, .inl ss)), ((a 2), .inl (G.2.1, 1644, .inl was)), ((a 3), .inl (G.2.1, 411, .inl beg)), ((a 4), .inl (G.2.1, 411, .inl asi)), ((a 5), .inl (G.2.2.1, 60, .inl txt)), ((a 6), .inl (G.2.1, 4, .inl got)), ((a 7), .inl (G.2.1, 4, .inl row)), ((a 8), .inl (G.2.1, 4, .inl oth))] := hD
  unfold fX6_has at hf
  refine lv_aload_n hx hb dX6_has_0 rfl (lv_at hl 0 rfl) ?_
  refine va_get (D := G.1) (ci := 5) (v := .int att) (C := RX6) (T := TX6) (N := 12) hx hb hts hX6 hown hK.1 hP 0 rfl rfl 7 (by decide) (hts _ tw_595) (fun _ h9 => h9) rfl dX6_has_1 ?_
  refine lv_aload_n hx hb dX6_has_4 rfl (lv_at hl 0 rfl) ?_
  refine va_get (D := G.1) (ci := 5) (v := .int typ) (C := RX6) (T := TX6) (N := 12) hx hb hts hX6 hown hK.1 hP 0 rfl rfl 6 (by decide) (hts _ tw_594) (fun _ h9 => h9) rfl dX6_has_5 ?_
  refine lv_icmp_ge (tgt := 28) hx hb dX6_has_8 (by decide) (fun c1 => ?_) (fun c1 => ?_)
  · have hf := g_ifT c1 hf
    exact kX6_has_b28 C0 _ _ _ _ _ _ _ _ _ _ _ _ _ hf _ _ hP hD hS ls (lv_sub hl [0] rfl)
  · have hf := g_ifF c1 hf
    refine lv_aload_n hx hb dX6_has_11 rfl (lv_at hl 0 rfl) ?_
    refine va_get (D := G.1) (ci := 5) (v := .ref (a 5)) (C := RX6) (T := TX6) (N := 12) hx hb hts hX6 hown hK.1 hP 0 rfl rfl 5 (by decide) (hts _ tw_593) (fun _ h9 => h9) rfl dX6_has_12 ?_
    refine lv_aload_n hx hb dX6_has_15 rfl (lv_at hl 0 rfl) ?_
    refine va_get (D := G.1) (ci := 5) (v := .int att) (C := RX6) (T := TX6) (N := 12) hx hb hts hX6 hown hK.1 hP 0 rfl rfl 7 (by decide) (hts _ tw_595) (fun _ h9 => h9) rfl dX6_has_16 ?_
    obtain ⟨g5, hf⟩ := g_gdS hf
    refine va_cald hx hb hK.1 hP 5 1 rfl rfl (g_in_vp g5) dX6_has_19 ?_
    refine lv_iload_n hx hb dX6_has_20 rfl (lv_at hl 1 rfl) ?_
    refine lv_icmp_ne (tgt := 28) hx hb dX6_has_21 (by decide) (fun c6 => ?_) (fun c6 => ?_)
    · have hf := g_ifF c6 hf
      exact kX6_has_b28 C0 _ _ _ _ _ _ _ _ _ _ _ _ _ hf _ _ hP hD hS ls (lv_sub hl [0] rfl)
    · have hf := g_ifT c6 hf
      refine lv_iconst (v := (1 : Int32)) hx hb dX6_has_24 (by decide) ?_
      refine lv_goto (tgt := 29) hx hb dX6_has_25 (by decide) ?_
      exact kX6_has_b29 C0 _ _ _ _ _ _ _ _ _ _ _ _ _ _ hf _ _ hP hD hS ls (lv_sub hl [0] rfl)
-- TwoShapesModel.number(I)Z
abbrev rmX6_number : Room := { frames := 1, cells := 0, slots := 0, locals := 22 }
def fX6_number_b93 (x2 : Int32) (ss : Nat → Int32) (was : Nat → Int32) (beg : Nat → Int32) (asi : Nat → Int32) (sta : Int32) (txt : Nat → Int32) (typ : Int32) (att : Int32) (rea : Int32) (got : Nat → Int32) (row : Nat → Int32) (oth : Nat → Int32) : Option (Int32 × (Nat → Int32) × (Nat → Int32) × (Nat → Int32) × (Nat → Int32) × Int32 × (Nat → Int32) × Int32 × Int32 × Int32 × (Nat → Int32) × (Nat → Int32) × (Nat → Int32)) := (if att ≤ x2 then some ((0 : Int32), ss, was, beg, asi, sta, txt, typ, att, rea, got, row, oth) else some ((1 : Int32), ss, was, beg, asi, sta, txt, typ, att, rea, got, row, oth))
set_option maxHeartbeats 4000000 in
set_option maxRecDepth 100000 in
theorem kX6_number_b93 {p : Program} {l : Launch} {e : Env} {s : State} {m : MethodId} {args : Array Value} {below : List Frame} {meth : Method} {c : Code} {G : gT} {a : Nat → Nat} {w0 : va_W} (C0 : gX p s m args meth c cX6_number 3 (some .boolean) RX6 G) :
    ∀ (x2 : Int32) (ss : Nat → Int32) (was : Nat → Int32) (beg : Nat → Int32) (asi : Nat → Int32) (sta : Int32) (txt : Nat → Int32) (typ : Int32) (att : Int32) (rea : Int32) (got : Nat → Int32) (row : Nat → Int32) (oth : Nat → Int32) (u : Int32 × (Nat → Int32) × (Nat → Int32) × (Nat → Int32) × (Nat → Int32) × Int32 × (Nat → Int32) × Int32 × Int32 × Int32 × (Nat → Int32) × (Nat → Int32) × (Nat → Int32)), fX6_number_b93 x2 ss was beg asi sta txt typ att rea got row oth = some u → ∀ (H : Heap) (locs : List Loc), va_P G.1 vwCl [((a 0), .inr (5, [.ref (a 1), .ref (a 2), .ref (a 3), .ref (a 4), .int sta, .ref (a 5), .int typ, .int att, .int rea, .ref (a 6), .ref (a 7), .ref (a 8)])), ((a 1), .inl (G.2.1, 411, .inl ss)), ((a 2), .inl (G.2.1, 1644, .inl was)), ((a 3), .inl (G.2.1, 411, .inl beg)), ((a 4), .inl (G.2.1, 411, .inl asi)), ((a 5), .inl (G.2.2.1, 60, .inl txt)), ((a 6), .inl (G.2.1, 4, .inl got)), ((a 7), .inl (G.2.1, 4, .inl row)), ((a 8), .inl (G.2.1, 4, .inl oth))] H → va_D (va_A w0 s.heap.size) [((a 0), .inr (5, [.ref (a 1), .ref (a 2), .ref (a 3), .ref (a 4), .int sta, .ref (a 5), .int typ, .int att, .int rea, .ref (a 6), .ref (a 7), .ref (a 8)])), ((a 1), .inl (G.2.1, 411, .inl ss)), ((a 2), .inl (G.2.1, 1644, .inl was)), ((a 3), .inl (G.2.1, 411, .inl beg)), ((a 4), .inl (G.2.1, 411, .inl asi)), ((a 5), .inl (G.2.2.1, 60, .inl txt)), ((a 6), .inl (G.2.1, 4, .inl got)), ((a 7), .inl (G.2.1, 4, .inl row)), ((a 8), .inl (G.2.1, 4, .inl oth))] → va_S (va_A w0 s.heap.size) s.heap H locs → ∀ ls, lv_has ls 3 [(0, .ref (a 0)), (2, .int x2)] → gW p l e (headSpec wsX6_number rmX6_number).room s m args below meth c G w0 (some (.int u.1)) (modW G a u.2.1 u.2.2.1 u.2.2.2.1 u.2.2.2.2.1 u.2.2.2.2.2.1 u.2.2.2.2.2.2.1 u.2.2.2.2.2.2.2.1 u.2.2.2.2.2.2.2.2.1 u.2.2.2.2.2.2.2.2.2.1 u.2.2.2.2.2.2.2.2.2.2.1 u.2.2.2.2.2.2.2.2.2.2.2.1 u.2.2.2.2.2.2.2.2.2.2.2.2) H locs 93 ls [] := by
  obtain ⟨hx, hb, hr, hts, hown, hlocks, hml, hK⟩ := id C0
  have hA : ∀ q : Nat, s.heap.size ≤ q → va_A w0 s.heap.size q := fun q h => Or.inr h
  intro x2 ss was beg asi sta txt typ att rea got row oth u hf H locs hP hD hS ls hl
  unfold fX6_number_b93 at hf
  refine lv_aload_n hx hb dX6_number_93 rfl (lv_at hl 0 rfl) ?_
  refine va_get (D := G.1) (ci := 5) (v := .int att) (C := RX6) (T := TX6) (N := 12) hx hb hts hX6 hown hK.1 hP 0 rfl rfl 7 (by decide) (hts _ tw_595) (fun _ h9 => h9) rfl dX6_number_94 ?_
  refine lv_iload_n hx hb dX6_number_97 rfl (lv_at hl 1 rfl) ?_
  refine lv_icmp_le (tgt := 105) hx hb dX6_number_98 (by decide) (fun c3 => ?_) (fun c3 => ?_)
  · have hf := g_ifT c3 hf
    refine lv_iconst (v := (0 : Int32)) hx hb dX6_number_105 (by decide) ?_
    cases hf
    exact g_zretC hx hb hr hlocks g_nb0 hP hD hS dX6_number_106
  · have hf := g_ifF c3 hf
    refine lv_iconst (v := (1 : Int32)) hx hb dX6_number_101 (by decide) ?_
    refine lv_goto (tgt := 106) hx hb dX6_number_102 (by decide) ?_
    cases hf
    exact g_zretC hx hb hr hlocks g_nb1 hP hD hS dX6_number_106
def fX6_number_b12 : Nat → Int32 → Int32 → (Nat → Int32) → (Nat → Int32) → (Nat → Int32) → (Nat → Int32) → Int32 → (Nat → Int32) → Int32 → Int32 → Int32 → (Nat → Int32) → (Nat → Int32) → (Nat → Int32) → Option (Int32 × (Nat → Int32) × (Nat → Int32) × (Nat → Int32) × (Nat → Int32) × Int32 × (Nat → Int32) × Int32 × Int32 × Int32 × (Nat → Int32) × (Nat → Int32) × (Nat → Int32))
  | 0, _, _, _, _, _, _, _, _, _, _, _, _, _, _ => none
  | n + 1, x1, x2, ss, was, beg, asi, sta, txt, typ, att, rea, got, row, oth => (if typ ≤ att then fX6_number_b93 x2 ss was beg asi sta txt typ att rea got row oth else (if (x2 + (3 : Int32)) ≤ att then fX6_number_b93 x2 ss was beg asi sta txt typ att rea got row oth else g_gd (g_in att 60) (((fX6_in (txt att.toNatClampNeg) (48 : Int32) (57 : Int32)).bind fun r6 => (if r6 = (0 : Int32) then fX6_number_b93 x2 ss was beg asi sta txt typ att rea got row oth else g_gd (g_in x1 4) (g_gd (g_in att 60) (g_gd (g_in x1 4) (fX6_number_b12 n x1 x2 ss was beg asi sta txt typ (att + (1 : Int32)) rea (upd got x1.toNatClampNeg ((((10 : Int32) * (got x1.toNatClampNeg)) + (txt att.toNatClampNeg)) - (48 : Int32))) row oth))))))))
set_option maxHeartbeats 4000000 in
set_option maxRecDepth 100000 in
theorem kX6_number_b12 {p : Program} {l : Launch} {e : Env} {s : State} {m : MethodId} {args : Array Value} {below : List Frame} {meth : Method} {c : Code} {G : gT} {a : Nat → Nat} {w0 : va_W} (C0 : gX p s m args meth c cX6_number 3 (some .boolean) RX6 G) :
    ∀ (n : Nat) (x1 : Int32) (x2 : Int32) (ss : Nat → Int32) (was : Nat → Int32) (beg : Nat → Int32) (asi : Nat → Int32) (sta : Int32) (txt : Nat → Int32) (typ : Int32) (att : Int32) (rea : Int32) (got : Nat → Int32) (row : Nat → Int32) (oth : Nat → Int32) (u : Int32 × (Nat → Int32) × (Nat → Int32) × (Nat → Int32) × (Nat → Int32) × Int32 × (Nat → Int32) × Int32 × Int32 × Int32 × (Nat → Int32) × (Nat → Int32) × (Nat → Int32)), fX6_number_b12 n x1 x2 ss was beg asi sta txt typ att rea got row oth = some u → ∀ (H : Heap) (locs : List Loc), va_P G.1 vwCl [((a 0), .inr (5, [.ref (a 1), .ref (a 2), .ref (a 3), .ref (a 4), .int sta, .ref (a 5), .int typ, .int att, .int rea, .ref (a 6), .ref (a 7), .ref (a 8)])), ((a 1), .inl (G.2.1, 411, .inl ss)), ((a 2), .inl (G.2.1, 1644, .inl was)), ((a 3), .inl (G.2.1, 411, .inl beg)), ((a 4), .inl (G.2.1, 411, .inl asi)), ((a 5), .inl (G.2.2.1, 60, .inl txt)), ((a 6), .inl (G.2.1, 4, .inl got)), ((a 7), .inl (G.2.1, 4, .inl row)), ((a 8), .inl (G.2.1, 4, .inl oth))] H → va_D (va_A w0 s.heap.size) [((a 0), .inr (5, [.ref (a 1), .ref (a 2), .ref (a 3), .ref (a 4), .int sta, .ref (a 5), .int typ, .int att, .int rea, .ref (a 6), .ref (a 7), .ref (a 8)])), ((a 1), .inl (G.2.1, 411, .inl ss)), ((a 2), .inl (G.2.1, 1644, .inl was)), ((a 3), .inl (G.2.1, 411, .inl beg)), ((a 4), .inl (G.2.1, 411, .inl asi)), ((a 5), .inl (G.2.2.1, 60, .inl txt)), ((a 6), .inl (G.2.1, 4, .inl got)), ((a 7), .inl (G.2.1, 4, .inl row)), ((a 8), .inl (G.2.1, 4, .inl oth))] → va_S (va_A w0 s.heap.size) s.heap H locs → ∀ ls, lv_has ls 3 [(0, .ref (a 0)), (1, .int x1), (2, .int x2)] → gW p l e (headSpec wsX6_number rmX6_number).room s m args below meth c G w0 (some (.int u.1)) (modW G a u.2.1 u.2.2.1 u.2.2.2.1 u.2.2.2.2.1 u.2.2.2.2.2.1 u.2.2.2.2.2.2.1 u.2.2.2.2.2.2.2.1 u.2.2.2.2.2.2.2.2.1 u.2.2.2.2.2.2.2.2.2.1 u.2.2.2.2.2.2.2.2.2.2.1 u.2.2.2.2.2.2.2.2.2.2.2.1 u.2.2.2.2.2.2.2.2.2.2.2.2) H locs 12 ls [] := by
  obtain ⟨hx, hb, hr, hts, hown, hlocks, hml, hK⟩ := id C0
  have hA : ∀ q : Nat, s.heap.size ≤ q → va_A w0 s.heap.size q := fun q h => Or.inr h
  intro n
  induction n with
  | zero =>
    intro x1 x2 ss was beg asi sta txt typ att rea got row oth u hf H locs hP hD hS ls hl
    have hf : (none : Option (Int32 × (Nat → Int32) × (Nat → Int32) × (Nat → Int32) × (Nat → Int32) × Int32 × (Nat → Int32) × Int32 × Int32 × Int32 × (Nat → Int32) × (Nat → Int32) × (Nat → Int32))) = some u := hf
    cases hf
  | succ n ih =>
    intro x1 x2 ss was beg asi sta txt typ att rea got row oth u hf H locs hP hD hS ls hl
    rw [fX6_number_b12] at hf
    refine lv_aload_n hx hb dX6_number_12 rfl (lv_at hl 0 rfl) ?_
    refine va_get (D := G.1) (ci := 5) (v := .int att) (C := RX6) (T := TX6) (N := 12) hx hb hts hX6 hown hK.1 hP 0 rfl rfl 7 (by decide) (hts _ tw_595) (fun _ h9 => h9) rfl dX6_number_13 ?_
    refine lv_aload_n hx hb dX6_number_16 rfl (lv_at hl 0 rfl) ?_
    refine va_get (D := G.1) (ci := 5) (v := .int typ) (C := RX6) (T := TX6) (N := 12) hx hb hts hX6 hown hK.1 hP 0 rfl rfl 6 (by decide) (hts _ tw_594) (fun _ h9 => h9) rfl dX6_number_17 ?_
    refine lv_icmp_ge (tgt := 93) hx hb dX6_number_20 (by decide) (fun c2 => ?_) (fun c2 => ?_)
    · have hf := g_ifT c2 hf
      exact kX6_number_b93 C0 _ _ _ _ _ _ _ _ _ _ _ _ _ _ hf _ _ hP hD hS ls (lv_sub hl [0, 2] rfl)
    · have hf := g_ifF c2 hf
      refine lv_aload_n hx hb dX6_number_23 rfl (lv_at hl 0 rfl) ?_
      refine va_get (D := G.1) (ci := 5) (v := .int att) (C := RX6) (T := TX6) (N := 12) hx hb hts hX6 hown hK.1 hP 0 rfl rfl 7 (by decide) (hts _ tw_595) (fun _ h9 => h9) rfl dX6_number_24 ?_
      refine lv_iload_n hx hb dX6_number_27 rfl (lv_at hl 2 rfl) ?_
      refine lv_iconst (v := (3 : Int32)) hx hb dX6_number_28 (by decide) ?_
      refine lv_iadd hx hb dX6_number_29 ?_
      refine lv_icmp_ge (tgt := 93) hx hb dX6_number_30 (by decide) (fun c4 => ?_) (fun c4 => ?_)
      · have hf := g_ifT c4 hf
        exact kX6_number_b93 C0 _ _ _ _ _ _ _ _ _ _ _ _ _ _ hf _ _ hP hD hS ls (lv_sub hl [0, 2] rfl)
      · have hf := g_ifF c4 hf
        refine lv_aload_n hx hb dX6_number_33 rfl (lv_at hl 0 rfl) ?_
        refine va_get (D := G.1) (ci := 5) (v := .ref (a 5)) (C := RX6) (T := TX6) (N := 12) hx hb hts hX6 hown hK.1 hP 0 rfl rfl 5 (by decide) (hts _ tw_593) (fun _ h9 => h9) rfl dX6_number_34 ?_
        refine lv_aload_n hx hb dX6_number_37 rfl (lv_at hl 0 rfl) ?_
        refine va_get (D := G.1) (ci := 5) (v := .int att) (C := RX6) (T := TX6) (N := 12) hx hb hts hX6 hown hK.1 hP 0 rfl rfl 7 (by decide) (hts _ tw_595) (fun _ h9 => h9) rfl dX6_number_38 ?_
        obtain ⟨g5, hf⟩ := g_gdS hf
        refine va_cald hx hb hK.1 hP 5 1 rfl rfl (g_in_vp g5) dX6_number_41 ?_
        refine lv_bipush (v := (48 : Int32)) hx hb dX6_number_42 (by decide) ?_
        refine lv_bipush (v := (57 : Int32)) hx hb dX6_number_44 (by decide) ?_
        obtain ⟨r6, e7, hf⟩ := g_bdS hf
        refine g_contR (st1 := [.int r6]) (g_runSR (As := [.int (txt att.toNatClampNeg), .int (48 : Int32), .int (57 : Int32)]) (rest := []) ⟨hx, hb, hml, hown, hts⟩ (qX6_in l G e7) (va_cwS 3 hts (TB_S TB_id tw_714 tw_715 tw_54 tw_716) rfl rfl rfl (by decide +kernel) ⟨Nat.le_of_ble_eq_true rfl, Nat.le_of_ble_eq_true rfl⟩) hK (hP.sub [] rfl) rfl hl.1 rfl (Nat.le_of_ble_eq_true rfl) dX6_number_46) rfl ?_
        refine lv_if_eq (tgt := 93) hx hb dX6_number_49 (by decide) (fun c8 => ?_) (fun c8 => ?_)
        · have hf := g_ifT c8 hf
          exact kX6_number_b93 C0 _ _ _ _ _ _ _ _ _ _ _ _ _ _ hf _ _ hP hD hS ls (lv_sub hl [0, 2] rfl)
        · have hf := g_ifF c8 hf
          refine lv_aload_n hx hb dX6_number_52 rfl (lv_at hl 0 rfl) ?_
          refine va_get (D := G.1) (ci := 5) (v := .ref (a 6)) (C := RX6) (T := TX6) (N := 12) hx hb hts hX6 hown hK.1 hP 0 rfl rfl 9 (by decide) (hts _ tw_597) (fun _ h9 => h9) rfl dX6_number_53 ?_
          refine lv_iload_n hx hb dX6_number_56 rfl (lv_at hl 1 rfl) ?_
          refine lv_bipush (v := (10 : Int32)) hx hb dX6_number_57 (by decide) ?_
          refine lv_aload_n hx hb dX6_number_59 rfl (lv_at hl 0 rfl) ?_
          refine va_get (D := G.1) (ci := 5) (v := .ref (a 6)) (C := RX6) (T := TX6) (N := 12) hx hb hts hX6 hown hK.1 hP 0 rfl rfl 9 (by decide) (hts _ tw_597) (fun _ h9 => h9) rfl dX6_number_60 ?_
          refine lv_iload_n hx hb dX6_number_63 rfl (lv_at hl 1 rfl) ?_
          obtain ⟨g9, hf⟩ := g_gdS hf
          refine va_iald hx hb hK.1 hP 6 0 rfl rfl (g_in_vp g9) dX6_number_64 ?_
          refine lv_imul hx hb dX6_number_65 ?_
          refine lv_aload_n hx hb dX6_number_66 rfl (lv_at hl 0 rfl) ?_
          refine va_get (D := G.1) (ci := 5) (v := .ref (a 5)) (C := RX6) (T := TX6) (N := 12) hx hb hts hX6 hown hK.1 hP 0 rfl rfl 5 (by decide) (hts _ tw_593) (fun _ h9 => h9) rfl dX6_number_67 ?_
          refine lv_aload_n hx hb dX6_number_70 rfl (lv_at hl 0 rfl) ?_
          refine va_get (D := G.1) (ci := 5) (v := .int att) (C := RX6) (T := TX6) (N := 12) hx hb hts hX6 hown hK.1 hP 0 rfl rfl 7 (by decide) (hts _ tw_595) (fun _ h9 => h9) rfl dX6_number_71 ?_
          obtain ⟨g10, hf⟩ := g_gdS hf
          refine va_cald hx hb hK.1 hP 5 1 rfl rfl (g_in_vp g10) dX6_number_74 ?_
          refine lv_iadd hx hb dX6_number_75 ?_
          refine lv_bipush (v := (48 : Int32)) hx hb dX6_number_76 (by decide) ?_
          refine lv_isub hx hb dX6_number_78 ?_
          obtain ⟨g11, hf⟩ := g_gdS hf
          refine va_iast hx hb hK.1 hP hD hS 6 0 rfl rfl (g_in_vp g11) dX6_number_79 (fun H locs hP hD hS => ?_)
          have hP : va_P G.1 vwCl [((a 0), .inr (5, [.ref (a 1), .ref (a 2), .ref (a 3), .ref (a 4), .int sta, .ref (a 5), .int typ, .int att, .int rea, .ref (a 6), .ref (a 7), .ref (a 8)])), ((a 1), .inl (G.2.1, 411, .inl ss)), ((a 2), .inl (G.2.1, 1644, .inl was)), ((a 3), .inl (G.2.1, 411, .inl beg)), ((a 4), .inl (G.2.1, 411, .inl asi)), ((a 5), .inl (G.2.2.1, 60, .inl txt)), ((a 6), .inl (G.2.1, 4, .inl (upd got x1.toNatClampNeg ((((10 : Int32) * (got x1.toNatClampNeg)) + (txt att.toNatClampNeg)) - (48 : Int32))))), ((a 7), .inl (G.2.1, 4, .inl row)), ((a 8), .inl (G.2.1, 4, .inl oth))] H := hP
          have hD : va_D (va_A w0 s.heap.size) [((a 0), .inr (5, [.ref (a 1), .ref (a 2), .ref (a 3), .ref (a 4), .int sta, .ref (a 5), .int typ, .int att, .int rea, .ref (a 6), .ref (a 7), .ref (a 8)])), ((a 1), .inl (G.2.1, 411, .inl ss)), ((a 2), .inl (G.2.1, 1644, .inl was)), ((a 3), .inl (G.2.1, 411, .inl beg)), ((a 4), .inl (G.2.1, 411, .inl asi)), ((a 5), .inl (G.2.2.1, 60, .inl txt)), ((a 6), .inl (G.2.1, 4, .inl (upd got x1.toNatClampNeg ((((10 : Int32) * (got x1.toNatClampNeg)) + (txt att.toNatClampNeg)) - (48 : Int32))))), ((a 7), .inl (G.2.1, 4, .inl row)), ((a 8), .inl (G.2.1, 4, .inl oth))] := hD
          refine lv_aload_n hx hb dX6_number_80 rfl (lv_at hl 0 rfl) ?_
          refine lv_dup hx hb dX6_number_81 rfl ?_
          refine va_get (D := G.1) (ci := 5) (v := .int att) (C := RX6) (T := TX6) (N := 12) hx hb hts hX6 hown hK.1 hP 0 rfl rfl 7 (by decide) (hts _ tw_595) (fun _ h9 => h9) rfl dX6_number_82 ?_
          refine lv_iconst (v := (1 : Int32)) hx hb dX6_number_85 (by decide) ?_
          refine lv_iadd hx hb dX6_number_86 ?_
          refine va_put (D := G.1) (ci := 5) (v := .int (att + (1 : Int32))) (ty := .int) (C := RX6) (T := TX6) (N := 12) hx hb hts hX6 tyX6 tyX6_ok nmX6 hown hK.1 hP hD hS 0 rfl rfl 7 (by decide) (hts _ tw_595) (fun _ h9 => h9) rfl (by decide +kernel) rfl rfl (Nat.le_of_ble_eq_true rfl) dX6_number_87 (fun H locs hP hD hS => ?_)
          have hP : va_P G.1 vwCl [((a 0), .inr (5, [.ref (a 1), .ref (a 2), .ref (a 3), .ref (a 4), .int sta, .ref (a 5), .int typ, .int (att + (1 : Int32)), .int rea, .ref (a 6), .ref (a 7), .ref (a 8)])), ((a 1), .inl (G.2.1, 411, .inl ss)), ((a 2), .inl (G.2.1, 1644, .inl was)), ((a 3), .inl (G.2.1, 411, .inl beg)), ((a 4), .inl (G.2.1, 411, .inl asi)), ((a 5), .inl (G.2.2.1, 60, .inl txt)), ((a 6), .inl (G.2.1, 4, .inl (upd got x1.toNatClampNeg ((((10 : Int32) * (got x1.toNatClampNeg)) + (txt att.toNatClampNeg)) - (48 : Int32))))), ((a 7), .inl (G.2.1, 4, .inl row)), ((a 8), .inl (G.2.1, 4, .inl oth))] H := hP
          have hD : va_D (va_A w0 s.heap.size) [((a 0), .inr (5, [.ref (a 1), .ref (a 2), .ref (a 3), .ref (a 4), .int sta, .ref (a 5), .int typ, .int (att + (1 : Int32)), .int rea, .ref (a 6), .ref (a 7), .ref (a 8)])), ((a 1), .inl (G.2.1, 411, .inl ss)), ((a 2), .inl (G.2.1, 1644, .inl was)), ((a 3), .inl (G.2.1, 411, .inl beg)), ((a 4), .inl (G.2.1, 411, .inl asi)), ((a 5), .inl (G.2.2.1, 60, .inl txt)), ((a 6), .inl (G.2.1, 4, .inl (upd got x1.toNatClampNeg ((((10 : Int32) * (got x1.toNatClampNeg)) + (txt att.toNatClampNeg)) - (48 : Int32))))), ((a 7), .inl (G.2.1, 4, .inl row)), ((a 8), .inl (G.2.1, 4, .inl oth))] := hD
          refine lv_goto (tgt := 12) hx hb dX6_number_90 (by decide) ?_
          exact ih _ _ _ _ _ _ _ _ _ _ _ _ _ _ _ hf _ _ hP hD hS ls (lv_sub hl [0, 1, 2] rfl)
def fX6_number (p0 : Int32) (ss : Nat → Int32) (was : Nat → Int32) (beg : Nat → Int32) (asi : Nat → Int32) (sta : Int32) (txt : Nat → Int32) (typ : Int32) (att : Int32) (rea : Int32) (got : Nat → Int32) (row : Nat → Int32) (oth : Nat → Int32) : Option (Int32 × (Nat → Int32) × (Nat → Int32) × (Nat → Int32) × (Nat → Int32) × Int32 × (Nat → Int32) × Int32 × Int32 × Int32 × (Nat → Int32) × (Nat → Int32) × (Nat → Int32)) := g_gd (g_in p0 4) (fX6_number_b12 2000 p0 att ss was beg asi sta txt typ att rea (upd got p0.toNatClampNeg (0 : Int32)) row oth)
set_option maxHeartbeats 4000000 in
set_option maxRecDepth 100000 in
theorem qX6_number (l : Launch) (G : gT) (a : Nat → Nat) {p0 : Int32} {ss : Nat → Int32} {was : Nat → Int32} {beg : Nat → Int32} {asi : Nat → Int32} {sta : Int32} {txt : Nat → Int32} {typ : Int32} {att : Int32} {rea : Int32} {got : Nat → Int32} {row : Nat → Int32} {oth : Nat → Int32} {u : Int32 × (Nat → Int32) × (Nat → Int32) × (Nat → Int32) × (Nat → Int32) × Int32 × (Nat → Int32) × Int32 × Int32 × Int32 × (Nat → Int32) × (Nat → Int32) × (Nat → Int32)} (hf : fX6_number p0 ss was beg asi sta txt typ att rea got row oth = some u) : gC l G yX6_number wsX6_number rmX6_number [.ref (a 0), .int p0] (modW G a ss was beg asi sta txt typ att rea got row oth) (some (.int u.1)) (modW G a u.2.1 u.2.2.1 u.2.2.2.1 u.2.2.2.2.1 u.2.2.2.2.2.1 u.2.2.2.2.2.2.1 u.2.2.2.2.2.2.2.1 u.2.2.2.2.2.2.2.2.1 u.2.2.2.2.2.2.2.2.2.1 u.2.2.2.2.2.2.2.2.2.2.1 u.2.2.2.2.2.2.2.2.2.2.2.1 u.2.2.2.2.2.2.2.2.2.2.2.2) := by
  refine gC.of (cc := cX6_number) (maxL := 3) (ret := (some .boolean)) (by decide) rfl (Nat.le_of_ble_eq_true rfl) ?_
  intro p e s m below meth c C0 hP hD hS ls hl
  obtain ⟨hx, hb, hr, hts, hown, hlocks, hml, hK⟩ := id C0
  have hl : lv_has ls 3 [(0, .ref (a 0)), (1, .int p0)] := hl
  have hA : ∀ q : Nat, s.heap.size ≤ q → va_A (modW G a ss was beg asi sta txt typ att rea got row oth) s.heap.size q := fun q h => Or.inr h
  have hP : va_P G.1 vwCl [((a 0), .inr (5, [.ref (a 1), .ref (a 2), .ref (a 3), .ref (a 4), .int sta, .ref (a 5), .int typ, .int att, .int rea, .ref (a 6), .ref (a 7), .ref (a 8)])), ((a 1), .inl (G.2.1, 411, .inl ss)), ((a 2), .inl (G.2.1, 1644, .inl was)), ((a 3), .inl (G.2.1, 411, .inl beg)), ((a 4), .inl (G.2.1, 411, .inl asi)), ((a 5), .inl (G.2.2.1, 60, .inl txt)), ((a 6), .inl (G.2.1, 4, .inl got)), ((a 7), .inl (G.2.1, 4, .inl row)), ((a 8), .inl (G.2.1, 4, .inl oth))] s.heap := hP
  have hD : va_D (va_A (modW G a ss was beg asi sta txt typ att rea got row oth) s.heap.size) [((a 0), .inr (5, [.ref (a 1), .ref (a 2), .ref (a 3), .ref (a 4), .int sta, .ref (a 5), .int typ, .int att, .int rea, .ref (a 6), .ref (a 7), .ref (a 8)])), ((a 1), .inl (G.2.1, 411, .inl ss)), ((a 2), .inl (G.2.1, 1644, .inl was)), ((a 3), .inl (G.2.1, 411, .inl beg)), ((a 4), .inl (G.2.1, 411, .inl asi)), ((a 5), .inl (G.2.2.1, 60, .inl txt)), ((a 6), .inl (G.2.1, 4, .inl got)), ((a 7), .inl (G.2.1, 4, .inl row)), ((a 8), .inl (G.2.1, 4, .inl oth))] := hD
  unfold fX6_number at hf
  refine lv_aload_n hx hb dX6_number_0 rfl (lv_at hl 0 rfl) ?_
  refine va_get (D := G.1) (ci := 5) (v := .int att) (C := RX6) (T := TX6) (N := 12) hx hb hts hX6 hown hK.1 hP 0 rfl rfl 7 (by decide) (hts _ tw_595) (fun _ h9 => h9) rfl dX6_number_1 ?_
  refine lv_istore_n (lv' := [(2, .int att), (0, .ref (a 0)), (1, .int p0)]) hx hb dX6_number_4 rfl hl (by decide) rfl (fun ls hl => ?_)
  refine lv_aload_n hx hb dX6_number_5 rfl (lv_at hl 1 rfl) ?_
  refine va_get (D := G.1) (ci := 5) (v := .ref (a 6)) (C := RX6) (T := TX6) (N := 12) hx hb hts hX6 hown hK.1 hP 0 rfl rfl 9 (by decide) (hts _ tw_597) (fun _ h9 => h9) rfl dX6_number_6 ?_
  refine lv_iload_n hx hb dX6_number_9 rfl (lv_at hl 2 rfl) ?_
  refine lv_iconst (v := (0 : Int32)) hx hb dX6_number_10 (by decide) ?_
  obtain ⟨g1, hf⟩ := g_gdS hf
  refine va_iast hx hb hK.1 hP hD hS 6 0 rfl rfl (g_in_vp g1) dX6_number_11 (fun H locs hP hD hS => ?_)
  have hP : va_P G.1 vwCl [((a 0), .inr (5, [.ref (a 1), .ref (a 2), .ref (a 3), .ref (a 4), .int sta, .ref (a 5), .int typ, .int att, .int rea, .ref (a 6), .ref (a 7), .ref (a 8)])), ((a 1), .inl (G.2.1, 411, .inl ss)), ((a 2), .inl (G.2.1, 1644, .inl was)), ((a 3), .inl (G.2.1, 411, .inl beg)), ((a 4), .inl (G.2.1, 411, .inl asi)), ((a 5), .inl (G.2.2.1, 60, .inl txt)), ((a 6), .inl (G.2.1, 4, .inl (upd got p0.toNatClampNeg (0 : Int32)))), ((a 7), .inl (G.2.1, 4, .inl row)), ((a 8), .inl (G.2.1, 4, .inl oth))] H := hP
  have hD : va_D (va_A (modW G a ss was beg asi sta txt typ att rea got row oth) s.heap.size) [((a 0), .inr (5, [.ref (a 1), .ref (a 2), .ref (a 3), .ref (a 4), .int sta, .ref (a 5), .int typ, .int att, .int rea, .ref (a 6), .ref (a 7), .ref (a 8)])), ((a 1), .inl (G.2.1, 411, .inl ss)), ((a 2), .inl (G.2.1, 1644, .inl was)), ((a 3), .inl (G.2.1, 411, .inl beg)), ((a 4), .inl (G.2.1, 411, .inl asi)), ((a 5), .inl (G.2.2.1, 60, .inl txt)), ((a 6), .inl (G.2.1, 4, .inl (upd got p0.toNatClampNeg (0 : Int32)))), ((a 7), .inl (G.2.1, 4, .inl row)), ((a 8), .inl (G.2.1, 4, .inl oth))] := hD
  exact kX6_number_b12 C0 2000 _ _ _ _ _ _ _ _ _ _ _ _ _ _ _ hf _ _ hP hD hS ls (lv_sub hl [1, 2, 0] rfl)
-- TwoShapesModel.readsForm(C)Z
abbrev rmX6_readsForm : Room := { frames := 2, cells := 0, slots := 0, locals := 44 }
def fX6_readsForm_b124 (x3 : Int32) (ss : Nat → Int32) (was : Nat → Int32) (beg : Nat → Int32) (asi : Nat → Int32) (sta : Int32) (txt : Nat → Int32) (typ : Int32) (att : Int32) (rea : Int32) (got : Nat → Int32) (row : Nat → Int32) (oth : Nat → Int32) : Option (Int32 × (Nat → Int32) × (Nat → Int32) × (Nat → Int32) × (Nat → Int32) × Int32 × (Nat → Int32) × Int32 × Int32 × Int32 × (Nat → Int32) × (Nat → Int32) × (Nat → Int32)) := (if x3 = (0 : Int32) then some ((0 : Int32), ss, was, beg, asi, sta, txt, typ, att, rea, got, row, oth) else ((fX6_has (59 : Int32) ss was beg asi sta txt typ att rea got row oth).bind fun r7 => (if r7.1 = (0 : Int32) then some ((0 : Int32), r7.2.1, r7.2.2.1, r7.2.2.2.1, r7.2.2.2.2.1, r7.2.2.2.2.2.1, r7.2.2.2.2.2.2.1, r7.2.2.2.2.2.2.2.1, r7.2.2.2.2.2.2.2.2.1, r7.2.2.2.2.2.2.2.2.2.1, r7.2.2.2.2.2.2.2.2.2.2.1, r7.2.2.2.2.2.2.2.2.2.2.2.1, r7.2.2.2.2.2.2.2.2.2.2.2.2) else some ((1 : Int32), r7.2.1, r7.2.2.1, r7.2.2.2.1, r7.2.2.2.2.1, r7.2.2.2.2.2.1, r7.2.2.2.2.2.2.1, r7.2.2.2.2.2.2.2.1, r7.2.2.2.2.2.2.2.2.1, r7.2.2.2.2.2.2.2.2.2.1, r7.2.2.2.2.2.2.2.2.2.2.1, r7.2.2.2.2.2.2.2.2.2.2.2.1, r7.2.2.2.2.2.2.2.2.2.2.2.2))))
set_option maxHeartbeats 4000000 in
set_option maxRecDepth 100000 in
theorem kX6_readsForm_b124 {p : Program} {l : Launch} {e : Env} {s : State} {m : MethodId} {args : Array Value} {below : List Frame} {meth : Method} {c : Code} {G : gT} {a : Nat → Nat} {w0 : va_W} (C0 : gX p s m args meth c cX6_readsForm 5 (some .boolean) RX6 G) :
    ∀ (x3 : Int32) (ss : Nat → Int32) (was : Nat → Int32) (beg : Nat → Int32) (asi : Nat → Int32) (sta : Int32) (txt : Nat → Int32) (typ : Int32) (att : Int32) (rea : Int32) (got : Nat → Int32) (row : Nat → Int32) (oth : Nat → Int32) (u : Int32 × (Nat → Int32) × (Nat → Int32) × (Nat → Int32) × (Nat → Int32) × Int32 × (Nat → Int32) × Int32 × Int32 × Int32 × (Nat → Int32) × (Nat → Int32) × (Nat → Int32)), fX6_readsForm_b124 x3 ss was beg asi sta txt typ att rea got row oth = some u → ∀ (H : Heap) (locs : List Loc), va_P G.1 vwCl [((a 0), .inr (5, [.ref (a 1), .ref (a 2), .ref (a 3), .ref (a 4), .int sta, .ref (a 5), .int typ, .int att, .int rea, .ref (a 6), .ref (a 7), .ref (a 8)])), ((a 1), .inl (G.2.1, 411, .inl ss)), ((a 2), .inl (G.2.1, 1644, .inl was)), ((a 3), .inl (G.2.1, 411, .inl beg)), ((a 4), .inl (G.2.1, 411, .inl asi)), ((a 5), .inl (G.2.2.1, 60, .inl txt)), ((a 6), .inl (G.2.1, 4, .inl got)), ((a 7), .inl (G.2.1, 4, .inl row)), ((a 8), .inl (G.2.1, 4, .inl oth))] H → va_D (va_A w0 s.heap.size) [((a 0), .inr (5, [.ref (a 1), .ref (a 2), .ref (a 3), .ref (a 4), .int sta, .ref (a 5), .int typ, .int att, .int rea, .ref (a 6), .ref (a 7), .ref (a 8)])), ((a 1), .inl (G.2.1, 411, .inl ss)), ((a 2), .inl (G.2.1, 1644, .inl was)), ((a 3), .inl (G.2.1, 411, .inl beg)), ((a 4), .inl (G.2.1, 411, .inl asi)), ((a 5), .inl (G.2.2.1, 60, .inl txt)), ((a 6), .inl (G.2.1, 4, .inl got)), ((a 7), .inl (G.2.1, 4, .inl row)), ((a 8), .inl (G.2.1, 4, .inl oth))] → va_S (va_A w0 s.heap.size) s.heap H locs → ∀ ls, lv_has ls 5 [(0, .ref (a 0)), (3, .int x3)] → gW p l e (headSpec wsX6_readsForm rmX6_readsForm).room s m args below meth c G w0 (some (.int u.1)) (modW G a u.2.1 u.2.2.1 u.2.2.2.1 u.2.2.2.2.1 u.2.2.2.2.2.1 u.2.2.2.2.2.2.1 u.2.2.2.2.2.2.2.1 u.2.2.2.2.2.2.2.2.1 u.2.2.2.2.2.2.2.2.2.1 u.2.2.2.2.2.2.2.2.2.2.1 u.2.2.2.2.2.2.2.2.2.2.2.1 u.2.2.2.2.2.2.2.2.2.2.2.2) H locs 124 ls [] := by
  obtain ⟨hx, hb, hr, hts, hown, hlocks, hml, hK⟩ := id C0
  have hA : ∀ q : Nat, s.heap.size ≤ q → va_A w0 s.heap.size q := fun q h => Or.inr h
  intro x3 ss was beg asi sta txt typ att rea got row oth u hf H locs hP hD hS ls hl
  unfold fX6_readsForm_b124 at hf
  refine lv_iload_n hx hb dX6_readsForm_124 rfl (lv_at hl 1 rfl) ?_
  refine lv_if_eq (tgt := 141) hx hb dX6_readsForm_125 (by decide) (fun c6 => ?_) (fun c6 => ?_)
  · have hf := g_ifT c6 hf
    refine lv_iconst (v := (0 : Int32)) hx hb dX6_readsForm_141 (by decide) ?_
    cases hf
    exact g_zretC hx hb hr hlocks g_nb0 hP hD hS dX6_readsForm_142
  · have hf := g_ifF c6 hf
    refine lv_aload_n hx hb dX6_readsForm_128 rfl (lv_at hl 0 rfl) ?_
    refine lv_bipush (v := (59 : Int32)) hx hb dX6_readsForm_129 (by decide) ?_
    obtain ⟨r7, e8, hf⟩ := g_bdS hf
    refine g_contC (st1 := [.int r7.1]) (g_runVC (As := [.int (59 : Int32)]) (rest := []) ⟨hx, hb, hml, hown, hts⟩ (qX6_has l G a e8) (cwV 1 hts (TB_V TB_id tw_883 tw_885 tw_44 tw_54 tw_886) rfl rfl rfl (by decide +kernel) ⟨Nat.le_of_ble_eq_true rfl, Nat.le_of_ble_eq_true rfl⟩) hK (hP.sub [0, 1, 2, 3, 4, 5, 6, 7, 8] rfl) (hD.sub [0, 1, 2, 3, 4, 5, 6, 7, 8] (by decide) rfl) 0 rfl rfl rfl hl.1 rfl (Nat.le_of_ble_eq_true rfl) dX6_readsForm_131) rfl hP hD hS hA [0, 1, 2, 3, 4, 5, 6, 7, 8] rfl rfl (fun H locs hP hD hS => ?_)
    have hP : va_P G.1 vwCl [((a 0), .inr (5, [.ref (a 1), .ref (a 2), .ref (a 3), .ref (a 4), .int r7.2.2.2.2.2.1, .ref (a 5), .int r7.2.2.2.2.2.2.2.1, .int r7.2.2.2.2.2.2.2.2.1, .int r7.2.2.2.2.2.2.2.2.2.1, .ref (a 6), .ref (a 7), .ref (a 8)])), ((a 1), .inl (G.2.1, 411, .inl r7.2.1)), ((a 2), .inl (G.2.1, 1644, .inl r7.2.2.1)), ((a 3), .inl (G.2.1, 411, .inl r7.2.2.2.1)), ((a 4), .inl (G.2.1, 411, .inl r7.2.2.2.2.1)), ((a 5), .inl (G.2.2.1, 60, .inl r7.2.2.2.2.2.2.1)), ((a 6), .inl (G.2.1, 4, .inl r7.2.2.2.2.2.2.2.2.2.2.1)), ((a 7), .inl (G.2.1, 4, .inl r7.2.2.2.2.2.2.2.2.2.2.2.1)), ((a 8), .inl (G.2.1, 4, .inl r7.2.2.2.2.2.2.2.2.2.2.2.2))] H := hP
    have hD : va_D (va_A w0 s.heap.size) [((a 0), .inr (5, [.ref (a 1), .ref (a 2), .ref (a 3), .ref (a 4), .int r7.2.2.2.2.2.1, .ref (a 5), .int r7.2.2.2.2.2.2.2.1, .int r7.2.2.2.2.2.2.2.2.1, .int r7.2.2.2.2.2.2.2.2.2.1, .ref (a 6), .ref (a 7), .ref (a 8)])), ((a 1), .inl (G.2.1, 411, .inl r7.2.1)), ((a 2), .inl (G.2.1, 1644, .inl r7.2.2.1)), ((a 3), .inl (G.2.1, 411, .inl r7.2.2.2.1)), ((a 4), .inl (G.2.1, 411, .inl r7.2.2.2.2.1)), ((a 5), .inl (G.2.2.1, 60, .inl r7.2.2.2.2.2.2.1)), ((a 6), .inl (G.2.1, 4, .inl r7.2.2.2.2.2.2.2.2.2.2.1)), ((a 7), .inl (G.2.1, 4, .inl r7.2.2.2.2.2.2.2.2.2.2.2.1)), ((a 8), .inl (G.2.1, 4, .inl r7.2.2.2.2.2.2.2.2.2.2.2.2))] := hD
    refine lv_if_eq (tgt := 141) hx hb dX6_readsForm_134 (by decide) (fun c9 => ?_) (fun c9 => ?_)
    · have hf := g_ifT c9 hf
      refine lv_iconst (v := (0 : Int32)) hx hb dX6_readsForm_141 (by decide) ?_
      cases hf
      exact g_zretC hx hb hr hlocks g_nb0 hP hD hS dX6_readsForm_142
    · have hf := g_ifF c9 hf
      refine lv_iconst (v := (1 : Int32)) hx hb dX6_readsForm_137 (by decide) ?_
      refine lv_goto (tgt := 142) hx hb dX6_readsForm_138 (by decide) ?_
      cases hf
      exact g_zretC hx hb hr hlocks g_nb1 hP hD hS dX6_readsForm_142
def fX6_readsForm_b79 : Nat → Int32 → Int32 → Int32 → (Nat → Int32) → (Nat → Int32) → (Nat → Int32) → (Nat → Int32) → Int32 → (Nat → Int32) → Int32 → Int32 → Int32 → (Nat → Int32) → (Nat → Int32) → (Nat → Int32) → Option (Int32 × (Nat → Int32) × (Nat → Int32) × (Nat → Int32) × (Nat → Int32) × Int32 × (Nat → Int32) × Int32 × Int32 × Int32 × (Nat → Int32) × (Nat → Int32) × (Nat → Int32))
  | 0, _, _, _, _, _, _, _, _, _, _, _, _, _, _, _ => none
  | n + 1, x2, x3, x4, ss, was, beg, asi, sta, txt, typ, att, rea, got, row, oth => (if x2 ≤ x4 then fX6_readsForm_b124 x3 ss was beg asi sta txt typ att rea got row oth else (if x3 = (0 : Int32) then fX6_readsForm_b124 x3 ss was beg asi sta txt typ att rea got row oth else (if x4 = (0 : Int32) then ((fX6_number x4 ss was beg asi sta txt typ att rea got row oth).bind fun r12 => (if r12.1 = (0 : Int32) then fX6_readsForm_b79 n x2 (0 : Int32) (x4 + (1 : Int32)) r12.2.1 r12.2.2.1 r12.2.2.2.1 r12.2.2.2.2.1 r12.2.2.2.2.2.1 r12.2.2.2.2.2.2.1 r12.2.2.2.2.2.2.2.1 r12.2.2.2.2.2.2.2.2.1 r12.2.2.2.2.2.2.2.2.2.1 r12.2.2.2.2.2.2.2.2.2.2.1 r12.2.2.2.2.2.2.2.2.2.2.2.1 r12.2.2.2.2.2.2.2.2.2.2.2.2 else fX6_readsForm_b79 n x2 (1 : Int32) (x4 + (1 : Int32)) r12.2.1 r12.2.2.1 r12.2.2.2.1 r12.2.2.2.2.1 r12.2.2.2.2.2.1 r12.2.2.2.2.2.2.1 r12.2.2.2.2.2.2.2.1 r12.2.2.2.2.2.2.2.2.1 r12.2.2.2.2.2.2.2.2.2.1 r12.2.2.2.2.2.2.2.2.2.2.1 r12.2.2.2.2.2.2.2.2.2.2.2.1 r12.2.2.2.2.2.2.2.2.2.2.2.2)) else ((fX6_has (44 : Int32) ss was beg asi sta txt typ att rea got row oth).bind fun r15 => (if r15.1 = (0 : Int32) then fX6_readsForm_b79 n x2 (0 : Int32) (x4 + (1 : Int32)) r15.2.1 r15.2.2.1 r15.2.2.2.1 r15.2.2.2.2.1 r15.2.2.2.2.2.1 r15.2.2.2.2.2.2.1 r15.2.2.2.2.2.2.2.1 r15.2.2.2.2.2.2.2.2.1 r15.2.2.2.2.2.2.2.2.2.1 r15.2.2.2.2.2.2.2.2.2.2.1 r15.2.2.2.2.2.2.2.2.2.2.2.1 r15.2.2.2.2.2.2.2.2.2.2.2.2 else ((fX6_number x4 r15.2.1 r15.2.2.1 r15.2.2.2.1 r15.2.2.2.2.1 r15.2.2.2.2.2.1 r15.2.2.2.2.2.2.1 r15.2.2.2.2.2.2.2.1 r15.2.2.2.2.2.2.2.2.1 r15.2.2.2.2.2.2.2.2.2.1 r15.2.2.2.2.2.2.2.2.2.2.1 r15.2.2.2.2.2.2.2.2.2.2.2.1 r15.2.2.2.2.2.2.2.2.2.2.2.2).bind fun r18 => (if r18.1 = (0 : Int32) then fX6_readsForm_b79 n x2 (0 : Int32) (x4 + (1 : Int32)) r18.2.1 r18.2.2.1 r18.2.2.2.1 r18.2.2.2.2.1 r18.2.2.2.2.2.1 r18.2.2.2.2.2.2.1 r18.2.2.2.2.2.2.2.1 r18.2.2.2.2.2.2.2.2.1 r18.2.2.2.2.2.2.2.2.2.1 r18.2.2.2.2.2.2.2.2.2.2.1 r18.2.2.2.2.2.2.2.2.2.2.2.1 r18.2.2.2.2.2.2.2.2.2.2.2.2 else fX6_readsForm_b79 n x2 (1 : Int32) (x4 + (1 : Int32)) r18.2.1 r18.2.2.1 r18.2.2.2.1 r18.2.2.2.2.1 r18.2.2.2.2.2.1 r18.2.2.2.2.2.2.1 r18.2.2.2.2.2.2.2.1 r18.2.2.2.2.2.2.2.2.1 r18.2.2.2.2.2.2.2.2.2.1 r18.2.2.2.2.2.2.2.2.2.2.1 r18.2.2.2.2.2.2.2.2.2.2.2.1 r18.2.2.2.2.2.2.2.2.2.2.2.2)))))))
set_option maxHeartbeats 4000000 in
set_option maxRecDepth 100000 in
theorem kX6_readsForm_b79 {p : Program} {l : Launch} {e : Env} {s : State} {m : MethodId} {args : Array Value} {below : List Frame} {meth : Method} {c : Code} {G : gT} {a : Nat → Nat} {w0 : va_W} (C0 : gX p s m args meth c cX6_readsForm 5 (some .boolean) RX6 G) :
    ∀ (n : Nat) (x2 : Int32) (x3 : Int32) (x4 : Int32) (ss : Nat → Int32) (was : Nat → Int32) (beg : Nat → Int32) (asi : Nat → Int32) (sta : Int32) (txt : Nat → Int32) (typ : Int32) (att : Int32) (rea : Int32) (got : Nat → Int32) (row : Nat → Int32) (oth : Nat → Int32) (u : Int32 × (Nat → Int32) × (Nat → Int32) × (Nat → Int32) × (Nat → Int32) × Int32 × (Nat → Int32) × Int32 × Int32 × Int32 × (Nat → Int32) × (Nat → Int32) × (Nat → Int32)), fX6_readsForm_b79 n x2 x3 x4 ss was beg asi sta txt typ att rea got row oth = some u → ∀ (H : Heap) (locs : List Loc), va_P G.1 vwCl [((a 0), .inr (5, [.ref (a 1), .ref (a 2), .ref (a 3), .ref (a 4), .int sta, .ref (a 5), .int typ, .int att, .int rea, .ref (a 6), .ref (a 7), .ref (a 8)])), ((a 1), .inl (G.2.1, 411, .inl ss)), ((a 2), .inl (G.2.1, 1644, .inl was)), ((a 3), .inl (G.2.1, 411, .inl beg)), ((a 4), .inl (G.2.1, 411, .inl asi)), ((a 5), .inl (G.2.2.1, 60, .inl txt)), ((a 6), .inl (G.2.1, 4, .inl got)), ((a 7), .inl (G.2.1, 4, .inl row)), ((a 8), .inl (G.2.1, 4, .inl oth))] H → va_D (va_A w0 s.heap.size) [((a 0), .inr (5, [.ref (a 1), .ref (a 2), .ref (a 3), .ref (a 4), .int sta, .ref (a 5), .int typ, .int att, .int rea, .ref (a 6), .ref (a 7), .ref (a 8)])), ((a 1), .inl (G.2.1, 411, .inl ss)), ((a 2), .inl (G.2.1, 1644, .inl was)), ((a 3), .inl (G.2.1, 411, .inl beg)), ((a 4), .inl (G.2.1, 411, .inl asi)), ((a 5), .inl (G.2.2.1, 60, .inl txt)), ((a 6), .inl (G.2.1, 4, .inl got)), ((a 7), .inl (G.2.1, 4, .inl row)), ((a 8), .inl (G.2.1, 4, .inl oth))] → va_S (va_A w0 s.heap.size) s.heap H locs → ∀ ls, lv_has ls 5 [(0, .ref (a 0)), (2, .int x2), (3, .int x3), (4, .int x4)] → gW p l e (headSpec wsX6_readsForm rmX6_readsForm).room s m args below meth c G w0 (some (.int u.1)) (modW G a u.2.1 u.2.2.1 u.2.2.2.1 u.2.2.2.2.1 u.2.2.2.2.2.1 u.2.2.2.2.2.2.1 u.2.2.2.2.2.2.2.1 u.2.2.2.2.2.2.2.2.1 u.2.2.2.2.2.2.2.2.2.1 u.2.2.2.2.2.2.2.2.2.2.1 u.2.2.2.2.2.2.2.2.2.2.2.1 u.2.2.2.2.2.2.2.2.2.2.2.2) H locs 79 ls [] := by
  obtain ⟨hx, hb, hr, hts, hown, hlocks, hml, hK⟩ := id C0
  have hA : ∀ q : Nat, s.heap.size ≤ q → va_A w0 s.heap.size q := fun q h => Or.inr h
  intro n
  induction n with
  | zero =>
    intro x2 x3 x4 ss was beg asi sta txt typ att rea got row oth u hf H locs hP hD hS ls hl
    have hf : (none : Option (Int32 × (Nat → Int32) × (Nat → Int32) × (Nat → Int32) × (Nat → Int32) × Int32 × (Nat → Int32) × Int32 × Int32 × Int32 × (Nat → Int32) × (Nat → Int32) × (Nat → Int32))) = some u := hf
    cases hf
  | succ n ih =>
    intro x2 x3 x4 ss was beg asi sta txt typ att rea got row oth u hf H locs hP hD hS ls hl
    rw [fX6_readsForm_b79] at hf
    refine lv_iload hx hb dX6_readsForm_79 (lv_at hl 3 rfl) ?_
    refine lv_iload_n hx hb dX6_readsForm_81 rfl (lv_at hl 1 rfl) ?_
    refine lv_icmp_ge (tgt := 124) hx hb dX6_readsForm_82 (by decide) (fun c5 => ?_) (fun c5 => ?_)
    · have hf := g_ifT c5 hf
      exact kX6_readsForm_b124 C0 _ _ _ _ _ _ _ _ _ _ _ _ _ _ hf _ _ hP hD hS ls (lv_sub hl [0, 2] rfl)
    · have hf := g_ifF c5 hf
      refine lv_iload_n hx hb dX6_readsForm_85 rfl (lv_at hl 2 rfl) ?_
      refine lv_if_eq (tgt := 124) hx hb dX6_readsForm_86 (by decide) (fun c10 => ?_) (fun c10 => ?_)
      · have hf := g_ifT c10 hf
        exact kX6_readsForm_b124 C0 _ _ _ _ _ _ _ _ _ _ _ _ _ _ hf _ _ hP hD hS ls (lv_sub hl [0, 2] rfl)
      · have hf := g_ifF c10 hf
        refine lv_iload hx hb dX6_readsForm_89 (lv_at hl 3 rfl) ?_
        refine lv_if_eq (tgt := 103) hx hb dX6_readsForm_91 (by decide) (fun c11 => ?_) (fun c11 => ?_)
        · have hf := g_ifT c11 hf
          refine lv_aload_n hx hb dX6_readsForm_103 rfl (lv_at hl 0 rfl) ?_
          refine lv_iload hx hb dX6_readsForm_104 (lv_at hl 3 rfl) ?_
          obtain ⟨r12, e13, hf⟩ := g_bdS hf
          refine g_contC (st1 := [.int r12.1]) (g_runVC (As := [.int x4]) (rest := []) ⟨hx, hb, hml, hown, hts⟩ (qX6_number l G a e13) (cwV 1 hts (TB_V TB_id tw_887 tw_889 tw_45 tw_54 tw_890) rfl rfl rfl (by decide +kernel) ⟨Nat.le_of_ble_eq_true rfl, Nat.le_of_ble_eq_true rfl⟩) hK (hP.sub [0, 1, 2, 3, 4, 5, 6, 7, 8] rfl) (hD.sub [0, 1, 2, 3, 4, 5, 6, 7, 8] (by decide) rfl) 0 rfl rfl rfl hl.1 rfl (Nat.le_of_ble_eq_true rfl) dX6_readsForm_106) rfl hP hD hS hA [0, 1, 2, 3, 4, 5, 6, 7, 8] rfl rfl (fun H locs hP hD hS => ?_)
          have hP : va_P G.1 vwCl [((a 0), .inr (5, [.ref (a 1), .ref (a 2), .ref (a 3), .ref (a 4), .int r12.2.2.2.2.2.1, .ref (a 5), .int r12.2.2.2.2.2.2.2.1, .int r12.2.2.2.2.2.2.2.2.1, .int r12.2.2.2.2.2.2.2.2.2.1, .ref (a 6), .ref (a 7), .ref (a 8)])), ((a 1), .inl (G.2.1, 411, .inl r12.2.1)), ((a 2), .inl (G.2.1, 1644, .inl r12.2.2.1)), ((a 3), .inl (G.2.1, 411, .inl r12.2.2.2.1)), ((a 4), .inl (G.2.1, 411, .inl r12.2.2.2.2.1)), ((a 5), .inl (G.2.2.1, 60, .inl r12.2.2.2.2.2.2.1)), ((a 6), .inl (G.2.1, 4, .inl r12.2.2.2.2.2.2.2.2.2.2.1)), ((a 7), .inl (G.2.1, 4, .inl r12.2.2.2.2.2.2.2.2.2.2.2.1)), ((a 8), .inl (G.2.1, 4, .inl r12.2.2.2.2.2.2.2.2.2.2.2.2))] H := hP
          have hD : va_D (va_A w0 s.heap.size) [((a 0), .inr (5, [.ref (a 1), .ref (a 2), .ref (a 3), .ref (a 4), .int r12.2.2.2.2.2.1, .ref (a 5), .int r12.2.2.2.2.2.2.2.1, .int r12.2.2.2.2.2.2.2.2.1, .int r12.2.2.2.2.2.2.2.2.2.1, .ref (a 6), .ref (a 7), .ref (a 8)])), ((a 1), .inl (G.2.1, 411, .inl r12.2.1)), ((a 2), .inl (G.2.1, 1644, .inl r12.2.2.1)), ((a 3), .inl (G.2.1, 411, .inl r12.2.2.2.1)), ((a 4), .inl (G.2.1, 411, .inl r12.2.2.2.2.1)), ((a 5), .inl (G.2.2.1, 60, .inl r12.2.2.2.2.2.2.1)), ((a 6), .inl (G.2.1, 4, .inl r12.2.2.2.2.2.2.2.2.2.2.1)), ((a 7), .inl (G.2.1, 4, .inl r12.2.2.2.2.2.2.2.2.2.2.2.1)), ((a 8), .inl (G.2.1, 4, .inl r12.2.2.2.2.2.2.2.2.2.2.2.2))] := hD
          refine lv_if_eq (tgt := 116) hx hb dX6_readsForm_109 (by decide) (fun c14 => ?_) (fun c14 => ?_)
          · have hf := g_ifT c14 hf
            refine lv_iconst (v := (0 : Int32)) hx hb dX6_readsForm_116 (by decide) ?_
            refine lv_istore_n (lv' := [(3, .int (0 : Int32)), (0, .ref (a 0)), (2, .int x2), (4, .int x4)]) hx hb dX6_readsForm_117 rfl hl (by decide) rfl (fun ls hl => ?_)
            refine lv_iinc (v := (x4 + (1 : Int32))) (lv' := [(4, .int (x4 + (1 : Int32))), (3, .int (0 : Int32)), (0, .ref (a 0)), (2, .int x2)]) hx hb dX6_readsForm_118 hl (k := 3) rfl rfl (by decide) rfl (fun ls hl => ?_)
            refine lv_goto (tgt := 79) hx hb dX6_readsForm_121 (by decide) ?_
            exact ih _ _ _ _ _ _ _ _ _ _ _ _ _ _ _ _ hf _ _ hP hD hS ls (lv_sub hl [2, 3, 1, 0] rfl)
          · have hf := g_ifF c14 hf
            refine lv_iconst (v := (1 : Int32)) hx hb dX6_readsForm_112 (by decide) ?_
            refine lv_goto (tgt := 117) hx hb dX6_readsForm_113 (by decide) ?_
            refine lv_istore_n (lv' := [(3, .int (1 : Int32)), (0, .ref (a 0)), (2, .int x2), (4, .int x4)]) hx hb dX6_readsForm_117 rfl hl (by decide) rfl (fun ls hl => ?_)
            refine lv_iinc (v := (x4 + (1 : Int32))) (lv' := [(4, .int (x4 + (1 : Int32))), (3, .int (1 : Int32)), (0, .ref (a 0)), (2, .int x2)]) hx hb dX6_readsForm_118 hl (k := 3) rfl rfl (by decide) rfl (fun ls hl => ?_)
            refine lv_goto (tgt := 79) hx hb dX6_readsForm_121 (by decide) ?_
            exact ih _ _ _ _ _ _ _ _ _ _ _ _ _ _ _ _ hf _ _ hP hD hS ls (lv_sub hl [2, 3, 1, 0] rfl)
        · have hf := g_ifF c11 hf
          refine lv_aload_n hx hb dX6_readsForm_94 rfl (lv_at hl 0 rfl) ?_
          refine lv_bipush (v := (44 : Int32)) hx hb dX6_readsForm_95 (by decide) ?_
          obtain ⟨r15, e16, hf⟩ := g_bdS hf
          refine g_contC (st1 := [.int r15.1]) (g_runVC (As := [.int (44 : Int32)]) (rest := []) ⟨hx, hb, hml, hown, hts⟩ (qX6_has l G a e16) (cwV 1 hts (TB_V TB_id tw_883 tw_885 tw_44 tw_54 tw_886) rfl rfl rfl (by decide +kernel) ⟨Nat.le_of_ble_eq_true rfl, Nat.le_of_ble_eq_true rfl⟩) hK (hP.sub [0, 1, 2, 3, 4, 5, 6, 7, 8] rfl) (hD.sub [0, 1, 2, 3, 4, 5, 6, 7, 8] (by decide) rfl) 0 rfl rfl rfl hl.1 rfl (Nat.le_of_ble_eq_true rfl) dX6_readsForm_97) rfl hP hD hS hA [0, 1, 2, 3, 4, 5, 6, 7, 8] rfl rfl (fun H locs hP hD hS => ?_)
          have hP : va_P G.1 vwCl [((a 0), .inr (5, [.ref (a 1), .ref (a 2), .ref (a 3), .ref (a 4), .int r15.2.2.2.2.2.1, .ref (a 5), .int r15.2.2.2.2.2.2.2.1, .int r15.2.2.2.2.2.2.2.2.1, .int r15.2.2.2.2.2.2.2.2.2.1, .ref (a 6), .ref (a 7), .ref (a 8)])), ((a 1), .inl (G.2.1, 411, .inl r15.2.1)), ((a 2), .inl (G.2.1, 1644, .inl r15.2.2.1)), ((a 3), .inl (G.2.1, 411, .inl r15.2.2.2.1)), ((a 4), .inl (G.2.1, 411, .inl r15.2.2.2.2.1)), ((a 5), .inl (G.2.2.1, 60, .inl r15.2.2.2.2.2.2.1)), ((a 6), .inl (G.2.1, 4, .inl r15.2.2.2.2.2.2.2.2.2.2.1)), ((a 7), .inl (G.2.1, 4, .inl r15.2.2.2.2.2.2.2.2.2.2.2.1)), ((a 8), .inl (G.2.1, 4, .inl r15.2.2.2.2.2.2.2.2.2.2.2.2))] H := hP
          have hD : va_D (va_A w0 s.heap.size) [((a 0), .inr (5, [.ref (a 1), .ref (a 2), .ref (a 3), .ref (a 4), .int r15.2.2.2.2.2.1, .ref (a 5), .int r15.2.2.2.2.2.2.2.1, .int r15.2.2.2.2.2.2.2.2.1, .int r15.2.2.2.2.2.2.2.2.2.1, .ref (a 6), .ref (a 7), .ref (a 8)])), ((a 1), .inl (G.2.1, 411, .inl r15.2.1)), ((a 2), .inl (G.2.1, 1644, .inl r15.2.2.1)), ((a 3), .inl (G.2.1, 411, .inl r15.2.2.2.1)), ((a 4), .inl (G.2.1, 411, .inl r15.2.2.2.2.1)), ((a 5), .inl (G.2.2.1, 60, .inl r15.2.2.2.2.2.2.1)), ((a 6), .inl (G.2.1, 4, .inl r15.2.2.2.2.2.2.2.2.2.2.1)), ((a 7), .inl (G.2.1, 4, .inl r15.2.2.2.2.2.2.2.2.2.2.2.1)), ((a 8), .inl (G.2.1, 4, .inl r15.2.2.2.2.2.2.2.2.2.2.2.2))] := hD
          refine lv_if_eq (tgt := 116) hx hb dX6_readsForm_100 (by decide) (fun c17 => ?_) (fun c17 => ?_)
          · have hf := g_ifT c17 hf
            refine lv_iconst (v := (0 : Int32)) hx hb dX6_readsForm_116 (by decide) ?_
            refine lv_istore_n (lv' := [(3, .int (0 : Int32)), (0, .ref (a 0)), (2, .int x2), (4, .int x4)]) hx hb dX6_readsForm_117 rfl hl (by decide) rfl (fun ls hl => ?_)
            refine lv_iinc (v := (x4 + (1 : Int32))) (lv' := [(4, .int (x4 + (1 : Int32))), (3, .int (0 : Int32)), (0, .ref (a 0)), (2, .int x2)]) hx hb dX6_readsForm_118 hl (k := 3) rfl rfl (by decide) rfl (fun ls hl => ?_)
            refine lv_goto (tgt := 79) hx hb dX6_readsForm_121 (by decide) ?_
            exact ih _ _ _ _ _ _ _ _ _ _ _ _ _ _ _ _ hf _ _ hP hD hS ls (lv_sub hl [2, 3, 1, 0] rfl)
          · have hf := g_ifF c17 hf
            refine lv_aload_n hx hb dX6_readsForm_103 rfl (lv_at hl 0 rfl) ?_
            refine lv_iload hx hb dX6_readsForm_104 (lv_at hl 3 rfl) ?_
            obtain ⟨r18, e19, hf⟩ := g_bdS hf
            refine g_contC (st1 := [.int r18.1]) (g_runVC (As := [.int x4]) (rest := []) ⟨hx, hb, hml, hown, hts⟩ (qX6_number l G a e19) (cwV 1 hts (TB_V TB_id tw_887 tw_889 tw_45 tw_54 tw_890) rfl rfl rfl (by decide +kernel) ⟨Nat.le_of_ble_eq_true rfl, Nat.le_of_ble_eq_true rfl⟩) hK (hP.sub [0, 1, 2, 3, 4, 5, 6, 7, 8] rfl) (hD.sub [0, 1, 2, 3, 4, 5, 6, 7, 8] (by decide) rfl) 0 rfl rfl rfl hl.1 rfl (Nat.le_of_ble_eq_true rfl) dX6_readsForm_106) rfl hP hD hS hA [0, 1, 2, 3, 4, 5, 6, 7, 8] rfl rfl (fun H locs hP hD hS => ?_)
            have hP : va_P G.1 vwCl [((a 0), .inr (5, [.ref (a 1), .ref (a 2), .ref (a 3), .ref (a 4), .int r18.2.2.2.2.2.1, .ref (a 5), .int r18.2.2.2.2.2.2.2.1, .int r18.2.2.2.2.2.2.2.2.1, .int r18.2.2.2.2.2.2.2.2.2.1, .ref (a 6), .ref (a 7), .ref (a 8)])), ((a 1), .inl (G.2.1, 411, .inl r18.2.1)), ((a 2), .inl (G.2.1, 1644, .inl r18.2.2.1)), ((a 3), .inl (G.2.1, 411, .inl r18.2.2.2.1)), ((a 4), .inl (G.2.1, 411, .inl r18.2.2.2.2.1)), ((a 5), .inl (G.2.2.1, 60, .inl r18.2.2.2.2.2.2.1)), ((a 6), .inl (G.2.1, 4, .inl r18.2.2.2.2.2.2.2.2.2.2.1)), ((a 7), .inl (G.2.1, 4, .inl r18.2.2.2.2.2.2.2.2.2.2.2.1)), ((a 8), .inl (G.2.1, 4, .inl r18.2.2.2.2.2.2.2.2.2.2.2.2))] H := hP
            have hD : va_D (va_A w0 s.heap.size) [((a 0), .inr (5, [.ref (a 1), .ref (a 2), .ref (a 3), .ref (a 4), .int r18.2.2.2.2.2.1, .ref (a 5), .int r18.2.2.2.2.2.2.2.1, .int r18.2.2.2.2.2.2.2.2.1, .int r18.2.2.2.2.2.2.2.2.2.1, .ref (a 6), .ref (a 7), .ref (a 8)])), ((a 1), .inl (G.2.1, 411, .inl r18.2.1)), ((a 2), .inl (G.2.1, 1644, .inl r18.2.2.1)), ((a 3), .inl (G.2.1, 411, .inl r18.2.2.2.1)), ((a 4), .inl (G.2.1, 411, .inl r18.2.2.2.2.1)), ((a 5), .inl (G.2.2.1, 60, .inl r18.2.2.2.2.2.2.1)), ((a 6), .inl (G.2.1, 4, .inl r18.2.2.2.2.2.2.2.2.2.2.1)), ((a 7), .inl (G.2.1, 4, .inl r18.2.2.2.2.2.2.2.2.2.2.2.1)), ((a 8), .inl (G.2.1, 4, .inl r18.2.2.2.2.2.2.2.2.2.2.2.2))] := hD
            refine lv_if_eq (tgt := 116) hx hb dX6_readsForm_109 (by decide) (fun c20 => ?_) (fun c20 => ?_)
            · have hf := g_ifT c20 hf
              refine lv_iconst (v := (0 : Int32)) hx hb dX6_readsForm_116 (by decide) ?_
              refine lv_istore_n (lv' := [(3, .int (0 : Int32)), (0, .ref (a 0)), (2, .int x2), (4, .int x4)]) hx hb dX6_readsForm_117 rfl hl (by decide) rfl (fun ls hl => ?_)
              refine lv_iinc (v := (x4 + (1 : Int32))) (lv' := [(4, .int (x4 + (1 : Int32))), (3, .int (0 : Int32)), (0, .ref (a 0)), (2, .int x2)]) hx hb dX6_readsForm_118 hl (k := 3) rfl rfl (by decide) rfl (fun ls hl => ?_)
              refine lv_goto (tgt := 79) hx hb dX6_readsForm_121 (by decide) ?_
              exact ih _ _ _ _ _ _ _ _ _ _ _ _ _ _ _ _ hf _ _ hP hD hS ls (lv_sub hl [2, 3, 1, 0] rfl)
            · have hf := g_ifF c20 hf
              refine lv_iconst (v := (1 : Int32)) hx hb dX6_readsForm_112 (by decide) ?_
              refine lv_goto (tgt := 117) hx hb dX6_readsForm_113 (by decide) ?_
              refine lv_istore_n (lv' := [(3, .int (1 : Int32)), (0, .ref (a 0)), (2, .int x2), (4, .int x4)]) hx hb dX6_readsForm_117 rfl hl (by decide) rfl (fun ls hl => ?_)
              refine lv_iinc (v := (x4 + (1 : Int32))) (lv' := [(4, .int (x4 + (1 : Int32))), (3, .int (1 : Int32)), (0, .ref (a 0)), (2, .int x2)]) hx hb dX6_readsForm_118 hl (k := 3) rfl rfl (by decide) rfl (fun ls hl => ?_)
              refine lv_goto (tgt := 79) hx hb dX6_readsForm_121 (by decide) ?_
              exact ih _ _ _ _ _ _ _ _ _ _ _ _ _ _ _ _ hf _ _ hP hD hS ls (lv_sub hl [2, 3, 1, 0] rfl)
def fX6_readsForm_b65 (t0 : Int32) (ss : Nat → Int32) (was : Nat → Int32) (beg : Nat → Int32) (asi : Nat → Int32) (sta : Int32) (txt : Nat → Int32) (typ : Int32) (att : Int32) (rea : Int32) (got : Nat → Int32) (row : Nat → Int32) (oth : Nat → Int32) : Option (Int32 × (Nat → Int32) × (Nat → Int32) × (Nat → Int32) × (Nat → Int32) × Int32 × (Nat → Int32) × Int32 × Int32 × Int32 × (Nat → Int32) × (Nat → Int32) × (Nat → Int32)) := (if t0 < (0 : Int32) then fX6_readsForm_b79 2000 t0 (0 : Int32) (0 : Int32) ss was beg asi sta txt typ att rea got row oth else fX6_readsForm_b79 2000 t0 (1 : Int32) (0 : Int32) ss was beg asi sta txt typ att rea got row oth)
set_option maxHeartbeats 4000000 in
set_option maxRecDepth 100000 in
theorem kX6_readsForm_b65 {p : Program} {l : Launch} {e : Env} {s : State} {m : MethodId} {args : Array Value} {below : List Frame} {meth : Method} {c : Code} {G : gT} {a : Nat → Nat} {w0 : va_W} (C0 : gX p s m args meth c cX6_readsForm 5 (some .boolean) RX6 G) :
    ∀ (t0 : Int32) (ss : Nat → Int32) (was : Nat → Int32) (beg : Nat → Int32) (asi : Nat → Int32) (sta : Int32) (txt : Nat → Int32) (typ : Int32) (att : Int32) (rea : Int32) (got : Nat → Int32) (row : Nat → Int32) (oth : Nat → Int32) (u : Int32 × (Nat → Int32) × (Nat → Int32) × (Nat → Int32) × (Nat → Int32) × Int32 × (Nat → Int32) × Int32 × Int32 × Int32 × (Nat → Int32) × (Nat → Int32) × (Nat → Int32)), fX6_readsForm_b65 t0 ss was beg asi sta txt typ att rea got row oth = some u → ∀ (H : Heap) (locs : List Loc), va_P G.1 vwCl [((a 0), .inr (5, [.ref (a 1), .ref (a 2), .ref (a 3), .ref (a 4), .int sta, .ref (a 5), .int typ, .int att, .int rea, .ref (a 6), .ref (a 7), .ref (a 8)])), ((a 1), .inl (G.2.1, 411, .inl ss)), ((a 2), .inl (G.2.1, 1644, .inl was)), ((a 3), .inl (G.2.1, 411, .inl beg)), ((a 4), .inl (G.2.1, 411, .inl asi)), ((a 5), .inl (G.2.2.1, 60, .inl txt)), ((a 6), .inl (G.2.1, 4, .inl got)), ((a 7), .inl (G.2.1, 4, .inl row)), ((a 8), .inl (G.2.1, 4, .inl oth))] H → va_D (va_A w0 s.heap.size) [((a 0), .inr (5, [.ref (a 1), .ref (a 2), .ref (a 3), .ref (a 4), .int sta, .ref (a 5), .int typ, .int att, .int rea, .ref (a 6), .ref (a 7), .ref (a 8)])), ((a 1), .inl (G.2.1, 411, .inl ss)), ((a 2), .inl (G.2.1, 1644, .inl was)), ((a 3), .inl (G.2.1, 411, .inl beg)), ((a 4), .inl (G.2.1, 411, .inl asi)), ((a 5), .inl (G.2.2.1, 60, .inl txt)), ((a 6), .inl (G.2.1, 4, .inl got)), ((a 7), .inl (G.2.1, 4, .inl row)), ((a 8), .inl (G.2.1, 4, .inl oth))] → va_S (va_A w0 s.heap.size) s.heap H locs → ∀ ls, lv_has ls 5 [(0, .ref (a 0))] → gW p l e (headSpec wsX6_readsForm rmX6_readsForm).room s m args below meth c G w0 (some (.int u.1)) (modW G a u.2.1 u.2.2.1 u.2.2.2.1 u.2.2.2.2.1 u.2.2.2.2.2.1 u.2.2.2.2.2.2.1 u.2.2.2.2.2.2.2.1 u.2.2.2.2.2.2.2.2.1 u.2.2.2.2.2.2.2.2.2.1 u.2.2.2.2.2.2.2.2.2.2.1 u.2.2.2.2.2.2.2.2.2.2.2.1 u.2.2.2.2.2.2.2.2.2.2.2.2) H locs 65 ls [.int t0] := by
  obtain ⟨hx, hb, hr, hts, hown, hlocks, hml, hK⟩ := id C0
  have hA : ∀ q : Nat, s.heap.size ≤ q → va_A w0 s.heap.size q := fun q h => Or.inr h
  intro t0 ss was beg asi sta txt typ att rea got row oth u hf H locs hP hD hS ls hl
  unfold fX6_readsForm_b65 at hf
  refine lv_istore_n (lv' := [(2, .int t0), (0, .ref (a 0))]) hx hb dX6_readsForm_65 rfl hl (by decide) rfl (fun ls hl => ?_)
  refine lv_iload_n hx hb dX6_readsForm_66 rfl (lv_at hl 0 rfl) ?_
  refine lv_if_lt (tgt := 74) hx hb dX6_readsForm_67 (by decide) (fun c4 => ?_) (fun c4 => ?_)
  · have hf := g_ifT c4 hf
    refine lv_iconst (v := (0 : Int32)) hx hb dX6_readsForm_74 (by decide) ?_
    refine lv_istore_n (lv' := [(3, .int (0 : Int32)), (2, .int t0), (0, .ref (a 0))]) hx hb dX6_readsForm_75 rfl hl (by decide) rfl (fun ls hl => ?_)
    refine lv_iconst (v := (0 : Int32)) hx hb dX6_readsForm_76 (by decide) ?_
    refine lv_istore (lv' := [(4, .int (0 : Int32)), (3, .int (0 : Int32)), (2, .int t0), (0, .ref (a 0))]) hx hb dX6_readsForm_77 hl (by decide) rfl (fun ls hl => ?_)
    exact kX6_readsForm_b79 C0 2000 _ _ _ _ _ _ _ _ _ _ _ _ _ _ _ _ hf _ _ hP hD hS ls (lv_sub hl [3, 2, 1, 0] rfl)
  · have hf := g_ifF c4 hf
    refine lv_iconst (v := (1 : Int32)) hx hb dX6_readsForm_70 (by decide) ?_
    refine lv_goto (tgt := 75) hx hb dX6_readsForm_71 (by decide) ?_
    refine lv_istore_n (lv' := [(3, .int (1 : Int32)), (2, .int t0), (0, .ref (a 0))]) hx hb dX6_readsForm_75 rfl hl (by decide) rfl (fun ls hl => ?_)
    refine lv_iconst (v := (0 : Int32)) hx hb dX6_readsForm_76 (by decide) ?_
    refine lv_istore (lv' := [(4, .int (0 : Int32)), (3, .int (1 : Int32)), (2, .int t0), (0, .ref (a 0))]) hx hb dX6_readsForm_77 hl (by decide) rfl (fun ls hl => ?_)
    exact kX6_readsForm_b79 C0 2000 _ _ _ _ _ _ _ _ _ _ _ _ _ _ _ _ hf _ _ hP hD hS ls (lv_sub hl [3, 2, 1, 0] rfl)
def fX6_readsForm_b44 (ss : Nat → Int32) (was : Nat → Int32) (beg : Nat → Int32) (asi : Nat → Int32) (sta : Int32) (txt : Nat → Int32) (typ : Int32) (att : Int32) (rea : Int32) (got : Nat → Int32) (row : Nat → Int32) (oth : Nat → Int32) : Option (Int32 × (Nat → Int32) × (Nat → Int32) × (Nat → Int32) × (Nat → Int32) × Int32 × (Nat → Int32) × Int32 × Int32 × Int32 × (Nat → Int32) × (Nat → Int32) × (Nat → Int32)) := fX6_readsForm_b65 (1 : Int32) ss was beg asi sta txt typ att rea got row oth
set_option maxHeartbeats 4000000 in
set_option maxRecDepth 100000 in
theorem kX6_readsForm_b44 {p : Program} {l : Launch} {e : Env} {s : State} {m : MethodId} {args : Array Value} {below : List Frame} {meth : Method} {c : Code} {G : gT} {a : Nat → Nat} {w0 : va_W} (C0 : gX p s m args meth c cX6_readsForm 5 (some .boolean) RX6 G) :
    ∀ (ss : Nat → Int32) (was : Nat → Int32) (beg : Nat → Int32) (asi : Nat → Int32) (sta : Int32) (txt : Nat → Int32) (typ : Int32) (att : Int32) (rea : Int32) (got : Nat → Int32) (row : Nat → Int32) (oth : Nat → Int32) (u : Int32 × (Nat → Int32) × (Nat → Int32) × (Nat → Int32) × (Nat → Int32) × Int32 × (Nat → Int32) × Int32 × Int32 × Int32 × (Nat → Int32) × (Nat → Int32) × (Nat → Int32)), fX6_readsForm_b44 ss was beg asi sta txt typ att rea got row oth = some u → ∀ (H : Heap) (locs : List Loc), va_P G.1 vwCl [((a 0), .inr (5, [.ref (a 1), .ref (a 2), .ref (a 3), .ref (a 4), .int sta, .ref (a 5), .int typ, .int att, .int rea, .ref (a 6), .ref (a 7), .ref (a 8)])), ((a 1), .inl (G.2.1, 411, .inl ss)), ((a 2), .inl (G.2.1, 1644, .inl was)), ((a 3), .inl (G.2.1, 411, .inl beg)), ((a 4), .inl (G.2.1, 411, .inl asi)), ((a 5), .inl (G.2.2.1, 60, .inl txt)), ((a 6), .inl (G.2.1, 4, .inl got)), ((a 7), .inl (G.2.1, 4, .inl row)), ((a 8), .inl (G.2.1, 4, .inl oth))] H → va_D (va_A w0 s.heap.size) [((a 0), .inr (5, [.ref (a 1), .ref (a 2), .ref (a 3), .ref (a 4), .int sta, .ref (a 5), .int typ, .int att, .int rea, .ref (a 6), .ref (a 7), .ref (a 8)])), ((a 1), .inl (G.2.1, 411, .inl ss)), ((a 2), .inl (G.2.1, 1644, .inl was)), ((a 3), .inl (G.2.1, 411, .inl beg)), ((a 4), .inl (G.2.1, 411, .inl asi)), ((a 5), .inl (G.2.2.1, 60, .inl txt)), ((a 6), .inl (G.2.1, 4, .inl got)), ((a 7), .inl (G.2.1, 4, .inl row)), ((a 8), .inl (G.2.1, 4, .inl oth))] → va_S (va_A w0 s.heap.size) s.heap H locs → ∀ ls, lv_has ls 5 [(0, .ref (a 0))] → gW p l e (headSpec wsX6_readsForm rmX6_readsForm).room s m args below meth c G w0 (some (.int u.1)) (modW G a u.2.1 u.2.2.1 u.2.2.2.1 u.2.2.2.2.1 u.2.2.2.2.2.1 u.2.2.2.2.2.2.1 u.2.2.2.2.2.2.2.1 u.2.2.2.2.2.2.2.2.1 u.2.2.2.2.2.2.2.2.2.1 u.2.2.2.2.2.2.2.2.2.2.1 u.2.2.2.2.2.2.2.2.2.2.2.1 u.2.2.2.2.2.2.2.2.2.2.2.2) H locs 44 ls [] := by
  obtain ⟨hx, hb, hr, hts, hown, hlocks, hml, hK⟩ := id C0
  have hA : ∀ q : Nat, s.heap.size ≤ q → va_A w0 s.heap.size q := fun q h => Or.inr h
  intro ss was beg asi sta txt typ att rea got row oth u hf H locs hP hD hS ls hl
  unfold fX6_readsForm_b44 at hf
  refine lv_iconst (v := (1 : Int32)) hx hb dX6_readsForm_44 (by decide) ?_
  refine lv_goto (tgt := 65) hx hb dX6_readsForm_45 (by decide) ?_
  exact kX6_readsForm_b65 C0 _ _ _ _ _ _ _ _ _ _ _ _ _ _ hf _ _ hP hD hS ls (lv_sub hl [0] rfl)
def fX6_readsForm_b60 (ss : Nat → Int32) (was : Nat → Int32) (beg : Nat → Int32) (asi : Nat → Int32) (sta : Int32) (txt : Nat → Int32) (typ : Int32) (att : Int32) (rea : Int32) (got : Nat → Int32) (row : Nat → Int32) (oth : Nat → Int32) : Option (Int32 × (Nat → Int32) × (Nat → Int32) × (Nat → Int32) × (Nat → Int32) × Int32 × (Nat → Int32) × Int32 × Int32 × Int32 × (Nat → Int32) × (Nat → Int32) × (Nat → Int32)) := fX6_readsForm_b65 (0 : Int32) ss was beg asi sta txt typ att rea got row oth
set_option maxHeartbeats 4000000 in
set_option maxRecDepth 100000 in
theorem kX6_readsForm_b60 {p : Program} {l : Launch} {e : Env} {s : State} {m : MethodId} {args : Array Value} {below : List Frame} {meth : Method} {c : Code} {G : gT} {a : Nat → Nat} {w0 : va_W} (C0 : gX p s m args meth c cX6_readsForm 5 (some .boolean) RX6 G) :
    ∀ (ss : Nat → Int32) (was : Nat → Int32) (beg : Nat → Int32) (asi : Nat → Int32) (sta : Int32) (txt : Nat → Int32) (typ : Int32) (att : Int32) (rea : Int32) (got : Nat → Int32) (row : Nat → Int32) (oth : Nat → Int32) (u : Int32 × (Nat → Int32) × (Nat → Int32) × (Nat → Int32) × (Nat → Int32) × Int32 × (Nat → Int32) × Int32 × Int32 × Int32 × (Nat → Int32) × (Nat → Int32) × (Nat → Int32)), fX6_readsForm_b60 ss was beg asi sta txt typ att rea got row oth = some u → ∀ (H : Heap) (locs : List Loc), va_P G.1 vwCl [((a 0), .inr (5, [.ref (a 1), .ref (a 2), .ref (a 3), .ref (a 4), .int sta, .ref (a 5), .int typ, .int att, .int rea, .ref (a 6), .ref (a 7), .ref (a 8)])), ((a 1), .inl (G.2.1, 411, .inl ss)), ((a 2), .inl (G.2.1, 1644, .inl was)), ((a 3), .inl (G.2.1, 411, .inl beg)), ((a 4), .inl (G.2.1, 411, .inl asi)), ((a 5), .inl (G.2.2.1, 60, .inl txt)), ((a 6), .inl (G.2.1, 4, .inl got)), ((a 7), .inl (G.2.1, 4, .inl row)), ((a 8), .inl (G.2.1, 4, .inl oth))] H → va_D (va_A w0 s.heap.size) [((a 0), .inr (5, [.ref (a 1), .ref (a 2), .ref (a 3), .ref (a 4), .int sta, .ref (a 5), .int typ, .int att, .int rea, .ref (a 6), .ref (a 7), .ref (a 8)])), ((a 1), .inl (G.2.1, 411, .inl ss)), ((a 2), .inl (G.2.1, 1644, .inl was)), ((a 3), .inl (G.2.1, 411, .inl beg)), ((a 4), .inl (G.2.1, 411, .inl asi)), ((a 5), .inl (G.2.2.1, 60, .inl txt)), ((a 6), .inl (G.2.1, 4, .inl got)), ((a 7), .inl (G.2.1, 4, .inl row)), ((a 8), .inl (G.2.1, 4, .inl oth))] → va_S (va_A w0 s.heap.size) s.heap H locs → ∀ ls, lv_has ls 5 [(0, .ref (a 0))] → gW p l e (headSpec wsX6_readsForm rmX6_readsForm).room s m args below meth c G w0 (some (.int u.1)) (modW G a u.2.1 u.2.2.1 u.2.2.2.1 u.2.2.2.2.1 u.2.2.2.2.2.1 u.2.2.2.2.2.2.1 u.2.2.2.2.2.2.2.1 u.2.2.2.2.2.2.2.2.1 u.2.2.2.2.2.2.2.2.2.1 u.2.2.2.2.2.2.2.2.2.2.1 u.2.2.2.2.2.2.2.2.2.2.2.1 u.2.2.2.2.2.2.2.2.2.2.2.2) H locs 60 ls [] := by
  obtain ⟨hx, hb, hr, hts, hown, hlocks, hml, hK⟩ := id C0
  have hA : ∀ q : Nat, s.heap.size ≤ q → va_A w0 s.heap.size q := fun q h => Or.inr h
  intro ss was beg asi sta txt typ att rea got row oth u hf H locs hP hD hS ls hl
  unfold fX6_readsForm_b60 at hf
  refine lv_iconst (v := (0 : Int32)) hx hb dX6_readsForm_60 (by decide) ?_
  refine lv_goto (tgt := 65) hx hb dX6_readsForm_61 (by decide) ?_
  exact kX6_readsForm_b65 C0 _ _ _ _ _ _ _ _ _ _ _ _ _ _ hf _ _ hP hD hS ls (lv_sub hl [0] rfl)
def fX6_readsForm (p0 : Int32) (ss : Nat → Int32) (was : Nat → Int32) (beg : Nat → Int32) (asi : Nat → Int32) (sta : Int32) (txt : Nat → Int32) (typ : Int32) (att : Int32) (rea : Int32) (got : Nat → Int32) (row : Nat → Int32) (oth : Nat → Int32) : Option (Int32 × (Nat → Int32) × (Nat → Int32) × (Nat → Int32) × (Nat → Int32) × Int32 × (Nat → Int32) × Int32 × Int32 × Int32 × (Nat → Int32) × (Nat → Int32) × (Nat → Int32)) := (if p0 = (111 : Int32) then fX6_readsForm_b65 (4 : Int32) ss was beg asi sta txt typ att rea got row oth else (if p0 = (110 : Int32) then fX6_readsForm_b65 (3 : Int32) ss was beg asi sta txt typ att rea got row oth else (if p0 = (120 : Int32) then fX6_readsForm_b44 ss was beg asi sta txt typ att rea got row oth else (if p0 = (100 : Int32) then fX6_readsForm_b44 ss was beg asi sta txt typ att rea got row oth else (if p0 = (98 : Int32) then fX6_readsForm_b44 ss was beg asi sta txt typ att rea got row oth else (if p0 = (109 : Int32) then fX6_readsForm_b44 ss was beg asi sta txt typ att rea got row oth else (if p0 = (116 : Int32) then fX6_readsForm_b60 ss was beg asi sta txt typ att rea got row oth else (if p0 = (107 : Int32) then fX6_readsForm_b60 ss was beg asi sta txt typ att rea got row oth else fX6_readsForm_b65 (-1 : Int32) ss was beg asi sta txt typ att rea got row oth))))))))
set_option maxHeartbeats 4000000 in
set_option maxRecDepth 100000 in
theorem qX6_readsForm (l : Launch) (G : gT) (a : Nat → Nat) {p0 : Int32} {ss : Nat → Int32} {was : Nat → Int32} {beg : Nat → Int32} {asi : Nat → Int32} {sta : Int32} {txt : Nat → Int32} {typ : Int32} {att : Int32} {rea : Int32} {got : Nat → Int32} {row : Nat → Int32} {oth : Nat → Int32} {u : Int32 × (Nat → Int32) × (Nat → Int32) × (Nat → Int32) × (Nat → Int32) × Int32 × (Nat → Int32) × Int32 × Int32 × Int32 × (Nat → Int32) × (Nat → Int32) × (Nat → Int32)} (hf : fX6_readsForm p0 ss was beg asi sta txt typ att rea got row oth = some u) : gC l G yX6_readsForm wsX6_readsForm rmX6_readsForm [.ref (a 0), .int p0] (modW G a ss was beg asi sta txt typ att rea got row oth) (some (.int u.1)) (modW G a u.2.1 u.2.2.1 u.2.2.2.1 u.2.2.2.2.1 u.2.2.2.2.2.1 u.2.2.2.2.2.2.1 u.2.2.2.2.2.2.2.1 u.2.2.2.2.2.2.2.2.1 u.2.2.2.2.2.2.2.2.2.1 u.2.2.2.2.2.2.2.2.2.2.1 u.2.2.2.2.2.2.2.2.2.2.2.1 u.2.2.2.2.2.2.2.2.2.2.2.2) := by
  refine gC.of (cc := cX6_readsForm) (maxL := 5) (ret := (some .boolean)) (by decide) rfl (Nat.le_of_ble_eq_true rfl) ?_
  intro p e s m below meth c C0 hP hD hS ls hl
  obtain ⟨hx, hb, hr, hts, hown, hlocks, hml, hK⟩ := id C0
  have hl : lv_has ls 5 [(0, .ref (a 0)), (1, .int p0)] := hl
  have hA : ∀ q : Nat, s.heap.size ≤ q → va_A (modW G a ss was beg asi sta txt typ att rea got row oth) s.heap.size q := fun q h => Or.inr h
  have hP : va_P G.1 vwCl [((a 0), .inr (5, [.ref (a 1), .ref (a 2), .ref (a 3), .ref (a 4), .int sta, .ref (a 5), .int typ, .int att, .int rea, .ref (a 6), .ref (a 7), .ref (a 8)])), ((a 1), .inl (G.2.1, 411, .inl ss)), ((a 2), .inl (G.2.1, 1644, .inl was)), ((a 3), .inl (G.2.1, 411, .inl beg)), ((a 4), .inl (G.2.1, 411, .inl asi)), ((a 5), .inl (G.2.2.1, 60, .inl txt)), ((a 6), .inl (G.2.1, 4, .inl got)), ((a 7), .inl (G.2.1, 4, .inl row)), ((a 8), .inl (G.2.1, 4, .inl oth))] s.heap := hP
  have hD : va_D (va_A (modW G a ss was beg asi sta txt typ att rea got row oth) s.heap.size) [((a 0), .inr (5, [.ref (a 1), .ref (a 2), .ref (a 3), .ref (a 4), .int sta, .ref (a 5), .int typ, .int att, .int rea, .ref (a 6), .ref (a 7), .ref (a 8)])), ((a 1), .inl (G.2.1, 411, .inl ss)), ((a 2), .inl (G.2.1, 1644, .inl was)), ((a 3), .inl (G.2.1, 411, .inl beg)), ((a 4), .inl (G.2.1, 411, .inl asi)), ((a 5), .inl (G.2.2.1, 60, .inl txt)), ((a 6), .inl (G.2.1, 4, .inl got)), ((a 7), .inl (G.2.1, 4, .inl row)), ((a 8), .inl (G.2.1, 4, .inl oth))] := hD
  unfold fX6_readsForm at hf
  refine lv_iload_n hx hb dX6_readsForm_0 rfl (lv_at hl 1 rfl) ?_
  refine lv_bipush (v := (111 : Int32)) hx hb dX6_readsForm_1 (by decide) ?_
  refine lv_icmp_ne (tgt := 10) hx hb dX6_readsForm_3 (by decide) (fun c1 => ?_) (fun c1 => ?_)
  · have hf := g_ifF c1 hf
    refine lv_iload_n hx hb dX6_readsForm_10 rfl (lv_at hl 1 rfl) ?_
    refine lv_bipush (v := (110 : Int32)) hx hb dX6_readsForm_11 (by decide) ?_
    refine lv_icmp_ne (tgt := 20) hx hb dX6_readsForm_13 (by decide) (fun c2 => ?_) (fun c2 => ?_)
    · have hf := g_ifF c2 hf
      refine lv_iload_n hx hb dX6_readsForm_20 rfl (lv_at hl 1 rfl) ?_
      refine lv_bipush (v := (120 : Int32)) hx hb dX6_readsForm_21 (by decide) ?_
      refine lv_icmp_eq (tgt := 44) hx hb dX6_readsForm_23 (by decide) (fun c3 => ?_) (fun c3 => ?_)
      · have hf := g_ifT c3 hf
        exact kX6_readsForm_b44 C0 _ _ _ _ _ _ _ _ _ _ _ _ _ hf _ _ hP hD hS ls (lv_sub hl [0] rfl)
      · have hf := g_ifF c3 hf
        refine lv_iload_n hx hb dX6_readsForm_26 rfl (lv_at hl 1 rfl) ?_
        refine lv_bipush (v := (100 : Int32)) hx hb dX6_readsForm_27 (by decide) ?_
        refine lv_icmp_eq (tgt := 44) hx hb dX6_readsForm_29 (by decide) (fun c21 => ?_) (fun c21 => ?_)
        · have hf := g_ifT c21 hf
          exact kX6_readsForm_b44 C0 _ _ _ _ _ _ _ _ _ _ _ _ _ hf _ _ hP hD hS ls (lv_sub hl [0] rfl)
        · have hf := g_ifF c21 hf
          refine lv_iload_n hx hb dX6_readsForm_32 rfl (lv_at hl 1 rfl) ?_
          refine lv_bipush (v := (98 : Int32)) hx hb dX6_readsForm_33 (by decide) ?_
          refine lv_icmp_eq (tgt := 44) hx hb dX6_readsForm_35 (by decide) (fun c22 => ?_) (fun c22 => ?_)
          · have hf := g_ifT c22 hf
            exact kX6_readsForm_b44 C0 _ _ _ _ _ _ _ _ _ _ _ _ _ hf _ _ hP hD hS ls (lv_sub hl [0] rfl)
          · have hf := g_ifF c22 hf
            refine lv_iload_n hx hb dX6_readsForm_38 rfl (lv_at hl 1 rfl) ?_
            refine lv_bipush (v := (109 : Int32)) hx hb dX6_readsForm_39 (by decide) ?_
            refine lv_icmp_ne (tgt := 48) hx hb dX6_readsForm_41 (by decide) (fun c23 => ?_) (fun c23 => ?_)
            · have hf := g_ifF c23 hf
              refine lv_iload_n hx hb dX6_readsForm_48 rfl (lv_at hl 1 rfl) ?_
              refine lv_bipush (v := (116 : Int32)) hx hb dX6_readsForm_49 (by decide) ?_
              refine lv_icmp_eq (tgt := 60) hx hb dX6_readsForm_51 (by decide) (fun c24 => ?_) (fun c24 => ?_)
              · have hf := g_ifT c24 hf
                exact kX6_readsForm_b60 C0 _ _ _ _ _ _ _ _ _ _ _ _ _ hf _ _ hP hD hS ls (lv_sub hl [0] rfl)
              · have hf := g_ifF c24 hf
                refine lv_iload_n hx hb dX6_readsForm_54 rfl (lv_at hl 1 rfl) ?_
                refine lv_bipush (v := (107 : Int32)) hx hb dX6_readsForm_55 (by decide) ?_
                refine lv_icmp_ne (tgt := 64) hx hb dX6_readsForm_57 (by decide) (fun c25 => ?_) (fun c25 => ?_)
                · have hf := g_ifF c25 hf
                  refine lv_iconst (v := (-1 : Int32)) hx hb dX6_readsForm_64 (by decide) ?_
                  exact kX6_readsForm_b65 C0 _ _ _ _ _ _ _ _ _ _ _ _ _ _ hf _ _ hP hD hS ls (lv_sub hl [0] rfl)
                · have hf := g_ifT c25 hf
                  exact kX6_readsForm_b60 C0 _ _ _ _ _ _ _ _ _ _ _ _ _ hf _ _ hP hD hS ls (lv_sub hl [0] rfl)
            · have hf := g_ifT c23 hf
              exact kX6_readsForm_b44 C0 _ _ _ _ _ _ _ _ _ _ _ _ _ hf _ _ hP hD hS ls (lv_sub hl [0] rfl)
    · have hf := g_ifT c2 hf
      refine lv_iconst (v := (3 : Int32)) hx hb dX6_readsForm_16 (by decide) ?_
      refine lv_goto (tgt := 65) hx hb dX6_readsForm_17 (by decide) ?_
      exact kX6_readsForm_b65 C0 _ _ _ _ _ _ _ _ _ _ _ _ _ _ hf _ _ hP hD hS ls (lv_sub hl [0] rfl)
  · have hf := g_ifT c1 hf
    refine lv_iconst (v := (4 : Int32)) hx hb dX6_readsForm_6 (by decide) ?_
    refine lv_goto (tgt := 65) hx hb dX6_readsForm_7 (by decide) ?_
    exact kX6_readsForm_b65 C0 _ _ _ _ _ _ _ _ _ _ _ _ _ _ hf _ _ hP hD hS ls (lv_sub hl [0] rfl)
-- TwoShapesModel.does(C)I
abbrev rmX6_does : Room := { frames := 7, cells := 0, slots := 0, locals := 152 }
def fX6_does (p0 : Int32) (ss : Nat → Int32) (was : Nat → Int32) (beg : Nat → Int32) (asi : Nat → Int32) (sta : Int32) (txt : Nat → Int32) (typ : Int32) (att : Int32) (rea : Int32) (got : Nat → Int32) (row : Nat → Int32) (oth : Nat → Int32) : Option (Int32 × (Nat → Int32) × (Nat → Int32) × (Nat → Int32) × (Nat → Int32) × Int32 × (Nat → Int32) × Int32 × Int32 × Int32 × (Nat → Int32) × (Nat → Int32) × (Nat → Int32)) := ((if p0 = (98 : Int32) then g_gd (g_in (0 : Int32) 4) (((fX6_backfills (got (0 : Int32).toNatClampNeg) ss was beg asi sta txt typ att rea got row oth).bind fun r3 => some (r3.1, r3.2.1, r3.2.2.1, r3.2.2.2.1, r3.2.2.2.2.1, r3.2.2.2.2.2.1, r3.2.2.2.2.2.2.1, r3.2.2.2.2.2.2.2.1, r3.2.2.2.2.2.2.2.2.1, r3.2.2.2.2.2.2.2.2.2.1, r3.2.2.2.2.2.2.2.2.2.2.1, r3.2.2.2.2.2.2.2.2.2.2.2.1, r3.2.2.2.2.2.2.2.2.2.2.2.2))) else (if p0 = (100 : Int32) then g_gd (g_in (0 : Int32) 4) (((fX6_drains (got (0 : Int32).toNatClampNeg) ss was beg asi sta txt typ att rea got row oth).bind fun r7 => some (r7.1, r7.2.1, r7.2.2.1, r7.2.2.2.1, r7.2.2.2.2.1, r7.2.2.2.2.2.1, r7.2.2.2.2.2.2.1, r7.2.2.2.2.2.2.2.1, r7.2.2.2.2.2.2.2.2.1, r7.2.2.2.2.2.2.2.2.2.1, r7.2.2.2.2.2.2.2.2.2.2.1, r7.2.2.2.2.2.2.2.2.2.2.2.1, r7.2.2.2.2.2.2.2.2.2.2.2.2))) else (if p0 = (109 : Int32) then g_gd (g_in (0 : Int32) 4) (((fX6_mends (got (0 : Int32).toNatClampNeg) ss was beg asi sta txt typ att rea got row oth).bind fun r11 => some (r11.1, r11.2.1, r11.2.2.1, r11.2.2.2.1, r11.2.2.2.2.1, r11.2.2.2.2.2.1, r11.2.2.2.2.2.2.1, r11.2.2.2.2.2.2.2.1, r11.2.2.2.2.2.2.2.2.1, r11.2.2.2.2.2.2.2.2.2.1, r11.2.2.2.2.2.2.2.2.2.2.1, r11.2.2.2.2.2.2.2.2.2.2.2.1, r11.2.2.2.2.2.2.2.2.2.2.2.2))) else (if p0 = (110 : Int32) then g_gd (g_in (0 : Int32) 4) (g_gd (g_in (1 : Int32) 4) (g_gd (g_in (2 : Int32) 4) (((fX6_writesNew (got (0 : Int32).toNatClampNeg) (got (1 : Int32).toNatClampNeg) (got (2 : Int32).toNatClampNeg) ss was beg asi sta txt typ att rea got row oth).bind fun r17 => some (r17.1, r17.2.1, r17.2.2.1, r17.2.2.2.1, r17.2.2.2.2.1, r17.2.2.2.2.2.1, r17.2.2.2.2.2.2.1, r17.2.2.2.2.2.2.2.1, r17.2.2.2.2.2.2.2.2.1, r17.2.2.2.2.2.2.2.2.2.1, r17.2.2.2.2.2.2.2.2.2.2.1, r17.2.2.2.2.2.2.2.2.2.2.2.1, r17.2.2.2.2.2.2.2.2.2.2.2.2))))) else (if p0 = (111 : Int32) then g_gd (g_in (0 : Int32) 4) (g_gd (g_in (1 : Int32) 4) (g_gd (g_in (2 : Int32) 4) (g_gd (g_in (3 : Int32) 4) (((fX6_writesOld (got (0 : Int32).toNatClampNeg) (got (1 : Int32).toNatClampNeg) (got (2 : Int32).toNatClampNeg) (got (3 : Int32).toNatClampNeg) ss was beg asi sta txt typ att rea got row oth).bind fun r24 => some (r24.1, r24.2.1, r24.2.2.1, r24.2.2.2.1, r24.2.2.2.2.1, r24.2.2.2.2.2.1, r24.2.2.2.2.2.2.1, r24.2.2.2.2.2.2.2.1, r24.2.2.2.2.2.2.2.2.1, r24.2.2.2.2.2.2.2.2.2.1, r24.2.2.2.2.2.2.2.2.2.2.1, r24.2.2.2.2.2.2.2.2.2.2.2.1, r24.2.2.2.2.2.2.2.2.2.2.2.2)))))) else (if p0 = (116 : Int32) then ((fX6_turns ss was beg asi sta txt typ att rea got row oth).bind fun r27 => some (r27.1, r27.2.1, r27.2.2.1, r27.2.2.2.1, r27.2.2.2.2.1, r27.2.2.2.2.2.1, r27.2.2.2.2.2.2.1, r27.2.2.2.2.2.2.2.1, r27.2.2.2.2.2.2.2.2.1, r27.2.2.2.2.2.2.2.2.2.1, r27.2.2.2.2.2.2.2.2.2.2.1, r27.2.2.2.2.2.2.2.2.2.2.2.1, r27.2.2.2.2.2.2.2.2.2.2.2.2)) else (if p0 = (120 : Int32) then g_gd (g_in (0 : Int32) 4) (((fX6_removes (got (0 : Int32).toNatClampNeg) ss was beg asi sta txt typ att rea got row oth).bind fun r31 => some (r31.1, r31.2.1, r31.2.2.1, r31.2.2.2.1, r31.2.2.2.2.1, r31.2.2.2.2.2.1, r31.2.2.2.2.2.2.1, r31.2.2.2.2.2.2.2.1, r31.2.2.2.2.2.2.2.2.1, r31.2.2.2.2.2.2.2.2.2.1, r31.2.2.2.2.2.2.2.2.2.2.1, r31.2.2.2.2.2.2.2.2.2.2.2.1, r31.2.2.2.2.2.2.2.2.2.2.2.2))) else ((fX6_turnsBack ss was beg asi sta txt typ att rea got row oth).bind fun r33 => some (r33.1, r33.2.1, r33.2.2.1, r33.2.2.2.1, r33.2.2.2.2.1, r33.2.2.2.2.2.1, r33.2.2.2.2.2.2.1, r33.2.2.2.2.2.2.2.1, r33.2.2.2.2.2.2.2.2.1, r33.2.2.2.2.2.2.2.2.2.1, r33.2.2.2.2.2.2.2.2.2.2.1, r33.2.2.2.2.2.2.2.2.2.2.2.1, r33.2.2.2.2.2.2.2.2.2.2.2.2))))))))))
set_option maxHeartbeats 4000000 in
set_option maxRecDepth 100000 in
theorem qX6_does (l : Launch) (G : gT) (a : Nat → Nat) {p0 : Int32} {ss : Nat → Int32} {was : Nat → Int32} {beg : Nat → Int32} {asi : Nat → Int32} {sta : Int32} {txt : Nat → Int32} {typ : Int32} {att : Int32} {rea : Int32} {got : Nat → Int32} {row : Nat → Int32} {oth : Nat → Int32} {u : Int32 × (Nat → Int32) × (Nat → Int32) × (Nat → Int32) × (Nat → Int32) × Int32 × (Nat → Int32) × Int32 × Int32 × Int32 × (Nat → Int32) × (Nat → Int32) × (Nat → Int32)} (hf : fX6_does p0 ss was beg asi sta txt typ att rea got row oth = some u) : gC l G yX6_does wsX6_does rmX6_does [.ref (a 0), .int p0] (modW G a ss was beg asi sta txt typ att rea got row oth) (some (.int u.1)) (modW G a u.2.1 u.2.2.1 u.2.2.2.1 u.2.2.2.2.1 u.2.2.2.2.2.1 u.2.2.2.2.2.2.1 u.2.2.2.2.2.2.2.1 u.2.2.2.2.2.2.2.2.1 u.2.2.2.2.2.2.2.2.2.1 u.2.2.2.2.2.2.2.2.2.2.1 u.2.2.2.2.2.2.2.2.2.2.2.1 u.2.2.2.2.2.2.2.2.2.2.2.2) := by
  refine gC.of (cc := cX6_does) (maxL := 2) (ret := (some .int)) (by decide) rfl (Nat.le_of_ble_eq_true rfl) ?_
  intro p e s m below meth c C0 hP hD hS ls hl
  obtain ⟨hx, hb, hr, hts, hown, hlocks, hml, hK⟩ := id C0
  have hl : lv_has ls 2 [(0, .ref (a 0)), (1, .int p0)] := hl
  have hA : ∀ q : Nat, s.heap.size ≤ q → va_A (modW G a ss was beg asi sta txt typ att rea got row oth) s.heap.size q := fun q h => Or.inr h
  have hP : va_P G.1 vwCl [((a 0), .inr (5, [.ref (a 1), .ref (a 2), .ref (a 3), .ref (a 4), .int sta, .ref (a 5), .int typ, .int att, .int rea, .ref (a 6), .ref (a 7), .ref (a 8)])), ((a 1), .inl (G.2.1, 411, .inl ss)), ((a 2), .inl (G.2.1, 1644, .inl was)), ((a 3), .inl (G.2.1, 411, .inl beg)), ((a 4), .inl (G.2.1, 411, .inl asi)), ((a 5), .inl (G.2.2.1, 60, .inl txt)), ((a 6), .inl (G.2.1, 4, .inl got)), ((a 7), .inl (G.2.1, 4, .inl row)), ((a 8), .inl (G.2.1, 4, .inl oth))] s.heap := hP
  have hD : va_D (va_A (modW G a ss was beg asi sta txt typ att rea got row oth) s.heap.size) [((a 0), .inr (5, [.ref (a 1), .ref (a 2), .ref (a 3), .ref (a 4), .int sta, .ref (a 5), .int typ, .int att, .int rea, .ref (a 6), .ref (a 7), .ref (a 8)])), ((a 1), .inl (G.2.1, 411, .inl ss)), ((a 2), .inl (G.2.1, 1644, .inl was)), ((a 3), .inl (G.2.1, 411, .inl beg)), ((a 4), .inl (G.2.1, 411, .inl asi)), ((a 5), .inl (G.2.2.1, 60, .inl txt)), ((a 6), .inl (G.2.1, 4, .inl got)), ((a 7), .inl (G.2.1, 4, .inl row)), ((a 8), .inl (G.2.1, 4, .inl oth))] := hD
  unfold fX6_does at hf
  refine lv_iload_n hx hb dX6_does_0 rfl (lv_at hl 1 rfl) ?_
  by_cases c1 : p0 = (98 : Int32)
  · have hf := g_ifT c1 hf
    refine g_tsw (tgt := 182) (off := 181) hx hb dX6_does_1 (by rw [c1]; decide) (by decide) (by decide) ?_
    refine lv_aload_n hx hb dX6_does_182 rfl (lv_at hl 0 rfl) ?_
    refine lv_aload_n hx hb dX6_does_183 rfl (lv_at hl 0 rfl) ?_
    refine va_get (D := G.1) (ci := 5) (v := .ref (a 6)) (C := RX6) (T := TX6) (N := 12) hx hb hts hX6 hown hK.1 hP 0 rfl rfl 9 (by decide) (hts _ tw_597) (fun _ h9 => h9) rfl dX6_does_184 ?_
    refine lv_iconst (v := (0 : Int32)) hx hb dX6_does_187 (by decide) ?_
    obtain ⟨g2, hf⟩ := g_gdS hf
    refine va_iald hx hb hK.1 hP 6 0 rfl rfl (g_in_vp g2) dX6_does_188 ?_
    obtain ⟨r3, e4, hf⟩ := g_bdS hf
    refine g_contC (st1 := [.int r3.1]) (g_runVC (As := [.int (got (0 : Int32).toNatClampNeg)]) (rest := []) ⟨hx, hb, hml, hown, hts⟩ (qX6_backfills l G a e4) (cwV 1 hts (TB_V TB_id tw_767 tw_769 tw_32 tw_54 tw_770) rfl rfl rfl (by decide +kernel) ⟨Nat.le_of_ble_eq_true rfl, Nat.le_of_ble_eq_true rfl⟩) hK (hP.sub [0, 1, 2, 3, 4, 5, 6, 7, 8] rfl) (hD.sub [0, 1, 2, 3, 4, 5, 6, 7, 8] (by decide) rfl) 0 rfl rfl rfl hl.1 rfl (Nat.le_of_ble_eq_true rfl) dX6_does_189) rfl hP hD hS hA [0, 1, 2, 3, 4, 5, 6, 7, 8] rfl rfl (fun H locs hP hD hS => ?_)
    have hP : va_P G.1 vwCl [((a 0), .inr (5, [.ref (a 1), .ref (a 2), .ref (a 3), .ref (a 4), .int r3.2.2.2.2.2.1, .ref (a 5), .int r3.2.2.2.2.2.2.2.1, .int r3.2.2.2.2.2.2.2.2.1, .int r3.2.2.2.2.2.2.2.2.2.1, .ref (a 6), .ref (a 7), .ref (a 8)])), ((a 1), .inl (G.2.1, 411, .inl r3.2.1)), ((a 2), .inl (G.2.1, 1644, .inl r3.2.2.1)), ((a 3), .inl (G.2.1, 411, .inl r3.2.2.2.1)), ((a 4), .inl (G.2.1, 411, .inl r3.2.2.2.2.1)), ((a 5), .inl (G.2.2.1, 60, .inl r3.2.2.2.2.2.2.1)), ((a 6), .inl (G.2.1, 4, .inl r3.2.2.2.2.2.2.2.2.2.2.1)), ((a 7), .inl (G.2.1, 4, .inl r3.2.2.2.2.2.2.2.2.2.2.2.1)), ((a 8), .inl (G.2.1, 4, .inl r3.2.2.2.2.2.2.2.2.2.2.2.2))] H := hP
    have hD : va_D (va_A (modW G a ss was beg asi sta txt typ att rea got row oth) s.heap.size) [((a 0), .inr (5, [.ref (a 1), .ref (a 2), .ref (a 3), .ref (a 4), .int r3.2.2.2.2.2.1, .ref (a 5), .int r3.2.2.2.2.2.2.2.1, .int r3.2.2.2.2.2.2.2.2.1, .int r3.2.2.2.2.2.2.2.2.2.1, .ref (a 6), .ref (a 7), .ref (a 8)])), ((a 1), .inl (G.2.1, 411, .inl r3.2.1)), ((a 2), .inl (G.2.1, 1644, .inl r3.2.2.1)), ((a 3), .inl (G.2.1, 411, .inl r3.2.2.2.1)), ((a 4), .inl (G.2.1, 411, .inl r3.2.2.2.2.1)), ((a 5), .inl (G.2.2.1, 60, .inl r3.2.2.2.2.2.2.1)), ((a 6), .inl (G.2.1, 4, .inl r3.2.2.2.2.2.2.2.2.2.2.1)), ((a 7), .inl (G.2.1, 4, .inl r3.2.2.2.2.2.2.2.2.2.2.2.1)), ((a 8), .inl (G.2.1, 4, .inl r3.2.2.2.2.2.2.2.2.2.2.2.2))] := hD
    cases hf
    exact g_iretC hx hb hr hlocks hP hD hS dX6_does_192
  have hf := g_ifF c1 hf
  by_cases c5 : p0 = (100 : Int32)
  · have hf := g_ifT c5 hf
    refine g_tsw (tgt := 171) (off := 170) hx hb dX6_does_1 (by rw [c5]; decide) (by decide) (by decide) ?_
    refine lv_aload_n hx hb dX6_does_171 rfl (lv_at hl 0 rfl) ?_
    refine lv_aload_n hx hb dX6_does_172 rfl (lv_at hl 0 rfl) ?_
    refine va_get (D := G.1) (ci := 5) (v := .ref (a 6)) (C := RX6) (T := TX6) (N := 12) hx hb hts hX6 hown hK.1 hP 0 rfl rfl 9 (by decide) (hts _ tw_597) (fun _ h9 => h9) rfl dX6_does_173 ?_
    refine lv_iconst (v := (0 : Int32)) hx hb dX6_does_176 (by decide) ?_
    obtain ⟨g6, hf⟩ := g_gdS hf
    refine va_iald hx hb hK.1 hP 6 0 rfl rfl (g_in_vp g6) dX6_does_177 ?_
    obtain ⟨r7, e8, hf⟩ := g_bdS hf
    refine g_contC (st1 := [.int r7.1]) (g_runVC (As := [.int (got (0 : Int32).toNatClampNeg)]) (rest := []) ⟨hx, hb, hml, hown, hts⟩ (qX6_drains l G a e8) (cwV 1 hts (TB_V TB_id tw_755 tw_757 tw_30 tw_54 tw_758) rfl rfl rfl (by decide +kernel) ⟨Nat.le_of_ble_eq_true rfl, Nat.le_of_ble_eq_true rfl⟩) hK (hP.sub [0, 1, 2, 3, 4, 5, 6, 7, 8] rfl) (hD.sub [0, 1, 2, 3, 4, 5, 6, 7, 8] (by decide) rfl) 0 rfl rfl rfl hl.1 rfl (Nat.le_of_ble_eq_true rfl) dX6_does_178) rfl hP hD hS hA [0, 1, 2, 3, 4, 5, 6, 7, 8] rfl rfl (fun H locs hP hD hS => ?_)
    have hP : va_P G.1 vwCl [((a 0), .inr (5, [.ref (a 1), .ref (a 2), .ref (a 3), .ref (a 4), .int r7.2.2.2.2.2.1, .ref (a 5), .int r7.2.2.2.2.2.2.2.1, .int r7.2.2.2.2.2.2.2.2.1, .int r7.2.2.2.2.2.2.2.2.2.1, .ref (a 6), .ref (a 7), .ref (a 8)])), ((a 1), .inl (G.2.1, 411, .inl r7.2.1)), ((a 2), .inl (G.2.1, 1644, .inl r7.2.2.1)), ((a 3), .inl (G.2.1, 411, .inl r7.2.2.2.1)), ((a 4), .inl (G.2.1, 411, .inl r7.2.2.2.2.1)), ((a 5), .inl (G.2.2.1, 60, .inl r7.2.2.2.2.2.2.1)), ((a 6), .inl (G.2.1, 4, .inl r7.2.2.2.2.2.2.2.2.2.2.1)), ((a 7), .inl (G.2.1, 4, .inl r7.2.2.2.2.2.2.2.2.2.2.2.1)), ((a 8), .inl (G.2.1, 4, .inl r7.2.2.2.2.2.2.2.2.2.2.2.2))] H := hP
    have hD : va_D (va_A (modW G a ss was beg asi sta txt typ att rea got row oth) s.heap.size) [((a 0), .inr (5, [.ref (a 1), .ref (a 2), .ref (a 3), .ref (a 4), .int r7.2.2.2.2.2.1, .ref (a 5), .int r7.2.2.2.2.2.2.2.1, .int r7.2.2.2.2.2.2.2.2.1, .int r7.2.2.2.2.2.2.2.2.2.1, .ref (a 6), .ref (a 7), .ref (a 8)])), ((a 1), .inl (G.2.1, 411, .inl r7.2.1)), ((a 2), .inl (G.2.1, 1644, .inl r7.2.2.1)), ((a 3), .inl (G.2.1, 411, .inl r7.2.2.2.1)), ((a 4), .inl (G.2.1, 411, .inl r7.2.2.2.2.1)), ((a 5), .inl (G.2.2.1, 60, .inl r7.2.2.2.2.2.2.1)), ((a 6), .inl (G.2.1, 4, .inl r7.2.2.2.2.2.2.2.2.2.2.1)), ((a 7), .inl (G.2.1, 4, .inl r7.2.2.2.2.2.2.2.2.2.2.2.1)), ((a 8), .inl (G.2.1, 4, .inl r7.2.2.2.2.2.2.2.2.2.2.2.2))] := hD
    cases hf
    exact g_iretC hx hb hr hlocks hP hD hS dX6_does_181
  have hf := g_ifF c5 hf
  by_cases c9 : p0 = (109 : Int32)
  · have hf := g_ifT c9 hf
    refine g_tsw (tgt := 193) (off := 192) hx hb dX6_does_1 (by rw [c9]; decide) (by decide) (by decide) ?_
    refine lv_aload_n hx hb dX6_does_193 rfl (lv_at hl 0 rfl) ?_
    refine lv_aload_n hx hb dX6_does_194 rfl (lv_at hl 0 rfl) ?_
    refine va_get (D := G.1) (ci := 5) (v := .ref (a 6)) (C := RX6) (T := TX6) (N := 12) hx hb hts hX6 hown hK.1 hP 0 rfl rfl 9 (by decide) (hts _ tw_597) (fun _ h9 => h9) rfl dX6_does_195 ?_
    refine lv_iconst (v := (0 : Int32)) hx hb dX6_does_198 (by decide) ?_
    obtain ⟨g10, hf⟩ := g_gdS hf
    refine va_iald hx hb hK.1 hP 6 0 rfl rfl (g_in_vp g10) dX6_does_199 ?_
    obtain ⟨r11, e12, hf⟩ := g_bdS hf
    refine g_contC (st1 := [.int r11.1]) (g_runVC (As := [.int (got (0 : Int32).toNatClampNeg)]) (rest := []) ⟨hx, hb, hml, hown, hts⟩ (qX6_mends l G a e12) (cwV 1 hts (TB_V TB_id tw_783 tw_785 tw_34 tw_54 tw_786) rfl rfl rfl (by decide +kernel) ⟨Nat.le_of_ble_eq_true rfl, Nat.le_of_ble_eq_true rfl⟩) hK (hP.sub [0, 1, 2, 3, 4, 5, 6, 7, 8] rfl) (hD.sub [0, 1, 2, 3, 4, 5, 6, 7, 8] (by decide) rfl) 0 rfl rfl rfl hl.1 rfl (Nat.le_of_ble_eq_true rfl) dX6_does_200) rfl hP hD hS hA [0, 1, 2, 3, 4, 5, 6, 7, 8] rfl rfl (fun H locs hP hD hS => ?_)
    have hP : va_P G.1 vwCl [((a 0), .inr (5, [.ref (a 1), .ref (a 2), .ref (a 3), .ref (a 4), .int r11.2.2.2.2.2.1, .ref (a 5), .int r11.2.2.2.2.2.2.2.1, .int r11.2.2.2.2.2.2.2.2.1, .int r11.2.2.2.2.2.2.2.2.2.1, .ref (a 6), .ref (a 7), .ref (a 8)])), ((a 1), .inl (G.2.1, 411, .inl r11.2.1)), ((a 2), .inl (G.2.1, 1644, .inl r11.2.2.1)), ((a 3), .inl (G.2.1, 411, .inl r11.2.2.2.1)), ((a 4), .inl (G.2.1, 411, .inl r11.2.2.2.2.1)), ((a 5), .inl (G.2.2.1, 60, .inl r11.2.2.2.2.2.2.1)), ((a 6), .inl (G.2.1, 4, .inl r11.2.2.2.2.2.2.2.2.2.2.1)), ((a 7), .inl (G.2.1, 4, .inl r11.2.2.2.2.2.2.2.2.2.2.2.1)), ((a 8), .inl (G.2.1, 4, .inl r11.2.2.2.2.2.2.2.2.2.2.2.2))] H := hP
    have hD : va_D (va_A (modW G a ss was beg asi sta txt typ att rea got row oth) s.heap.size) [((a 0), .inr (5, [.ref (a 1), .ref (a 2), .ref (a 3), .ref (a 4), .int r11.2.2.2.2.2.1, .ref (a 5), .int r11.2.2.2.2.2.2.2.1, .int r11.2.2.2.2.2.2.2.2.1, .int r11.2.2.2.2.2.2.2.2.2.1, .ref (a 6), .ref (a 7), .ref (a 8)])), ((a 1), .inl (G.2.1, 411, .inl r11.2.1)), ((a 2), .inl (G.2.1, 1644, .inl r11.2.2.1)), ((a 3), .inl (G.2.1, 411, .inl r11.2.2.2.1)), ((a 4), .inl (G.2.1, 411, .inl r11.2.2.2.2.1)), ((a 5), .inl (G.2.2.1, 60, .inl r11.2.2.2.2.2.2.1)), ((a 6), .inl (G.2.1, 4, .inl r11.2.2.2.2.2.2.2.2.2.2.1)), ((a 7), .inl (G.2.1, 4, .inl r11.2.2.2.2.2.2.2.2.2.2.2.1)), ((a 8), .inl (G.2.1, 4, .inl r11.2.2.2.2.2.2.2.2.2.2.2.2))] := hD
    cases hf
    exact g_iretC hx hb hr hlocks hP hD hS dX6_does_203
  have hf := g_ifF c9 hf
  by_cases c13 : p0 = (110 : Int32)
  · have hf := g_ifT c13 hf
    refine g_tsw (tgt := 137) (off := 136) hx hb dX6_does_1 (by rw [c13]; decide) (by decide) (by decide) ?_
    refine lv_aload_n hx hb dX6_does_137 rfl (lv_at hl 0 rfl) ?_
    refine lv_aload_n hx hb dX6_does_138 rfl (lv_at hl 0 rfl) ?_
    refine va_get (D := G.1) (ci := 5) (v := .ref (a 6)) (C := RX6) (T := TX6) (N := 12) hx hb hts hX6 hown hK.1 hP 0 rfl rfl 9 (by decide) (hts _ tw_597) (fun _ h9 => h9) rfl dX6_does_139 ?_
    refine lv_iconst (v := (0 : Int32)) hx hb dX6_does_142 (by decide) ?_
    obtain ⟨g14, hf⟩ := g_gdS hf
    refine va_iald hx hb hK.1 hP 6 0 rfl rfl (g_in_vp g14) dX6_does_143 ?_
    refine lv_aload_n hx hb dX6_does_144 rfl (lv_at hl 0 rfl) ?_
    refine va_get (D := G.1) (ci := 5) (v := .ref (a 6)) (C := RX6) (T := TX6) (N := 12) hx hb hts hX6 hown hK.1 hP 0 rfl rfl 9 (by decide) (hts _ tw_597) (fun _ h9 => h9) rfl dX6_does_145 ?_
    refine lv_iconst (v := (1 : Int32)) hx hb dX6_does_148 (by decide) ?_
    obtain ⟨g15, hf⟩ := g_gdS hf
    refine va_iald hx hb hK.1 hP 6 0 rfl rfl (g_in_vp g15) dX6_does_149 ?_
    refine lv_aload_n hx hb dX6_does_150 rfl (lv_at hl 0 rfl) ?_
    refine va_get (D := G.1) (ci := 5) (v := .ref (a 6)) (C := RX6) (T := TX6) (N := 12) hx hb hts hX6 hown hK.1 hP 0 rfl rfl 9 (by decide) (hts _ tw_597) (fun _ h9 => h9) rfl dX6_does_151 ?_
    refine lv_iconst (v := (2 : Int32)) hx hb dX6_does_154 (by decide) ?_
    obtain ⟨g16, hf⟩ := g_gdS hf
    refine va_iald hx hb hK.1 hP 6 0 rfl rfl (g_in_vp g16) dX6_does_155 ?_
    obtain ⟨r17, e18, hf⟩ := g_bdS hf
    refine g_contC (st1 := [.int r17.1]) (g_runVC (As := [.int (got (0 : Int32).toNatClampNeg), .int (got (1 : Int32).toNatClampNeg), .int (got (2 : Int32).toNatClampNeg)]) (rest := []) ⟨hx, hb, hml, hown, hts⟩ (qX6_writesNew l G a e18) (cwV 3 hts (TB_V TB_id tw_739 tw_741 tw_28 tw_54 tw_742) rfl rfl rfl (by decide +kernel) ⟨Nat.le_of_ble_eq_true rfl, Nat.le_of_ble_eq_true rfl⟩) hK (hP.sub [0, 1, 2, 3, 4, 5, 6, 7, 8] rfl) (hD.sub [0, 1, 2, 3, 4, 5, 6, 7, 8] (by decide) rfl) 0 rfl rfl rfl hl.1 rfl (Nat.le_of_ble_eq_true rfl) dX6_does_156) rfl hP hD hS hA [0, 1, 2, 3, 4, 5, 6, 7, 8] rfl rfl (fun H locs hP hD hS => ?_)
    have hP : va_P G.1 vwCl [((a 0), .inr (5, [.ref (a 1), .ref (a 2), .ref (a 3), .ref (a 4), .int r17.2.2.2.2.2.1, .ref (a 5), .int r17.2.2.2.2.2.2.2.1, .int r17.2.2.2.2.2.2.2.2.1, .int r17.2.2.2.2.2.2.2.2.2.1, .ref (a 6), .ref (a 7), .ref (a 8)])), ((a 1), .inl (G.2.1, 411, .inl r17.2.1)), ((a 2), .inl (G.2.1, 1644, .inl r17.2.2.1)), ((a 3), .inl (G.2.1, 411, .inl r17.2.2.2.1)), ((a 4), .inl (G.2.1, 411, .inl r17.2.2.2.2.1)), ((a 5), .inl (G.2.2.1, 60, .inl r17.2.2.2.2.2.2.1)), ((a 6), .inl (G.2.1, 4, .inl r17.2.2.2.2.2.2.2.2.2.2.1)), ((a 7), .inl (G.2.1, 4, .inl r17.2.2.2.2.2.2.2.2.2.2.2.1)), ((a 8), .inl (G.2.1, 4, .inl r17.2.2.2.2.2.2.2.2.2.2.2.2))] H := hP
    have hD : va_D (va_A (modW G a ss was beg asi sta txt typ att rea got row oth) s.heap.size) [((a 0), .inr (5, [.ref (a 1), .ref (a 2), .ref (a 3), .ref (a 4), .int r17.2.2.2.2.2.1, .ref (a 5), .int r17.2.2.2.2.2.2.2.1, .int r17.2.2.2.2.2.2.2.2.1, .int r17.2.2.2.2.2.2.2.2.2.1, .ref (a 6), .ref (a 7), .ref (a 8)])), ((a 1), .inl (G.2.1, 411, .inl r17.2.1)), ((a 2), .inl (G.2.1, 1644, .inl r17.2.2.1)), ((a 3), .inl (G.2.1, 411, .inl r17.2.2.2.1)), ((a 4), .inl (G.2.1, 411, .inl r17.2.2.2.2.1)), ((a 5), .inl (G.2.2.1, 60, .inl r17.2.2.2.2.2.2.1)), ((a 6), .inl (G.2.1, 4, .inl r17.2.2.2.2.2.2.2.2.2.2.1)), ((a 7), .inl (G.2.1, 4, .inl r17.2.2.2.2.2.2.2.2.2.2.2.1)), ((a 8), .inl (G.2.1, 4, .inl r17.2.2.2.2.2.2.2.2.2.2.2.2))] := hD
    cases hf
    exact g_iretC hx hb hr hlocks hP hD hS dX6_does_159
  have hf := g_ifF c13 hf
  by_cases c19 : p0 = (111 : Int32)
  · have hf := g_ifT c19 hf
    refine g_tsw (tgt := 108) (off := 107) hx hb dX6_does_1 (by rw [c19]; decide) (by decide) (by decide) ?_
    refine lv_aload_n hx hb dX6_does_108 rfl (lv_at hl 0 rfl) ?_
    refine lv_aload_n hx hb dX6_does_109 rfl (lv_at hl 0 rfl) ?_
    refine va_get (D := G.1) (ci := 5) (v := .ref (a 6)) (C := RX6) (T := TX6) (N := 12) hx hb hts hX6 hown hK.1 hP 0 rfl rfl 9 (by decide) (hts _ tw_597) (fun _ h9 => h9) rfl dX6_does_110 ?_
    refine lv_iconst (v := (0 : Int32)) hx hb dX6_does_113 (by decide) ?_
    obtain ⟨g20, hf⟩ := g_gdS hf
    refine va_iald hx hb hK.1 hP 6 0 rfl rfl (g_in_vp g20) dX6_does_114 ?_
    refine lv_aload_n hx hb dX6_does_115 rfl (lv_at hl 0 rfl) ?_
    refine va_get (D := G.1) (ci := 5) (v := .ref (a 6)) (C := RX6) (T := TX6) (N := 12) hx hb hts hX6 hown hK.1 hP 0 rfl rfl 9 (by decide) (hts _ tw_597) (fun _ h9 => h9) rfl dX6_does_116 ?_
    refine lv_iconst (v := (1 : Int32)) hx hb dX6_does_119 (by decide) ?_
    obtain ⟨g21, hf⟩ := g_gdS hf
    refine va_iald hx hb hK.1 hP 6 0 rfl rfl (g_in_vp g21) dX6_does_120 ?_
    refine lv_aload_n hx hb dX6_does_121 rfl (lv_at hl 0 rfl) ?_
    refine va_get (D := G.1) (ci := 5) (v := .ref (a 6)) (C := RX6) (T := TX6) (N := 12) hx hb hts hX6 hown hK.1 hP 0 rfl rfl 9 (by decide) (hts _ tw_597) (fun _ h9 => h9) rfl dX6_does_122 ?_
    refine lv_iconst (v := (2 : Int32)) hx hb dX6_does_125 (by decide) ?_
    obtain ⟨g22, hf⟩ := g_gdS hf
    refine va_iald hx hb hK.1 hP 6 0 rfl rfl (g_in_vp g22) dX6_does_126 ?_
    refine lv_aload_n hx hb dX6_does_127 rfl (lv_at hl 0 rfl) ?_
    refine va_get (D := G.1) (ci := 5) (v := .ref (a 6)) (C := RX6) (T := TX6) (N := 12) hx hb hts hX6 hown hK.1 hP 0 rfl rfl 9 (by decide) (hts _ tw_597) (fun _ h9 => h9) rfl dX6_does_128 ?_
    refine lv_iconst (v := (3 : Int32)) hx hb dX6_does_131 (by decide) ?_
    obtain ⟨g23, hf⟩ := g_gdS hf
    refine va_iald hx hb hK.1 hP 6 0 rfl rfl (g_in_vp g23) dX6_does_132 ?_
    obtain ⟨r24, e25, hf⟩ := g_bdS hf
    refine g_contC (st1 := [.int r24.1]) (g_runVC (As := [.int (got (0 : Int32).toNatClampNeg), .int (got (1 : Int32).toNatClampNeg), .int (got (2 : Int32).toNatClampNeg), .int (got (3 : Int32).toNatClampNeg)]) (rest := []) ⟨hx, hb, hml, hown, hts⟩ (qX6_writesOld l G a e25) (cwV 4 hts (TB_V TB_id tw_707 tw_709 tw_23 tw_54 tw_710) rfl rfl rfl (by decide +kernel) ⟨Nat.le_of_ble_eq_true rfl, Nat.le_of_ble_eq_true rfl⟩) hK (hP.sub [0, 1, 2, 3, 4, 5, 6, 7, 8] rfl) (hD.sub [0, 1, 2, 3, 4, 5, 6, 7, 8] (by decide) rfl) 0 rfl rfl rfl hl.1 rfl (Nat.le_of_ble_eq_true rfl) dX6_does_133) rfl hP hD hS hA [0, 1, 2, 3, 4, 5, 6, 7, 8] rfl rfl (fun H locs hP hD hS => ?_)
    have hP : va_P G.1 vwCl [((a 0), .inr (5, [.ref (a 1), .ref (a 2), .ref (a 3), .ref (a 4), .int r24.2.2.2.2.2.1, .ref (a 5), .int r24.2.2.2.2.2.2.2.1, .int r24.2.2.2.2.2.2.2.2.1, .int r24.2.2.2.2.2.2.2.2.2.1, .ref (a 6), .ref (a 7), .ref (a 8)])), ((a 1), .inl (G.2.1, 411, .inl r24.2.1)), ((a 2), .inl (G.2.1, 1644, .inl r24.2.2.1)), ((a 3), .inl (G.2.1, 411, .inl r24.2.2.2.1)), ((a 4), .inl (G.2.1, 411, .inl r24.2.2.2.2.1)), ((a 5), .inl (G.2.2.1, 60, .inl r24.2.2.2.2.2.2.1)), ((a 6), .inl (G.2.1, 4, .inl r24.2.2.2.2.2.2.2.2.2.2.1)), ((a 7), .inl (G.2.1, 4, .inl r24.2.2.2.2.2.2.2.2.2.2.2.1)), ((a 8), .inl (G.2.1, 4, .inl r24.2.2.2.2.2.2.2.2.2.2.2.2))] H := hP
    have hD : va_D (va_A (modW G a ss was beg asi sta txt typ att rea got row oth) s.heap.size) [((a 0), .inr (5, [.ref (a 1), .ref (a 2), .ref (a 3), .ref (a 4), .int r24.2.2.2.2.2.1, .ref (a 5), .int r24.2.2.2.2.2.2.2.1, .int r24.2.2.2.2.2.2.2.2.1, .int r24.2.2.2.2.2.2.2.2.2.1, .ref (a 6), .ref (a 7), .ref (a 8)])), ((a 1), .inl (G.2.1, 411, .inl r24.2.1)), ((a 2), .inl (G.2.1, 1644, .inl r24.2.2.1)), ((a 3), .inl (G.2.1, 411, .inl r24.2.2.2.1)), ((a 4), .inl (G.2.1, 411, .inl r24.2.2.2.2.1)), ((a 5), .inl (G.2.2.1, 60, .inl r24.2.2.2.2.2.2.1)), ((a 6), .inl (G.2.1, 4, .inl r24.2.2.2.2.2.2.2.2.2.2.1)), ((a 7), .inl (G.2.1, 4, .inl r24.2.2.2.2.2.2.2.2.2.2.2.1)), ((a 8), .inl (G.2.1, 4, .inl r24.2.2.2.2.2.2.2.2.2.2.2.2))] := hD
    cases hf
    exact g_iretC hx hb hr hlocks hP hD hS dX6_does_136
  have hf := g_ifF c19 hf
  by_cases c26 : p0 = (116 : Int32)
  · have hf := g_ifT c26 hf
    refine g_tsw (tgt := 204) (off := 203) hx hb dX6_does_1 (by rw [c26]; decide) (by decide) (by decide) ?_
    refine lv_aload_n hx hb dX6_does_204 rfl (lv_at hl 0 rfl) ?_
    obtain ⟨r27, e28, hf⟩ := g_bdS hf
    refine g_contC (st1 := [.int r27.1]) (g_runVC (As := []) (rest := []) ⟨hx, hb, hml, hown, hts⟩ (qX6_turns l G a e28) (cwV 0 hts (TB_V TB_id tw_659 tw_661 tw_14 tw_54 tw_662) rfl rfl rfl (by decide +kernel) ⟨Nat.le_of_ble_eq_true rfl, Nat.le_of_ble_eq_true rfl⟩) hK (hP.sub [0, 1, 2, 3, 4, 5, 6, 7, 8] rfl) (hD.sub [0, 1, 2, 3, 4, 5, 6, 7, 8] (by decide) rfl) 0 rfl rfl rfl hl.1 rfl (Nat.le_of_ble_eq_true rfl) dX6_does_205) rfl hP hD hS hA [0, 1, 2, 3, 4, 5, 6, 7, 8] rfl rfl (fun H locs hP hD hS => ?_)
    have hP : va_P G.1 vwCl [((a 0), .inr (5, [.ref (a 1), .ref (a 2), .ref (a 3), .ref (a 4), .int r27.2.2.2.2.2.1, .ref (a 5), .int r27.2.2.2.2.2.2.2.1, .int r27.2.2.2.2.2.2.2.2.1, .int r27.2.2.2.2.2.2.2.2.2.1, .ref (a 6), .ref (a 7), .ref (a 8)])), ((a 1), .inl (G.2.1, 411, .inl r27.2.1)), ((a 2), .inl (G.2.1, 1644, .inl r27.2.2.1)), ((a 3), .inl (G.2.1, 411, .inl r27.2.2.2.1)), ((a 4), .inl (G.2.1, 411, .inl r27.2.2.2.2.1)), ((a 5), .inl (G.2.2.1, 60, .inl r27.2.2.2.2.2.2.1)), ((a 6), .inl (G.2.1, 4, .inl r27.2.2.2.2.2.2.2.2.2.2.1)), ((a 7), .inl (G.2.1, 4, .inl r27.2.2.2.2.2.2.2.2.2.2.2.1)), ((a 8), .inl (G.2.1, 4, .inl r27.2.2.2.2.2.2.2.2.2.2.2.2))] H := hP
    have hD : va_D (va_A (modW G a ss was beg asi sta txt typ att rea got row oth) s.heap.size) [((a 0), .inr (5, [.ref (a 1), .ref (a 2), .ref (a 3), .ref (a 4), .int r27.2.2.2.2.2.1, .ref (a 5), .int r27.2.2.2.2.2.2.2.1, .int r27.2.2.2.2.2.2.2.2.1, .int r27.2.2.2.2.2.2.2.2.2.1, .ref (a 6), .ref (a 7), .ref (a 8)])), ((a 1), .inl (G.2.1, 411, .inl r27.2.1)), ((a 2), .inl (G.2.1, 1644, .inl r27.2.2.1)), ((a 3), .inl (G.2.1, 411, .inl r27.2.2.2.1)), ((a 4), .inl (G.2.1, 411, .inl r27.2.2.2.2.1)), ((a 5), .inl (G.2.2.1, 60, .inl r27.2.2.2.2.2.2.1)), ((a 6), .inl (G.2.1, 4, .inl r27.2.2.2.2.2.2.2.2.2.2.1)), ((a 7), .inl (G.2.1, 4, .inl r27.2.2.2.2.2.2.2.2.2.2.2.1)), ((a 8), .inl (G.2.1, 4, .inl r27.2.2.2.2.2.2.2.2.2.2.2.2))] := hD
    cases hf
    exact g_iretC hx hb hr hlocks hP hD hS dX6_does_208
  have hf := g_ifF c26 hf
  by_cases c29 : p0 = (120 : Int32)
  · have hf := g_ifT c29 hf
    refine g_tsw (tgt := 160) (off := 159) hx hb dX6_does_1 (by rw [c29]; decide) (by decide) (by decide) ?_
    refine lv_aload_n hx hb dX6_does_160 rfl (lv_at hl 0 rfl) ?_
    refine lv_aload_n hx hb dX6_does_161 rfl (lv_at hl 0 rfl) ?_
    refine va_get (D := G.1) (ci := 5) (v := .ref (a 6)) (C := RX6) (T := TX6) (N := 12) hx hb hts hX6 hown hK.1 hP 0 rfl rfl 9 (by decide) (hts _ tw_597) (fun _ h9 => h9) rfl dX6_does_162 ?_
    refine lv_iconst (v := (0 : Int32)) hx hb dX6_does_165 (by decide) ?_
    obtain ⟨g30, hf⟩ := g_gdS hf
    refine va_iald hx hb hK.1 hP 6 0 rfl rfl (g_in_vp g30) dX6_does_166 ?_
    obtain ⟨r31, e32, hf⟩ := g_bdS hf
    refine g_contC (st1 := [.int r31.1]) (g_runVC (As := [.int (got (0 : Int32).toNatClampNeg)]) (rest := []) ⟨hx, hb, hml, hown, hts⟩ (qX6_removes l G a e32) (cwV 1 hts (TB_V TB_id tw_747 tw_749 tw_29 tw_54 tw_750) rfl rfl rfl (by decide +kernel) ⟨Nat.le_of_ble_eq_true rfl, Nat.le_of_ble_eq_true rfl⟩) hK (hP.sub [0, 1, 2, 3, 4, 5, 6, 7, 8] rfl) (hD.sub [0, 1, 2, 3, 4, 5, 6, 7, 8] (by decide) rfl) 0 rfl rfl rfl hl.1 rfl (Nat.le_of_ble_eq_true rfl) dX6_does_167) rfl hP hD hS hA [0, 1, 2, 3, 4, 5, 6, 7, 8] rfl rfl (fun H locs hP hD hS => ?_)
    have hP : va_P G.1 vwCl [((a 0), .inr (5, [.ref (a 1), .ref (a 2), .ref (a 3), .ref (a 4), .int r31.2.2.2.2.2.1, .ref (a 5), .int r31.2.2.2.2.2.2.2.1, .int r31.2.2.2.2.2.2.2.2.1, .int r31.2.2.2.2.2.2.2.2.2.1, .ref (a 6), .ref (a 7), .ref (a 8)])), ((a 1), .inl (G.2.1, 411, .inl r31.2.1)), ((a 2), .inl (G.2.1, 1644, .inl r31.2.2.1)), ((a 3), .inl (G.2.1, 411, .inl r31.2.2.2.1)), ((a 4), .inl (G.2.1, 411, .inl r31.2.2.2.2.1)), ((a 5), .inl (G.2.2.1, 60, .inl r31.2.2.2.2.2.2.1)), ((a 6), .inl (G.2.1, 4, .inl r31.2.2.2.2.2.2.2.2.2.2.1)), ((a 7), .inl (G.2.1, 4, .inl r31.2.2.2.2.2.2.2.2.2.2.2.1)), ((a 8), .inl (G.2.1, 4, .inl r31.2.2.2.2.2.2.2.2.2.2.2.2))] H := hP
    have hD : va_D (va_A (modW G a ss was beg asi sta txt typ att rea got row oth) s.heap.size) [((a 0), .inr (5, [.ref (a 1), .ref (a 2), .ref (a 3), .ref (a 4), .int r31.2.2.2.2.2.1, .ref (a 5), .int r31.2.2.2.2.2.2.2.1, .int r31.2.2.2.2.2.2.2.2.1, .int r31.2.2.2.2.2.2.2.2.2.1, .ref (a 6), .ref (a 7), .ref (a 8)])), ((a 1), .inl (G.2.1, 411, .inl r31.2.1)), ((a 2), .inl (G.2.1, 1644, .inl r31.2.2.1)), ((a 3), .inl (G.2.1, 411, .inl r31.2.2.2.1)), ((a 4), .inl (G.2.1, 411, .inl r31.2.2.2.2.1)), ((a 5), .inl (G.2.2.1, 60, .inl r31.2.2.2.2.2.2.1)), ((a 6), .inl (G.2.1, 4, .inl r31.2.2.2.2.2.2.2.2.2.2.1)), ((a 7), .inl (G.2.1, 4, .inl r31.2.2.2.2.2.2.2.2.2.2.2.1)), ((a 8), .inl (G.2.1, 4, .inl r31.2.2.2.2.2.2.2.2.2.2.2.2))] := hD
    cases hf
    exact g_iretC hx hb hr hlocks hP hD hS dX6_does_170
  have hf := g_ifF c29 hf
  refine g_tsw (tgt := 209) (off := 208) hx hb dX6_does_1 (g_swd (208) (98) (120) #[181, 208, 170, 208, 208, 208, 208, 208, 208, 208, 208, 192, 136, 107, 208, 208, 208, 208, 203, 208, 208, 208, 159] [98, 100, 109, 110, 111, 116, 120] (by decide) (by decide) (by simp only [List.mem_cons, List.not_mem_nil, or_false, not_or]; exact ⟨lv_neT c1 rfl, lv_neT c5 rfl, lv_neT c9 rfl, lv_neT c13 rfl, lv_neT c19 rfl, lv_neT c26 rfl, lv_neT c29 rfl⟩)) (by decide) (by decide) ?_
  refine lv_aload_n hx hb dX6_does_209 rfl (lv_at hl 0 rfl) ?_
  obtain ⟨r33, e34, hf⟩ := g_bdS hf
  refine g_contC (st1 := [.int r33.1]) (g_runVC (As := []) (rest := []) ⟨hx, hb, hml, hown, hts⟩ (qX6_turnsBack l G a e34) (cwV 0 hts (TB_V TB_id tw_687 tw_689 tw_20 tw_54 tw_690) rfl rfl rfl (by decide +kernel) ⟨Nat.le_of_ble_eq_true rfl, Nat.le_of_ble_eq_true rfl⟩) hK (hP.sub [0, 1, 2, 3, 4, 5, 6, 7, 8] rfl) (hD.sub [0, 1, 2, 3, 4, 5, 6, 7, 8] (by decide) rfl) 0 rfl rfl rfl hl.1 rfl (Nat.le_of_ble_eq_true rfl) dX6_does_210) rfl hP hD hS hA [0, 1, 2, 3, 4, 5, 6, 7, 8] rfl rfl (fun H locs hP hD hS => ?_)
  have hP : va_P G.1 vwCl [((a 0), .inr (5, [.ref (a 1), .ref (a 2), .ref (a 3), .ref (a 4), .int r33.2.2.2.2.2.1, .ref (a 5), .int r33.2.2.2.2.2.2.2.1, .int r33.2.2.2.2.2.2.2.2.1, .int r33.2.2.2.2.2.2.2.2.2.1, .ref (a 6), .ref (a 7), .ref (a 8)])), ((a 1), .inl (G.2.1, 411, .inl r33.2.1)), ((a 2), .inl (G.2.1, 1644, .inl r33.2.2.1)), ((a 3), .inl (G.2.1, 411, .inl r33.2.2.2.1)), ((a 4), .inl (G.2.1, 411, .inl r33.2.2.2.2.1)), ((a 5), .inl (G.2.2.1, 60, .inl r33.2.2.2.2.2.2.1)), ((a 6), .inl (G.2.1, 4, .inl r33.2.2.2.2.2.2.2.2.2.2.1)), ((a 7), .inl (G.2.1, 4, .inl r33.2.2.2.2.2.2.2.2.2.2.2.1)), ((a 8), .inl (G.2.1, 4, .inl r33.2.2.2.2.2.2.2.2.2.2.2.2))] H := hP
  have hD : va_D (va_A (modW G a ss was beg asi sta txt typ att rea got row oth) s.heap.size) [((a 0), .inr (5, [.ref (a 1), .ref (a 2), .ref (a 3), .ref (a 4), .int r33.2.2.2.2.2.1, .ref (a 5), .int r33.2.2.2.2.2.2.2.1, .int r33.2.2.2.2.2.2.2.2.1, .int r33.2.2.2.2.2.2.2.2.2.1, .ref (a 6), .ref (a 7), .ref (a 8)])), ((a 1), .inl (G.2.1, 411, .inl r33.2.1)), ((a 2), .inl (G.2.1, 1644, .inl r33.2.2.1)), ((a 3), .inl (G.2.1, 411, .inl r33.2.2.2.1)), ((a 4), .inl (G.2.1, 411, .inl r33.2.2.2.2.1)), ((a 5), .inl (G.2.2.1, 60, .inl r33.2.2.2.2.2.2.1)), ((a 6), .inl (G.2.1, 4, .inl r33.2.2.2.2.2.2.2.2.2.2.1)), ((a 7), .inl (G.2.1, 4, .inl r33.2.2.2.2.2.2.2.2.2.2.2.1)), ((a 8), .inl (G.2.1, 4, .inl r33.2.2.2.2.2.2.2.2.2.2.2.2))] := hD
  cases hf
  exact g_iretC hx hb hr hlocks hP hD hS dX6_does_213
-- TwoShapesModel.doesNext()I
abbrev rmX6_doesNext : Room := { frames := 8, cells := 0, slots := 0, locals := 173 }
def fX6_doesNext (ss : Nat → Int32) (was : Nat → Int32) (beg : Nat → Int32) (asi : Nat → Int32) (sta : Int32) (txt : Nat → Int32) (typ : Int32) (att : Int32) (rea : Int32) (got : Nat → Int32) (row : Nat → Int32) (oth : Nat → Int32) : Option (Int32 × (Nat → Int32) × (Nat → Int32) × (Nat → Int32) × (Nat → Int32) × Int32 × (Nat → Int32) × Int32 × Int32 × Int32 × (Nat → Int32) × (Nat → Int32) × (Nat → Int32)) := g_gd (g_in att 60) (((fX6_readsForm (txt att.toNatClampNeg) ss was beg asi sta txt typ (att + (1 : Int32)) rea got row oth).bind fun r2 => (if r2.1 = (0 : Int32) then some ((1 : Int32), r2.2.1, r2.2.2.1, r2.2.2.2.1, r2.2.2.2.2.1, r2.2.2.2.2.2.1, r2.2.2.2.2.2.2.1, r2.2.2.2.2.2.2.2.1, r2.2.2.2.2.2.2.2.2.1, r2.2.2.2.2.2.2.2.2.2.1, r2.2.2.2.2.2.2.2.2.2.2.1, r2.2.2.2.2.2.2.2.2.2.2.2.1, r2.2.2.2.2.2.2.2.2.2.2.2.2) else ((fX6_does (txt att.toNatClampNeg) r2.2.1 r2.2.2.1 r2.2.2.2.1 r2.2.2.2.2.1 r2.2.2.2.2.2.1 r2.2.2.2.2.2.2.1 r2.2.2.2.2.2.2.2.1 r2.2.2.2.2.2.2.2.2.1 r2.2.2.2.2.2.2.2.2.2.1 r2.2.2.2.2.2.2.2.2.2.2.1 r2.2.2.2.2.2.2.2.2.2.2.2.1 r2.2.2.2.2.2.2.2.2.2.2.2.2).bind fun r5 => (if r5.1 ≤ (-1000001 : Int32) then (if r5.1 = (-1000001 : Int32) then some ((2 : Int32), r5.2.1, r5.2.2.1, r5.2.2.2.1, r5.2.2.2.2.1, r5.2.2.2.2.2.1, r5.2.2.2.2.2.2.1, r5.2.2.2.2.2.2.2.1, r5.2.2.2.2.2.2.2.2.1, r5.2.2.2.2.2.2.2.2.2.1, r5.2.2.2.2.2.2.2.2.2.2.1, r5.2.2.2.2.2.2.2.2.2.2.2.1, r5.2.2.2.2.2.2.2.2.2.2.2.2) else some ((3 : Int32), r5.2.1, r5.2.2.1, r5.2.2.2.1, r5.2.2.2.2.1, r5.2.2.2.2.2.1, r5.2.2.2.2.2.2.1, r5.2.2.2.2.2.2.2.1, r5.2.2.2.2.2.2.2.2.1, r5.2.2.2.2.2.2.2.2.2.1, r5.2.2.2.2.2.2.2.2.2.2.1, r5.2.2.2.2.2.2.2.2.2.2.2.1, r5.2.2.2.2.2.2.2.2.2.2.2.2)) else some ((0 : Int32), r5.2.1, r5.2.2.1, r5.2.2.2.1, r5.2.2.2.2.1, r5.2.2.2.2.2.1, r5.2.2.2.2.2.2.1, r5.2.2.2.2.2.2.2.1, r5.2.2.2.2.2.2.2.2.1, r5.2.2.2.2.2.2.2.2.2.1, r5.2.2.2.2.2.2.2.2.2.2.1, r5.2.2.2.2.2.2.2.2.2.2.2.1, r5.2.2.2.2.2.2.2.2.2.2.2.2))))))
set_option maxHeartbeats 4000000 in
set_option maxRecDepth 100000 in
theorem qX6_doesNext (l : Launch) (G : gT) (a : Nat → Nat) {ss : Nat → Int32} {was : Nat → Int32} {beg : Nat → Int32} {asi : Nat → Int32} {sta : Int32} {txt : Nat → Int32} {typ : Int32} {att : Int32} {rea : Int32} {got : Nat → Int32} {row : Nat → Int32} {oth : Nat → Int32} {u : Int32 × (Nat → Int32) × (Nat → Int32) × (Nat → Int32) × (Nat → Int32) × Int32 × (Nat → Int32) × Int32 × Int32 × Int32 × (Nat → Int32) × (Nat → Int32) × (Nat → Int32)} (hf : fX6_doesNext ss was beg asi sta txt typ att rea got row oth = some u) : gC l G yX6_doesNext wsX6_doesNext rmX6_doesNext [.ref (a 0)] (modW G a ss was beg asi sta txt typ att rea got row oth) (some (.int u.1)) (modW G a u.2.1 u.2.2.1 u.2.2.2.1 u.2.2.2.2.1 u.2.2.2.2.2.1 u.2.2.2.2.2.2.1 u.2.2.2.2.2.2.2.1 u.2.2.2.2.2.2.2.2.1 u.2.2.2.2.2.2.2.2.2.1 u.2.2.2.2.2.2.2.2.2.2.1 u.2.2.2.2.2.2.2.2.2.2.2.1 u.2.2.2.2.2.2.2.2.2.2.2.2) := by
  refine gC.of (cc := cX6_doesNext) (maxL := 3) (ret := (some .int)) (by decide) rfl (Nat.le_of_ble_eq_true rfl) ?_
  intro p e s m below meth c C0 hP hD hS ls hl
  obtain ⟨hx, hb, hr, hts, hown, hlocks, hml, hK⟩ := id C0
  have hl : lv_has ls 3 [(0, .ref (a 0))] := hl
  have hA : ∀ q : Nat, s.heap.size ≤ q → va_A (modW G a ss was beg asi sta txt typ att rea got row oth) s.heap.size q := fun q h => Or.inr h
  have hP : va_P G.1 vwCl [((a 0), .inr (5, [.ref (a 1), .ref (a 2), .ref (a 3), .ref (a 4), .int sta, .ref (a 5), .int typ, .int att, .int rea, .ref (a 6), .ref (a 7), .ref (a 8)])), ((a 1), .inl (G.2.1, 411, .inl ss)), ((a 2), .inl (G.2.1, 1644, .inl was)), ((a 3), .inl (G.2.1, 411, .inl beg)), ((a 4), .inl (G.2.1, 411, .inl asi)), ((a 5), .inl (G.2.2.1, 60, .inl txt)), ((a 6), .inl (G.2.1, 4, .inl got)), ((a 7), .inl (G.2.1, 4, .inl row)), ((a 8), .inl (G.2.1, 4, .inl oth))] s.heap := hP
  have hD : va_D (va_A (modW G a ss was beg asi sta txt typ att rea got row oth) s.heap.size) [((a 0), .inr (5, [.ref (a 1), .ref (a 2), .ref (a 3), .ref (a 4), .int sta, .ref (a 5), .int typ, .int att, .int rea, .ref (a 6), .ref (a 7), .ref (a 8)])), ((a 1), .inl (G.2.1, 411, .inl ss)), ((a 2), .inl (G.2.1, 1644, .inl was)), ((a 3), .inl (G.2.1, 411, .inl beg)), ((a 4), .inl (G.2.1, 411, .inl asi)), ((a 5), .inl (G.2.2.1, 60, .inl txt)), ((a 6), .inl (G.2.1, 4, .inl got)), ((a 7), .inl (G.2.1, 4, .inl row)), ((a 8), .inl (G.2.1, 4, .inl oth))] := hD
  unfold fX6_doesNext at hf
  refine lv_aload_n hx hb dX6_doesNext_0 rfl (lv_at hl 0 rfl) ?_
  refine va_get (D := G.1) (ci := 5) (v := .ref (a 5)) (C := RX6) (T := TX6) (N := 12) hx hb hts hX6 hown hK.1 hP 0 rfl rfl 5 (by decide) (hts _ tw_593) (fun _ h9 => h9) rfl dX6_doesNext_1 ?_
  refine lv_aload_n hx hb dX6_doesNext_4 rfl (lv_at hl 0 rfl) ?_
  refine va_get (D := G.1) (ci := 5) (v := .int att) (C := RX6) (T := TX6) (N := 12) hx hb hts hX6 hown hK.1 hP 0 rfl rfl 7 (by decide) (hts _ tw_595) (fun _ h9 => h9) rfl dX6_doesNext_5 ?_
  obtain ⟨g1, hf⟩ := g_gdS hf
  refine va_cald hx hb hK.1 hP 5 1 rfl rfl (g_in_vp g1) dX6_doesNext_8 ?_
  refine lv_istore_n (lv' := [(1, .int (txt att.toNatClampNeg)), (0, .ref (a 0))]) hx hb dX6_doesNext_9 rfl hl (by decide) rfl (fun ls hl => ?_)
  refine lv_aload_n hx hb dX6_doesNext_10 rfl (lv_at hl 1 rfl) ?_
  refine lv_dup hx hb dX6_doesNext_11 rfl ?_
  refine va_get (D := G.1) (ci := 5) (v := .int att) (C := RX6) (T := TX6) (N := 12) hx hb hts hX6 hown hK.1 hP 0 rfl rfl 7 (by decide) (hts _ tw_595) (fun _ h9 => h9) rfl dX6_doesNext_12 ?_
  refine lv_iconst (v := (1 : Int32)) hx hb dX6_doesNext_15 (by decide) ?_
  refine lv_iadd hx hb dX6_doesNext_16 ?_
  refine va_put (D := G.1) (ci := 5) (v := .int (att + (1 : Int32))) (ty := .int) (C := RX6) (T := TX6) (N := 12) hx hb hts hX6 tyX6 tyX6_ok nmX6 hown hK.1 hP hD hS 0 rfl rfl 7 (by decide) (hts _ tw_595) (fun _ h9 => h9) rfl (by decide +kernel) rfl rfl (Nat.le_of_ble_eq_true rfl) dX6_doesNext_17 (fun H locs hP hD hS => ?_)
  have hP : va_P G.1 vwCl [((a 0), .inr (5, [.ref (a 1), .ref (a 2), .ref (a 3), .ref (a 4), .int sta, .ref (a 5), .int typ, .int (att + (1 : Int32)), .int rea, .ref (a 6), .ref (a 7), .ref (a 8)])), ((a 1), .inl (G.2.1, 411, .inl ss)), ((a 2), .inl (G.2.1, 1644, .inl was)), ((a 3), .inl (G.2.1, 411, .inl beg)), ((a 4), .inl (G.2.1, 411, .inl asi)), ((a 5), .inl (G.2.2.1, 60, .inl txt)), ((a 6), .inl (G.2.1, 4, .inl got)), ((a 7), .inl (G.2.1, 4, .inl row)), ((a 8), .inl (G.2.1, 4, .inl oth))] H := hP
  have hD : va_D (va_A (modW G a ss was beg asi sta txt typ att rea got row oth) s.heap.size) [((a 0), .inr (5, [.ref (a 1), .ref (a 2), .ref (a 3), .ref (a 4), .int sta, .ref (a 5), .int typ, .int (att + (1 : Int32)), .int rea, .ref (a 6), .ref (a 7), .ref (a 8)])), ((a 1), .inl (G.2.1, 411, .inl ss)), ((a 2), .inl (G.2.1, 1644, .inl was)), ((a 3), .inl (G.2.1, 411, .inl beg)), ((a 4), .inl (G.2.1, 411, .inl asi)), ((a 5), .inl (G.2.2.1, 60, .inl txt)), ((a 6), .inl (G.2.1, 4, .inl got)), ((a 7), .inl (G.2.1, 4, .inl row)), ((a 8), .inl (G.2.1, 4, .inl oth))] := hD
  refine lv_aload_n hx hb dX6_doesNext_20 rfl (lv_at hl 1 rfl) ?_
  refine lv_iload_n hx hb dX6_doesNext_21 rfl (lv_at hl 0 rfl) ?_
  obtain ⟨r2, e3, hf⟩ := g_bdS hf
  refine g_contC (st1 := [.int r2.1]) (g_runVC (As := [.int (txt att.toNatClampNeg)]) (rest := []) ⟨hx, hb, hml, hown, hts⟩ (qX6_readsForm l G a e3) (cwV 1 hts (TB_V TB_id tw_879 tw_881 tw_43 tw_54 tw_882) rfl rfl rfl (by decide +kernel) ⟨Nat.le_of_ble_eq_true rfl, Nat.le_of_ble_eq_true rfl⟩) hK (hP.sub [0, 1, 2, 3, 4, 5, 6, 7, 8] rfl) (hD.sub [0, 1, 2, 3, 4, 5, 6, 7, 8] (by decide) rfl) 0 rfl rfl rfl hl.1 rfl (Nat.le_of_ble_eq_true rfl) dX6_doesNext_22) rfl hP hD hS hA [0, 1, 2, 3, 4, 5, 6, 7, 8] rfl rfl (fun H locs hP hD hS => ?_)
  have hP : va_P G.1 vwCl [((a 0), .inr (5, [.ref (a 1), .ref (a 2), .ref (a 3), .ref (a 4), .int r2.2.2.2.2.2.1, .ref (a 5), .int r2.2.2.2.2.2.2.2.1, .int r2.2.2.2.2.2.2.2.2.1, .int r2.2.2.2.2.2.2.2.2.2.1, .ref (a 6), .ref (a 7), .ref (a 8)])), ((a 1), .inl (G.2.1, 411, .inl r2.2.1)), ((a 2), .inl (G.2.1, 1644, .inl r2.2.2.1)), ((a 3), .inl (G.2.1, 411, .inl r2.2.2.2.1)), ((a 4), .inl (G.2.1, 411, .inl r2.2.2.2.2.1)), ((a 5), .inl (G.2.2.1, 60, .inl r2.2.2.2.2.2.2.1)), ((a 6), .inl (G.2.1, 4, .inl r2.2.2.2.2.2.2.2.2.2.2.1)), ((a 7), .inl (G.2.1, 4, .inl r2.2.2.2.2.2.2.2.2.2.2.2.1)), ((a 8), .inl (G.2.1, 4, .inl r2.2.2.2.2.2.2.2.2.2.2.2.2))] H := hP
  have hD : va_D (va_A (modW G a ss was beg asi sta txt typ att rea got row oth) s.heap.size) [((a 0), .inr (5, [.ref (a 1), .ref (a 2), .ref (a 3), .ref (a 4), .int r2.2.2.2.2.2.1, .ref (a 5), .int r2.2.2.2.2.2.2.2.1, .int r2.2.2.2.2.2.2.2.2.1, .int r2.2.2.2.2.2.2.2.2.2.1, .ref (a 6), .ref (a 7), .ref (a 8)])), ((a 1), .inl (G.2.1, 411, .inl r2.2.1)), ((a 2), .inl (G.2.1, 1644, .inl r2.2.2.1)), ((a 3), .inl (G.2.1, 411, .inl r2.2.2.2.1)), ((a 4), .inl (G.2.1, 411, .inl r2.2.2.2.2.1)), ((a 5), .inl (G.2.2.1, 60, .inl r2.2.2.2.2.2.2.1)), ((a 6), .inl (G.2.1, 4, .inl r2.2.2.2.2.2.2.2.2.2.2.1)), ((a 7), .inl (G.2.1, 4, .inl r2.2.2.2.2.2.2.2.2.2.2.2.1)), ((a 8), .inl (G.2.1, 4, .inl r2.2.2.2.2.2.2.2.2.2.2.2.2))] := hD
  refine lv_if_ne (tgt := 30) hx hb dX6_doesNext_25 (by decide) (fun c4 => ?_) (fun c4 => ?_)
  · have hf := g_ifF c4 hf
    refine lv_aload_n hx hb dX6_doesNext_30 rfl (lv_at hl 1 rfl) ?_
    refine lv_iload_n hx hb dX6_doesNext_31 rfl (lv_at hl 0 rfl) ?_
    obtain ⟨r5, e6, hf⟩ := g_bdS hf
    refine g_contC (st1 := [.int r5.1]) (g_runVC (As := [.int (txt att.toNatClampNeg)]) (rest := []) ⟨hx, hb, hml, hown, hts⟩ (qX6_does l G a e6) (cwV 1 hts (TB_V TB_id tw_891 tw_893 tw_46 tw_54 tw_894) rfl rfl rfl (by decide +kernel) ⟨Nat.le_of_ble_eq_true rfl, Nat.le_of_ble_eq_true rfl⟩) hK (hP.sub [0, 1, 2, 3, 4, 5, 6, 7, 8] rfl) (hD.sub [0, 1, 2, 3, 4, 5, 6, 7, 8] (by decide) rfl) 0 rfl rfl rfl hl.1 rfl (Nat.le_of_ble_eq_true rfl) dX6_doesNext_32) rfl hP hD hS hA [0, 1, 2, 3, 4, 5, 6, 7, 8] rfl rfl (fun H locs hP hD hS => ?_)
    have hP : va_P G.1 vwCl [((a 0), .inr (5, [.ref (a 1), .ref (a 2), .ref (a 3), .ref (a 4), .int r5.2.2.2.2.2.1, .ref (a 5), .int r5.2.2.2.2.2.2.2.1, .int r5.2.2.2.2.2.2.2.2.1, .int r5.2.2.2.2.2.2.2.2.2.1, .ref (a 6), .ref (a 7), .ref (a 8)])), ((a 1), .inl (G.2.1, 411, .inl r5.2.1)), ((a 2), .inl (G.2.1, 1644, .inl r5.2.2.1)), ((a 3), .inl (G.2.1, 411, .inl r5.2.2.2.1)), ((a 4), .inl (G.2.1, 411, .inl r5.2.2.2.2.1)), ((a 5), .inl (G.2.2.1, 60, .inl r5.2.2.2.2.2.2.1)), ((a 6), .inl (G.2.1, 4, .inl r5.2.2.2.2.2.2.2.2.2.2.1)), ((a 7), .inl (G.2.1, 4, .inl r5.2.2.2.2.2.2.2.2.2.2.2.1)), ((a 8), .inl (G.2.1, 4, .inl r5.2.2.2.2.2.2.2.2.2.2.2.2))] H := hP
    have hD : va_D (va_A (modW G a ss was beg asi sta txt typ att rea got row oth) s.heap.size) [((a 0), .inr (5, [.ref (a 1), .ref (a 2), .ref (a 3), .ref (a 4), .int r5.2.2.2.2.2.1, .ref (a 5), .int r5.2.2.2.2.2.2.2.1, .int r5.2.2.2.2.2.2.2.2.1, .int r5.2.2.2.2.2.2.2.2.2.1, .ref (a 6), .ref (a 7), .ref (a 8)])), ((a 1), .inl (G.2.1, 411, .inl r5.2.1)), ((a 2), .inl (G.2.1, 1644, .inl r5.2.2.1)), ((a 3), .inl (G.2.1, 411, .inl r5.2.2.2.1)), ((a 4), .inl (G.2.1, 411, .inl r5.2.2.2.2.1)), ((a 5), .inl (G.2.2.1, 60, .inl r5.2.2.2.2.2.2.1)), ((a 6), .inl (G.2.1, 4, .inl r5.2.2.2.2.2.2.2.2.2.2.1)), ((a 7), .inl (G.2.1, 4, .inl r5.2.2.2.2.2.2.2.2.2.2.2.1)), ((a 8), .inl (G.2.1, 4, .inl r5.2.2.2.2.2.2.2.2.2.2.2.2))] := hD
    refine lv_istore_n (lv' := [(2, .int r5.1), (1, .int (txt att.toNatClampNeg)), (0, .ref (a 0))]) hx hb dX6_doesNext_35 rfl hl (by decide) rfl (fun ls hl => ?_)
    refine lv_iload_n hx hb dX6_doesNext_36 rfl (lv_at hl 0 rfl) ?_
    refine lv_ldc (v := (-1000001 : Int32)) hx hb hown (hts _ tw_654) dX6_doesNext_37 ?_
    refine lv_icmp_le (tgt := 46) hx hb dX6_doesNext_39 (by decide) (fun c7 => ?_) (fun c7 => ?_)
    · have hf := g_ifT c7 hf
      refine lv_iload_n hx hb dX6_doesNext_46 rfl (lv_at hl 0 rfl) ?_
      refine lv_ldc (v := (-1000001 : Int32)) hx hb hown (hts _ tw_654) dX6_doesNext_47 ?_
      refine lv_icmp_ne (tgt := 56) hx hb dX6_doesNext_49 (by decide) (fun c8 => ?_) (fun c8 => ?_)
      · have hf := g_ifF c8 hf
        refine lv_iconst (v := (3 : Int32)) hx hb dX6_doesNext_56 (by decide) ?_
        cases hf
        exact g_iretC hx hb hr hlocks hP hD hS dX6_doesNext_57
      · have hf := g_ifT c8 hf
        refine lv_iconst (v := (2 : Int32)) hx hb dX6_doesNext_52 (by decide) ?_
        refine lv_goto (tgt := 57) hx hb dX6_doesNext_53 (by decide) ?_
        cases hf
        exact g_iretC hx hb hr hlocks hP hD hS dX6_doesNext_57
    · have hf := g_ifF c7 hf
      refine lv_iconst (v := (0 : Int32)) hx hb dX6_doesNext_42 (by decide) ?_
      refine lv_goto (tgt := 57) hx hb dX6_doesNext_43 (by decide) ?_
      cases hf
      exact g_iretC hx hb hr hlocks hP hD hS dX6_doesNext_57
  · have hf := g_ifT c4 hf
    refine lv_iconst (v := (1 : Int32)) hx hb dX6_doesNext_28 (by decide) ?_
    cases hf
    exact g_iretC hx hb hr hlocks hP hD hS dX6_doesNext_29
-- TwoShapesModel.faulty()I
abbrev rmX6_faulty : Room := { frames := 9, cells := 0, slots := 0, locals := 195 }
def fX6_faulty_b35 : Nat → Int32 → (Nat → Int32) → (Nat → Int32) → (Nat → Int32) → (Nat → Int32) → Int32 → (Nat → Int32) → Int32 → Int32 → Int32 → (Nat → Int32) → (Nat → Int32) → (Nat → Int32) → Option (Int32 × (Nat → Int32) × (Nat → Int32) × (Nat → Int32) × (Nat → Int32) × Int32 × (Nat → Int32) × Int32 × Int32 × Int32 × (Nat → Int32) × (Nat → Int32) × (Nat → Int32))
  | 0, _, _, _, _, _, _, _, _, _, _, _, _, _ => none
  | n + 1, x1, ss, was, beg, asi, sta, txt, typ, att, rea, got, row, oth => (if typ ≤ att then ((fX6_restores ss was beg asi sta txt typ att rea got row oth).bind fun r3 => some (x1, r3.1, r3.2.1, r3.2.2.1, r3.2.2.2.1, r3.2.2.2.2.1, r3.2.2.2.2.2.1, r3.2.2.2.2.2.2.1, r3.2.2.2.2.2.2.2.1, r3.2.2.2.2.2.2.2.2.1, r3.2.2.2.2.2.2.2.2.2.1, r3.2.2.2.2.2.2.2.2.2.2.1, r3.2.2.2.2.2.2.2.2.2.2.2)) else (if x1 = (-1000004 : Int32) then ((fX6_doesNext ss was beg asi sta txt typ att rea got row oth).bind fun r8 => (if r8.1 ≤ (0 : Int32) then fX6_faulty_b35 n x1 r8.2.1 r8.2.2.1 r8.2.2.2.1 r8.2.2.2.2.1 r8.2.2.2.2.2.1 r8.2.2.2.2.2.2.1 r8.2.2.2.2.2.2.2.1 r8.2.2.2.2.2.2.2.2.1 r8.1 r8.2.2.2.2.2.2.2.2.2.2.1 r8.2.2.2.2.2.2.2.2.2.2.2.1 r8.2.2.2.2.2.2.2.2.2.2.2.2 else fX6_faulty_b35 n att r8.2.1 r8.2.2.1 r8.2.2.2.1 r8.2.2.2.2.1 r8.2.2.2.2.2.1 r8.2.2.2.2.2.2.1 r8.2.2.2.2.2.2.2.1 r8.2.2.2.2.2.2.2.2.1 r8.1 r8.2.2.2.2.2.2.2.2.2.2.1 r8.2.2.2.2.2.2.2.2.2.2.2.1 r8.2.2.2.2.2.2.2.2.2.2.2.2)) else ((fX6_restores ss was beg asi sta txt typ att rea got row oth).bind fun r6 => some (x1, r6.1, r6.2.1, r6.2.2.1, r6.2.2.2.1, r6.2.2.2.2.1, r6.2.2.2.2.2.1, r6.2.2.2.2.2.2.1, r6.2.2.2.2.2.2.2.1, r6.2.2.2.2.2.2.2.2.1, r6.2.2.2.2.2.2.2.2.2.1, r6.2.2.2.2.2.2.2.2.2.2.1, r6.2.2.2.2.2.2.2.2.2.2.2))))
set_option maxHeartbeats 4000000 in
set_option maxRecDepth 100000 in
theorem kX6_faulty_b35 {p : Program} {l : Launch} {e : Env} {s : State} {m : MethodId} {args : Array Value} {below : List Frame} {meth : Method} {c : Code} {G : gT} {a : Nat → Nat} {w0 : va_W} (C0 : gX p s m args meth c cX6_faulty 3 (some .int) RX6 G) :
    ∀ (n : Nat) (x1 : Int32) (ss : Nat → Int32) (was : Nat → Int32) (beg : Nat → Int32) (asi : Nat → Int32) (sta : Int32) (txt : Nat → Int32) (typ : Int32) (att : Int32) (rea : Int32) (got : Nat → Int32) (row : Nat → Int32) (oth : Nat → Int32) (u : Int32 × (Nat → Int32) × (Nat → Int32) × (Nat → Int32) × (Nat → Int32) × Int32 × (Nat → Int32) × Int32 × Int32 × Int32 × (Nat → Int32) × (Nat → Int32) × (Nat → Int32)), fX6_faulty_b35 n x1 ss was beg asi sta txt typ att rea got row oth = some u → ∀ (H : Heap) (locs : List Loc), va_P G.1 vwCl [((a 0), .inr (5, [.ref (a 1), .ref (a 2), .ref (a 3), .ref (a 4), .int sta, .ref (a 5), .int typ, .int att, .int rea, .ref (a 6), .ref (a 7), .ref (a 8)])), ((a 1), .inl (G.2.1, 411, .inl ss)), ((a 2), .inl (G.2.1, 1644, .inl was)), ((a 3), .inl (G.2.1, 411, .inl beg)), ((a 4), .inl (G.2.1, 411, .inl asi)), ((a 5), .inl (G.2.2.1, 60, .inl txt)), ((a 6), .inl (G.2.1, 4, .inl got)), ((a 7), .inl (G.2.1, 4, .inl row)), ((a 8), .inl (G.2.1, 4, .inl oth))] H → va_D (va_A w0 s.heap.size) [((a 0), .inr (5, [.ref (a 1), .ref (a 2), .ref (a 3), .ref (a 4), .int sta, .ref (a 5), .int typ, .int att, .int rea, .ref (a 6), .ref (a 7), .ref (a 8)])), ((a 1), .inl (G.2.1, 411, .inl ss)), ((a 2), .inl (G.2.1, 1644, .inl was)), ((a 3), .inl (G.2.1, 411, .inl beg)), ((a 4), .inl (G.2.1, 411, .inl asi)), ((a 5), .inl (G.2.2.1, 60, .inl txt)), ((a 6), .inl (G.2.1, 4, .inl got)), ((a 7), .inl (G.2.1, 4, .inl row)), ((a 8), .inl (G.2.1, 4, .inl oth))] → va_S (va_A w0 s.heap.size) s.heap H locs → ∀ ls, lv_has ls 3 [(0, .ref (a 0)), (1, .int x1)] → gW p l e (headSpec wsX6_faulty rmX6_faulty).room s m args below meth c G w0 (some (.int u.1)) (modW G a u.2.1 u.2.2.1 u.2.2.2.1 u.2.2.2.2.1 u.2.2.2.2.2.1 u.2.2.2.2.2.2.1 u.2.2.2.2.2.2.2.1 u.2.2.2.2.2.2.2.2.1 u.2.2.2.2.2.2.2.2.2.1 u.2.2.2.2.2.2.2.2.2.2.1 u.2.2.2.2.2.2.2.2.2.2.2.1 u.2.2.2.2.2.2.2.2.2.2.2.2) H locs 35 ls [] := by
  obtain ⟨hx, hb, hr, hts, hown, hlocks, hml, hK⟩ := id C0
  have hA : ∀ q : Nat, s.heap.size ≤ q → va_A w0 s.heap.size q := fun q h => Or.inr h
  intro n
  induction n with
  | zero =>
    intro x1 ss was beg asi sta txt typ att rea got row oth u hf H locs hP hD hS ls hl
    have hf : (none : Option (Int32 × (Nat → Int32) × (Nat → Int32) × (Nat → Int32) × (Nat → Int32) × Int32 × (Nat → Int32) × Int32 × Int32 × Int32 × (Nat → Int32) × (Nat → Int32) × (Nat → Int32))) = some u := hf
    cases hf
  | succ n ih =>
    intro x1 ss was beg asi sta txt typ att rea got row oth u hf H locs hP hD hS ls hl
    rw [fX6_faulty_b35] at hf
    refine lv_aload_n hx hb dX6_faulty_35 rfl (lv_at hl 0 rfl) ?_
    refine va_get (D := G.1) (ci := 5) (v := .int att) (C := RX6) (T := TX6) (N := 12) hx hb hts hX6 hown hK.1 hP 0 rfl rfl 7 (by decide) (hts _ tw_595) (fun _ h9 => h9) rfl dX6_faulty_36 ?_
    refine lv_aload_n hx hb dX6_faulty_39 rfl (lv_at hl 0 rfl) ?_
    refine va_get (D := G.1) (ci := 5) (v := .int typ) (C := RX6) (T := TX6) (N := 12) hx hb hts hX6 hown hK.1 hP 0 rfl rfl 6 (by decide) (hts _ tw_594) (fun _ h9 => h9) rfl dX6_faulty_40 ?_
    refine lv_icmp_ge (tgt := 81) hx hb dX6_faulty_43 (by decide) (fun c2 => ?_) (fun c2 => ?_)
    · have hf := g_ifT c2 hf
      refine lv_aload_n hx hb dX6_faulty_81 rfl (lv_at hl 0 rfl) ?_
      obtain ⟨r3, e4, hf⟩ := g_bdS hf
      refine g_contC (st1 := []) (g_runVC (As := []) (rest := []) ⟨hx, hb, hml, hown, hts⟩ (qX6_restores l G a e4) (cwV 0 hts (TB_V TB_id tw_895 tw_897 tw_47 tw_54 tw_898) rfl rfl rfl (by decide +kernel) ⟨Nat.le_of_ble_eq_true rfl, Nat.le_of_ble_eq_true rfl⟩) hK (hP.sub [0, 1, 2, 3, 4, 5, 6, 7, 8] rfl) (hD.sub [0, 1, 2, 3, 4, 5, 6, 7, 8] (by decide) rfl) 0 rfl rfl rfl hl.1 rfl (Nat.le_of_ble_eq_true rfl) dX6_faulty_82) rfl hP hD hS hA [0, 1, 2, 3, 4, 5, 6, 7, 8] rfl rfl (fun H locs hP hD hS => ?_)
      have hP : va_P G.1 vwCl [((a 0), .inr (5, [.ref (a 1), .ref (a 2), .ref (a 3), .ref (a 4), .int r3.2.2.2.2.1, .ref (a 5), .int r3.2.2.2.2.2.2.1, .int r3.2.2.2.2.2.2.2.1, .int r3.2.2.2.2.2.2.2.2.1, .ref (a 6), .ref (a 7), .ref (a 8)])), ((a 1), .inl (G.2.1, 411, .inl r3.1)), ((a 2), .inl (G.2.1, 1644, .inl r3.2.1)), ((a 3), .inl (G.2.1, 411, .inl r3.2.2.1)), ((a 4), .inl (G.2.1, 411, .inl r3.2.2.2.1)), ((a 5), .inl (G.2.2.1, 60, .inl r3.2.2.2.2.2.1)), ((a 6), .inl (G.2.1, 4, .inl r3.2.2.2.2.2.2.2.2.2.1)), ((a 7), .inl (G.2.1, 4, .inl r3.2.2.2.2.2.2.2.2.2.2.1)), ((a 8), .inl (G.2.1, 4, .inl r3.2.2.2.2.2.2.2.2.2.2.2))] H := hP
      have hD : va_D (va_A w0 s.heap.size) [((a 0), .inr (5, [.ref (a 1), .ref (a 2), .ref (a 3), .ref (a 4), .int r3.2.2.2.2.1, .ref (a 5), .int r3.2.2.2.2.2.2.1, .int r3.2.2.2.2.2.2.2.1, .int r3.2.2.2.2.2.2.2.2.1, .ref (a 6), .ref (a 7), .ref (a 8)])), ((a 1), .inl (G.2.1, 411, .inl r3.1)), ((a 2), .inl (G.2.1, 1644, .inl r3.2.1)), ((a 3), .inl (G.2.1, 411, .inl r3.2.2.1)), ((a 4), .inl (G.2.1, 411, .inl r3.2.2.2.1)), ((a 5), .inl (G.2.2.1, 60, .inl r3.2.2.2.2.2.1)), ((a 6), .inl (G.2.1, 4, .inl r3.2.2.2.2.2.2.2.2.2.1)), ((a 7), .inl (G.2.1, 4, .inl r3.2.2.2.2.2.2.2.2.2.2.1)), ((a 8), .inl (G.2.1, 4, .inl r3.2.2.2.2.2.2.2.2.2.2.2))] := hD
      refine lv_iload_n hx hb dX6_faulty_85 rfl (lv_at hl 1 rfl) ?_
      cases hf
      exact g_iretC hx hb hr hlocks hP hD hS dX6_faulty_86
    · have hf := g_ifF c2 hf
      refine lv_iload_n hx hb dX6_faulty_46 rfl (lv_at hl 1 rfl) ?_
      refine lv_ldc (v := (-1000004 : Int32)) hx hb hown (hts _ tw_803) dX6_faulty_47 ?_
      refine lv_icmp_ne (tgt := 81) hx hb dX6_faulty_49 (by decide) (fun c5 => ?_) (fun c5 => ?_)
      · have hf := g_ifF c5 hf
        refine lv_aload_n hx hb dX6_faulty_81 rfl (lv_at hl 0 rfl) ?_
        obtain ⟨r6, e7, hf⟩ := g_bdS hf
        refine g_contC (st1 := []) (g_runVC (As := []) (rest := []) ⟨hx, hb, hml, hown, hts⟩ (qX6_restores l G a e7) (cwV 0 hts (TB_V TB_id tw_895 tw_897 tw_47 tw_54 tw_898) rfl rfl rfl (by decide +kernel) ⟨Nat.le_of_ble_eq_true rfl, Nat.le_of_ble_eq_true rfl⟩) hK (hP.sub [0, 1, 2, 3, 4, 5, 6, 7, 8] rfl) (hD.sub [0, 1, 2, 3, 4, 5, 6, 7, 8] (by decide) rfl) 0 rfl rfl rfl hl.1 rfl (Nat.le_of_ble_eq_true rfl) dX6_faulty_82) rfl hP hD hS hA [0, 1, 2, 3, 4, 5, 6, 7, 8] rfl rfl (fun H locs hP hD hS => ?_)
        have hP : va_P G.1 vwCl [((a 0), .inr (5, [.ref (a 1), .ref (a 2), .ref (a 3), .ref (a 4), .int r6.2.2.2.2.1, .ref (a 5), .int r6.2.2.2.2.2.2.1, .int r6.2.2.2.2.2.2.2.1, .int r6.2.2.2.2.2.2.2.2.1, .ref (a 6), .ref (a 7), .ref (a 8)])), ((a 1), .inl (G.2.1, 411, .inl r6.1)), ((a 2), .inl (G.2.1, 1644, .inl r6.2.1)), ((a 3), .inl (G.2.1, 411, .inl r6.2.2.1)), ((a 4), .inl (G.2.1, 411, .inl r6.2.2.2.1)), ((a 5), .inl (G.2.2.1, 60, .inl r6.2.2.2.2.2.1)), ((a 6), .inl (G.2.1, 4, .inl r6.2.2.2.2.2.2.2.2.2.1)), ((a 7), .inl (G.2.1, 4, .inl r6.2.2.2.2.2.2.2.2.2.2.1)), ((a 8), .inl (G.2.1, 4, .inl r6.2.2.2.2.2.2.2.2.2.2.2))] H := hP
        have hD : va_D (va_A w0 s.heap.size) [((a 0), .inr (5, [.ref (a 1), .ref (a 2), .ref (a 3), .ref (a 4), .int r6.2.2.2.2.1, .ref (a 5), .int r6.2.2.2.2.2.2.1, .int r6.2.2.2.2.2.2.2.1, .int r6.2.2.2.2.2.2.2.2.1, .ref (a 6), .ref (a 7), .ref (a 8)])), ((a 1), .inl (G.2.1, 411, .inl r6.1)), ((a 2), .inl (G.2.1, 1644, .inl r6.2.1)), ((a 3), .inl (G.2.1, 411, .inl r6.2.2.1)), ((a 4), .inl (G.2.1, 411, .inl r6.2.2.2.1)), ((a 5), .inl (G.2.2.1, 60, .inl r6.2.2.2.2.2.1)), ((a 6), .inl (G.2.1, 4, .inl r6.2.2.2.2.2.2.2.2.2.1)), ((a 7), .inl (G.2.1, 4, .inl r6.2.2.2.2.2.2.2.2.2.2.1)), ((a 8), .inl (G.2.1, 4, .inl r6.2.2.2.2.2.2.2.2.2.2.2))] := hD
        refine lv_iload_n hx hb dX6_faulty_85 rfl (lv_at hl 1 rfl) ?_
        cases hf
        exact g_iretC hx hb hr hlocks hP hD hS dX6_faulty_86
      · have hf := g_ifT c5 hf
        refine lv_aload_n hx hb dX6_faulty_52 rfl (lv_at hl 0 rfl) ?_
        refine va_get (D := G.1) (ci := 5) (v := .int att) (C := RX6) (T := TX6) (N := 12) hx hb hts hX6 hown hK.1 hP 0 rfl rfl 7 (by decide) (hts _ tw_595) (fun _ h9 => h9) rfl dX6_faulty_53 ?_
        refine lv_istore_n (lv' := [(2, .int att), (0, .ref (a 0)), (1, .int x1)]) hx hb dX6_faulty_56 rfl hl (by decide) rfl (fun ls hl => ?_)
        refine lv_aload_n hx hb dX6_faulty_57 rfl (lv_at hl 1 rfl) ?_
        refine lv_aload_n hx hb dX6_faulty_58 rfl (lv_at hl 1 rfl) ?_
        obtain ⟨r8, e9, hf⟩ := g_bdS hf
        refine g_contC (st1 := [.int r8.1, .ref (a 0)]) (g_runVC (As := []) (rest := [.ref (a 0)]) ⟨hx, hb, hml, hown, hts⟩ (qX6_doesNext l G a e9) (cwV 0 hts (TB_V TB_id tw_875 tw_877 tw_42 tw_54 tw_878) rfl rfl rfl (by decide +kernel) ⟨Nat.le_of_ble_eq_true rfl, Nat.le_of_ble_eq_true rfl⟩) hK (hP.sub [0, 1, 2, 3, 4, 5, 6, 7, 8] rfl) (hD.sub [0, 1, 2, 3, 4, 5, 6, 7, 8] (by decide) rfl) 0 rfl rfl rfl hl.1 rfl (Nat.le_of_ble_eq_true rfl) dX6_faulty_59) rfl hP hD hS hA [0, 1, 2, 3, 4, 5, 6, 7, 8] rfl rfl (fun H locs hP hD hS => ?_)
        have hP : va_P G.1 vwCl [((a 0), .inr (5, [.ref (a 1), .ref (a 2), .ref (a 3), .ref (a 4), .int r8.2.2.2.2.2.1, .ref (a 5), .int r8.2.2.2.2.2.2.2.1, .int r8.2.2.2.2.2.2.2.2.1, .int r8.2.2.2.2.2.2.2.2.2.1, .ref (a 6), .ref (a 7), .ref (a 8)])), ((a 1), .inl (G.2.1, 411, .inl r8.2.1)), ((a 2), .inl (G.2.1, 1644, .inl r8.2.2.1)), ((a 3), .inl (G.2.1, 411, .inl r8.2.2.2.1)), ((a 4), .inl (G.2.1, 411, .inl r8.2.2.2.2.1)), ((a 5), .inl (G.2.2.1, 60, .inl r8.2.2.2.2.2.2.1)), ((a 6), .inl (G.2.1, 4, .inl r8.2.2.2.2.2.2.2.2.2.2.1)), ((a 7), .inl (G.2.1, 4, .inl r8.2.2.2.2.2.2.2.2.2.2.2.1)), ((a 8), .inl (G.2.1, 4, .inl r8.2.2.2.2.2.2.2.2.2.2.2.2))] H := hP
        have hD : va_D (va_A w0 s.heap.size) [((a 0), .inr (5, [.ref (a 1), .ref (a 2), .ref (a 3), .ref (a 4), .int r8.2.2.2.2.2.1, .ref (a 5), .int r8.2.2.2.2.2.2.2.1, .int r8.2.2.2.2.2.2.2.2.1, .int r8.2.2.2.2.2.2.2.2.2.1, .ref (a 6), .ref (a 7), .ref (a 8)])), ((a 1), .inl (G.2.1, 411, .inl r8.2.1)), ((a 2), .inl (G.2.1, 1644, .inl r8.2.2.1)), ((a 3), .inl (G.2.1, 411, .inl r8.2.2.2.1)), ((a 4), .inl (G.2.1, 411, .inl r8.2.2.2.2.1)), ((a 5), .inl (G.2.2.1, 60, .inl r8.2.2.2.2.2.2.1)), ((a 6), .inl (G.2.1, 4, .inl r8.2.2.2.2.2.2.2.2.2.2.1)), ((a 7), .inl (G.2.1, 4, .inl r8.2.2.2.2.2.2.2.2.2.2.2.1)), ((a 8), .inl (G.2.1, 4, .inl r8.2.2.2.2.2.2.2.2.2.2.2.2))] := hD
        refine va_put (D := G.1) (ci := 5) (v := .int r8.1) (ty := .int) (C := RX6) (T := TX6) (N := 12) hx hb hts hX6 tyX6 tyX6_ok nmX6 hown hK.1 hP hD hS 0 rfl rfl 8 (by decide) (hts _ tw_596) (fun _ h9 => h9) rfl (by decide +kernel) rfl rfl (Nat.le_of_ble_eq_true rfl) dX6_faulty_62 (fun H locs hP hD hS => ?_)
        have hP : va_P G.1 vwCl [((a 0), .inr (5, [.ref (a 1), .ref (a 2), .ref (a 3), .ref (a 4), .int r8.2.2.2.2.2.1, .ref (a 5), .int r8.2.2.2.2.2.2.2.1, .int r8.2.2.2.2.2.2.2.2.1, .int r8.1, .ref (a 6), .ref (a 7), .ref (a 8)])), ((a 1), .inl (G.2.1, 411, .inl r8.2.1)), ((a 2), .inl (G.2.1, 1644, .inl r8.2.2.1)), ((a 3), .inl (G.2.1, 411, .inl r8.2.2.2.1)), ((a 4), .inl (G.2.1, 411, .inl r8.2.2.2.2.1)), ((a 5), .inl (G.2.2.1, 60, .inl r8.2.2.2.2.2.2.1)), ((a 6), .inl (G.2.1, 4, .inl r8.2.2.2.2.2.2.2.2.2.2.1)), ((a 7), .inl (G.2.1, 4, .inl r8.2.2.2.2.2.2.2.2.2.2.2.1)), ((a 8), .inl (G.2.1, 4, .inl r8.2.2.2.2.2.2.2.2.2.2.2.2))] H := hP
        have hD : va_D (va_A w0 s.heap.size) [((a 0), .inr (5, [.ref (a 1), .ref (a 2), .ref (a 3), .ref (a 4), .int r8.2.2.2.2.2.1, .ref (a 5), .int r8.2.2.2.2.2.2.2.1, .int r8.2.2.2.2.2.2.2.2.1, .int r8.1, .ref (a 6), .ref (a 7), .ref (a 8)])), ((a 1), .inl (G.2.1, 411, .inl r8.2.1)), ((a 2), .inl (G.2.1, 1644, .inl r8.2.2.1)), ((a 3), .inl (G.2.1, 411, .inl r8.2.2.2.1)), ((a 4), .inl (G.2.1, 411, .inl r8.2.2.2.2.1)), ((a 5), .inl (G.2.2.1, 60, .inl r8.2.2.2.2.2.2.1)), ((a 6), .inl (G.2.1, 4, .inl r8.2.2.2.2.2.2.2.2.2.2.1)), ((a 7), .inl (G.2.1, 4, .inl r8.2.2.2.2.2.2.2.2.2.2.2.1)), ((a 8), .inl (G.2.1, 4, .inl r8.2.2.2.2.2.2.2.2.2.2.2.2))] := hD
        refine lv_aload_n hx hb dX6_faulty_65 rfl (lv_at hl 1 rfl) ?_
        refine va_get (D := G.1) (ci := 5) (v := .int r8.1) (C := RX6) (T := TX6) (N := 12) hx hb hts hX6 hown hK.1 hP 0 rfl rfl 8 (by decide) (hts _ tw_596) (fun _ h9 => h9) rfl dX6_faulty_66 ?_
        refine lv_if_le (tgt := 76) hx hb dX6_faulty_69 (by decide) (fun c10 => ?_) (fun c10 => ?_)
        · have hf := g_ifT c10 hf
          refine lv_iload_n hx hb dX6_faulty_76 rfl (lv_at hl 2 rfl) ?_
          refine lv_istore_n (lv' := [(1, .int x1), (2, .int att), (0, .ref (a 0))]) hx hb dX6_faulty_77 rfl hl (by decide) rfl (fun ls hl => ?_)
          refine lv_goto (tgt := 35) hx hb dX6_faulty_78 (by decide) ?_
          exact ih _ _ _ _ _ _ _ _ _ _ _ _ _ _ hf _ _ hP hD hS ls (lv_sub hl [2, 0] rfl)
        · have hf := g_ifF c10 hf
          refine lv_iload_n hx hb dX6_faulty_72 rfl (lv_at hl 0 rfl) ?_
          refine lv_goto (tgt := 77) hx hb dX6_faulty_73 (by decide) ?_
          refine lv_istore_n (lv' := [(1, .int att), (2, .int att), (0, .ref (a 0))]) hx hb dX6_faulty_77 rfl hl (by decide) rfl (fun ls hl => ?_)
          refine lv_goto (tgt := 35) hx hb dX6_faulty_78 (by decide) ?_
          exact ih _ _ _ _ _ _ _ _ _ _ _ _ _ _ hf _ _ hP hD hS ls (lv_sub hl [2, 0] rfl)
def fX6_faulty_b2 : Nat → Int32 → (Nat → Int32) → (Nat → Int32) → (Nat → Int32) → (Nat → Int32) → Int32 → (Nat → Int32) → Int32 → Int32 → Int32 → (Nat → Int32) → (Nat → Int32) → (Nat → Int32) → Option (Int32 × (Nat → Int32) × (Nat → Int32) × (Nat → Int32) × (Nat → Int32) × Int32 × (Nat → Int32) × Int32 × Int32 × Int32 × (Nat → Int32) × (Nat → Int32) × (Nat → Int32))
  | 0, _, _, _, _, _, _, _, _, _, _, _, _, _ => none
  | n + 1, x1, ss, was, beg, asi, sta, txt, typ, att, rea, got, row, oth => (if (411 : Int32) ≤ x1 then fX6_faulty_b35 2000 (-1000004 : Int32) ss was beg asi sta txt typ (0 : Int32) rea got row oth else g_gd (g_in x1 411) (g_gd (g_in x1 411) (fX6_faulty_b2 n (x1 + (1 : Int32)) ss was beg (upd asi x1.toNatClampNeg (ss x1.toNatClampNeg)) sta txt typ att rea got row oth)))
set_option maxHeartbeats 4000000 in
set_option maxRecDepth 100000 in
theorem kX6_faulty_b2 {p : Program} {l : Launch} {e : Env} {s : State} {m : MethodId} {args : Array Value} {below : List Frame} {meth : Method} {c : Code} {G : gT} {a : Nat → Nat} {w0 : va_W} (C0 : gX p s m args meth c cX6_faulty 3 (some .int) RX6 G) :
    ∀ (n : Nat) (x1 : Int32) (ss : Nat → Int32) (was : Nat → Int32) (beg : Nat → Int32) (asi : Nat → Int32) (sta : Int32) (txt : Nat → Int32) (typ : Int32) (att : Int32) (rea : Int32) (got : Nat → Int32) (row : Nat → Int32) (oth : Nat → Int32) (u : Int32 × (Nat → Int32) × (Nat → Int32) × (Nat → Int32) × (Nat → Int32) × Int32 × (Nat → Int32) × Int32 × Int32 × Int32 × (Nat → Int32) × (Nat → Int32) × (Nat → Int32)), fX6_faulty_b2 n x1 ss was beg asi sta txt typ att rea got row oth = some u → ∀ (H : Heap) (locs : List Loc), va_P G.1 vwCl [((a 0), .inr (5, [.ref (a 1), .ref (a 2), .ref (a 3), .ref (a 4), .int sta, .ref (a 5), .int typ, .int att, .int rea, .ref (a 6), .ref (a 7), .ref (a 8)])), ((a 1), .inl (G.2.1, 411, .inl ss)), ((a 2), .inl (G.2.1, 1644, .inl was)), ((a 3), .inl (G.2.1, 411, .inl beg)), ((a 4), .inl (G.2.1, 411, .inl asi)), ((a 5), .inl (G.2.2.1, 60, .inl txt)), ((a 6), .inl (G.2.1, 4, .inl got)), ((a 7), .inl (G.2.1, 4, .inl row)), ((a 8), .inl (G.2.1, 4, .inl oth))] H → va_D (va_A w0 s.heap.size) [((a 0), .inr (5, [.ref (a 1), .ref (a 2), .ref (a 3), .ref (a 4), .int sta, .ref (a 5), .int typ, .int att, .int rea, .ref (a 6), .ref (a 7), .ref (a 8)])), ((a 1), .inl (G.2.1, 411, .inl ss)), ((a 2), .inl (G.2.1, 1644, .inl was)), ((a 3), .inl (G.2.1, 411, .inl beg)), ((a 4), .inl (G.2.1, 411, .inl asi)), ((a 5), .inl (G.2.2.1, 60, .inl txt)), ((a 6), .inl (G.2.1, 4, .inl got)), ((a 7), .inl (G.2.1, 4, .inl row)), ((a 8), .inl (G.2.1, 4, .inl oth))] → va_S (va_A w0 s.heap.size) s.heap H locs → ∀ ls, lv_has ls 3 [(0, .ref (a 0)), (1, .int x1)] → gW p l e (headSpec wsX6_faulty rmX6_faulty).room s m args below meth c G w0 (some (.int u.1)) (modW G a u.2.1 u.2.2.1 u.2.2.2.1 u.2.2.2.2.1 u.2.2.2.2.2.1 u.2.2.2.2.2.2.1 u.2.2.2.2.2.2.2.1 u.2.2.2.2.2.2.2.2.1 u.2.2.2.2.2.2.2.2.2.1 u.2.2.2.2.2.2.2.2.2.2.1 u.2.2.2.2.2.2.2.2.2.2.2.1 u.2.2.2.2.2.2.2.2.2.2.2.2) H locs 2 ls [] := by
  obtain ⟨hx, hb, hr, hts, hown, hlocks, hml, hK⟩ := id C0
  have hA : ∀ q : Nat, s.heap.size ≤ q → va_A w0 s.heap.size q := fun q h => Or.inr h
  intro n
  induction n with
  | zero =>
    intro x1 ss was beg asi sta txt typ att rea got row oth u hf H locs hP hD hS ls hl
    have hf : (none : Option (Int32 × (Nat → Int32) × (Nat → Int32) × (Nat → Int32) × (Nat → Int32) × Int32 × (Nat → Int32) × Int32 × Int32 × Int32 × (Nat → Int32) × (Nat → Int32) × (Nat → Int32))) = some u := hf
    cases hf
  | succ n ih =>
    intro x1 ss was beg asi sta txt typ att rea got row oth u hf H locs hP hD hS ls hl
    rw [fX6_faulty_b2] at hf
    refine lv_iload_n hx hb dX6_faulty_2 rfl (lv_at hl 1 rfl) ?_
    refine lv_sipush (v := (411 : Int32)) hx hb dX6_faulty_3 (by decide) ?_
    refine lv_icmp_ge (tgt := 27) hx hb dX6_faulty_6 (by decide) (fun c1 => ?_) (fun c1 => ?_)
    · have hf := g_ifT c1 hf
      refine lv_ldc (v := (-1000004 : Int32)) hx hb hown (hts _ tw_803) dX6_faulty_27 ?_
      refine lv_istore_n (lv' := [(1, .int (-1000004 : Int32)), (0, .ref (a 0))]) hx hb dX6_faulty_29 rfl hl (by decide) rfl (fun ls hl => ?_)
      refine lv_aload_n hx hb dX6_faulty_30 rfl (lv_at hl 1 rfl) ?_
      refine lv_iconst (v := (0 : Int32)) hx hb dX6_faulty_31 (by decide) ?_
      refine va_put (D := G.1) (ci := 5) (v := .int (0 : Int32)) (ty := .int) (C := RX6) (T := TX6) (N := 12) hx hb hts hX6 tyX6 tyX6_ok nmX6 hown hK.1 hP hD hS 0 rfl rfl 7 (by decide) (hts _ tw_595) (fun _ h9 => h9) rfl (by decide +kernel) rfl rfl (Nat.le_of_ble_eq_true rfl) dX6_faulty_32 (fun H locs hP hD hS => ?_)
      have hP : va_P G.1 vwCl [((a 0), .inr (5, [.ref (a 1), .ref (a 2), .ref (a 3), .ref (a 4), .int sta, .ref (a 5), .int typ, .int (0 : Int32), .int rea, .ref (a 6), .ref (a 7), .ref (a 8)])), ((a 1), .inl (G.2.1, 411, .inl ss)), ((a 2), .inl (G.2.1, 1644, .inl was)), ((a 3), .inl (G.2.1, 411, .inl beg)), ((a 4), .inl (G.2.1, 411, .inl asi)), ((a 5), .inl (G.2.2.1, 60, .inl txt)), ((a 6), .inl (G.2.1, 4, .inl got)), ((a 7), .inl (G.2.1, 4, .inl row)), ((a 8), .inl (G.2.1, 4, .inl oth))] H := hP
      have hD : va_D (va_A w0 s.heap.size) [((a 0), .inr (5, [.ref (a 1), .ref (a 2), .ref (a 3), .ref (a 4), .int sta, .ref (a 5), .int typ, .int (0 : Int32), .int rea, .ref (a 6), .ref (a 7), .ref (a 8)])), ((a 1), .inl (G.2.1, 411, .inl ss)), ((a 2), .inl (G.2.1, 1644, .inl was)), ((a 3), .inl (G.2.1, 411, .inl beg)), ((a 4), .inl (G.2.1, 411, .inl asi)), ((a 5), .inl (G.2.2.1, 60, .inl txt)), ((a 6), .inl (G.2.1, 4, .inl got)), ((a 7), .inl (G.2.1, 4, .inl row)), ((a 8), .inl (G.2.1, 4, .inl oth))] := hD
      exact kX6_faulty_b35 C0 2000 _ _ _ _ _ _ _ _ _ _ _ _ _ _ hf _ _ hP hD hS ls (lv_sub hl [1, 0] rfl)
    · have hf := g_ifF c1 hf
      refine lv_aload_n hx hb dX6_faulty_9 rfl (lv_at hl 0 rfl) ?_
      refine va_get (D := G.1) (ci := 5) (v := .ref (a 4)) (C := RX6) (T := TX6) (N := 12) hx hb hts hX6 hown hK.1 hP 0 rfl rfl 3 (by decide) (hts _ tw_591) (fun _ h9 => h9) rfl dX6_faulty_10 ?_
      refine lv_iload_n hx hb dX6_faulty_13 rfl (lv_at hl 1 rfl) ?_
      refine lv_aload_n hx hb dX6_faulty_14 rfl (lv_at hl 0 rfl) ?_
      refine va_get (D := G.1) (ci := 5) (v := .ref (a 1)) (C := RX6) (T := TX6) (N := 12) hx hb hts hX6 hown hK.1 hP 0 rfl rfl 0 (by decide) (hts _ tw_588) (fun _ h9 => h9) rfl dX6_faulty_15 ?_
      refine lv_iload_n hx hb dX6_faulty_18 rfl (lv_at hl 1 rfl) ?_
      obtain ⟨g11, hf⟩ := g_gdS hf
      refine va_iald hx hb hK.1 hP 1 0 rfl rfl (g_in_vp g11) dX6_faulty_19 ?_
      obtain ⟨g12, hf⟩ := g_gdS hf
      refine va_iast hx hb hK.1 hP hD hS 4 0 rfl rfl (g_in_vp g12) dX6_faulty_20 (fun H locs hP hD hS => ?_)
      have hP : va_P G.1 vwCl [((a 0), .inr (5, [.ref (a 1), .ref (a 2), .ref (a 3), .ref (a 4), .int sta, .ref (a 5), .int typ, .int att, .int rea, .ref (a 6), .ref (a 7), .ref (a 8)])), ((a 1), .inl (G.2.1, 411, .inl ss)), ((a 2), .inl (G.2.1, 1644, .inl was)), ((a 3), .inl (G.2.1, 411, .inl beg)), ((a 4), .inl (G.2.1, 411, .inl (upd asi x1.toNatClampNeg (ss x1.toNatClampNeg)))), ((a 5), .inl (G.2.2.1, 60, .inl txt)), ((a 6), .inl (G.2.1, 4, .inl got)), ((a 7), .inl (G.2.1, 4, .inl row)), ((a 8), .inl (G.2.1, 4, .inl oth))] H := hP
      have hD : va_D (va_A w0 s.heap.size) [((a 0), .inr (5, [.ref (a 1), .ref (a 2), .ref (a 3), .ref (a 4), .int sta, .ref (a 5), .int typ, .int att, .int rea, .ref (a 6), .ref (a 7), .ref (a 8)])), ((a 1), .inl (G.2.1, 411, .inl ss)), ((a 2), .inl (G.2.1, 1644, .inl was)), ((a 3), .inl (G.2.1, 411, .inl beg)), ((a 4), .inl (G.2.1, 411, .inl (upd asi x1.toNatClampNeg (ss x1.toNatClampNeg)))), ((a 5), .inl (G.2.2.1, 60, .inl txt)), ((a 6), .inl (G.2.1, 4, .inl got)), ((a 7), .inl (G.2.1, 4, .inl row)), ((a 8), .inl (G.2.1, 4, .inl oth))] := hD
      refine lv_iinc (v := (x1 + (1 : Int32))) (lv' := [(1, .int (x1 + (1 : Int32))), (0, .ref (a 0))]) hx hb dX6_faulty_21 hl (k := 1) rfl rfl (by decide) rfl (fun ls hl => ?_)
      refine lv_goto (tgt := 2) hx hb dX6_faulty_24 (by decide) ?_
      exact ih _ _ _ _ _ _ _ _ _ _ _ _ _ _ hf _ _ hP hD hS ls (lv_sub hl [1, 0] rfl)
def fX6_faulty (ss : Nat → Int32) (was : Nat → Int32) (beg : Nat → Int32) (asi : Nat → Int32) (sta : Int32) (txt : Nat → Int32) (typ : Int32) (att : Int32) (rea : Int32) (got : Nat → Int32) (row : Nat → Int32) (oth : Nat → Int32) : Option (Int32 × (Nat → Int32) × (Nat → Int32) × (Nat → Int32) × (Nat → Int32) × Int32 × (Nat → Int32) × Int32 × Int32 × Int32 × (Nat → Int32) × (Nat → Int32) × (Nat → Int32)) := fX6_faulty_b2 2000 (0 : Int32) ss was beg asi sta txt typ att rea got row oth
set_option maxHeartbeats 4000000 in
set_option maxRecDepth 100000 in
theorem qX6_faulty (l : Launch) (G : gT) (a : Nat → Nat) {ss : Nat → Int32} {was : Nat → Int32} {beg : Nat → Int32} {asi : Nat → Int32} {sta : Int32} {txt : Nat → Int32} {typ : Int32} {att : Int32} {rea : Int32} {got : Nat → Int32} {row : Nat → Int32} {oth : Nat → Int32} {u : Int32 × (Nat → Int32) × (Nat → Int32) × (Nat → Int32) × (Nat → Int32) × Int32 × (Nat → Int32) × Int32 × Int32 × Int32 × (Nat → Int32) × (Nat → Int32) × (Nat → Int32)} (hf : fX6_faulty ss was beg asi sta txt typ att rea got row oth = some u) : gC l G yX6_faulty wsX6_faulty rmX6_faulty [.ref (a 0)] (modW G a ss was beg asi sta txt typ att rea got row oth) (some (.int u.1)) (modW G a u.2.1 u.2.2.1 u.2.2.2.1 u.2.2.2.2.1 u.2.2.2.2.2.1 u.2.2.2.2.2.2.1 u.2.2.2.2.2.2.2.1 u.2.2.2.2.2.2.2.2.1 u.2.2.2.2.2.2.2.2.2.1 u.2.2.2.2.2.2.2.2.2.2.1 u.2.2.2.2.2.2.2.2.2.2.2.1 u.2.2.2.2.2.2.2.2.2.2.2.2) := by
  refine gC.of (cc := cX6_faulty) (maxL := 3) (ret := (some .int)) (by decide) rfl (Nat.le_of_ble_eq_true rfl) ?_
  intro p e s m below meth c C0 hP hD hS ls hl
  obtain ⟨hx, hb, hr, hts, hown, hlocks, hml, hK⟩ := id C0
  have hl : lv_has ls 3 [(0, .ref (a 0))] := hl
  have hA : ∀ q : Nat, s.heap.size ≤ q → va_A (modW G a ss was beg asi sta txt typ att rea got row oth) s.heap.size q := fun q h => Or.inr h
  have hP : va_P G.1 vwCl [((a 0), .inr (5, [.ref (a 1), .ref (a 2), .ref (a 3), .ref (a 4), .int sta, .ref (a 5), .int typ, .int att, .int rea, .ref (a 6), .ref (a 7), .ref (a 8)])), ((a 1), .inl (G.2.1, 411, .inl ss)), ((a 2), .inl (G.2.1, 1644, .inl was)), ((a 3), .inl (G.2.1, 411, .inl beg)), ((a 4), .inl (G.2.1, 411, .inl asi)), ((a 5), .inl (G.2.2.1, 60, .inl txt)), ((a 6), .inl (G.2.1, 4, .inl got)), ((a 7), .inl (G.2.1, 4, .inl row)), ((a 8), .inl (G.2.1, 4, .inl oth))] s.heap := hP
  have hD : va_D (va_A (modW G a ss was beg asi sta txt typ att rea got row oth) s.heap.size) [((a 0), .inr (5, [.ref (a 1), .ref (a 2), .ref (a 3), .ref (a 4), .int sta, .ref (a 5), .int typ, .int att, .int rea, .ref (a 6), .ref (a 7), .ref (a 8)])), ((a 1), .inl (G.2.1, 411, .inl ss)), ((a 2), .inl (G.2.1, 1644, .inl was)), ((a 3), .inl (G.2.1, 411, .inl beg)), ((a 4), .inl (G.2.1, 411, .inl asi)), ((a 5), .inl (G.2.2.1, 60, .inl txt)), ((a 6), .inl (G.2.1, 4, .inl got)), ((a 7), .inl (G.2.1, 4, .inl row)), ((a 8), .inl (G.2.1, 4, .inl oth))] := hD
  unfold fX6_faulty at hf
  refine lv_iconst (v := (0 : Int32)) hx hb dX6_faulty_0 (by decide) ?_
  refine lv_istore_n (lv' := [(1, .int (0 : Int32)), (0, .ref (a 0))]) hx hb dX6_faulty_1 rfl hl (by decide) rfl (fun ls hl => ?_)
  exact kX6_faulty_b2 C0 2000 _ _ _ _ _ _ _ _ _ _ _ _ _ _ hf _ _ hP hD hS ls (lv_sub hl [1, 0] rfl)
-- TwoShapesModel.fault(I)I
abbrev rmX6_fault : Room := { frames := 10, cells := 0, slots := 0, locals := 217 }
def fX6_fault (p0 : Int32) (ss : Nat → Int32) (was : Nat → Int32) (beg : Nat → Int32) (asi : Nat → Int32) (sta : Int32) (txt : Nat → Int32) (typ : Int32) (att : Int32) (rea : Int32) (got : Nat → Int32) (row : Nat → Int32) (oth : Nat → Int32) : Option (Int32 × (Nat → Int32) × (Nat → Int32) × (Nat → Int32) × (Nat → Int32) × Int32 × (Nat → Int32) × Int32 × Int32 × Int32 × (Nat → Int32) × (Nat → Int32) × (Nat → Int32)) := ((fX6_in p0 (0 : Int32) (1 : Int32)).bind fun r1 => (if r1 = (0 : Int32) then some ((-1000001 : Int32), ss, was, beg, asi, sta, txt, typ, att, rea, got, row, oth) else ((fX6_faulty ss was beg asi sta txt typ att rea got row oth).bind fun r4 => (if r4.1 = (-1000004 : Int32) then some (r4.1, r4.2.1, r4.2.2.1, r4.2.2.2.1, r4.2.2.2.2.1, r4.2.2.2.2.2.1, r4.2.2.2.2.2.2.1, r4.2.2.2.2.2.2.2.1, r4.2.2.2.2.2.2.2.2.1, r4.2.2.2.2.2.2.2.2.2.1, r4.2.2.2.2.2.2.2.2.2.2.1, r4.2.2.2.2.2.2.2.2.2.2.2.1, r4.2.2.2.2.2.2.2.2.2.2.2.2) else (if p0 = (0 : Int32) then some (r4.1, r4.2.1, r4.2.2.1, r4.2.2.2.1, r4.2.2.2.2.1, r4.2.2.2.2.2.1, r4.2.2.2.2.2.2.1, r4.2.2.2.2.2.2.2.1, r4.2.2.2.2.2.2.2.2.1, r4.2.2.2.2.2.2.2.2.2.1, r4.2.2.2.2.2.2.2.2.2.2.1, r4.2.2.2.2.2.2.2.2.2.2.2.1, r4.2.2.2.2.2.2.2.2.2.2.2.2) else some (r4.2.2.2.2.2.2.2.2.2.1, r4.2.1, r4.2.2.1, r4.2.2.2.1, r4.2.2.2.2.1, r4.2.2.2.2.2.1, r4.2.2.2.2.2.2.1, r4.2.2.2.2.2.2.2.1, r4.2.2.2.2.2.2.2.2.1, r4.2.2.2.2.2.2.2.2.2.1, r4.2.2.2.2.2.2.2.2.2.2.1, r4.2.2.2.2.2.2.2.2.2.2.2.1, r4.2.2.2.2.2.2.2.2.2.2.2.2))))))
set_option maxHeartbeats 4000000 in
set_option maxRecDepth 100000 in
theorem qX6_fault (l : Launch) (G : gT) (a : Nat → Nat) {p0 : Int32} {ss : Nat → Int32} {was : Nat → Int32} {beg : Nat → Int32} {asi : Nat → Int32} {sta : Int32} {txt : Nat → Int32} {typ : Int32} {att : Int32} {rea : Int32} {got : Nat → Int32} {row : Nat → Int32} {oth : Nat → Int32} {u : Int32 × (Nat → Int32) × (Nat → Int32) × (Nat → Int32) × (Nat → Int32) × Int32 × (Nat → Int32) × Int32 × Int32 × Int32 × (Nat → Int32) × (Nat → Int32) × (Nat → Int32)} (hf : fX6_fault p0 ss was beg asi sta txt typ att rea got row oth = some u) : gC l G yX6_fault wsX6_fault rmX6_fault [.ref (a 0), .int p0] (modW G a ss was beg asi sta txt typ att rea got row oth) (some (.int u.1)) (modW G a u.2.1 u.2.2.1 u.2.2.2.1 u.2.2.2.2.1 u.2.2.2.2.2.1 u.2.2.2.2.2.2.1 u.2.2.2.2.2.2.2.1 u.2.2.2.2.2.2.2.2.1 u.2.2.2.2.2.2.2.2.2.1 u.2.2.2.2.2.2.2.2.2.2.1 u.2.2.2.2.2.2.2.2.2.2.2.1 u.2.2.2.2.2.2.2.2.2.2.2.2) := by
  refine gC.of (cc := cX6_fault) (maxL := 3) (ret := (some .int)) (by decide) rfl (Nat.le_of_ble_eq_true rfl) ?_
  intro p e s m below meth c C0 hP hD hS ls hl
  obtain ⟨hx, hb, hr, hts, hown, hlocks, hml, hK⟩ := id C0
  have hl : lv_has ls 3 [(0, .ref (a 0)), (1, .int p0)] := hl
  have hA : ∀ q : Nat, s.heap.size ≤ q → va_A (modW G a ss was beg asi sta txt typ att rea got row oth) s.heap.size q := fun q h => Or.inr h
  have hP : va_P G.1 vwCl [((a 0), .inr (5, [.ref (a 1), .ref (a 2), .ref (a 3), .ref (a 4), .int sta, .ref (a 5), .int typ, .int att, .int rea, .ref (a 6), .ref (a 7), .ref (a 8)])), ((a 1), .inl (G.2.1, 411, .inl ss)), ((a 2), .inl (G.2.1, 1644, .inl was)), ((a 3), .inl (G.2.1, 411, .inl beg)), ((a 4), .inl (G.2.1, 411, .inl asi)), ((a 5), .inl (G.2.2.1, 60, .inl txt)), ((a 6), .inl (G.2.1, 4, .inl got)), ((a 7), .inl (G.2.1, 4, .inl row)), ((a 8), .inl (G.2.1, 4, .inl oth))] s.heap := hP
  have hD : va_D (va_A (modW G a ss was beg asi sta txt typ att rea got row oth) s.heap.size) [((a 0), .inr (5, [.ref (a 1), .ref (a 2), .ref (a 3), .ref (a 4), .int sta, .ref (a 5), .int typ, .int att, .int rea, .ref (a 6), .ref (a 7), .ref (a 8)])), ((a 1), .inl (G.2.1, 411, .inl ss)), ((a 2), .inl (G.2.1, 1644, .inl was)), ((a 3), .inl (G.2.1, 411, .inl beg)), ((a 4), .inl (G.2.1, 411, .inl asi)), ((a 5), .inl (G.2.2.1, 60, .inl txt)), ((a 6), .inl (G.2.1, 4, .inl got)), ((a 7), .inl (G.2.1, 4, .inl row)), ((a 8), .inl (G.2.1, 4, .inl oth))] := hD
  unfold fX6_fault at hf
  refine lv_iload_n hx hb dX6_fault_0 rfl (lv_at hl 1 rfl) ?_
  refine lv_iconst (v := (0 : Int32)) hx hb dX6_fault_1 (by decide) ?_
  refine lv_iconst (v := (1 : Int32)) hx hb dX6_fault_2 (by decide) ?_
  obtain ⟨r1, e2, hf⟩ := g_bdS hf
  refine g_contR (st1 := [.int r1]) (g_runSR (As := [.int p0, .int (0 : Int32), .int (1 : Int32)]) (rest := []) ⟨hx, hb, hml, hown, hts⟩ (qX6_in l G e2) (va_cwS 3 hts (TB_S TB_id tw_714 tw_715 tw_54 tw_716) rfl rfl rfl (by decide +kernel) ⟨Nat.le_of_ble_eq_true rfl, Nat.le_of_ble_eq_true rfl⟩) hK (hP.sub [] rfl) rfl hl.1 rfl (Nat.le_of_ble_eq_true rfl) dX6_fault_3) rfl ?_
  refine lv_if_ne (tgt := 12) hx hb dX6_fault_6 (by decide) (fun c3 => ?_) (fun c3 => ?_)
  · have hf := g_ifF c3 hf
    refine lv_aload_n hx hb dX6_fault_12 rfl (lv_at hl 0 rfl) ?_
    obtain ⟨r4, e5, hf⟩ := g_bdS hf
    refine g_contC (st1 := [.int r4.1]) (g_runVC (As := []) (rest := []) ⟨hx, hb, hml, hown, hts⟩ (qX6_faulty l G a e5) (cwV 0 hts (TB_V TB_id tw_871 tw_873 tw_41 tw_54 tw_874) rfl rfl rfl (by decide +kernel) ⟨Nat.le_of_ble_eq_true rfl, Nat.le_of_ble_eq_true rfl⟩) hK (hP.sub [0, 1, 2, 3, 4, 5, 6, 7, 8] rfl) (hD.sub [0, 1, 2, 3, 4, 5, 6, 7, 8] (by decide) rfl) 0 rfl rfl rfl hl.1 rfl (Nat.le_of_ble_eq_true rfl) dX6_fault_13) rfl hP hD hS hA [0, 1, 2, 3, 4, 5, 6, 7, 8] rfl rfl (fun H locs hP hD hS => ?_)
    have hP : va_P G.1 vwCl [((a 0), .inr (5, [.ref (a 1), .ref (a 2), .ref (a 3), .ref (a 4), .int r4.2.2.2.2.2.1, .ref (a 5), .int r4.2.2.2.2.2.2.2.1, .int r4.2.2.2.2.2.2.2.2.1, .int r4.2.2.2.2.2.2.2.2.2.1, .ref (a 6), .ref (a 7), .ref (a 8)])), ((a 1), .inl (G.2.1, 411, .inl r4.2.1)), ((a 2), .inl (G.2.1, 1644, .inl r4.2.2.1)), ((a 3), .inl (G.2.1, 411, .inl r4.2.2.2.1)), ((a 4), .inl (G.2.1, 411, .inl r4.2.2.2.2.1)), ((a 5), .inl (G.2.2.1, 60, .inl r4.2.2.2.2.2.2.1)), ((a 6), .inl (G.2.1, 4, .inl r4.2.2.2.2.2.2.2.2.2.2.1)), ((a 7), .inl (G.2.1, 4, .inl r4.2.2.2.2.2.2.2.2.2.2.2.1)), ((a 8), .inl (G.2.1, 4, .inl r4.2.2.2.2.2.2.2.2.2.2.2.2))] H := hP
    have hD : va_D (va_A (modW G a ss was beg asi sta txt typ att rea got row oth) s.heap.size) [((a 0), .inr (5, [.ref (a 1), .ref (a 2), .ref (a 3), .ref (a 4), .int r4.2.2.2.2.2.1, .ref (a 5), .int r4.2.2.2.2.2.2.2.1, .int r4.2.2.2.2.2.2.2.2.1, .int r4.2.2.2.2.2.2.2.2.2.1, .ref (a 6), .ref (a 7), .ref (a 8)])), ((a 1), .inl (G.2.1, 411, .inl r4.2.1)), ((a 2), .inl (G.2.1, 1644, .inl r4.2.2.1)), ((a 3), .inl (G.2.1, 411, .inl r4.2.2.2.1)), ((a 4), .inl (G.2.1, 411, .inl r4.2.2.2.2.1)), ((a 5), .inl (G.2.2.1, 60, .inl r4.2.2.2.2.2.2.1)), ((a 6), .inl (G.2.1, 4, .inl r4.2.2.2.2.2.2.2.2.2.2.1)), ((a 7), .inl (G.2.1, 4, .inl r4.2.2.2.2.2.2.2.2.2.2.2.1)), ((a 8), .inl (G.2.1, 4, .inl r4.2.2.2.2.2.2.2.2.2.2.2.2))] := hD
    refine lv_istore_n (lv' := [(2, .int r4.1), (0, .ref (a 0)), (1, .int p0)]) hx hb dX6_fault_16 rfl hl (by decide) rfl (fun ls hl => ?_)
    refine lv_iload_n hx hb dX6_fault_17 rfl (lv_at hl 0 rfl) ?_
    refine lv_ldc (v := (-1000004 : Int32)) hx hb hown (hts _ tw_803) dX6_fault_18 ?_
    refine lv_icmp_eq (tgt := 27) hx hb dX6_fault_20 (by decide) (fun c6 => ?_) (fun c6 => ?_)
    · have hf := g_ifT c6 hf
      refine lv_iload_n hx hb dX6_fault_27 rfl (lv_at hl 0 rfl) ?_
      refine lv_goto (tgt := 35) hx hb dX6_fault_28 (by decide) ?_
      cases hf
      exact g_iretC hx hb hr hlocks hP hD hS dX6_fault_35
    · have hf := g_ifF c6 hf
      refine lv_iload_n hx hb dX6_fault_23 rfl (lv_at hl 2 rfl) ?_
      refine lv_if_ne (tgt := 31) hx hb dX6_fault_24 (by decide) (fun c7 => ?_) (fun c7 => ?_)
      · have hf := g_ifF c7 hf
        refine lv_aload_n hx hb dX6_fault_31 rfl (lv_at hl 1 rfl) ?_
        refine va_get (D := G.1) (ci := 5) (v := .int r4.2.2.2.2.2.2.2.2.2.1) (C := RX6) (T := TX6) (N := 12) hx hb hts hX6 hown hK.1 hP 0 rfl rfl 8 (by decide) (hts _ tw_596) (fun _ h9 => h9) rfl dX6_fault_32 ?_
        cases hf
        exact g_iretC hx hb hr hlocks hP hD hS dX6_fault_35
      · have hf := g_ifT c7 hf
        refine lv_iload_n hx hb dX6_fault_27 rfl (lv_at hl 0 rfl) ?_
        refine lv_goto (tgt := 35) hx hb dX6_fault_28 (by decide) ?_
        cases hf
        exact g_iretC hx hb hr hlocks hP hD hS dX6_fault_35
  · have hf := g_ifT c3 hf
    refine lv_ldc (v := (-1000001 : Int32)) hx hb hown (hts _ tw_654) dX6_fault_9 ?_
    cases hf
    exact g_iretC hx hb hr hlocks hP hD hS dX6_fault_11
-- TwoShapesModel.play()I
abbrev rmX6_play : Room := { frames := 10, cells := 0, slots := 0, locals := 217 }
def fX6_play_b23 : Nat → Int32 → (Nat → Int32) → (Nat → Int32) → (Nat → Int32) → (Nat → Int32) → Int32 → (Nat → Int32) → Int32 → Int32 → Int32 → (Nat → Int32) → (Nat → Int32) → (Nat → Int32) → Option (Int32 × (Nat → Int32) × (Nat → Int32) × (Nat → Int32) × (Nat → Int32) × Int32 × (Nat → Int32) × Int32 × Int32 × Int32 × (Nat → Int32) × (Nat → Int32) × (Nat → Int32))
  | 0, _, _, _, _, _, _, _, _, _, _, _, _, _ => none
  | n + 1, x1, ss, was, beg, asi, sta, txt, typ, att, rea, got, row, oth => (if typ ≤ att then ((fX6_acted x1 ss was beg asi sta txt typ att rea got row oth).bind fun r7 => some (r7.1, r7.2.1, r7.2.2.1, r7.2.2.2.1, r7.2.2.2.2.1, r7.2.2.2.2.2.1, r7.2.2.2.2.2.2.1, r7.2.2.2.2.2.2.2.1, r7.2.2.2.2.2.2.2.2.1, r7.2.2.2.2.2.2.2.2.2.1, r7.2.2.2.2.2.2.2.2.2.2.1, r7.2.2.2.2.2.2.2.2.2.2.2.1, r7.2.2.2.2.2.2.2.2.2.2.2.2)) else ((fX6_doesNext ss was beg asi sta txt typ att rea got row oth).bind fun r9 => (if r9.1 = (0 : Int32) then fX6_play_b23 n (x1 + (1 : Int32)) r9.2.1 r9.2.2.1 r9.2.2.2.1 r9.2.2.2.2.1 r9.2.2.2.2.2.1 r9.2.2.2.2.2.2.1 r9.2.2.2.2.2.2.2.1 r9.2.2.2.2.2.2.2.2.1 r9.2.2.2.2.2.2.2.2.2.1 r9.2.2.2.2.2.2.2.2.2.2.1 r9.2.2.2.2.2.2.2.2.2.2.2.1 r9.2.2.2.2.2.2.2.2.2.2.2.2 else fX6_play_b23 n (x1 + (0 : Int32)) r9.2.1 r9.2.2.1 r9.2.2.2.1 r9.2.2.2.2.1 r9.2.2.2.2.2.1 r9.2.2.2.2.2.2.1 r9.2.2.2.2.2.2.2.1 r9.2.2.2.2.2.2.2.2.1 r9.2.2.2.2.2.2.2.2.2.1 r9.2.2.2.2.2.2.2.2.2.2.1 r9.2.2.2.2.2.2.2.2.2.2.2.1 r9.2.2.2.2.2.2.2.2.2.2.2.2)))
set_option maxHeartbeats 4000000 in
set_option maxRecDepth 100000 in
theorem kX6_play_b23 {p : Program} {l : Launch} {e : Env} {s : State} {m : MethodId} {args : Array Value} {below : List Frame} {meth : Method} {c : Code} {G : gT} {a : Nat → Nat} {w0 : va_W} (C0 : gX p s m args meth c cX6_play 2 (some .int) RX6 G) :
    ∀ (n : Nat) (x1 : Int32) (ss : Nat → Int32) (was : Nat → Int32) (beg : Nat → Int32) (asi : Nat → Int32) (sta : Int32) (txt : Nat → Int32) (typ : Int32) (att : Int32) (rea : Int32) (got : Nat → Int32) (row : Nat → Int32) (oth : Nat → Int32) (u : Int32 × (Nat → Int32) × (Nat → Int32) × (Nat → Int32) × (Nat → Int32) × Int32 × (Nat → Int32) × Int32 × Int32 × Int32 × (Nat → Int32) × (Nat → Int32) × (Nat → Int32)), fX6_play_b23 n x1 ss was beg asi sta txt typ att rea got row oth = some u → ∀ (H : Heap) (locs : List Loc), va_P G.1 vwCl [((a 0), .inr (5, [.ref (a 1), .ref (a 2), .ref (a 3), .ref (a 4), .int sta, .ref (a 5), .int typ, .int att, .int rea, .ref (a 6), .ref (a 7), .ref (a 8)])), ((a 1), .inl (G.2.1, 411, .inl ss)), ((a 2), .inl (G.2.1, 1644, .inl was)), ((a 3), .inl (G.2.1, 411, .inl beg)), ((a 4), .inl (G.2.1, 411, .inl asi)), ((a 5), .inl (G.2.2.1, 60, .inl txt)), ((a 6), .inl (G.2.1, 4, .inl got)), ((a 7), .inl (G.2.1, 4, .inl row)), ((a 8), .inl (G.2.1, 4, .inl oth))] H → va_D (va_A w0 s.heap.size) [((a 0), .inr (5, [.ref (a 1), .ref (a 2), .ref (a 3), .ref (a 4), .int sta, .ref (a 5), .int typ, .int att, .int rea, .ref (a 6), .ref (a 7), .ref (a 8)])), ((a 1), .inl (G.2.1, 411, .inl ss)), ((a 2), .inl (G.2.1, 1644, .inl was)), ((a 3), .inl (G.2.1, 411, .inl beg)), ((a 4), .inl (G.2.1, 411, .inl asi)), ((a 5), .inl (G.2.2.1, 60, .inl txt)), ((a 6), .inl (G.2.1, 4, .inl got)), ((a 7), .inl (G.2.1, 4, .inl row)), ((a 8), .inl (G.2.1, 4, .inl oth))] → va_S (va_A w0 s.heap.size) s.heap H locs → ∀ ls, lv_has ls 2 [(0, .ref (a 0)), (1, .int x1)] → gW p l e (headSpec wsX6_play rmX6_play).room s m args below meth c G w0 (some (.int u.1)) (modW G a u.2.1 u.2.2.1 u.2.2.2.1 u.2.2.2.2.1 u.2.2.2.2.2.1 u.2.2.2.2.2.2.1 u.2.2.2.2.2.2.2.1 u.2.2.2.2.2.2.2.2.1 u.2.2.2.2.2.2.2.2.2.1 u.2.2.2.2.2.2.2.2.2.2.1 u.2.2.2.2.2.2.2.2.2.2.2.1 u.2.2.2.2.2.2.2.2.2.2.2.2) H locs 23 ls [] := by
  obtain ⟨hx, hb, hr, hts, hown, hlocks, hml, hK⟩ := id C0
  have hA : ∀ q : Nat, s.heap.size ≤ q → va_A w0 s.heap.size q := fun q h => Or.inr h
  intro n
  induction n with
  | zero =>
    intro x1 ss was beg asi sta txt typ att rea got row oth u hf H locs hP hD hS ls hl
    have hf : (none : Option (Int32 × (Nat → Int32) × (Nat → Int32) × (Nat → Int32) × (Nat → Int32) × Int32 × (Nat → Int32) × Int32 × Int32 × Int32 × (Nat → Int32) × (Nat → Int32) × (Nat → Int32))) = some u := hf
    cases hf
  | succ n ih =>
    intro x1 ss was beg asi sta txt typ att rea got row oth u hf H locs hP hD hS ls hl
    rw [fX6_play_b23] at hf
    refine lv_aload_n hx hb dX6_play_23 rfl (lv_at hl 0 rfl) ?_
    refine va_get (D := G.1) (ci := 5) (v := .int att) (C := RX6) (T := TX6) (N := 12) hx hb hts hX6 hown hK.1 hP 0 rfl rfl 7 (by decide) (hts _ tw_595) (fun _ h9 => h9) rfl dX6_play_24 ?_
    refine lv_aload_n hx hb dX6_play_27 rfl (lv_at hl 0 rfl) ?_
    refine va_get (D := G.1) (ci := 5) (v := .int typ) (C := RX6) (T := TX6) (N := 12) hx hb hts hX6 hown hK.1 hP 0 rfl rfl 6 (by decide) (hts _ tw_594) (fun _ h9 => h9) rfl dX6_play_28 ?_
    refine lv_icmp_ge (tgt := 52) hx hb dX6_play_31 (by decide) (fun c6 => ?_) (fun c6 => ?_)
    · have hf := g_ifT c6 hf
      refine lv_aload_n hx hb dX6_play_52 rfl (lv_at hl 0 rfl) ?_
      refine lv_iload_n hx hb dX6_play_53 rfl (lv_at hl 1 rfl) ?_
      obtain ⟨r7, e8, hf⟩ := g_bdS hf
      refine g_contC (st1 := [.int r7.1]) (g_runVC (As := [.int x1]) (rest := []) ⟨hx, hb, hml, hown, hts⟩ (qX6_acted l G a e8) (cwV 1 hts (TB_V TB_id tw_650 tw_652 tw_13 tw_54 tw_653) rfl rfl rfl (by decide +kernel) ⟨Nat.le_of_ble_eq_true rfl, Nat.le_of_ble_eq_true rfl⟩) hK (hP.sub [0, 1, 2, 3, 4, 5, 6, 7, 8] rfl) (hD.sub [0, 1, 2, 3, 4, 5, 6, 7, 8] (by decide) rfl) 0 rfl rfl rfl hl.1 rfl (Nat.le_of_ble_eq_true rfl) dX6_play_54) rfl hP hD hS hA [0, 1, 2, 3, 4, 5, 6, 7, 8] rfl rfl (fun H locs hP hD hS => ?_)
      have hP : va_P G.1 vwCl [((a 0), .inr (5, [.ref (a 1), .ref (a 2), .ref (a 3), .ref (a 4), .int r7.2.2.2.2.2.1, .ref (a 5), .int r7.2.2.2.2.2.2.2.1, .int r7.2.2.2.2.2.2.2.2.1, .int r7.2.2.2.2.2.2.2.2.2.1, .ref (a 6), .ref (a 7), .ref (a 8)])), ((a 1), .inl (G.2.1, 411, .inl r7.2.1)), ((a 2), .inl (G.2.1, 1644, .inl r7.2.2.1)), ((a 3), .inl (G.2.1, 411, .inl r7.2.2.2.1)), ((a 4), .inl (G.2.1, 411, .inl r7.2.2.2.2.1)), ((a 5), .inl (G.2.2.1, 60, .inl r7.2.2.2.2.2.2.1)), ((a 6), .inl (G.2.1, 4, .inl r7.2.2.2.2.2.2.2.2.2.2.1)), ((a 7), .inl (G.2.1, 4, .inl r7.2.2.2.2.2.2.2.2.2.2.2.1)), ((a 8), .inl (G.2.1, 4, .inl r7.2.2.2.2.2.2.2.2.2.2.2.2))] H := hP
      have hD : va_D (va_A w0 s.heap.size) [((a 0), .inr (5, [.ref (a 1), .ref (a 2), .ref (a 3), .ref (a 4), .int r7.2.2.2.2.2.1, .ref (a 5), .int r7.2.2.2.2.2.2.2.1, .int r7.2.2.2.2.2.2.2.2.1, .int r7.2.2.2.2.2.2.2.2.2.1, .ref (a 6), .ref (a 7), .ref (a 8)])), ((a 1), .inl (G.2.1, 411, .inl r7.2.1)), ((a 2), .inl (G.2.1, 1644, .inl r7.2.2.1)), ((a 3), .inl (G.2.1, 411, .inl r7.2.2.2.1)), ((a 4), .inl (G.2.1, 411, .inl r7.2.2.2.2.1)), ((a 5), .inl (G.2.2.1, 60, .inl r7.2.2.2.2.2.2.1)), ((a 6), .inl (G.2.1, 4, .inl r7.2.2.2.2.2.2.2.2.2.2.1)), ((a 7), .inl (G.2.1, 4, .inl r7.2.2.2.2.2.2.2.2.2.2.2.1)), ((a 8), .inl (G.2.1, 4, .inl r7.2.2.2.2.2.2.2.2.2.2.2.2))] := hD
      cases hf
      exact g_iretC hx hb hr hlocks hP hD hS dX6_play_57
    · have hf := g_ifF c6 hf
      refine lv_iload_n hx hb dX6_play_34 rfl (lv_at hl 1 rfl) ?_
      refine lv_aload_n hx hb dX6_play_35 rfl (lv_at hl 0 rfl) ?_
      obtain ⟨r9, e10, hf⟩ := g_bdS hf
      refine g_contC (st1 := [.int r9.1, .int x1]) (g_runVC (As := []) (rest := [.int x1]) ⟨hx, hb, hml, hown, hts⟩ (qX6_doesNext l G a e10) (cwV 0 hts (TB_V TB_id tw_875 tw_877 tw_42 tw_54 tw_878) rfl rfl rfl (by decide +kernel) ⟨Nat.le_of_ble_eq_true rfl, Nat.le_of_ble_eq_true rfl⟩) hK (hP.sub [0, 1, 2, 3, 4, 5, 6, 7, 8] rfl) (hD.sub [0, 1, 2, 3, 4, 5, 6, 7, 8] (by decide) rfl) 0 rfl rfl rfl hl.1 rfl (Nat.le_of_ble_eq_true rfl) dX6_play_36) rfl hP hD hS hA [0, 1, 2, 3, 4, 5, 6, 7, 8] rfl rfl (fun H locs hP hD hS => ?_)
      have hP : va_P G.1 vwCl [((a 0), .inr (5, [.ref (a 1), .ref (a 2), .ref (a 3), .ref (a 4), .int r9.2.2.2.2.2.1, .ref (a 5), .int r9.2.2.2.2.2.2.2.1, .int r9.2.2.2.2.2.2.2.2.1, .int r9.2.2.2.2.2.2.2.2.2.1, .ref (a 6), .ref (a 7), .ref (a 8)])), ((a 1), .inl (G.2.1, 411, .inl r9.2.1)), ((a 2), .inl (G.2.1, 1644, .inl r9.2.2.1)), ((a 3), .inl (G.2.1, 411, .inl r9.2.2.2.1)), ((a 4), .inl (G.2.1, 411, .inl r9.2.2.2.2.1)), ((a 5), .inl (G.2.2.1, 60, .inl r9.2.2.2.2.2.2.1)), ((a 6), .inl (G.2.1, 4, .inl r9.2.2.2.2.2.2.2.2.2.2.1)), ((a 7), .inl (G.2.1, 4, .inl r9.2.2.2.2.2.2.2.2.2.2.2.1)), ((a 8), .inl (G.2.1, 4, .inl r9.2.2.2.2.2.2.2.2.2.2.2.2))] H := hP
      have hD : va_D (va_A w0 s.heap.size) [((a 0), .inr (5, [.ref (a 1), .ref (a 2), .ref (a 3), .ref (a 4), .int r9.2.2.2.2.2.1, .ref (a 5), .int r9.2.2.2.2.2.2.2.1, .int r9.2.2.2.2.2.2.2.2.1, .int r9.2.2.2.2.2.2.2.2.2.1, .ref (a 6), .ref (a 7), .ref (a 8)])), ((a 1), .inl (G.2.1, 411, .inl r9.2.1)), ((a 2), .inl (G.2.1, 1644, .inl r9.2.2.1)), ((a 3), .inl (G.2.1, 411, .inl r9.2.2.2.1)), ((a 4), .inl (G.2.1, 411, .inl r9.2.2.2.2.1)), ((a 5), .inl (G.2.2.1, 60, .inl r9.2.2.2.2.2.2.1)), ((a 6), .inl (G.2.1, 4, .inl r9.2.2.2.2.2.2.2.2.2.2.1)), ((a 7), .inl (G.2.1, 4, .inl r9.2.2.2.2.2.2.2.2.2.2.2.1)), ((a 8), .inl (G.2.1, 4, .inl r9.2.2.2.2.2.2.2.2.2.2.2.2))] := hD
      refine lv_if_ne (tgt := 46) hx hb dX6_play_39 (by decide) (fun c11 => ?_) (fun c11 => ?_)
      · have hf := g_ifF c11 hf
        refine lv_iconst (v := (0 : Int32)) hx hb dX6_play_46 (by decide) ?_
        refine lv_iadd hx hb dX6_play_47 ?_
        refine lv_istore_n (lv' := [(1, .int (x1 + (0 : Int32))), (0, .ref (a 0))]) hx hb dX6_play_48 rfl hl (by decide) rfl (fun ls hl => ?_)
        refine lv_goto (tgt := 23) hx hb dX6_play_49 (by decide) ?_
        exact ih _ _ _ _ _ _ _ _ _ _ _ _ _ _ hf _ _ hP hD hS ls (lv_sub hl [1, 0] rfl)
      · have hf := g_ifT c11 hf
        refine lv_iconst (v := (1 : Int32)) hx hb dX6_play_42 (by decide) ?_
        refine lv_goto (tgt := 47) hx hb dX6_play_43 (by decide) ?_
        refine lv_iadd hx hb dX6_play_47 ?_
        refine lv_istore_n (lv' := [(1, .int (x1 + (1 : Int32))), (0, .ref (a 0))]) hx hb dX6_play_48 rfl hl (by decide) rfl (fun ls hl => ?_)
        refine lv_goto (tgt := 23) hx hb dX6_play_49 (by decide) ?_
        exact ih _ _ _ _ _ _ _ _ _ _ _ _ _ _ hf _ _ hP hD hS ls (lv_sub hl [1, 0] rfl)
def fX6_play (ss : Nat → Int32) (was : Nat → Int32) (beg : Nat → Int32) (asi : Nat → Int32) (sta : Int32) (txt : Nat → Int32) (typ : Int32) (att : Int32) (rea : Int32) (got : Nat → Int32) (row : Nat → Int32) (oth : Nat → Int32) : Option (Int32 × (Nat → Int32) × (Nat → Int32) × (Nat → Int32) × (Nat → Int32) × Int32 × (Nat → Int32) × Int32 × Int32 × Int32 × (Nat → Int32) × (Nat → Int32) × (Nat → Int32)) := ((fX6_faulty ss was beg asi sta txt typ att rea got row oth).bind fun r1 => (if r1.1 = (-1000004 : Int32) then ((fX6_keeps r1.2.1 r1.2.2.1 r1.2.2.2.1 r1.2.2.2.2.1 r1.2.2.2.2.2.1 r1.2.2.2.2.2.2.1 r1.2.2.2.2.2.2.2.1 r1.2.2.2.2.2.2.2.2.1 r1.2.2.2.2.2.2.2.2.2.1 r1.2.2.2.2.2.2.2.2.2.2.1 r1.2.2.2.2.2.2.2.2.2.2.2.1 r1.2.2.2.2.2.2.2.2.2.2.2.2).bind fun r4 => fX6_play_b23 2000 (0 : Int32) r4.1 r4.2.1 r4.2.2.1 r4.2.2.2.1 r4.2.2.2.2.1 r4.2.2.2.2.2.1 r4.2.2.2.2.2.2.1 (0 : Int32) r4.2.2.2.2.2.2.2.2.1 r4.2.2.2.2.2.2.2.2.2.1 r4.2.2.2.2.2.2.2.2.2.2.1 r4.2.2.2.2.2.2.2.2.2.2.2) else some ((-1000002 : Int32), r1.2.1, r1.2.2.1, r1.2.2.2.1, r1.2.2.2.2.1, r1.2.2.2.2.2.1, r1.2.2.2.2.2.2.1, r1.2.2.2.2.2.2.2.1, r1.2.2.2.2.2.2.2.2.1, r1.2.2.2.2.2.2.2.2.2.1, r1.2.2.2.2.2.2.2.2.2.2.1, r1.2.2.2.2.2.2.2.2.2.2.2.1, r1.2.2.2.2.2.2.2.2.2.2.2.2)))
set_option maxHeartbeats 4000000 in
set_option maxRecDepth 100000 in
theorem qX6_play (l : Launch) (G : gT) (a : Nat → Nat) {ss : Nat → Int32} {was : Nat → Int32} {beg : Nat → Int32} {asi : Nat → Int32} {sta : Int32} {txt : Nat → Int32} {typ : Int32} {att : Int32} {rea : Int32} {got : Nat → Int32} {row : Nat → Int32} {oth : Nat → Int32} {u : Int32 × (Nat → Int32) × (Nat → Int32) × (Nat → Int32) × (Nat → Int32) × Int32 × (Nat → Int32) × Int32 × Int32 × Int32 × (Nat → Int32) × (Nat → Int32) × (Nat → Int32)} (hf : fX6_play ss was beg asi sta txt typ att rea got row oth = some u) : gC l G yX6_play wsX6_play rmX6_play [.ref (a 0)] (modW G a ss was beg asi sta txt typ att rea got row oth) (some (.int u.1)) (modW G a u.2.1 u.2.2.1 u.2.2.2.1 u.2.2.2.2.1 u.2.2.2.2.2.1 u.2.2.2.2.2.2.1 u.2.2.2.2.2.2.2.1 u.2.2.2.2.2.2.2.2.1 u.2.2.2.2.2.2.2.2.2.1 u.2.2.2.2.2.2.2.2.2.2.1 u.2.2.2.2.2.2.2.2.2.2.2.1 u.2.2.2.2.2.2.2.2.2.2.2.2) := by
  refine gC.of (cc := cX6_play) (maxL := 2) (ret := (some .int)) (by decide) rfl (Nat.le_of_ble_eq_true rfl) ?_
  intro p e s m below meth c C0 hP hD hS ls hl
  obtain ⟨hx, hb, hr, hts, hown, hlocks, hml, hK⟩ := id C0
  have hl : lv_has ls 2 [(0, .ref (a 0))] := hl
  have hA : ∀ q : Nat, s.heap.size ≤ q → va_A (modW G a ss was beg asi sta txt typ att rea got row oth) s.heap.size q := fun q h => Or.inr h
  have hP : va_P G.1 vwCl [((a 0), .inr (5, [.ref (a 1), .ref (a 2), .ref (a 3), .ref (a 4), .int sta, .ref (a 5), .int typ, .int att, .int rea, .ref (a 6), .ref (a 7), .ref (a 8)])), ((a 1), .inl (G.2.1, 411, .inl ss)), ((a 2), .inl (G.2.1, 1644, .inl was)), ((a 3), .inl (G.2.1, 411, .inl beg)), ((a 4), .inl (G.2.1, 411, .inl asi)), ((a 5), .inl (G.2.2.1, 60, .inl txt)), ((a 6), .inl (G.2.1, 4, .inl got)), ((a 7), .inl (G.2.1, 4, .inl row)), ((a 8), .inl (G.2.1, 4, .inl oth))] s.heap := hP
  have hD : va_D (va_A (modW G a ss was beg asi sta txt typ att rea got row oth) s.heap.size) [((a 0), .inr (5, [.ref (a 1), .ref (a 2), .ref (a 3), .ref (a 4), .int sta, .ref (a 5), .int typ, .int att, .int rea, .ref (a 6), .ref (a 7), .ref (a 8)])), ((a 1), .inl (G.2.1, 411, .inl ss)), ((a 2), .inl (G.2.1, 1644, .inl was)), ((a 3), .inl (G.2.1, 411, .inl beg)), ((a 4), .inl (G.2.1, 411, .inl asi)), ((a 5), .inl (G.2.2.1, 60, .inl txt)), ((a 6), .inl (G.2.1, 4, .inl got)), ((a 7), .inl (G.2.1, 4, .inl row)), ((a 8), .inl (G.2.1, 4, .inl oth))] := hD
  unfold fX6_play at hf
  refine lv_aload_n hx hb dX6_play_0 rfl (lv_at hl 0 rfl) ?_
  obtain ⟨r1, e2, hf⟩ := g_bdS hf
  refine g_contC (st1 := [.int r1.1]) (g_runVC (As := []) (rest := []) ⟨hx, hb, hml, hown, hts⟩ (qX6_faulty l G a e2) (cwV 0 hts (TB_V TB_id tw_871 tw_873 tw_41 tw_54 tw_874) rfl rfl rfl (by decide +kernel) ⟨Nat.le_of_ble_eq_true rfl, Nat.le_of_ble_eq_true rfl⟩) hK (hP.sub [0, 1, 2, 3, 4, 5, 6, 7, 8] rfl) (hD.sub [0, 1, 2, 3, 4, 5, 6, 7, 8] (by decide) rfl) 0 rfl rfl rfl hl.1 rfl (Nat.le_of_ble_eq_true rfl) dX6_play_1) rfl hP hD hS hA [0, 1, 2, 3, 4, 5, 6, 7, 8] rfl rfl (fun H locs hP hD hS => ?_)
  have hP : va_P G.1 vwCl [((a 0), .inr (5, [.ref (a 1), .ref (a 2), .ref (a 3), .ref (a 4), .int r1.2.2.2.2.2.1, .ref (a 5), .int r1.2.2.2.2.2.2.2.1, .int r1.2.2.2.2.2.2.2.2.1, .int r1.2.2.2.2.2.2.2.2.2.1, .ref (a 6), .ref (a 7), .ref (a 8)])), ((a 1), .inl (G.2.1, 411, .inl r1.2.1)), ((a 2), .inl (G.2.1, 1644, .inl r1.2.2.1)), ((a 3), .inl (G.2.1, 411, .inl r1.2.2.2.1)), ((a 4), .inl (G.2.1, 411, .inl r1.2.2.2.2.1)), ((a 5), .inl (G.2.2.1, 60, .inl r1.2.2.2.2.2.2.1)), ((a 6), .inl (G.2.1, 4, .inl r1.2.2.2.2.2.2.2.2.2.2.1)), ((a 7), .inl (G.2.1, 4, .inl r1.2.2.2.2.2.2.2.2.2.2.2.1)), ((a 8), .inl (G.2.1, 4, .inl r1.2.2.2.2.2.2.2.2.2.2.2.2))] H := hP
  have hD : va_D (va_A (modW G a ss was beg asi sta txt typ att rea got row oth) s.heap.size) [((a 0), .inr (5, [.ref (a 1), .ref (a 2), .ref (a 3), .ref (a 4), .int r1.2.2.2.2.2.1, .ref (a 5), .int r1.2.2.2.2.2.2.2.1, .int r1.2.2.2.2.2.2.2.2.1, .int r1.2.2.2.2.2.2.2.2.2.1, .ref (a 6), .ref (a 7), .ref (a 8)])), ((a 1), .inl (G.2.1, 411, .inl r1.2.1)), ((a 2), .inl (G.2.1, 1644, .inl r1.2.2.1)), ((a 3), .inl (G.2.1, 411, .inl r1.2.2.2.1)), ((a 4), .inl (G.2.1, 411, .inl r1.2.2.2.2.1)), ((a 5), .inl (G.2.2.1, 60, .inl r1.2.2.2.2.2.2.1)), ((a 6), .inl (G.2.1, 4, .inl r1.2.2.2.2.2.2.2.2.2.2.1)), ((a 7), .inl (G.2.1, 4, .inl r1.2.2.2.2.2.2.2.2.2.2.2.1)), ((a 8), .inl (G.2.1, 4, .inl r1.2.2.2.2.2.2.2.2.2.2.2.2))] := hD
  refine lv_ldc (v := (-1000004 : Int32)) hx hb hown (hts _ tw_803) dX6_play_4 ?_
  refine lv_icmp_eq (tgt := 12) hx hb dX6_play_6 (by decide) (fun c3 => ?_) (fun c3 => ?_)
  · have hf := g_ifT c3 hf
    refine lv_aload_n hx hb dX6_play_12 rfl (lv_at hl 0 rfl) ?_
    obtain ⟨r4, e5, hf⟩ := g_bdS hf
    refine g_contC (st1 := []) (g_runVC (As := []) (rest := []) ⟨hx, hb, hml, hown, hts⟩ (qX6_keeps l G a e5) (cwV 0 hts (TB_V TB_id tw_631 tw_633 tw_9 tw_54 tw_634) rfl rfl rfl (by decide +kernel) ⟨Nat.le_of_ble_eq_true rfl, Nat.le_of_ble_eq_true rfl⟩) hK (hP.sub [0, 1, 2, 3, 4, 5, 6, 7, 8] rfl) (hD.sub [0, 1, 2, 3, 4, 5, 6, 7, 8] (by decide) rfl) 0 rfl rfl rfl hl.1 rfl (Nat.le_of_ble_eq_true rfl) dX6_play_13) rfl hP hD hS hA [0, 1, 2, 3, 4, 5, 6, 7, 8] rfl rfl (fun H locs hP hD hS => ?_)
    have hP : va_P G.1 vwCl [((a 0), .inr (5, [.ref (a 1), .ref (a 2), .ref (a 3), .ref (a 4), .int r4.2.2.2.2.1, .ref (a 5), .int r4.2.2.2.2.2.2.1, .int r4.2.2.2.2.2.2.2.1, .int r4.2.2.2.2.2.2.2.2.1, .ref (a 6), .ref (a 7), .ref (a 8)])), ((a 1), .inl (G.2.1, 411, .inl r4.1)), ((a 2), .inl (G.2.1, 1644, .inl r4.2.1)), ((a 3), .inl (G.2.1, 411, .inl r4.2.2.1)), ((a 4), .inl (G.2.1, 411, .inl r4.2.2.2.1)), ((a 5), .inl (G.2.2.1, 60, .inl r4.2.2.2.2.2.1)), ((a 6), .inl (G.2.1, 4, .inl r4.2.2.2.2.2.2.2.2.2.1)), ((a 7), .inl (G.2.1, 4, .inl r4.2.2.2.2.2.2.2.2.2.2.1)), ((a 8), .inl (G.2.1, 4, .inl r4.2.2.2.2.2.2.2.2.2.2.2))] H := hP
    have hD : va_D (va_A (modW G a ss was beg asi sta txt typ att rea got row oth) s.heap.size) [((a 0), .inr (5, [.ref (a 1), .ref (a 2), .ref (a 3), .ref (a 4), .int r4.2.2.2.2.1, .ref (a 5), .int r4.2.2.2.2.2.2.1, .int r4.2.2.2.2.2.2.2.1, .int r4.2.2.2.2.2.2.2.2.1, .ref (a 6), .ref (a 7), .ref (a 8)])), ((a 1), .inl (G.2.1, 411, .inl r4.1)), ((a 2), .inl (G.2.1, 1644, .inl r4.2.1)), ((a 3), .inl (G.2.1, 411, .inl r4.2.2.1)), ((a 4), .inl (G.2.1, 411, .inl r4.2.2.2.1)), ((a 5), .inl (G.2.2.1, 60, .inl r4.2.2.2.2.2.1)), ((a 6), .inl (G.2.1, 4, .inl r4.2.2.2.2.2.2.2.2.2.1)), ((a 7), .inl (G.2.1, 4, .inl r4.2.2.2.2.2.2.2.2.2.2.1)), ((a 8), .inl (G.2.1, 4, .inl r4.2.2.2.2.2.2.2.2.2.2.2))] := hD
    refine lv_iconst (v := (0 : Int32)) hx hb dX6_play_16 (by decide) ?_
    refine lv_istore_n (lv' := [(1, .int (0 : Int32)), (0, .ref (a 0))]) hx hb dX6_play_17 rfl hl (by decide) rfl (fun ls hl => ?_)
    refine lv_aload_n hx hb dX6_play_18 rfl (lv_at hl 1 rfl) ?_
    refine lv_iconst (v := (0 : Int32)) hx hb dX6_play_19 (by decide) ?_
    refine va_put (D := G.1) (ci := 5) (v := .int (0 : Int32)) (ty := .int) (C := RX6) (T := TX6) (N := 12) hx hb hts hX6 tyX6 tyX6_ok nmX6 hown hK.1 hP hD hS 0 rfl rfl 7 (by decide) (hts _ tw_595) (fun _ h9 => h9) rfl (by decide +kernel) rfl rfl (Nat.le_of_ble_eq_true rfl) dX6_play_20 (fun H locs hP hD hS => ?_)
    have hP : va_P G.1 vwCl [((a 0), .inr (5, [.ref (a 1), .ref (a 2), .ref (a 3), .ref (a 4), .int r4.2.2.2.2.1, .ref (a 5), .int r4.2.2.2.2.2.2.1, .int (0 : Int32), .int r4.2.2.2.2.2.2.2.2.1, .ref (a 6), .ref (a 7), .ref (a 8)])), ((a 1), .inl (G.2.1, 411, .inl r4.1)), ((a 2), .inl (G.2.1, 1644, .inl r4.2.1)), ((a 3), .inl (G.2.1, 411, .inl r4.2.2.1)), ((a 4), .inl (G.2.1, 411, .inl r4.2.2.2.1)), ((a 5), .inl (G.2.2.1, 60, .inl r4.2.2.2.2.2.1)), ((a 6), .inl (G.2.1, 4, .inl r4.2.2.2.2.2.2.2.2.2.1)), ((a 7), .inl (G.2.1, 4, .inl r4.2.2.2.2.2.2.2.2.2.2.1)), ((a 8), .inl (G.2.1, 4, .inl r4.2.2.2.2.2.2.2.2.2.2.2))] H := hP
    have hD : va_D (va_A (modW G a ss was beg asi sta txt typ att rea got row oth) s.heap.size) [((a 0), .inr (5, [.ref (a 1), .ref (a 2), .ref (a 3), .ref (a 4), .int r4.2.2.2.2.1, .ref (a 5), .int r4.2.2.2.2.2.2.1, .int (0 : Int32), .int r4.2.2.2.2.2.2.2.2.1, .ref (a 6), .ref (a 7), .ref (a 8)])), ((a 1), .inl (G.2.1, 411, .inl r4.1)), ((a 2), .inl (G.2.1, 1644, .inl r4.2.1)), ((a 3), .inl (G.2.1, 411, .inl r4.2.2.1)), ((a 4), .inl (G.2.1, 411, .inl r4.2.2.2.1)), ((a 5), .inl (G.2.2.1, 60, .inl r4.2.2.2.2.2.1)), ((a 6), .inl (G.2.1, 4, .inl r4.2.2.2.2.2.2.2.2.2.1)), ((a 7), .inl (G.2.1, 4, .inl r4.2.2.2.2.2.2.2.2.2.2.1)), ((a 8), .inl (G.2.1, 4, .inl r4.2.2.2.2.2.2.2.2.2.2.2))] := hD
    exact kX6_play_b23 C0 2000 _ _ _ _ _ _ _ _ _ _ _ _ _ _ hf _ _ hP hD hS ls (lv_sub hl [1, 0] rfl)
  · have hf := g_ifF c3 hf
    refine lv_ldc (v := (-1000002 : Int32)) hx hb hown (hts _ tw_630) dX6_play_9 ?_
    cases hf
    exact g_iretC hx hb hr hlocks hP hD hS dX6_play_11
