def wsL_writes : List Cond := .code yL_writes cL_writes 13 (some .boolean) :: TB
abbrev rmL_writes : Room := { frames := 5, cells := 0, slots := 0, locals := 126 }
def fL_writes (p1 : Int32) (p2 : Int32) (S : zS) : Option (Int32 × zS) := ((K_count (1 : Int32) S).bind fun r1 => ((K_count (3 : Int32) S).bind fun r5 => ((K_count (0 : Int32) S).bind fun r9 => ((if r9 = (1 : Int32) then some ((1 : Int32)) else ((K_count (0 : Int32) S).bind fun r17 => (if r17 = (2 : Int32) then some ((1 : Int32)) else some ((0 : Int32)))) : Option (Int32)).bind fun v14 => ((if (p2 - p2 / (2 : Int32) * (2 : Int32)) = (1 : Int32) then some ((1 : Int32)) else some ((0 : Int32)) : Option (Int32)).bind fun v23 => ((if v23 = (0 : Int32) then ((K_writeOld p1 (((p2 / (2 : Int32)) - (p2 / (2 : Int32)) / (1000 : Int32) * (1000 : Int32)) / (10 : Int32)) (((p2 / (2 : Int32)) - (p2 / (2 : Int32)) / (1000 : Int32) * (1000 : Int32)) - ((p2 / (2 : Int32)) - (p2 / (2 : Int32)) / (1000 : Int32) * (1000 : Int32)) / (10 : Int32) * (10 : Int32)) (((p2 / (2048 : Int32)) - (p2 / (2048 : Int32)) / (4 : Int32) * (4 : Int32)) - ((p2 / (2048 : Int32)) - (p2 / (2048 : Int32)) / (4 : Int32) * (4 : Int32)) / (2 : Int32) * (2 : Int32)) S).bind fun r30 => some (r30.1, r30.2)) else ((K_writeNew p1 ((p2 / (2 : Int32)) - (p2 / (2 : Int32)) / (1000 : Int32) * (1000 : Int32)) ((p2 / (2048 : Int32)) - (p2 / (2048 : Int32)) / (4 : Int32) * (4 : Int32)) S).bind fun r34 => some (r34.1, r34.2)) : Option (Int32 × zS)).bind fun v27 => (if (0 : Int32) ≤ v27.1 then ((if v27.1 = (r1 + (1 : Int32)) then ((K_count (3 : Int32) v27.2).bind fun r43 => ((if v14 = (0 : Int32) then some ((0 : Int32)) else some ((r5 + (1 : Int32))) : Option (Int32)).bind fun v48 => (if r43 = v48 then some ((1 : Int32)) else some ((0 : Int32))))) else some ((0 : Int32)) : Option (Int32)).bind fun v40 => ((if v40 = (0 : Int32) then some ((0 : Int32)) else ((K_read p1 (0 : Int32) (0 : Int32) v27.2).bind fun r56 => (if r56 = (((p2 / (2 : Int32)) - (p2 / (2 : Int32)) / (1000 : Int32) * (1000 : Int32)) / (10 : Int32)) then ((K_read p1 (0 : Int32) (1 : Int32) v27.2).bind fun r61 => (if r61 = (((p2 / (2 : Int32)) - (p2 / (2 : Int32)) / (1000 : Int32) * (1000 : Int32)) - ((p2 / (2 : Int32)) - (p2 / (2 : Int32)) / (1000 : Int32) * (1000 : Int32)) / (10 : Int32) * (10 : Int32)) then ((K_read p1 (1 : Int32) (0 : Int32) v27.2).bind fun r66 => (if r66 = ((p2 / (2 : Int32)) - (p2 / (2 : Int32)) / (1000 : Int32) * (1000 : Int32)) then some ((1 : Int32)) else some ((0 : Int32)))) else some ((0 : Int32)))) else some ((0 : Int32)))) : Option (Int32)).bind fun v53 => ((if v23 = (0 : Int32) then some ((((p2 / (2048 : Int32)) - (p2 / (2048 : Int32)) / (4 : Int32) * (4 : Int32)) - ((p2 / (2048 : Int32)) - (p2 / (2048 : Int32)) / (4 : Int32) * (4 : Int32)) / (2 : Int32) * (2 : Int32))) else (if ((p2 / (2048 : Int32)) - (p2 / (2048 : Int32)) / (4 : Int32) * (4 : Int32)) ≤ (0 : Int32) then some ((0 : Int32)) else some ((1 : Int32))) : Option (Int32)).bind fun v72 => ((if v23 = (0 : Int32) then some ((1 : Int32)) else (if v14 = (0 : Int32) then ((K_count (0 : Int32) v27.2).bind fun r81 => (if r81 = (3 : Int32) then some ((1 : Int32)) else some ((0 : Int32)))) else some ((1 : Int32))) : Option (Int32)).bind fun v77 => ((if v53 = (0 : Int32) then some ((0 : Int32)) else ((K_read p1 (0 : Int32) (2 : Int32) v27.2).bind fun r90 => (if r90 = v72 then ((K_read p1 (1 : Int32) (1 : Int32) v27.2).bind fun r95 => ((if v77 = (0 : Int32) then some (v72) else (if v23 = (0 : Int32) then some (v72) else some (((p2 / (2048 : Int32)) - (p2 / (2048 : Int32)) / (4 : Int32) * (4 : Int32)))) : Option (Int32)).bind fun v100 => (if r95 = v100 then some ((1 : Int32)) else some ((0 : Int32))))) else some ((0 : Int32)))) : Option (Int32)).bind fun v87 => g_gd (g_bl v87) (some (v87, v27.2))))))) else ((if v27.1 = (-1000003 : Int32) then (if v14 = (0 : Int32) then some ((0 : Int32)) else (if r5 = (8 : Int32) then ((K_count (1 : Int32) v27.2).bind fun r112 => (if r112 = r1 then some ((1 : Int32)) else some ((0 : Int32)))) else some ((0 : Int32)))) else some ((0 : Int32)) : Option (Int32)).bind fun v107 => g_gd (g_bl v107) (some (v107, v27.2))))))))))
set_option maxHeartbeats 4000000 in
set_option maxRecDepth 100000 in
theorem qL_writes (l : Launch) (G : gT) {x hi h0 h1 h2 : Nat} {p1 : Int32} {p2 : Int32} {S : zS} {w0 : va_W} {u : Int32 × zS} (hR : Rp G x hi h0 h1 h2 S w0) (hf : fL_writes p1 p2 S = some u) : gF l G yL_writes wsL_writes rmL_writes [.ref x, .int p1, .int p2] w0 (some (.int u.1)) (Rp G x hi h0 h1 h2 u.2) := by
  refine gF.of (cc := cL_writes) (maxL := 13) (ret := (some .boolean)) (by decide) rfl (Nat.le_of_ble_eq_true rfl) ?_
  intro p e s m below meth c C0 hP hD hS ls hl
  generalize hav : ([.ref x, .int p1, .int p2] : List Value).toArray = args at C0 ⊢
  obtain ⟨hx, hb, hr, hts, hown, hlocks, hml, hK⟩ := id C0
  have hl : lv_has ls 13 [(0, .ref x), (1, .int p1), (2, .int p2)] := hl
  have hA : ∀ q : Nat, s.heap.size ≤ q → va_A w0 s.heap.size q := fun q h => Or.inr h
  unfold fL_writes at hf
  refine lv_aload_n hx hb dL_writes_0 rfl (lv_at hl 0 rfl) ?_
  refine lv_iconst (v := (1 : Int32)) hx hb dL_writes_1 (by decide) ?_
  obtain ⟨r1, e2, hf⟩ := g_bdS hf
  obtain ⟨fs3, he4⟩ := Rp.recv hR
  refine g_contR (st1 := [.int r1]) (g_runVR (As := [.int (1 : Int32)]) (rest := []) ⟨hx, hb, hml, hown, hts⟩ (A_count l G hR e2) (cwV 1 hts (TB_V TB_id tw_238 tw_239 tw_240 tw_5 tw_241) rfl rfl rfl (by decide +kernel) ⟨Nat.le_of_ble_eq_true rfl, Nat.le_of_ble_eq_true rfl⟩) hK hP 0 he4 rfl rfl hl.1 rfl (Nat.le_of_ble_eq_true rfl) dL_writes_2) rfl ?_
  refine lv_istore_n (lv' := [(3, .int r1), (0, .ref x), (1, .int p1), (2, .int p2)]) hx hb dL_writes_5 rfl hl (by decide) rfl (fun ls hl => ?_)
  refine lv_aload_n hx hb dL_writes_6 rfl (lv_at hl 1 rfl) ?_
  refine lv_iconst (v := (3 : Int32)) hx hb dL_writes_7 (by decide) ?_
  obtain ⟨r5, e6, hf⟩ := g_bdS hf
  obtain ⟨fs7, he8⟩ := Rp.recv hR
  refine g_contR (st1 := [.int r5]) (g_runVR (As := [.int (3 : Int32)]) (rest := []) ⟨hx, hb, hml, hown, hts⟩ (A_count l G hR e6) (cwV 1 hts (TB_V TB_id tw_238 tw_239 tw_240 tw_5 tw_241) rfl rfl rfl (by decide +kernel) ⟨Nat.le_of_ble_eq_true rfl, Nat.le_of_ble_eq_true rfl⟩) hK hP 0 he8 rfl rfl hl.1 rfl (Nat.le_of_ble_eq_true rfl) dL_writes_8) rfl ?_
  refine lv_istore (lv' := [(4, .int r5), (3, .int r1), (0, .ref x), (1, .int p1), (2, .int p2)]) hx hb dL_writes_11 hl (by decide) rfl (fun ls hl => ?_)
  refine lv_aload_n hx hb dL_writes_13 rfl (lv_at hl 2 rfl) ?_
  refine lv_iconst (v := (0 : Int32)) hx hb dL_writes_14 (by decide) ?_
  obtain ⟨r9, e10, hf⟩ := g_bdS hf
  obtain ⟨fs11, he12⟩ := Rp.recv hR
  refine g_contR (st1 := [.int r9]) (g_runVR (As := [.int (0 : Int32)]) (rest := []) ⟨hx, hb, hml, hown, hts⟩ (A_count l G hR e10) (cwV 1 hts (TB_V TB_id tw_238 tw_239 tw_240 tw_5 tw_241) rfl rfl rfl (by decide +kernel) ⟨Nat.le_of_ble_eq_true rfl, Nat.le_of_ble_eq_true rfl⟩) hK hP 0 he12 rfl rfl hl.1 rfl (Nat.le_of_ble_eq_true rfl) dL_writes_15) rfl ?_
  refine lv_iconst (v := (1 : Int32)) hx hb dL_writes_18 (by decide) ?_
  obtain ⟨v14, ev15, hf⟩ := g_bdS hf
  have K16 : ∀ (w : va_W) (H : Heap) (locs : List Loc), Rp G x hi h0 h1 h2 S w → va_P G.1 vwCl w H → va_D (va_A w0 s.heap.size) w → va_S (va_A w0 s.heap.size) s.heap H locs → ∀ ls, lv_has ls 13 [(0, .ref x), (1, .int p1), (2, .int p2), (3, .int r1), (4, .int r5)] → gWF p l e (headSpec wsL_writes rmL_writes).room s m args below meth c G w0 (some (.int u.1)) (Rp G x hi h0 h1 h2 u.2) H locs 36 ls [.int v14] := by
    intro w H locs hR hP hD hS ls hl
    refine lv_istore (lv' := [(5, .int v14), (0, .ref x), (1, .int p1), (2, .int p2), (3, .int r1), (4, .int r5)]) hx hb dL_writes_36 hl (by decide) rfl (fun ls hl => ?_)
    refine lv_iload_n hx hb dL_writes_38 rfl (lv_at hl 3 rfl) ?_
    refine lv_iconst (v := (2 : Int32)) hx hb dL_writes_39 (by decide) ?_
    refine lv_irem hx hb dL_writes_40 (by decide) ?_
    refine lv_iconst (v := (1 : Int32)) hx hb dL_writes_41 (by decide) ?_
    obtain ⟨v23, ev24, hf⟩ := g_bdS hf
    have K25 : ∀ (w : va_W) (H : Heap) (locs : List Loc), Rp G x hi h0 h1 h2 S w → va_P G.1 vwCl w H → va_D (va_A w0 s.heap.size) w → va_S (va_A w0 s.heap.size) s.heap H locs → ∀ ls, lv_has ls 13 [(0, .ref x), (1, .int p1), (2, .int p2), (3, .int r1), (4, .int r5), (5, .int v14)] → gWF p l e (headSpec wsL_writes rmL_writes).room s m args below meth c G w0 (some (.int u.1)) (Rp G x hi h0 h1 h2 u.2) H locs 50 ls [.int v23] := by
      intro w H locs hR hP hD hS ls hl
      refine lv_istore (lv' := [(6, .int v23), (0, .ref x), (1, .int p1), (2, .int p2), (3, .int r1), (4, .int r5), (5, .int v14)]) hx hb dL_writes_50 hl (by decide) rfl (fun ls hl => ?_)
      refine lv_iload_n hx hb dL_writes_52 rfl (lv_at hl 3 rfl) ?_
      refine lv_iconst (v := (2 : Int32)) hx hb dL_writes_53 (by decide) ?_
      refine lv_idiv hx hb dL_writes_54 (by decide) ?_
      refine lv_sipush (v := (1000 : Int32)) hx hb dL_writes_55 (by decide) ?_
      refine lv_irem hx hb dL_writes_58 (by decide) ?_
      refine lv_istore (lv' := [(7, .int ((p2 / (2 : Int32)) - (p2 / (2 : Int32)) / (1000 : Int32) * (1000 : Int32))), (6, .int v23), (0, .ref x), (1, .int p1), (2, .int p2), (3, .int r1), (4, .int r5), (5, .int v14)]) hx hb dL_writes_59 hl (by decide) rfl (fun ls hl => ?_)
      refine lv_iload_n hx hb dL_writes_61 rfl (lv_at hl 4 rfl) ?_
      refine lv_sipush (v := (2048 : Int32)) hx hb dL_writes_62 (by decide) ?_
      refine lv_idiv hx hb dL_writes_65 (by decide) ?_
      refine lv_iconst (v := (4 : Int32)) hx hb dL_writes_66 (by decide) ?_
      refine lv_irem hx hb dL_writes_67 (by decide) ?_
      refine lv_istore (lv' := [(8, .int ((p2 / (2048 : Int32)) - (p2 / (2048 : Int32)) / (4 : Int32) * (4 : Int32))), (7, .int ((p2 / (2 : Int32)) - (p2 / (2 : Int32)) / (1000 : Int32) * (1000 : Int32))), (6, .int v23), (0, .ref x), (1, .int p1), (2, .int p2), (3, .int r1), (4, .int r5), (5, .int v14)]) hx hb dL_writes_68 hl (by decide) rfl (fun ls hl => ?_)
      refine lv_iload hx hb dL_writes_70 (lv_at hl 2 rfl) ?_
      obtain ⟨v27, ev28, hf⟩ := g_bdS hf
      have K29 : ∀ (w : va_W) (H : Heap) (locs : List Loc), Rp G x hi h0 h1 h2 v27.2 w → va_P G.1 vwCl w H → va_D (va_A w0 s.heap.size) w → va_S (va_A w0 s.heap.size) s.heap H locs → ∀ ls, lv_has ls 13 [(0, .ref x), (1, .int p1), (3, .int r1), (4, .int r5), (5, .int v14), (6, .int v23), (7, .int ((p2 / (2 : Int32)) - (p2 / (2 : Int32)) / (1000 : Int32) * (1000 : Int32))), (8, .int ((p2 / (2048 : Int32)) - (p2 / (2048 : Int32)) / (4 : Int32) * (4 : Int32)))] → gWF p l e (headSpec wsL_writes rmL_writes).room s m args below meth c G w0 (some (.int u.1)) (Rp G x hi h0 h1 h2 u.2) H locs 106 ls [.int v27.1] := by
        intro w H locs hR hP hD hS ls hl
        refine lv_istore (lv' := [(9, .int v27.1), (0, .ref x), (1, .int p1), (3, .int r1), (4, .int r5), (5, .int v14), (6, .int v23), (7, .int ((p2 / (2 : Int32)) - (p2 / (2 : Int32)) / (1000 : Int32) * (1000 : Int32))), (8, .int ((p2 / (2048 : Int32)) - (p2 / (2048 : Int32)) / (4 : Int32) * (4 : Int32)))]) hx hb dL_writes_106 hl (by decide) rfl (fun ls hl => ?_)
        refine lv_iload hx hb dL_writes_108 (lv_at hl 0 rfl) ?_
        refine lv_if_ge (tgt := 147) hx hb dL_writes_110 (by decide) (fun c38 => ?_) (fun c38 => ?_)
        · have hf := g_ifT c38 hf
          refine lv_iload hx hb dL_writes_147 (lv_at hl 0 rfl) ?_
          refine lv_iload_n hx hb dL_writes_149 rfl (lv_at hl 3 rfl) ?_
          refine lv_iconst (v := (1 : Int32)) hx hb dL_writes_150 (by decide) ?_
          refine lv_iadd hx hb dL_writes_151 ?_
          obtain ⟨v40, ev41, hf⟩ := g_bdS hf
          have K42 : ∀ (w : va_W) (H : Heap) (locs : List Loc), Rp G x hi h0 h1 h2 v27.2 w → va_P G.1 vwCl w H → va_D (va_A w0 s.heap.size) w → va_S (va_A w0 s.heap.size) s.heap H locs → ∀ ls, lv_has ls 13 [(0, .ref x), (1, .int p1), (5, .int v14), (6, .int v23), (7, .int ((p2 / (2 : Int32)) - (p2 / (2 : Int32)) / (1000 : Int32) * (1000 : Int32))), (8, .int ((p2 / (2048 : Int32)) - (p2 / (2048 : Int32)) / (4 : Int32) * (4 : Int32)))] → gWF p l e (headSpec wsL_writes rmL_writes).room s m args below meth c G w0 (some (.int u.1)) (Rp G x hi h0 h1 h2 u.2) H locs 181 ls [.int v40] := by
            intro w H locs hR hP hD hS ls hl
            refine lv_istore (lv' := [(10, .int v40), (0, .ref x), (1, .int p1), (5, .int v14), (6, .int v23), (7, .int ((p2 / (2 : Int32)) - (p2 / (2 : Int32)) / (1000 : Int32) * (1000 : Int32))), (8, .int ((p2 / (2048 : Int32)) - (p2 / (2048 : Int32)) / (4 : Int32) * (4 : Int32)))]) hx hb dL_writes_181 hl (by decide) rfl (fun ls hl => ?_)
            refine lv_iload hx hb dL_writes_183 (lv_at hl 0 rfl) ?_
            obtain ⟨v53, ev54, hf⟩ := g_bdS hf
            have K55 : ∀ (w : va_W) (H : Heap) (locs : List Loc), Rp G x hi h0 h1 h2 v27.2 w → va_P G.1 vwCl w H → va_D (va_A w0 s.heap.size) w → va_S (va_A w0 s.heap.size) s.heap H locs → ∀ ls, lv_has ls 13 [(0, .ref x), (1, .int p1), (5, .int v14), (6, .int v23), (8, .int ((p2 / (2048 : Int32)) - (p2 / (2048 : Int32)) / (4 : Int32) * (4 : Int32)))] → gWF p l e (headSpec wsL_writes rmL_writes).room s m args below meth c G w0 (some (.int u.1)) (Rp G x hi h0 h1 h2 u.2) H locs 235 ls [.int v53] := by
              intro w H locs hR hP hD hS ls hl
              refine lv_istore (lv' := [(10, .int v53), (0, .ref x), (1, .int p1), (5, .int v14), (6, .int v23), (8, .int ((p2 / (2048 : Int32)) - (p2 / (2048 : Int32)) / (4 : Int32) * (4 : Int32)))]) hx hb dL_writes_235 hl (by decide) rfl (fun ls hl => ?_)
              refine lv_iload hx hb dL_writes_237 (lv_at hl 4 rfl) ?_
              obtain ⟨v72, ev73, hf⟩ := g_bdS hf
              have K74 : ∀ (w : va_W) (H : Heap) (locs : List Loc), Rp G x hi h0 h1 h2 v27.2 w → va_P G.1 vwCl w H → va_D (va_A w0 s.heap.size) w → va_S (va_A w0 s.heap.size) s.heap H locs → ∀ ls, lv_has ls 13 [(0, .ref x), (1, .int p1), (5, .int v14), (6, .int v23), (8, .int ((p2 / (2048 : Int32)) - (p2 / (2048 : Int32)) / (4 : Int32) * (4 : Int32))), (10, .int v53)] → gWF p l e (headSpec wsL_writes rmL_writes).room s m args below meth c G w0 (some (.int u.1)) (Rp G x hi h0 h1 h2 u.2) H locs 259 ls [.int v72] := by
                intro w H locs hR hP hD hS ls hl
                refine lv_istore (lv' := [(11, .int v72), (0, .ref x), (1, .int p1), (5, .int v14), (6, .int v23), (8, .int ((p2 / (2048 : Int32)) - (p2 / (2048 : Int32)) / (4 : Int32) * (4 : Int32))), (10, .int v53)]) hx hb dL_writes_259 hl (by decide) rfl (fun ls hl => ?_)
                refine lv_iload hx hb dL_writes_261 (lv_at hl 4 rfl) ?_
                obtain ⟨v77, ev78, hf⟩ := g_bdS hf
                have K79 : ∀ (w : va_W) (H : Heap) (locs : List Loc), Rp G x hi h0 h1 h2 v27.2 w → va_P G.1 vwCl w H → va_D (va_A w0 s.heap.size) w → va_S (va_A w0 s.heap.size) s.heap H locs → ∀ ls, lv_has ls 13 [(0, .ref x), (1, .int p1), (6, .int v23), (8, .int ((p2 / (2048 : Int32)) - (p2 / (2048 : Int32)) / (4 : Int32) * (4 : Int32))), (10, .int v53), (11, .int v72)] → gWF p l e (headSpec wsL_writes rmL_writes).room s m args below meth c G w0 (some (.int u.1)) (Rp G x hi h0 h1 h2 u.2) H locs 285 ls [.int v77] := by
                  intro w H locs hR hP hD hS ls hl
                  refine lv_istore (lv' := [(12, .int v77), (0, .ref x), (1, .int p1), (6, .int v23), (8, .int ((p2 / (2048 : Int32)) - (p2 / (2048 : Int32)) / (4 : Int32) * (4 : Int32))), (10, .int v53), (11, .int v72)]) hx hb dL_writes_285 hl (by decide) rfl (fun ls hl => ?_)
                  refine lv_iload hx hb dL_writes_287 (lv_at hl 5 rfl) ?_
                  obtain ⟨v87, ev88, hf⟩ := g_bdS hf
                  have K89 : ∀ (w : va_W) (H : Heap) (locs : List Loc), Rp G x hi h0 h1 h2 v27.2 w → va_P G.1 vwCl w H → va_D (va_A w0 s.heap.size) w → va_S (va_A w0 s.heap.size) s.heap H locs → ∀ ls, lv_has ls 13 [] → gWF p l e (headSpec wsL_writes rmL_writes).room s m args below meth c G w0 (some (.int u.1)) (Rp G x hi h0 h1 h2 u.2) H locs 341 ls [.int v87] := by
                    intro w H locs hR hP hD hS ls hl
                    obtain ⟨g105, hf⟩ := g_gdS hf
                    cases hf
                    exact g_zretF hx hb hr hlocks (g_nb g105) hR hP hD hS dL_writes_341
                  replace hf := ev88
                  clear ev88
                  refine lv_if_eq (tgt := 340) hx hb dL_writes_289 (by decide) (fun c86 => ?_) (fun c86 => ?_)
                  · have hf := g_ifT c86 hf
                    refine lv_iconst (v := (0 : Int32)) hx hb dL_writes_340 (by decide) ?_
                    cases hf
                    exact K89 _ _ _ hR hP hD hS ls (lv_sub hl [] rfl)
                  · have hf := g_ifF c86 hf
                    refine lv_aload_n hx hb dL_writes_292 rfl (lv_at hl 1 rfl) ?_
                    refine lv_iload_n hx hb dL_writes_293 rfl (lv_at hl 2 rfl) ?_
                    refine lv_iconst (v := (0 : Int32)) hx hb dL_writes_294 (by decide) ?_
                    refine lv_iconst (v := (2 : Int32)) hx hb dL_writes_295 (by decide) ?_
                    obtain ⟨r90, e91, hf⟩ := g_bdS hf
                    obtain ⟨fs92, he93⟩ := Rp.recv hR
                    refine g_contR (st1 := [.int r90]) (g_runVR (As := [.int p1, .int (0 : Int32), .int (2 : Int32)]) (rest := []) ⟨hx, hb, hml, hown, hts⟩ (A_read l G hR e91) (cwV 3 hts (TB_V TB_id tw_354 tw_355 tw_356 tw_5 tw_357) rfl rfl rfl (by decide +kernel) ⟨Nat.le_of_ble_eq_true rfl, Nat.le_of_ble_eq_true rfl⟩) hK hP 0 he93 rfl rfl hl.1 rfl (Nat.le_of_ble_eq_true rfl) dL_writes_296) rfl ?_
                    refine lv_iload hx hb dL_writes_299 (lv_at hl 6 rfl) ?_
                    refine lv_icmp_ne (tgt := 340) hx hb dL_writes_301 (by decide) (fun c94 => ?_) (fun c94 => ?_)
                    · have hf := g_ifF c94 hf
                      refine lv_iconst (v := (0 : Int32)) hx hb dL_writes_340 (by decide) ?_
                      cases hf
                      exact K89 _ _ _ hR hP hD hS ls (lv_sub hl [] rfl)
                    · have hf := g_ifT c94 hf
                      refine lv_aload_n hx hb dL_writes_304 rfl (lv_at hl 1 rfl) ?_
                      refine lv_iload_n hx hb dL_writes_305 rfl (lv_at hl 2 rfl) ?_
                      refine lv_iconst (v := (1 : Int32)) hx hb dL_writes_306 (by decide) ?_
                      refine lv_iconst (v := (1 : Int32)) hx hb dL_writes_307 (by decide) ?_
                      obtain ⟨r95, e96, hf⟩ := g_bdS hf
                      obtain ⟨fs97, he98⟩ := Rp.recv hR
                      refine g_contR (st1 := [.int r95]) (g_runVR (As := [.int p1, .int (1 : Int32), .int (1 : Int32)]) (rest := []) ⟨hx, hb, hml, hown, hts⟩ (A_read l G hR e96) (cwV 3 hts (TB_V TB_id tw_354 tw_355 tw_356 tw_5 tw_357) rfl rfl rfl (by decide +kernel) ⟨Nat.le_of_ble_eq_true rfl, Nat.le_of_ble_eq_true rfl⟩) hK hP 0 he98 rfl rfl hl.1 rfl (Nat.le_of_ble_eq_true rfl) dL_writes_308) rfl ?_
                      refine lv_iload hx hb dL_writes_311 (lv_at hl 0 rfl) ?_
                      obtain ⟨v100, ev101, hf⟩ := g_bdS hf
                      have K102 : ∀ (w : va_W) (H : Heap) (locs : List Loc), Rp G x hi h0 h1 h2 v27.2 w → va_P G.1 vwCl w H → va_D (va_A w0 s.heap.size) w → va_S (va_A w0 s.heap.size) s.heap H locs → ∀ ls, lv_has ls 13 [] → gWF p l e (headSpec wsL_writes rmL_writes).room s m args below meth c G w0 (some (.int u.1)) (Rp G x hi h0 h1 h2 u.2) H locs 333 ls [.int v100, .int r95] := by
                        intro w H locs hR hP hD hS ls hl
                        refine lv_icmp_ne (tgt := 340) hx hb dL_writes_333 (by decide) (fun c104 => ?_) (fun c104 => ?_)
                        · have hf := g_ifF c104 hf
                          refine lv_iconst (v := (0 : Int32)) hx hb dL_writes_340 (by decide) ?_
                          cases hf
                          exact K89 _ _ _ hR hP hD hS ls (lv_sub hl [] rfl)
                        · have hf := g_ifT c104 hf
                          refine lv_iconst (v := (1 : Int32)) hx hb dL_writes_336 (by decide) ?_
                          refine lv_goto (tgt := 341) hx hb dL_writes_337 (by decide) ?_
                          cases hf
                          exact K89 _ _ _ hR hP hD hS ls (lv_sub hl [] rfl)
                      replace hf := ev101
                      clear ev101
                      refine lv_if_eq (tgt := 331) hx hb dL_writes_313 (by decide) (fun c99 => ?_) (fun c99 => ?_)
                      · have hf := g_ifT c99 hf
                        refine lv_iload hx hb dL_writes_331 (lv_at hl 6 rfl) ?_
                        cases hf
                        exact K102 _ _ _ hR hP hD hS ls (lv_sub hl [] rfl)
                      · have hf := g_ifF c99 hf
                        refine lv_iload hx hb dL_writes_316 (lv_at hl 3 rfl) ?_
                        refine lv_if_eq (tgt := 326) hx hb dL_writes_318 (by decide) (fun c103 => ?_) (fun c103 => ?_)
                        · have hf := g_ifT c103 hf
                          refine lv_iload hx hb dL_writes_326 (lv_at hl 6 rfl) ?_
                          refine lv_goto (tgt := 333) hx hb dL_writes_328 (by decide) ?_
                          cases hf
                          exact K102 _ _ _ hR hP hD hS ls (lv_sub hl [] rfl)
                        · have hf := g_ifF c103 hf
                          refine lv_iload hx hb dL_writes_321 (lv_at hl 4 rfl) ?_
                          refine lv_goto (tgt := 333) hx hb dL_writes_323 (by decide) ?_
                          cases hf
                          exact K102 _ _ _ hR hP hD hS ls (lv_sub hl [] rfl)
                replace hf := ev78
                clear ev78
                refine lv_if_eq (tgt := 280) hx hb dL_writes_263 (by decide) (fun c76 => ?_) (fun c76 => ?_)
                · have hf := g_ifT c76 hf
                  refine lv_iconst (v := (1 : Int32)) hx hb dL_writes_280 (by decide) ?_
                  refine lv_goto (tgt := 285) hx hb dL_writes_281 (by decide) ?_
                  cases hf
                  exact K79 _ _ _ hR hP hD hS ls (lv_sub hl [1, 2, 4, 5, 6, 0] rfl)
                · have hf := g_ifF c76 hf
                  refine lv_iload hx hb dL_writes_266 (lv_at hl 3 rfl) ?_
                  refine lv_if_ne (tgt := 280) hx hb dL_writes_268 (by decide) (fun c80 => ?_) (fun c80 => ?_)
                  · have hf := g_ifF c80 hf
                    refine lv_iconst (v := (1 : Int32)) hx hb dL_writes_280 (by decide) ?_
                    refine lv_goto (tgt := 285) hx hb dL_writes_281 (by decide) ?_
                    cases hf
                    exact K79 _ _ _ hR hP hD hS ls (lv_sub hl [1, 2, 4, 5, 6, 0] rfl)
                  · have hf := g_ifT c80 hf
                    refine lv_aload_n hx hb dL_writes_271 rfl (lv_at hl 1 rfl) ?_
                    refine lv_iconst (v := (0 : Int32)) hx hb dL_writes_272 (by decide) ?_
                    obtain ⟨r81, e82, hf⟩ := g_bdS hf
                    obtain ⟨fs83, he84⟩ := Rp.recv hR
                    refine g_contR (st1 := [.int r81]) (g_runVR (As := [.int (0 : Int32)]) (rest := []) ⟨hx, hb, hml, hown, hts⟩ (A_count l G hR e82) (cwV 1 hts (TB_V TB_id tw_238 tw_239 tw_240 tw_5 tw_241) rfl rfl rfl (by decide +kernel) ⟨Nat.le_of_ble_eq_true rfl, Nat.le_of_ble_eq_true rfl⟩) hK hP 0 he84 rfl rfl hl.1 rfl (Nat.le_of_ble_eq_true rfl) dL_writes_273) rfl ?_
                    refine lv_iconst (v := (3 : Int32)) hx hb dL_writes_276 (by decide) ?_
                    refine lv_icmp_ne (tgt := 284) hx hb dL_writes_277 (by decide) (fun c85 => ?_) (fun c85 => ?_)
                    · have hf := g_ifF c85 hf
                      refine lv_iconst (v := (0 : Int32)) hx hb dL_writes_284 (by decide) ?_
                      cases hf
                      exact K79 _ _ _ hR hP hD hS ls (lv_sub hl [1, 2, 4, 5, 6, 0] rfl)
                    · have hf := g_ifT c85 hf
                      refine lv_iconst (v := (1 : Int32)) hx hb dL_writes_280 (by decide) ?_
                      refine lv_goto (tgt := 285) hx hb dL_writes_281 (by decide) ?_
                      cases hf
                      exact K79 _ _ _ hR hP hD hS ls (lv_sub hl [1, 2, 4, 5, 6, 0] rfl)
              replace hf := ev73
              clear ev73
              refine lv_if_eq (tgt := 255) hx hb dL_writes_239 (by decide) (fun c71 => ?_) (fun c71 => ?_)
              · have hf := g_ifT c71 hf
                refine lv_iload hx hb dL_writes_255 (lv_at hl 5 rfl) ?_
                refine lv_iconst (v := (2 : Int32)) hx hb dL_writes_257 (by decide) ?_
                refine lv_irem hx hb dL_writes_258 (by decide) ?_
                cases hf
                exact K74 _ _ _ hR hP hD hS ls (lv_sub hl [1, 2, 3, 4, 5, 0] rfl)
              · have hf := g_ifF c71 hf
                refine lv_iload hx hb dL_writes_242 (lv_at hl 5 rfl) ?_
                refine lv_if_le (tgt := 251) hx hb dL_writes_244 (by decide) (fun c75 => ?_) (fun c75 => ?_)
                · have hf := g_ifT c75 hf
                  refine lv_iconst (v := (0 : Int32)) hx hb dL_writes_251 (by decide) ?_
                  refine lv_goto (tgt := 259) hx hb dL_writes_252 (by decide) ?_
                  cases hf
                  exact K74 _ _ _ hR hP hD hS ls (lv_sub hl [1, 2, 3, 4, 5, 0] rfl)
                · have hf := g_ifF c75 hf
                  refine lv_iconst (v := (1 : Int32)) hx hb dL_writes_247 (by decide) ?_
                  refine lv_goto (tgt := 259) hx hb dL_writes_248 (by decide) ?_
                  cases hf
                  exact K74 _ _ _ hR hP hD hS ls (lv_sub hl [1, 2, 3, 4, 5, 0] rfl)
            replace hf := ev54
            clear ev54
            refine lv_if_eq (tgt := 234) hx hb dL_writes_185 (by decide) (fun c52 => ?_) (fun c52 => ?_)
            · have hf := g_ifT c52 hf
              refine lv_iconst (v := (0 : Int32)) hx hb dL_writes_234 (by decide) ?_
              cases hf
              exact K55 _ _ _ hR hP hD hS ls (lv_sub hl [1, 2, 3, 4, 6] rfl)
            · have hf := g_ifF c52 hf
              refine lv_aload_n hx hb dL_writes_188 rfl (lv_at hl 1 rfl) ?_
              refine lv_iload_n hx hb dL_writes_189 rfl (lv_at hl 2 rfl) ?_
              refine lv_iconst (v := (0 : Int32)) hx hb dL_writes_190 (by decide) ?_
              refine lv_iconst (v := (0 : Int32)) hx hb dL_writes_191 (by decide) ?_
              obtain ⟨r56, e57, hf⟩ := g_bdS hf
              obtain ⟨fs58, he59⟩ := Rp.recv hR
              refine g_contR (st1 := [.int r56]) (g_runVR (As := [.int p1, .int (0 : Int32), .int (0 : Int32)]) (rest := []) ⟨hx, hb, hml, hown, hts⟩ (A_read l G hR e57) (cwV 3 hts (TB_V TB_id tw_354 tw_355 tw_356 tw_5 tw_357) rfl rfl rfl (by decide +kernel) ⟨Nat.le_of_ble_eq_true rfl, Nat.le_of_ble_eq_true rfl⟩) hK hP 0 he59 rfl rfl hl.1 rfl (Nat.le_of_ble_eq_true rfl) dL_writes_192) rfl ?_
              refine lv_iload hx hb dL_writes_195 (lv_at hl 5 rfl) ?_
              refine lv_bipush (v := (10 : Int32)) hx hb dL_writes_197 (by decide) ?_
              refine lv_idiv hx hb dL_writes_199 (by decide) ?_
              refine lv_icmp_ne (tgt := 234) hx hb dL_writes_200 (by decide) (fun c60 => ?_) (fun c60 => ?_)
              · have hf := g_ifF c60 hf
                refine lv_iconst (v := (0 : Int32)) hx hb dL_writes_234 (by decide) ?_
                cases hf
                exact K55 _ _ _ hR hP hD hS ls (lv_sub hl [1, 2, 3, 4, 6] rfl)
              · have hf := g_ifT c60 hf
                refine lv_aload_n hx hb dL_writes_203 rfl (lv_at hl 1 rfl) ?_
                refine lv_iload_n hx hb dL_writes_204 rfl (lv_at hl 2 rfl) ?_
                refine lv_iconst (v := (0 : Int32)) hx hb dL_writes_205 (by decide) ?_
                refine lv_iconst (v := (1 : Int32)) hx hb dL_writes_206 (by decide) ?_
                obtain ⟨r61, e62, hf⟩ := g_bdS hf
                obtain ⟨fs63, he64⟩ := Rp.recv hR
                refine g_contR (st1 := [.int r61]) (g_runVR (As := [.int p1, .int (0 : Int32), .int (1 : Int32)]) (rest := []) ⟨hx, hb, hml, hown, hts⟩ (A_read l G hR e62) (cwV 3 hts (TB_V TB_id tw_354 tw_355 tw_356 tw_5 tw_357) rfl rfl rfl (by decide +kernel) ⟨Nat.le_of_ble_eq_true rfl, Nat.le_of_ble_eq_true rfl⟩) hK hP 0 he64 rfl rfl hl.1 rfl (Nat.le_of_ble_eq_true rfl) dL_writes_207) rfl ?_
                refine lv_iload hx hb dL_writes_210 (lv_at hl 5 rfl) ?_
                refine lv_bipush (v := (10 : Int32)) hx hb dL_writes_212 (by decide) ?_
                refine lv_irem hx hb dL_writes_214 (by decide) ?_
                refine lv_icmp_ne (tgt := 234) hx hb dL_writes_215 (by decide) (fun c65 => ?_) (fun c65 => ?_)
                · have hf := g_ifF c65 hf
                  refine lv_iconst (v := (0 : Int32)) hx hb dL_writes_234 (by decide) ?_
                  cases hf
                  exact K55 _ _ _ hR hP hD hS ls (lv_sub hl [1, 2, 3, 4, 6] rfl)
                · have hf := g_ifT c65 hf
                  refine lv_aload_n hx hb dL_writes_218 rfl (lv_at hl 1 rfl) ?_
                  refine lv_iload_n hx hb dL_writes_219 rfl (lv_at hl 2 rfl) ?_
                  refine lv_iconst (v := (1 : Int32)) hx hb dL_writes_220 (by decide) ?_
                  refine lv_iconst (v := (0 : Int32)) hx hb dL_writes_221 (by decide) ?_
                  obtain ⟨r66, e67, hf⟩ := g_bdS hf
                  obtain ⟨fs68, he69⟩ := Rp.recv hR
                  refine g_contR (st1 := [.int r66]) (g_runVR (As := [.int p1, .int (1 : Int32), .int (0 : Int32)]) (rest := []) ⟨hx, hb, hml, hown, hts⟩ (A_read l G hR e67) (cwV 3 hts (TB_V TB_id tw_354 tw_355 tw_356 tw_5 tw_357) rfl rfl rfl (by decide +kernel) ⟨Nat.le_of_ble_eq_true rfl, Nat.le_of_ble_eq_true rfl⟩) hK hP 0 he69 rfl rfl hl.1 rfl (Nat.le_of_ble_eq_true rfl) dL_writes_222) rfl ?_
                  refine lv_iload hx hb dL_writes_225 (lv_at hl 5 rfl) ?_
                  refine lv_icmp_ne (tgt := 234) hx hb dL_writes_227 (by decide) (fun c70 => ?_) (fun c70 => ?_)
                  · have hf := g_ifF c70 hf
                    refine lv_iconst (v := (0 : Int32)) hx hb dL_writes_234 (by decide) ?_
                    cases hf
                    exact K55 _ _ _ hR hP hD hS ls (lv_sub hl [1, 2, 3, 4, 6] rfl)
                  · have hf := g_ifT c70 hf
                    refine lv_iconst (v := (1 : Int32)) hx hb dL_writes_230 (by decide) ?_
                    refine lv_goto (tgt := 235) hx hb dL_writes_231 (by decide) ?_
                    cases hf
                    exact K55 _ _ _ hR hP hD hS ls (lv_sub hl [1, 2, 3, 4, 6] rfl)
          replace hf := ev41
          clear ev41
          refine lv_icmp_ne (tgt := 180) hx hb dL_writes_152 (by decide) (fun c39 => ?_) (fun c39 => ?_)
          · have hf := g_ifF c39 hf
            refine lv_iconst (v := (0 : Int32)) hx hb dL_writes_180 (by decide) ?_
            cases hf
            exact K42 _ _ _ hR hP hD hS ls (lv_sub hl [1, 2, 5, 6, 7, 8] rfl)
          · have hf := g_ifT c39 hf
            refine lv_aload_n hx hb dL_writes_155 rfl (lv_at hl 1 rfl) ?_
            refine lv_iconst (v := (3 : Int32)) hx hb dL_writes_156 (by decide) ?_
            obtain ⟨r43, e44, hf⟩ := g_bdS hf
            obtain ⟨fs45, he46⟩ := Rp.recv hR
            refine g_contR (st1 := [.int r43]) (g_runVR (As := [.int (3 : Int32)]) (rest := []) ⟨hx, hb, hml, hown, hts⟩ (A_count l G hR e44) (cwV 1 hts (TB_V TB_id tw_238 tw_239 tw_240 tw_5 tw_241) rfl rfl rfl (by decide +kernel) ⟨Nat.le_of_ble_eq_true rfl, Nat.le_of_ble_eq_true rfl⟩) hK hP 0 he46 rfl rfl hl.1 rfl (Nat.le_of_ble_eq_true rfl) dL_writes_157) rfl ?_
            refine lv_iload hx hb dL_writes_160 (lv_at hl 5 rfl) ?_
            obtain ⟨v48, ev49, hf⟩ := g_bdS hf
            have K50 : ∀ (w : va_W) (H : Heap) (locs : List Loc), Rp G x hi h0 h1 h2 v27.2 w → va_P G.1 vwCl w H → va_D (va_A w0 s.heap.size) w → va_S (va_A w0 s.heap.size) s.heap H locs → ∀ ls, lv_has ls 13 [(0, .ref x), (1, .int p1), (5, .int v14), (6, .int v23), (7, .int ((p2 / (2 : Int32)) - (p2 / (2 : Int32)) / (1000 : Int32) * (1000 : Int32))), (8, .int ((p2 / (2048 : Int32)) - (p2 / (2048 : Int32)) / (4 : Int32) * (4 : Int32)))] → gWF p l e (headSpec wsL_writes rmL_writes).room s m args below meth c G w0 (some (.int u.1)) (Rp G x hi h0 h1 h2 u.2) H locs 173 ls [.int v48, .int r43] := by
              intro w H locs hR hP hD hS ls hl
              refine lv_icmp_ne (tgt := 180) hx hb dL_writes_173 (by decide) (fun c51 => ?_) (fun c51 => ?_)
              · have hf := g_ifF c51 hf
                refine lv_iconst (v := (0 : Int32)) hx hb dL_writes_180 (by decide) ?_
                cases hf
                exact K42 _ _ _ hR hP hD hS ls (lv_sub hl [0, 1, 2, 3, 4, 5] rfl)
              · have hf := g_ifT c51 hf
                refine lv_iconst (v := (1 : Int32)) hx hb dL_writes_176 (by decide) ?_
                refine lv_goto (tgt := 181) hx hb dL_writes_177 (by decide) ?_
                cases hf
                exact K42 _ _ _ hR hP hD hS ls (lv_sub hl [0, 1, 2, 3, 4, 5] rfl)
            replace hf := ev49
            clear ev49
            refine lv_if_eq (tgt := 172) hx hb dL_writes_162 (by decide) (fun c47 => ?_) (fun c47 => ?_)
            · have hf := g_ifT c47 hf
              refine lv_iconst (v := (0 : Int32)) hx hb dL_writes_172 (by decide) ?_
              cases hf
              exact K50 _ _ _ hR hP hD hS ls (lv_sub hl [1, 2, 5, 6, 7, 8] rfl)
            · have hf := g_ifF c47 hf
              refine lv_iload hx hb dL_writes_165 (lv_at hl 4 rfl) ?_
              refine lv_iconst (v := (1 : Int32)) hx hb dL_writes_167 (by decide) ?_
              refine lv_iadd hx hb dL_writes_168 ?_
              refine lv_goto (tgt := 173) hx hb dL_writes_169 (by decide) ?_
              cases hf
              exact K50 _ _ _ hR hP hD hS ls (lv_sub hl [1, 2, 5, 6, 7, 8] rfl)
        · have hf := g_ifF c38 hf
          refine lv_iload hx hb dL_writes_113 (lv_at hl 0 rfl) ?_
          refine lv_ldc (v := (-1000003 : Int32)) hx hb hown (hts _ tw_353) dL_writes_115 ?_
          obtain ⟨v107, ev108, hf⟩ := g_bdS hf
          have K109 : ∀ (w : va_W) (H : Heap) (locs : List Loc), Rp G x hi h0 h1 h2 v27.2 w → va_P G.1 vwCl w H → va_D (va_A w0 s.heap.size) w → va_S (va_A w0 s.heap.size) s.heap H locs → ∀ ls, lv_has ls 13 [] → gWF p l e (headSpec wsL_writes rmL_writes).room s m args below meth c G w0 (some (.int u.1)) (Rp G x hi h0 h1 h2 u.2) H locs 146 ls [.int v107] := by
            intro w H locs hR hP hD hS ls hl
            obtain ⟨g117, hf⟩ := g_gdS hf
            cases hf
            exact g_zretF hx hb hr hlocks (g_nb g117) hR hP hD hS dL_writes_146
          replace hf := ev108
          clear ev108
          refine lv_icmp_ne (tgt := 145) hx hb dL_writes_117 (by decide) (fun c106 => ?_) (fun c106 => ?_)
          · have hf := g_ifF c106 hf
            refine lv_iconst (v := (0 : Int32)) hx hb dL_writes_145 (by decide) ?_
            cases hf
            exact K109 _ _ _ hR hP hD hS ls (lv_sub hl [] rfl)
          · have hf := g_ifT c106 hf
            refine lv_iload hx hb dL_writes_120 (lv_at hl 5 rfl) ?_
            refine lv_if_eq (tgt := 145) hx hb dL_writes_122 (by decide) (fun c110 => ?_) (fun c110 => ?_)
            · have hf := g_ifT c110 hf
              refine lv_iconst (v := (0 : Int32)) hx hb dL_writes_145 (by decide) ?_
              cases hf
              exact K109 _ _ _ hR hP hD hS ls (lv_sub hl [] rfl)
            · have hf := g_ifF c110 hf
              refine lv_iload hx hb dL_writes_125 (lv_at hl 4 rfl) ?_
              refine lv_bipush (v := (8 : Int32)) hx hb dL_writes_127 (by decide) ?_
              refine lv_icmp_ne (tgt := 145) hx hb dL_writes_129 (by decide) (fun c111 => ?_) (fun c111 => ?_)
              · have hf := g_ifF c111 hf
                refine lv_iconst (v := (0 : Int32)) hx hb dL_writes_145 (by decide) ?_
                cases hf
                exact K109 _ _ _ hR hP hD hS ls (lv_sub hl [] rfl)
              · have hf := g_ifT c111 hf
                refine lv_aload_n hx hb dL_writes_132 rfl (lv_at hl 1 rfl) ?_
                refine lv_iconst (v := (1 : Int32)) hx hb dL_writes_133 (by decide) ?_
                obtain ⟨r112, e113, hf⟩ := g_bdS hf
                obtain ⟨fs114, he115⟩ := Rp.recv hR
                refine g_contR (st1 := [.int r112]) (g_runVR (As := [.int (1 : Int32)]) (rest := []) ⟨hx, hb, hml, hown, hts⟩ (A_count l G hR e113) (cwV 1 hts (TB_V TB_id tw_238 tw_239 tw_240 tw_5 tw_241) rfl rfl rfl (by decide +kernel) ⟨Nat.le_of_ble_eq_true rfl, Nat.le_of_ble_eq_true rfl⟩) hK hP 0 he115 rfl rfl hl.1 rfl (Nat.le_of_ble_eq_true rfl) dL_writes_134) rfl ?_
                refine lv_iload_n hx hb dL_writes_137 rfl (lv_at hl 3 rfl) ?_
                refine lv_icmp_ne (tgt := 145) hx hb dL_writes_138 (by decide) (fun c116 => ?_) (fun c116 => ?_)
                · have hf := g_ifF c116 hf
                  refine lv_iconst (v := (0 : Int32)) hx hb dL_writes_145 (by decide) ?_
                  cases hf
                  exact K109 _ _ _ hR hP hD hS ls (lv_sub hl [] rfl)
                · have hf := g_ifT c116 hf
                  refine lv_iconst (v := (1 : Int32)) hx hb dL_writes_141 (by decide) ?_
                  refine lv_goto (tgt := 146) hx hb dL_writes_142 (by decide) ?_
                  cases hf
                  exact K109 _ _ _ hR hP hD hS ls (lv_sub hl [] rfl)
      replace hf := ev28
      clear ev28
      refine lv_if_eq (tgt := 87) hx hb dL_writes_72 (by decide) (fun c26 => ?_) (fun c26 => ?_)
      · have hf := g_ifT c26 hf
        refine lv_aload_n hx hb dL_writes_87 rfl (lv_at hl 3 rfl) ?_
        refine lv_iload_n hx hb dL_writes_88 rfl (lv_at hl 4 rfl) ?_
        refine lv_iload hx hb dL_writes_89 (lv_at hl 1 rfl) ?_
        refine lv_bipush (v := (10 : Int32)) hx hb dL_writes_91 (by decide) ?_
        refine lv_idiv hx hb dL_writes_93 (by decide) ?_
        refine lv_iload hx hb dL_writes_94 (lv_at hl 1 rfl) ?_
        refine lv_bipush (v := (10 : Int32)) hx hb dL_writes_96 (by decide) ?_
        refine lv_irem hx hb dL_writes_98 (by decide) ?_
        refine lv_iload hx hb dL_writes_99 (lv_at hl 0 rfl) ?_
        refine lv_iconst (v := (2 : Int32)) hx hb dL_writes_101 (by decide) ?_
        refine lv_irem hx hb dL_writes_102 (by decide) ?_
        obtain ⟨r30, e31, hf⟩ := g_bdS hf
        obtain ⟨fs32, he33⟩ := Rp.recv hR
        refine g_contF (st1 := [.int r30.1]) (g_runVF (As := [.int p1, .int (((p2 / (2 : Int32)) - (p2 / (2 : Int32)) / (1000 : Int32) * (1000 : Int32)) / (10 : Int32)), .int (((p2 / (2 : Int32)) - (p2 / (2 : Int32)) / (1000 : Int32) * (1000 : Int32)) - ((p2 / (2 : Int32)) - (p2 / (2 : Int32)) / (1000 : Int32) * (1000 : Int32)) / (10 : Int32) * (10 : Int32)), .int (((p2 / (2048 : Int32)) - (p2 / (2048 : Int32)) / (4 : Int32) * (4 : Int32)) - ((p2 / (2048 : Int32)) - (p2 / (2048 : Int32)) / (4 : Int32) * (4 : Int32)) / (2 : Int32) * (2 : Int32))]) (rest := []) ⟨hx, hb, hml, hown, hts⟩ (A_writeOld l G hR e31) (cwV 4 hts (TB_V TB_id tw_341 tw_342 tw_343 tw_5 tw_344) rfl rfl rfl (by decide +kernel) ⟨Nat.le_of_ble_eq_true rfl, Nat.le_of_ble_eq_true rfl⟩) hK hP hD 0 he33 rfl rfl hl.1 rfl (Nat.le_of_ble_eq_true rfl) dL_writes_103 ⟨Nat.zero_le _, Nat.zero_le _⟩) rfl hD hS hA (fun w H locs hR hP hD hS => ?_)
        cases hf
        exact K29 _ _ _ hR hP hD hS ls (lv_sub hl [3, 4, 6, 7, 8, 2, 1, 0] rfl)
      · have hf := g_ifF c26 hf
        refine lv_aload_n hx hb dL_writes_75 rfl (lv_at hl 3 rfl) ?_
        refine lv_iload_n hx hb dL_writes_76 rfl (lv_at hl 4 rfl) ?_
        refine lv_iload hx hb dL_writes_77 (lv_at hl 1 rfl) ?_
        refine lv_iload hx hb dL_writes_79 (lv_at hl 0 rfl) ?_
        obtain ⟨r34, e35, hf⟩ := g_bdS hf
        obtain ⟨fs36, he37⟩ := Rp.recv hR
        refine g_contF (st1 := [.int r34.1]) (g_runVF (As := [.int p1, .int ((p2 / (2 : Int32)) - (p2 / (2 : Int32)) / (1000 : Int32) * (1000 : Int32)), .int ((p2 / (2048 : Int32)) - (p2 / (2048 : Int32)) / (4 : Int32) * (4 : Int32))]) (rest := []) ⟨hx, hb, hml, hown, hts⟩ (A_writeNew l G hR e35) (cwV 3 hts (TB_V TB_id tw_314 tw_315 tw_316 tw_5 tw_317) rfl rfl rfl (by decide +kernel) ⟨Nat.le_of_ble_eq_true rfl, Nat.le_of_ble_eq_true rfl⟩) hK hP hD 0 he37 rfl rfl hl.1 rfl (Nat.le_of_ble_eq_true rfl) dL_writes_81 ⟨Nat.zero_le _, Nat.zero_le _⟩) rfl hD hS hA (fun w H locs hR hP hD hS => ?_)
        refine lv_goto (tgt := 106) hx hb dL_writes_84 (by decide) ?_
        cases hf
        exact K29 _ _ _ hR hP hD hS ls (lv_sub hl [3, 4, 6, 7, 8, 2, 1, 0] rfl)
    replace hf := ev24
    clear ev24
    refine lv_icmp_ne (tgt := 49) hx hb dL_writes_42 (by decide) (fun c22 => ?_) (fun c22 => ?_)
    · have hf := g_ifF c22 hf
      refine lv_iconst (v := (0 : Int32)) hx hb dL_writes_49 (by decide) ?_
      cases hf
      exact K25 _ _ _ hR hP hD hS ls (lv_sub hl [1, 2, 3, 4, 5, 0] rfl)
    · have hf := g_ifT c22 hf
      refine lv_iconst (v := (1 : Int32)) hx hb dL_writes_45 (by decide) ?_
      refine lv_goto (tgt := 50) hx hb dL_writes_46 (by decide) ?_
      cases hf
      exact K25 _ _ _ hR hP hD hS ls (lv_sub hl [1, 2, 3, 4, 5, 0] rfl)
  replace hf := ev15
  clear ev15
  refine lv_icmp_eq (tgt := 31) hx hb dL_writes_19 (by decide) (fun c13 => ?_) (fun c13 => ?_)
  · have hf := g_ifT c13 hf
    refine lv_iconst (v := (1 : Int32)) hx hb dL_writes_31 (by decide) ?_
    refine lv_goto (tgt := 36) hx hb dL_writes_32 (by decide) ?_
    cases hf
    exact K16 _ _ _ hR hP hD hS ls (lv_sub hl [2, 3, 4, 1, 0] rfl)
  · have hf := g_ifF c13 hf
    refine lv_aload_n hx hb dL_writes_22 rfl (lv_at hl 2 rfl) ?_
    refine lv_iconst (v := (0 : Int32)) hx hb dL_writes_23 (by decide) ?_
    obtain ⟨r17, e18, hf⟩ := g_bdS hf
    obtain ⟨fs19, he20⟩ := Rp.recv hR
    refine g_contR (st1 := [.int r17]) (g_runVR (As := [.int (0 : Int32)]) (rest := []) ⟨hx, hb, hml, hown, hts⟩ (A_count l G hR e18) (cwV 1 hts (TB_V TB_id tw_238 tw_239 tw_240 tw_5 tw_241) rfl rfl rfl (by decide +kernel) ⟨Nat.le_of_ble_eq_true rfl, Nat.le_of_ble_eq_true rfl⟩) hK hP 0 he20 rfl rfl hl.1 rfl (Nat.le_of_ble_eq_true rfl) dL_writes_24) rfl ?_
    refine lv_iconst (v := (2 : Int32)) hx hb dL_writes_27 (by decide) ?_
    refine lv_icmp_ne (tgt := 35) hx hb dL_writes_28 (by decide) (fun c21 => ?_) (fun c21 => ?_)
    · have hf := g_ifF c21 hf
      refine lv_iconst (v := (0 : Int32)) hx hb dL_writes_35 (by decide) ?_
      cases hf
      exact K16 _ _ _ hR hP hD hS ls (lv_sub hl [2, 3, 4, 1, 0] rfl)
    · have hf := g_ifT c21 hf
      refine lv_iconst (v := (1 : Int32)) hx hb dL_writes_31 (by decide) ?_
      refine lv_goto (tgt := 36) hx hb dL_writes_32 (by decide) ?_
      cases hf
      exact K16 _ _ _ hR hP hD hS ls (lv_sub hl [2, 3, 4, 1, 0] rfl)
