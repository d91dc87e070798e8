def wsL_acts : List Cond := .code yL_acts cL_acts 24 (some .boolean) :: TB
abbrev rmL_acts : Room := { frames := 6, cells := 0, slots := 0, locals := 158 }
def fL_acts (p1 : Int32) (S : zS) : Option (Int32 × zS) := ((K_count (0 : Int32) S).bind fun r1 => ((K_count (3 : Int32) S).bind fun r5 => ((if (p1 - p1 / (16 : Int32) * (16 : Int32)) = (0 : Int32) then ((fL_writes ((p1 / (16 : Int32)) - (p1 / (16 : Int32)) / (7 : Int32) * (7 : Int32)) ((p1 / (16 : Int32)) / (8 : Int32)) S).bind fun r10 => g_gd (g_bl r10.1) (some (r10.1, r10.2))) else (if (p1 - p1 / (16 : Int32) * (16 : Int32)) = (1 : Int32) then ((fL_writes ((p1 / (16 : Int32)) - (p1 / (16 : Int32)) / (7 : Int32) * (7 : Int32)) ((p1 / (16 : Int32)) / (8 : Int32)) S).bind fun r14 => g_gd (g_bl r14.1) (some (r14.1, r14.2))) else (if (p1 - p1 / (16 : Int32) * (16 : Int32)) = (2 : Int32) then ((fL_writes ((p1 / (16 : Int32)) - (p1 / (16 : Int32)) / (7 : Int32) * (7 : Int32)) ((p1 / (16 : Int32)) / (8 : Int32)) S).bind fun r18 => g_gd (g_bl r18.1) (some (r18.1, r18.2))) else (if (p1 - p1 / (16 : Int32) * (16 : Int32)) = (3 : Int32) then ((fL_writes ((p1 / (16 : Int32)) - (p1 / (16 : Int32)) / (7 : Int32) * (7 : Int32)) ((p1 / (16 : Int32)) / (8 : Int32)) S).bind fun r22 => g_gd (g_bl r22.1) (some (r22.1, r22.2))) else (if (p1 - p1 / (16 : Int32) * (16 : Int32)) = (4 : Int32) then ((K_count (1 : Int32) S).bind fun r26 => ((K_remove ((p1 / (16 : Int32)) - (p1 / (16 : Int32)) / (7 : Int32) * (7 : Int32)) S).bind fun r30 => ((if r30.1 ≤ (0 : Int32) then (if r30.1 = (-1000002 : Int32) then some ((1 : Int32)) else (if r30.1 = (-1000003 : Int32) then (if r5 = (8 : Int32) then some ((1 : Int32)) else some ((0 : Int32))) else some ((0 : Int32)))) else (if r30.1 = (r26 + (1 : Int32)) then ((K_read ((p1 / (16 : Int32)) - (p1 / (16 : Int32)) / (7 : Int32) * (7 : Int32)) (0 : Int32) (0 : Int32) r30.2).bind fun r42 => (if r42 = (-1000004 : Int32) then ((K_read ((p1 / (16 : Int32)) - (p1 / (16 : Int32)) / (7 : Int32) * (7 : Int32)) (1 : Int32) (0 : Int32) r30.2).bind fun r47 => (if r47 = (-1000004 : Int32) then some ((1 : Int32)) else some ((0 : Int32)))) else some ((0 : Int32)))) else some ((0 : Int32))) : Option (Int32)).bind fun v35 => g_gd (g_bl v35) (some (v35, r30.2))))) else (if (p1 - p1 / (16 : Int32) * (16 : Int32)) = (5 : Int32) then ((K_drain ((1 : Int32) + ((p1 / (16 : Int32)) - (p1 / (16 : Int32)) / (4 : Int32) * (4 : Int32))) S).bind fun r54 => ((if r5 = (0 : Int32) then (if r54.1 = (-1000002 : Int32) then some ((1 : Int32)) else some ((0 : Int32))) else ((if r5 ≤ ((1 : Int32) + ((p1 / (16 : Int32)) - (p1 / (16 : Int32)) / (4 : Int32) * (4 : Int32))) then some ((0 : Int32)) else some (((r5 - (1 : Int32)) - ((p1 / (16 : Int32)) - (p1 / (16 : Int32)) / (4 : Int32) * (4 : Int32)))) : Option (Int32)).bind fun v63 => (if r54.1 = v63 then ((K_count (3 : Int32) r54.2).bind fun r67 => (if r67 = r54.1 then some ((1 : Int32)) else some ((0 : Int32)))) else some ((0 : Int32)))) : Option (Int32)).bind fun v59 => g_gd (g_bl v59) (some (v59, r54.2)))) else (if (p1 - p1 / (16 : Int32) * (16 : Int32)) = (6 : Int32) then ((K_drain ((1 : Int32) + ((p1 / (16 : Int32)) - (p1 / (16 : Int32)) / (4 : Int32) * (4 : Int32))) S).bind fun r75 => ((if r5 = (0 : Int32) then (if r75.1 = (-1000002 : Int32) then some ((1 : Int32)) else some ((0 : Int32))) else ((if r5 ≤ ((1 : Int32) + ((p1 / (16 : Int32)) - (p1 / (16 : Int32)) / (4 : Int32) * (4 : Int32))) then some ((0 : Int32)) else some (((r5 - (1 : Int32)) - ((p1 / (16 : Int32)) - (p1 / (16 : Int32)) / (4 : Int32) * (4 : Int32)))) : Option (Int32)).bind fun v84 => (if r75.1 = v84 then ((K_count (3 : Int32) r75.2).bind fun r88 => (if r88 = r75.1 then some ((1 : Int32)) else some ((0 : Int32)))) else some ((0 : Int32)))) : Option (Int32)).bind fun v80 => g_gd (g_bl v80) (some (v80, r75.2)))) else (if (p1 - p1 / (16 : Int32) * (16 : Int32)) = (7 : Int32) then ((K_count (2 : Int32) S).bind fun r96 => ((K_backfill ((1 : Int32) + ((p1 / (16 : Int32)) - (p1 / (16 : Int32)) / (31 : Int32) * (31 : Int32))) S).bind fun r100 => ((if (0 : Int32) ≤ r100.1 then ((K_count (2 : Int32) r100.2).bind fun r108 => ((if ((r96 + (1 : Int32)) + ((p1 / (16 : Int32)) - (p1 / (16 : Int32)) / (31 : Int32) * (31 : Int32))) ≤ (31 : Int32) then some (((r96 + (1 : Int32)) + ((p1 / (16 : Int32)) - (p1 / (16 : Int32)) / (31 : Int32) * (31 : Int32)))) else some ((31 : Int32)) : Option (Int32)).bind fun v113 => (if r108 = v113 then some ((1 : Int32)) else some ((0 : Int32))))) else (if r100.1 = (-1000002 : Int32) then (if r1 = (1 : Int32) then (if r96 = (31 : Int32) then some ((1 : Int32)) else some ((0 : Int32))) else some ((1 : Int32))) else some ((0 : Int32))) : Option (Int32)).bind fun v105 => g_gd (g_bl v105) (some (v105, r100.2))))) else (if (p1 - p1 / (16 : Int32) * (16 : Int32)) = (8 : Int32) then ((K_count (2 : Int32) S).bind fun r122 => ((K_backfill ((1 : Int32) + ((p1 / (16 : Int32)) - (p1 / (16 : Int32)) / (31 : Int32) * (31 : Int32))) S).bind fun r126 => ((if (0 : Int32) ≤ r126.1 then ((K_count (2 : Int32) r126.2).bind fun r134 => ((if ((r122 + (1 : Int32)) + ((p1 / (16 : Int32)) - (p1 / (16 : Int32)) / (31 : Int32) * (31 : Int32))) ≤ (31 : Int32) then some (((r122 + (1 : Int32)) + ((p1 / (16 : Int32)) - (p1 / (16 : Int32)) / (31 : Int32) * (31 : Int32)))) else some ((31 : Int32)) : Option (Int32)).bind fun v139 => (if r134 = v139 then some ((1 : Int32)) else some ((0 : Int32))))) else (if r126.1 = (-1000002 : Int32) then (if r1 = (1 : Int32) then (if r122 = (31 : Int32) then some ((1 : Int32)) else some ((0 : Int32))) else some ((1 : Int32))) else some ((0 : Int32))) : Option (Int32)).bind fun v131 => g_gd (g_bl v131) (some (v131, r126.2))))) else (if (p1 - p1 / (16 : Int32) * (16 : Int32)) = (9 : Int32) then ((K_begin S).bind fun r148 => ((if (0 : Int32) ≤ r148.1 then (if r1 = (0 : Int32) then ((K_count (0 : Int32) r148.2).bind fun r157 => (if r157 = (1 : Int32) then ((K_count (2 : Int32) r148.2).bind fun r162 => (if r162 = (0 : Int32) then ((K_count (7 : Int32) r148.2).bind fun r167 => (if r167 = (0 : Int32) then ((K_count (4 : Int32) r148.2).bind fun r172 => (if r148.1 = r172 then some ((1 : Int32)) else some ((0 : Int32)))) else some ((0 : Int32)))) else some ((0 : Int32)))) else some ((0 : Int32)))) else some ((0 : Int32))) else (if r148.1 = (-1000002 : Int32) then (if r1 ≤ (0 : Int32) then some ((0 : Int32)) else some ((1 : Int32))) else some ((0 : Int32))) : Option (Int32)).bind fun v153 => g_gd (g_bl v153) (some (v153, r148.2)))) else (if (p1 - p1 / (16 : Int32) * (16 : Int32)) = (10 : Int32) then ((K_count (8 : Int32) S).bind fun r181 => ((K_turn S).bind fun r185 => ((if (0 : Int32) ≤ r185.1 then (if r181 = (1 : Int32) then ((K_count (0 : Int32) r185.2).bind fun r194 => (if r194 = (2 : Int32) then ((K_check r185.2).bind fun r199 => (if r199 = (0 : Int32) then ((K_count (5 : Int32) r185.2).bind fun r204 => (if r185.1 = r204 then some ((1 : Int32)) else some ((0 : Int32)))) else some ((0 : Int32)))) else some ((0 : Int32)))) else some ((0 : Int32))) else (if r181 = (0 : Int32) then some ((1 : Int32)) else some ((0 : Int32))) : Option (Int32)).bind fun v190 => g_gd (g_bl v190) (some (v190, r185.2))))) else (if (p1 - p1 / (16 : Int32) * (16 : Int32)) = (11 : Int32) then ((K_back S).bind fun r212 => ((if (0 : Int32) ≤ r212.1 then (if r5 = (0 : Int32) then (if r212.1 = (r1 - (1 : Int32)) then ((K_count (0 : Int32) r212.2).bind fun r222 => (if r222 = r212.1 then some ((1 : Int32)) else some ((0 : Int32)))) else some ((0 : Int32))) else some ((0 : Int32))) else (if r212.1 = (-1000002 : Int32) then some ((1 : Int32)) else some ((0 : Int32))) : Option (Int32)).bind fun v217 => g_gd (g_bl v217) (some (v217, r212.2)))) else (if (p1 - p1 / (16 : Int32) * (16 : Int32)) = (12 : Int32) then (if ((p1 / (16 : Int32)) - (p1 / (16 : Int32)) / (3 : Int32) * (3 : Int32)) ≤ (0 : Int32) then ((K_count (9 : Int32) S).bind fun r231 => ((K_crash S).bind fun r235 => ((if r5 = (0 : Int32) then (if r235.1 = (-1000002 : Int32) then some ((1 : Int32)) else some ((0 : Int32))) else (if r235.1 = r5 then ((K_count (9 : Int32) r235.2).bind fun r244 => (if r244 = (r231 + r235.1) then ((K_count (3 : Int32) r235.2).bind fun r249 => (if r249 = (0 : Int32) then some ((1 : Int32)) else some ((0 : Int32)))) else some ((0 : Int32)))) else some ((0 : Int32))) : Option (Int32)).bind fun v240 => g_gd (g_bl v240) (some (v240, r235.2))))) else some ((1 : Int32), S)) else (if (p1 - p1 / (16 : Int32) * (16 : Int32)) = (13 : Int32) then ((K_count (6 : Int32) S).bind fun r257 => ((if ((p1 / (16 : Int32)) - (p1 / (16 : Int32)) / (4 : Int32) * (4 : Int32)) ≤ (0 : Int32) then ((K_drop S).bind fun r265 => some (r265.1, r265.2)) else some ((-1 : Int32), S) : Option (Int32 × zS)).bind fun v262 => ((if (0 : Int32) ≤ v262.1 then (if r1 = (2 : Int32) then ((K_count (0 : Int32) v262.2).bind fun r274 => (if r274 = (3 : Int32) then (if v262.1 = r257 then ((K_count (4 : Int32) v262.2).bind fun r280 => (if r280 = (0 : Int32) then some ((1 : Int32)) else some ((0 : Int32)))) else some ((0 : Int32))) else some ((0 : Int32)))) else some ((0 : Int32))) else ((K_count (0 : Int32) v262.2).bind fun r285 => (if r285 = r1 then some ((1 : Int32)) else some ((0 : Int32)))) : Option (Int32)).bind fun v270 => g_gd (g_bl v270) (some (v270, v262.2))))) else (if (p1 - p1 / (16 : Int32) * (16 : Int32)) = (14 : Int32) then ((K_check S).bind fun r292 => ((K_mend ((p1 / (16 : Int32)) - (p1 / (16 : Int32)) / (7 : Int32) * (7 : Int32)) S).bind fun r296 => ((if (0 : Int32) ≤ r296.1 then (if r296.1 = ((r292 >>> (((p1 / (16 : Int32)) - (p1 / (16 : Int32)) / (7 : Int32) * (7 : Int32)) &&& 31)) &&& (1 : Int32)) then ((K_check r296.2).bind fun r305 => (if ((r305 >>> (((p1 / (16 : Int32)) - (p1 / (16 : Int32)) / (7 : Int32) * (7 : Int32)) &&& 31)) &&& (1 : Int32)) = (0 : Int32) then some ((1 : Int32)) else some ((0 : Int32)))) else some ((0 : Int32))) else (if r296.1 = (-1000002 : Int32) then some ((1 : Int32)) else some ((0 : Int32))) : Option (Int32)).bind fun v301 => g_gd (g_bl v301) (some (v301, r296.2))))) else ((K_walk (((p1 / (16 : Int32)) / (8 : Int32)) - ((p1 / (16 : Int32)) / (8 : Int32)) / (3 : Int32) * (3 : Int32)) ((p1 / (16 : Int32)) - (p1 / (16 : Int32)) / (2 : Int32) * (2 : Int32)) S).bind fun r312 => ((K_step (((p1 / (16 : Int32)) / (8 : Int32)) - ((p1 / (16 : Int32)) / (8 : Int32)) / (3 : Int32) * (3 : Int32)) r312.2).bind fun r316 => ((if r312.1 < (0 : Int32) then some ((0 : Int32)) else (if (31 : Int32) < r312.1 then some ((0 : Int32)) else ((if r316.1 = (31 : Int32) then some ((1 : Int32)) else some ((0 : Int32)) : Option (Int32)).bind fun v326 => ((if r312.1 = (0 : Int32) then some ((1 : Int32)) else some ((0 : Int32)) : Option (Int32)).bind fun v330 => (if v326 = v330 then (if r316.1 = (31 : Int32) then some ((1 : Int32)) else ((K_keys ((p1 / (16 : Int32)) - (p1 / (16 : Int32)) / (2 : Int32) * (2 : Int32)) r316.2).bind fun r335 => (if (r335 &&& (((1 : Int32) <<< (r316.1 &&& 31)) - (1 : Int32))) = (0 : Int32) then some ((1 : Int32)) else some ((0 : Int32))))) else some ((0 : Int32)))))) : Option (Int32)).bind fun v321 => g_gd (g_bl v321) (some (v321, r316.2)))))))))))))))))))))))
set_option maxHeartbeats 4000000 in
set_option maxRecDepth 100000 in
theorem qL_acts (l : Launch) (G : gT) {x hi h0 h1 h2 : Nat} {p1 : Int32} {S : zS} {w0 : va_W} {u : Int32 × zS} (hR : Rp G x hi h0 h1 h2 S w0) (hf : fL_acts p1 S = some u) : gF l G yL_acts wsL_acts rmL_acts [.ref x, .int p1] w0 (some (.int u.1)) (Rp G x hi h0 h1 h2 u.2) := by
  refine gF.of (cc := cL_acts) (maxL := 24) (ret := (some .boolean)) (by decide) rfl (Nat.le_of_ble_eq_true rfl) ?_
  intro p e s m below meth c C0 hP hD hS ls hl
  generalize hav : ([.ref x, .int p1] : List Value).toArray = args at C0 ⊢
  obtain ⟨hx, hb, hr, hts, hown, hlocks, hml, hK⟩ := id C0
  have hl : lv_has ls 24 [(0, .ref x), (1, .int p1)] := hl
  have hA : ∀ q : Nat, s.heap.size ≤ q → va_A w0 s.heap.size q := fun q h => Or.inr h
  unfold fL_acts at hf
  refine lv_iload_n hx hb dL_acts_0 rfl (lv_at hl 1 rfl) ?_
  refine lv_bipush (v := (16 : Int32)) hx hb dL_acts_1 (by decide) ?_
  refine lv_idiv hx hb dL_acts_3 (by decide) ?_
  refine lv_istore_n (lv' := [(2, .int (p1 / (16 : Int32))), (0, .ref x), (1, .int p1)]) hx hb dL_acts_4 rfl hl (by decide) rfl (fun ls hl => ?_)
  refine lv_iload_n hx hb dL_acts_5 rfl (lv_at hl 0 rfl) ?_
  refine lv_bipush (v := (7 : Int32)) hx hb dL_acts_6 (by decide) ?_
  refine lv_irem hx hb dL_acts_8 (by decide) ?_
  refine lv_istore_n (lv' := [(3, .int ((p1 / (16 : Int32)) - (p1 / (16 : Int32)) / (7 : Int32) * (7 : Int32))), (2, .int (p1 / (16 : Int32))), (0, .ref x), (1, .int p1)]) hx hb dL_acts_9 rfl hl (by decide) rfl (fun ls hl => ?_)
  refine lv_aload_n hx hb dL_acts_10 rfl (lv_at hl 2 rfl) ?_
  refine lv_iconst (v := (0 : Int32)) hx hb dL_acts_11 (by decide) ?_
  obtain ⟨r1, e2, hf⟩ := g_bdS hf
  obtain ⟨fs3, he4⟩ := Rp.recv hR
  refine g_contR (st1 := [.int r1]) (g_runVR (As := [.int (0 : Int32)]) (rest := []) ⟨hx, hb, hml, hown, hts⟩ (A_count l G hR e2) (cwV 1 hts (TB_V TB_id tw_238 tw_239 tw_240 tw_5 tw_241) rfl rfl rfl (by decide +kernel) ⟨Nat.le_of_ble_eq_true rfl, Nat.le_of_ble_eq_true rfl⟩) hK hP 0 he4 rfl rfl hl.1 rfl (Nat.le_of_ble_eq_true rfl) dL_acts_12) rfl ?_
  refine lv_istore (lv' := [(4, .int r1), (3, .int ((p1 / (16 : Int32)) - (p1 / (16 : Int32)) / (7 : Int32) * (7 : Int32))), (2, .int (p1 / (16 : Int32))), (0, .ref x), (1, .int p1)]) hx hb dL_acts_15 hl (by decide) rfl (fun ls hl => ?_)
  refine lv_aload_n hx hb dL_acts_17 rfl (lv_at hl 3 rfl) ?_
  refine lv_iconst (v := (3 : Int32)) hx hb dL_acts_18 (by decide) ?_
  obtain ⟨r5, e6, hf⟩ := g_bdS hf
  obtain ⟨fs7, he8⟩ := Rp.recv hR
  refine g_contR (st1 := [.int r5]) (g_runVR (As := [.int (3 : Int32)]) (rest := []) ⟨hx, hb, hml, hown, hts⟩ (A_count l G hR e6) (cwV 1 hts (TB_V TB_id tw_238 tw_239 tw_240 tw_5 tw_241) rfl rfl rfl (by decide +kernel) ⟨Nat.le_of_ble_eq_true rfl, Nat.le_of_ble_eq_true rfl⟩) hK hP 0 he8 rfl rfl hl.1 rfl (Nat.le_of_ble_eq_true rfl) dL_acts_19) rfl ?_
  refine lv_istore (lv' := [(5, .int r5), (4, .int r1), (3, .int ((p1 / (16 : Int32)) - (p1 / (16 : Int32)) / (7 : Int32) * (7 : Int32))), (2, .int (p1 / (16 : Int32))), (0, .ref x), (1, .int p1)]) hx hb dL_acts_22 hl (by decide) rfl (fun ls hl => ?_)
  refine lv_iload_n hx hb dL_acts_24 rfl (lv_at hl 5 rfl) ?_
  refine lv_bipush (v := (16 : Int32)) hx hb dL_acts_25 (by decide) ?_
  refine lv_irem hx hb dL_acts_27 (by decide) ?_
  by_cases c9 : (p1 - p1 / (16 : Int32) * (16 : Int32)) = (0 : Int32)
  · have hf := g_ifT c9 hf
    refine g_tsw (tgt := 104) (off := 76) hx hb dL_acts_28 (by rw [c9]; decide) (by decide) (by decide) ?_
    refine lv_aload_n hx hb dL_acts_104 rfl (lv_at hl 4 rfl) ?_
    refine lv_iload_n hx hb dL_acts_105 rfl (lv_at hl 2 rfl) ?_
    refine lv_iload_n hx hb dL_acts_106 rfl (lv_at hl 3 rfl) ?_
    refine lv_bipush (v := (8 : Int32)) hx hb dL_acts_107 (by decide) ?_
    refine lv_idiv hx hb dL_acts_109 (by decide) ?_
    obtain ⟨r10, e11, hf⟩ := g_bdS hf
    refine g_contF (st1 := [.int r10.1]) (g_runSF (As := [.ref x, .int ((p1 / (16 : Int32)) - (p1 / (16 : Int32)) / (7 : Int32) * (7 : Int32)), .int ((p1 / (16 : Int32)) / (8 : Int32))]) (rest := []) ⟨hx, hb, hml, hown, hts⟩ (qL_writes l G hR e11) (va_cwS 3 hts (TB_S TB_id tw_311 tw_312 tw_4 tw_313) rfl rfl rfl (by decide +kernel) ⟨Nat.le_of_ble_eq_true rfl, Nat.le_of_ble_eq_true rfl⟩) hK hP hD rfl hl.1 rfl (Nat.le_of_ble_eq_true rfl) dL_acts_110 ⟨Nat.zero_le _, Nat.zero_le _⟩) rfl hD hS hA (fun w H locs hR hP hD hS => ?_)
    obtain ⟨g12, hf⟩ := g_gdS hf
    cases hf
    exact g_zretF hx hb hr hlocks (g_nb g12) hR hP hD hS dL_acts_113
  have hf := g_ifF c9 hf
  by_cases c13 : (p1 - p1 / (16 : Int32) * (16 : Int32)) = (1 : Int32)
  · have hf := g_ifT c13 hf
    refine g_tsw (tgt := 104) (off := 76) hx hb dL_acts_28 (by rw [c13]; decide) (by decide) (by decide) ?_
    refine lv_aload_n hx hb dL_acts_104 rfl (lv_at hl 4 rfl) ?_
    refine lv_iload_n hx hb dL_acts_105 rfl (lv_at hl 2 rfl) ?_
    refine lv_iload_n hx hb dL_acts_106 rfl (lv_at hl 3 rfl) ?_
    refine lv_bipush (v := (8 : Int32)) hx hb dL_acts_107 (by decide) ?_
    refine lv_idiv hx hb dL_acts_109 (by decide) ?_
    obtain ⟨r14, e15, hf⟩ := g_bdS hf
    refine g_contF (st1 := [.int r14.1]) (g_runSF (As := [.ref x, .int ((p1 / (16 : Int32)) - (p1 / (16 : Int32)) / (7 : Int32) * (7 : Int32)), .int ((p1 / (16 : Int32)) / (8 : Int32))]) (rest := []) ⟨hx, hb, hml, hown, hts⟩ (qL_writes l G hR e15) (va_cwS 3 hts (TB_S TB_id tw_311 tw_312 tw_4 tw_313) rfl rfl rfl (by decide +kernel) ⟨Nat.le_of_ble_eq_true rfl, Nat.le_of_ble_eq_true rfl⟩) hK hP hD rfl hl.1 rfl (Nat.le_of_ble_eq_true rfl) dL_acts_110 ⟨Nat.zero_le _, Nat.zero_le _⟩) rfl hD hS hA (fun w H locs hR hP hD hS => ?_)
    obtain ⟨g16, hf⟩ := g_gdS hf
    cases hf
    exact g_zretF hx hb hr hlocks (g_nb g16) hR hP hD hS dL_acts_113
  have hf := g_ifF c13 hf
  by_cases c17 : (p1 - p1 / (16 : Int32) * (16 : Int32)) = (2 : Int32)
  · have hf := g_ifT c17 hf
    refine g_tsw (tgt := 104) (off := 76) hx hb dL_acts_28 (by rw [c17]; decide) (by decide) (by decide) ?_
    refine lv_aload_n hx hb dL_acts_104 rfl (lv_at hl 4 rfl) ?_
    refine lv_iload_n hx hb dL_acts_105 rfl (lv_at hl 2 rfl) ?_
    refine lv_iload_n hx hb dL_acts_106 rfl (lv_at hl 3 rfl) ?_
    refine lv_bipush (v := (8 : Int32)) hx hb dL_acts_107 (by decide) ?_
    refine lv_idiv hx hb dL_acts_109 (by decide) ?_
    obtain ⟨r18, e19, hf⟩ := g_bdS hf
    refine g_contF (st1 := [.int r18.1]) (g_runSF (As := [.ref x, .int ((p1 / (16 : Int32)) - (p1 / (16 : Int32)) / (7 : Int32) * (7 : Int32)), .int ((p1 / (16 : Int32)) / (8 : Int32))]) (rest := []) ⟨hx, hb, hml, hown, hts⟩ (qL_writes l G hR e19) (va_cwS 3 hts (TB_S TB_id tw_311 tw_312 tw_4 tw_313) rfl rfl rfl (by decide +kernel) ⟨Nat.le_of_ble_eq_true rfl, Nat.le_of_ble_eq_true rfl⟩) hK hP hD rfl hl.1 rfl (Nat.le_of_ble_eq_true rfl) dL_acts_110 ⟨Nat.zero_le _, Nat.zero_le _⟩) rfl hD hS hA (fun w H locs hR hP hD hS => ?_)
    obtain ⟨g20, hf⟩ := g_gdS hf
    cases hf
    exact g_zretF hx hb hr hlocks (g_nb g20) hR hP hD hS dL_acts_113
  have hf := g_ifF c17 hf
  by_cases c21 : (p1 - p1 / (16 : Int32) * (16 : Int32)) = (3 : Int32)
  · have hf := g_ifT c21 hf
    refine g_tsw (tgt := 104) (off := 76) hx hb dL_acts_28 (by rw [c21]; decide) (by decide) (by decide) ?_
    refine lv_aload_n hx hb dL_acts_104 rfl (lv_at hl 4 rfl) ?_
    refine lv_iload_n hx hb dL_acts_105 rfl (lv_at hl 2 rfl) ?_
    refine lv_iload_n hx hb dL_acts_106 rfl (lv_at hl 3 rfl) ?_
    refine lv_bipush (v := (8 : Int32)) hx hb dL_acts_107 (by decide) ?_
    refine lv_idiv hx hb dL_acts_109 (by decide) ?_
    obtain ⟨r22, e23, hf⟩ := g_bdS hf
    refine g_contF (st1 := [.int r22.1]) (g_runSF (As := [.ref x, .int ((p1 / (16 : Int32)) - (p1 / (16 : Int32)) / (7 : Int32) * (7 : Int32)), .int ((p1 / (16 : Int32)) / (8 : Int32))]) (rest := []) ⟨hx, hb, hml, hown, hts⟩ (qL_writes l G hR e23) (va_cwS 3 hts (TB_S TB_id tw_311 tw_312 tw_4 tw_313) rfl rfl rfl (by decide +kernel) ⟨Nat.le_of_ble_eq_true rfl, Nat.le_of_ble_eq_true rfl⟩) hK hP hD rfl hl.1 rfl (Nat.le_of_ble_eq_true rfl) dL_acts_110 ⟨Nat.zero_le _, Nat.zero_le _⟩) rfl hD hS hA (fun w H locs hR hP hD hS => ?_)
    obtain ⟨g24, hf⟩ := g_gdS hf
    cases hf
    exact g_zretF hx hb hr hlocks (g_nb g24) hR hP hD hS dL_acts_113
  have hf := g_ifF c21 hf
  by_cases c25 : (p1 - p1 / (16 : Int32) * (16 : Int32)) = (4 : Int32)
  · have hf := g_ifT c25 hf
    refine g_tsw (tgt := 114) (off := 86) hx hb dL_acts_28 (by rw [c25]; decide) (by decide) (by decide) ?_
    refine lv_aload_n hx hb dL_acts_114 rfl (lv_at hl 4 rfl) ?_
    refine lv_iconst (v := (1 : Int32)) hx hb dL_acts_115 (by decide) ?_
    obtain ⟨r26, e27, hf⟩ := g_bdS hf
    obtain ⟨fs28, he29⟩ := Rp.recv hR
    refine g_contR (st1 := [.int r26]) (g_runVR (As := [.int (1 : Int32)]) (rest := []) ⟨hx, hb, hml, hown, hts⟩ (A_count l G hR e27) (cwV 1 hts (TB_V TB_id tw_238 tw_239 tw_240 tw_5 tw_241) rfl rfl rfl (by decide +kernel) ⟨Nat.le_of_ble_eq_true rfl, Nat.le_of_ble_eq_true rfl⟩) hK hP 0 he29 rfl rfl hl.1 rfl (Nat.le_of_ble_eq_true rfl) dL_acts_116) rfl ?_
    refine lv_istore (lv' := [(6, .int r26), (5, .int r5), (4, .int r1), (3, .int ((p1 / (16 : Int32)) - (p1 / (16 : Int32)) / (7 : Int32) * (7 : Int32))), (2, .int (p1 / (16 : Int32))), (0, .ref x), (1, .int p1)]) hx hb dL_acts_119 hl (by decide) rfl (fun ls hl => ?_)
    refine lv_aload_n hx hb dL_acts_121 rfl (lv_at hl 5 rfl) ?_
    refine lv_iload_n hx hb dL_acts_122 rfl (lv_at hl 3 rfl) ?_
    obtain ⟨r30, e31, hf⟩ := g_bdS hf
    obtain ⟨fs32, he33⟩ := Rp.recv hR
    refine g_contF (st1 := [.int r30.1]) (g_runVF (As := [.int ((p1 / (16 : Int32)) - (p1 / (16 : Int32)) / (7 : Int32) * (7 : Int32))]) (rest := []) ⟨hx, hb, hml, hown, hts⟩ (A_remove l G hR e31) (cwV 1 hts (TB_V TB_id tw_359 tw_360 tw_361 tw_5 tw_362) rfl rfl rfl (by decide +kernel) ⟨Nat.le_of_ble_eq_true rfl, Nat.le_of_ble_eq_true rfl⟩) hK hP hD 0 he33 rfl rfl hl.1 rfl (Nat.le_of_ble_eq_true rfl) dL_acts_123 ⟨Nat.zero_le _, Nat.zero_le _⟩) rfl hD hS hA (fun w H locs hR hP hD hS => ?_)
    refine lv_istore (lv' := [(7, .int r30.1), (6, .int r26), (5, .int r5), (4, .int r1), (3, .int ((p1 / (16 : Int32)) - (p1 / (16 : Int32)) / (7 : Int32) * (7 : Int32))), (2, .int (p1 / (16 : Int32))), (0, .ref x), (1, .int p1)]) hx hb dL_acts_126 hl (by decide) rfl (fun ls hl => ?_)
    refine lv_iload hx hb dL_acts_128 (lv_at hl 0 rfl) ?_
    obtain ⟨v35, ev36, hf⟩ := g_bdS hf
    have K37 : ∀ (w : va_W) (H : Heap) (locs : List Loc), Rp G x hi h0 h1 h2 r30.2 w → va_P G.1 vwCl w H → va_D (va_A w0 s.heap.size) w → va_S (va_A w0 s.heap.size) s.heap H locs → ∀ ls, lv_has ls 24 [] → gWF p l e (headSpec wsL_acts rmL_acts).room s m args below meth c G w0 (some (.int u.1)) (Rp G x hi h0 h1 h2 u.2) H locs 200 ls [.int v35] := by
      intro w H locs hR hP hD hS ls hl
      obtain ⟨g52, hf⟩ := g_gdS hf
      cases hf
      exact g_zretF hx hb hr hlocks (g_nb g52) hR hP hD hS dL_acts_200
    replace hf := ev36
    clear ev36
    refine lv_if_le (tgt := 174) hx hb dL_acts_130 (by decide) (fun c34 => ?_) (fun c34 => ?_)
    · have hf := g_ifT c34 hf
      refine lv_iload hx hb dL_acts_174 (lv_at hl 0 rfl) ?_
      refine lv_ldc (v := (-1000002 : Int32)) hx hb hown (hts _ tw_368) dL_acts_176 ?_
      refine lv_icmp_eq (tgt := 195) hx hb dL_acts_178 (by decide) (fun c38 => ?_) (fun c38 => ?_)
      · have hf := g_ifT c38 hf
        refine lv_iconst (v := (1 : Int32)) hx hb dL_acts_195 (by decide) ?_
        refine lv_goto (tgt := 200) hx hb dL_acts_196 (by decide) ?_
        cases hf
        exact K37 _ _ _ hR hP hD hS ls (lv_sub hl [] rfl)
      · have hf := g_ifF c38 hf
        refine lv_iload hx hb dL_acts_181 (lv_at hl 0 rfl) ?_
        refine lv_ldc (v := (-1000003 : Int32)) hx hb hown (hts _ tw_353) dL_acts_183 ?_
        refine lv_icmp_ne (tgt := 199) hx hb dL_acts_185 (by decide) (fun c39 => ?_) (fun c39 => ?_)
        · have hf := g_ifF c39 hf
          refine lv_iconst (v := (0 : Int32)) hx hb dL_acts_199 (by decide) ?_
          cases hf
          exact K37 _ _ _ hR hP hD hS ls (lv_sub hl [] rfl)
        · have hf := g_ifT c39 hf
          refine lv_iload hx hb dL_acts_188 (lv_at hl 2 rfl) ?_
          refine lv_bipush (v := (8 : Int32)) hx hb dL_acts_190 (by decide) ?_
          refine lv_icmp_ne (tgt := 199) hx hb dL_acts_192 (by decide) (fun c40 => ?_) (fun c40 => ?_)
          · have hf := g_ifF c40 hf
            refine lv_iconst (v := (0 : Int32)) hx hb dL_acts_199 (by decide) ?_
            cases hf
            exact K37 _ _ _ hR hP hD hS ls (lv_sub hl [] rfl)
          · have hf := g_ifT c40 hf
            refine lv_iconst (v := (1 : Int32)) hx hb dL_acts_195 (by decide) ?_
            refine lv_goto (tgt := 200) hx hb dL_acts_196 (by decide) ?_
            cases hf
            exact K37 _ _ _ hR hP hD hS ls (lv_sub hl [] rfl)
    · have hf := g_ifF c34 hf
      refine lv_iload hx hb dL_acts_133 (lv_at hl 0 rfl) ?_
      refine lv_iload hx hb dL_acts_135 (lv_at hl 1 rfl) ?_
      refine lv_iconst (v := (1 : Int32)) hx hb dL_acts_137 (by decide) ?_
      refine lv_iadd hx hb dL_acts_138 ?_
      refine lv_icmp_ne (tgt := 170) hx hb dL_acts_139 (by decide) (fun c41 => ?_) (fun c41 => ?_)
      · have hf := g_ifF c41 hf
        refine lv_iconst (v := (0 : Int32)) hx hb dL_acts_170 (by decide) ?_
        refine lv_goto (tgt := 200) hx hb dL_acts_171 (by decide) ?_
        cases hf
        exact K37 _ _ _ hR hP hD hS ls (lv_sub hl [] rfl)
      · have hf := g_ifT c41 hf
        refine lv_aload_n hx hb dL_acts_142 rfl (lv_at hl 6 rfl) ?_
        refine lv_iload_n hx hb dL_acts_143 rfl (lv_at hl 4 rfl) ?_
        refine lv_iconst (v := (0 : Int32)) hx hb dL_acts_144 (by decide) ?_
        refine lv_iconst (v := (0 : Int32)) hx hb dL_acts_145 (by decide) ?_
        obtain ⟨r42, e43, hf⟩ := g_bdS hf
        obtain ⟨fs44, he45⟩ := Rp.recv hR
        refine g_contR (st1 := [.int r42]) (g_runVR (As := [.int ((p1 / (16 : Int32)) - (p1 / (16 : Int32)) / (7 : Int32) * (7 : Int32)), .int (0 : Int32), .int (0 : Int32)]) (rest := []) ⟨hx, hb, hml, hown, hts⟩ (A_read l G hR e43) (cwV 3 hts (TB_V TB_id tw_354 tw_355 tw_356 tw_5 tw_357) rfl rfl rfl (by decide +kernel) ⟨Nat.le_of_ble_eq_true rfl, Nat.le_of_ble_eq_true rfl⟩) hK hP 0 he45 rfl rfl hl.1 rfl (Nat.le_of_ble_eq_true rfl) dL_acts_146) rfl ?_
        refine lv_ldc (v := (-1000004 : Int32)) hx hb hown (hts _ tw_299) dL_acts_149 ?_
        refine lv_icmp_ne (tgt := 170) hx hb dL_acts_151 (by decide) (fun c46 => ?_) (fun c46 => ?_)
        · have hf := g_ifF c46 hf
          refine lv_iconst (v := (0 : Int32)) hx hb dL_acts_170 (by decide) ?_
          refine lv_goto (tgt := 200) hx hb dL_acts_171 (by decide) ?_
          cases hf
          exact K37 _ _ _ hR hP hD hS ls (lv_sub hl [] rfl)
        · have hf := g_ifT c46 hf
          refine lv_aload_n hx hb dL_acts_154 rfl (lv_at hl 6 rfl) ?_
          refine lv_iload_n hx hb dL_acts_155 rfl (lv_at hl 4 rfl) ?_
          refine lv_iconst (v := (1 : Int32)) hx hb dL_acts_156 (by decide) ?_
          refine lv_iconst (v := (0 : Int32)) hx hb dL_acts_157 (by decide) ?_
          obtain ⟨r47, e48, hf⟩ := g_bdS hf
          obtain ⟨fs49, he50⟩ := Rp.recv hR
          refine g_contR (st1 := [.int r47]) (g_runVR (As := [.int ((p1 / (16 : Int32)) - (p1 / (16 : Int32)) / (7 : Int32) * (7 : Int32)), .int (1 : Int32), .int (0 : Int32)]) (rest := []) ⟨hx, hb, hml, hown, hts⟩ (A_read l G hR e48) (cwV 3 hts (TB_V TB_id tw_354 tw_355 tw_356 tw_5 tw_357) rfl rfl rfl (by decide +kernel) ⟨Nat.le_of_ble_eq_true rfl, Nat.le_of_ble_eq_true rfl⟩) hK hP 0 he50 rfl rfl hl.1 rfl (Nat.le_of_ble_eq_true rfl) dL_acts_158) rfl ?_
          refine lv_ldc (v := (-1000004 : Int32)) hx hb hown (hts _ tw_299) dL_acts_161 ?_
          refine lv_icmp_ne (tgt := 170) hx hb dL_acts_163 (by decide) (fun c51 => ?_) (fun c51 => ?_)
          · have hf := g_ifF c51 hf
            refine lv_iconst (v := (0 : Int32)) hx hb dL_acts_170 (by decide) ?_
            refine lv_goto (tgt := 200) hx hb dL_acts_171 (by decide) ?_
            cases hf
            exact K37 _ _ _ hR hP hD hS ls (lv_sub hl [] rfl)
          · have hf := g_ifT c51 hf
            refine lv_iconst (v := (1 : Int32)) hx hb dL_acts_166 (by decide) ?_
            refine lv_goto (tgt := 200) hx hb dL_acts_167 (by decide) ?_
            cases hf
            exact K37 _ _ _ hR hP hD hS ls (lv_sub hl [] rfl)
  have hf := g_ifF c25 hf
  by_cases c53 : (p1 - p1 / (16 : Int32) * (16 : Int32)) = (5 : Int32)
  · have hf := g_ifT c53 hf
    refine g_tsw (tgt := 201) (off := 173) hx hb dL_acts_28 (by rw [c53]; decide) (by decide) (by decide) ?_
    refine lv_aload_n hx hb dL_acts_201 rfl (lv_at hl 4 rfl) ?_
    refine lv_iconst (v := (1 : Int32)) hx hb dL_acts_202 (by decide) ?_
    refine lv_iload_n hx hb dL_acts_203 rfl (lv_at hl 3 rfl) ?_
    refine lv_iconst (v := (4 : Int32)) hx hb dL_acts_204 (by decide) ?_
    refine lv_irem hx hb dL_acts_205 (by decide) ?_
    refine lv_iadd hx hb dL_acts_206 ?_
    obtain ⟨r54, e55, hf⟩ := g_bdS hf
    obtain ⟨fs56, he57⟩ := Rp.recv hR
    refine g_contF (st1 := [.int r54.1]) (g_runVF (As := [.int ((1 : Int32) + ((p1 / (16 : Int32)) - (p1 / (16 : Int32)) / (4 : Int32) * (4 : Int32)))]) (rest := []) ⟨hx, hb, hml, hown, hts⟩ (A_drain l G hR e55) (cwV 1 hts (TB_V TB_id tw_369 tw_370 tw_371 tw_5 tw_372) rfl rfl rfl (by decide +kernel) ⟨Nat.le_of_ble_eq_true rfl, Nat.le_of_ble_eq_true rfl⟩) hK hP hD 0 he57 rfl rfl hl.1 rfl (Nat.le_of_ble_eq_true rfl) dL_acts_207 ⟨Nat.zero_le _, Nat.zero_le _⟩) rfl hD hS hA (fun w H locs hR hP hD hS => ?_)
    refine lv_istore (lv' := [(8, .int r54.1), (5, .int r5), (4, .int r1), (3, .int ((p1 / (16 : Int32)) - (p1 / (16 : Int32)) / (7 : Int32) * (7 : Int32))), (2, .int (p1 / (16 : Int32))), (0, .ref x), (1, .int p1)]) hx hb dL_acts_210 hl (by decide) rfl (fun ls hl => ?_)
    refine lv_iload hx hb dL_acts_212 (lv_at hl 1 rfl) ?_
    obtain ⟨v59, ev60, hf⟩ := g_bdS hf
    have K61 : ∀ (w : va_W) (H : Heap) (locs : List Loc), Rp G x hi h0 h1 h2 r54.2 w → va_P G.1 vwCl w H → va_D (va_A w0 s.heap.size) w → va_S (va_A w0 s.heap.size) s.heap H locs → ∀ ls, lv_has ls 24 [] → gWF p l e (headSpec wsL_acts rmL_acts).room s m args below meth c G w0 (some (.int u.1)) (Rp G x hi h0 h1 h2 u.2) H locs 274 ls [.int v59] := by
      intro w H locs hR hP hD hS ls hl
      obtain ⟨g73, hf⟩ := g_gdS hf
      cases hf
      exact g_zretF hx hb hr hlocks (g_nb g73) hR hP hD hS dL_acts_274
    replace hf := ev60
    clear ev60
    refine lv_if_ne (tgt := 232) hx hb dL_acts_214 (by decide) (fun c58 => ?_) (fun c58 => ?_)
    · have hf := g_ifF c58 hf
      refine lv_iload hx hb dL_acts_232 (lv_at hl 0 rfl) ?_
      refine lv_iload hx hb dL_acts_234 (lv_at hl 1 rfl) ?_
      refine lv_iconst (v := (1 : Int32)) hx hb dL_acts_236 (by decide) ?_
      refine lv_iload_n hx hb dL_acts_237 rfl (lv_at hl 4 rfl) ?_
      refine lv_iconst (v := (4 : Int32)) hx hb dL_acts_238 (by decide) ?_
      refine lv_irem hx hb dL_acts_239 (by decide) ?_
      refine lv_iadd hx hb dL_acts_240 ?_
      obtain ⟨v63, ev64, hf⟩ := g_bdS hf
      have K65 : ∀ (w : va_W) (H : Heap) (locs : List Loc), Rp G x hi h0 h1 h2 r54.2 w → va_P G.1 vwCl w H → va_D (va_A w0 s.heap.size) w → va_S (va_A w0 s.heap.size) s.heap H locs → ∀ ls, lv_has ls 24 [(0, .ref x), (8, .int r54.1)] → gWF p l e (headSpec wsL_acts rmL_acts).room s m args below meth c G w0 (some (.int u.1)) (Rp G x hi h0 h1 h2 u.2) H locs 256 ls [.int v63, .int r54.1] := by
        intro w H locs hR hP hD hS ls hl
        refine lv_icmp_ne (tgt := 273) hx hb dL_acts_256 (by decide) (fun c66 => ?_) (fun c66 => ?_)
        · have hf := g_ifF c66 hf
          refine lv_iconst (v := (0 : Int32)) hx hb dL_acts_273 (by decide) ?_
          cases hf
          exact K61 _ _ _ hR hP hD hS ls (lv_sub hl [] rfl)
        · have hf := g_ifT c66 hf
          refine lv_aload_n hx hb dL_acts_259 rfl (lv_at hl 0 rfl) ?_
          refine lv_iconst (v := (3 : Int32)) hx hb dL_acts_260 (by decide) ?_
          obtain ⟨r67, e68, hf⟩ := g_bdS hf
          obtain ⟨fs69, he70⟩ := Rp.recv hR
          refine g_contR (st1 := [.int r67]) (g_runVR (As := [.int (3 : Int32)]) (rest := []) ⟨hx, hb, hml, hown, hts⟩ (A_count l G hR e68) (cwV 1 hts (TB_V TB_id tw_238 tw_239 tw_240 tw_5 tw_241) rfl rfl rfl (by decide +kernel) ⟨Nat.le_of_ble_eq_true rfl, Nat.le_of_ble_eq_true rfl⟩) hK hP 0 he70 rfl rfl hl.1 rfl (Nat.le_of_ble_eq_true rfl) dL_acts_261) rfl ?_
          refine lv_iload hx hb dL_acts_264 (lv_at hl 1 rfl) ?_
          refine lv_icmp_ne (tgt := 273) hx hb dL_acts_266 (by decide) (fun c71 => ?_) (fun c71 => ?_)
          · have hf := g_ifF c71 hf
            refine lv_iconst (v := (0 : Int32)) hx hb dL_acts_273 (by decide) ?_
            cases hf
            exact K61 _ _ _ hR hP hD hS ls (lv_sub hl [] rfl)
          · have hf := g_ifT c71 hf
            refine lv_iconst (v := (1 : Int32)) hx hb dL_acts_269 (by decide) ?_
            refine lv_goto (tgt := 274) hx hb dL_acts_270 (by decide) ?_
            cases hf
            exact K61 _ _ _ hR hP hD hS ls (lv_sub hl [] rfl)
      replace hf := ev64
      clear ev64
      refine lv_icmp_le (tgt := 255) hx hb dL_acts_241 (by decide) (fun c62 => ?_) (fun c62 => ?_)
      · have hf := g_ifT c62 hf
        refine lv_iconst (v := (0 : Int32)) hx hb dL_acts_255 (by decide) ?_
        cases hf
        exact K65 _ _ _ hR hP hD hS ls (lv_sub hl [5, 0] rfl)
      · have hf := g_ifF c62 hf
        refine lv_iload hx hb dL_acts_244 (lv_at hl 1 rfl) ?_
        refine lv_iconst (v := (1 : Int32)) hx hb dL_acts_246 (by decide) ?_
        refine lv_isub hx hb dL_acts_247 ?_
        refine lv_iload_n hx hb dL_acts_248 rfl (lv_at hl 4 rfl) ?_
        refine lv_iconst (v := (4 : Int32)) hx hb dL_acts_249 (by decide) ?_
        refine lv_irem hx hb dL_acts_250 (by decide) ?_
        refine lv_isub hx hb dL_acts_251 ?_
        refine lv_goto (tgt := 256) hx hb dL_acts_252 (by decide) ?_
        cases hf
        exact K65 _ _ _ hR hP hD hS ls (lv_sub hl [5, 0] rfl)
    · have hf := g_ifT c58 hf
      refine lv_iload hx hb dL_acts_217 (lv_at hl 0 rfl) ?_
      refine lv_ldc (v := (-1000002 : Int32)) hx hb hown (hts _ tw_368) dL_acts_219 ?_
      refine lv_icmp_ne (tgt := 228) hx hb dL_acts_221 (by decide) (fun c72 => ?_) (fun c72 => ?_)
      · have hf := g_ifF c72 hf
        refine lv_iconst (v := (0 : Int32)) hx hb dL_acts_228 (by decide) ?_
        refine lv_goto (tgt := 274) hx hb dL_acts_229 (by decide) ?_
        cases hf
        exact K61 _ _ _ hR hP hD hS ls (lv_sub hl [] rfl)
      · have hf := g_ifT c72 hf
        refine lv_iconst (v := (1 : Int32)) hx hb dL_acts_224 (by decide) ?_
        refine lv_goto (tgt := 274) hx hb dL_acts_225 (by decide) ?_
        cases hf
        exact K61 _ _ _ hR hP hD hS ls (lv_sub hl [] rfl)
  have hf := g_ifF c53 hf
  by_cases c74 : (p1 - p1 / (16 : Int32) * (16 : Int32)) = (6 : Int32)
  · have hf := g_ifT c74 hf
    refine g_tsw (tgt := 201) (off := 173) hx hb dL_acts_28 (by rw [c74]; decide) (by decide) (by decide) ?_
    refine lv_aload_n hx hb dL_acts_201 rfl (lv_at hl 4 rfl) ?_
    refine lv_iconst (v := (1 : Int32)) hx hb dL_acts_202 (by decide) ?_
    refine lv_iload_n hx hb dL_acts_203 rfl (lv_at hl 3 rfl) ?_
    refine lv_iconst (v := (4 : Int32)) hx hb dL_acts_204 (by decide) ?_
    refine lv_irem hx hb dL_acts_205 (by decide) ?_
    refine lv_iadd hx hb dL_acts_206 ?_
    obtain ⟨r75, e76, hf⟩ := g_bdS hf
    obtain ⟨fs77, he78⟩ := Rp.recv hR
    refine g_contF (st1 := [.int r75.1]) (g_runVF (As := [.int ((1 : Int32) + ((p1 / (16 : Int32)) - (p1 / (16 : Int32)) / (4 : Int32) * (4 : Int32)))]) (rest := []) ⟨hx, hb, hml, hown, hts⟩ (A_drain l G hR e76) (cwV 1 hts (TB_V TB_id tw_369 tw_370 tw_371 tw_5 tw_372) rfl rfl rfl (by decide +kernel) ⟨Nat.le_of_ble_eq_true rfl, Nat.le_of_ble_eq_true rfl⟩) hK hP hD 0 he78 rfl rfl hl.1 rfl (Nat.le_of_ble_eq_true rfl) dL_acts_207 ⟨Nat.zero_le _, Nat.zero_le _⟩) rfl hD hS hA (fun w H locs hR hP hD hS => ?_)
    refine lv_istore (lv' := [(8, .int r75.1), (5, .int r5), (4, .int r1), (3, .int ((p1 / (16 : Int32)) - (p1 / (16 : Int32)) / (7 : Int32) * (7 : Int32))), (2, .int (p1 / (16 : Int32))), (0, .ref x), (1, .int p1)]) hx hb dL_acts_210 hl (by decide) rfl (fun ls hl => ?_)
    refine lv_iload hx hb dL_acts_212 (lv_at hl 1 rfl) ?_
    obtain ⟨v80, ev81, hf⟩ := g_bdS hf
    have K82 : ∀ (w : va_W) (H : Heap) (locs : List Loc), Rp G x hi h0 h1 h2 r75.2 w → va_P G.1 vwCl w H → va_D (va_A w0 s.heap.size) w → va_S (va_A w0 s.heap.size) s.heap H locs → ∀ ls, lv_has ls 24 [] → gWF p l e (headSpec wsL_acts rmL_acts).room s m args below meth c G w0 (some (.int u.1)) (Rp G x hi h0 h1 h2 u.2) H locs 274 ls [.int v80] := by
      intro w H locs hR hP hD hS ls hl
      obtain ⟨g94, hf⟩ := g_gdS hf
      cases hf
      exact g_zretF hx hb hr hlocks (g_nb g94) hR hP hD hS dL_acts_274
    replace hf := ev81
    clear ev81
    refine lv_if_ne (tgt := 232) hx hb dL_acts_214 (by decide) (fun c79 => ?_) (fun c79 => ?_)
    · have hf := g_ifF c79 hf
      refine lv_iload hx hb dL_acts_232 (lv_at hl 0 rfl) ?_
      refine lv_iload hx hb dL_acts_234 (lv_at hl 1 rfl) ?_
      refine lv_iconst (v := (1 : Int32)) hx hb dL_acts_236 (by decide) ?_
      refine lv_iload_n hx hb dL_acts_237 rfl (lv_at hl 4 rfl) ?_
      refine lv_iconst (v := (4 : Int32)) hx hb dL_acts_238 (by decide) ?_
      refine lv_irem hx hb dL_acts_239 (by decide) ?_
      refine lv_iadd hx hb dL_acts_240 ?_
      obtain ⟨v84, ev85, hf⟩ := g_bdS hf
      have K86 : ∀ (w : va_W) (H : Heap) (locs : List Loc), Rp G x hi h0 h1 h2 r75.2 w → va_P G.1 vwCl w H → va_D (va_A w0 s.heap.size) w → va_S (va_A w0 s.heap.size) s.heap H locs → ∀ ls, lv_has ls 24 [(0, .ref x), (8, .int r75.1)] → gWF p l e (headSpec wsL_acts rmL_acts).room s m args below meth c G w0 (some (.int u.1)) (Rp G x hi h0 h1 h2 u.2) H locs 256 ls [.int v84, .int r75.1] := by
        intro w H locs hR hP hD hS ls hl
        refine lv_icmp_ne (tgt := 273) hx hb dL_acts_256 (by decide) (fun c87 => ?_) (fun c87 => ?_)
        · have hf := g_ifF c87 hf
          refine lv_iconst (v := (0 : Int32)) hx hb dL_acts_273 (by decide) ?_
          cases hf
          exact K82 _ _ _ hR hP hD hS ls (lv_sub hl [] rfl)
        · have hf := g_ifT c87 hf
          refine lv_aload_n hx hb dL_acts_259 rfl (lv_at hl 0 rfl) ?_
          refine lv_iconst (v := (3 : Int32)) hx hb dL_acts_260 (by decide) ?_
          obtain ⟨r88, e89, hf⟩ := g_bdS hf
          obtain ⟨fs90, he91⟩ := Rp.recv hR
          refine g_contR (st1 := [.int r88]) (g_runVR (As := [.int (3 : Int32)]) (rest := []) ⟨hx, hb, hml, hown, hts⟩ (A_count l G hR e89) (cwV 1 hts (TB_V TB_id tw_238 tw_239 tw_240 tw_5 tw_241) rfl rfl rfl (by decide +kernel) ⟨Nat.le_of_ble_eq_true rfl, Nat.le_of_ble_eq_true rfl⟩) hK hP 0 he91 rfl rfl hl.1 rfl (Nat.le_of_ble_eq_true rfl) dL_acts_261) rfl ?_
          refine lv_iload hx hb dL_acts_264 (lv_at hl 1 rfl) ?_
          refine lv_icmp_ne (tgt := 273) hx hb dL_acts_266 (by decide) (fun c92 => ?_) (fun c92 => ?_)
          · have hf := g_ifF c92 hf
            refine lv_iconst (v := (0 : Int32)) hx hb dL_acts_273 (by decide) ?_
            cases hf
            exact K82 _ _ _ hR hP hD hS ls (lv_sub hl [] rfl)
          · have hf := g_ifT c92 hf
            refine lv_iconst (v := (1 : Int32)) hx hb dL_acts_269 (by decide) ?_
            refine lv_goto (tgt := 274) hx hb dL_acts_270 (by decide) ?_
            cases hf
            exact K82 _ _ _ hR hP hD hS ls (lv_sub hl [] rfl)
      replace hf := ev85
      clear ev85
      refine lv_icmp_le (tgt := 255) hx hb dL_acts_241 (by decide) (fun c83 => ?_) (fun c83 => ?_)
      · have hf := g_ifT c83 hf
        refine lv_iconst (v := (0 : Int32)) hx hb dL_acts_255 (by decide) ?_
        cases hf
        exact K86 _ _ _ hR hP hD hS ls (lv_sub hl [5, 0] rfl)
      · have hf := g_ifF c83 hf
        refine lv_iload hx hb dL_acts_244 (lv_at hl 1 rfl) ?_
        refine lv_iconst (v := (1 : Int32)) hx hb dL_acts_246 (by decide) ?_
        refine lv_isub hx hb dL_acts_247 ?_
        refine lv_iload_n hx hb dL_acts_248 rfl (lv_at hl 4 rfl) ?_
        refine lv_iconst (v := (4 : Int32)) hx hb dL_acts_249 (by decide) ?_
        refine lv_irem hx hb dL_acts_250 (by decide) ?_
        refine lv_isub hx hb dL_acts_251 ?_
        refine lv_goto (tgt := 256) hx hb dL_acts_252 (by decide) ?_
        cases hf
        exact K86 _ _ _ hR hP hD hS ls (lv_sub hl [5, 0] rfl)
    · have hf := g_ifT c79 hf
      refine lv_iload hx hb dL_acts_217 (lv_at hl 0 rfl) ?_
      refine lv_ldc (v := (-1000002 : Int32)) hx hb hown (hts _ tw_368) dL_acts_219 ?_
      refine lv_icmp_ne (tgt := 228) hx hb dL_acts_221 (by decide) (fun c93 => ?_) (fun c93 => ?_)
      · have hf := g_ifF c93 hf
        refine lv_iconst (v := (0 : Int32)) hx hb dL_acts_228 (by decide) ?_
        refine lv_goto (tgt := 274) hx hb dL_acts_229 (by decide) ?_
        cases hf
        exact K82 _ _ _ hR hP hD hS ls (lv_sub hl [] rfl)
      · have hf := g_ifT c93 hf
        refine lv_iconst (v := (1 : Int32)) hx hb dL_acts_224 (by decide) ?_
        refine lv_goto (tgt := 274) hx hb dL_acts_225 (by decide) ?_
        cases hf
        exact K82 _ _ _ hR hP hD hS ls (lv_sub hl [] rfl)
  have hf := g_ifF c74 hf
  by_cases c95 : (p1 - p1 / (16 : Int32) * (16 : Int32)) = (7 : Int32)
  · have hf := g_ifT c95 hf
    refine g_tsw (tgt := 275) (off := 247) hx hb dL_acts_28 (by rw [c95]; decide) (by decide) (by decide) ?_
    refine lv_aload_n hx hb dL_acts_275 rfl (lv_at hl 4 rfl) ?_
    refine lv_iconst (v := (2 : Int32)) hx hb dL_acts_276 (by decide) ?_
    obtain ⟨r96, e97, hf⟩ := g_bdS hf
    obtain ⟨fs98, he99⟩ := Rp.recv hR
    refine g_contR (st1 := [.int r96]) (g_runVR (As := [.int (2 : Int32)]) (rest := []) ⟨hx, hb, hml, hown, hts⟩ (A_count l G hR e97) (cwV 1 hts (TB_V TB_id tw_238 tw_239 tw_240 tw_5 tw_241) rfl rfl rfl (by decide +kernel) ⟨Nat.le_of_ble_eq_true rfl, Nat.le_of_ble_eq_true rfl⟩) hK hP 0 he99 rfl rfl hl.1 rfl (Nat.le_of_ble_eq_true rfl) dL_acts_277) rfl ?_
    refine lv_istore (lv' := [(9, .int r96), (5, .int r5), (4, .int r1), (3, .int ((p1 / (16 : Int32)) - (p1 / (16 : Int32)) / (7 : Int32) * (7 : Int32))), (2, .int (p1 / (16 : Int32))), (0, .ref x), (1, .int p1)]) hx hb dL_acts_280 hl (by decide) rfl (fun ls hl => ?_)
    refine lv_aload_n hx hb dL_acts_282 rfl (lv_at hl 5 rfl) ?_
    refine lv_iconst (v := (1 : Int32)) hx hb dL_acts_283 (by decide) ?_
    refine lv_iload_n hx hb dL_acts_284 rfl (lv_at hl 4 rfl) ?_
    refine lv_bipush (v := (31 : Int32)) hx hb dL_acts_285 (by decide) ?_
    refine lv_irem hx hb dL_acts_287 (by decide) ?_
    refine lv_iadd hx hb dL_acts_288 ?_
    obtain ⟨r100, e101, hf⟩ := g_bdS hf
    obtain ⟨fs102, he103⟩ := Rp.recv hR
    refine g_contF (st1 := [.int r100.1]) (g_runVF (As := [.int ((1 : Int32) + ((p1 / (16 : Int32)) - (p1 / (16 : Int32)) / (31 : Int32) * (31 : Int32)))]) (rest := []) ⟨hx, hb, hml, hown, hts⟩ (A_backfill l G hR e101) (cwV 1 hts (TB_V TB_id tw_387 tw_388 tw_389 tw_5 tw_390) rfl rfl rfl (by decide +kernel) ⟨Nat.le_of_ble_eq_true rfl, Nat.le_of_ble_eq_true rfl⟩) hK hP hD 0 he103 rfl rfl hl.1 rfl (Nat.le_of_ble_eq_true rfl) dL_acts_289 ⟨Nat.zero_le _, Nat.zero_le _⟩) rfl hD hS hA (fun w H locs hR hP hD hS => ?_)
    refine lv_istore (lv' := [(10, .int r100.1), (9, .int r96), (5, .int r5), (4, .int r1), (3, .int ((p1 / (16 : Int32)) - (p1 / (16 : Int32)) / (7 : Int32) * (7 : Int32))), (2, .int (p1 / (16 : Int32))), (0, .ref x), (1, .int p1)]) hx hb dL_acts_292 hl (by decide) rfl (fun ls hl => ?_)
    refine lv_iload hx hb dL_acts_294 (lv_at hl 0 rfl) ?_
    obtain ⟨v105, ev106, hf⟩ := g_bdS hf
    have K107 : ∀ (w : va_W) (H : Heap) (locs : List Loc), Rp G x hi h0 h1 h2 r100.2 w → va_P G.1 vwCl w H → va_D (va_A w0 s.heap.size) w → va_S (va_A w0 s.heap.size) s.heap H locs → ∀ ls, lv_has ls 24 [] → gWF p l e (headSpec wsL_acts rmL_acts).room s m args below meth c G w0 (some (.int u.1)) (Rp G x hi h0 h1 h2 u.2) H locs 368 ls [.int v105] := by
      intro w H locs hR hP hD hS ls hl
      obtain ⟨g120, hf⟩ := g_gdS hf
      cases hf
      exact g_zretF hx hb hr hlocks (g_nb g120) hR hP hD hS dL_acts_368
    replace hf := ev106
    clear ev106
    refine lv_if_ge (tgt := 327) hx hb dL_acts_296 (by decide) (fun c104 => ?_) (fun c104 => ?_)
    · have hf := g_ifT c104 hf
      refine lv_aload_n hx hb dL_acts_327 rfl (lv_at hl 6 rfl) ?_
      refine lv_iconst (v := (2 : Int32)) hx hb dL_acts_328 (by decide) ?_
      obtain ⟨r108, e109, hf⟩ := g_bdS hf
      obtain ⟨fs110, he111⟩ := Rp.recv hR
      refine g_contR (st1 := [.int r108]) (g_runVR (As := [.int (2 : Int32)]) (rest := []) ⟨hx, hb, hml, hown, hts⟩ (A_count l G hR e109) (cwV 1 hts (TB_V TB_id tw_238 tw_239 tw_240 tw_5 tw_241) rfl rfl rfl (by decide +kernel) ⟨Nat.le_of_ble_eq_true rfl, Nat.le_of_ble_eq_true rfl⟩) hK hP 0 he111 rfl rfl hl.1 rfl (Nat.le_of_ble_eq_true rfl) dL_acts_329) rfl ?_
      refine lv_iload hx hb dL_acts_332 (lv_at hl 1 rfl) ?_
      refine lv_iconst (v := (1 : Int32)) hx hb dL_acts_334 (by decide) ?_
      refine lv_iadd hx hb dL_acts_335 ?_
      refine lv_iload_n hx hb dL_acts_336 rfl (lv_at hl 5 rfl) ?_
      refine lv_bipush (v := (31 : Int32)) hx hb dL_acts_337 (by decide) ?_
      refine lv_irem hx hb dL_acts_339 (by decide) ?_
      refine lv_iadd hx hb dL_acts_340 ?_
      refine lv_bipush (v := (31 : Int32)) hx hb dL_acts_341 (by decide) ?_
      obtain ⟨v113, ev114, hf⟩ := g_bdS hf
      have K115 : ∀ (w : va_W) (H : Heap) (locs : List Loc), Rp G x hi h0 h1 h2 r100.2 w → va_P G.1 vwCl w H → va_D (va_A w0 s.heap.size) w → va_S (va_A w0 s.heap.size) s.heap H locs → ∀ ls, lv_has ls 24 [] → gWF p l e (headSpec wsL_acts rmL_acts).room s m args below meth c G w0 (some (.int u.1)) (Rp G x hi h0 h1 h2 u.2) H locs 360 ls [.int v113, .int r108] := by
        intro w H locs hR hP hD hS ls hl
        refine lv_icmp_ne (tgt := 367) hx hb dL_acts_360 (by decide) (fun c116 => ?_) (fun c116 => ?_)
        · have hf := g_ifF c116 hf
          refine lv_iconst (v := (0 : Int32)) hx hb dL_acts_367 (by decide) ?_
          cases hf
          exact K107 _ _ _ hR hP hD hS ls (lv_sub hl [] rfl)
        · have hf := g_ifT c116 hf
          refine lv_iconst (v := (1 : Int32)) hx hb dL_acts_363 (by decide) ?_
          refine lv_goto (tgt := 368) hx hb dL_acts_364 (by decide) ?_
          cases hf
          exact K107 _ _ _ hR hP hD hS ls (lv_sub hl [] rfl)
      replace hf := ev114
      clear ev114
      refine lv_icmp_le (tgt := 351) hx hb dL_acts_343 (by decide) (fun c112 => ?_) (fun c112 => ?_)
      · have hf := g_ifT c112 hf
        refine lv_iload hx hb dL_acts_351 (lv_at hl 1 rfl) ?_
        refine lv_iconst (v := (1 : Int32)) hx hb dL_acts_353 (by decide) ?_
        refine lv_iadd hx hb dL_acts_354 ?_
        refine lv_iload_n hx hb dL_acts_355 rfl (lv_at hl 5 rfl) ?_
        refine lv_bipush (v := (31 : Int32)) hx hb dL_acts_356 (by decide) ?_
        refine lv_irem hx hb dL_acts_358 (by decide) ?_
        refine lv_iadd hx hb dL_acts_359 ?_
        cases hf
        exact K115 _ _ _ hR hP hD hS ls (lv_sub hl [] rfl)
      · have hf := g_ifF c112 hf
        refine lv_bipush (v := (31 : Int32)) hx hb dL_acts_346 (by decide) ?_
        refine lv_goto (tgt := 360) hx hb dL_acts_348 (by decide) ?_
        cases hf
        exact K115 _ _ _ hR hP hD hS ls (lv_sub hl [] rfl)
    · have hf := g_ifF c104 hf
      refine lv_iload hx hb dL_acts_299 (lv_at hl 0 rfl) ?_
      refine lv_ldc (v := (-1000002 : Int32)) hx hb hown (hts _ tw_368) dL_acts_301 ?_
      refine lv_icmp_ne (tgt := 323) hx hb dL_acts_303 (by decide) (fun c117 => ?_) (fun c117 => ?_)
      · have hf := g_ifF c117 hf
        refine lv_iconst (v := (0 : Int32)) hx hb dL_acts_323 (by decide) ?_
        refine lv_goto (tgt := 368) hx hb dL_acts_324 (by decide) ?_
        cases hf
        exact K107 _ _ _ hR hP hD hS ls (lv_sub hl [] rfl)
      · have hf := g_ifT c117 hf
        refine lv_iload hx hb dL_acts_306 (lv_at hl 3 rfl) ?_
        refine lv_iconst (v := (1 : Int32)) hx hb dL_acts_308 (by decide) ?_
        refine lv_icmp_ne (tgt := 319) hx hb dL_acts_309 (by decide) (fun c118 => ?_) (fun c118 => ?_)
        · have hf := g_ifF c118 hf
          refine lv_iconst (v := (1 : Int32)) hx hb dL_acts_319 (by decide) ?_
          refine lv_goto (tgt := 368) hx hb dL_acts_320 (by decide) ?_
          cases hf
          exact K107 _ _ _ hR hP hD hS ls (lv_sub hl [] rfl)
        · have hf := g_ifT c118 hf
          refine lv_iload hx hb dL_acts_312 (lv_at hl 1 rfl) ?_
          refine lv_bipush (v := (31 : Int32)) hx hb dL_acts_314 (by decide) ?_
          refine lv_icmp_ne (tgt := 323) hx hb dL_acts_316 (by decide) (fun c119 => ?_) (fun c119 => ?_)
          · have hf := g_ifF c119 hf
            refine lv_iconst (v := (0 : Int32)) hx hb dL_acts_323 (by decide) ?_
            refine lv_goto (tgt := 368) hx hb dL_acts_324 (by decide) ?_
            cases hf
            exact K107 _ _ _ hR hP hD hS ls (lv_sub hl [] rfl)
          · have hf := g_ifT c119 hf
            refine lv_iconst (v := (1 : Int32)) hx hb dL_acts_319 (by decide) ?_
            refine lv_goto (tgt := 368) hx hb dL_acts_320 (by decide) ?_
            cases hf
            exact K107 _ _ _ hR hP hD hS ls (lv_sub hl [] rfl)
  have hf := g_ifF c95 hf
  by_cases c121 : (p1 - p1 / (16 : Int32) * (16 : Int32)) = (8 : Int32)
  · have hf := g_ifT c121 hf
    refine g_tsw (tgt := 275) (off := 247) hx hb dL_acts_28 (by rw [c121]; decide) (by decide) (by decide) ?_
    refine lv_aload_n hx hb dL_acts_275 rfl (lv_at hl 4 rfl) ?_
    refine lv_iconst (v := (2 : Int32)) hx hb dL_acts_276 (by decide) ?_
    obtain ⟨r122, e123, hf⟩ := g_bdS hf
    obtain ⟨fs124, he125⟩ := Rp.recv hR
    refine g_contR (st1 := [.int r122]) (g_runVR (As := [.int (2 : Int32)]) (rest := []) ⟨hx, hb, hml, hown, hts⟩ (A_count l G hR e123) (cwV 1 hts (TB_V TB_id tw_238 tw_239 tw_240 tw_5 tw_241) rfl rfl rfl (by decide +kernel) ⟨Nat.le_of_ble_eq_true rfl, Nat.le_of_ble_eq_true rfl⟩) hK hP 0 he125 rfl rfl hl.1 rfl (Nat.le_of_ble_eq_true rfl) dL_acts_277) rfl ?_
    refine lv_istore (lv' := [(9, .int r122), (5, .int r5), (4, .int r1), (3, .int ((p1 / (16 : Int32)) - (p1 / (16 : Int32)) / (7 : Int32) * (7 : Int32))), (2, .int (p1 / (16 : Int32))), (0, .ref x), (1, .int p1)]) hx hb dL_acts_280 hl (by decide) rfl (fun ls hl => ?_)
    refine lv_aload_n hx hb dL_acts_282 rfl (lv_at hl 5 rfl) ?_
    refine lv_iconst (v := (1 : Int32)) hx hb dL_acts_283 (by decide) ?_
    refine lv_iload_n hx hb dL_acts_284 rfl (lv_at hl 4 rfl) ?_
    refine lv_bipush (v := (31 : Int32)) hx hb dL_acts_285 (by decide) ?_
    refine lv_irem hx hb dL_acts_287 (by decide) ?_
    refine lv_iadd hx hb dL_acts_288 ?_
    obtain ⟨r126, e127, hf⟩ := g_bdS hf
    obtain ⟨fs128, he129⟩ := Rp.recv hR
    refine g_contF (st1 := [.int r126.1]) (g_runVF (As := [.int ((1 : Int32) + ((p1 / (16 : Int32)) - (p1 / (16 : Int32)) / (31 : Int32) * (31 : Int32)))]) (rest := []) ⟨hx, hb, hml, hown, hts⟩ (A_backfill l G hR e127) (cwV 1 hts (TB_V TB_id tw_387 tw_388 tw_389 tw_5 tw_390) rfl rfl rfl (by decide +kernel) ⟨Nat.le_of_ble_eq_true rfl, Nat.le_of_ble_eq_true rfl⟩) hK hP hD 0 he129 rfl rfl hl.1 rfl (Nat.le_of_ble_eq_true rfl) dL_acts_289 ⟨Nat.zero_le _, Nat.zero_le _⟩) rfl hD hS hA (fun w H locs hR hP hD hS => ?_)
    refine lv_istore (lv' := [(10, .int r126.1), (9, .int r122), (5, .int r5), (4, .int r1), (3, .int ((p1 / (16 : Int32)) - (p1 / (16 : Int32)) / (7 : Int32) * (7 : Int32))), (2, .int (p1 / (16 : Int32))), (0, .ref x), (1, .int p1)]) hx hb dL_acts_292 hl (by decide) rfl (fun ls hl => ?_)
    refine lv_iload hx hb dL_acts_294 (lv_at hl 0 rfl) ?_
    obtain ⟨v131, ev132, hf⟩ := g_bdS hf
    have K133 : ∀ (w : va_W) (H : Heap) (locs : List Loc), Rp G x hi h0 h1 h2 r126.2 w → va_P G.1 vwCl w H → va_D (va_A w0 s.heap.size) w → va_S (va_A w0 s.heap.size) s.heap H locs → ∀ ls, lv_has ls 24 [] → gWF p l e (headSpec wsL_acts rmL_acts).room s m args below meth c G w0 (some (.int u.1)) (Rp G x hi h0 h1 h2 u.2) H locs 368 ls [.int v131] := by
      intro w H locs hR hP hD hS ls hl
      obtain ⟨g146, hf⟩ := g_gdS hf
      cases hf
      exact g_zretF hx hb hr hlocks (g_nb g146) hR hP hD hS dL_acts_368
    replace hf := ev132
    clear ev132
    refine lv_if_ge (tgt := 327) hx hb dL_acts_296 (by decide) (fun c130 => ?_) (fun c130 => ?_)
    · have hf := g_ifT c130 hf
      refine lv_aload_n hx hb dL_acts_327 rfl (lv_at hl 6 rfl) ?_
      refine lv_iconst (v := (2 : Int32)) hx hb dL_acts_328 (by decide) ?_
      obtain ⟨r134, e135, hf⟩ := g_bdS hf
      obtain ⟨fs136, he137⟩ := Rp.recv hR
      refine g_contR (st1 := [.int r134]) (g_runVR (As := [.int (2 : Int32)]) (rest := []) ⟨hx, hb, hml, hown, hts⟩ (A_count l G hR e135) (cwV 1 hts (TB_V TB_id tw_238 tw_239 tw_240 tw_5 tw_241) rfl rfl rfl (by decide +kernel) ⟨Nat.le_of_ble_eq_true rfl, Nat.le_of_ble_eq_true rfl⟩) hK hP 0 he137 rfl rfl hl.1 rfl (Nat.le_of_ble_eq_true rfl) dL_acts_329) rfl ?_
      refine lv_iload hx hb dL_acts_332 (lv_at hl 1 rfl) ?_
      refine lv_iconst (v := (1 : Int32)) hx hb dL_acts_334 (by decide) ?_
      refine lv_iadd hx hb dL_acts_335 ?_
      refine lv_iload_n hx hb dL_acts_336 rfl (lv_at hl 5 rfl) ?_
      refine lv_bipush (v := (31 : Int32)) hx hb dL_acts_337 (by decide) ?_
      refine lv_irem hx hb dL_acts_339 (by decide) ?_
      refine lv_iadd hx hb dL_acts_340 ?_
      refine lv_bipush (v := (31 : Int32)) hx hb dL_acts_341 (by decide) ?_
      obtain ⟨v139, ev140, hf⟩ := g_bdS hf
      have K141 : ∀ (w : va_W) (H : Heap) (locs : List Loc), Rp G x hi h0 h1 h2 r126.2 w → va_P G.1 vwCl w H → va_D (va_A w0 s.heap.size) w → va_S (va_A w0 s.heap.size) s.heap H locs → ∀ ls, lv_has ls 24 [] → gWF p l e (headSpec wsL_acts rmL_acts).room s m args below meth c G w0 (some (.int u.1)) (Rp G x hi h0 h1 h2 u.2) H locs 360 ls [.int v139, .int r134] := by
        intro w H locs hR hP hD hS ls hl
        refine lv_icmp_ne (tgt := 367) hx hb dL_acts_360 (by decide) (fun c142 => ?_) (fun c142 => ?_)
        · have hf := g_ifF c142 hf
          refine lv_iconst (v := (0 : Int32)) hx hb dL_acts_367 (by decide) ?_
          cases hf
          exact K133 _ _ _ hR hP hD hS ls (lv_sub hl [] rfl)
        · have hf := g_ifT c142 hf
          refine lv_iconst (v := (1 : Int32)) hx hb dL_acts_363 (by decide) ?_
          refine lv_goto (tgt := 368) hx hb dL_acts_364 (by decide) ?_
          cases hf
          exact K133 _ _ _ hR hP hD hS ls (lv_sub hl [] rfl)
      replace hf := ev140
      clear ev140
      refine lv_icmp_le (tgt := 351) hx hb dL_acts_343 (by decide) (fun c138 => ?_) (fun c138 => ?_)
      · have hf := g_ifT c138 hf
        refine lv_iload hx hb dL_acts_351 (lv_at hl 1 rfl) ?_
        refine lv_iconst (v := (1 : Int32)) hx hb dL_acts_353 (by decide) ?_
        refine lv_iadd hx hb dL_acts_354 ?_
        refine lv_iload_n hx hb dL_acts_355 rfl (lv_at hl 5 rfl) ?_
        refine lv_bipush (v := (31 : Int32)) hx hb dL_acts_356 (by decide) ?_
        refine lv_irem hx hb dL_acts_358 (by decide) ?_
        refine lv_iadd hx hb dL_acts_359 ?_
        cases hf
        exact K141 _ _ _ hR hP hD hS ls (lv_sub hl [] rfl)
      · have hf := g_ifF c138 hf
        refine lv_bipush (v := (31 : Int32)) hx hb dL_acts_346 (by decide) ?_
        refine lv_goto (tgt := 360) hx hb dL_acts_348 (by decide) ?_
        cases hf
        exact K141 _ _ _ hR hP hD hS ls (lv_sub hl [] rfl)
    · have hf := g_ifF c130 hf
      refine lv_iload hx hb dL_acts_299 (lv_at hl 0 rfl) ?_
      refine lv_ldc (v := (-1000002 : Int32)) hx hb hown (hts _ tw_368) dL_acts_301 ?_
      refine lv_icmp_ne (tgt := 323) hx hb dL_acts_303 (by decide) (fun c143 => ?_) (fun c143 => ?_)
      · have hf := g_ifF c143 hf
        refine lv_iconst (v := (0 : Int32)) hx hb dL_acts_323 (by decide) ?_
        refine lv_goto (tgt := 368) hx hb dL_acts_324 (by decide) ?_
        cases hf
        exact K133 _ _ _ hR hP hD hS ls (lv_sub hl [] rfl)
      · have hf := g_ifT c143 hf
        refine lv_iload hx hb dL_acts_306 (lv_at hl 3 rfl) ?_
        refine lv_iconst (v := (1 : Int32)) hx hb dL_acts_308 (by decide) ?_
        refine lv_icmp_ne (tgt := 319) hx hb dL_acts_309 (by decide) (fun c144 => ?_) (fun c144 => ?_)
        · have hf := g_ifF c144 hf
          refine lv_iconst (v := (1 : Int32)) hx hb dL_acts_319 (by decide) ?_
          refine lv_goto (tgt := 368) hx hb dL_acts_320 (by decide) ?_
          cases hf
          exact K133 _ _ _ hR hP hD hS ls (lv_sub hl [] rfl)
        · have hf := g_ifT c144 hf
          refine lv_iload hx hb dL_acts_312 (lv_at hl 1 rfl) ?_
          refine lv_bipush (v := (31 : Int32)) hx hb dL_acts_314 (by decide) ?_
          refine lv_icmp_ne (tgt := 323) hx hb dL_acts_316 (by decide) (fun c145 => ?_) (fun c145 => ?_)
          · have hf := g_ifF c145 hf
            refine lv_iconst (v := (0 : Int32)) hx hb dL_acts_323 (by decide) ?_
            refine lv_goto (tgt := 368) hx hb dL_acts_324 (by decide) ?_
            cases hf
            exact K133 _ _ _ hR hP hD hS ls (lv_sub hl [] rfl)
          · have hf := g_ifT c145 hf
            refine lv_iconst (v := (1 : Int32)) hx hb dL_acts_319 (by decide) ?_
            refine lv_goto (tgt := 368) hx hb dL_acts_320 (by decide) ?_
            cases hf
            exact K133 _ _ _ hR hP hD hS ls (lv_sub hl [] rfl)
  have hf := g_ifF c121 hf
  by_cases c147 : (p1 - p1 / (16 : Int32) * (16 : Int32)) = (9 : Int32)
  · have hf := g_ifT c147 hf
    refine g_tsw (tgt := 369) (off := 341) hx hb dL_acts_28 (by rw [c147]; decide) (by decide) (by decide) ?_
    refine lv_aload_n hx hb dL_acts_369 rfl (lv_at hl 4 rfl) ?_
    obtain ⟨r148, e149, hf⟩ := g_bdS hf
    obtain ⟨fs150, he151⟩ := Rp.recv hR
    refine g_contF (st1 := [.int r148.1]) (g_runVF (As := []) (rest := []) ⟨hx, hb, hml, hown, hts⟩ (A_begin l G hR e149) (cwV 0 hts (TB_V TB_id tw_400 tw_401 tw_402 tw_5 tw_403) rfl rfl rfl (by decide +kernel) ⟨Nat.le_of_ble_eq_true rfl, Nat.le_of_ble_eq_true rfl⟩) hK hP hD 0 he151 rfl rfl hl.1 rfl (Nat.le_of_ble_eq_true rfl) dL_acts_370 ⟨Nat.zero_le _, Nat.zero_le _⟩) rfl hD hS hA (fun w H locs hR hP hD hS => ?_)
    refine lv_istore (lv' := [(11, .int r148.1), (5, .int r5), (4, .int r1), (3, .int ((p1 / (16 : Int32)) - (p1 / (16 : Int32)) / (7 : Int32) * (7 : Int32))), (2, .int (p1 / (16 : Int32))), (0, .ref x), (1, .int p1)]) hx hb dL_acts_373 hl (by decide) rfl (fun ls hl => ?_)
    refine lv_iload hx hb dL_acts_375 (lv_at hl 0 rfl) ?_
    obtain ⟨v153, ev154, hf⟩ := g_bdS hf
    have K155 : ∀ (w : va_W) (H : Heap) (locs : List Loc), Rp G x hi h0 h1 h2 r148.2 w → va_P G.1 vwCl w H → va_D (va_A w0 s.heap.size) w → va_S (va_A w0 s.heap.size) s.heap H locs → ∀ ls, lv_has ls 24 [] → gWF p l e (headSpec wsL_acts rmL_acts).room s m args below meth c G w0 (some (.int u.1)) (Rp G x hi h0 h1 h2 u.2) H locs 446 ls [.int v153] := by
      intro w H locs hR hP hD hS ls hl
      obtain ⟨g179, hf⟩ := g_gdS hf
      cases hf
      exact g_zretF hx hb hr hlocks (g_nb g179) hR hP hD hS dL_acts_446
    replace hf := ev154
    clear ev154
    refine lv_if_ge (tgt := 400) hx hb dL_acts_377 (by decide) (fun c152 => ?_) (fun c152 => ?_)
    · have hf := g_ifT c152 hf
      refine lv_iload hx hb dL_acts_400 (lv_at hl 2 rfl) ?_
      refine lv_if_ne (tgt := 445) hx hb dL_acts_402 (by decide) (fun c156 => ?_) (fun c156 => ?_)
      · have hf := g_ifF c156 hf
        refine lv_iconst (v := (0 : Int32)) hx hb dL_acts_445 (by decide) ?_
        cases hf
        exact K155 _ _ _ hR hP hD hS ls (lv_sub hl [] rfl)
      · have hf := g_ifT c156 hf
        refine lv_aload_n hx hb dL_acts_405 rfl (lv_at hl 5 rfl) ?_
        refine lv_iconst (v := (0 : Int32)) hx hb dL_acts_406 (by decide) ?_
        obtain ⟨r157, e158, hf⟩ := g_bdS hf
        obtain ⟨fs159, he160⟩ := Rp.recv hR
        refine g_contR (st1 := [.int r157]) (g_runVR (As := [.int (0 : Int32)]) (rest := []) ⟨hx, hb, hml, hown, hts⟩ (A_count l G hR e158) (cwV 1 hts (TB_V TB_id tw_238 tw_239 tw_240 tw_5 tw_241) rfl rfl rfl (by decide +kernel) ⟨Nat.le_of_ble_eq_true rfl, Nat.le_of_ble_eq_true rfl⟩) hK hP 0 he160 rfl rfl hl.1 rfl (Nat.le_of_ble_eq_true rfl) dL_acts_407) rfl ?_
        refine lv_iconst (v := (1 : Int32)) hx hb dL_acts_410 (by decide) ?_
        refine lv_icmp_ne (tgt := 445) hx hb dL_acts_411 (by decide) (fun c161 => ?_) (fun c161 => ?_)
        · have hf := g_ifF c161 hf
          refine lv_iconst (v := (0 : Int32)) hx hb dL_acts_445 (by decide) ?_
          cases hf
          exact K155 _ _ _ hR hP hD hS ls (lv_sub hl [] rfl)
        · have hf := g_ifT c161 hf
          refine lv_aload_n hx hb dL_acts_414 rfl (lv_at hl 5 rfl) ?_
          refine lv_iconst (v := (2 : Int32)) hx hb dL_acts_415 (by decide) ?_
          obtain ⟨r162, e163, hf⟩ := g_bdS hf
          obtain ⟨fs164, he165⟩ := Rp.recv hR
          refine g_contR (st1 := [.int r162]) (g_runVR (As := [.int (2 : Int32)]) (rest := []) ⟨hx, hb, hml, hown, hts⟩ (A_count l G hR e163) (cwV 1 hts (TB_V TB_id tw_238 tw_239 tw_240 tw_5 tw_241) rfl rfl rfl (by decide +kernel) ⟨Nat.le_of_ble_eq_true rfl, Nat.le_of_ble_eq_true rfl⟩) hK hP 0 he165 rfl rfl hl.1 rfl (Nat.le_of_ble_eq_true rfl) dL_acts_416) rfl ?_
          refine lv_if_ne (tgt := 445) hx hb dL_acts_419 (by decide) (fun c166 => ?_) (fun c166 => ?_)
          · have hf := g_ifF c166 hf
            refine lv_iconst (v := (0 : Int32)) hx hb dL_acts_445 (by decide) ?_
            cases hf
            exact K155 _ _ _ hR hP hD hS ls (lv_sub hl [] rfl)
          · have hf := g_ifT c166 hf
            refine lv_aload_n hx hb dL_acts_422 rfl (lv_at hl 5 rfl) ?_
            refine lv_bipush (v := (7 : Int32)) hx hb dL_acts_423 (by decide) ?_
            obtain ⟨r167, e168, hf⟩ := g_bdS hf
            obtain ⟨fs169, he170⟩ := Rp.recv hR
            refine g_contR (st1 := [.int r167]) (g_runVR (As := [.int (7 : Int32)]) (rest := []) ⟨hx, hb, hml, hown, hts⟩ (A_count l G hR e168) (cwV 1 hts (TB_V TB_id tw_238 tw_239 tw_240 tw_5 tw_241) rfl rfl rfl (by decide +kernel) ⟨Nat.le_of_ble_eq_true rfl, Nat.le_of_ble_eq_true rfl⟩) hK hP 0 he170 rfl rfl hl.1 rfl (Nat.le_of_ble_eq_true rfl) dL_acts_425) rfl ?_
            refine lv_if_ne (tgt := 445) hx hb dL_acts_428 (by decide) (fun c171 => ?_) (fun c171 => ?_)
            · have hf := g_ifF c171 hf
              refine lv_iconst (v := (0 : Int32)) hx hb dL_acts_445 (by decide) ?_
              cases hf
              exact K155 _ _ _ hR hP hD hS ls (lv_sub hl [] rfl)
            · have hf := g_ifT c171 hf
              refine lv_iload hx hb dL_acts_431 (lv_at hl 0 rfl) ?_
              refine lv_aload_n hx hb dL_acts_433 rfl (lv_at hl 5 rfl) ?_
              refine lv_iconst (v := (4 : Int32)) hx hb dL_acts_434 (by decide) ?_
              obtain ⟨r172, e173, hf⟩ := g_bdS hf
              obtain ⟨fs174, he175⟩ := Rp.recv hR
              refine g_contR (st1 := [.int r172, .int r148.1]) (g_runVR (As := [.int (4 : Int32)]) (rest := [.int r148.1]) ⟨hx, hb, hml, hown, hts⟩ (A_count l G hR e173) (cwV 1 hts (TB_V TB_id tw_238 tw_239 tw_240 tw_5 tw_241) rfl rfl rfl (by decide +kernel) ⟨Nat.le_of_ble_eq_true rfl, Nat.le_of_ble_eq_true rfl⟩) hK hP 0 he175 rfl rfl hl.1 rfl (Nat.le_of_ble_eq_true rfl) dL_acts_435) rfl ?_
              refine lv_icmp_ne (tgt := 445) hx hb dL_acts_438 (by decide) (fun c176 => ?_) (fun c176 => ?_)
              · have hf := g_ifF c176 hf
                refine lv_iconst (v := (0 : Int32)) hx hb dL_acts_445 (by decide) ?_
                cases hf
                exact K155 _ _ _ hR hP hD hS ls (lv_sub hl [] rfl)
              · have hf := g_ifT c176 hf
                refine lv_iconst (v := (1 : Int32)) hx hb dL_acts_441 (by decide) ?_
                refine lv_goto (tgt := 446) hx hb dL_acts_442 (by decide) ?_
                cases hf
                exact K155 _ _ _ hR hP hD hS ls (lv_sub hl [] rfl)
    · have hf := g_ifF c152 hf
      refine lv_iload hx hb dL_acts_380 (lv_at hl 0 rfl) ?_
      refine lv_ldc (v := (-1000002 : Int32)) hx hb hown (hts _ tw_368) dL_acts_382 ?_
      refine lv_icmp_ne (tgt := 396) hx hb dL_acts_384 (by decide) (fun c177 => ?_) (fun c177 => ?_)
      · have hf := g_ifF c177 hf
        refine lv_iconst (v := (0 : Int32)) hx hb dL_acts_396 (by decide) ?_
        refine lv_goto (tgt := 446) hx hb dL_acts_397 (by decide) ?_
        cases hf
        exact K155 _ _ _ hR hP hD hS ls (lv_sub hl [] rfl)
      · have hf := g_ifT c177 hf
        refine lv_iload hx hb dL_acts_387 (lv_at hl 2 rfl) ?_
        refine lv_if_le (tgt := 396) hx hb dL_acts_389 (by decide) (fun c178 => ?_) (fun c178 => ?_)
        · have hf := g_ifT c178 hf
          refine lv_iconst (v := (0 : Int32)) hx hb dL_acts_396 (by decide) ?_
          refine lv_goto (tgt := 446) hx hb dL_acts_397 (by decide) ?_
          cases hf
          exact K155 _ _ _ hR hP hD hS ls (lv_sub hl [] rfl)
        · have hf := g_ifF c178 hf
          refine lv_iconst (v := (1 : Int32)) hx hb dL_acts_392 (by decide) ?_
          refine lv_goto (tgt := 446) hx hb dL_acts_393 (by decide) ?_
          cases hf
          exact K155 _ _ _ hR hP hD hS ls (lv_sub hl [] rfl)
  have hf := g_ifF c147 hf
  by_cases c180 : (p1 - p1 / (16 : Int32) * (16 : Int32)) = (10 : Int32)
  · have hf := g_ifT c180 hf
    refine g_tsw (tgt := 447) (off := 419) hx hb dL_acts_28 (by rw [c180]; decide) (by decide) (by decide) ?_
    refine lv_aload_n hx hb dL_acts_447 rfl (lv_at hl 4 rfl) ?_
    refine lv_bipush (v := (8 : Int32)) hx hb dL_acts_448 (by decide) ?_
    obtain ⟨r181, e182, hf⟩ := g_bdS hf
    obtain ⟨fs183, he184⟩ := Rp.recv hR
    refine g_contR (st1 := [.int r181]) (g_runVR (As := [.int (8 : Int32)]) (rest := []) ⟨hx, hb, hml, hown, hts⟩ (A_count l G hR e182) (cwV 1 hts (TB_V TB_id tw_238 tw_239 tw_240 tw_5 tw_241) rfl rfl rfl (by decide +kernel) ⟨Nat.le_of_ble_eq_true rfl, Nat.le_of_ble_eq_true rfl⟩) hK hP 0 he184 rfl rfl hl.1 rfl (Nat.le_of_ble_eq_true rfl) dL_acts_450) rfl ?_
    refine lv_istore (lv' := [(12, .int r181), (5, .int r5), (4, .int r1), (3, .int ((p1 / (16 : Int32)) - (p1 / (16 : Int32)) / (7 : Int32) * (7 : Int32))), (2, .int (p1 / (16 : Int32))), (0, .ref x), (1, .int p1)]) hx hb dL_acts_453 hl (by decide) rfl (fun ls hl => ?_)
    refine lv_aload_n hx hb dL_acts_455 rfl (lv_at hl 5 rfl) ?_
    obtain ⟨r185, e186, hf⟩ := g_bdS hf
    obtain ⟨fs187, he188⟩ := Rp.recv hR
    refine g_contF (st1 := [.int r185.1]) (g_runVF (As := []) (rest := []) ⟨hx, hb, hml, hown, hts⟩ (A_turn l G hR e186) (cwV 0 hts (TB_V TB_id tw_409 tw_410 tw_411 tw_5 tw_412) rfl rfl rfl (by decide +kernel) ⟨Nat.le_of_ble_eq_true rfl, Nat.le_of_ble_eq_true rfl⟩) hK hP hD 0 he188 rfl rfl hl.1 rfl (Nat.le_of_ble_eq_true rfl) dL_acts_456 ⟨Nat.zero_le _, Nat.zero_le _⟩) rfl hD hS hA (fun w H locs hR hP hD hS => ?_)
    refine lv_istore (lv' := [(13, .int r185.1), (12, .int r181), (5, .int r5), (4, .int r1), (3, .int ((p1 / (16 : Int32)) - (p1 / (16 : Int32)) / (7 : Int32) * (7 : Int32))), (2, .int (p1 / (16 : Int32))), (0, .ref x), (1, .int p1)]) hx hb dL_acts_459 hl (by decide) rfl (fun ls hl => ?_)
    refine lv_iload hx hb dL_acts_461 (lv_at hl 0 rfl) ?_
    obtain ⟨v190, ev191, hf⟩ := g_bdS hf
    have K192 : ∀ (w : va_W) (H : Heap) (locs : List Loc), Rp G x hi h0 h1 h2 r185.2 w → va_P G.1 vwCl w H → va_D (va_A w0 s.heap.size) w → va_S (va_A w0 s.heap.size) s.heap H locs → ∀ ls, lv_has ls 24 [] → gWF p l e (headSpec wsL_acts rmL_acts).room s m args below meth c G w0 (some (.int u.1)) (Rp G x hi h0 h1 h2 u.2) H locs 516 ls [.int v190] := by
      intro w H locs hR hP hD hS ls hl
      obtain ⟨g210, hf⟩ := g_gdS hf
      cases hf
      exact g_zretF hx hb hr hlocks (g_nb g210) hR hP hD hS dL_acts_516
    replace hf := ev191
    clear ev191
    refine lv_if_ge (tgt := 479) hx hb dL_acts_463 (by decide) (fun c189 => ?_) (fun c189 => ?_)
    · have hf := g_ifT c189 hf
      refine lv_iload hx hb dL_acts_479 (lv_at hl 1 rfl) ?_
      refine lv_iconst (v := (1 : Int32)) hx hb dL_acts_481 (by decide) ?_
      refine lv_icmp_ne (tgt := 515) hx hb dL_acts_482 (by decide) (fun c193 => ?_) (fun c193 => ?_)
      · have hf := g_ifF c193 hf
        refine lv_iconst (v := (0 : Int32)) hx hb dL_acts_515 (by decide) ?_
        cases hf
        exact K192 _ _ _ hR hP hD hS ls (lv_sub hl [] rfl)
      · have hf := g_ifT c193 hf
        refine lv_aload_n hx hb dL_acts_485 rfl (lv_at hl 6 rfl) ?_
        refine lv_iconst (v := (0 : Int32)) hx hb dL_acts_486 (by decide) ?_
        obtain ⟨r194, e195, hf⟩ := g_bdS hf
        obtain ⟨fs196, he197⟩ := Rp.recv hR
        refine g_contR (st1 := [.int r194]) (g_runVR (As := [.int (0 : Int32)]) (rest := []) ⟨hx, hb, hml, hown, hts⟩ (A_count l G hR e195) (cwV 1 hts (TB_V TB_id tw_238 tw_239 tw_240 tw_5 tw_241) rfl rfl rfl (by decide +kernel) ⟨Nat.le_of_ble_eq_true rfl, Nat.le_of_ble_eq_true rfl⟩) hK hP 0 he197 rfl rfl hl.1 rfl (Nat.le_of_ble_eq_true rfl) dL_acts_487) rfl ?_
        refine lv_iconst (v := (2 : Int32)) hx hb dL_acts_490 (by decide) ?_
        refine lv_icmp_ne (tgt := 515) hx hb dL_acts_491 (by decide) (fun c198 => ?_) (fun c198 => ?_)
        · have hf := g_ifF c198 hf
          refine lv_iconst (v := (0 : Int32)) hx hb dL_acts_515 (by decide) ?_
          cases hf
          exact K192 _ _ _ hR hP hD hS ls (lv_sub hl [] rfl)
        · have hf := g_ifT c198 hf
          refine lv_aload_n hx hb dL_acts_494 rfl (lv_at hl 6 rfl) ?_
          obtain ⟨r199, e200, hf⟩ := g_bdS hf
          obtain ⟨fs201, he202⟩ := Rp.recv hR
          refine g_contR (st1 := [.int r199]) (g_runVR (As := []) (rest := []) ⟨hx, hb, hml, hown, hts⟩ (A_check l G hR e200) (cwV 0 hts (TB_V TB_id tw_280 tw_281 tw_282 tw_5 tw_283) rfl rfl rfl (by decide +kernel) ⟨Nat.le_of_ble_eq_true rfl, Nat.le_of_ble_eq_true rfl⟩) hK hP 0 he202 rfl rfl hl.1 rfl (Nat.le_of_ble_eq_true rfl) dL_acts_495) rfl ?_
          refine lv_if_ne (tgt := 515) hx hb dL_acts_498 (by decide) (fun c203 => ?_) (fun c203 => ?_)
          · have hf := g_ifF c203 hf
            refine lv_iconst (v := (0 : Int32)) hx hb dL_acts_515 (by decide) ?_
            cases hf
            exact K192 _ _ _ hR hP hD hS ls (lv_sub hl [] rfl)
          · have hf := g_ifT c203 hf
            refine lv_iload hx hb dL_acts_501 (lv_at hl 0 rfl) ?_
            refine lv_aload_n hx hb dL_acts_503 rfl (lv_at hl 6 rfl) ?_
            refine lv_iconst (v := (5 : Int32)) hx hb dL_acts_504 (by decide) ?_
            obtain ⟨r204, e205, hf⟩ := g_bdS hf
            obtain ⟨fs206, he207⟩ := Rp.recv hR
            refine g_contR (st1 := [.int r204, .int r185.1]) (g_runVR (As := [.int (5 : Int32)]) (rest := [.int r185.1]) ⟨hx, hb, hml, hown, hts⟩ (A_count l G hR e205) (cwV 1 hts (TB_V TB_id tw_238 tw_239 tw_240 tw_5 tw_241) rfl rfl rfl (by decide +kernel) ⟨Nat.le_of_ble_eq_true rfl, Nat.le_of_ble_eq_true rfl⟩) hK hP 0 he207 rfl rfl hl.1 rfl (Nat.le_of_ble_eq_true rfl) dL_acts_505) rfl ?_
            refine lv_icmp_ne (tgt := 515) hx hb dL_acts_508 (by decide) (fun c208 => ?_) (fun c208 => ?_)
            · have hf := g_ifF c208 hf
              refine lv_iconst (v := (0 : Int32)) hx hb dL_acts_515 (by decide) ?_
              cases hf
              exact K192 _ _ _ hR hP hD hS ls (lv_sub hl [] rfl)
            · have hf := g_ifT c208 hf
              refine lv_iconst (v := (1 : Int32)) hx hb dL_acts_511 (by decide) ?_
              refine lv_goto (tgt := 516) hx hb dL_acts_512 (by decide) ?_
              cases hf
              exact K192 _ _ _ hR hP hD hS ls (lv_sub hl [] rfl)
    · have hf := g_ifF c189 hf
      refine lv_iload hx hb dL_acts_466 (lv_at hl 1 rfl) ?_
      refine lv_if_ne (tgt := 475) hx hb dL_acts_468 (by decide) (fun c209 => ?_) (fun c209 => ?_)
      · have hf := g_ifF c209 hf
        refine lv_iconst (v := (0 : Int32)) hx hb dL_acts_475 (by decide) ?_
        refine lv_goto (tgt := 516) hx hb dL_acts_476 (by decide) ?_
        cases hf
        exact K192 _ _ _ hR hP hD hS ls (lv_sub hl [] rfl)
      · have hf := g_ifT c209 hf
        refine lv_iconst (v := (1 : Int32)) hx hb dL_acts_471 (by decide) ?_
        refine lv_goto (tgt := 516) hx hb dL_acts_472 (by decide) ?_
        cases hf
        exact K192 _ _ _ hR hP hD hS ls (lv_sub hl [] rfl)
  have hf := g_ifF c180 hf
  by_cases c211 : (p1 - p1 / (16 : Int32) * (16 : Int32)) = (11 : Int32)
  · have hf := g_ifT c211 hf
    refine g_tsw (tgt := 517) (off := 489) hx hb dL_acts_28 (by rw [c211]; decide) (by decide) (by decide) ?_
    refine lv_aload_n hx hb dL_acts_517 rfl (lv_at hl 4 rfl) ?_
    obtain ⟨r212, e213, hf⟩ := g_bdS hf
    obtain ⟨fs214, he215⟩ := Rp.recv hR
    refine g_contF (st1 := [.int r212.1]) (g_runVF (As := []) (rest := []) ⟨hx, hb, hml, hown, hts⟩ (A_back l G hR e213) (cwV 0 hts (TB_V TB_id tw_418 tw_419 tw_420 tw_5 tw_421) rfl rfl rfl (by decide +kernel) ⟨Nat.le_of_ble_eq_true rfl, Nat.le_of_ble_eq_true rfl⟩) hK hP hD 0 he215 rfl rfl hl.1 rfl (Nat.le_of_ble_eq_true rfl) dL_acts_518 ⟨Nat.zero_le _, Nat.zero_le _⟩) rfl hD hS hA (fun w H locs hR hP hD hS => ?_)
    refine lv_istore (lv' := [(14, .int r212.1), (5, .int r5), (4, .int r1), (3, .int ((p1 / (16 : Int32)) - (p1 / (16 : Int32)) / (7 : Int32) * (7 : Int32))), (2, .int (p1 / (16 : Int32))), (0, .ref x), (1, .int p1)]) hx hb dL_acts_521 hl (by decide) rfl (fun ls hl => ?_)
    refine lv_iload hx hb dL_acts_523 (lv_at hl 0 rfl) ?_
    obtain ⟨v217, ev218, hf⟩ := g_bdS hf
    have K219 : ∀ (w : va_W) (H : Heap) (locs : List Loc), Rp G x hi h0 h1 h2 r212.2 w → va_P G.1 vwCl w H → va_D (va_A w0 s.heap.size) w → va_S (va_A w0 s.heap.size) s.heap H locs → ∀ ls, lv_has ls 24 [] → gWF p l e (headSpec wsL_acts rmL_acts).room s m args below meth c G w0 (some (.int u.1)) (Rp G x hi h0 h1 h2 u.2) H locs 572 ls [.int v217] := by
      intro w H locs hR hP hD hS ls hl
      obtain ⟨g228, hf⟩ := g_gdS hf
      cases hf
      exact g_zretF hx hb hr hlocks (g_nb g228) hR hP hD hS dL_acts_572
    replace hf := ev218
    clear ev218
    refine lv_if_ge (tgt := 543) hx hb dL_acts_525 (by decide) (fun c216 => ?_) (fun c216 => ?_)
    · have hf := g_ifT c216 hf
      refine lv_iload hx hb dL_acts_543 (lv_at hl 1 rfl) ?_
      refine lv_if_ne (tgt := 571) hx hb dL_acts_545 (by decide) (fun c220 => ?_) (fun c220 => ?_)
      · have hf := g_ifF c220 hf
        refine lv_iconst (v := (0 : Int32)) hx hb dL_acts_571 (by decide) ?_
        cases hf
        exact K219 _ _ _ hR hP hD hS ls (lv_sub hl [] rfl)
      · have hf := g_ifT c220 hf
        refine lv_iload hx hb dL_acts_548 (lv_at hl 0 rfl) ?_
        refine lv_iload hx hb dL_acts_550 (lv_at hl 2 rfl) ?_
        refine lv_iconst (v := (1 : Int32)) hx hb dL_acts_552 (by decide) ?_
        refine lv_isub hx hb dL_acts_553 ?_
        refine lv_icmp_ne (tgt := 571) hx hb dL_acts_554 (by decide) (fun c221 => ?_) (fun c221 => ?_)
        · have hf := g_ifF c221 hf
          refine lv_iconst (v := (0 : Int32)) hx hb dL_acts_571 (by decide) ?_
          cases hf
          exact K219 _ _ _ hR hP hD hS ls (lv_sub hl [] rfl)
        · have hf := g_ifT c221 hf
          refine lv_aload_n hx hb dL_acts_557 rfl (lv_at hl 5 rfl) ?_
          refine lv_iconst (v := (0 : Int32)) hx hb dL_acts_558 (by decide) ?_
          obtain ⟨r222, e223, hf⟩ := g_bdS hf
          obtain ⟨fs224, he225⟩ := Rp.recv hR
          refine g_contR (st1 := [.int r222]) (g_runVR (As := [.int (0 : Int32)]) (rest := []) ⟨hx, hb, hml, hown, hts⟩ (A_count l G hR e223) (cwV 1 hts (TB_V TB_id tw_238 tw_239 tw_240 tw_5 tw_241) rfl rfl rfl (by decide +kernel) ⟨Nat.le_of_ble_eq_true rfl, Nat.le_of_ble_eq_true rfl⟩) hK hP 0 he225 rfl rfl hl.1 rfl (Nat.le_of_ble_eq_true rfl) dL_acts_559) rfl ?_
          refine lv_iload hx hb dL_acts_562 (lv_at hl 0 rfl) ?_
          refine lv_icmp_ne (tgt := 571) hx hb dL_acts_564 (by decide) (fun c226 => ?_) (fun c226 => ?_)
          · have hf := g_ifF c226 hf
            refine lv_iconst (v := (0 : Int32)) hx hb dL_acts_571 (by decide) ?_
            cases hf
            exact K219 _ _ _ hR hP hD hS ls (lv_sub hl [] rfl)
          · have hf := g_ifT c226 hf
            refine lv_iconst (v := (1 : Int32)) hx hb dL_acts_567 (by decide) ?_
            refine lv_goto (tgt := 572) hx hb dL_acts_568 (by decide) ?_
            cases hf
            exact K219 _ _ _ hR hP hD hS ls (lv_sub hl [] rfl)
    · have hf := g_ifF c216 hf
      refine lv_iload hx hb dL_acts_528 (lv_at hl 0 rfl) ?_
      refine lv_ldc (v := (-1000002 : Int32)) hx hb hown (hts _ tw_368) dL_acts_530 ?_
      refine lv_icmp_ne (tgt := 539) hx hb dL_acts_532 (by decide) (fun c227 => ?_) (fun c227 => ?_)
      · have hf := g_ifF c227 hf
        refine lv_iconst (v := (0 : Int32)) hx hb dL_acts_539 (by decide) ?_
        refine lv_goto (tgt := 572) hx hb dL_acts_540 (by decide) ?_
        cases hf
        exact K219 _ _ _ hR hP hD hS ls (lv_sub hl [] rfl)
      · have hf := g_ifT c227 hf
        refine lv_iconst (v := (1 : Int32)) hx hb dL_acts_535 (by decide) ?_
        refine lv_goto (tgt := 572) hx hb dL_acts_536 (by decide) ?_
        cases hf
        exact K219 _ _ _ hR hP hD hS ls (lv_sub hl [] rfl)
  have hf := g_ifF c211 hf
  by_cases c229 : (p1 - p1 / (16 : Int32) * (16 : Int32)) = (12 : Int32)
  · have hf := g_ifT c229 hf
    refine g_tsw (tgt := 573) (off := 545) hx hb dL_acts_28 (by rw [c229]; decide) (by decide) (by decide) ?_
    refine lv_iload_n hx hb dL_acts_573 rfl (lv_at hl 3 rfl) ?_
    refine lv_iconst (v := (3 : Int32)) hx hb dL_acts_574 (by decide) ?_
    refine lv_irem hx hb dL_acts_575 (by decide) ?_
    refine lv_if_le (tgt := 581) hx hb dL_acts_576 (by decide) (fun c230 => ?_) (fun c230 => ?_)
    · have hf := g_ifT c230 hf
      refine lv_aload_n hx hb dL_acts_581 rfl (lv_at hl 4 rfl) ?_
      refine lv_bipush (v := (9 : Int32)) hx hb dL_acts_582 (by decide) ?_
      obtain ⟨r231, e232, hf⟩ := g_bdS hf
      obtain ⟨fs233, he234⟩ := Rp.recv hR
      refine g_contR (st1 := [.int r231]) (g_runVR (As := [.int (9 : Int32)]) (rest := []) ⟨hx, hb, hml, hown, hts⟩ (A_count l G hR e232) (cwV 1 hts (TB_V TB_id tw_238 tw_239 tw_240 tw_5 tw_241) rfl rfl rfl (by decide +kernel) ⟨Nat.le_of_ble_eq_true rfl, Nat.le_of_ble_eq_true rfl⟩) hK hP 0 he234 rfl rfl hl.1 rfl (Nat.le_of_ble_eq_true rfl) dL_acts_584) rfl ?_
      refine lv_istore (lv' := [(15, .int r231), (5, .int r5), (4, .int r1), (3, .int ((p1 / (16 : Int32)) - (p1 / (16 : Int32)) / (7 : Int32) * (7 : Int32))), (2, .int (p1 / (16 : Int32))), (0, .ref x), (1, .int p1)]) hx hb dL_acts_587 hl (by decide) rfl (fun ls hl => ?_)
      refine lv_aload_n hx hb dL_acts_589 rfl (lv_at hl 5 rfl) ?_
      obtain ⟨r235, e236, hf⟩ := g_bdS hf
      obtain ⟨fs237, he238⟩ := Rp.recv hR
      refine g_contF (st1 := [.int r235.1]) (g_runVF (As := []) (rest := []) ⟨hx, hb, hml, hown, hts⟩ (A_crash l G hR e236) (cwV 0 hts (TB_V TB_id tw_427 tw_428 tw_429 tw_5 tw_430) rfl rfl rfl (by decide +kernel) ⟨Nat.le_of_ble_eq_true rfl, Nat.le_of_ble_eq_true rfl⟩) hK hP hD 0 he238 rfl rfl hl.1 rfl (Nat.le_of_ble_eq_true rfl) dL_acts_590 ⟨Nat.zero_le _, Nat.zero_le _⟩) rfl hD hS hA (fun w H locs hR hP hD hS => ?_)
      refine lv_istore (lv' := [(16, .int r235.1), (15, .int r231), (5, .int r5), (4, .int r1), (3, .int ((p1 / (16 : Int32)) - (p1 / (16 : Int32)) / (7 : Int32) * (7 : Int32))), (2, .int (p1 / (16 : Int32))), (0, .ref x), (1, .int p1)]) hx hb dL_acts_593 hl (by decide) rfl (fun ls hl => ?_)
      refine lv_iload hx hb dL_acts_595 (lv_at hl 2 rfl) ?_
      obtain ⟨v240, ev241, hf⟩ := g_bdS hf
      have K242 : ∀ (w : va_W) (H : Heap) (locs : List Loc), Rp G x hi h0 h1 h2 r235.2 w → va_P G.1 vwCl w H → va_D (va_A w0 s.heap.size) w → va_S (va_A w0 s.heap.size) s.heap H locs → ∀ ls, lv_has ls 24 [] → gWF p l e (headSpec wsL_acts rmL_acts).room s m args below meth c G w0 (some (.int u.1)) (Rp G x hi h0 h1 h2 u.2) H locs 649 ls [.int v240] := by
        intro w H locs hR hP hD hS ls hl
        obtain ⟨g255, hf⟩ := g_gdS hf
        cases hf
        exact g_zretF hx hb hr hlocks (g_nb g255) hR hP hD hS dL_acts_649
      replace hf := ev241
      clear ev241
      refine lv_if_ne (tgt := 615) hx hb dL_acts_597 (by decide) (fun c239 => ?_) (fun c239 => ?_)
      · have hf := g_ifF c239 hf
        refine lv_iload hx hb dL_acts_615 (lv_at hl 0 rfl) ?_
        refine lv_iload hx hb dL_acts_617 (lv_at hl 2 rfl) ?_
        refine lv_icmp_ne (tgt := 648) hx hb dL_acts_619 (by decide) (fun c243 => ?_) (fun c243 => ?_)
        · have hf := g_ifF c243 hf
          refine lv_iconst (v := (0 : Int32)) hx hb dL_acts_648 (by decide) ?_
          cases hf
          exact K242 _ _ _ hR hP hD hS ls (lv_sub hl [] rfl)
        · have hf := g_ifT c243 hf
          refine lv_aload_n hx hb dL_acts_622 rfl (lv_at hl 6 rfl) ?_
          refine lv_bipush (v := (9 : Int32)) hx hb dL_acts_623 (by decide) ?_
          obtain ⟨r244, e245, hf⟩ := g_bdS hf
          obtain ⟨fs246, he247⟩ := Rp.recv hR
          refine g_contR (st1 := [.int r244]) (g_runVR (As := [.int (9 : Int32)]) (rest := []) ⟨hx, hb, hml, hown, hts⟩ (A_count l G hR e245) (cwV 1 hts (TB_V TB_id tw_238 tw_239 tw_240 tw_5 tw_241) rfl rfl rfl (by decide +kernel) ⟨Nat.le_of_ble_eq_true rfl, Nat.le_of_ble_eq_true rfl⟩) hK hP 0 he247 rfl rfl hl.1 rfl (Nat.le_of_ble_eq_true rfl) dL_acts_625) rfl ?_
          refine lv_iload hx hb dL_acts_628 (lv_at hl 1 rfl) ?_
          refine lv_iload hx hb dL_acts_630 (lv_at hl 0 rfl) ?_
          refine lv_iadd hx hb dL_acts_632 ?_
          refine lv_icmp_ne (tgt := 648) hx hb dL_acts_633 (by decide) (fun c248 => ?_) (fun c248 => ?_)
          · have hf := g_ifF c248 hf
            refine lv_iconst (v := (0 : Int32)) hx hb dL_acts_648 (by decide) ?_
            cases hf
            exact K242 _ _ _ hR hP hD hS ls (lv_sub hl [] rfl)
          · have hf := g_ifT c248 hf
            refine lv_aload_n hx hb dL_acts_636 rfl (lv_at hl 6 rfl) ?_
            refine lv_iconst (v := (3 : Int32)) hx hb dL_acts_637 (by decide) ?_
            obtain ⟨r249, e250, hf⟩ := g_bdS hf
            obtain ⟨fs251, he252⟩ := Rp.recv hR
            refine g_contR (st1 := [.int r249]) (g_runVR (As := [.int (3 : Int32)]) (rest := []) ⟨hx, hb, hml, hown, hts⟩ (A_count l G hR e250) (cwV 1 hts (TB_V TB_id tw_238 tw_239 tw_240 tw_5 tw_241) rfl rfl rfl (by decide +kernel) ⟨Nat.le_of_ble_eq_true rfl, Nat.le_of_ble_eq_true rfl⟩) hK hP 0 he252 rfl rfl hl.1 rfl (Nat.le_of_ble_eq_true rfl) dL_acts_638) rfl ?_
            refine lv_if_ne (tgt := 648) hx hb dL_acts_641 (by decide) (fun c253 => ?_) (fun c253 => ?_)
            · have hf := g_ifF c253 hf
              refine lv_iconst (v := (0 : Int32)) hx hb dL_acts_648 (by decide) ?_
              cases hf
              exact K242 _ _ _ hR hP hD hS ls (lv_sub hl [] rfl)
            · have hf := g_ifT c253 hf
              refine lv_iconst (v := (1 : Int32)) hx hb dL_acts_644 (by decide) ?_
              refine lv_goto (tgt := 649) hx hb dL_acts_645 (by decide) ?_
              cases hf
              exact K242 _ _ _ hR hP hD hS ls (lv_sub hl [] rfl)
      · have hf := g_ifT c239 hf
        refine lv_iload hx hb dL_acts_600 (lv_at hl 0 rfl) ?_
        refine lv_ldc (v := (-1000002 : Int32)) hx hb hown (hts _ tw_368) dL_acts_602 ?_
        refine lv_icmp_ne (tgt := 611) hx hb dL_acts_604 (by decide) (fun c254 => ?_) (fun c254 => ?_)
        · have hf := g_ifF c254 hf
          refine lv_iconst (v := (0 : Int32)) hx hb dL_acts_611 (by decide) ?_
          refine lv_goto (tgt := 649) hx hb dL_acts_612 (by decide) ?_
          cases hf
          exact K242 _ _ _ hR hP hD hS ls (lv_sub hl [] rfl)
        · have hf := g_ifT c254 hf
          refine lv_iconst (v := (1 : Int32)) hx hb dL_acts_607 (by decide) ?_
          refine lv_goto (tgt := 649) hx hb dL_acts_608 (by decide) ?_
          cases hf
          exact K242 _ _ _ hR hP hD hS ls (lv_sub hl [] rfl)
    · have hf := g_ifF c230 hf
      refine lv_iconst (v := (1 : Int32)) hx hb dL_acts_579 (by decide) ?_
      cases hf
      exact g_zretF hx hb hr hlocks g_nb1 hR hP hD hS dL_acts_580
  have hf := g_ifF c229 hf
  by_cases c256 : (p1 - p1 / (16 : Int32) * (16 : Int32)) = (13 : Int32)
  · have hf := g_ifT c256 hf
    refine g_tsw (tgt := 650) (off := 622) hx hb dL_acts_28 (by rw [c256]; decide) (by decide) (by decide) ?_
    refine lv_aload_n hx hb dL_acts_650 rfl (lv_at hl 4 rfl) ?_
    refine lv_bipush (v := (6 : Int32)) hx hb dL_acts_651 (by decide) ?_
    obtain ⟨r257, e258, hf⟩ := g_bdS hf
    obtain ⟨fs259, he260⟩ := Rp.recv hR
    refine g_contR (st1 := [.int r257]) (g_runVR (As := [.int (6 : Int32)]) (rest := []) ⟨hx, hb, hml, hown, hts⟩ (A_count l G hR e258) (cwV 1 hts (TB_V TB_id tw_238 tw_239 tw_240 tw_5 tw_241) rfl rfl rfl (by decide +kernel) ⟨Nat.le_of_ble_eq_true rfl, Nat.le_of_ble_eq_true rfl⟩) hK hP 0 he260 rfl rfl hl.1 rfl (Nat.le_of_ble_eq_true rfl) dL_acts_653) rfl ?_
    refine lv_istore (lv' := [(17, .int r257), (5, .int r5), (4, .int r1), (3, .int ((p1 / (16 : Int32)) - (p1 / (16 : Int32)) / (7 : Int32) * (7 : Int32))), (2, .int (p1 / (16 : Int32))), (0, .ref x), (1, .int p1)]) hx hb dL_acts_656 hl (by decide) rfl (fun ls hl => ?_)
    refine lv_iload_n hx hb dL_acts_658 rfl (lv_at hl 4 rfl) ?_
    refine lv_iconst (v := (4 : Int32)) hx hb dL_acts_659 (by decide) ?_
    refine lv_irem hx hb dL_acts_660 (by decide) ?_
    obtain ⟨v262, ev263, hf⟩ := g_bdS hf
    have K264 : ∀ (w : va_W) (H : Heap) (locs : List Loc), Rp G x hi h0 h1 h2 v262.2 w → va_P G.1 vwCl w H → va_D (va_A w0 s.heap.size) w → va_S (va_A w0 s.heap.size) s.heap H locs → ∀ ls, lv_has ls 24 [(0, .ref x), (4, .int r1), (17, .int r257)] → gWF p l e (headSpec wsL_acts rmL_acts).room s m args below meth c G w0 (some (.int u.1)) (Rp G x hi h0 h1 h2 u.2) H locs 672 ls [.int v262.1] := by
      intro w H locs hR hP hD hS ls hl
      refine lv_istore (lv' := [(18, .int v262.1), (0, .ref x), (4, .int r1), (17, .int r257)]) hx hb dL_acts_672 hl (by decide) rfl (fun ls hl => ?_)
      refine lv_iload hx hb dL_acts_674 (lv_at hl 0 rfl) ?_
      obtain ⟨v270, ev271, hf⟩ := g_bdS hf
      have K272 : ∀ (w : va_W) (H : Heap) (locs : List Loc), Rp G x hi h0 h1 h2 v262.2 w → va_P G.1 vwCl w H → va_D (va_A w0 s.heap.size) w → va_S (va_A w0 s.heap.size) s.heap H locs → ∀ ls, lv_has ls 24 [] → gWF p l e (headSpec wsL_acts rmL_acts).room s m args below meth c G w0 (some (.int u.1)) (Rp G x hi h0 h1 h2 u.2) H locs 732 ls [.int v270] := by
        intro w H locs hR hP hD hS ls hl
        obtain ⟨g290, hf⟩ := g_gdS hf
        cases hf
        exact g_zretF hx hb hr hlocks (g_nb g290) hR hP hD hS dL_acts_732
      replace hf := ev271
      clear ev271
      refine lv_if_ge (tgt := 697) hx hb dL_acts_676 (by decide) (fun c269 => ?_) (fun c269 => ?_)
      · have hf := g_ifT c269 hf
        refine lv_iload hx hb dL_acts_697 (lv_at hl 2 rfl) ?_
        refine lv_iconst (v := (2 : Int32)) hx hb dL_acts_699 (by decide) ?_
        refine lv_icmp_ne (tgt := 731) hx hb dL_acts_700 (by decide) (fun c273 => ?_) (fun c273 => ?_)
        · have hf := g_ifF c273 hf
          refine lv_iconst (v := (0 : Int32)) hx hb dL_acts_731 (by decide) ?_
          cases hf
          exact K272 _ _ _ hR hP hD hS ls (lv_sub hl [] rfl)
        · have hf := g_ifT c273 hf
          refine lv_aload_n hx hb dL_acts_703 rfl (lv_at hl 1 rfl) ?_
          refine lv_iconst (v := (0 : Int32)) hx hb dL_acts_704 (by decide) ?_
          obtain ⟨r274, e275, hf⟩ := g_bdS hf
          obtain ⟨fs276, he277⟩ := Rp.recv hR
          refine g_contR (st1 := [.int r274]) (g_runVR (As := [.int (0 : Int32)]) (rest := []) ⟨hx, hb, hml, hown, hts⟩ (A_count l G hR e275) (cwV 1 hts (TB_V TB_id tw_238 tw_239 tw_240 tw_5 tw_241) rfl rfl rfl (by decide +kernel) ⟨Nat.le_of_ble_eq_true rfl, Nat.le_of_ble_eq_true rfl⟩) hK hP 0 he277 rfl rfl hl.1 rfl (Nat.le_of_ble_eq_true rfl) dL_acts_705) rfl ?_
          refine lv_iconst (v := (3 : Int32)) hx hb dL_acts_708 (by decide) ?_
          refine lv_icmp_ne (tgt := 731) hx hb dL_acts_709 (by decide) (fun c278 => ?_) (fun c278 => ?_)
          · have hf := g_ifF c278 hf
            refine lv_iconst (v := (0 : Int32)) hx hb dL_acts_731 (by decide) ?_
            cases hf
            exact K272 _ _ _ hR hP hD hS ls (lv_sub hl [] rfl)
          · have hf := g_ifT c278 hf
            refine lv_iload hx hb dL_acts_712 (lv_at hl 0 rfl) ?_
            refine lv_iload hx hb dL_acts_714 (lv_at hl 3 rfl) ?_
            refine lv_icmp_ne (tgt := 731) hx hb dL_acts_716 (by decide) (fun c279 => ?_) (fun c279 => ?_)
            · have hf := g_ifF c279 hf
              refine lv_iconst (v := (0 : Int32)) hx hb dL_acts_731 (by decide) ?_
              cases hf
              exact K272 _ _ _ hR hP hD hS ls (lv_sub hl [] rfl)
            · have hf := g_ifT c279 hf
              refine lv_aload_n hx hb dL_acts_719 rfl (lv_at hl 1 rfl) ?_
              refine lv_iconst (v := (4 : Int32)) hx hb dL_acts_720 (by decide) ?_
              obtain ⟨r280, e281, hf⟩ := g_bdS hf
              obtain ⟨fs282, he283⟩ := Rp.recv hR
              refine g_contR (st1 := [.int r280]) (g_runVR (As := [.int (4 : Int32)]) (rest := []) ⟨hx, hb, hml, hown, hts⟩ (A_count l G hR e281) (cwV 1 hts (TB_V TB_id tw_238 tw_239 tw_240 tw_5 tw_241) rfl rfl rfl (by decide +kernel) ⟨Nat.le_of_ble_eq_true rfl, Nat.le_of_ble_eq_true rfl⟩) hK hP 0 he283 rfl rfl hl.1 rfl (Nat.le_of_ble_eq_true rfl) dL_acts_721) rfl ?_
              refine lv_if_ne (tgt := 731) hx hb dL_acts_724 (by decide) (fun c284 => ?_) (fun c284 => ?_)
              · have hf := g_ifF c284 hf
                refine lv_iconst (v := (0 : Int32)) hx hb dL_acts_731 (by decide) ?_
                cases hf
                exact K272 _ _ _ hR hP hD hS ls (lv_sub hl [] rfl)
              · have hf := g_ifT c284 hf
                refine lv_iconst (v := (1 : Int32)) hx hb dL_acts_727 (by decide) ?_
                refine lv_goto (tgt := 732) hx hb dL_acts_728 (by decide) ?_
                cases hf
                exact K272 _ _ _ hR hP hD hS ls (lv_sub hl [] rfl)
      · have hf := g_ifF c269 hf
        refine lv_aload_n hx hb dL_acts_679 rfl (lv_at hl 1 rfl) ?_
        refine lv_iconst (v := (0 : Int32)) hx hb dL_acts_680 (by decide) ?_
        obtain ⟨r285, e286, hf⟩ := g_bdS hf
        obtain ⟨fs287, he288⟩ := Rp.recv hR
        refine g_contR (st1 := [.int r285]) (g_runVR (As := [.int (0 : Int32)]) (rest := []) ⟨hx, hb, hml, hown, hts⟩ (A_count l G hR e286) (cwV 1 hts (TB_V TB_id tw_238 tw_239 tw_240 tw_5 tw_241) rfl rfl rfl (by decide +kernel) ⟨Nat.le_of_ble_eq_true rfl, Nat.le_of_ble_eq_true rfl⟩) hK hP 0 he288 rfl rfl hl.1 rfl (Nat.le_of_ble_eq_true rfl) dL_acts_681) rfl ?_
        refine lv_iload hx hb dL_acts_684 (lv_at hl 2 rfl) ?_
        refine lv_icmp_ne (tgt := 693) hx hb dL_acts_686 (by decide) (fun c289 => ?_) (fun c289 => ?_)
        · have hf := g_ifF c289 hf
          refine lv_iconst (v := (0 : Int32)) hx hb dL_acts_693 (by decide) ?_
          refine lv_goto (tgt := 732) hx hb dL_acts_694 (by decide) ?_
          cases hf
          exact K272 _ _ _ hR hP hD hS ls (lv_sub hl [] rfl)
        · have hf := g_ifT c289 hf
          refine lv_iconst (v := (1 : Int32)) hx hb dL_acts_689 (by decide) ?_
          refine lv_goto (tgt := 732) hx hb dL_acts_690 (by decide) ?_
          cases hf
          exact K272 _ _ _ hR hP hD hS ls (lv_sub hl [] rfl)
    replace hf := ev263
    clear ev263
    refine lv_if_le (tgt := 668) hx hb dL_acts_661 (by decide) (fun c261 => ?_) (fun c261 => ?_)
    · have hf := g_ifT c261 hf
      refine lv_aload_n hx hb dL_acts_668 rfl (lv_at hl 5 rfl) ?_
      obtain ⟨r265, e266, hf⟩ := g_bdS hf
      obtain ⟨fs267, he268⟩ := Rp.recv hR
      refine g_contF (st1 := [.int r265.1]) (g_runVF (As := []) (rest := []) ⟨hx, hb, hml, hown, hts⟩ (A_drop l G hR e266) (cwV 0 hts (TB_V TB_id tw_435 tw_436 tw_437 tw_5 tw_438) rfl rfl rfl (by decide +kernel) ⟨Nat.le_of_ble_eq_true rfl, Nat.le_of_ble_eq_true rfl⟩) hK hP hD 0 he268 rfl rfl hl.1 rfl (Nat.le_of_ble_eq_true rfl) dL_acts_669 ⟨Nat.zero_le _, Nat.zero_le _⟩) rfl hD hS hA (fun w H locs hR hP hD hS => ?_)
      cases hf
      exact K264 _ _ _ hR hP hD hS ls (lv_sub hl [5, 2, 0] rfl)
    · have hf := g_ifF c261 hf
      refine lv_iconst (v := (-1 : Int32)) hx hb dL_acts_664 (by decide) ?_
      refine lv_goto (tgt := 672) hx hb dL_acts_665 (by decide) ?_
      cases hf
      exact K264 _ _ _ hR hP hD hS ls (lv_sub hl [5, 2, 0] rfl)
  have hf := g_ifF c256 hf
  by_cases c291 : (p1 - p1 / (16 : Int32) * (16 : Int32)) = (14 : Int32)
  · have hf := g_ifT c291 hf
    refine g_tsw (tgt := 733) (off := 705) hx hb dL_acts_28 (by rw [c291]; decide) (by decide) (by decide) ?_
    refine lv_aload_n hx hb dL_acts_733 rfl (lv_at hl 4 rfl) ?_
    obtain ⟨r292, e293, hf⟩ := g_bdS hf
    obtain ⟨fs294, he295⟩ := Rp.recv hR
    refine g_contR (st1 := [.int r292]) (g_runVR (As := []) (rest := []) ⟨hx, hb, hml, hown, hts⟩ (A_check l G hR e293) (cwV 0 hts (TB_V TB_id tw_280 tw_281 tw_282 tw_5 tw_283) rfl rfl rfl (by decide +kernel) ⟨Nat.le_of_ble_eq_true rfl, Nat.le_of_ble_eq_true rfl⟩) hK hP 0 he295 rfl rfl hl.1 rfl (Nat.le_of_ble_eq_true rfl) dL_acts_734) rfl ?_
    refine lv_istore (lv' := [(19, .int r292), (5, .int r5), (4, .int r1), (3, .int ((p1 / (16 : Int32)) - (p1 / (16 : Int32)) / (7 : Int32) * (7 : Int32))), (2, .int (p1 / (16 : Int32))), (0, .ref x), (1, .int p1)]) hx hb dL_acts_737 hl (by decide) rfl (fun ls hl => ?_)
    refine lv_aload_n hx hb dL_acts_739 rfl (lv_at hl 5 rfl) ?_
    refine lv_iload_n hx hb dL_acts_740 rfl (lv_at hl 3 rfl) ?_
    obtain ⟨r296, e297, hf⟩ := g_bdS hf
    obtain ⟨fs298, he299⟩ := Rp.recv hR
    refine g_contF (st1 := [.int r296.1]) (g_runVF (As := [.int ((p1 / (16 : Int32)) - (p1 / (16 : Int32)) / (7 : Int32) * (7 : Int32))]) (rest := []) ⟨hx, hb, hml, hown, hts⟩ (A_mend l G hR e297) (cwV 1 hts (TB_V TB_id tw_444 tw_445 tw_446 tw_5 tw_447) rfl rfl rfl (by decide +kernel) ⟨Nat.le_of_ble_eq_true rfl, Nat.le_of_ble_eq_true rfl⟩) hK hP hD 0 he299 rfl rfl hl.1 rfl (Nat.le_of_ble_eq_true rfl) dL_acts_741 ⟨Nat.zero_le _, Nat.zero_le _⟩) rfl hD hS hA (fun w H locs hR hP hD hS => ?_)
    refine lv_istore (lv' := [(20, .int r296.1), (19, .int r292), (5, .int r5), (4, .int r1), (3, .int ((p1 / (16 : Int32)) - (p1 / (16 : Int32)) / (7 : Int32) * (7 : Int32))), (2, .int (p1 / (16 : Int32))), (0, .ref x), (1, .int p1)]) hx hb dL_acts_744 hl (by decide) rfl (fun ls hl => ?_)
    refine lv_iload hx hb dL_acts_746 (lv_at hl 0 rfl) ?_
    obtain ⟨v301, ev302, hf⟩ := g_bdS hf
    have K303 : ∀ (w : va_W) (H : Heap) (locs : List Loc), Rp G x hi h0 h1 h2 r296.2 w → va_P G.1 vwCl w H → va_D (va_A w0 s.heap.size) w → va_S (va_A w0 s.heap.size) s.heap H locs → ∀ ls, lv_has ls 24 [] → gWF p l e (headSpec wsL_acts rmL_acts).room s m args below meth c G w0 (some (.int u.1)) (Rp G x hi h0 h1 h2 u.2) H locs 793 ls [.int v301] := by
      intro w H locs hR hP hD hS ls hl
      obtain ⟨g311, hf⟩ := g_gdS hf
      cases hf
      exact g_zretF hx hb hr hlocks (g_nb g311) hR hP hD hS dL_acts_793
    replace hf := ev302
    clear ev302
    refine lv_if_ge (tgt := 766) hx hb dL_acts_748 (by decide) (fun c300 => ?_) (fun c300 => ?_)
    · have hf := g_ifT c300 hf
      refine lv_iload hx hb dL_acts_766 (lv_at hl 0 rfl) ?_
      refine lv_iload hx hb dL_acts_768 (lv_at hl 1 rfl) ?_
      refine lv_iload_n hx hb dL_acts_770 rfl (lv_at hl 4 rfl) ?_
      refine lv_ishr hx hb dL_acts_771 ?_
      refine lv_iconst (v := (1 : Int32)) hx hb dL_acts_772 (by decide) ?_
      refine lv_iand hx hb dL_acts_773 ?_
      refine lv_icmp_ne (tgt := 792) hx hb dL_acts_774 (by decide) (fun c304 => ?_) (fun c304 => ?_)
      · have hf := g_ifF c304 hf
        refine lv_iconst (v := (0 : Int32)) hx hb dL_acts_792 (by decide) ?_
        cases hf
        exact K303 _ _ _ hR hP hD hS ls (lv_sub hl [] rfl)
      · have hf := g_ifT c304 hf
        refine lv_aload_n hx hb dL_acts_777 rfl (lv_at hl 6 rfl) ?_
        obtain ⟨r305, e306, hf⟩ := g_bdS hf
        obtain ⟨fs307, he308⟩ := Rp.recv hR
        refine g_contR (st1 := [.int r305]) (g_runVR (As := []) (rest := []) ⟨hx, hb, hml, hown, hts⟩ (A_check l G hR e306) (cwV 0 hts (TB_V TB_id tw_280 tw_281 tw_282 tw_5 tw_283) rfl rfl rfl (by decide +kernel) ⟨Nat.le_of_ble_eq_true rfl, Nat.le_of_ble_eq_true rfl⟩) hK hP 0 he308 rfl rfl hl.1 rfl (Nat.le_of_ble_eq_true rfl) dL_acts_778) rfl ?_
        refine lv_iload_n hx hb dL_acts_781 rfl (lv_at hl 4 rfl) ?_
        refine lv_ishr hx hb dL_acts_782 ?_
        refine lv_iconst (v := (1 : Int32)) hx hb dL_acts_783 (by decide) ?_
        refine lv_iand hx hb dL_acts_784 ?_
        refine lv_if_ne (tgt := 792) hx hb dL_acts_785 (by decide) (fun c309 => ?_) (fun c309 => ?_)
        · have hf := g_ifF c309 hf
          refine lv_iconst (v := (0 : Int32)) hx hb dL_acts_792 (by decide) ?_
          cases hf
          exact K303 _ _ _ hR hP hD hS ls (lv_sub hl [] rfl)
        · have hf := g_ifT c309 hf
          refine lv_iconst (v := (1 : Int32)) hx hb dL_acts_788 (by decide) ?_
          refine lv_goto (tgt := 793) hx hb dL_acts_789 (by decide) ?_
          cases hf
          exact K303 _ _ _ hR hP hD hS ls (lv_sub hl [] rfl)
    · have hf := g_ifF c300 hf
      refine lv_iload hx hb dL_acts_751 (lv_at hl 0 rfl) ?_
      refine lv_ldc (v := (-1000002 : Int32)) hx hb hown (hts _ tw_368) dL_acts_753 ?_
      refine lv_icmp_ne (tgt := 762) hx hb dL_acts_755 (by decide) (fun c310 => ?_) (fun c310 => ?_)
      · have hf := g_ifF c310 hf
        refine lv_iconst (v := (0 : Int32)) hx hb dL_acts_762 (by decide) ?_
        refine lv_goto (tgt := 793) hx hb dL_acts_763 (by decide) ?_
        cases hf
        exact K303 _ _ _ hR hP hD hS ls (lv_sub hl [] rfl)
      · have hf := g_ifT c310 hf
        refine lv_iconst (v := (1 : Int32)) hx hb dL_acts_758 (by decide) ?_
        refine lv_goto (tgt := 793) hx hb dL_acts_759 (by decide) ?_
        cases hf
        exact K303 _ _ _ hR hP hD hS ls (lv_sub hl [] rfl)
  have hf := g_ifF c291 hf
  refine g_tsw (tgt := 794) (off := 766) hx hb dL_acts_28 (g_swd (766) (0) (14) #[76, 76, 76, 76, 86, 173, 173, 247, 247, 341, 419, 489, 545, 622, 705] [0, 1, 2, 3, 4, 5, 6, 7, 8, 9, 10, 11, 12, 13, 14] (by decide) (by decide) (by simp only [List.mem_cons, List.not_mem_nil, or_false, not_or]; exact ⟨lv_neT c9 rfl, lv_neT c13 rfl, lv_neT c17 rfl, lv_neT c21 rfl, lv_neT c25 rfl, lv_neT c53 rfl, lv_neT c74 rfl, lv_neT c95 rfl, lv_neT c121 rfl, lv_neT c147 rfl, lv_neT c180 rfl, lv_neT c211 rfl, lv_neT c229 rfl, lv_neT c256 rfl, lv_neT c291 rfl⟩)) (by decide) (by decide) ?_
  refine lv_iload_n hx hb dL_acts_794 rfl (lv_at hl 3 rfl) ?_
  refine lv_bipush (v := (8 : Int32)) hx hb dL_acts_795 (by decide) ?_
  refine lv_idiv hx hb dL_acts_797 (by decide) ?_
  refine lv_iconst (v := (3 : Int32)) hx hb dL_acts_798 (by decide) ?_
  refine lv_irem hx hb dL_acts_799 (by decide) ?_
  refine lv_istore (lv' := [(21, .int (((p1 / (16 : Int32)) / (8 : Int32)) - ((p1 / (16 : Int32)) / (8 : Int32)) / (3 : Int32) * (3 : Int32))), (5, .int r5), (4, .int r1), (3, .int ((p1 / (16 : Int32)) - (p1 / (16 : Int32)) / (7 : Int32) * (7 : Int32))), (2, .int (p1 / (16 : Int32))), (0, .ref x), (1, .int p1)]) hx hb dL_acts_800 hl (by decide) rfl (fun ls hl => ?_)
  refine lv_aload_n hx hb dL_acts_802 rfl (lv_at hl 5 rfl) ?_
  refine lv_iload hx hb dL_acts_803 (lv_at hl 0 rfl) ?_
  refine lv_iload_n hx hb dL_acts_805 rfl (lv_at hl 4 rfl) ?_
  refine lv_iconst (v := (2 : Int32)) hx hb dL_acts_806 (by decide) ?_
  refine lv_irem hx hb dL_acts_807 (by decide) ?_
  obtain ⟨r312, e313, hf⟩ := g_bdS hf
  obtain ⟨fs314, he315⟩ := Rp.recv hR
  refine g_contF (st1 := [.int r312.1]) (g_runVF (As := [.int (((p1 / (16 : Int32)) / (8 : Int32)) - ((p1 / (16 : Int32)) / (8 : Int32)) / (3 : Int32) * (3 : Int32)), .int ((p1 / (16 : Int32)) - (p1 / (16 : Int32)) / (2 : Int32) * (2 : Int32))]) (rest := []) ⟨hx, hb, hml, hown, hts⟩ (A_walk l G hR e313) (cwV 2 hts (TB_V TB_id tw_160 tw_161 tw_162 tw_5 tw_163) rfl rfl rfl (by decide +kernel) ⟨Nat.le_of_ble_eq_true rfl, Nat.le_of_ble_eq_true rfl⟩) hK hP hD 0 he315 rfl rfl hl.1 rfl (Nat.le_of_ble_eq_true rfl) dL_acts_808 ⟨Nat.zero_le _, Nat.zero_le _⟩) rfl hD hS hA (fun w H locs hR hP hD hS => ?_)
  refine lv_istore (lv' := [(22, .int r312.1), (21, .int (((p1 / (16 : Int32)) / (8 : Int32)) - ((p1 / (16 : Int32)) / (8 : Int32)) / (3 : Int32) * (3 : Int32))), (5, .int r5), (4, .int r1), (3, .int ((p1 / (16 : Int32)) - (p1 / (16 : Int32)) / (7 : Int32) * (7 : Int32))), (2, .int (p1 / (16 : Int32))), (0, .ref x), (1, .int p1)]) hx hb dL_acts_811 hl (by decide) rfl (fun ls hl => ?_)
  refine lv_aload_n hx hb dL_acts_813 rfl (lv_at hl 6 rfl) ?_
  refine lv_iload hx hb dL_acts_814 (lv_at hl 1 rfl) ?_
  obtain ⟨r316, e317, hf⟩ := g_bdS hf
  obtain ⟨fs318, he319⟩ := Rp.recv hR
  refine g_contF (st1 := [.int r316.1]) (g_runVF (As := [.int (((p1 / (16 : Int32)) / (8 : Int32)) - ((p1 / (16 : Int32)) / (8 : Int32)) / (3 : Int32) * (3 : Int32))]) (rest := []) ⟨hx, hb, hml, hown, hts⟩ (A_step l G hR e317) (cwV 1 hts (TB_V TB_id tw_456 tw_457 tw_458 tw_5 tw_459) rfl rfl rfl (by decide +kernel) ⟨Nat.le_of_ble_eq_true rfl, Nat.le_of_ble_eq_true rfl⟩) hK hP hD 0 he319 rfl rfl hl.1 rfl (Nat.le_of_ble_eq_true rfl) dL_acts_816 ⟨Nat.zero_le _, Nat.zero_le _⟩) rfl hD hS hA (fun w H locs hR hP hD hS => ?_)
  refine lv_istore (lv' := [(23, .int r316.1), (22, .int r312.1), (21, .int (((p1 / (16 : Int32)) / (8 : Int32)) - ((p1 / (16 : Int32)) / (8 : Int32)) / (3 : Int32) * (3 : Int32))), (5, .int r5), (4, .int r1), (3, .int ((p1 / (16 : Int32)) - (p1 / (16 : Int32)) / (7 : Int32) * (7 : Int32))), (2, .int (p1 / (16 : Int32))), (0, .ref x), (1, .int p1)]) hx hb dL_acts_819 hl (by decide) rfl (fun ls hl => ?_)
  refine lv_iload hx hb dL_acts_821 (lv_at hl 1 rfl) ?_
  obtain ⟨v321, ev322, hf⟩ := g_bdS hf
  have K323 : ∀ (w : va_W) (H : Heap) (locs : List Loc), Rp G x hi h0 h1 h2 r316.2 w → va_P G.1 vwCl w H → va_D (va_A w0 s.heap.size) w → va_S (va_A w0 s.heap.size) s.heap H locs → ∀ ls, lv_has ls 24 [] → gWF p l e (headSpec wsL_acts rmL_acts).room s m args below meth c G w0 (some (.int u.1)) (Rp G x hi h0 h1 h2 u.2) H locs 887 ls [.int v321] := by
    intro w H locs hR hP hD hS ls hl
    obtain ⟨g340, hf⟩ := g_gdS hf
    cases hf
    exact g_zretF hx hb hr hlocks (g_nb g340) hR hP hD hS dL_acts_887
  replace hf := ev322
  clear ev322
  refine lv_if_lt (tgt := 886) hx hb dL_acts_823 (by decide) (fun c320 => ?_) (fun c320 => ?_)
  · have hf := g_ifT c320 hf
    refine lv_iconst (v := (0 : Int32)) hx hb dL_acts_886 (by decide) ?_
    cases hf
    exact K323 _ _ _ hR hP hD hS ls (lv_sub hl [] rfl)
  · have hf := g_ifF c320 hf
    refine lv_iload hx hb dL_acts_826 (lv_at hl 1 rfl) ?_
    refine lv_bipush (v := (31 : Int32)) hx hb dL_acts_828 (by decide) ?_
    refine lv_icmp_gt (tgt := 886) hx hb dL_acts_830 (by decide) (fun c324 => ?_) (fun c324 => ?_)
    · have hf := g_ifT c324 hf
      refine lv_iconst (v := (0 : Int32)) hx hb dL_acts_886 (by decide) ?_
      cases hf
      exact K323 _ _ _ hR hP hD hS ls (lv_sub hl [] rfl)
    · have hf := g_ifF c324 hf
      refine lv_iload hx hb dL_acts_833 (lv_at hl 0 rfl) ?_
      refine lv_bipush (v := (31 : Int32)) hx hb dL_acts_835 (by decide) ?_
      obtain ⟨v326, ev327, hf⟩ := g_bdS hf
      have K328 : ∀ (w : va_W) (H : Heap) (locs : List Loc), Rp G x hi h0 h1 h2 r316.2 w → va_P G.1 vwCl w H → va_D (va_A w0 s.heap.size) w → va_S (va_A w0 s.heap.size) s.heap H locs → ∀ ls, lv_has ls 24 [(0, .ref x), (2, .int (p1 / (16 : Int32))), (22, .int r312.1), (23, .int r316.1)] → gWF p l e (headSpec wsL_acts rmL_acts).room s m args below meth c G w0 (some (.int u.1)) (Rp G x hi h0 h1 h2 u.2) H locs 845 ls [.int v326] := by
        intro w H locs hR hP hD hS ls hl
        refine lv_iload hx hb dL_acts_845 (lv_at hl 2 rfl) ?_
        obtain ⟨v330, ev331, hf⟩ := g_bdS hf
        have K332 : ∀ (w : va_W) (H : Heap) (locs : List Loc), Rp G x hi h0 h1 h2 r316.2 w → va_P G.1 vwCl w H → va_D (va_A w0 s.heap.size) w → va_S (va_A w0 s.heap.size) s.heap H locs → ∀ ls, lv_has ls 24 [(0, .ref x), (2, .int (p1 / (16 : Int32))), (23, .int r316.1)] → gWF p l e (headSpec wsL_acts rmL_acts).room s m args below meth c G w0 (some (.int u.1)) (Rp G x hi h0 h1 h2 u.2) H locs 855 ls [.int v330, .int v326] := by
          intro w H locs hR hP hD hS ls hl
          refine lv_icmp_ne (tgt := 886) hx hb dL_acts_855 (by decide) (fun c333 => ?_) (fun c333 => ?_)
          · have hf := g_ifF c333 hf
            refine lv_iconst (v := (0 : Int32)) hx hb dL_acts_886 (by decide) ?_
            cases hf
            exact K323 _ _ _ hR hP hD hS ls (lv_sub hl [] rfl)
          · have hf := g_ifT c333 hf
            refine lv_iload hx hb dL_acts_858 (lv_at hl 2 rfl) ?_
            refine lv_bipush (v := (31 : Int32)) hx hb dL_acts_860 (by decide) ?_
            refine lv_icmp_eq (tgt := 882) hx hb dL_acts_862 (by decide) (fun c334 => ?_) (fun c334 => ?_)
            · have hf := g_ifT c334 hf
              refine lv_iconst (v := (1 : Int32)) hx hb dL_acts_882 (by decide) ?_
              refine lv_goto (tgt := 887) hx hb dL_acts_883 (by decide) ?_
              cases hf
              exact K323 _ _ _ hR hP hD hS ls (lv_sub hl [] rfl)
            · have hf := g_ifF c334 hf
              refine lv_aload_n hx hb dL_acts_865 rfl (lv_at hl 0 rfl) ?_
              refine lv_iload_n hx hb dL_acts_866 rfl (lv_at hl 1 rfl) ?_
              refine lv_iconst (v := (2 : Int32)) hx hb dL_acts_867 (by decide) ?_
              refine lv_irem hx hb dL_acts_868 (by decide) ?_
              obtain ⟨r335, e336, hf⟩ := g_bdS hf
              obtain ⟨fs337, he338⟩ := Rp.recv hR
              refine g_contR (st1 := [.int r335]) (g_runVR (As := [.int ((p1 / (16 : Int32)) - (p1 / (16 : Int32)) / (2 : Int32) * (2 : Int32))]) (rest := []) ⟨hx, hb, hml, hown, hts⟩ (A_keys l G hR e336) (cwV 1 hts (TB_V TB_id tw_464 tw_465 tw_466 tw_5 tw_467) rfl rfl rfl (by decide +kernel) ⟨Nat.le_of_ble_eq_true rfl, Nat.le_of_ble_eq_true rfl⟩) hK hP 0 he338 rfl rfl hl.1 rfl (Nat.le_of_ble_eq_true rfl) dL_acts_869) rfl ?_
              refine lv_iconst (v := (1 : Int32)) hx hb dL_acts_872 (by decide) ?_
              refine lv_iload hx hb dL_acts_873 (lv_at hl 2 rfl) ?_
              refine lv_ishl hx hb dL_acts_875 ?_
              refine lv_iconst (v := (1 : Int32)) hx hb dL_acts_876 (by decide) ?_
              refine lv_isub hx hb dL_acts_877 ?_
              refine lv_iand hx hb dL_acts_878 ?_
              refine lv_if_ne (tgt := 886) hx hb dL_acts_879 (by decide) (fun c339 => ?_) (fun c339 => ?_)
              · have hf := g_ifF c339 hf
                refine lv_iconst (v := (0 : Int32)) hx hb dL_acts_886 (by decide) ?_
                cases hf
                exact K323 _ _ _ hR hP hD hS ls (lv_sub hl [] rfl)
              · have hf := g_ifT c339 hf
                refine lv_iconst (v := (1 : Int32)) hx hb dL_acts_882 (by decide) ?_
                refine lv_goto (tgt := 887) hx hb dL_acts_883 (by decide) ?_
                cases hf
                exact K323 _ _ _ hR hP hD hS ls (lv_sub hl [] rfl)
        replace hf := ev331
        clear ev331
        refine lv_if_ne (tgt := 854) hx hb dL_acts_847 (by decide) (fun c329 => ?_) (fun c329 => ?_)
        · have hf := g_ifF c329 hf
          refine lv_iconst (v := (0 : Int32)) hx hb dL_acts_854 (by decide) ?_
          cases hf
          exact K332 _ _ _ hR hP hD hS ls (lv_sub hl [0, 1, 3] rfl)
        · have hf := g_ifT c329 hf
          refine lv_iconst (v := (1 : Int32)) hx hb dL_acts_850 (by decide) ?_
          refine lv_goto (tgt := 855) hx hb dL_acts_851 (by decide) ?_
          cases hf
          exact K332 _ _ _ hR hP hD hS ls (lv_sub hl [0, 1, 3] rfl)
      replace hf := ev327
      clear ev327
      refine lv_icmp_ne (tgt := 844) hx hb dL_acts_837 (by decide) (fun c325 => ?_) (fun c325 => ?_)
      · have hf := g_ifF c325 hf
        refine lv_iconst (v := (0 : Int32)) hx hb dL_acts_844 (by decide) ?_
        cases hf
        exact K328 _ _ _ hR hP hD hS ls (lv_sub hl [7, 6, 1, 0] rfl)
      · have hf := g_ifT c325 hf
        refine lv_iconst (v := (1 : Int32)) hx hb dL_acts_840 (by decide) ?_
        refine lv_goto (tgt := 845) hx hb dL_acts_841 (by decide) ?_
        cases hf
        exact K328 _ _ _ hR hP hD hS ls (lv_sub hl [7, 6, 1, 0] rfl)
