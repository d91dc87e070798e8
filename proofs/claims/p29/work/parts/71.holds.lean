def wsL_holds : List Cond := .code yL_holds cL_holds 12 (some .boolean) :: TB
abbrev rmL_holds : Room := { frames := 5, cells := 0, slots := 0, locals := 108 }
def fL_holds_b453 (x1 : Int32) (x3 : Int32) (x4 : Int32) (x5 : Int32) (x6 : Int32) (x7 : Int32) (S : zS) : Option (Int32) := ((if x1 = (1 : Int32) then ((K_count (2 : Int32) S).bind fun r54 => (if r54 = (31 : Int32) then ((K_count (3 : Int32) S).bind fun r59 => (if r59 = (0 : Int32) then ((K_check S).bind fun r64 => (if r64 = (0 : Int32) then some ((1 : Int32)) else some ((0 : Int32)))) else some ((0 : Int32)))) else some ((0 : Int32)))) else some ((0 : Int32)) : Option (Int32)).bind fun v51 => ((if x7 = (0 : Int32) then some ((0 : Int32)) else ((K_count (4 : Int32) S).bind fun r73 => (if r73 = x3 then ((K_count (5 : Int32) S).bind fun r78 => (if r78 = x4 then ((K_count (6 : Int32) S).bind fun r83 => (if r83 = x5 then ((K_count (7 : Int32) S).bind fun r88 => (if r88 = x6 then ((K_count (8 : Int32) S).bind fun r93 => ((if v51 = (0 : Int32) then some ((0 : Int32)) else some ((1 : Int32)) : Option (Int32)).bind fun v98 => (if r93 = v98 then (if v51 = (0 : Int32) then some ((1 : Int32)) else ((K_quarrel S).bind fun r103 => (if r103 = (0 : Int32) then some ((1 : Int32)) else some ((0 : Int32))))) else some ((0 : Int32))))) else some ((0 : Int32)))) else some ((0 : Int32)))) else some ((0 : Int32)))) else some ((0 : Int32)))) : Option (Int32)).bind fun v70 => g_gd (g_bl v70) (some (v70))))
set_option maxHeartbeats 4000000 in
set_option maxRecDepth 100000 in
theorem kL_holds_b453 {p : Program} {l : Launch} {e : Env} {s : State} {m : MethodId} {args : Array Value} {below : List Frame} {meth : Method} {c : Code} {G : gT} {x hi h0 h1 h2 : Nat} (C0 : gX p s m args meth c cL_holds 12 (some .boolean) RL G) :
    ∀ (x1 : Int32) (x3 : Int32) (x4 : Int32) (x5 : Int32) (x6 : Int32) (x7 : Int32) (S : zS) (u : Int32), fL_holds_b453 x1 x3 x4 x5 x6 x7 S = some u → ∀ (w : va_W), Rp G x hi h0 h1 h2 S w → va_P G.1 vwCl w s.heap → ∀ ls, lv_has ls 12 [(0, .ref x), (1, .int x1), (3, .int x3), (4, .int x4), (5, .int x5), (6, .int x6), (7, .int x7)] → gV p l e (headSpec wsL_holds rmL_holds).room s m args below meth c (some (.int u)) 453 ls [] := by
  obtain ⟨hx, hb, hr, hts, hown, hlocks, hml, hK⟩ := id C0
  intro x1 x3 x4 x5 x6 x7 S u hf w hR hP ls hl
  unfold fL_holds_b453 at hf
  refine lv_iload_n hx hb dL_holds_453 rfl (lv_at hl 1 rfl) ?_
  refine lv_iconst (v := (1 : Int32)) hx hb dL_holds_454 (by decide) ?_
  obtain ⟨v51, ev52, hf⟩ := g_bdS hf
  have K53 : ∀ ls, lv_has ls 12 [(0, .ref x), (3, .int x3), (4, .int x4), (5, .int x5), (6, .int x6), (7, .int x7)] → gV p l e (headSpec wsL_holds rmL_holds).room s m args below meth c (some (.int u)) 488 ls [.int v51] := by
    intro ls hl
    refine lv_istore (lv' := [(8, .int v51), (0, .ref x), (3, .int x3), (4, .int x4), (5, .int x5), (6, .int x6), (7, .int x7)]) hx hb dL_holds_488 hl (by decide) rfl (fun ls hl => ?_)
    refine lv_iload hx hb dL_holds_490 (lv_at hl 6 rfl) ?_
    obtain ⟨v70, ev71, hf⟩ := g_bdS hf
    have K72 : ∀ ls, lv_has ls 12 [] → gV p l e (headSpec wsL_holds rmL_holds).room s m args below meth c (some (.int u)) 572 ls [.int v70] := by
      intro ls hl
      obtain ⟨g108, hf⟩ := g_gdS hf
      cases hf
      exact g_zretR hx hb hr hlocks (g_nb g108) dL_holds_572
    replace hf := ev71
    clear ev71
    refine lv_if_eq (tgt := 571) hx hb dL_holds_492 (by decide) (fun c69 => ?_) (fun c69 => ?_)
    · have hf := g_ifT c69 hf
      refine lv_iconst (v := (0 : Int32)) hx hb dL_holds_571 (by decide) ?_
      cases hf
      exact K72 ls (lv_sub hl [] rfl)
    · have hf := g_ifF c69 hf
      refine lv_aload_n hx hb dL_holds_495 rfl (lv_at hl 1 rfl) ?_
      refine lv_iconst (v := (4 : Int32)) hx hb dL_holds_496 (by decide) ?_
      obtain ⟨r73, e74, hf⟩ := g_bdS hf
      obtain ⟨fs75, he76⟩ := Rp.recv hR
      refine g_contR (st1 := [.int r73]) (g_runVR (As := [.int (4 : Int32)]) (rest := []) ⟨hx, hb, hml, hown, hts⟩ (A_count l G hR e74) (cwV 1 hts (TB_V TB_id tw_238 tw_239 tw_240 tw_5 tw_241) rfl rfl rfl (by decide +kernel) ⟨Nat.le_of_ble_eq_true rfl, Nat.le_of_ble_eq_true rfl⟩) hK hP 0 he76 rfl rfl hl.1 rfl (Nat.le_of_ble_eq_true rfl) dL_holds_497) rfl ?_
      refine lv_iload_n hx hb dL_holds_500 rfl (lv_at hl 2 rfl) ?_
      refine lv_icmp_ne (tgt := 571) hx hb dL_holds_501 (by decide) (fun c77 => ?_) (fun c77 => ?_)
      · have hf := g_ifF c77 hf
        refine lv_iconst (v := (0 : Int32)) hx hb dL_holds_571 (by decide) ?_
        cases hf
        exact K72 ls (lv_sub hl [] rfl)
      · have hf := g_ifT c77 hf
        refine lv_aload_n hx hb dL_holds_504 rfl (lv_at hl 1 rfl) ?_
        refine lv_iconst (v := (5 : Int32)) hx hb dL_holds_505 (by decide) ?_
        obtain ⟨r78, e79, hf⟩ := g_bdS hf
        obtain ⟨fs80, he81⟩ := Rp.recv hR
        refine g_contR (st1 := [.int r78]) (g_runVR (As := [.int (5 : Int32)]) (rest := []) ⟨hx, hb, hml, hown, hts⟩ (A_count l G hR e79) (cwV 1 hts (TB_V TB_id tw_238 tw_239 tw_240 tw_5 tw_241) rfl rfl rfl (by decide +kernel) ⟨Nat.le_of_ble_eq_true rfl, Nat.le_of_ble_eq_true rfl⟩) hK hP 0 he81 rfl rfl hl.1 rfl (Nat.le_of_ble_eq_true rfl) dL_holds_506) rfl ?_
        refine lv_iload hx hb dL_holds_509 (lv_at hl 3 rfl) ?_
        refine lv_icmp_ne (tgt := 571) hx hb dL_holds_511 (by decide) (fun c82 => ?_) (fun c82 => ?_)
        · have hf := g_ifF c82 hf
          refine lv_iconst (v := (0 : Int32)) hx hb dL_holds_571 (by decide) ?_
          cases hf
          exact K72 ls (lv_sub hl [] rfl)
        · have hf := g_ifT c82 hf
          refine lv_aload_n hx hb dL_holds_514 rfl (lv_at hl 1 rfl) ?_
          refine lv_bipush (v := (6 : Int32)) hx hb dL_holds_515 (by decide) ?_
          obtain ⟨r83, e84, hf⟩ := g_bdS hf
          obtain ⟨fs85, he86⟩ := Rp.recv hR
          refine g_contR (st1 := [.int r83]) (g_runVR (As := [.int (6 : Int32)]) (rest := []) ⟨hx, hb, hml, hown, hts⟩ (A_count l G hR e84) (cwV 1 hts (TB_V TB_id tw_238 tw_239 tw_240 tw_5 tw_241) rfl rfl rfl (by decide +kernel) ⟨Nat.le_of_ble_eq_true rfl, Nat.le_of_ble_eq_true rfl⟩) hK hP 0 he86 rfl rfl hl.1 rfl (Nat.le_of_ble_eq_true rfl) dL_holds_517) rfl ?_
          refine lv_iload hx hb dL_holds_520 (lv_at hl 4 rfl) ?_
          refine lv_icmp_ne (tgt := 571) hx hb dL_holds_522 (by decide) (fun c87 => ?_) (fun c87 => ?_)
          · have hf := g_ifF c87 hf
            refine lv_iconst (v := (0 : Int32)) hx hb dL_holds_571 (by decide) ?_
            cases hf
            exact K72 ls (lv_sub hl [] rfl)
          · have hf := g_ifT c87 hf
            refine lv_aload_n hx hb dL_holds_525 rfl (lv_at hl 1 rfl) ?_
            refine lv_bipush (v := (7 : Int32)) hx hb dL_holds_526 (by decide) ?_
            obtain ⟨r88, e89, hf⟩ := g_bdS hf
            obtain ⟨fs90, he91⟩ := Rp.recv hR
            refine g_contR (st1 := [.int r88]) (g_runVR (As := [.int (7 : Int32)]) (rest := []) ⟨hx, hb, hml, hown, hts⟩ (A_count l G hR e89) (cwV 1 hts (TB_V TB_id tw_238 tw_239 tw_240 tw_5 tw_241) rfl rfl rfl (by decide +kernel) ⟨Nat.le_of_ble_eq_true rfl, Nat.le_of_ble_eq_true rfl⟩) hK hP 0 he91 rfl rfl hl.1 rfl (Nat.le_of_ble_eq_true rfl) dL_holds_528) rfl ?_
            refine lv_iload hx hb dL_holds_531 (lv_at hl 5 rfl) ?_
            refine lv_icmp_ne (tgt := 571) hx hb dL_holds_533 (by decide) (fun c92 => ?_) (fun c92 => ?_)
            · have hf := g_ifF c92 hf
              refine lv_iconst (v := (0 : Int32)) hx hb dL_holds_571 (by decide) ?_
              cases hf
              exact K72 ls (lv_sub hl [] rfl)
            · have hf := g_ifT c92 hf
              refine lv_aload_n hx hb dL_holds_536 rfl (lv_at hl 1 rfl) ?_
              refine lv_bipush (v := (8 : Int32)) hx hb dL_holds_537 (by decide) ?_
              obtain ⟨r93, e94, hf⟩ := g_bdS hf
              obtain ⟨fs95, he96⟩ := Rp.recv hR
              refine g_contR (st1 := [.int r93]) (g_runVR (As := [.int (8 : Int32)]) (rest := []) ⟨hx, hb, hml, hown, hts⟩ (A_count l G hR e94) (cwV 1 hts (TB_V TB_id tw_238 tw_239 tw_240 tw_5 tw_241) rfl rfl rfl (by decide +kernel) ⟨Nat.le_of_ble_eq_true rfl, Nat.le_of_ble_eq_true rfl⟩) hK hP 0 he96 rfl rfl hl.1 rfl (Nat.le_of_ble_eq_true rfl) dL_holds_539) rfl ?_
              refine lv_iload hx hb dL_holds_542 (lv_at hl 0 rfl) ?_
              obtain ⟨v98, ev99, hf⟩ := g_bdS hf
              have K100 : ∀ ls, lv_has ls 12 [(0, .ref x), (8, .int v51)] → gV p l e (headSpec wsL_holds rmL_holds).room s m args below meth c (some (.int u)) 552 ls [.int v98, .int r93] := by
                intro ls hl
                refine lv_icmp_ne (tgt := 571) hx hb dL_holds_552 (by decide) (fun c101 => ?_) (fun c101 => ?_)
                · have hf := g_ifF c101 hf
                  refine lv_iconst (v := (0 : Int32)) hx hb dL_holds_571 (by decide) ?_
                  cases hf
                  exact K72 ls (lv_sub hl [] rfl)
                · have hf := g_ifT c101 hf
                  refine lv_iload hx hb dL_holds_555 (lv_at hl 1 rfl) ?_
                  refine lv_if_eq (tgt := 567) hx hb dL_holds_557 (by decide) (fun c102 => ?_) (fun c102 => ?_)
                  · have hf := g_ifT c102 hf
                    refine lv_iconst (v := (1 : Int32)) hx hb dL_holds_567 (by decide) ?_
                    refine lv_goto (tgt := 572) hx hb dL_holds_568 (by decide) ?_
                    cases hf
                    exact K72 ls (lv_sub hl [] rfl)
                  · have hf := g_ifF c102 hf
                    refine lv_aload_n hx hb dL_holds_560 rfl (lv_at hl 0 rfl) ?_
                    obtain ⟨r103, e104, hf⟩ := g_bdS hf
                    obtain ⟨fs105, he106⟩ := Rp.recv hR
                    refine g_contR (st1 := [.int r103]) (g_runVR (As := []) (rest := []) ⟨hx, hb, hml, hown, hts⟩ (A_quarrel l G hR e104) (cwV 0 hts (TB_V TB_id tw_300 tw_301 tw_302 tw_5 tw_303) rfl rfl rfl (by decide +kernel) ⟨Nat.le_of_ble_eq_true rfl, Nat.le_of_ble_eq_true rfl⟩) hK hP 0 he106 rfl rfl hl.1 rfl (Nat.le_of_ble_eq_true rfl) dL_holds_561) rfl ?_
                    refine lv_if_ne (tgt := 571) hx hb dL_holds_564 (by decide) (fun c107 => ?_) (fun c107 => ?_)
                    · have hf := g_ifF c107 hf
                      refine lv_iconst (v := (0 : Int32)) hx hb dL_holds_571 (by decide) ?_
                      cases hf
                      exact K72 ls (lv_sub hl [] rfl)
                    · have hf := g_ifT c107 hf
                      refine lv_iconst (v := (1 : Int32)) hx hb dL_holds_567 (by decide) ?_
                      refine lv_goto (tgt := 572) hx hb dL_holds_568 (by decide) ?_
                      cases hf
                      exact K72 ls (lv_sub hl [] rfl)
              replace hf := ev99
              clear ev99
              refine lv_if_eq (tgt := 551) hx hb dL_holds_544 (by decide) (fun c97 => ?_) (fun c97 => ?_)
              · have hf := g_ifT c97 hf
                refine lv_iconst (v := (0 : Int32)) hx hb dL_holds_551 (by decide) ?_
                cases hf
                exact K100 ls (lv_sub hl [1, 0] rfl)
              · have hf := g_ifF c97 hf
                refine lv_iconst (v := (1 : Int32)) hx hb dL_holds_547 (by decide) ?_
                refine lv_goto (tgt := 552) hx hb dL_holds_548 (by decide) ?_
                cases hf
                exact K100 ls (lv_sub hl [1, 0] rfl)
  replace hf := ev52
  clear ev52
  refine lv_icmp_ne (tgt := 487) hx hb dL_holds_455 (by decide) (fun c50 => ?_) (fun c50 => ?_)
  · have hf := g_ifF c50 hf
    refine lv_iconst (v := (0 : Int32)) hx hb dL_holds_487 (by decide) ?_
    cases hf
    exact K53 ls (lv_sub hl [0, 2, 3, 4, 5, 6] rfl)
  · have hf := g_ifT c50 hf
    refine lv_aload_n hx hb dL_holds_458 rfl (lv_at hl 0 rfl) ?_
    refine lv_iconst (v := (2 : Int32)) hx hb dL_holds_459 (by decide) ?_
    obtain ⟨r54, e55, hf⟩ := g_bdS hf
    obtain ⟨fs56, he57⟩ := Rp.recv hR
    refine g_contR (st1 := [.int r54]) (g_runVR (As := [.int (2 : Int32)]) (rest := []) ⟨hx, hb, hml, hown, hts⟩ (A_count l G hR e55) (cwV 1 hts (TB_V TB_id tw_238 tw_239 tw_240 tw_5 tw_241) rfl rfl rfl (by decide +kernel) ⟨Nat.le_of_ble_eq_true rfl, Nat.le_of_ble_eq_true rfl⟩) hK hP 0 he57 rfl rfl hl.1 rfl (Nat.le_of_ble_eq_true rfl) dL_holds_460) rfl ?_
    refine lv_bipush (v := (31 : Int32)) hx hb dL_holds_463 (by decide) ?_
    refine lv_icmp_ne (tgt := 487) hx hb dL_holds_465 (by decide) (fun c58 => ?_) (fun c58 => ?_)
    · have hf := g_ifF c58 hf
      refine lv_iconst (v := (0 : Int32)) hx hb dL_holds_487 (by decide) ?_
      cases hf
      exact K53 ls (lv_sub hl [0, 2, 3, 4, 5, 6] rfl)
    · have hf := g_ifT c58 hf
      refine lv_aload_n hx hb dL_holds_468 rfl (lv_at hl 0 rfl) ?_
      refine lv_iconst (v := (3 : Int32)) hx hb dL_holds_469 (by decide) ?_
      obtain ⟨r59, e60, hf⟩ := g_bdS hf
      obtain ⟨fs61, he62⟩ := Rp.recv hR
      refine g_contR (st1 := [.int r59]) (g_runVR (As := [.int (3 : Int32)]) (rest := []) ⟨hx, hb, hml, hown, hts⟩ (A_count l G hR e60) (cwV 1 hts (TB_V TB_id tw_238 tw_239 tw_240 tw_5 tw_241) rfl rfl rfl (by decide +kernel) ⟨Nat.le_of_ble_eq_true rfl, Nat.le_of_ble_eq_true rfl⟩) hK hP 0 he62 rfl rfl hl.1 rfl (Nat.le_of_ble_eq_true rfl) dL_holds_470) rfl ?_
      refine lv_if_ne (tgt := 487) hx hb dL_holds_473 (by decide) (fun c63 => ?_) (fun c63 => ?_)
      · have hf := g_ifF c63 hf
        refine lv_iconst (v := (0 : Int32)) hx hb dL_holds_487 (by decide) ?_
        cases hf
        exact K53 ls (lv_sub hl [0, 2, 3, 4, 5, 6] rfl)
      · have hf := g_ifT c63 hf
        refine lv_aload_n hx hb dL_holds_476 rfl (lv_at hl 0 rfl) ?_
        obtain ⟨r64, e65, hf⟩ := g_bdS hf
        obtain ⟨fs66, he67⟩ := Rp.recv hR
        refine g_contR (st1 := [.int r64]) (g_runVR (As := []) (rest := []) ⟨hx, hb, hml, hown, hts⟩ (A_check l G hR e65) (cwV 0 hts (TB_V TB_id tw_280 tw_281 tw_282 tw_5 tw_283) rfl rfl rfl (by decide +kernel) ⟨Nat.le_of_ble_eq_true rfl, Nat.le_of_ble_eq_true rfl⟩) hK hP 0 he67 rfl rfl hl.1 rfl (Nat.le_of_ble_eq_true rfl) dL_holds_477) rfl ?_
        refine lv_if_ne (tgt := 487) hx hb dL_holds_480 (by decide) (fun c68 => ?_) (fun c68 => ?_)
        · have hf := g_ifF c68 hf
          refine lv_iconst (v := (0 : Int32)) hx hb dL_holds_487 (by decide) ?_
          cases hf
          exact K53 ls (lv_sub hl [0, 2, 3, 4, 5, 6] rfl)
        · have hf := g_ifT c68 hf
          refine lv_iconst (v := (1 : Int32)) hx hb dL_holds_483 (by decide) ?_
          refine lv_goto (tgt := 488) hx hb dL_holds_484 (by decide) ?_
          cases hf
          exact K53 ls (lv_sub hl [0, 2, 3, 4, 5, 6] rfl)
def fL_holds_b111 : Nat → Int32 → Int32 → Int32 → Int32 → Int32 → Int32 → Int32 → zS → Option (Int32)
  | 0, _, _, _, _, _, _, _, _ => none
  | n + 1, x1, x3, x4, x5, x6, x7, x8, S => (if (31 : Int32) ≤ x8 then fL_holds_b453 x1 x3 x4 x5 x6 x7 S else (if x7 = (0 : Int32) then fL_holds_b453 x1 x3 x4 x5 x6 x7 S else ((K_shapeOf x8 (0 : Int32) (0 : Int32) S).bind fun r110 => ((K_shapeOf x8 (1 : Int32) (0 : Int32) S).bind fun r114 => ((if r110 < (0 : Int32) then some ((0 : Int32)) else some ((1 : Int32)) : Option (Int32)).bind fun v119 => ((if (3 : Int32) ≤ x1 then some ((0 : Int32)) else some ((1 : Int32)) : Option (Int32)).bind fun v123 => ((if v119 = v123 then ((if r114 < (0 : Int32) then some ((0 : Int32)) else some ((1 : Int32)) : Option (Int32)).bind fun v131 => ((if x1 ≤ (0 : Int32) then some ((0 : Int32)) else some ((1 : Int32)) : Option (Int32)).bind fun v135 => (if v131 = v135 then ((K_count (1 : Int32) S).bind fun r139 => (if r139 < r110 then some ((0 : Int32)) else ((K_count (1 : Int32) S).bind fun r144 => (if r144 < r114 then some ((0 : Int32)) else some ((1 : Int32)))))) else some ((0 : Int32))))) else some ((0 : Int32)) : Option (Int32)).bind fun v127 => ((if r110 < (0 : Int32) then some (x3, v127) else ((K_shapeOf x8 (0 : Int32) (1 : Int32) S).bind fun r153 => ((if v127 = (0 : Int32) then some ((0 : Int32)) else (if r153 = (0 : Int32) then ((K_shapeOf x8 (0 : Int32) (2 : Int32) S).bind fun r162 => ((if r162 < (0 : Int32) then some ((0 : Int32)) else some ((1 : Int32)) : Option (Int32)).bind fun v167 => ((if r153 = (1 : Int32) then some ((1 : Int32)) else some ((0 : Int32)) : Option (Int32)).bind fun v171 => (if v167 = v171 then (if r153 = (0 : Int32) then some ((1 : Int32)) else ((K_shapeOf x8 (0 : Int32) (3 : Int32) S).bind fun r176 => (if (9 : Int32) < r176 then some ((0 : Int32)) else ((K_shapeOf x8 (0 : Int32) (4 : Int32) S).bind fun r181 => (if (1 : Int32) < r181 then some ((0 : Int32)) else some ((1 : Int32))))))) else some ((0 : Int32)))))) else (if r110 ≤ (0 : Int32) then some ((0 : Int32)) else ((K_shapeOf x8 (0 : Int32) (2 : Int32) S).bind fun r187 => ((if r187 < (0 : Int32) then some ((0 : Int32)) else some ((1 : Int32)) : Option (Int32)).bind fun v192 => ((if r153 = (1 : Int32) then some ((1 : Int32)) else some ((0 : Int32)) : Option (Int32)).bind fun v196 => (if v192 = v196 then (if r153 = (0 : Int32) then some ((1 : Int32)) else ((K_shapeOf x8 (0 : Int32) (3 : Int32) S).bind fun r201 => (if (9 : Int32) < r201 then some ((0 : Int32)) else ((K_shapeOf x8 (0 : Int32) (4 : Int32) S).bind fun r206 => (if (1 : Int32) < r206 then some ((0 : Int32)) else some ((1 : Int32))))))) else some ((0 : Int32)))))))) : Option (Int32)).bind fun v158 => some ((x3 + r153), v158))) : Option (Int32 × Int32)).bind fun v150 => ((if r114 < (0 : Int32) then some (x4, x5, x6, v150.2) else ((K_shapeOf x8 (1 : Int32) (1 : Int32) S).bind fun r215 => ((if r114 ≤ (0 : Int32) then some ((0 : Int32)) else some ((1 : Int32)) : Option (Int32)).bind fun v220 => ((if r215 = (1 : Int32) then ((K_shapeOf x8 (1 : Int32) (3 : Int32) S).bind fun r227 => (if r227 ≤ (1 : Int32) then some ((0 : Int32)) else some ((1 : Int32)))) else some ((0 : Int32)) : Option (Int32)).bind fun v224 => ((if v150.2 = (0 : Int32) then some ((0 : Int32)) else (if r215 = (0 : Int32) then ((K_shapeOf x8 (1 : Int32) (4 : Int32) S).bind fun r237 => (if r237 = (-1000004 : Int32) then ((K_shapeOf x8 (1 : Int32) (2 : Int32) S).bind fun r242 => ((if r242 < (0 : Int32) then some ((0 : Int32)) else some ((1 : Int32)) : Option (Int32)).bind fun v247 => ((if r215 = (1 : Int32) then some ((1 : Int32)) else some ((0 : Int32)) : Option (Int32)).bind fun v251 => (if v247 = v251 then some ((1 : Int32)) else some ((0 : Int32)))))) else some ((0 : Int32)))) else (if r114 ≤ (0 : Int32) then some ((0 : Int32)) else ((K_shapeOf x8 (1 : Int32) (4 : Int32) S).bind fun r256 => (if r256 = (-1000004 : Int32) then ((K_shapeOf x8 (1 : Int32) (2 : Int32) S).bind fun r261 => ((if r261 < (0 : Int32) then some ((0 : Int32)) else some ((1 : Int32)) : Option (Int32)).bind fun v266 => ((if r215 = (1 : Int32) then some ((1 : Int32)) else some ((0 : Int32)) : Option (Int32)).bind fun v270 => (if v266 = v270 then some ((1 : Int32)) else some ((0 : Int32)))))) else some ((0 : Int32)))))) : Option (Int32)).bind fun v233 => some ((x4 + r215), (x5 + v224), (x6 + v220), v233))))) : Option (Int32 × Int32 × Int32 × Int32)).bind fun v212 => fL_holds_b111 n x1 v150.1 v212.1 v212.2.1 v212.2.2.1 v212.2.2.2 (x8 + (1 : Int32)) S)))))))))
set_option maxHeartbeats 4000000 in
set_option maxRecDepth 100000 in
theorem kL_holds_b111 {p : Program} {l : Launch} {e : Env} {s : State} {m : MethodId} {args : Array Value} {below : List Frame} {meth : Method} {c : Code} {G : gT} {x hi h0 h1 h2 : Nat} (C0 : gX p s m args meth c cL_holds 12 (some .boolean) RL G) :
    ∀ (n : Nat) (x1 : Int32) (x3 : Int32) (x4 : Int32) (x5 : Int32) (x6 : Int32) (x7 : Int32) (x8 : Int32) (S : zS) (u : Int32), fL_holds_b111 n x1 x3 x4 x5 x6 x7 x8 S = some u → ∀ (w : va_W), Rp G x hi h0 h1 h2 S w → va_P G.1 vwCl w s.heap → ∀ ls, lv_has ls 12 [(0, .ref x), (1, .int x1), (3, .int x3), (4, .int x4), (5, .int x5), (6, .int x6), (7, .int x7), (8, .int x8)] → gV p l e (headSpec wsL_holds rmL_holds).room s m args below meth c (some (.int u)) 111 ls [] := by
  obtain ⟨hx, hb, hr, hts, hown, hlocks, hml, hK⟩ := id C0
  intro n
  induction n with
  | zero =>
    intro x1 x3 x4 x5 x6 x7 x8 S u hf w hR hP ls hl
    have hf : (none : Option (Int32)) = some u := hf
    cases hf
  | succ n ih =>
    intro x1 x3 x4 x5 x6 x7 x8 S u hf w hR hP ls hl
    rw [fL_holds_b111] at hf
    refine lv_iload hx hb dL_holds_111 (lv_at hl 7 rfl) ?_
    refine lv_bipush (v := (31 : Int32)) hx hb dL_holds_113 (by decide) ?_
    refine lv_icmp_ge (tgt := 453) hx hb dL_holds_115 (by decide) (fun c49 => ?_) (fun c49 => ?_)
    · have hf := g_ifT c49 hf
      exact kL_holds_b453 C0 _ _ _ _ _ _ _ _ hf _ hR hP ls (lv_sub hl [0, 1, 2, 3, 4, 5, 6] rfl)
    · have hf := g_ifF c49 hf
      refine lv_iload hx hb dL_holds_118 (lv_at hl 6 rfl) ?_
      refine lv_if_eq (tgt := 453) hx hb dL_holds_120 (by decide) (fun c109 => ?_) (fun c109 => ?_)
      · have hf := g_ifT c109 hf
        exact kL_holds_b453 C0 _ _ _ _ _ _ _ _ hf _ hR hP ls (lv_sub hl [0, 1, 2, 3, 4, 5, 6] rfl)
      · have hf := g_ifF c109 hf
        refine lv_aload_n hx hb dL_holds_123 rfl (lv_at hl 0 rfl) ?_
        refine lv_iload hx hb dL_holds_124 (lv_at hl 7 rfl) ?_
        refine lv_iconst (v := (0 : Int32)) hx hb dL_holds_126 (by decide) ?_
        refine lv_iconst (v := (0 : Int32)) hx hb dL_holds_127 (by decide) ?_
        obtain ⟨r110, e111, hf⟩ := g_bdS hf
        obtain ⟨fs112, he113⟩ := Rp.recv hR
        refine g_contR (st1 := [.int r110]) (g_runVR (As := [.int x8, .int (0 : Int32), .int (0 : Int32)]) (rest := []) ⟨hx, hb, hml, hown, hts⟩ (A_shapeOf l G hR e111) (cwV 3 hts (TB_V TB_id tw_289 tw_290 tw_291 tw_5 tw_292) rfl rfl rfl (by decide +kernel) ⟨Nat.le_of_ble_eq_true rfl, Nat.le_of_ble_eq_true rfl⟩) hK hP 0 he113 rfl rfl hl.1 rfl (Nat.le_of_ble_eq_true rfl) dL_holds_128) rfl ?_
        refine lv_istore (lv' := [(9, .int r110), (0, .ref x), (1, .int x1), (3, .int x3), (4, .int x4), (5, .int x5), (6, .int x6), (7, .int x7), (8, .int x8)]) hx hb dL_holds_131 hl (by decide) rfl (fun ls hl => ?_)
        refine lv_aload_n hx hb dL_holds_133 rfl (lv_at hl 1 rfl) ?_
        refine lv_iload hx hb dL_holds_134 (lv_at hl 8 rfl) ?_
        refine lv_iconst (v := (1 : Int32)) hx hb dL_holds_136 (by decide) ?_
        refine lv_iconst (v := (0 : Int32)) hx hb dL_holds_137 (by decide) ?_
        obtain ⟨r114, e115, hf⟩ := g_bdS hf
        obtain ⟨fs116, he117⟩ := Rp.recv hR
        refine g_contR (st1 := [.int r114]) (g_runVR (As := [.int x8, .int (1 : Int32), .int (0 : Int32)]) (rest := []) ⟨hx, hb, hml, hown, hts⟩ (A_shapeOf l G hR e115) (cwV 3 hts (TB_V TB_id tw_289 tw_290 tw_291 tw_5 tw_292) rfl rfl rfl (by decide +kernel) ⟨Nat.le_of_ble_eq_true rfl, Nat.le_of_ble_eq_true rfl⟩) hK hP 0 he117 rfl rfl hl.1 rfl (Nat.le_of_ble_eq_true rfl) dL_holds_138) rfl ?_
        refine lv_istore (lv' := [(10, .int r114), (9, .int r110), (0, .ref x), (1, .int x1), (3, .int x3), (4, .int x4), (5, .int x5), (6, .int x6), (7, .int x7), (8, .int x8)]) hx hb dL_holds_141 hl (by decide) rfl (fun ls hl => ?_)
        refine lv_iload hx hb dL_holds_143 (lv_at hl 1 rfl) ?_
        obtain ⟨v119, ev120, hf⟩ := g_bdS hf
        have K121 : ∀ ls, lv_has ls 12 [(0, .ref x), (1, .int x1), (3, .int x3), (4, .int x4), (5, .int x5), (6, .int x6), (8, .int x8), (9, .int r110), (10, .int r114)] → gV p l e (headSpec wsL_holds rmL_holds).room s m args below meth c (some (.int u)) 153 ls [.int v119] := by
          intro ls hl
          refine lv_iload_n hx hb dL_holds_153 rfl (lv_at hl 1 rfl) ?_
          refine lv_iconst (v := (3 : Int32)) hx hb dL_holds_154 (by decide) ?_
          obtain ⟨v123, ev124, hf⟩ := g_bdS hf
          have K125 : ∀ ls, lv_has ls 12 [(0, .ref x), (1, .int x1), (3, .int x3), (4, .int x4), (5, .int x5), (6, .int x6), (8, .int x8), (9, .int r110), (10, .int r114)] → gV p l e (headSpec wsL_holds rmL_holds).room s m args below meth c (some (.int u)) 163 ls [.int v123, .int v119] := by
            intro ls hl
            obtain ⟨v127, ev128, hf⟩ := g_bdS hf
            have K129 : ∀ ls, lv_has ls 12 [(0, .ref x), (1, .int x1), (3, .int x3), (4, .int x4), (5, .int x5), (6, .int x6), (8, .int x8), (9, .int r110), (10, .int r114)] → gV p l e (headSpec wsL_holds rmL_holds).room s m args below meth c (some (.int u)) 213 ls [.int v127] := by
              intro ls hl
              refine lv_istore (lv' := [(7, .int v127), (0, .ref x), (1, .int x1), (3, .int x3), (4, .int x4), (5, .int x5), (6, .int x6), (8, .int x8), (9, .int r110), (10, .int r114)]) hx hb dL_holds_213 hl (by decide) rfl (fun ls hl => ?_)
              refine lv_iload hx hb dL_holds_215 (lv_at hl 8 rfl) ?_
              obtain ⟨v150, ev151, hf⟩ := g_bdS hf
              have K152 : ∀ ls, lv_has ls 12 [(0, .ref x), (1, .int x1), (3, .int v150.1), (4, .int x4), (5, .int x5), (6, .int x6), (7, .int v150.2), (8, .int x8), (10, .int r114)] → gV p l e (headSpec wsL_holds rmL_holds).room s m args below meth c (some (.int u)) 317 ls [] := by
                intro ls hl
                refine lv_iload hx hb dL_holds_317 (lv_at hl 8 rfl) ?_
                obtain ⟨v212, ev213, hf⟩ := g_bdS hf
                have K214 : ∀ ls, lv_has ls 12 [(0, .ref x), (1, .int x1), (3, .int v150.1), (4, .int v212.1), (5, .int v212.2.1), (6, .int v212.2.2.1), (7, .int v212.2.2.2), (8, .int x8)] → gV p l e (headSpec wsL_holds rmL_holds).room s m args below meth c (some (.int u)) 447 ls [] := by
                  intro ls hl
                  refine lv_iinc (v := (x8 + (1 : Int32))) (lv' := [(8, .int (x8 + (1 : Int32))), (0, .ref x), (1, .int x1), (3, .int v150.1), (4, .int v212.1), (5, .int v212.2.1), (6, .int v212.2.2.1), (7, .int v212.2.2.2)]) hx hb dL_holds_447 hl (k := 7) rfl rfl (by decide) rfl (fun ls hl => ?_)
                  refine lv_goto (tgt := 111) hx hb dL_holds_450 (by decide) ?_
                  exact ih _ _ _ _ _ _ _ _ _ hf _ hR hP ls (lv_sub hl [1, 2, 3, 4, 5, 6, 7, 0] rfl)
                replace hf := ev213
                clear ev213
                refine lv_if_lt (tgt := 447) hx hb dL_holds_319 (by decide) (fun c211 => ?_) (fun c211 => ?_)
                · have hf := g_ifT c211 hf
                  cases hf
                  exact K214 ls (lv_sub hl [0, 1, 2, 3, 4, 5, 6, 7] rfl)
                · have hf := g_ifF c211 hf
                  refine lv_aload_n hx hb dL_holds_322 rfl (lv_at hl 0 rfl) ?_
                  refine lv_iload hx hb dL_holds_323 (lv_at hl 7 rfl) ?_
                  refine lv_iconst (v := (1 : Int32)) hx hb dL_holds_325 (by decide) ?_
                  refine lv_iconst (v := (1 : Int32)) hx hb dL_holds_326 (by decide) ?_
                  obtain ⟨r215, e216, hf⟩ := g_bdS hf
                  obtain ⟨fs217, he218⟩ := Rp.recv hR
                  refine g_contR (st1 := [.int r215]) (g_runVR (As := [.int x8, .int (1 : Int32), .int (1 : Int32)]) (rest := []) ⟨hx, hb, hml, hown, hts⟩ (A_shapeOf l G hR e216) (cwV 3 hts (TB_V TB_id tw_289 tw_290 tw_291 tw_5 tw_292) rfl rfl rfl (by decide +kernel) ⟨Nat.le_of_ble_eq_true rfl, Nat.le_of_ble_eq_true rfl⟩) hK hP 0 he218 rfl rfl hl.1 rfl (Nat.le_of_ble_eq_true rfl) dL_holds_327) rfl ?_
                  refine lv_istore (lv' := [(11, .int r215), (0, .ref x), (1, .int x1), (3, .int v150.1), (4, .int x4), (5, .int x5), (6, .int x6), (7, .int v150.2), (8, .int x8), (10, .int r114)]) hx hb dL_holds_330 hl (by decide) rfl (fun ls hl => ?_)
                  refine lv_iload hx hb dL_holds_332 (lv_at hl 4 rfl) ?_
                  refine lv_iload hx hb dL_holds_334 (lv_at hl 0 rfl) ?_
                  refine lv_iadd hx hb dL_holds_336 ?_
                  refine lv_istore (lv' := [(4, .int (x4 + r215)), (11, .int r215), (0, .ref x), (1, .int x1), (3, .int v150.1), (5, .int x5), (6, .int x6), (7, .int v150.2), (8, .int x8), (10, .int r114)]) hx hb dL_holds_337 hl (by decide) rfl (fun ls hl => ?_)
                  refine lv_iload hx hb dL_holds_339 (lv_at hl 6 rfl) ?_
                  refine lv_iload hx hb dL_holds_341 (lv_at hl 9 rfl) ?_
                  obtain ⟨v220, ev221, hf⟩ := g_bdS hf
                  have K222 : ∀ ls, lv_has ls 12 [(0, .ref x), (1, .int x1), (3, .int v150.1), (4, .int (x4 + r215)), (5, .int x5), (7, .int v150.2), (8, .int x8), (10, .int r114), (11, .int r215)] → gV p l e (headSpec wsL_holds rmL_holds).room s m args below meth c (some (.int u)) 351 ls [.int v220, .int x6] := by
                    intro ls hl
                    refine lv_iadd hx hb dL_holds_351 ?_
                    refine lv_istore (lv' := [(6, .int (x6 + v220)), (0, .ref x), (1, .int x1), (3, .int v150.1), (4, .int (x4 + r215)), (5, .int x5), (7, .int v150.2), (8, .int x8), (10, .int r114), (11, .int r215)]) hx hb dL_holds_352 hl (by decide) rfl (fun ls hl => ?_)
                    refine lv_iload hx hb dL_holds_354 (lv_at hl 5 rfl) ?_
                    refine lv_iload hx hb dL_holds_356 (lv_at hl 9 rfl) ?_
                    refine lv_iconst (v := (1 : Int32)) hx hb dL_holds_358 (by decide) ?_
                    obtain ⟨v224, ev225, hf⟩ := g_bdS hf
                    have K226 : ∀ ls, lv_has ls 12 [(0, .ref x), (1, .int x1), (3, .int v150.1), (4, .int (x4 + r215)), (6, .int (x6 + v220)), (7, .int v150.2), (8, .int x8), (10, .int r114), (11, .int r215)] → gV p l e (headSpec wsL_holds rmL_holds).room s m args below meth c (some (.int u)) 379 ls [.int v224, .int x5] := by
                      intro ls hl
                      refine lv_iadd hx hb dL_holds_379 ?_
                      refine lv_istore (lv' := [(5, .int (x5 + v224)), (0, .ref x), (1, .int x1), (3, .int v150.1), (4, .int (x4 + r215)), (6, .int (x6 + v220)), (7, .int v150.2), (8, .int x8), (10, .int r114), (11, .int r215)]) hx hb dL_holds_380 hl (by decide) rfl (fun ls hl => ?_)
                      refine lv_iload hx hb dL_holds_382 (lv_at hl 6 rfl) ?_
                      obtain ⟨v233, ev234, hf⟩ := g_bdS hf
                      have K235 : ∀ ls, lv_has ls 12 [(0, .ref x), (1, .int x1), (3, .int v150.1), (4, .int (x4 + r215)), (5, .int (x5 + v224)), (6, .int (x6 + v220)), (8, .int x8)] → gV p l e (headSpec wsL_holds rmL_holds).room s m args below meth c (some (.int u)) 445 ls [.int v233] := by
                        intro ls hl
                        refine lv_istore (lv' := [(7, .int v233), (0, .ref x), (1, .int x1), (3, .int v150.1), (4, .int (x4 + r215)), (5, .int (x5 + v224)), (6, .int (x6 + v220)), (8, .int x8)]) hx hb dL_holds_445 hl (by decide) rfl (fun ls hl => ?_)
                        cases hf
                        exact K214 ls (lv_sub hl [1, 2, 3, 4, 5, 6, 0, 7] rfl)
                      replace hf := ev234
                      clear ev234
                      refine lv_if_eq (tgt := 444) hx hb dL_holds_384 (by decide) (fun c232 => ?_) (fun c232 => ?_)
                      · have hf := g_ifT c232 hf
                        refine lv_iconst (v := (0 : Int32)) hx hb dL_holds_444 (by decide) ?_
                        cases hf
                        exact K235 ls (lv_sub hl [1, 2, 3, 4, 0, 5, 7] rfl)
                      · have hf := g_ifF c232 hf
                        refine lv_iload hx hb dL_holds_387 (lv_at hl 9 rfl) ?_
                        refine lv_if_eq (tgt := 397) hx hb dL_holds_389 (by decide) (fun c236 => ?_) (fun c236 => ?_)
                        · have hf := g_ifT c236 hf
                          refine lv_aload_n hx hb dL_holds_397 rfl (lv_at hl 1 rfl) ?_
                          refine lv_iload hx hb dL_holds_398 (lv_at hl 7 rfl) ?_
                          refine lv_iconst (v := (1 : Int32)) hx hb dL_holds_400 (by decide) ?_
                          refine lv_iconst (v := (4 : Int32)) hx hb dL_holds_401 (by decide) ?_
                          obtain ⟨r237, e238, hf⟩ := g_bdS hf
                          obtain ⟨fs239, he240⟩ := Rp.recv hR
                          refine g_contR (st1 := [.int r237]) (g_runVR (As := [.int x8, .int (1 : Int32), .int (4 : Int32)]) (rest := []) ⟨hx, hb, hml, hown, hts⟩ (A_shapeOf l G hR e238) (cwV 3 hts (TB_V TB_id tw_289 tw_290 tw_291 tw_5 tw_292) rfl rfl rfl (by decide +kernel) ⟨Nat.le_of_ble_eq_true rfl, Nat.le_of_ble_eq_true rfl⟩) hK hP 0 he240 rfl rfl hl.1 rfl (Nat.le_of_ble_eq_true rfl) dL_holds_402) rfl ?_
                          refine lv_ldc (v := (-1000004 : Int32)) hx hb hown (hts _ tw_299) dL_holds_405 ?_
                          refine lv_icmp_ne (tgt := 444) hx hb dL_holds_407 (by decide) (fun c241 => ?_) (fun c241 => ?_)
                          · have hf := g_ifF c241 hf
                            refine lv_iconst (v := (0 : Int32)) hx hb dL_holds_444 (by decide) ?_
                            cases hf
                            exact K235 ls (lv_sub hl [1, 2, 3, 4, 0, 5, 7] rfl)
                          · have hf := g_ifT c241 hf
                            refine lv_aload_n hx hb dL_holds_410 rfl (lv_at hl 1 rfl) ?_
                            refine lv_iload hx hb dL_holds_411 (lv_at hl 7 rfl) ?_
                            refine lv_iconst (v := (1 : Int32)) hx hb dL_holds_413 (by decide) ?_
                            refine lv_iconst (v := (2 : Int32)) hx hb dL_holds_414 (by decide) ?_
                            obtain ⟨r242, e243, hf⟩ := g_bdS hf
                            obtain ⟨fs244, he245⟩ := Rp.recv hR
                            refine g_contR (st1 := [.int r242]) (g_runVR (As := [.int x8, .int (1 : Int32), .int (2 : Int32)]) (rest := []) ⟨hx, hb, hml, hown, hts⟩ (A_shapeOf l G hR e243) (cwV 3 hts (TB_V TB_id tw_289 tw_290 tw_291 tw_5 tw_292) rfl rfl rfl (by decide +kernel) ⟨Nat.le_of_ble_eq_true rfl, Nat.le_of_ble_eq_true rfl⟩) hK hP 0 he245 rfl rfl hl.1 rfl (Nat.le_of_ble_eq_true rfl) dL_holds_415) rfl ?_
                            obtain ⟨v247, ev248, hf⟩ := g_bdS hf
                            have K249 : ∀ ls, lv_has ls 12 [(0, .ref x), (1, .int x1), (3, .int v150.1), (4, .int (x4 + r215)), (5, .int (x5 + v224)), (6, .int (x6 + v220)), (8, .int x8), (11, .int r215)] → gV p l e (headSpec wsL_holds rmL_holds).room s m args below meth c (some (.int u)) 426 ls [.int v247] := by
                              intro ls hl
                              refine lv_iload hx hb dL_holds_426 (lv_at hl 7 rfl) ?_
                              refine lv_iconst (v := (1 : Int32)) hx hb dL_holds_428 (by decide) ?_
                              obtain ⟨v251, ev252, hf⟩ := g_bdS hf
                              have K253 : ∀ ls, lv_has ls 12 [(0, .ref x), (1, .int x1), (3, .int v150.1), (4, .int (x4 + r215)), (5, .int (x5 + v224)), (6, .int (x6 + v220)), (8, .int x8)] → gV p l e (headSpec wsL_holds rmL_holds).room s m args below meth c (some (.int u)) 437 ls [.int v251, .int v247] := by
                                intro ls hl
                                refine lv_icmp_ne (tgt := 444) hx hb dL_holds_437 (by decide) (fun c254 => ?_) (fun c254 => ?_)
                                · have hf := g_ifF c254 hf
                                  refine lv_iconst (v := (0 : Int32)) hx hb dL_holds_444 (by decide) ?_
                                  cases hf
                                  exact K235 ls (lv_sub hl [0, 1, 2, 3, 4, 5, 6] rfl)
                                · have hf := g_ifT c254 hf
                                  refine lv_iconst (v := (1 : Int32)) hx hb dL_holds_440 (by decide) ?_
                                  refine lv_goto (tgt := 445) hx hb dL_holds_441 (by decide) ?_
                                  cases hf
                                  exact K235 ls (lv_sub hl [0, 1, 2, 3, 4, 5, 6] rfl)
                              replace hf := ev252
                              clear ev252
                              refine lv_icmp_ne (tgt := 436) hx hb dL_holds_429 (by decide) (fun c250 => ?_) (fun c250 => ?_)
                              · have hf := g_ifF c250 hf
                                refine lv_iconst (v := (0 : Int32)) hx hb dL_holds_436 (by decide) ?_
                                cases hf
                                exact K253 ls (lv_sub hl [0, 1, 2, 3, 4, 5, 6] rfl)
                              · have hf := g_ifT c250 hf
                                refine lv_iconst (v := (1 : Int32)) hx hb dL_holds_432 (by decide) ?_
                                refine lv_goto (tgt := 437) hx hb dL_holds_433 (by decide) ?_
                                cases hf
                                exact K253 ls (lv_sub hl [0, 1, 2, 3, 4, 5, 6] rfl)
                            replace hf := ev248
                            clear ev248
                            refine lv_if_lt (tgt := 425) hx hb dL_holds_418 (by decide) (fun c246 => ?_) (fun c246 => ?_)
                            · have hf := g_ifT c246 hf
                              refine lv_iconst (v := (0 : Int32)) hx hb dL_holds_425 (by decide) ?_
                              cases hf
                              exact K249 ls (lv_sub hl [1, 2, 3, 4, 0, 5, 7, 9] rfl)
                            · have hf := g_ifF c246 hf
                              refine lv_iconst (v := (1 : Int32)) hx hb dL_holds_421 (by decide) ?_
                              refine lv_goto (tgt := 426) hx hb dL_holds_422 (by decide) ?_
                              cases hf
                              exact K249 ls (lv_sub hl [1, 2, 3, 4, 0, 5, 7, 9] rfl)
                        · have hf := g_ifF c236 hf
                          refine lv_iload hx hb dL_holds_392 (lv_at hl 8 rfl) ?_
                          refine lv_if_le (tgt := 444) hx hb dL_holds_394 (by decide) (fun c255 => ?_) (fun c255 => ?_)
                          · have hf := g_ifT c255 hf
                            refine lv_iconst (v := (0 : Int32)) hx hb dL_holds_444 (by decide) ?_
                            cases hf
                            exact K235 ls (lv_sub hl [1, 2, 3, 4, 0, 5, 7] rfl)
                          · have hf := g_ifF c255 hf
                            refine lv_aload_n hx hb dL_holds_397 rfl (lv_at hl 1 rfl) ?_
                            refine lv_iload hx hb dL_holds_398 (lv_at hl 7 rfl) ?_
                            refine lv_iconst (v := (1 : Int32)) hx hb dL_holds_400 (by decide) ?_
                            refine lv_iconst (v := (4 : Int32)) hx hb dL_holds_401 (by decide) ?_
                            obtain ⟨r256, e257, hf⟩ := g_bdS hf
                            obtain ⟨fs258, he259⟩ := Rp.recv hR
                            refine g_contR (st1 := [.int r256]) (g_runVR (As := [.int x8, .int (1 : Int32), .int (4 : Int32)]) (rest := []) ⟨hx, hb, hml, hown, hts⟩ (A_shapeOf l G hR e257) (cwV 3 hts (TB_V TB_id tw_289 tw_290 tw_291 tw_5 tw_292) rfl rfl rfl (by decide +kernel) ⟨Nat.le_of_ble_eq_true rfl, Nat.le_of_ble_eq_true rfl⟩) hK hP 0 he259 rfl rfl hl.1 rfl (Nat.le_of_ble_eq_true rfl) dL_holds_402) rfl ?_
                            refine lv_ldc (v := (-1000004 : Int32)) hx hb hown (hts _ tw_299) dL_holds_405 ?_
                            refine lv_icmp_ne (tgt := 444) hx hb dL_holds_407 (by decide) (fun c260 => ?_) (fun c260 => ?_)
                            · have hf := g_ifF c260 hf
                              refine lv_iconst (v := (0 : Int32)) hx hb dL_holds_444 (by decide) ?_
                              cases hf
                              exact K235 ls (lv_sub hl [1, 2, 3, 4, 0, 5, 7] rfl)
                            · have hf := g_ifT c260 hf
                              refine lv_aload_n hx hb dL_holds_410 rfl (lv_at hl 1 rfl) ?_
                              refine lv_iload hx hb dL_holds_411 (lv_at hl 7 rfl) ?_
                              refine lv_iconst (v := (1 : Int32)) hx hb dL_holds_413 (by decide) ?_
                              refine lv_iconst (v := (2 : Int32)) hx hb dL_holds_414 (by decide) ?_
                              obtain ⟨r261, e262, hf⟩ := g_bdS hf
                              obtain ⟨fs263, he264⟩ := Rp.recv hR
                              refine g_contR (st1 := [.int r261]) (g_runVR (As := [.int x8, .int (1 : Int32), .int (2 : Int32)]) (rest := []) ⟨hx, hb, hml, hown, hts⟩ (A_shapeOf l G hR e262) (cwV 3 hts (TB_V TB_id tw_289 tw_290 tw_291 tw_5 tw_292) rfl rfl rfl (by decide +kernel) ⟨Nat.le_of_ble_eq_true rfl, Nat.le_of_ble_eq_true rfl⟩) hK hP 0 he264 rfl rfl hl.1 rfl (Nat.le_of_ble_eq_true rfl) dL_holds_415) rfl ?_
                              obtain ⟨v266, ev267, hf⟩ := g_bdS hf
                              have K268 : ∀ ls, lv_has ls 12 [(0, .ref x), (1, .int x1), (3, .int v150.1), (4, .int (x4 + r215)), (5, .int (x5 + v224)), (6, .int (x6 + v220)), (8, .int x8), (11, .int r215)] → gV p l e (headSpec wsL_holds rmL_holds).room s m args below meth c (some (.int u)) 426 ls [.int v266] := by
                                intro ls hl
                                refine lv_iload hx hb dL_holds_426 (lv_at hl 7 rfl) ?_
                                refine lv_iconst (v := (1 : Int32)) hx hb dL_holds_428 (by decide) ?_
                                obtain ⟨v270, ev271, hf⟩ := g_bdS hf
                                have K272 : ∀ ls, lv_has ls 12 [(0, .ref x), (1, .int x1), (3, .int v150.1), (4, .int (x4 + r215)), (5, .int (x5 + v224)), (6, .int (x6 + v220)), (8, .int x8)] → gV p l e (headSpec wsL_holds rmL_holds).room s m args below meth c (some (.int u)) 437 ls [.int v270, .int v266] := by
                                  intro ls hl
                                  refine lv_icmp_ne (tgt := 444) hx hb dL_holds_437 (by decide) (fun c273 => ?_) (fun c273 => ?_)
                                  · have hf := g_ifF c273 hf
                                    refine lv_iconst (v := (0 : Int32)) hx hb dL_holds_444 (by decide) ?_
                                    cases hf
                                    exact K235 ls (lv_sub hl [0, 1, 2, 3, 4, 5, 6] rfl)
                                  · have hf := g_ifT c273 hf
                                    refine lv_iconst (v := (1 : Int32)) hx hb dL_holds_440 (by decide) ?_
                                    refine lv_goto (tgt := 445) hx hb dL_holds_441 (by decide) ?_
                                    cases hf
                                    exact K235 ls (lv_sub hl [0, 1, 2, 3, 4, 5, 6] rfl)
                                replace hf := ev271
                                clear ev271
                                refine lv_icmp_ne (tgt := 436) hx hb dL_holds_429 (by decide) (fun c269 => ?_) (fun c269 => ?_)
                                · have hf := g_ifF c269 hf
                                  refine lv_iconst (v := (0 : Int32)) hx hb dL_holds_436 (by decide) ?_
                                  cases hf
                                  exact K272 ls (lv_sub hl [0, 1, 2, 3, 4, 5, 6] rfl)
                                · have hf := g_ifT c269 hf
                                  refine lv_iconst (v := (1 : Int32)) hx hb dL_holds_432 (by decide) ?_
                                  refine lv_goto (tgt := 437) hx hb dL_holds_433 (by decide) ?_
                                  cases hf
                                  exact K272 ls (lv_sub hl [0, 1, 2, 3, 4, 5, 6] rfl)
                              replace hf := ev267
                              clear ev267
                              refine lv_if_lt (tgt := 425) hx hb dL_holds_418 (by decide) (fun c265 => ?_) (fun c265 => ?_)
                              · have hf := g_ifT c265 hf
                                refine lv_iconst (v := (0 : Int32)) hx hb dL_holds_425 (by decide) ?_
                                cases hf
                                exact K268 ls (lv_sub hl [1, 2, 3, 4, 0, 5, 7, 9] rfl)
                              · have hf := g_ifF c265 hf
                                refine lv_iconst (v := (1 : Int32)) hx hb dL_holds_421 (by decide) ?_
                                refine lv_goto (tgt := 426) hx hb dL_holds_422 (by decide) ?_
                                cases hf
                                exact K268 ls (lv_sub hl [1, 2, 3, 4, 0, 5, 7, 9] rfl)
                    replace hf := ev225
                    clear ev225
                    refine lv_icmp_ne (tgt := 378) hx hb dL_holds_359 (by decide) (fun c223 => ?_) (fun c223 => ?_)
                    · have hf := g_ifF c223 hf
                      refine lv_iconst (v := (0 : Int32)) hx hb dL_holds_378 (by decide) ?_
                      cases hf
                      exact K226 ls (lv_sub hl [1, 2, 3, 4, 0, 6, 7, 8, 9] rfl)
                    · have hf := g_ifT c223 hf
                      refine lv_aload_n hx hb dL_holds_362 rfl (lv_at hl 1 rfl) ?_
                      refine lv_iload hx hb dL_holds_363 (lv_at hl 7 rfl) ?_
                      refine lv_iconst (v := (1 : Int32)) hx hb dL_holds_365 (by decide) ?_
                      refine lv_iconst (v := (3 : Int32)) hx hb dL_holds_366 (by decide) ?_
                      obtain ⟨r227, e228, hf⟩ := g_bdS hf
                      obtain ⟨fs229, he230⟩ := Rp.recv hR
                      refine g_contR (st1 := [.int r227, .int x5]) (g_runVR (As := [.int x8, .int (1 : Int32), .int (3 : Int32)]) (rest := [.int x5]) ⟨hx, hb, hml, hown, hts⟩ (A_shapeOf l G hR e228) (cwV 3 hts (TB_V TB_id tw_289 tw_290 tw_291 tw_5 tw_292) rfl rfl rfl (by decide +kernel) ⟨Nat.le_of_ble_eq_true rfl, Nat.le_of_ble_eq_true rfl⟩) hK hP 0 he230 rfl rfl hl.1 rfl (Nat.le_of_ble_eq_true rfl) dL_holds_367) rfl ?_
                      refine lv_iconst (v := (1 : Int32)) hx hb dL_holds_370 (by decide) ?_
                      refine lv_icmp_le (tgt := 378) hx hb dL_holds_371 (by decide) (fun c231 => ?_) (fun c231 => ?_)
                      · have hf := g_ifT c231 hf
                        refine lv_iconst (v := (0 : Int32)) hx hb dL_holds_378 (by decide) ?_
                        cases hf
                        exact K226 ls (lv_sub hl [1, 2, 3, 4, 0, 6, 7, 8, 9] rfl)
                      · have hf := g_ifF c231 hf
                        refine lv_iconst (v := (1 : Int32)) hx hb dL_holds_374 (by decide) ?_
                        refine lv_goto (tgt := 379) hx hb dL_holds_375 (by decide) ?_
                        cases hf
                        exact K226 ls (lv_sub hl [1, 2, 3, 4, 0, 6, 7, 8, 9] rfl)
                  replace hf := ev221
                  clear ev221
                  refine lv_if_le (tgt := 350) hx hb dL_holds_343 (by decide) (fun c219 => ?_) (fun c219 => ?_)
                  · have hf := g_ifT c219 hf
                    refine lv_iconst (v := (0 : Int32)) hx hb dL_holds_350 (by decide) ?_
                    cases hf
                    exact K222 ls (lv_sub hl [2, 3, 4, 0, 5, 7, 8, 9, 1] rfl)
                  · have hf := g_ifF c219 hf
                    refine lv_iconst (v := (1 : Int32)) hx hb dL_holds_346 (by decide) ?_
                    refine lv_goto (tgt := 351) hx hb dL_holds_347 (by decide) ?_
                    cases hf
                    exact K222 ls (lv_sub hl [2, 3, 4, 0, 5, 7, 8, 9, 1] rfl)
              replace hf := ev151
              clear ev151
              refine lv_if_lt (tgt := 317) hx hb dL_holds_217 (by decide) (fun c149 => ?_) (fun c149 => ?_)
              · have hf := g_ifT c149 hf
                cases hf
                exact K152 ls (lv_sub hl [1, 2, 3, 4, 5, 6, 0, 7, 9] rfl)
              · have hf := g_ifF c149 hf
                refine lv_aload_n hx hb dL_holds_220 rfl (lv_at hl 1 rfl) ?_
                refine lv_iload hx hb dL_holds_221 (lv_at hl 7 rfl) ?_
                refine lv_iconst (v := (0 : Int32)) hx hb dL_holds_223 (by decide) ?_
                refine lv_iconst (v := (1 : Int32)) hx hb dL_holds_224 (by decide) ?_
                obtain ⟨r153, e154, hf⟩ := g_bdS hf
                obtain ⟨fs155, he156⟩ := Rp.recv hR
                refine g_contR (st1 := [.int r153]) (g_runVR (As := [.int x8, .int (0 : Int32), .int (1 : Int32)]) (rest := []) ⟨hx, hb, hml, hown, hts⟩ (A_shapeOf l G hR e154) (cwV 3 hts (TB_V TB_id tw_289 tw_290 tw_291 tw_5 tw_292) rfl rfl rfl (by decide +kernel) ⟨Nat.le_of_ble_eq_true rfl, Nat.le_of_ble_eq_true rfl⟩) hK hP 0 he156 rfl rfl hl.1 rfl (Nat.le_of_ble_eq_true rfl) dL_holds_225) rfl ?_
                refine lv_istore (lv' := [(11, .int r153), (7, .int v127), (0, .ref x), (1, .int x1), (3, .int x3), (4, .int x4), (5, .int x5), (6, .int x6), (8, .int x8), (9, .int r110), (10, .int r114)]) hx hb dL_holds_228 hl (by decide) rfl (fun ls hl => ?_)
                refine lv_iload_n hx hb dL_holds_230 rfl (lv_at hl 4 rfl) ?_
                refine lv_iload hx hb dL_holds_231 (lv_at hl 0 rfl) ?_
                refine lv_iadd hx hb dL_holds_233 ?_
                refine lv_istore_n (lv' := [(3, .int (x3 + r153)), (11, .int r153), (7, .int v127), (0, .ref x), (1, .int x1), (4, .int x4), (5, .int x5), (6, .int x6), (8, .int x8), (9, .int r110), (10, .int r114)]) hx hb dL_holds_234 rfl hl (by decide) rfl (fun ls hl => ?_)
                refine lv_iload hx hb dL_holds_235 (lv_at hl 2 rfl) ?_
                obtain ⟨v158, ev159, hf⟩ := g_bdS hf
                have K160 : ∀ ls, lv_has ls 12 [(0, .ref x), (1, .int x1), (3, .int (x3 + r153)), (4, .int x4), (5, .int x5), (6, .int x6), (8, .int x8), (10, .int r114)] → gV p l e (headSpec wsL_holds rmL_holds).room s m args below meth c (some (.int u)) 315 ls [.int v158] := by
                  intro ls hl
                  refine lv_istore (lv' := [(7, .int v158), (0, .ref x), (1, .int x1), (3, .int (x3 + r153)), (4, .int x4), (5, .int x5), (6, .int x6), (8, .int x8), (10, .int r114)]) hx hb dL_holds_315 hl (by decide) rfl (fun ls hl => ?_)
                  cases hf
                  exact K152 ls (lv_sub hl [1, 2, 3, 4, 5, 6, 0, 7, 8] rfl)
                replace hf := ev159
                clear ev159
                refine lv_if_eq (tgt := 314) hx hb dL_holds_237 (by decide) (fun c157 => ?_) (fun c157 => ?_)
                · have hf := g_ifT c157 hf
                  refine lv_iconst (v := (0 : Int32)) hx hb dL_holds_314 (by decide) ?_
                  cases hf
                  exact K160 ls (lv_sub hl [3, 4, 0, 5, 6, 7, 8, 10] rfl)
                · have hf := g_ifF c157 hf
                  refine lv_iload hx hb dL_holds_240 (lv_at hl 1 rfl) ?_
                  refine lv_if_eq (tgt := 250) hx hb dL_holds_242 (by decide) (fun c161 => ?_) (fun c161 => ?_)
                  · have hf := g_ifT c161 hf
                    refine lv_aload_n hx hb dL_holds_250 rfl (lv_at hl 3 rfl) ?_
                    refine lv_iload hx hb dL_holds_251 (lv_at hl 8 rfl) ?_
                    refine lv_iconst (v := (0 : Int32)) hx hb dL_holds_253 (by decide) ?_
                    refine lv_iconst (v := (2 : Int32)) hx hb dL_holds_254 (by decide) ?_
                    obtain ⟨r162, e163, hf⟩ := g_bdS hf
                    obtain ⟨fs164, he165⟩ := Rp.recv hR
                    refine g_contR (st1 := [.int r162]) (g_runVR (As := [.int x8, .int (0 : Int32), .int (2 : Int32)]) (rest := []) ⟨hx, hb, hml, hown, hts⟩ (A_shapeOf l G hR e163) (cwV 3 hts (TB_V TB_id tw_289 tw_290 tw_291 tw_5 tw_292) rfl rfl rfl (by decide +kernel) ⟨Nat.le_of_ble_eq_true rfl, Nat.le_of_ble_eq_true rfl⟩) hK hP 0 he165 rfl rfl hl.1 rfl (Nat.le_of_ble_eq_true rfl) dL_holds_255) rfl ?_
                    obtain ⟨v167, ev168, hf⟩ := g_bdS hf
                    have K169 : ∀ ls, lv_has ls 12 [(0, .ref x), (1, .int x1), (3, .int (x3 + r153)), (4, .int x4), (5, .int x5), (6, .int x6), (8, .int x8), (10, .int r114), (11, .int r153)] → gV p l e (headSpec wsL_holds rmL_holds).room s m args below meth c (some (.int u)) 266 ls [.int v167] := by
                      intro ls hl
                      refine lv_iload hx hb dL_holds_266 (lv_at hl 8 rfl) ?_
                      refine lv_iconst (v := (1 : Int32)) hx hb dL_holds_268 (by decide) ?_
                      obtain ⟨v171, ev172, hf⟩ := g_bdS hf
                      have K173 : ∀ ls, lv_has ls 12 [(0, .ref x), (1, .int x1), (3, .int (x3 + r153)), (4, .int x4), (5, .int x5), (6, .int x6), (8, .int x8), (10, .int r114), (11, .int r153)] → gV p l e (headSpec wsL_holds rmL_holds).room s m args below meth c (some (.int u)) 277 ls [.int v171, .int v167] := by
                        intro ls hl
                        refine lv_icmp_ne (tgt := 314) hx hb dL_holds_277 (by decide) (fun c174 => ?_) (fun c174 => ?_)
                        · have hf := g_ifF c174 hf
                          refine lv_iconst (v := (0 : Int32)) hx hb dL_holds_314 (by decide) ?_
                          cases hf
                          exact K160 ls (lv_sub hl [0, 1, 2, 3, 4, 5, 6, 7] rfl)
                        · have hf := g_ifT c174 hf
                          refine lv_iload hx hb dL_holds_280 (lv_at hl 8 rfl) ?_
                          refine lv_if_eq (tgt := 310) hx hb dL_holds_282 (by decide) (fun c175 => ?_) (fun c175 => ?_)
                          · have hf := g_ifT c175 hf
                            refine lv_iconst (v := (1 : Int32)) hx hb dL_holds_310 (by decide) ?_
                            refine lv_goto (tgt := 315) hx hb dL_holds_311 (by decide) ?_
                            cases hf
                            exact K160 ls (lv_sub hl [0, 1, 2, 3, 4, 5, 6, 7] rfl)
                          · have hf := g_ifF c175 hf
                            refine lv_aload_n hx hb dL_holds_285 rfl (lv_at hl 0 rfl) ?_
                            refine lv_iload hx hb dL_holds_286 (lv_at hl 6 rfl) ?_
                            refine lv_iconst (v := (0 : Int32)) hx hb dL_holds_288 (by decide) ?_
                            refine lv_iconst (v := (3 : Int32)) hx hb dL_holds_289 (by decide) ?_
                            obtain ⟨r176, e177, hf⟩ := g_bdS hf
                            obtain ⟨fs178, he179⟩ := Rp.recv hR
                            refine g_contR (st1 := [.int r176]) (g_runVR (As := [.int x8, .int (0 : Int32), .int (3 : Int32)]) (rest := []) ⟨hx, hb, hml, hown, hts⟩ (A_shapeOf l G hR e177) (cwV 3 hts (TB_V TB_id tw_289 tw_290 tw_291 tw_5 tw_292) rfl rfl rfl (by decide +kernel) ⟨Nat.le_of_ble_eq_true rfl, Nat.le_of_ble_eq_true rfl⟩) hK hP 0 he179 rfl rfl hl.1 rfl (Nat.le_of_ble_eq_true rfl) dL_holds_290) rfl ?_
                            refine lv_bipush (v := (9 : Int32)) hx hb dL_holds_293 (by decide) ?_
                            refine lv_icmp_gt (tgt := 314) hx hb dL_holds_295 (by decide) (fun c180 => ?_) (fun c180 => ?_)
                            · have hf := g_ifT c180 hf
                              refine lv_iconst (v := (0 : Int32)) hx hb dL_holds_314 (by decide) ?_
                              cases hf
                              exact K160 ls (lv_sub hl [0, 1, 2, 3, 4, 5, 6, 7] rfl)
                            · have hf := g_ifF c180 hf
                              refine lv_aload_n hx hb dL_holds_298 rfl (lv_at hl 0 rfl) ?_
                              refine lv_iload hx hb dL_holds_299 (lv_at hl 6 rfl) ?_
                              refine lv_iconst (v := (0 : Int32)) hx hb dL_holds_301 (by decide) ?_
                              refine lv_iconst (v := (4 : Int32)) hx hb dL_holds_302 (by decide) ?_
                              obtain ⟨r181, e182, hf⟩ := g_bdS hf
                              obtain ⟨fs183, he184⟩ := Rp.recv hR
                              refine g_contR (st1 := [.int r181]) (g_runVR (As := [.int x8, .int (0 : Int32), .int (4 : Int32)]) (rest := []) ⟨hx, hb, hml, hown, hts⟩ (A_shapeOf l G hR e182) (cwV 3 hts (TB_V TB_id tw_289 tw_290 tw_291 tw_5 tw_292) rfl rfl rfl (by decide +kernel) ⟨Nat.le_of_ble_eq_true rfl, Nat.le_of_ble_eq_true rfl⟩) hK hP 0 he184 rfl rfl hl.1 rfl (Nat.le_of_ble_eq_true rfl) dL_holds_303) rfl ?_
                              refine lv_iconst (v := (1 : Int32)) hx hb dL_holds_306 (by decide) ?_
                              refine lv_icmp_gt (tgt := 314) hx hb dL_holds_307 (by decide) (fun c185 => ?_) (fun c185 => ?_)
                              · have hf := g_ifT c185 hf
                                refine lv_iconst (v := (0 : Int32)) hx hb dL_holds_314 (by decide) ?_
                                cases hf
                                exact K160 ls (lv_sub hl [0, 1, 2, 3, 4, 5, 6, 7] rfl)
                              · have hf := g_ifF c185 hf
                                refine lv_iconst (v := (1 : Int32)) hx hb dL_holds_310 (by decide) ?_
                                refine lv_goto (tgt := 315) hx hb dL_holds_311 (by decide) ?_
                                cases hf
                                exact K160 ls (lv_sub hl [0, 1, 2, 3, 4, 5, 6, 7] rfl)
                      replace hf := ev172
                      clear ev172
                      refine lv_icmp_ne (tgt := 276) hx hb dL_holds_269 (by decide) (fun c170 => ?_) (fun c170 => ?_)
                      · have hf := g_ifF c170 hf
                        refine lv_iconst (v := (0 : Int32)) hx hb dL_holds_276 (by decide) ?_
                        cases hf
                        exact K173 ls (lv_sub hl [0, 1, 2, 3, 4, 5, 6, 7, 8] rfl)
                      · have hf := g_ifT c170 hf
                        refine lv_iconst (v := (1 : Int32)) hx hb dL_holds_272 (by decide) ?_
                        refine lv_goto (tgt := 277) hx hb dL_holds_273 (by decide) ?_
                        cases hf
                        exact K173 ls (lv_sub hl [0, 1, 2, 3, 4, 5, 6, 7, 8] rfl)
                    replace hf := ev168
                    clear ev168
                    refine lv_if_lt (tgt := 265) hx hb dL_holds_258 (by decide) (fun c166 => ?_) (fun c166 => ?_)
                    · have hf := g_ifT c166 hf
                      refine lv_iconst (v := (0 : Int32)) hx hb dL_holds_265 (by decide) ?_
                      cases hf
                      exact K169 ls (lv_sub hl [3, 4, 0, 5, 6, 7, 8, 10, 1] rfl)
                    · have hf := g_ifF c166 hf
                      refine lv_iconst (v := (1 : Int32)) hx hb dL_holds_261 (by decide) ?_
                      refine lv_goto (tgt := 266) hx hb dL_holds_262 (by decide) ?_
                      cases hf
                      exact K169 ls (lv_sub hl [3, 4, 0, 5, 6, 7, 8, 10, 1] rfl)
                  · have hf := g_ifF c161 hf
                    refine lv_iload hx hb dL_holds_245 (lv_at hl 9 rfl) ?_
                    refine lv_if_le (tgt := 314) hx hb dL_holds_247 (by decide) (fun c186 => ?_) (fun c186 => ?_)
                    · have hf := g_ifT c186 hf
                      refine lv_iconst (v := (0 : Int32)) hx hb dL_holds_314 (by decide) ?_
                      cases hf
                      exact K160 ls (lv_sub hl [3, 4, 0, 5, 6, 7, 8, 10] rfl)
                    · have hf := g_ifF c186 hf
                      refine lv_aload_n hx hb dL_holds_250 rfl (lv_at hl 3 rfl) ?_
                      refine lv_iload hx hb dL_holds_251 (lv_at hl 8 rfl) ?_
                      refine lv_iconst (v := (0 : Int32)) hx hb dL_holds_253 (by decide) ?_
                      refine lv_iconst (v := (2 : Int32)) hx hb dL_holds_254 (by decide) ?_
                      obtain ⟨r187, e188, hf⟩ := g_bdS hf
                      obtain ⟨fs189, he190⟩ := Rp.recv hR
                      refine g_contR (st1 := [.int r187]) (g_runVR (As := [.int x8, .int (0 : Int32), .int (2 : Int32)]) (rest := []) ⟨hx, hb, hml, hown, hts⟩ (A_shapeOf l G hR e188) (cwV 3 hts (TB_V TB_id tw_289 tw_290 tw_291 tw_5 tw_292) rfl rfl rfl (by decide +kernel) ⟨Nat.le_of_ble_eq_true rfl, Nat.le_of_ble_eq_true rfl⟩) hK hP 0 he190 rfl rfl hl.1 rfl (Nat.le_of_ble_eq_true rfl) dL_holds_255) rfl ?_
                      obtain ⟨v192, ev193, hf⟩ := g_bdS hf
                      have K194 : ∀ ls, lv_has ls 12 [(0, .ref x), (1, .int x1), (3, .int (x3 + r153)), (4, .int x4), (5, .int x5), (6, .int x6), (8, .int x8), (10, .int r114), (11, .int r153)] → gV p l e (headSpec wsL_holds rmL_holds).room s m args below meth c (some (.int u)) 266 ls [.int v192] := by
                        intro ls hl
                        refine lv_iload hx hb dL_holds_266 (lv_at hl 8 rfl) ?_
                        refine lv_iconst (v := (1 : Int32)) hx hb dL_holds_268 (by decide) ?_
                        obtain ⟨v196, ev197, hf⟩ := g_bdS hf
                        have K198 : ∀ ls, lv_has ls 12 [(0, .ref x), (1, .int x1), (3, .int (x3 + r153)), (4, .int x4), (5, .int x5), (6, .int x6), (8, .int x8), (10, .int r114), (11, .int r153)] → gV p l e (headSpec wsL_holds rmL_holds).room s m args below meth c (some (.int u)) 277 ls [.int v196, .int v192] := by
                          intro ls hl
                          refine lv_icmp_ne (tgt := 314) hx hb dL_holds_277 (by decide) (fun c199 => ?_) (fun c199 => ?_)
                          · have hf := g_ifF c199 hf
                            refine lv_iconst (v := (0 : Int32)) hx hb dL_holds_314 (by decide) ?_
                            cases hf
                            exact K160 ls (lv_sub hl [0, 1, 2, 3, 4, 5, 6, 7] rfl)
                          · have hf := g_ifT c199 hf
                            refine lv_iload hx hb dL_holds_280 (lv_at hl 8 rfl) ?_
                            refine lv_if_eq (tgt := 310) hx hb dL_holds_282 (by decide) (fun c200 => ?_) (fun c200 => ?_)
                            · have hf := g_ifT c200 hf
                              refine lv_iconst (v := (1 : Int32)) hx hb dL_holds_310 (by decide) ?_
                              refine lv_goto (tgt := 315) hx hb dL_holds_311 (by decide) ?_
                              cases hf
                              exact K160 ls (lv_sub hl [0, 1, 2, 3, 4, 5, 6, 7] rfl)
                            · have hf := g_ifF c200 hf
                              refine lv_aload_n hx hb dL_holds_285 rfl (lv_at hl 0 rfl) ?_
                              refine lv_iload hx hb dL_holds_286 (lv_at hl 6 rfl) ?_
                              refine lv_iconst (v := (0 : Int32)) hx hb dL_holds_288 (by decide) ?_
                              refine lv_iconst (v := (3 : Int32)) hx hb dL_holds_289 (by decide) ?_
                              obtain ⟨r201, e202, hf⟩ := g_bdS hf
                              obtain ⟨fs203, he204⟩ := Rp.recv hR
                              refine g_contR (st1 := [.int r201]) (g_runVR (As := [.int x8, .int (0 : Int32), .int (3 : Int32)]) (rest := []) ⟨hx, hb, hml, hown, hts⟩ (A_shapeOf l G hR e202) (cwV 3 hts (TB_V TB_id tw_289 tw_290 tw_291 tw_5 tw_292) rfl rfl rfl (by decide +kernel) ⟨Nat.le_of_ble_eq_true rfl, Nat.le_of_ble_eq_true rfl⟩) hK hP 0 he204 rfl rfl hl.1 rfl (Nat.le_of_ble_eq_true rfl) dL_holds_290) rfl ?_
                              refine lv_bipush (v := (9 : Int32)) hx hb dL_holds_293 (by decide) ?_
                              refine lv_icmp_gt (tgt := 314) hx hb dL_holds_295 (by decide) (fun c205 => ?_) (fun c205 => ?_)
                              · have hf := g_ifT c205 hf
                                refine lv_iconst (v := (0 : Int32)) hx hb dL_holds_314 (by decide) ?_
                                cases hf
                                exact K160 ls (lv_sub hl [0, 1, 2, 3, 4, 5, 6, 7] rfl)
                              · have hf := g_ifF c205 hf
                                refine lv_aload_n hx hb dL_holds_298 rfl (lv_at hl 0 rfl) ?_
                                refine lv_iload hx hb dL_holds_299 (lv_at hl 6 rfl) ?_
                                refine lv_iconst (v := (0 : Int32)) hx hb dL_holds_301 (by decide) ?_
                                refine lv_iconst (v := (4 : Int32)) hx hb dL_holds_302 (by decide) ?_
                                obtain ⟨r206, e207, hf⟩ := g_bdS hf
                                obtain ⟨fs208, he209⟩ := Rp.recv hR
                                refine g_contR (st1 := [.int r206]) (g_runVR (As := [.int x8, .int (0 : Int32), .int (4 : Int32)]) (rest := []) ⟨hx, hb, hml, hown, hts⟩ (A_shapeOf l G hR e207) (cwV 3 hts (TB_V TB_id tw_289 tw_290 tw_291 tw_5 tw_292) rfl rfl rfl (by decide +kernel) ⟨Nat.le_of_ble_eq_true rfl, Nat.le_of_ble_eq_true rfl⟩) hK hP 0 he209 rfl rfl hl.1 rfl (Nat.le_of_ble_eq_true rfl) dL_holds_303) rfl ?_
                                refine lv_iconst (v := (1 : Int32)) hx hb dL_holds_306 (by decide) ?_
                                refine lv_icmp_gt (tgt := 314) hx hb dL_holds_307 (by decide) (fun c210 => ?_) (fun c210 => ?_)
                                · have hf := g_ifT c210 hf
                                  refine lv_iconst (v := (0 : Int32)) hx hb dL_holds_314 (by decide) ?_
                                  cases hf
                                  exact K160 ls (lv_sub hl [0, 1, 2, 3, 4, 5, 6, 7] rfl)
                                · have hf := g_ifF c210 hf
                                  refine lv_iconst (v := (1 : Int32)) hx hb dL_holds_310 (by decide) ?_
                                  refine lv_goto (tgt := 315) hx hb dL_holds_311 (by decide) ?_
                                  cases hf
                                  exact K160 ls (lv_sub hl [0, 1, 2, 3, 4, 5, 6, 7] rfl)
                        replace hf := ev197
                        clear ev197
                        refine lv_icmp_ne (tgt := 276) hx hb dL_holds_269 (by decide) (fun c195 => ?_) (fun c195 => ?_)
                        · have hf := g_ifF c195 hf
                          refine lv_iconst (v := (0 : Int32)) hx hb dL_holds_276 (by decide) ?_
                          cases hf
                          exact K198 ls (lv_sub hl [0, 1, 2, 3, 4, 5, 6, 7, 8] rfl)
                        · have hf := g_ifT c195 hf
                          refine lv_iconst (v := (1 : Int32)) hx hb dL_holds_272 (by decide) ?_
                          refine lv_goto (tgt := 277) hx hb dL_holds_273 (by decide) ?_
                          cases hf
                          exact K198 ls (lv_sub hl [0, 1, 2, 3, 4, 5, 6, 7, 8] rfl)
                      replace hf := ev193
                      clear ev193
                      refine lv_if_lt (tgt := 265) hx hb dL_holds_258 (by decide) (fun c191 => ?_) (fun c191 => ?_)
                      · have hf := g_ifT c191 hf
                        refine lv_iconst (v := (0 : Int32)) hx hb dL_holds_265 (by decide) ?_
                        cases hf
                        exact K194 ls (lv_sub hl [3, 4, 0, 5, 6, 7, 8, 10, 1] rfl)
                      · have hf := g_ifF c191 hf
                        refine lv_iconst (v := (1 : Int32)) hx hb dL_holds_261 (by decide) ?_
                        refine lv_goto (tgt := 266) hx hb dL_holds_262 (by decide) ?_
                        cases hf
                        exact K194 ls (lv_sub hl [3, 4, 0, 5, 6, 7, 8, 10, 1] rfl)
            replace hf := ev128
            clear ev128
            refine lv_icmp_ne (tgt := 212) hx hb dL_holds_163 (by decide) (fun c126 => ?_) (fun c126 => ?_)
            · have hf := g_ifF c126 hf
              refine lv_iconst (v := (0 : Int32)) hx hb dL_holds_212 (by decide) ?_
              cases hf
              exact K129 ls (lv_sub hl [0, 1, 2, 3, 4, 5, 6, 7, 8] rfl)
            · have hf := g_ifT c126 hf
              refine lv_iload hx hb dL_holds_166 (lv_at hl 8 rfl) ?_
              obtain ⟨v131, ev132, hf⟩ := g_bdS hf
              have K133 : ∀ ls, lv_has ls 12 [(0, .ref x), (1, .int x1), (3, .int x3), (4, .int x4), (5, .int x5), (6, .int x6), (8, .int x8), (9, .int r110), (10, .int r114)] → gV p l e (headSpec wsL_holds rmL_holds).room s m args below meth c (some (.int u)) 176 ls [.int v131] := by
                intro ls hl
                refine lv_iload_n hx hb dL_holds_176 rfl (lv_at hl 1 rfl) ?_
                obtain ⟨v135, ev136, hf⟩ := g_bdS hf
                have K137 : ∀ ls, lv_has ls 12 [(0, .ref x), (1, .int x1), (3, .int x3), (4, .int x4), (5, .int x5), (6, .int x6), (8, .int x8), (9, .int r110), (10, .int r114)] → gV p l e (headSpec wsL_holds rmL_holds).room s m args below meth c (some (.int u)) 185 ls [.int v135, .int v131] := by
                  intro ls hl
                  refine lv_icmp_ne (tgt := 212) hx hb dL_holds_185 (by decide) (fun c138 => ?_) (fun c138 => ?_)
                  · have hf := g_ifF c138 hf
                    refine lv_iconst (v := (0 : Int32)) hx hb dL_holds_212 (by decide) ?_
                    cases hf
                    exact K129 ls (lv_sub hl [0, 1, 2, 3, 4, 5, 6, 7, 8] rfl)
                  · have hf := g_ifT c138 hf
                    refine lv_iload hx hb dL_holds_188 (lv_at hl 7 rfl) ?_
                    refine lv_aload_n hx hb dL_holds_190 rfl (lv_at hl 0 rfl) ?_
                    refine lv_iconst (v := (1 : Int32)) hx hb dL_holds_191 (by decide) ?_
                    obtain ⟨r139, e140, hf⟩ := g_bdS hf
                    obtain ⟨fs141, he142⟩ := Rp.recv hR
                    refine g_contR (st1 := [.int r139, .int r110]) (g_runVR (As := [.int (1 : Int32)]) (rest := [.int r110]) ⟨hx, hb, hml, hown, hts⟩ (A_count l G hR e140) (cwV 1 hts (TB_V TB_id tw_238 tw_239 tw_240 tw_5 tw_241) rfl rfl rfl (by decide +kernel) ⟨Nat.le_of_ble_eq_true rfl, Nat.le_of_ble_eq_true rfl⟩) hK hP 0 he142 rfl rfl hl.1 rfl (Nat.le_of_ble_eq_true rfl) dL_holds_192) rfl ?_
                    refine lv_icmp_gt (tgt := 212) hx hb dL_holds_195 (by decide) (fun c143 => ?_) (fun c143 => ?_)
                    · have hf := g_ifT c143 hf
                      refine lv_iconst (v := (0 : Int32)) hx hb dL_holds_212 (by decide) ?_
                      cases hf
                      exact K129 ls (lv_sub hl [0, 1, 2, 3, 4, 5, 6, 7, 8] rfl)
                    · have hf := g_ifF c143 hf
                      refine lv_iload hx hb dL_holds_198 (lv_at hl 8 rfl) ?_
                      refine lv_aload_n hx hb dL_holds_200 rfl (lv_at hl 0 rfl) ?_
                      refine lv_iconst (v := (1 : Int32)) hx hb dL_holds_201 (by decide) ?_
                      obtain ⟨r144, e145, hf⟩ := g_bdS hf
                      obtain ⟨fs146, he147⟩ := Rp.recv hR
                      refine g_contR (st1 := [.int r144, .int r114]) (g_runVR (As := [.int (1 : Int32)]) (rest := [.int r114]) ⟨hx, hb, hml, hown, hts⟩ (A_count l G hR e145) (cwV 1 hts (TB_V TB_id tw_238 tw_239 tw_240 tw_5 tw_241) rfl rfl rfl (by decide +kernel) ⟨Nat.le_of_ble_eq_true rfl, Nat.le_of_ble_eq_true rfl⟩) hK hP 0 he147 rfl rfl hl.1 rfl (Nat.le_of_ble_eq_true rfl) dL_holds_202) rfl ?_
                      refine lv_icmp_gt (tgt := 212) hx hb dL_holds_205 (by decide) (fun c148 => ?_) (fun c148 => ?_)
                      · have hf := g_ifT c148 hf
                        refine lv_iconst (v := (0 : Int32)) hx hb dL_holds_212 (by decide) ?_
                        cases hf
                        exact K129 ls (lv_sub hl [0, 1, 2, 3, 4, 5, 6, 7, 8] rfl)
                      · have hf := g_ifF c148 hf
                        refine lv_iconst (v := (1 : Int32)) hx hb dL_holds_208 (by decide) ?_
                        refine lv_goto (tgt := 213) hx hb dL_holds_209 (by decide) ?_
                        cases hf
                        exact K129 ls (lv_sub hl [0, 1, 2, 3, 4, 5, 6, 7, 8] rfl)
                replace hf := ev136
                clear ev136
                refine lv_if_le (tgt := 184) hx hb dL_holds_177 (by decide) (fun c134 => ?_) (fun c134 => ?_)
                · have hf := g_ifT c134 hf
                  refine lv_iconst (v := (0 : Int32)) hx hb dL_holds_184 (by decide) ?_
                  cases hf
                  exact K137 ls (lv_sub hl [0, 1, 2, 3, 4, 5, 6, 7, 8] rfl)
                · have hf := g_ifF c134 hf
                  refine lv_iconst (v := (1 : Int32)) hx hb dL_holds_180 (by decide) ?_
                  refine lv_goto (tgt := 185) hx hb dL_holds_181 (by decide) ?_
                  cases hf
                  exact K137 ls (lv_sub hl [0, 1, 2, 3, 4, 5, 6, 7, 8] rfl)
              replace hf := ev132
              clear ev132
              refine lv_if_lt (tgt := 175) hx hb dL_holds_168 (by decide) (fun c130 => ?_) (fun c130 => ?_)
              · have hf := g_ifT c130 hf
                refine lv_iconst (v := (0 : Int32)) hx hb dL_holds_175 (by decide) ?_
                cases hf
                exact K133 ls (lv_sub hl [0, 1, 2, 3, 4, 5, 6, 7, 8] rfl)
              · have hf := g_ifF c130 hf
                refine lv_iconst (v := (1 : Int32)) hx hb dL_holds_171 (by decide) ?_
                refine lv_goto (tgt := 176) hx hb dL_holds_172 (by decide) ?_
                cases hf
                exact K133 ls (lv_sub hl [0, 1, 2, 3, 4, 5, 6, 7, 8] rfl)
          replace hf := ev124
          clear ev124
          refine lv_icmp_ge (tgt := 162) hx hb dL_holds_155 (by decide) (fun c122 => ?_) (fun c122 => ?_)
          · have hf := g_ifT c122 hf
            refine lv_iconst (v := (0 : Int32)) hx hb dL_holds_162 (by decide) ?_
            cases hf
            exact K125 ls (lv_sub hl [0, 1, 2, 3, 4, 5, 6, 7, 8] rfl)
          · have hf := g_ifF c122 hf
            refine lv_iconst (v := (1 : Int32)) hx hb dL_holds_158 (by decide) ?_
            refine lv_goto (tgt := 163) hx hb dL_holds_159 (by decide) ?_
            cases hf
            exact K125 ls (lv_sub hl [0, 1, 2, 3, 4, 5, 6, 7, 8] rfl)
        replace hf := ev120
        clear ev120
        refine lv_if_lt (tgt := 152) hx hb dL_holds_145 (by decide) (fun c118 => ?_) (fun c118 => ?_)
        · have hf := g_ifT c118 hf
          refine lv_iconst (v := (0 : Int32)) hx hb dL_holds_152 (by decide) ?_
          cases hf
          exact K121 ls (lv_sub hl [2, 3, 4, 5, 6, 7, 9, 1, 0] rfl)
        · have hf := g_ifF c118 hf
          refine lv_iconst (v := (1 : Int32)) hx hb dL_holds_148 (by decide) ?_
          refine lv_goto (tgt := 153) hx hb dL_holds_149 (by decide) ?_
          cases hf
          exact K121 ls (lv_sub hl [2, 3, 4, 5, 6, 7, 9, 1, 0] rfl)
def fL_holds (S : zS) : Option (Int32) := ((K_count (0 : Int32) S).bind fun r1 => ((if r1 = (1 : Int32) then some ((1 : Int32)) else (if r1 = (2 : Int32) then some ((1 : Int32)) else some ((0 : Int32))) : Option (Int32)).bind fun v6 => ((K_count (2 : Int32) S).bind fun r10 => ((if r10 < (0 : Int32) then some ((0 : Int32)) else some ((1 : Int32)) : Option (Int32)).bind fun v15 => ((if r1 = (1 : Int32) then some ((1 : Int32)) else some ((0 : Int32)) : Option (Int32)).bind fun v19 => ((if v15 = v19 then ((K_count (3 : Int32) S).bind fun r26 => (if r26 < (0 : Int32) then some ((0 : Int32)) else ((K_count (3 : Int32) S).bind fun r31 => ((if v6 = (0 : Int32) then some ((0 : Int32)) else some ((8 : Int32)) : Option (Int32)).bind fun v36 => (if v36 < r31 then some ((0 : Int32)) else ((K_check S).bind fun r40 => ((if r40 < (0 : Int32) then some ((0 : Int32)) else some ((1 : Int32)) : Option (Int32)).bind fun v45 => (if v45 = v6 then some ((1 : Int32)) else some ((0 : Int32)))))))))) else some ((0 : Int32)) : Option (Int32)).bind fun v23 => fL_holds_b111 2000 r1 (0 : Int32) (0 : Int32) (0 : Int32) (0 : Int32) v23 (0 : Int32) S))))))
set_option maxHeartbeats 4000000 in
set_option maxRecDepth 100000 in
theorem qL_holds (l : Launch) (G : gT) {x hi h0 h1 h2 : Nat} {S : zS} {w0 : va_W} {u : Int32} (hR : Rp G x hi h0 h1 h2 S w0) (hf : fL_holds S = some u) : gR l G yL_holds wsL_holds rmL_holds [.ref x] w0 (some (.int u)) := by
  refine gR.of (cc := cL_holds) (maxL := 12) (ret := (some .boolean)) (by decide) rfl (Nat.le_of_ble_eq_true rfl) ?_
  intro p e s m below meth c C0 hP ls hl
  generalize hav : ([.ref x] : List Value).toArray = args at C0 ⊢
  obtain ⟨hx, hb, hr, hts, hown, hlocks, hml, hK⟩ := id C0
  have hl : lv_has ls 12 [(0, .ref x)] := hl
  unfold fL_holds at hf
  refine lv_aload_n hx hb dL_holds_0 rfl (lv_at hl 0 rfl) ?_
  refine lv_iconst (v := (0 : Int32)) hx hb dL_holds_1 (by decide) ?_
  obtain ⟨r1, e2, hf⟩ := g_bdS hf
  obtain ⟨fs3, he4⟩ := Rp.recv hR
  refine g_contR (st1 := [.int r1]) (g_runVR (As := [.int (0 : Int32)]) (rest := []) ⟨hx, hb, hml, hown, hts⟩ (A_count l G hR e2) (cwV 1 hts (TB_V TB_id tw_238 tw_239 tw_240 tw_5 tw_241) rfl rfl rfl (by decide +kernel) ⟨Nat.le_of_ble_eq_true rfl, Nat.le_of_ble_eq_true rfl⟩) hK hP 0 he4 rfl rfl hl.1 rfl (Nat.le_of_ble_eq_true rfl) dL_holds_2) rfl ?_
  refine lv_istore_n (lv' := [(1, .int r1), (0, .ref x)]) hx hb dL_holds_5 rfl hl (by decide) rfl (fun ls hl => ?_)
  refine lv_iload_n hx hb dL_holds_6 rfl (lv_at hl 0 rfl) ?_
  refine lv_iconst (v := (1 : Int32)) hx hb dL_holds_7 (by decide) ?_
  obtain ⟨v6, ev7, hf⟩ := g_bdS hf
  have K8 : ∀ ls, lv_has ls 12 [(0, .ref x), (1, .int r1)] → gV p l e (headSpec wsL_holds rmL_holds).room s m args below meth c (some (.int u)) 21 ls [.int v6] := by
    intro ls hl
    refine lv_istore_n (lv' := [(2, .int v6), (0, .ref x), (1, .int r1)]) hx hb dL_holds_21 rfl hl (by decide) rfl (fun ls hl => ?_)
    refine lv_iconst (v := (0 : Int32)) hx hb dL_holds_22 (by decide) ?_
    refine lv_istore_n (lv' := [(3, .int (0 : Int32)), (2, .int v6), (0, .ref x), (1, .int r1)]) hx hb dL_holds_23 rfl hl (by decide) rfl (fun ls hl => ?_)
    refine lv_iconst (v := (0 : Int32)) hx hb dL_holds_24 (by decide) ?_
    refine lv_istore (lv' := [(4, .int (0 : Int32)), (3, .int (0 : Int32)), (2, .int v6), (0, .ref x), (1, .int r1)]) hx hb dL_holds_25 hl (by decide) rfl (fun ls hl => ?_)
    refine lv_iconst (v := (0 : Int32)) hx hb dL_holds_27 (by decide) ?_
    refine lv_istore (lv' := [(5, .int (0 : Int32)), (4, .int (0 : Int32)), (3, .int (0 : Int32)), (2, .int v6), (0, .ref x), (1, .int r1)]) hx hb dL_holds_28 hl (by decide) rfl (fun ls hl => ?_)
    refine lv_iconst (v := (0 : Int32)) hx hb dL_holds_30 (by decide) ?_
    refine lv_istore (lv' := [(6, .int (0 : Int32)), (5, .int (0 : Int32)), (4, .int (0 : Int32)), (3, .int (0 : Int32)), (2, .int v6), (0, .ref x), (1, .int r1)]) hx hb dL_holds_31 hl (by decide) rfl (fun ls hl => ?_)
    refine lv_aload_n hx hb dL_holds_33 rfl (lv_at hl 5 rfl) ?_
    refine lv_iconst (v := (2 : Int32)) hx hb dL_holds_34 (by decide) ?_
    obtain ⟨r10, e11, hf⟩ := g_bdS hf
    obtain ⟨fs12, he13⟩ := Rp.recv hR
    refine g_contR (st1 := [.int r10]) (g_runVR (As := [.int (2 : Int32)]) (rest := []) ⟨hx, hb, hml, hown, hts⟩ (A_count l G hR e11) (cwV 1 hts (TB_V TB_id tw_238 tw_239 tw_240 tw_5 tw_241) rfl rfl rfl (by decide +kernel) ⟨Nat.le_of_ble_eq_true rfl, Nat.le_of_ble_eq_true rfl⟩) hK hP 0 he13 rfl rfl hl.1 rfl (Nat.le_of_ble_eq_true rfl) dL_holds_35) rfl ?_
    obtain ⟨v15, ev16, hf⟩ := g_bdS hf
    have K17 : ∀ ls, lv_has ls 12 [(0, .ref x), (1, .int r1), (2, .int v6), (3, .int (0 : Int32)), (4, .int (0 : Int32)), (5, .int (0 : Int32)), (6, .int (0 : Int32))] → gV p l e (headSpec wsL_holds rmL_holds).room s m args below meth c (some (.int u)) 46 ls [.int v15] := by
      intro ls hl
      refine lv_iload_n hx hb dL_holds_46 rfl (lv_at hl 1 rfl) ?_
      refine lv_iconst (v := (1 : Int32)) hx hb dL_holds_47 (by decide) ?_
      obtain ⟨v19, ev20, hf⟩ := g_bdS hf
      have K21 : ∀ ls, lv_has ls 12 [(0, .ref x), (1, .int r1), (2, .int v6), (3, .int (0 : Int32)), (4, .int (0 : Int32)), (5, .int (0 : Int32)), (6, .int (0 : Int32))] → gV p l e (headSpec wsL_holds rmL_holds).room s m args below meth c (some (.int u)) 56 ls [.int v19, .int v15] := by
        intro ls hl
        obtain ⟨v23, ev24, hf⟩ := g_bdS hf
        have K25 : ∀ ls, lv_has ls 12 [(0, .ref x), (1, .int r1), (3, .int (0 : Int32)), (4, .int (0 : Int32)), (5, .int (0 : Int32)), (6, .int (0 : Int32))] → gV p l e (headSpec wsL_holds rmL_holds).room s m args below meth c (some (.int u)) 106 ls [.int v23] := by
          intro ls hl
          refine lv_istore (lv' := [(7, .int v23), (0, .ref x), (1, .int r1), (3, .int (0 : Int32)), (4, .int (0 : Int32)), (5, .int (0 : Int32)), (6, .int (0 : Int32))]) hx hb dL_holds_106 hl (by decide) rfl (fun ls hl => ?_)
          refine lv_iconst (v := (0 : Int32)) hx hb dL_holds_108 (by decide) ?_
          refine lv_istore (lv' := [(8, .int (0 : Int32)), (7, .int v23), (0, .ref x), (1, .int r1), (3, .int (0 : Int32)), (4, .int (0 : Int32)), (5, .int (0 : Int32)), (6, .int (0 : Int32))]) hx hb dL_holds_109 hl (by decide) rfl (fun ls hl => ?_)
          exact kL_holds_b111 C0 2000 _ _ _ _ _ _ _ _ _ hf _ hR hP ls (lv_sub hl [2, 3, 4, 5, 6, 7, 1, 0] rfl)
        replace hf := ev24
        clear ev24
        refine lv_icmp_ne (tgt := 105) hx hb dL_holds_56 (by decide) (fun c22 => ?_) (fun c22 => ?_)
        · have hf := g_ifF c22 hf
          refine lv_iconst (v := (0 : Int32)) hx hb dL_holds_105 (by decide) ?_
          cases hf
          exact K25 ls (lv_sub hl [0, 1, 3, 4, 5, 6] rfl)
        · have hf := g_ifT c22 hf
          refine lv_aload_n hx hb dL_holds_59 rfl (lv_at hl 0 rfl) ?_
          refine lv_iconst (v := (3 : Int32)) hx hb dL_holds_60 (by decide) ?_
          obtain ⟨r26, e27, hf⟩ := g_bdS hf
          obtain ⟨fs28, he29⟩ := Rp.recv hR
          refine g_contR (st1 := [.int r26]) (g_runVR (As := [.int (3 : Int32)]) (rest := []) ⟨hx, hb, hml, hown, hts⟩ (A_count l G hR e27) (cwV 1 hts (TB_V TB_id tw_238 tw_239 tw_240 tw_5 tw_241) rfl rfl rfl (by decide +kernel) ⟨Nat.le_of_ble_eq_true rfl, Nat.le_of_ble_eq_true rfl⟩) hK hP 0 he29 rfl rfl hl.1 rfl (Nat.le_of_ble_eq_true rfl) dL_holds_61) rfl ?_
          refine lv_if_lt (tgt := 105) hx hb dL_holds_64 (by decide) (fun c30 => ?_) (fun c30 => ?_)
          · have hf := g_ifT c30 hf
            refine lv_iconst (v := (0 : Int32)) hx hb dL_holds_105 (by decide) ?_
            cases hf
            exact K25 ls (lv_sub hl [0, 1, 3, 4, 5, 6] rfl)
          · have hf := g_ifF c30 hf
            refine lv_aload_n hx hb dL_holds_67 rfl (lv_at hl 0 rfl) ?_
            refine lv_iconst (v := (3 : Int32)) hx hb dL_holds_68 (by decide) ?_
            obtain ⟨r31, e32, hf⟩ := g_bdS hf
            obtain ⟨fs33, he34⟩ := Rp.recv hR
            refine g_contR (st1 := [.int r31]) (g_runVR (As := [.int (3 : Int32)]) (rest := []) ⟨hx, hb, hml, hown, hts⟩ (A_count l G hR e32) (cwV 1 hts (TB_V TB_id tw_238 tw_239 tw_240 tw_5 tw_241) rfl rfl rfl (by decide +kernel) ⟨Nat.le_of_ble_eq_true rfl, Nat.le_of_ble_eq_true rfl⟩) hK hP 0 he34 rfl rfl hl.1 rfl (Nat.le_of_ble_eq_true rfl) dL_holds_69) rfl ?_
            refine lv_iload_n hx hb dL_holds_72 rfl (lv_at hl 2 rfl) ?_
            obtain ⟨v36, ev37, hf⟩ := g_bdS hf
            have K38 : ∀ ls, lv_has ls 12 [(0, .ref x), (1, .int r1), (2, .int v6), (3, .int (0 : Int32)), (4, .int (0 : Int32)), (5, .int (0 : Int32)), (6, .int (0 : Int32))] → gV p l e (headSpec wsL_holds rmL_holds).room s m args below meth c (some (.int u)) 82 ls [.int v36, .int r31] := by
              intro ls hl
              refine lv_icmp_gt (tgt := 105) hx hb dL_holds_82 (by decide) (fun c39 => ?_) (fun c39 => ?_)
              · have hf := g_ifT c39 hf
                refine lv_iconst (v := (0 : Int32)) hx hb dL_holds_105 (by decide) ?_
                cases hf
                exact K25 ls (lv_sub hl [0, 1, 3, 4, 5, 6] rfl)
              · have hf := g_ifF c39 hf
                refine lv_aload_n hx hb dL_holds_85 rfl (lv_at hl 0 rfl) ?_
                obtain ⟨r40, e41, hf⟩ := g_bdS hf
                obtain ⟨fs42, he43⟩ := Rp.recv hR
                refine g_contR (st1 := [.int r40]) (g_runVR (As := []) (rest := []) ⟨hx, hb, hml, hown, hts⟩ (A_check l G hR e41) (cwV 0 hts (TB_V TB_id tw_280 tw_281 tw_282 tw_5 tw_283) rfl rfl rfl (by decide +kernel) ⟨Nat.le_of_ble_eq_true rfl, Nat.le_of_ble_eq_true rfl⟩) hK hP 0 he43 rfl rfl hl.1 rfl (Nat.le_of_ble_eq_true rfl) dL_holds_86) rfl ?_
                obtain ⟨v45, ev46, hf⟩ := g_bdS hf
                have K47 : ∀ ls, lv_has ls 12 [(0, .ref x), (1, .int r1), (2, .int v6), (3, .int (0 : Int32)), (4, .int (0 : Int32)), (5, .int (0 : Int32)), (6, .int (0 : Int32))] → gV p l e (headSpec wsL_holds rmL_holds).room s m args below meth c (some (.int u)) 97 ls [.int v45] := by
                  intro ls hl
                  refine lv_iload_n hx hb dL_holds_97 rfl (lv_at hl 2 rfl) ?_
                  refine lv_icmp_ne (tgt := 105) hx hb dL_holds_98 (by decide) (fun c48 => ?_) (fun c48 => ?_)
                  · have hf := g_ifF c48 hf
                    refine lv_iconst (v := (0 : Int32)) hx hb dL_holds_105 (by decide) ?_
                    cases hf
                    exact K25 ls (lv_sub hl [0, 1, 3, 4, 5, 6] rfl)
                  · have hf := g_ifT c48 hf
                    refine lv_iconst (v := (1 : Int32)) hx hb dL_holds_101 (by decide) ?_
                    refine lv_goto (tgt := 106) hx hb dL_holds_102 (by decide) ?_
                    cases hf
                    exact K25 ls (lv_sub hl [0, 1, 3, 4, 5, 6] rfl)
                replace hf := ev46
                clear ev46
                refine lv_if_lt (tgt := 96) hx hb dL_holds_89 (by decide) (fun c44 => ?_) (fun c44 => ?_)
                · have hf := g_ifT c44 hf
                  refine lv_iconst (v := (0 : Int32)) hx hb dL_holds_96 (by decide) ?_
                  cases hf
                  exact K47 ls (lv_sub hl [0, 1, 2, 3, 4, 5, 6] rfl)
                · have hf := g_ifF c44 hf
                  refine lv_iconst (v := (1 : Int32)) hx hb dL_holds_92 (by decide) ?_
                  refine lv_goto (tgt := 97) hx hb dL_holds_93 (by decide) ?_
                  cases hf
                  exact K47 ls (lv_sub hl [0, 1, 2, 3, 4, 5, 6] rfl)
            replace hf := ev37
            clear ev37
            refine lv_if_eq (tgt := 81) hx hb dL_holds_73 (by decide) (fun c35 => ?_) (fun c35 => ?_)
            · have hf := g_ifT c35 hf
              refine lv_iconst (v := (0 : Int32)) hx hb dL_holds_81 (by decide) ?_
              cases hf
              exact K38 ls (lv_sub hl [0, 1, 2, 3, 4, 5, 6] rfl)
            · have hf := g_ifF c35 hf
              refine lv_bipush (v := (8 : Int32)) hx hb dL_holds_76 (by decide) ?_
              refine lv_goto (tgt := 82) hx hb dL_holds_78 (by decide) ?_
              cases hf
              exact K38 ls (lv_sub hl [0, 1, 2, 3, 4, 5, 6] rfl)
      replace hf := ev20
      clear ev20
      refine lv_icmp_ne (tgt := 55) hx hb dL_holds_48 (by decide) (fun c18 => ?_) (fun c18 => ?_)
      · have hf := g_ifF c18 hf
        refine lv_iconst (v := (0 : Int32)) hx hb dL_holds_55 (by decide) ?_
        cases hf
        exact K21 ls (lv_sub hl [0, 1, 2, 3, 4, 5, 6] rfl)
      · have hf := g_ifT c18 hf
        refine lv_iconst (v := (1 : Int32)) hx hb dL_holds_51 (by decide) ?_
        refine lv_goto (tgt := 56) hx hb dL_holds_52 (by decide) ?_
        cases hf
        exact K21 ls (lv_sub hl [0, 1, 2, 3, 4, 5, 6] rfl)
    replace hf := ev16
    clear ev16
    refine lv_if_lt (tgt := 45) hx hb dL_holds_38 (by decide) (fun c14 => ?_) (fun c14 => ?_)
    · have hf := g_ifT c14 hf
      refine lv_iconst (v := (0 : Int32)) hx hb dL_holds_45 (by decide) ?_
      cases hf
      exact K17 ls (lv_sub hl [5, 6, 4, 3, 2, 1, 0] rfl)
    · have hf := g_ifF c14 hf
      refine lv_iconst (v := (1 : Int32)) hx hb dL_holds_41 (by decide) ?_
      refine lv_goto (tgt := 46) hx hb dL_holds_42 (by decide) ?_
      cases hf
      exact K17 ls (lv_sub hl [5, 6, 4, 3, 2, 1, 0] rfl)
  replace hf := ev7
  clear ev7
  refine lv_icmp_eq (tgt := 16) hx hb dL_holds_8 (by decide) (fun c5 => ?_) (fun c5 => ?_)
  · have hf := g_ifT c5 hf
    refine lv_iconst (v := (1 : Int32)) hx hb dL_holds_16 (by decide) ?_
    refine lv_goto (tgt := 21) hx hb dL_holds_17 (by decide) ?_
    cases hf
    exact K8 ls (lv_sub hl [1, 0] rfl)
  · have hf := g_ifF c5 hf
    refine lv_iload_n hx hb dL_holds_11 rfl (lv_at hl 0 rfl) ?_
    refine lv_iconst (v := (2 : Int32)) hx hb dL_holds_12 (by decide) ?_
    refine lv_icmp_ne (tgt := 20) hx hb dL_holds_13 (by decide) (fun c9 => ?_) (fun c9 => ?_)
    · have hf := g_ifF c9 hf
      refine lv_iconst (v := (0 : Int32)) hx hb dL_holds_20 (by decide) ?_
      cases hf
      exact K8 ls (lv_sub hl [1, 0] rfl)
    · have hf := g_ifT c9 hf
      refine lv_iconst (v := (1 : Int32)) hx hb dL_holds_16 (by decide) ?_
      refine lv_goto (tgt := 21) hx hb dL_holds_17 (by decide) ?_
      cases hf
      exact K8 ls (lv_sub hl [1, 0] rfl)
