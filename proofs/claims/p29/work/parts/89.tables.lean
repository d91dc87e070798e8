/-! the law: its tables at the start; cell -/
set_option maxRecDepth 100000 in
theorem law_gK {s : State} {b : Addr} (hts : ∀ w ∈ lw_tbl, w.before #[Value.ref b] s = true) : ∃ G : gT, gK G s := by
  have hT : ∀ w ∈ TB, w.before #[Value.ref b] s = true := fun w h => hts w (TB_in w h)
  obtain ⟨c0, i0, K0⟩ := u_known (C := RX0) (T := TX0) (N := 7) (n := 7) hT hX0 (hT _ tw_121)
  obtain ⟨c1, i1, K1⟩ := u_known (C := RX1) (T := TX1) (N := 4) (n := 4) hT hX1 (hT _ tw_55)
  obtain ⟨c2, i2, K2⟩ := u_known (C := RX3) (T := TX3) (N := 3) (n := 3) hT hX3 (hT _ tw_30)
  obtain ⟨c3, i3, K3⟩ := u_known (C := RX4) (T := TX4) (N := 11) (n := 11) hT hX4 (hT _ tw_24)
  obtain ⟨c4, i4, K4⟩ := u_known (C := RX5) (T := TX5) (N := 5) (n := 5) hT hX5 (hT _ tw_15)
  obtain ⟨aI, kI, pI, f1, f2, f3⟩ := Cond.arrayClass_spec (hT _ tw_53)
  obtain ⟨pT, aT, kT, e1, -, e2, e3, e4⟩ := Cond.arrayOver_spec (n := "TwoShapes$Table") (hts (.arrayOver (.object "TwoShapes$Table")) (List.mem_of_getElem? (i := 23) (by decide +kernel)))
  refine ⟨((fun k => match k with | 0 => c0 | 1 => c1 | 2 => c2 | 3 => c3 | _ => c4, fun k => match k with | 0 => i0 | 1 => i1 | 2 => i2 | 3 => i3 | _ => i4), aI, aI, aT), ⟨?_, ?_⟩, ?_⟩
  · intro k q hq
    match k, hq with
    | 0, hq => cases hq; exact K0
    | 1, hq => cases hq; exact K1
    | 2, hq => cases hq; exact K2
    | 3, hq => cases hq; exact K3
    | 4, hq => cases hq; exact K4
    | k + 5, hq => simp [vwCl] at hq
  · intro k q hq
    match k, hq with
    | 0, hq => cases hq; exact ⟨fun n z => ⟨(fun k h => by cases h), kI, f2, pI, f3⟩, f1⟩
    | 1, hq => cases hq; exact ⟨fun n z => ⟨(fun k h => by cases h), kI, f2, pI, f3⟩, f1⟩
    | 2, hq => cases hq; exact ⟨fun n z => ⟨(fun k h => by cases h), kT, e2, pT, e3⟩, ⟨kT, pT, e2, e3, e1, e4⟩⟩
    | k + 3, hq => simp at hq
  · exact ⟨va_Nw.of rfl (hts g_n1 (List.mem_of_getElem? (i := 189) (by decide +kernel))), va_Nw.of rfl (hts g_n2 (List.mem_of_getElem? (i := 189) (by decide +kernel))), va_Nw.of rfl (hts g_n3 (List.mem_of_getElem? (i := 25) (by decide +kernel))), va_Nw.of rfl (hts g_n4 (List.mem_of_getElem? (i := 122) (by decide +kernel))), va_Nw.of rfl (hts g_n5 (List.mem_of_getElem? (i := 56) (by decide +kernel)))⟩
theorem law_AO {s : State} {b : Addr} (hts : ∀ w ∈ lw_tbl, w.before #[Value.ref b] s = true) : va_AO "TwoShapes$Table" s := va_AO.of (hts (.arrayOver (.object "TwoShapes$Table")) (List.mem_of_getElem? (i := 23) (by decide +kernel)))
abbrev lA (s : State) : Nat → Prop := fun q : Nat => s.heap.size ≤ q
/-- a reading method's contract from any word on its start -/
theorem gB.of {l : Launch} {y : MethodName} {ws : List Cond} {rm : Room} {av : List Value} {Bp : State → Prop} {v : Option Value} {cc : ByteArray} {maxL : Nat} {ret : Option FieldType}
    (hy : plainName y.cls = true) (hw : ws = Cond.code y cc maxL ret :: TB) (hn : (lg_sl av).length ≤ maxL)
    (body : ∀ (p : Program) (e : Env) (s : State) (m : MethodId) (below : List Frame) (meth : Method) (c : Code), (p.tables.exec = Jvm.exec ∧ c.code = cc ∧ meth.sig.returnType = ret ∧ (∀ w ∈ TB, w.before av.toArray s = true) ∧ s.vm.findClass y.cls = some m.cls ∧ meth.locks = false ∧ c.maxLocals = maxL) → Bp s →
      ∀ ls, lv_has ls maxL (lv_args 0 av) → gV p l e (headSpec ws rm).room s m av.toArray below meth c v 0 ls []) : Met l y ws rm (va_Pc av Bp) (g_postR v) 0 0 (fun _ => False) := by
  refine Met.ofW (cc := cc) (maxL := maxL) (ret := ret) hy hw ?_
  intro p e s m args below meth c s₁ B hml hv
  obtain ⟨rfl, hB⟩ := hv
  rw [lg_entry_eq]
  exact body p e s m below meth c ⟨B.exec, B.bytes, B.returns, fun w h => atoms_spec (ws := ws) B.pre w (by rw [hw]; exact List.mem_cons_of_mem _ h), findClass_of_methodNamed B.named, B.notSynchronized, hml⟩ hB _ (lv_entry av hn)
def wsL_cell : List Cond := .code yL_cell cL_cell 2 (some .int) :: TB
abbrev rmL_cell : Room := { frames := 0, cells := 0, slots := 0, locals := 0 }
def cellv (L : Nat) (xs : Nat → Int32) (k : Nat) : Int32 := (if k < L then xs k else (22695477 : Int32) * (nI k + (41 : Int32))) &&& (2147483647 : Int32)
theorem zI_ofN (a : Int32) : a = nI a.toBitVec.toNat := Int32.toBitVec_inj.1 (show a.toBitVec = BitVec.ofNat 32 a.toBitVec.toNat by simp)
theorem cellv_nI (L : Nat) (xs : Nat → Int32) (k : Nat) : ∃ y, y < 2 ^ 31 ∧ cellv L xs k = nI y := by
  have e : (2147483647 : Int32) = nI (2 ^ 31 - 1) := by decide
  unfold cellv
  generalize (if k < L then xs k else (22695477 : Int32) * (nI k + (41 : Int32))) = a
  rw [zI_ofN a, e, zI_and, Nat.and_two_pow_sub_one_eq_mod]
  exact ⟨_, Nat.mod_lt _ (by omega), rfl⟩
set_option maxRecDepth 20000 in
theorem qL_cell (l : Launch) {b L k : Nat} {xs : Nat → Int32} (hL : L ≤ 260) (hk : k < 36) : Met l yL_cell wsL_cell rmL_cell (va_Pc [.ref b, .int (nI k)] (fun U => va_X b L xs U U.heap ∧ b < U.heap.size)) (g_postR (some (.int (cellv L xs k)))) 0 0 (fun _ => False) := by
  refine gB.of (cc := cL_cell) (maxL := 2) (ret := some .int) (by decide) rfl (Nat.le_of_ble_eq_true rfl) ?_
  rintro p e s m below meth c ⟨hx, hb, hr, hts, hown, hlocks, hml⟩ ⟨hX, hbl⟩ ls hl
  have hl : lv_has ls 2 [(0, .ref b), (1, .int (nI k))] := hl
  have hS : va_S (fun _ => False) s.heap s.heap [] := va_S.rf
  refine lv_iload_n hx hb dL_cell_0 rfl (lv_at hl 1 rfl) ?_
  refine lv_aload_n hx hb dL_cell_1 rfl (lv_at hl 0 rfl) ?_
  refine va_slen hx hb hX hbl (fun h => h) hS dL_cell_2 ?_
  have hLk : Int32.ofNat L ≤ nI k ↔ L ≤ k := nI_leI (by omega) (by omega)
  refine lv_icmp_ge (tgt := 12) hx hb dL_cell_3 (by decide) (fun c1 => ?_) (fun c1 => ?_)
  · have h1 : ¬ k < L := by have := hLk.1 c1; omega
    refine lv_ldc (v := (22695477 : Int32)) hx hb hown (hts _ tw_275) dL_cell_12 ?_
    refine lv_iload_n hx hb dL_cell_14 rfl (lv_at hl 1 rfl) ?_
    refine lv_bipush (v := (41 : Int32)) hx hb dL_cell_15 (by decide) ?_
    refine lv_iadd hx hb dL_cell_17 ?_
    refine lv_imul hx hb dL_cell_18 ?_
    refine lv_ldc (v := (2147483647 : Int32)) hx hb hown (hts _ tw_276) dL_cell_19 ?_
    refine lv_iand hx hb dL_cell_21 ?_
    unfold cellv
    rw [if_neg h1]
    exact g_iretR hx hb hr hlocks dL_cell_22
  · have h1 : k < L := by
      rcases Nat.lt_or_ge k L with h | h
      · exact h
      · exact absurd (hLk.2 h) c1
    refine lv_aload_n hx hb dL_cell_6 rfl (lv_at hl 0 rfl) ?_
    refine lv_iload_n hx hb dL_cell_7 rfl (lv_at hl 1 rfl) ?_
    refine va_sld hx hb hX hbl (fun h => h) hS (vp_in_nI h1 (by omega)) dL_cell_8 ?_
    refine lv_goto (tgt := 19) hx hb dL_cell_9 (by decide) ?_
    refine lv_ldc (v := (2147483647 : Int32)) hx hb hown (hts _ tw_276) dL_cell_19 ?_
    refine lv_iand hx hb dL_cell_21 ?_
    unfold cellv
    rw [if_pos h1]
    rw [nI_clamp (show k < 2 ^ 31 by omega)]
    exact g_iretR hx hb hr hlocks dL_cell_22
