/-- the contract of a constructor -/
def gN (l : Launch) (G : gT) (y : MethodName) (ws : List Cond) (rm : Room) (av : List Value) (w0 : va_W) (mc ms : Nat) {S : Type} (post : S → Prop) (w1 : S → va_W) : Prop := ∀ sz, Met l y ws rm (va_Pc av (g_pre G w0 sz)) (va_Qv post (fun u t => va_P G.1 vwCl (w1 u) t.heap ∧ va_D (va_A w0 sz) (w1 u)) (va_A w0 sz)) mc ms (va_A w0 sz)
theorem gN.of {l : Launch} {G : gT} {y : MethodName} {ws : List Cond} {rm : Room} {av : List Value} {w0 : va_W} {mc ms : Nat} {S : Type} {post : S → Prop} {w1 : S → va_W} {cc : ByteArray} {maxL : Nat}
    (hy : plainName y.cls = true) (hw : ws = Cond.code y cc maxL none :: TB) (hn : (lg_sl av).length ≤ maxL)
    (body : ∀ (p : Program) (e : Env) (s : State) (m : MethodId) (below : List Frame) (meth : Method) (c : Code), gX p s m av.toArray meth c cc maxL none y.cls G → meth.name = y.name → va_P G.1 vwCl w0 s.heap → va_D (va_A w0 s.heap.size) w0 → va_S (va_A w0 s.heap.size) s.heap s.heap [] →
      ∀ ls, lv_has ls maxL (lv_args 0 av) → W p l e (headSpec ws rm).room s m av.toArray below meth c s.heap [] 0 0 (MQ below (va_Qv post (fun u t => va_P G.1 vwCl (w1 u) t.heap ∧ va_D (va_A w0 s.heap.size) (w1 u)) (va_A w0 s.heap.size)) av.toArray s mc ms (va_A w0 s.heap.size)) (F0 m 0 ls [])) : gN l G y ws rm av w0 mc ms post w1 := by
  intro sz
  refine Met.ofW (cc := cc) (maxL := maxL) (ret := none) hy hw ?_
  intro p e s m args below meth c s₁ B hml hv
  obtain ⟨rfl, hsz, hP, hK, hD0⟩ := hv
  subst hsz
  rw [lg_entry_eq]
  exact body p e s m below meth c ⟨B.exec, B.bytes, B.returns, fun w h => atoms_spec (ws := ws) B.pre w (by rw [hw]; exact List.mem_cons_of_mem _ h), findClass_of_methodNamed B.named, B.notSynchronized, hml, hK⟩ (name_of_methodNamed B.named B.method).1 hP hD0.self va_S.rf _ (lv_entry av hn)
def gN5 (l : Launch) (G : gT) (y : MethodName) (ws : List Cond) (rm : Room) (av : List Value) (w0 : va_W) (mc ms : Nat) {S : Type} (post : S → Prop) (w1 : S → va_W) : Prop := ∀ sz, Met l y ws rm (va_Pc av (fun U => va_AO "TwoShapes$Table" U ∧ g_pre G w0 sz U)) (va_Qv post (fun u t => va_P G.1 vwCl (w1 u) t.heap ∧ va_D (va_A w0 sz) (w1 u)) (va_A w0 sz)) mc ms (va_A w0 sz)
theorem gN5.of {l : Launch} {G : gT} {y : MethodName} {ws : List Cond} {rm : Room} {av : List Value} {w0 : va_W} {mc ms : Nat} {S : Type} {post : S → Prop} {w1 : S → va_W} {cc : ByteArray} {maxL : Nat}
    (hy : plainName y.cls = true) (hw : ws = Cond.code y cc maxL none :: TB) (hn : (lg_sl av).length ≤ maxL)
    (body : ∀ (p : Program) (e : Env) (s : State) (m : MethodId) (below : List Frame) (meth : Method) (c : Code), gX p s m av.toArray meth c cc maxL none y.cls G → va_AO "TwoShapes$Table" s → meth.name = y.name → va_P G.1 vwCl w0 s.heap → va_D (va_A w0 s.heap.size) w0 → va_S (va_A w0 s.heap.size) s.heap s.heap [] →
      ∀ ls, lv_has ls maxL (lv_args 0 av) → W p l e (headSpec ws rm).room s m av.toArray below meth c s.heap [] 0 0 (MQ below (va_Qv post (fun u t => va_P G.1 vwCl (w1 u) t.heap ∧ va_D (va_A w0 s.heap.size) (w1 u)) (va_A w0 s.heap.size)) av.toArray s mc ms (va_A w0 s.heap.size)) (F0 m 0 ls [])) : gN5 l G y ws rm av w0 mc ms post w1 := by
  intro sz
  refine Met.ofW (cc := cc) (maxL := maxL) (ret := none) hy hw ?_
  intro p e s m args below meth c s₁ B hml hv
  obtain ⟨rfl, hAO, hsz, hP, hK, hD0⟩ := hv
  subst hsz
  rw [lg_entry_eq]
  exact body p e s m below meth c ⟨B.exec, B.bytes, B.returns, fun w h => atoms_spec (ws := ws) B.pre w (by rw [hw]; exact List.mem_cons_of_mem _ h), findClass_of_methodNamed B.named, B.notSynchronized, hml, hK⟩ hAO (name_of_methodNamed B.named B.method).1 hP hD0.self va_S.rf _ (lv_entry av hn)
theorem g_cI {G : gT} {s : State} {tys : List (ClassId × FieldType)} {cA : ClassId} (h : gK G s) (h' : va_K G.1 vwCl (g_tys G ++ [(cA, .int)]) s) : cA = G.2.1 := by
  have h1 : s.vm.findClass ("[" ++ (FieldType.int).toString) = some cA := (h'.2 3 _ rfl).2
  have h2 : s.vm.findClass ("[" ++ (FieldType.int).toString) = some G.2.1 := (h.1.2 0 _ rfl).2
  rw [h1] at h2
  exact Option.some.inj h2
theorem g_cT {G : gT} {s : State} {tys : List (ClassId × FieldType)} {cA : ClassId} (h : gK G s) (h' : va_K G.1 vwCl (g_tys G ++ [(cA, .object "TwoShapes$Table")]) s) : cA = G.2.2.2 := by
  obtain ⟨-, -, -, -, -, h1⟩ := (h'.2 3 _ rfl).2
  obtain ⟨-, -, -, -, -, h2⟩ := (h.1.2 2 _ rfl).2
  rw [h1] at h2
  exact Option.some.inj h2
theorem g_h4 {a b c d : Nat} : va_up (va_up (va_up (va_up (fun _ => none) (0 : Int32).toNatClampNeg (some a)) (1 : Int32).toNatClampNeg (some b)) (2 : Int32).toNatClampNeg (some c)) (3 : Int32).toNatClampNeg (some d) = g4 a b c d := by
  funext j
  match j with
  | 0 => rfl
  | 1 => rfl
  | 2 => rfl
  | 3 => rfl
  | j + 4 => rfl
section GLN
variable {p : Program} {l : Launch} {e : Env} {R : Room} {s : State} {m : MethodId} {args : Array Value} {below : List Frame} {meth : Method} {c : Code} {H : Heap} {locs : List Loc} {cells slots : Nat} {Q : State → Prop}
variable {G : gT} {pc : Nat} {ls : Array Slot} {rest st0 : List Value} {a : Array Value} {A0 : Nat → Prop} {H0 : Heap}
theorem g_contN {v : Option Value} {st1 : List Value} {ws w0 w1 : va_W} (hr : va_Run p l e R s m args below meth c H locs cells slots 0 0 (F0 m pc ls st0) rest (g_post G v w1 w0 H.size a) (va_A w0 H.size)) (hs : v.toList ++ rest = st1) (hP : va_P G.1 vwCl ws H) (hD : va_D A0 ws) (hS : va_S A0 H0 H locs) (hA : ∀ q, H0.size ≤ q → A0 q)
    (isC : List Nat) (hC : isC.map (fun i => ws[i]?) = w0.map some) (haddr : w1.map (fun q => q.1) = w0.map (fun q => q.1))
    (kk : ∀ (H1 : Heap) (locs1 : List Loc), va_P G.1 vwCl (g_put ws isC w1) H1 → va_D A0 (g_put ws isC w1) → va_S A0 H0 H1 locs1 → W p l e R s m args below meth c H1 locs1 cells slots Q (F0 m (pc + 3) ls st1)) : W p l e R s m args below meth c H locs cells slots Q (F0 m pc ls st0) := by
  subst hs
  have hF := va_free hD hS hA isC hC
  have hlen : isC.length = w1.length := by
    have h1 := congrArg List.length hC
    have h2 := congrArg List.length haddr
    simp at h1 h2
    omega
  have at' : ∀ (j k : Nat), isC[j]? = some k → ∃ q, w0[j]? = some q ∧ ws[k]? = some q := by
    intro j k hj
    have h1 : (isC.map (fun i => ws[i]?))[j]? = some ws[k]? := by rw [List.getElem?_map, hj]; rfl
    rw [hC, List.getElem?_map] at h1
    cases hw : w0[j]? with
    | none => rw [hw] at h1; cases h1
    | some q => rw [hw] at h1; exact ⟨q, rfl, (Option.some.inj h1).symm⟩
  have ad' : ∀ (j : Nat) (q q' : Nat × va_E), w1[j]? = some q → w0[j]? = some q' → q.1 = q'.1 := by
    intro j q q' h1 h2
    have h3 : (w1.map (fun q => q.1))[j]? = some q.1 := by rw [List.getElem?_map, h1]; rfl
    rw [haddr, List.getElem?_map, h2] at h3
    exact (Option.some.inj h3).symm
  have same : ∀ (k : Nat) (q : Nat × va_E), (g_put ws isC w1)[k]? = some q → ∃ q', ws[k]? = some q' ∧ q'.1 = q.1 := by
    intro k q hk
    rcases g_put_get isC w1 ws k q hlen hk with ⟨j, h1, h2⟩ | ⟨-, h2⟩
    · obtain ⟨q', h3, h4⟩ := at' j k h1
      exact ⟨q', h4, (ad' j q q' h2 h3).symm⟩
    · exact ⟨q, h2, rfl⟩
  intro T hT X
  obtain ⟨v', st₀, t, T', L, h0, X', hL, e1, e2, ⟨⟨hv, hP1, hD1⟩, hz, hk⟩, st⟩ := hr T hT X
  cases hv
  rw [h0] at hz hk
  have hP2 : va_P G.1 vwCl (g_put ws isC w1) T'.heap := by
    intro k q hq
    rw [e1]
    rcases g_put_get isC w1 ws k q hlen hq with ⟨j, h1, h2⟩ | ⟨h1, h2⟩
    · exact hP1 j q h2
    · refine (hP k q h2).kept (hk q.1 (hP k q h2).lt ?_)
      rintro (⟨j, e0, hj⟩ | hj)
      · have h3 : (isC.map (fun i => ws[i]?))[j]? = some (some (q.1, e0)) := by rw [hC, List.getElem?_map, hj]; rfl
        rw [List.getElem?_map] at h3
        cases hi : isC[j]? with
        | none => rw [hi] at h3; cases h3
        | some i =>
          rw [hi] at h3
          have h4 : ws[i]? = some (q.1, e0) := Option.some.inj h3
          have h5 := hD.1 k i q (q.1, e0) h2 h4 rfl
          subst h5
          exact h1 (List.mem_of_getElem? hi)
      · exact absurd (hP k q h2).lt (by omega)
  have hD2 : va_D A0 (g_put ws isC w1) := by
    refine ⟨fun i j x y hx hy hxy => ?_, fun k q hq => ?_⟩
    · obtain ⟨x', hx1, hx2⟩ := same i x hx
      obtain ⟨y', hy1, hy2⟩ := same j y hy
      exact hD.1 i j x' y' hx1 hy1 (by rw [hx2, hy2, hxy])
    · obtain ⟨q', h1, h2⟩ := same k q hq
      rw [← h2]
      exact hD.2 k q' h1
  obtain ⟨t2, a1, b1⟩ := kk T'.heap (locs ++ L) hP2 hD2
    ⟨Nat.le_trans hS.1 (by rw [e1]; exact hz), fun q h1 h2 => by rw [e1, hk q (Nat.lt_of_lt_of_le h1 hS.1) (fun z => h2 (hF q z))]; exact hS.2.1 q h1 h2, fun q hq => by
      rcases List.mem_append.mp hq with h | h
      · exact hS.2.2 q h
      · exact hF _ (hL q h)⟩ T' rfl X'
  exact ⟨t2, st t2 a1, b1⟩
variable {y : MethodName} {bytes cc : ByteArray} {maxL nL n index : Nat} {ret : Option FieldType} {ws : List Cond} {rm : Room} {Ts : List Cond} {own C : String} {b : Addr} {As : List Value} {w0 w1 : va_W} {v : Option Value}
theorem g_runVCN (S : CallFix p m c cc nL s args Ts own) (hM : gC l G y ws rm (.ref b :: As) w0 v w1) (cw : CallW R s args own C index y bytes maxL ret ws rm 0 0 n) (hK : gK G s) (hP : va_P G.1 vwCl w0 H) (hD : va_D A0 w0) (q0 : Nat) {ci N : Nat} {T : u_T} {fs : List Value} (he : w0[q0]? = some (b, .inr (ci, fs))) (hc : vwCl[ci]? = some (C, T, N)) (hn : As.length = n) (hsize : ls.size = nL) (hst : st0 = As.reverse ++ .ref b :: rest) (hW : (rest.map fun v => v.category).sum ≤ 8) (hdg : decode cc pc = .ok (.invokevirtual index, 3)) (hf : cells + 0 ≤ R.cells ∧ slots + 0 ≤ R.slots) :
    va_Run p l e R s m args below meth c H locs cells slots 0 0 (F0 m pc ls st0) rest (g_post G v w1 w0 H.size (Value.ref b :: As).toArray) (va_A w0 H.size) :=
  va_runV S (hM H.size) cw ⟨g_blind, va_recv hK.1 hP hc he, fun U hU hw => ⟨rfl, by rw [hU], by rw [hU]; exact hP, hK.warm hw, hD.weaken (fun _ _ _ _ => trivial)⟩⟩ rfl hn hsize hst (lv_room hW) hdg hf
end GLN
set_option maxHeartbeats 8000000 in
set_option maxRecDepth 100000 in
theorem qX3_init (l : Launch) (G : gT) (h0 : Nat) {nu : Int32} {z0 : (Nat → Int32) × (Nat → Int32)} (hcl : fX3_clear nu (fun _ => 0) (fun _ => 0) = some z0) : gN l G yX3_init wsX3_init { frames := 1, cells := 2, slots := 62, locals := 25 } [.ref h0, .int nu] [(h0, .inr (2, [.int 0, .null, .null]))] 2 62 (S := Nat × Nat) (fun _ => 0 = 0) (fun u => shapeW G h0 u.1 u.2 nu z0.1 z0.2) := by
  refine gN.of (cc := cX3_init) (maxL := 2) (by decide) rfl (Nat.le_of_ble_eq_true rfl) ?_
  intro p e s m below meth c C0 hin hP hD hS ls hl
  obtain ⟨hx, hb, hr, hts, hown, hlocks, hml, hK⟩ := id C0
  have hA : ∀ q : Nat, s.heap.size ≤ q → va_A [(h0, .inr (2, [.int 0, .null, .null]))] s.heap.size q := fun q h => Or.inr h
  have hl : lv_has ls 2 [(0, .ref h0), (1, .int nu)] := hl
  skip
  have hP : va_P G.1 vwCl [(h0, .inr (2, [.int 0, .null, .null]))] s.heap := hP
  refine lv_aload_n hx hb dX3_init_0 rfl (lv_at hl 0 rfl) ?_
  refine W.objInit hx hb hown (hts _ tw_34) (hts _ tw_20) (hts _ tw_21) rfl (by rw [hml]; exact hl.1) rfl dX3_init_1 (Nat.le_of_ble_eq_true rfl) (Nat.le_of_ble_eq_true rfl) ?_
  refine W.eq (g2 := F0 m 4 ls []) rfl ?_
  refine lv_aload_n hx hb dX3_init_4 rfl (lv_at hl 0 rfl) ?_
  refine lv_bipush (v := (31 : Int32)) hx hb dX3_init_5 (by decide) ?_
  refine va_newa (atype := .int) (ty := .int) (a0 := (31, .inl (fun _ => 0))) hx hb (hts _ tw_53) rfl hK.1 hP hD hS hA (fun _ => rfl) (by decide) (by decide) (by decide) (Nat.le_of_ble_eq_true rfl) (Nat.le_of_ble_eq_true rfl) dX3_init_7 (fun n7 cA H hK1 hP hD hS => ?_)
  have ecA : cA = G.2.1 := g_cI (tys := []) hK hK1
  subst ecA
  have hP : va_P G.1 vwCl [(h0, .inr (2, [.int 0, .null, .null])), (n7, .inl (G.2.1, 31, .inl (fun _ => 0)))] H := hP
  have hD : va_D (va_A [(h0, .inr (2, [.int 0, .null, .null]))] s.heap.size) [(h0, .inr (2, [.int 0, .null, .null])), (n7, .inl (G.2.1, 31, .inl (fun _ => 0)))] := hD
  refine W.widen (k := 1) (n := 31) (Nat.le_of_ble_eq_true rfl) (Nat.le_of_ble_eq_true rfl) ?_
  refine va_putF (D := G.1) (ci := 2) (v := .ref n7) (ty := .array .int) (C := RX3) (T := TX3) (N := 3) hx hb hts hX3 tyX3 tyX3_ok nmX3 hown hK.1 hP hD hS 0 rfl rfl 1 (by decide) (hts _ tw_40) (fun _ h9 => h9) rfl hin rfl (by decide +kernel) rfl rfl (Nat.le_of_ble_eq_true rfl) dX3_init_9 (fun H locs hP hD hS => ?_)
  have hP : va_P G.1 vwCl [(h0, .inr (2, [.int 0, .ref n7, .null])), (n7, .inl (G.2.1, 31, .inl (fun _ => 0)))] H := hP
  have hD : va_D (va_A [(h0, .inr (2, [.int 0, .null, .null]))] s.heap.size) [(h0, .inr (2, [.int 0, .ref n7, .null])), (n7, .inl (G.2.1, 31, .inl (fun _ => 0)))] := hD
  refine lv_aload_n hx hb dX3_init_12 rfl (lv_at hl 0 rfl) ?_
  refine lv_bipush (v := (31 : Int32)) hx hb dX3_init_13 (by decide) ?_
  refine va_newa (atype := .int) (ty := .int) (a0 := (31, .inl (fun _ => 0))) hx hb (hts _ tw_53) rfl hK.1 hP hD hS hA (fun _ => rfl) (by decide) (by decide) (by decide) (Nat.le_of_ble_eq_true rfl) (Nat.le_of_ble_eq_true rfl) dX3_init_15 (fun n15 cA H hK1 hP hD hS => ?_)
  have ecA : cA = G.2.1 := g_cI (tys := []) hK hK1
  subst ecA
  have hP : va_P G.1 vwCl [(h0, .inr (2, [.int 0, .ref n7, .null])), (n7, .inl (G.2.1, 31, .inl (fun _ => 0))), (n15, .inl (G.2.1, 31, .inl (fun _ => 0)))] H := hP
  have hD : va_D (va_A [(h0, .inr (2, [.int 0, .null, .null]))] s.heap.size) [(h0, .inr (2, [.int 0, .ref n7, .null])), (n7, .inl (G.2.1, 31, .inl (fun _ => 0))), (n15, .inl (G.2.1, 31, .inl (fun _ => 0)))] := hD
  refine W.widen (k := 2) (n := 62) (Nat.le_of_ble_eq_true rfl) (Nat.le_of_ble_eq_true rfl) ?_
  refine va_putF (D := G.1) (ci := 2) (v := .ref n15) (ty := .array .int) (C := RX3) (T := TX3) (N := 3) hx hb hts hX3 tyX3 tyX3_ok nmX3 hown hK.1 hP hD hS 0 rfl rfl 2 (by decide) (hts _ tw_43) (fun _ h9 => h9) rfl hin rfl (by decide +kernel) rfl rfl (Nat.le_of_ble_eq_true rfl) dX3_init_17 (fun H locs hP hD hS => ?_)
  have hP : va_P G.1 vwCl [(h0, .inr (2, [.int 0, .ref n7, .ref n15])), (n7, .inl (G.2.1, 31, .inl (fun _ => 0))), (n15, .inl (G.2.1, 31, .inl (fun _ => 0)))] H := hP
  have hD : va_D (va_A [(h0, .inr (2, [.int 0, .null, .null]))] s.heap.size) [(h0, .inr (2, [.int 0, .ref n7, .ref n15])), (n7, .inl (G.2.1, 31, .inl (fun _ => 0))), (n15, .inl (G.2.1, 31, .inl (fun _ => 0)))] := hD
  refine lv_aload_n hx hb dX3_init_20 rfl (lv_at hl 0 rfl) ?_
  refine lv_iload_n hx hb dX3_init_21 rfl (lv_at hl 1 rfl) ?_
  refine va_putF (D := G.1) (ci := 2) (v := .int nu) (ty := .int) (C := RX3) (T := TX3) (N := 3) hx hb hts hX3 tyX3 tyX3_ok nmX3 hown hK.1 hP hD hS 0 rfl rfl 0 (by decide) (hts _ tw_39) (fun _ h9 => h9) rfl hin rfl (by decide +kernel) rfl rfl (Nat.le_of_ble_eq_true rfl) dX3_init_22 (fun H locs hP hD hS => ?_)
  have hP : va_P G.1 vwCl [(h0, .inr (2, [.int nu, .ref n7, .ref n15])), (n7, .inl (G.2.1, 31, .inl (fun _ => 0))), (n15, .inl (G.2.1, 31, .inl (fun _ => 0)))] H := hP
  have hD : va_D (va_A [(h0, .inr (2, [.int 0, .null, .null]))] s.heap.size) [(h0, .inr (2, [.int nu, .ref n7, .ref n15])), (n7, .inl (G.2.1, 31, .inl (fun _ => 0))), (n15, .inl (G.2.1, 31, .inl (fun _ => 0)))] := hD
  refine lv_aload_n hx hb dX3_init_25 rfl (lv_at hl 0 rfl) ?_
  refine g_contN (st1 := []) (g_runVCN (As := []) (rest := []) ⟨hx, hb, hml, hown, hts⟩ (qX3_clear l G h0 n7 n15 hcl) (cwV 0 hts (TB_V TB_id tw_35 tw_36 tw_37 tw_7 tw_38) rfl rfl rfl (by decide +kernel) ⟨Nat.le_of_ble_eq_true rfl, Nat.le_of_ble_eq_true rfl⟩) hK (hP.sub [0, 1, 2] rfl) (hD.sub [0, 1, 2] (by decide) rfl) 0 rfl rfl rfl hl.1 rfl (Nat.le_of_ble_eq_true rfl) dX3_init_26 ⟨Nat.le_of_ble_eq_true rfl, Nat.le_of_ble_eq_true rfl⟩) rfl hP hD hS hA [0, 1, 2] rfl rfl (fun H locs hP hD hS => ?_)
  have hP : va_P G.1 vwCl [(h0, .inr (2, [.int nu, .ref n7, .ref n15])), (n7, .inl (G.2.1, 31, .inl z0.1)), (n15, .inl (G.2.1, 31, .inl z0.2))] H := hP
  have hD : va_D (va_A [(h0, .inr (2, [.int 0, .null, .null]))] s.heap.size) [(h0, .inr (2, [.int nu, .ref n7, .ref n15])), (n7, .inl (G.2.1, 31, .inl z0.1)), (n15, .inl (G.2.1, 31, .inl z0.2))] := hD
  exact W.vret hx hb hr (fun t ht _ => ⟨⟨(n7, n15), rfl, rfl, by rw [ht]; exact hP, hD⟩, hS.F ht⟩) hS.2.2 dX3_init_29
set_option maxHeartbeats 8000000 in
set_option maxRecDepth 100000 in
theorem qX1_init (l : Launch) (G : gT) (h0 : Nat) : gN l G yX1_init wsX1_init { frames := 1, cells := 3, slots := 24, locals := 12 } [.ref h0] [(h0, .inr (1, [.int 0, .null, .null, .null]))] 3 24 (S := Nat × Nat × Nat) (fun _ => 0 = 0) (fun u => queueW G h0 u.1 u.2.1 u.2.2 0 (fun _ => 0) (fun _ => 0) (fun _ => 0)) := by
  refine gN.of (cc := cX1_init) (maxL := 1) (by decide) rfl (Nat.le_of_ble_eq_true rfl) ?_
  intro p e s m below meth c C0 hin hP hD hS ls hl
  obtain ⟨hx, hb, hr, hts, hown, hlocks, hml, hK⟩ := id C0
  have hA : ∀ q : Nat, s.heap.size ≤ q → va_A [(h0, .inr (1, [.int 0, .null, .null, .null]))] s.heap.size q := fun q h => Or.inr h
  have hl : lv_has ls 1 [(0, .ref h0)] := hl
  skip
  have hP : va_P G.1 vwCl [(h0, .inr (1, [.int 0, .null, .null, .null]))] s.heap := hP
  refine lv_aload_n hx hb dX1_init_0 rfl (lv_at hl 0 rfl) ?_
  refine W.objInit hx hb hown (hts _ tw_59) (hts _ tw_20) (hts _ tw_21) rfl (by rw [hml]; exact hl.1) rfl dX1_init_1 (Nat.le_of_ble_eq_true rfl) (Nat.le_of_ble_eq_true rfl) ?_
  refine W.eq (g2 := F0 m 4 ls []) rfl ?_
  refine lv_aload_n hx hb dX1_init_4 rfl (lv_at hl 0 rfl) ?_
  refine lv_bipush (v := (8 : Int32)) hx hb dX1_init_5 (by decide) ?_
  refine va_newa (atype := .int) (ty := .int) (a0 := (8, .inl (fun _ => 0))) hx hb (hts _ tw_53) rfl hK.1 hP hD hS hA (fun _ => rfl) (by decide) (by decide) (by decide) (Nat.le_of_ble_eq_true rfl) (Nat.le_of_ble_eq_true rfl) dX1_init_7 (fun n7 cA H hK1 hP hD hS => ?_)
  have ecA : cA = G.2.1 := g_cI (tys := []) hK hK1
  subst ecA
  have hP : va_P G.1 vwCl [(h0, .inr (1, [.int 0, .null, .null, .null])), (n7, .inl (G.2.1, 8, .inl (fun _ => 0)))] H := hP
  have hD : va_D (va_A [(h0, .inr (1, [.int 0, .null, .null, .null]))] s.heap.size) [(h0, .inr (1, [.int 0, .null, .null, .null])), (n7, .inl (G.2.1, 8, .inl (fun _ => 0)))] := hD
  refine W.widen (k := 1) (n := 8) (Nat.le_of_ble_eq_true rfl) (Nat.le_of_ble_eq_true rfl) ?_
  refine va_putF (D := G.1) (ci := 1) (v := .ref n7) (ty := .array .int) (C := RX1) (T := TX1) (N := 4) hx hb hts hX1 tyX1 tyX1_ok nmX1 hown hK.1 hP hD hS 0 rfl rfl 1 (by decide) (hts _ tw_63) (fun _ h9 => h9) rfl hin rfl (by decide +kernel) rfl rfl (Nat.le_of_ble_eq_true rfl) dX1_init_9 (fun H locs hP hD hS => ?_)
  have hP : va_P G.1 vwCl [(h0, .inr (1, [.int 0, .ref n7, .null, .null])), (n7, .inl (G.2.1, 8, .inl (fun _ => 0)))] H := hP
  have hD : va_D (va_A [(h0, .inr (1, [.int 0, .null, .null, .null]))] s.heap.size) [(h0, .inr (1, [.int 0, .ref n7, .null, .null])), (n7, .inl (G.2.1, 8, .inl (fun _ => 0)))] := hD
  refine lv_aload_n hx hb dX1_init_12 rfl (lv_at hl 0 rfl) ?_
  refine lv_bipush (v := (8 : Int32)) hx hb dX1_init_13 (by decide) ?_
  refine va_newa (atype := .int) (ty := .int) (a0 := (8, .inl (fun _ => 0))) hx hb (hts _ tw_53) rfl hK.1 hP hD hS hA (fun _ => rfl) (by decide) (by decide) (by decide) (Nat.le_of_ble_eq_true rfl) (Nat.le_of_ble_eq_true rfl) dX1_init_15 (fun n15 cA H hK1 hP hD hS => ?_)
  have ecA : cA = G.2.1 := g_cI (tys := []) hK hK1
  subst ecA
  have hP : va_P G.1 vwCl [(h0, .inr (1, [.int 0, .ref n7, .null, .null])), (n7, .inl (G.2.1, 8, .inl (fun _ => 0))), (n15, .inl (G.2.1, 8, .inl (fun _ => 0)))] H := hP
  have hD : va_D (va_A [(h0, .inr (1, [.int 0, .null, .null, .null]))] s.heap.size) [(h0, .inr (1, [.int 0, .ref n7, .null, .null])), (n7, .inl (G.2.1, 8, .inl (fun _ => 0))), (n15, .inl (G.2.1, 8, .inl (fun _ => 0)))] := hD
  refine W.widen (k := 2) (n := 16) (Nat.le_of_ble_eq_true rfl) (Nat.le_of_ble_eq_true rfl) ?_
  refine va_putF (D := G.1) (ci := 1) (v := .ref n15) (ty := .array .int) (C := RX1) (T := TX1) (N := 4) hx hb hts hX1 tyX1 tyX1_ok nmX1 hown hK.1 hP hD hS 0 rfl rfl 2 (by decide) (hts _ tw_65) (fun _ h9 => h9) rfl hin rfl (by decide +kernel) rfl rfl (Nat.le_of_ble_eq_true rfl) dX1_init_17 (fun H locs hP hD hS => ?_)
  have hP : va_P G.1 vwCl [(h0, .inr (1, [.int 0, .ref n7, .ref n15, .null])), (n7, .inl (G.2.1, 8, .inl (fun _ => 0))), (n15, .inl (G.2.1, 8, .inl (fun _ => 0)))] H := hP
  have hD : va_D (va_A [(h0, .inr (1, [.int 0, .null, .null, .null]))] s.heap.size) [(h0, .inr (1, [.int 0, .ref n7, .ref n15, .null])), (n7, .inl (G.2.1, 8, .inl (fun _ => 0))), (n15, .inl (G.2.1, 8, .inl (fun _ => 0)))] := hD
  refine lv_aload_n hx hb dX1_init_20 rfl (lv_at hl 0 rfl) ?_
  refine lv_bipush (v := (8 : Int32)) hx hb dX1_init_21 (by decide) ?_
  refine va_newa (atype := .int) (ty := .int) (a0 := (8, .inl (fun _ => 0))) hx hb (hts _ tw_53) rfl hK.1 hP hD hS hA (fun _ => rfl) (by decide) (by decide) (by decide) (Nat.le_of_ble_eq_true rfl) (Nat.le_of_ble_eq_true rfl) dX1_init_23 (fun n23 cA H hK1 hP hD hS => ?_)
  have ecA : cA = G.2.1 := g_cI (tys := []) hK hK1
  subst ecA
  have hP : va_P G.1 vwCl [(h0, .inr (1, [.int 0, .ref n7, .ref n15, .null])), (n7, .inl (G.2.1, 8, .inl (fun _ => 0))), (n15, .inl (G.2.1, 8, .inl (fun _ => 0))), (n23, .inl (G.2.1, 8, .inl (fun _ => 0)))] H := hP
  have hD : va_D (va_A [(h0, .inr (1, [.int 0, .null, .null, .null]))] s.heap.size) [(h0, .inr (1, [.int 0, .ref n7, .ref n15, .null])), (n7, .inl (G.2.1, 8, .inl (fun _ => 0))), (n15, .inl (G.2.1, 8, .inl (fun _ => 0))), (n23, .inl (G.2.1, 8, .inl (fun _ => 0)))] := hD
  refine W.widen (k := 3) (n := 24) (Nat.le_of_ble_eq_true rfl) (Nat.le_of_ble_eq_true rfl) ?_
  refine va_putF (D := G.1) (ci := 1) (v := .ref n23) (ty := .array .int) (C := RX1) (T := TX1) (N := 4) hx hb hts hX1 tyX1 tyX1_ok nmX1 hown hK.1 hP hD hS 0 rfl rfl 3 (by decide) (hts _ tw_67) (fun _ h9 => h9) rfl hin rfl (by decide +kernel) rfl rfl (Nat.le_of_ble_eq_true rfl) dX1_init_25 (fun H locs hP hD hS => ?_)
  have hP : va_P G.1 vwCl [(h0, .inr (1, [.int 0, .ref n7, .ref n15, .ref n23])), (n7, .inl (G.2.1, 8, .inl (fun _ => 0))), (n15, .inl (G.2.1, 8, .inl (fun _ => 0))), (n23, .inl (G.2.1, 8, .inl (fun _ => 0)))] H := hP
  have hD : va_D (va_A [(h0, .inr (1, [.int 0, .null, .null, .null]))] s.heap.size) [(h0, .inr (1, [.int 0, .ref n7, .ref n15, .ref n23])), (n7, .inl (G.2.1, 8, .inl (fun _ => 0))), (n15, .inl (G.2.1, 8, .inl (fun _ => 0))), (n23, .inl (G.2.1, 8, .inl (fun _ => 0)))] := hD
  exact W.vret hx hb hr (fun t ht _ => ⟨⟨(n7, n15, n23), rfl, rfl, by rw [ht]; exact hP, hD⟩, hS.F ht⟩) hS.2.2 dX1_init_28
set_option maxHeartbeats 8000000 in
set_option maxRecDepth 100000 in
theorem qX0_init (l : Launch) (G : gT) (h0 : Nat) : gN l G yX0_init wsX0_init { frames := 1, cells := 2, slots := 64, locals := 12 } [.ref h0] [(h0, .inr (0, [.int 0, .null, .int 0, .int 0, .int 0, .int 0, .null]))] 2 64 (S := Nat × Nat) (fun _ => 0 = 0) (fun u => ordW G h0 u.1 u.2 0 (fun _ => 0) 0 0 0 0 (fun _ => 0)) := by
  refine gN.of (cc := cX0_init) (maxL := 1) (by decide) rfl (Nat.le_of_ble_eq_true rfl) ?_
  intro p e s m below meth c C0 hin hP hD hS ls hl
  obtain ⟨hx, hb, hr, hts, hown, hlocks, hml, hK⟩ := id C0
  have hA : ∀ q : Nat, s.heap.size ≤ q → va_A [(h0, .inr (0, [.int 0, .null, .int 0, .int 0, .int 0, .int 0, .null]))] s.heap.size q := fun q h => Or.inr h
  have hl : lv_has ls 1 [(0, .ref h0)] := hl
  skip
  have hP : va_P G.1 vwCl [(h0, .inr (0, [.int 0, .null, .int 0, .int 0, .int 0, .int 0, .null]))] s.heap := hP
  refine lv_aload_n hx hb dX0_init_0 rfl (lv_at hl 0 rfl) ?_
  refine W.objInit hx hb hown (hts _ tw_125) (hts _ tw_20) (hts _ tw_21) rfl (by rw [hml]; exact hl.1) rfl dX0_init_1 (Nat.le_of_ble_eq_true rfl) (Nat.le_of_ble_eq_true rfl) ?_
  refine W.eq (g2 := F0 m 4 ls []) rfl ?_
  refine lv_aload_n hx hb dX0_init_4 rfl (lv_at hl 0 rfl) ?_
  refine lv_bipush (v := (60 : Int32)) hx hb dX0_init_5 (by decide) ?_
  refine va_newa (atype := .int) (ty := .int) (a0 := (60, .inl (fun _ => 0))) hx hb (hts _ tw_53) rfl hK.1 hP hD hS hA (fun _ => rfl) (by decide) (by decide) (by decide) (Nat.le_of_ble_eq_true rfl) (Nat.le_of_ble_eq_true rfl) dX0_init_7 (fun n7 cA H hK1 hP hD hS => ?_)
  have ecA : cA = G.2.1 := g_cI (tys := []) hK hK1
  subst ecA
  have hP : va_P G.1 vwCl [(h0, .inr (0, [.int 0, .null, .int 0, .int 0, .int 0, .int 0, .null])), (n7, .inl (G.2.1, 60, .inl (fun _ => 0)))] H := hP
  have hD : va_D (va_A [(h0, .inr (0, [.int 0, .null, .int 0, .int 0, .int 0, .int 0, .null]))] s.heap.size) [(h0, .inr (0, [.int 0, .null, .int 0, .int 0, .int 0, .int 0, .null])), (n7, .inl (G.2.1, 60, .inl (fun _ => 0)))] := hD
  refine W.widen (k := 1) (n := 60) (Nat.le_of_ble_eq_true rfl) (Nat.le_of_ble_eq_true rfl) ?_
  refine va_putF (D := G.1) (ci := 0) (v := .ref n7) (ty := .array .int) (C := RX0) (T := TX0) (N := 7) hx hb hts hX0 tyX0 tyX0_ok nmX0 hown hK.1 hP hD hS 0 rfl rfl 1 (by decide) (hts _ tw_127) (fun _ h9 => h9) rfl hin rfl (by decide +kernel) rfl rfl (Nat.le_of_ble_eq_true rfl) dX0_init_9 (fun H locs hP hD hS => ?_)
  have hP : va_P G.1 vwCl [(h0, .inr (0, [.int 0, .ref n7, .int 0, .int 0, .int 0, .int 0, .null])), (n7, .inl (G.2.1, 60, .inl (fun _ => 0)))] H := hP
  have hD : va_D (va_A [(h0, .inr (0, [.int 0, .null, .int 0, .int 0, .int 0, .int 0, .null]))] s.heap.size) [(h0, .inr (0, [.int 0, .ref n7, .int 0, .int 0, .int 0, .int 0, .null])), (n7, .inl (G.2.1, 60, .inl (fun _ => 0)))] := hD
  refine lv_aload_n hx hb dX0_init_12 rfl (lv_at hl 0 rfl) ?_
  refine lv_iconst (v := (4 : Int32)) hx hb dX0_init_13 (by decide) ?_
  refine va_newa (atype := .int) (ty := .int) (a0 := (4, .inl (fun _ => 0))) hx hb (hts _ tw_53) rfl hK.1 hP hD hS hA (fun _ => rfl) (by decide) (by decide) (by decide) (Nat.le_of_ble_eq_true rfl) (Nat.le_of_ble_eq_true rfl) dX0_init_14 (fun n14 cA H hK1 hP hD hS => ?_)
  have ecA : cA = G.2.1 := g_cI (tys := []) hK hK1
  subst ecA
  have hP : va_P G.1 vwCl [(h0, .inr (0, [.int 0, .ref n7, .int 0, .int 0, .int 0, .int 0, .null])), (n7, .inl (G.2.1, 60, .inl (fun _ => 0))), (n14, .inl (G.2.1, 4, .inl (fun _ => 0)))] H := hP
  have hD : va_D (va_A [(h0, .inr (0, [.int 0, .null, .int 0, .int 0, .int 0, .int 0, .null]))] s.heap.size) [(h0, .inr (0, [.int 0, .ref n7, .int 0, .int 0, .int 0, .int 0, .null])), (n7, .inl (G.2.1, 60, .inl (fun _ => 0))), (n14, .inl (G.2.1, 4, .inl (fun _ => 0)))] := hD
  refine W.widen (k := 2) (n := 64) (Nat.le_of_ble_eq_true rfl) (Nat.le_of_ble_eq_true rfl) ?_
  refine va_putF (D := G.1) (ci := 0) (v := .ref n14) (ty := .array .int) (C := RX0) (T := TX0) (N := 7) hx hb hts hX0 tyX0 tyX0_ok nmX0 hown hK.1 hP hD hS 0 rfl rfl 6 (by decide) (hts _ tw_128) (fun _ h9 => h9) rfl hin rfl (by decide +kernel) rfl rfl (Nat.le_of_ble_eq_true rfl) dX0_init_16 (fun H locs hP hD hS => ?_)
  have hP : va_P G.1 vwCl [(h0, .inr (0, [.int 0, .ref n7, .int 0, .int 0, .int 0, .int 0, .ref n14])), (n7, .inl (G.2.1, 60, .inl (fun _ => 0))), (n14, .inl (G.2.1, 4, .inl (fun _ => 0)))] H := hP
  have hD : va_D (va_A [(h0, .inr (0, [.int 0, .null, .int 0, .int 0, .int 0, .int 0, .null]))] s.heap.size) [(h0, .inr (0, [.int 0, .ref n7, .int 0, .int 0, .int 0, .int 0, .ref n14])), (n7, .inl (G.2.1, 60, .inl (fun _ => 0))), (n14, .inl (G.2.1, 4, .inl (fun _ => 0)))] := hD
  exact W.vret hx hb hr (fun t ht _ => ⟨⟨(n7, n14), rfl, rfl, by rw [ht]; exact hP, hD⟩, hS.F ht⟩) hS.2.2 dX0_init_19
set_option maxHeartbeats 8000000 in
set_option maxRecDepth 100000 in
theorem qX4_init (l : Launch) (G : gT) (h0 : Nat) {z0 z1 : (Nat → Int32) × (Nat → Int32)} (hcl : fX3_clear 0 (fun _ => 0) (fun _ => 0) = some z0) (hcl1 : fX3_clear 1 (fun _ => 0) (fun _ => 0) = some z1) : gN l G yX4_init wsX4_init { frames := 2, cells := 13, slots := 195, locals := 46 } [.ref h0] [(h0, .inr (3, [.int 0, .int 0, .int 0, .int 0, .null, .null, .null, .null, .int 0, .null, .null]))] 13 195 (S := Nat → Nat) (fun u => u 0 = h0) (fun u => tabW G u 0 0 0 0 z0.1 z0.2 z1.1 z1.2 0 (fun _ => 0) (fun _ => 0) (fun _ => 0) (fun _ => 0) 0 (fun _ => 0) (fun _ => 0)) := by
  refine gN.of (cc := cX4_init) (maxL := 1) (by decide) rfl (Nat.le_of_ble_eq_true rfl) ?_
  intro p e s m below meth c C0 hin hP hD hS ls hl
  obtain ⟨hx, hb, hr, hts, hown, hlocks, hml, hK⟩ := id C0
  have hA : ∀ q : Nat, s.heap.size ≤ q → va_A [(h0, .inr (3, [.int 0, .int 0, .int 0, .int 0, .null, .null, .null, .null, .int 0, .null, .null]))] s.heap.size q := fun q h => Or.inr h
  have hl : lv_has ls 1 [(0, .ref h0)] := hl
  skip
  have hP : va_P G.1 vwCl [(h0, .inr (3, [.int 0, .int 0, .int 0, .int 0, .null, .null, .null, .null, .int 0, .null, .null]))] s.heap := hP
  refine lv_aload_n hx hb dX4_init_0 rfl (lv_at hl 0 rfl) ?_
  refine W.objInit hx hb hown (hts _ tw_28) (hts _ tw_20) (hts _ tw_21) rfl (by rw [hml]; exact hl.1) rfl dX4_init_1 (Nat.le_of_ble_eq_true rfl) (Nat.le_of_ble_eq_true rfl) ?_
  refine W.eq (g2 := F0 m 4 ls []) rfl ?_
  refine lv_aload_n hx hb dX4_init_4 rfl (lv_at hl 0 rfl) ?_
  refine va_new (ci := 2) (fs := [.int 0, .null, .null]) (C := RX3) (T := TX3) (N := 3) hx hb hts hX3 tyX3 tyX3_ok hown (hts _ tw_29) (hts _ tw_30) (hts _ tw_7) hK.1 hP hD hS hA rfl (fun j hj => by rcases (show j = 0 ∨ j = 1 ∨ j = 2 by omega) with rfl | rfl | rfl <;> rfl) (Nat.le_of_ble_eq_true rfl) (Nat.le_of_ble_eq_true rfl) dX4_init_5 (fun n5 H hP hD hS => ?_)
  have hP : va_P G.1 vwCl [(h0, .inr (3, [.int 0, .int 0, .int 0, .int 0, .null, .null, .null, .null, .int 0, .null, .null])), (n5, .inr (2, [.int 0, .null, .null]))] H := hP
  have hD : va_D (va_A [(h0, .inr (3, [.int 0, .int 0, .int 0, .int 0, .null, .null, .null, .null, .int 0, .null, .null]))] s.heap.size) [(h0, .inr (3, [.int 0, .int 0, .int 0, .int 0, .null, .null, .null, .null, .int 0, .null, .null])), (n5, .inr (2, [.int 0, .null, .null]))] := hD
  refine W.widen (k := 1) (n := 3) (Nat.le_of_ble_eq_true rfl) (Nat.le_of_ble_eq_true rfl) ?_
  refine lv_dup hx hb dX4_init_8 rfl ?_
  refine lv_iconst (v := (0 : Int32)) hx hb dX4_init_9 (by decide) ?_
  have hPc := hP.sub (ws' := [(n5, .inr (2, [.int 0, .null, .null]))]) [1] rfl
  have hDc := hD.sub (ws' := [(n5, .inr (2, [.int 0, .null, .null]))]) [1] (by decide) rfl
  have hFc := va_free (wc := [(n5, .inr (2, [.int 0, .null, .null]))]) hD hS hA [1] rfl
  refine va_callv (va_runI (As := [.int (0 : Int32)]) (rest := [.ref n5, .ref h0]) ⟨hx, hb, hml, hown, hts⟩ (qX3_init l G n5 hcl H.size) (cwI 1 hts (TB_C TB_id tw_33) rfl rfl rfl (hts _ tw_7) (hts _ tw_31) (hts _ tw_32) rfl (by decide +kernel) ⟨Nat.le_of_ble_eq_true rfl, Nat.le_of_ble_eq_true rfl⟩) ⟨g_blind, fun U hU hW => ⟨rfl, by rw [hU], by rw [hU]; exact hPc, hK.warm hW, hDc.weaken (fun _ _ _ _ => trivial)⟩⟩ rfl rfl hl.1 rfl (lv_room (Nat.le_of_ble_eq_true rfl)) dX4_init_10 ⟨Nat.le_of_ble_eq_true rfl, Nat.le_of_ble_eq_true rfl⟩) hS (fun q _ h => hFc q h) hFc (fun u t H1 locs ht hvm hw hB hz1 hk1 hS => ?_)
  obtain ⟨b11, b12⟩ := u
  obtain ⟨hP1, hD1⟩ := hB
  rw [ht] at hP1
  obtain ⟨hP, hD⟩ := va_join (wr := [(h0, .inr (3, [.int 0, .int 0, .int 0, .int 0, .null, .null, .null, .null, .int 0, .null, .null]))]) (w1 := (shapeW G n5 b11 b12 (0 : Int32) z0.1 z0.2)) hP hD [1] [0] rfl rfl (by decide) (by decide) hk1 hFc hP1 hD1
  generalize H1 = H at hP hS ⊢
  have hP : va_P G.1 vwCl ([(h0, .inr (3, [.int 0, .int 0, .int 0, .int 0, .null, .null, .null, .null, .int 0, .null, .null]))] ++ (shapeW G n5 b11 b12 (0 : Int32) z0.1 z0.2)) H := hP
  have hD : va_D (va_A [(h0, .inr (3, [.int 0, .int 0, .int 0, .int 0, .null, .null, .null, .null, .int 0, .null, .null]))] s.heap.size) ([(h0, .inr (3, [.int 0, .int 0, .int 0, .int 0, .null, .null, .null, .null, .int 0, .null, .null]))] ++ (shapeW G n5 b11 b12 (0 : Int32) z0.1 z0.2)) := hD
  refine W.widen (k := 3) (n := 65) (Nat.le_of_ble_eq_true rfl) (Nat.le_of_ble_eq_true rfl) ?_
  refine va_putF (D := G.1) (ci := 3) (v := .ref n5) (ty := .object "TwoShapes$Shape") (C := RX4) (T := TX4) (N := 11) hx hb hts hX4 tyX4 tyX4_ok nmX4 hown hK.1 hP hD hS 0 rfl rfl 4 (by decide) (hts _ tw_86) (fun _ h9 => h9) rfl hin rfl (by decide +kernel) rfl rfl (Nat.le_of_ble_eq_true rfl) dX4_init_13 (fun H locs hP hD hS => ?_)
  have hP : va_P G.1 vwCl ([(h0, .inr (3, [.int 0, .int 0, .int 0, .int 0, .ref n5, .null, .null, .null, .int 0, .null, .null]))] ++ (shapeW G n5 b11 b12 (0 : Int32) z0.1 z0.2)) H := hP
  have hD : va_D (va_A [(h0, .inr (3, [.int 0, .int 0, .int 0, .int 0, .null, .null, .null, .null, .int 0, .null, .null]))] s.heap.size) ([(h0, .inr (3, [.int 0, .int 0, .int 0, .int 0, .ref n5, .null, .null, .null, .int 0, .null, .null]))] ++ (shapeW G n5 b11 b12 (0 : Int32) z0.1 z0.2)) := hD
  refine lv_aload_n hx hb dX4_init_16 rfl (lv_at hl 0 rfl) ?_
  refine va_new (ci := 2) (fs := [.int 0, .null, .null]) (C := RX3) (T := TX3) (N := 3) hx hb hts hX3 tyX3 tyX3_ok hown (hts _ tw_29) (hts _ tw_30) (hts _ tw_7) hK.1 hP hD hS hA rfl (fun j hj => by rcases (show j = 0 ∨ j = 1 ∨ j = 2 by omega) with rfl | rfl | rfl <;> rfl) (Nat.le_of_ble_eq_true rfl) (Nat.le_of_ble_eq_true rfl) dX4_init_17 (fun n17 H hP hD hS => ?_)
  have hP : va_P G.1 vwCl (([(h0, .inr (3, [.int 0, .int 0, .int 0, .int 0, .ref n5, .null, .null, .null, .int 0, .null, .null]))] ++ (shapeW G n5 b11 b12 (0 : Int32) z0.1 z0.2)) ++ [(n17, .inr (2, [.int 0, .null, .null]))]) H := hP
  have hD : va_D (va_A [(h0, .inr (3, [.int 0, .int 0, .int 0, .int 0, .null, .null, .null, .null, .int 0, .null, .null]))] s.heap.size) (([(h0, .inr (3, [.int 0, .int 0, .int 0, .int 0, .ref n5, .null, .null, .null, .int 0, .null, .null]))] ++ (shapeW G n5 b11 b12 (0 : Int32) z0.1 z0.2)) ++ [(n17, .inr (2, [.int 0, .null, .null]))]) := hD
  refine W.widen (k := 4) (n := 68) (Nat.le_of_ble_eq_true rfl) (Nat.le_of_ble_eq_true rfl) ?_
  refine lv_dup hx hb dX4_init_20 rfl ?_
  refine lv_iconst (v := (1 : Int32)) hx hb dX4_init_21 (by decide) ?_
  have hPc := hP.sub (ws' := [(n17, .inr (2, [.int 0, .null, .null]))]) [4] rfl
  have hDc := hD.sub (ws' := [(n17, .inr (2, [.int 0, .null, .null]))]) [4] (by decide) rfl
  have hFc := va_free (wc := [(n17, .inr (2, [.int 0, .null, .null]))]) hD hS hA [4] rfl
  refine va_callv (va_runI (As := [.int (1 : Int32)]) (rest := [.ref n17, .ref h0]) ⟨hx, hb, hml, hown, hts⟩ (qX3_init l G n17 hcl1 H.size) (cwI 1 hts (TB_C TB_id tw_33) rfl rfl rfl (hts _ tw_7) (hts _ tw_31) (hts _ tw_32) rfl (by decide +kernel) ⟨Nat.le_of_ble_eq_true rfl, Nat.le_of_ble_eq_true rfl⟩) ⟨g_blind, fun U hU hW => ⟨rfl, by rw [hU], by rw [hU]; exact hPc, hK.warm hW, hDc.weaken (fun _ _ _ _ => trivial)⟩⟩ rfl rfl hl.1 rfl (lv_room (Nat.le_of_ble_eq_true rfl)) dX4_init_22 ⟨Nat.le_of_ble_eq_true rfl, Nat.le_of_ble_eq_true rfl⟩) hS (fun q _ h => hFc q h) hFc (fun u t H1 locs ht hvm hw hB hz1 hk1 hS => ?_)
  obtain ⟨b31, b32⟩ := u
  obtain ⟨hP1, hD1⟩ := hB
  rw [ht] at hP1
  obtain ⟨hP, hD⟩ := va_join (wr := ([(h0, .inr (3, [.int 0, .int 0, .int 0, .int 0, .ref n5, .null, .null, .null, .int 0, .null, .null]))] ++ (shapeW G n5 b11 b12 (0 : Int32) z0.1 z0.2))) (w1 := (shapeW G n17 b31 b32 (1 : Int32) z1.1 z1.2)) hP hD [4] [0, 1, 2, 3] rfl rfl (by decide) (by decide) hk1 hFc hP1 hD1
  generalize H1 = H at hP hS ⊢
  have hP : va_P G.1 vwCl (([(h0, .inr (3, [.int 0, .int 0, .int 0, .int 0, .ref n5, .null, .null, .null, .int 0, .null, .null]))] ++ (shapeW G n5 b11 b12 (0 : Int32) z0.1 z0.2)) ++ (shapeW G n17 b31 b32 (1 : Int32) z1.1 z1.2)) H := hP
  have hD : va_D (va_A [(h0, .inr (3, [.int 0, .int 0, .int 0, .int 0, .null, .null, .null, .null, .int 0, .null, .null]))] s.heap.size) (([(h0, .inr (3, [.int 0, .int 0, .int 0, .int 0, .ref n5, .null, .null, .null, .int 0, .null, .null]))] ++ (shapeW G n5 b11 b12 (0 : Int32) z0.1 z0.2)) ++ (shapeW G n17 b31 b32 (1 : Int32) z1.1 z1.2)) := hD
  refine W.widen (k := 6) (n := 130) (Nat.le_of_ble_eq_true rfl) (Nat.le_of_ble_eq_true rfl) ?_
  refine va_putF (D := G.1) (ci := 3) (v := .ref n17) (ty := .object "TwoShapes$Shape") (C := RX4) (T := TX4) (N := 11) hx hb hts hX4 tyX4 tyX4_ok nmX4 hown hK.1 hP hD hS 0 rfl rfl 5 (by decide) (hts _ tw_88) (fun _ h9 => h9) rfl hin rfl (by decide +kernel) rfl rfl (Nat.le_of_ble_eq_true rfl) dX4_init_25 (fun H locs hP hD hS => ?_)
  have hP : va_P G.1 vwCl (([(h0, .inr (3, [.int 0, .int 0, .int 0, .int 0, .ref n5, .ref n17, .null, .null, .int 0, .null, .null]))] ++ (shapeW G n5 b11 b12 (0 : Int32) z0.1 z0.2)) ++ (shapeW G n17 b31 b32 (1 : Int32) z1.1 z1.2)) H := hP
  have hD : va_D (va_A [(h0, .inr (3, [.int 0, .int 0, .int 0, .int 0, .null, .null, .null, .null, .int 0, .null, .null]))] s.heap.size) (([(h0, .inr (3, [.int 0, .int 0, .int 0, .int 0, .ref n5, .ref n17, .null, .null, .int 0, .null, .null]))] ++ (shapeW G n5 b11 b12 (0 : Int32) z0.1 z0.2)) ++ (shapeW G n17 b31 b32 (1 : Int32) z1.1 z1.2)) := hD
  refine lv_aload_n hx hb dX4_init_28 rfl (lv_at hl 0 rfl) ?_
  refine va_new (ci := 1) (fs := [.int 0, .null, .null, .null]) (C := RX1) (T := TX1) (N := 4) hx hb hts hX1 tyX1 tyX1_ok hown (hts _ tw_54) (hts _ tw_55) (hts _ tw_8) hK.1 hP hD hS hA rfl (fun j hj => by rcases (show j = 0 ∨ j = 1 ∨ j = 2 ∨ j = 3 by omega) with rfl | rfl | rfl | rfl <;> rfl) (Nat.le_of_ble_eq_true rfl) (Nat.le_of_ble_eq_true rfl) dX4_init_29 (fun n29 H hP hD hS => ?_)
  have hP : va_P G.1 vwCl ((([(h0, .inr (3, [.int 0, .int 0, .int 0, .int 0, .ref n5, .ref n17, .null, .null, .int 0, .null, .null]))] ++ (shapeW G n5 b11 b12 (0 : Int32) z0.1 z0.2)) ++ (shapeW G n17 b31 b32 (1 : Int32) z1.1 z1.2)) ++ [(n29, .inr (1, [.int 0, .null, .null, .null]))]) H := hP
  have hD : va_D (va_A [(h0, .inr (3, [.int 0, .int 0, .int 0, .int 0, .null, .null, .null, .null, .int 0, .null, .null]))] s.heap.size) ((([(h0, .inr (3, [.int 0, .int 0, .int 0, .int 0, .ref n5, .ref n17, .null, .null, .int 0, .null, .null]))] ++ (shapeW G n5 b11 b12 (0 : Int32) z0.1 z0.2)) ++ (shapeW G n17 b31 b32 (1 : Int32) z1.1 z1.2)) ++ [(n29, .inr (1, [.int 0, .null, .null, .null]))]) := hD
  refine W.widen (k := 7) (n := 134) (Nat.le_of_ble_eq_true rfl) (Nat.le_of_ble_eq_true rfl) ?_
  refine lv_dup hx hb dX4_init_32 rfl ?_
  have hPc := hP.sub (ws' := [(n29, .inr (1, [.int 0, .null, .null, .null]))]) [7] rfl
  have hDc := hD.sub (ws' := [(n29, .inr (1, [.int 0, .null, .null, .null]))]) [7] (by decide) rfl
  have hFc := va_free (wc := [(n29, .inr (1, [.int 0, .null, .null, .null]))]) hD hS hA [7] rfl
  refine va_callv (va_runIN (As := []) (rest := [.ref n29, .ref h0]) ⟨hx, hb, hml, hown, hts⟩ (qX1_init l G n29 H.size) ⟨va_cnB 0 hts (TB_C TB_id tw_58) rfl rfl rfl hK.2.2.2.2.2 (hts _ tw_8) (by decide +kernel) ⟨Nat.le_of_ble_eq_true rfl, Nat.le_of_ble_eq_true rfl⟩, rfl, (hts _ tw_57)⟩ ⟨g_blind, fun U hU hW => ⟨rfl, by rw [hU], by rw [hU]; exact hPc, hK.warm hW, hDc.weaken (fun _ _ _ _ => trivial)⟩⟩ rfl rfl hl.1 rfl (lv_room (Nat.le_of_ble_eq_true rfl)) dX4_init_33 ⟨Nat.le_of_ble_eq_true rfl, Nat.le_of_ble_eq_true rfl⟩) hS (fun q _ h => hFc q h) hFc (fun u t H1 locs ht hvm hw hB hz1 hk1 hS => ?_)
  obtain ⟨b51, b52, b53⟩ := u
  obtain ⟨hP1, hD1⟩ := hB
  rw [ht] at hP1
  obtain ⟨hP, hD⟩ := va_join (wr := (([(h0, .inr (3, [.int 0, .int 0, .int 0, .int 0, .ref n5, .ref n17, .null, .null, .int 0, .null, .null]))] ++ (shapeW G n5 b11 b12 (0 : Int32) z0.1 z0.2)) ++ (shapeW G n17 b31 b32 (1 : Int32) z1.1 z1.2))) (w1 := (queueW G n29 b51 b52 b53 0 (fun _ => 0) (fun _ => 0) (fun _ => 0))) hP hD [7] [0, 1, 2, 3, 4, 5, 6] rfl rfl (by decide) (by decide) hk1 hFc hP1 hD1
  generalize H1 = H at hP hS ⊢
  have hP : va_P G.1 vwCl ((([(h0, .inr (3, [.int 0, .int 0, .int 0, .int 0, .ref n5, .ref n17, .null, .null, .int 0, .null, .null]))] ++ (shapeW G n5 b11 b12 (0 : Int32) z0.1 z0.2)) ++ (shapeW G n17 b31 b32 (1 : Int32) z1.1 z1.2)) ++ (queueW G n29 b51 b52 b53 0 (fun _ => 0) (fun _ => 0) (fun _ => 0))) H := hP
  have hD : va_D (va_A [(h0, .inr (3, [.int 0, .int 0, .int 0, .int 0, .null, .null, .null, .null, .int 0, .null, .null]))] s.heap.size) ((([(h0, .inr (3, [.int 0, .int 0, .int 0, .int 0, .ref n5, .ref n17, .null, .null, .int 0, .null, .null]))] ++ (shapeW G n5 b11 b12 (0 : Int32) z0.1 z0.2)) ++ (shapeW G n17 b31 b32 (1 : Int32) z1.1 z1.2)) ++ (queueW G n29 b51 b52 b53 0 (fun _ => 0) (fun _ => 0) (fun _ => 0))) := hD
  refine W.widen (k := 10) (n := 158) (Nat.le_of_ble_eq_true rfl) (Nat.le_of_ble_eq_true rfl) ?_
  refine va_putF (D := G.1) (ci := 3) (v := .ref n29) (ty := .object "TwoShapes$Queue") (C := RX4) (T := TX4) (N := 11) hx hb hts hX4 tyX4 tyX4_ok nmX4 hown hK.1 hP hD hS 0 rfl rfl 6 (by decide) (hts _ tw_90) (fun _ h9 => h9) rfl hin rfl (by decide +kernel) rfl rfl (Nat.le_of_ble_eq_true rfl) dX4_init_36 (fun H locs hP hD hS => ?_)
  have hP : va_P G.1 vwCl ((([(h0, .inr (3, [.int 0, .int 0, .int 0, .int 0, .ref n5, .ref n17, .ref n29, .null, .int 0, .null, .null]))] ++ (shapeW G n5 b11 b12 (0 : Int32) z0.1 z0.2)) ++ (shapeW G n17 b31 b32 (1 : Int32) z1.1 z1.2)) ++ (queueW G n29 b51 b52 b53 0 (fun _ => 0) (fun _ => 0) (fun _ => 0))) H := hP
  have hD : va_D (va_A [(h0, .inr (3, [.int 0, .int 0, .int 0, .int 0, .null, .null, .null, .null, .int 0, .null, .null]))] s.heap.size) ((([(h0, .inr (3, [.int 0, .int 0, .int 0, .int 0, .ref n5, .ref n17, .ref n29, .null, .int 0, .null, .null]))] ++ (shapeW G n5 b11 b12 (0 : Int32) z0.1 z0.2)) ++ (shapeW G n17 b31 b32 (1 : Int32) z1.1 z1.2)) ++ (queueW G n29 b51 b52 b53 0 (fun _ => 0) (fun _ => 0) (fun _ => 0))) := hD
  refine lv_aload_n hx hb dX4_init_39 rfl (lv_at hl 0 rfl) ?_
  refine lv_bipush (v := (31 : Int32)) hx hb dX4_init_40 (by decide) ?_
  refine va_newa (atype := .int) (ty := .int) (a0 := (31, .inl (fun _ => 0))) hx hb (hts _ tw_53) rfl hK.1 hP hD hS hA (fun _ => rfl) (by decide) (by decide) (by decide) (Nat.le_of_ble_eq_true rfl) (Nat.le_of_ble_eq_true rfl) dX4_init_42 (fun n42 cA H hK1 hP hD hS => ?_)
  have ecA : cA = G.2.1 := g_cI (tys := []) hK hK1
  subst ecA
  have hP : va_P G.1 vwCl (((([(h0, .inr (3, [.int 0, .int 0, .int 0, .int 0, .ref n5, .ref n17, .ref n29, .null, .int 0, .null, .null]))] ++ (shapeW G n5 b11 b12 (0 : Int32) z0.1 z0.2)) ++ (shapeW G n17 b31 b32 (1 : Int32) z1.1 z1.2)) ++ (queueW G n29 b51 b52 b53 0 (fun _ => 0) (fun _ => 0) (fun _ => 0))) ++ [(n42, .inl (G.2.1, 31, .inl (fun _ => 0)))]) H := hP
  have hD : va_D (va_A [(h0, .inr (3, [.int 0, .int 0, .int 0, .int 0, .null, .null, .null, .null, .int 0, .null, .null]))] s.heap.size) (((([(h0, .inr (3, [.int 0, .int 0, .int 0, .int 0, .ref n5, .ref n17, .ref n29, .null, .int 0, .null, .null]))] ++ (shapeW G n5 b11 b12 (0 : Int32) z0.1 z0.2)) ++ (shapeW G n17 b31 b32 (1 : Int32) z1.1 z1.2)) ++ (queueW G n29 b51 b52 b53 0 (fun _ => 0) (fun _ => 0) (fun _ => 0))) ++ [(n42, .inl (G.2.1, 31, .inl (fun _ => 0)))]) := hD
  refine W.widen (k := 11) (n := 189) (Nat.le_of_ble_eq_true rfl) (Nat.le_of_ble_eq_true rfl) ?_
  refine va_putF (D := G.1) (ci := 3) (v := .ref n42) (ty := .array .int) (C := RX4) (T := TX4) (N := 11) hx hb hts hX4 tyX4 tyX4_ok nmX4 hown hK.1 hP hD hS 0 rfl rfl 7 (by decide) (hts _ tw_92) (fun _ h9 => h9) rfl hin rfl (by decide +kernel) rfl rfl (Nat.le_of_ble_eq_true rfl) dX4_init_44 (fun H locs hP hD hS => ?_)
  have hP : va_P G.1 vwCl (((([(h0, .inr (3, [.int 0, .int 0, .int 0, .int 0, .ref n5, .ref n17, .ref n29, .ref n42, .int 0, .null, .null]))] ++ (shapeW G n5 b11 b12 (0 : Int32) z0.1 z0.2)) ++ (shapeW G n17 b31 b32 (1 : Int32) z1.1 z1.2)) ++ (queueW G n29 b51 b52 b53 0 (fun _ => 0) (fun _ => 0) (fun _ => 0))) ++ [(n42, .inl (G.2.1, 31, .inl (fun _ => 0)))]) H := hP
  have hD : va_D (va_A [(h0, .inr (3, [.int 0, .int 0, .int 0, .int 0, .null, .null, .null, .null, .int 0, .null, .null]))] s.heap.size) (((([(h0, .inr (3, [.int 0, .int 0, .int 0, .int 0, .ref n5, .ref n17, .ref n29, .ref n42, .int 0, .null, .null]))] ++ (shapeW G n5 b11 b12 (0 : Int32) z0.1 z0.2)) ++ (shapeW G n17 b31 b32 (1 : Int32) z1.1 z1.2)) ++ (queueW G n29 b51 b52 b53 0 (fun _ => 0) (fun _ => 0) (fun _ => 0))) ++ [(n42, .inl (G.2.1, 31, .inl (fun _ => 0)))]) := hD
  refine lv_aload_n hx hb dX4_init_47 rfl (lv_at hl 0 rfl) ?_
  refine lv_iconst (v := (3 : Int32)) hx hb dX4_init_48 (by decide) ?_
  refine va_newa (atype := .int) (ty := .int) (a0 := (3, .inl (fun _ => 0))) hx hb (hts _ tw_53) rfl hK.1 hP hD hS hA (fun _ => rfl) (by decide) (by decide) (by decide) (Nat.le_of_ble_eq_true rfl) (Nat.le_of_ble_eq_true rfl) dX4_init_49 (fun n49 cA H hK1 hP hD hS => ?_)
  have ecA : cA = G.2.1 := g_cI (tys := []) hK hK1
  subst ecA
  have hP : va_P G.1 vwCl (((([(h0, .inr (3, [.int 0, .int 0, .int 0, .int 0, .ref n5, .ref n17, .ref n29, .ref n42, .int 0, .null, .null]))] ++ (shapeW G n5 b11 b12 (0 : Int32) z0.1 z0.2)) ++ (shapeW G n17 b31 b32 (1 : Int32) z1.1 z1.2)) ++ (queueW G n29 b51 b52 b53 0 (fun _ => 0) (fun _ => 0) (fun _ => 0))) ++ [(n42, .inl (G.2.1, 31, .inl (fun _ => 0))), (n49, .inl (G.2.1, 3, .inl (fun _ => 0)))]) H := hP
  have hD : va_D (va_A [(h0, .inr (3, [.int 0, .int 0, .int 0, .int 0, .null, .null, .null, .null, .int 0, .null, .null]))] s.heap.size) (((([(h0, .inr (3, [.int 0, .int 0, .int 0, .int 0, .ref n5, .ref n17, .ref n29, .ref n42, .int 0, .null, .null]))] ++ (shapeW G n5 b11 b12 (0 : Int32) z0.1 z0.2)) ++ (shapeW G n17 b31 b32 (1 : Int32) z1.1 z1.2)) ++ (queueW G n29 b51 b52 b53 0 (fun _ => 0) (fun _ => 0) (fun _ => 0))) ++ [(n42, .inl (G.2.1, 31, .inl (fun _ => 0))), (n49, .inl (G.2.1, 3, .inl (fun _ => 0)))]) := hD
  refine W.widen (k := 12) (n := 192) (Nat.le_of_ble_eq_true rfl) (Nat.le_of_ble_eq_true rfl) ?_
  refine va_putF (D := G.1) (ci := 3) (v := .ref n49) (ty := .array .int) (C := RX4) (T := TX4) (N := 11) hx hb hts hX4 tyX4 tyX4_ok nmX4 hown hK.1 hP hD hS 0 rfl rfl 9 (by decide) (hts _ tw_95) (fun _ h9 => h9) rfl hin rfl (by decide +kernel) rfl rfl (Nat.le_of_ble_eq_true rfl) dX4_init_51 (fun H locs hP hD hS => ?_)
  have hP : va_P G.1 vwCl (((([(h0, .inr (3, [.int 0, .int 0, .int 0, .int 0, .ref n5, .ref n17, .ref n29, .ref n42, .int 0, .ref n49, .null]))] ++ (shapeW G n5 b11 b12 (0 : Int32) z0.1 z0.2)) ++ (shapeW G n17 b31 b32 (1 : Int32) z1.1 z1.2)) ++ (queueW G n29 b51 b52 b53 0 (fun _ => 0) (fun _ => 0) (fun _ => 0))) ++ [(n42, .inl (G.2.1, 31, .inl (fun _ => 0))), (n49, .inl (G.2.1, 3, .inl (fun _ => 0)))]) H := hP
  have hD : va_D (va_A [(h0, .inr (3, [.int 0, .int 0, .int 0, .int 0, .null, .null, .null, .null, .int 0, .null, .null]))] s.heap.size) (((([(h0, .inr (3, [.int 0, .int 0, .int 0, .int 0, .ref n5, .ref n17, .ref n29, .ref n42, .int 0, .ref n49, .null]))] ++ (shapeW G n5 b11 b12 (0 : Int32) z0.1 z0.2)) ++ (shapeW G n17 b31 b32 (1 : Int32) z1.1 z1.2)) ++ (queueW G n29 b51 b52 b53 0 (fun _ => 0) (fun _ => 0) (fun _ => 0))) ++ [(n42, .inl (G.2.1, 31, .inl (fun _ => 0))), (n49, .inl (G.2.1, 3, .inl (fun _ => 0)))]) := hD
  refine lv_aload_n hx hb dX4_init_54 rfl (lv_at hl 0 rfl) ?_
  refine lv_iconst (v := (3 : Int32)) hx hb dX4_init_55 (by decide) ?_
  refine va_newa (atype := .int) (ty := .int) (a0 := (3, .inl (fun _ => 0))) hx hb (hts _ tw_53) rfl hK.1 hP hD hS hA (fun _ => rfl) (by decide) (by decide) (by decide) (Nat.le_of_ble_eq_true rfl) (Nat.le_of_ble_eq_true rfl) dX4_init_56 (fun n56 cA H hK1 hP hD hS => ?_)
  have ecA : cA = G.2.1 := g_cI (tys := []) hK hK1
  subst ecA
  have hP : va_P G.1 vwCl (((([(h0, .inr (3, [.int 0, .int 0, .int 0, .int 0, .ref n5, .ref n17, .ref n29, .ref n42, .int 0, .ref n49, .null]))] ++ (shapeW G n5 b11 b12 (0 : Int32) z0.1 z0.2)) ++ (shapeW G n17 b31 b32 (1 : Int32) z1.1 z1.2)) ++ (queueW G n29 b51 b52 b53 0 (fun _ => 0) (fun _ => 0) (fun _ => 0))) ++ [(n42, .inl (G.2.1, 31, .inl (fun _ => 0))), (n49, .inl (G.2.1, 3, .inl (fun _ => 0))), (n56, .inl (G.2.1, 3, .inl (fun _ => 0)))]) H := hP
  have hD : va_D (va_A [(h0, .inr (3, [.int 0, .int 0, .int 0, .int 0, .null, .null, .null, .null, .int 0, .null, .null]))] s.heap.size) (((([(h0, .inr (3, [.int 0, .int 0, .int 0, .int 0, .ref n5, .ref n17, .ref n29, .ref n42, .int 0, .ref n49, .null]))] ++ (shapeW G n5 b11 b12 (0 : Int32) z0.1 z0.2)) ++ (shapeW G n17 b31 b32 (1 : Int32) z1.1 z1.2)) ++ (queueW G n29 b51 b52 b53 0 (fun _ => 0) (fun _ => 0) (fun _ => 0))) ++ [(n42, .inl (G.2.1, 31, .inl (fun _ => 0))), (n49, .inl (G.2.1, 3, .inl (fun _ => 0))), (n56, .inl (G.2.1, 3, .inl (fun _ => 0)))]) := hD
  refine W.widen (k := 13) (n := 195) (Nat.le_of_ble_eq_true rfl) (Nat.le_of_ble_eq_true rfl) ?_
  refine va_putF (D := G.1) (ci := 3) (v := .ref n56) (ty := .array .int) (C := RX4) (T := TX4) (N := 11) hx hb hts hX4 tyX4 tyX4_ok nmX4 hown hK.1 hP hD hS 0 rfl rfl 10 (by decide) (hts _ tw_96) (fun _ h9 => h9) rfl hin rfl (by decide +kernel) rfl rfl (Nat.le_of_ble_eq_true rfl) dX4_init_58 (fun H locs hP hD hS => ?_)
  have hP : va_P G.1 vwCl (((([(h0, .inr (3, [.int 0, .int 0, .int 0, .int 0, .ref n5, .ref n17, .ref n29, .ref n42, .int 0, .ref n49, .ref n56]))] ++ (shapeW G n5 b11 b12 (0 : Int32) z0.1 z0.2)) ++ (shapeW G n17 b31 b32 (1 : Int32) z1.1 z1.2)) ++ (queueW G n29 b51 b52 b53 0 (fun _ => 0) (fun _ => 0) (fun _ => 0))) ++ [(n42, .inl (G.2.1, 31, .inl (fun _ => 0))), (n49, .inl (G.2.1, 3, .inl (fun _ => 0))), (n56, .inl (G.2.1, 3, .inl (fun _ => 0)))]) H := hP
  have hD : va_D (va_A [(h0, .inr (3, [.int 0, .int 0, .int 0, .int 0, .null, .null, .null, .null, .int 0, .null, .null]))] s.heap.size) (((([(h0, .inr (3, [.int 0, .int 0, .int 0, .int 0, .ref n5, .ref n17, .ref n29, .ref n42, .int 0, .ref n49, .ref n56]))] ++ (shapeW G n5 b11 b12 (0 : Int32) z0.1 z0.2)) ++ (shapeW G n17 b31 b32 (1 : Int32) z1.1 z1.2)) ++ (queueW G n29 b51 b52 b53 0 (fun _ => 0) (fun _ => 0) (fun _ => 0))) ++ [(n42, .inl (G.2.1, 31, .inl (fun _ => 0))), (n49, .inl (G.2.1, 3, .inl (fun _ => 0))), (n56, .inl (G.2.1, 3, .inl (fun _ => 0)))]) := hD
  exact W.vret hx hb hr (fun t ht _ => ⟨⟨(fun j => match j with | 0 => h0 | 1 => n5 | 2 => b11 | 3 => b12 | 4 => n17 | 5 => b31 | 6 => b32 | 7 => n29 | 8 => b51 | 9 => b52 | 10 => b53 | 11 => n42 | 12 => n49 | _ => n56), rfl, rfl, by rw [ht]; exact hP, hD⟩, hS.F ht⟩) hS.2.2 dX4_init_61
/-- TwoShapes as its constructor leaves it: the object, the history's array, now, trial, the orders, the four of the history -/
def tsN (G : gT) (x hi o0 o1 o2 : Nat) (an at' a0 a1 a2 a3 : Nat → Nat) (zov zor znv znr : Nat → Int32) : va_W :=
  (((((([(x, .inr (4, [.ref hi, .int 0, .ref (an 0), .ref (at' 0), .ref o0])), (hi, .inl (G.2.2.2, 4, .inr (.inr (.inr (.inr (g4 (a0 0) (a1 0) (a2 0) (a3 0)))))))] ++ tabW G an 0 0 0 0 zov zor znv znr 0 (fun _ => 0) (fun _ => 0) (fun _ => 0) (fun _ => 0) 0 (fun _ => 0) (fun _ => 0)) ++ tabW G at' 0 0 0 0 zov zor znv znr 0 (fun _ => 0) (fun _ => 0) (fun _ => 0) (fun _ => 0) 0 (fun _ => 0) (fun _ => 0)) ++ ordW G o0 o1 o2 0 (fun _ => 0) 0 0 0 0 (fun _ => 0)) ++ tabW G a0 0 0 0 0 zov zor znv znr 0 (fun _ => 0) (fun _ => 0) (fun _ => 0) (fun _ => 0) 0 (fun _ => 0) (fun _ => 0)) ++ tabW G a1 0 0 0 0 zov zor znv znr 0 (fun _ => 0) (fun _ => 0) (fun _ => 0) (fun _ => 0) 0 (fun _ => 0) (fun _ => 0)) ++ tabW G a2 0 0 0 0 zov zor znv znr 0 (fun _ => 0) (fun _ => 0) (fun _ => 0) (fun _ => 0) 0 (fun _ => 0) (fun _ => 0)) ++ tabW G a3 0 0 0 0 zov zor znv znr 0 (fun _ => 0) (fun _ => 0) (fun _ => 0) (fun _ => 0) 0 (fun _ => 0) (fun _ => 0)
set_option maxHeartbeats 8000000 in
set_option maxRecDepth 100000 in
theorem qX5_init (l : Launch) (G : gT) (h0 : Nat) {z0 z1 : (Nat → Int32) × (Nat → Int32)} (hcl : fX3_clear 0 (fun _ => 0) (fun _ => 0) = some z0) (hcl1 : fX3_clear 1 (fun _ => 0) (fun _ => 0) = some z1) : gN5 l G yX5_init wsX5_init { frames := 3, cells := 88, slots := 1311, locals := 66 } [.ref h0] [(h0, .inr (4, [.null, .int 0, .null, .null, .null]))] 88 1311 (S := Nat × Nat × Nat × Nat × (Nat → Nat) × (Nat → Nat) × (Nat → Nat) × (Nat → Nat) × (Nat → Nat) × (Nat → Nat)) (fun _ => 0 = 0) (fun u => tsN G h0 u.1 u.2.1 u.2.2.1 u.2.2.2.1 u.2.2.2.2.1 u.2.2.2.2.2.1 u.2.2.2.2.2.2.1 u.2.2.2.2.2.2.2.1 u.2.2.2.2.2.2.2.2.1 u.2.2.2.2.2.2.2.2.2 z0.1 z0.2 z1.1 z1.2) := by
  refine gN5.of (cc := cX5_init) (maxL := 2) (by decide) rfl (Nat.le_of_ble_eq_true rfl) ?_
  intro p e s m below meth c C0 hAO hin hP hD hS ls hl
  obtain ⟨hx, hb, hr, hts, hown, hlocks, hml, hK⟩ := id C0
  have hA : ∀ q : Nat, s.heap.size ≤ q → va_A [(h0, .inr (4, [.null, .int 0, .null, .null, .null]))] s.heap.size q := fun q h => Or.inr h
  have hl : lv_has ls 2 [(0, .ref h0)] := hl
  skip
  have hP : va_P G.1 vwCl [(h0, .inr (4, [.null, .int 0, .null, .null, .null]))] s.heap := hP
  refine lv_aload_n hx hb dX5_init_0 rfl (lv_at hl 0 rfl) ?_
  refine W.objInit hx hb hown (hts _ tw_19) (hts _ tw_20) (hts _ tw_21) rfl (by rw [hml]; exact hl.1) rfl dX5_init_1 (Nat.le_of_ble_eq_true rfl) (Nat.le_of_ble_eq_true rfl) ?_
  refine W.eq (g2 := F0 m 4 ls []) rfl ?_
  refine lv_aload_n hx hb dX5_init_4 rfl (lv_at hl 0 rfl) ?_
  refine lv_iconst (v := (4 : Int32)) hx hb dX5_init_5 (by decide) ?_
  refine va_newq (C := "TwoShapes$Table") (N' := 4) hx hb hown (hts _ tw_22) hAO hK.1 hP hD hS hA (by decide) (by decide) (by decide) (Nat.le_of_ble_eq_true rfl) (Nat.le_of_ble_eq_true rfl) dX5_init_6 (fun n6 cA H hK1 hP hD hS => ?_)
  have ecA : cA = G.2.2.2 := g_cT (tys := []) hK hK1
  subst ecA
  have hP : va_P G.1 vwCl [(h0, .inr (4, [.null, .int 0, .null, .null, .null])), (n6, .inl (G.2.2.2, 4, .inr (.inr (.inr (.inr (fun _ => none))))))] H := hP
  have hD : va_D (va_A [(h0, .inr (4, [.null, .int 0, .null, .null, .null]))] s.heap.size) [(h0, .inr (4, [.null, .int 0, .null, .null, .null])), (n6, .inl (G.2.2.2, 4, .inr (.inr (.inr (.inr (fun _ => none))))))] := hD
  refine W.widen (k := 1) (n := 4) (Nat.le_of_ble_eq_true rfl) (Nat.le_of_ble_eq_true rfl) ?_
  refine va_putF (D := G.1) (ci := 4) (v := .ref n6) (ty := .array (.object "TwoShapes$Table")) (C := RX5) (T := TX5) (N := 5) hx hb hts hX5 tyX5 tyX5_ok nmX5 hown hK.1 hP hD hS 0 rfl rfl 0 (by decide) (hts _ tw_144) (fun _ h9 => h9) rfl hin rfl (by decide +kernel) rfl rfl (Nat.le_of_ble_eq_true rfl) dX5_init_9 (fun H locs hP hD hS => ?_)
  have hP : va_P G.1 vwCl [(h0, .inr (4, [.ref n6, .int 0, .null, .null, .null])), (n6, .inl (G.2.2.2, 4, .inr (.inr (.inr (.inr (fun _ => none))))))] H := hP
  have hD : va_D (va_A [(h0, .inr (4, [.null, .int 0, .null, .null, .null]))] s.heap.size) [(h0, .inr (4, [.ref n6, .int 0, .null, .null, .null])), (n6, .inl (G.2.2.2, 4, .inr (.inr (.inr (.inr (fun _ => none))))))] := hD
  refine lv_aload_n hx hb dX5_init_12 rfl (lv_at hl 0 rfl) ?_
  refine va_new (ci := 3) (fs := [.int 0, .int 0, .int 0, .int 0, .null, .null, .null, .null, .int 0, .null, .null]) (C := RX4) (T := TX4) (N := 11) hx hb hts hX4 tyX4 tyX4_ok hown (hts _ tw_22) (hts _ tw_24) (hts _ tw_6) hK.1 hP hD hS hA rfl (fun j hj => by rcases (show j = 0 ∨ j = 1 ∨ j = 2 ∨ j = 3 ∨ j = 4 ∨ j = 5 ∨ j = 6 ∨ j = 7 ∨ j = 8 ∨ j = 9 ∨ j = 10 by omega) with rfl | rfl | rfl | rfl | rfl | rfl | rfl | rfl | rfl | rfl | rfl <;> rfl) (Nat.le_of_ble_eq_true rfl) (Nat.le_of_ble_eq_true rfl) dX5_init_13 (fun n13_0 H hP hD hS => ?_)
  have hP : va_P G.1 vwCl [(h0, .inr (4, [.ref n6, .int 0, .null, .null, .null])), (n6, .inl (G.2.2.2, 4, .inr (.inr (.inr (.inr (fun _ => none)))))), (n13_0, .inr (3, [.int 0, .int 0, .int 0, .int 0, .null, .null, .null, .null, .int 0, .null, .null]))] H := hP
  have hD : va_D (va_A [(h0, .inr (4, [.null, .int 0, .null, .null, .null]))] s.heap.size) [(h0, .inr (4, [.ref n6, .int 0, .null, .null, .null])), (n6, .inl (G.2.2.2, 4, .inr (.inr (.inr (.inr (fun _ => none)))))), (n13_0, .inr (3, [.int 0, .int 0, .int 0, .int 0, .null, .null, .null, .null, .int 0, .null, .null]))] := hD
  refine W.widen (k := 2) (n := 15) (Nat.le_of_ble_eq_true rfl) (Nat.le_of_ble_eq_true rfl) ?_
  refine lv_dup hx hb dX5_init_16 rfl ?_
  have hPc := hP.sub (ws' := [(n13_0, .inr (3, [.int 0, .int 0, .int 0, .int 0, .null, .null, .null, .null, .int 0, .null, .null]))]) [2] rfl
  have hDc := hD.sub (ws' := [(n13_0, .inr (3, [.int 0, .int 0, .int 0, .int 0, .null, .null, .null, .null, .int 0, .null, .null]))]) [2] (by decide) rfl
  have hFc := va_free (wc := [(n13_0, .inr (3, [.int 0, .int 0, .int 0, .int 0, .null, .null, .null, .null, .int 0, .null, .null]))]) hD hS hA [2] rfl
  refine va_callv (va_runIN (As := []) (rest := [.ref n13_0, .ref h0]) ⟨hx, hb, hml, hown, hts⟩ (qX4_init l G n13_0 hcl hcl1 H.size) ⟨va_cnB 0 hts (TB_C TB_id tw_27) rfl rfl rfl hK.2.2.2.1 (hts _ tw_6) (by decide +kernel) ⟨Nat.le_of_ble_eq_true rfl, Nat.le_of_ble_eq_true rfl⟩, rfl, (hts _ tw_26)⟩ ⟨g_blind, fun U hU hW => ⟨rfl, by rw [hU], by rw [hU]; exact hPc, hK.warm hW, hDc.weaken (fun _ _ _ _ => trivial)⟩⟩ rfl rfl hl.1 rfl (lv_room (Nat.le_of_ble_eq_true rfl)) dX5_init_17 ⟨Nat.le_of_ble_eq_true rfl, Nat.le_of_ble_eq_true rfl⟩) hS (fun q _ h => hFc q h) hFc (fun u t H1 locs ht hvm hw hB hz1 hk1 hS => ?_)
  obtain ⟨b1, rfl⟩ : ∃ z, z = u := ⟨_, rfl⟩
  have hw : b1 0 = n13_0 := hw
  subst hw
  obtain ⟨hP1, hD1⟩ := hB
  rw [ht] at hP1
  obtain ⟨hP, hD⟩ := va_join (wr := [(h0, .inr (4, [.ref n6, .int 0, .null, .null, .null])), (n6, .inl (G.2.2.2, 4, .inr (.inr (.inr (.inr (fun _ => none))))))]) (w1 := (tabW G b1 0 0 0 0 z0.1 z0.2 z1.1 z1.2 0 (fun _ => 0) (fun _ => 0) (fun _ => 0) (fun _ => 0) 0 (fun _ => 0) (fun _ => 0))) hP hD [2] [0, 1] rfl rfl (by decide) (by decide) hk1 hFc hP1 hD1
  generalize H1 = H at hP hS ⊢
  have hP : va_P G.1 vwCl ([(h0, .inr (4, [.ref n6, .int 0, .null, .null, .null])), (n6, .inl (G.2.2.2, 4, .inr (.inr (.inr (.inr (fun _ => none))))))] ++ (tabW G b1 0 0 0 0 z0.1 z0.2 z1.1 z1.2 0 (fun _ => 0) (fun _ => 0) (fun _ => 0) (fun _ => 0) 0 (fun _ => 0) (fun _ => 0))) H := hP
  have hD : va_D (va_A [(h0, .inr (4, [.null, .int 0, .null, .null, .null]))] s.heap.size) ([(h0, .inr (4, [.ref n6, .int 0, .null, .null, .null])), (n6, .inl (G.2.2.2, 4, .inr (.inr (.inr (.inr (fun _ => none))))))] ++ (tabW G b1 0 0 0 0 z0.1 z0.2 z1.1 z1.2 0 (fun _ => 0) (fun _ => 0) (fun _ => 0) (fun _ => 0) 0 (fun _ => 0) (fun _ => 0))) := hD
  refine W.widen (k := 15) (n := 210) (Nat.le_of_ble_eq_true rfl) (Nat.le_of_ble_eq_true rfl) ?_
  refine va_put (D := G.1) (ci := 4) (v := .ref (b1 0)) (ty := .object "TwoShapes$Table") (C := RX5) (T := TX5) (N := 5) hx hb hts hX5 tyX5 tyX5_ok nmX5 hown hK.1 hP hD hS 0 rfl rfl 2 (by decide) (hts _ tw_146) (fun _ h9 => h9) rfl (by decide +kernel) rfl rfl (Nat.le_of_ble_eq_true rfl) dX5_init_20 (fun H locs hP hD hS => ?_)
  have hP : va_P G.1 vwCl ([(h0, .inr (4, [.ref n6, .int 0, .ref (b1 0), .null, .null])), (n6, .inl (G.2.2.2, 4, .inr (.inr (.inr (.inr (fun _ => none))))))] ++ (tabW G b1 0 0 0 0 z0.1 z0.2 z1.1 z1.2 0 (fun _ => 0) (fun _ => 0) (fun _ => 0) (fun _ => 0) 0 (fun _ => 0) (fun _ => 0))) H := hP
  have hD : va_D (va_A [(h0, .inr (4, [.null, .int 0, .null, .null, .null]))] s.heap.size) ([(h0, .inr (4, [.ref n6, .int 0, .ref (b1 0), .null, .null])), (n6, .inl (G.2.2.2, 4, .inr (.inr (.inr (.inr (fun _ => none))))))] ++ (tabW G b1 0 0 0 0 z0.1 z0.2 z1.1 z1.2 0 (fun _ => 0) (fun _ => 0) (fun _ => 0) (fun _ => 0) 0 (fun _ => 0) (fun _ => 0))) := hD
  refine lv_aload_n hx hb dX5_init_23 rfl (lv_at hl 0 rfl) ?_
  refine va_new (ci := 3) (fs := [.int 0, .int 0, .int 0, .int 0, .null, .null, .null, .null, .int 0, .null, .null]) (C := RX4) (T := TX4) (N := 11) hx hb hts hX4 tyX4 tyX4_ok hown (hts _ tw_22) (hts _ tw_24) (hts _ tw_6) hK.1 hP hD hS hA rfl (fun j hj => by rcases (show j = 0 ∨ j = 1 ∨ j = 2 ∨ j = 3 ∨ j = 4 ∨ j = 5 ∨ j = 6 ∨ j = 7 ∨ j = 8 ∨ j = 9 ∨ j = 10 by omega) with rfl | rfl | rfl | rfl | rfl | rfl | rfl | rfl | rfl | rfl | rfl <;> rfl) (Nat.le_of_ble_eq_true rfl) (Nat.le_of_ble_eq_true rfl) dX5_init_24 (fun n24_2 H hP hD hS => ?_)
  have hP : va_P G.1 vwCl (([(h0, .inr (4, [.ref n6, .int 0, .ref (b1 0), .null, .null])), (n6, .inl (G.2.2.2, 4, .inr (.inr (.inr (.inr (fun _ => none))))))] ++ (tabW G b1 0 0 0 0 z0.1 z0.2 z1.1 z1.2 0 (fun _ => 0) (fun _ => 0) (fun _ => 0) (fun _ => 0) 0 (fun _ => 0) (fun _ => 0))) ++ [(n24_2, .inr (3, [.int 0, .int 0, .int 0, .int 0, .null, .null, .null, .null, .int 0, .null, .null]))]) H := hP
  have hD : va_D (va_A [(h0, .inr (4, [.null, .int 0, .null, .null, .null]))] s.heap.size) (([(h0, .inr (4, [.ref n6, .int 0, .ref (b1 0), .null, .null])), (n6, .inl (G.2.2.2, 4, .inr (.inr (.inr (.inr (fun _ => none))))))] ++ (tabW G b1 0 0 0 0 z0.1 z0.2 z1.1 z1.2 0 (fun _ => 0) (fun _ => 0) (fun _ => 0) (fun _ => 0) 0 (fun _ => 0) (fun _ => 0))) ++ [(n24_2, .inr (3, [.int 0, .int 0, .int 0, .int 0, .null, .null, .null, .null, .int 0, .null, .null]))]) := hD
  refine W.widen (k := 16) (n := 221) (Nat.le_of_ble_eq_true rfl) (Nat.le_of_ble_eq_true rfl) ?_
  refine lv_dup hx hb dX5_init_27 rfl ?_
  have hPc := hP.sub (ws' := [(n24_2, .inr (3, [.int 0, .int 0, .int 0, .int 0, .null, .null, .null, .null, .int 0, .null, .null]))]) [16] rfl
  have hDc := hD.sub (ws' := [(n24_2, .inr (3, [.int 0, .int 0, .int 0, .int 0, .null, .null, .null, .null, .int 0, .null, .null]))]) [16] (by decide) rfl
  have hFc := va_free (wc := [(n24_2, .inr (3, [.int 0, .int 0, .int 0, .int 0, .null, .null, .null, .null, .int 0, .null, .null]))]) hD hS hA [16] rfl
  refine va_callv (va_runIN (As := []) (rest := [.ref n24_2, .ref h0]) ⟨hx, hb, hml, hown, hts⟩ (qX4_init l G n24_2 hcl hcl1 H.size) ⟨va_cnB 0 hts (TB_C TB_id tw_27) rfl rfl rfl hK.2.2.2.1 (hts _ tw_6) (by decide +kernel) ⟨Nat.le_of_ble_eq_true rfl, Nat.le_of_ble_eq_true rfl⟩, rfl, (hts _ tw_26)⟩ ⟨g_blind, fun U hU hW => ⟨rfl, by rw [hU], by rw [hU]; exact hPc, hK.warm hW, hDc.weaken (fun _ _ _ _ => trivial)⟩⟩ rfl rfl hl.1 rfl (lv_room (Nat.le_of_ble_eq_true rfl)) dX5_init_28 ⟨Nat.le_of_ble_eq_true rfl, Nat.le_of_ble_eq_true rfl⟩) hS (fun q _ h => hFc q h) hFc (fun u t H1 locs ht hvm hw hB hz1 hk1 hS => ?_)
  obtain ⟨b3, rfl⟩ : ∃ z, z = u := ⟨_, rfl⟩
  have hw : b3 0 = n24_2 := hw
  subst hw
  obtain ⟨hP1, hD1⟩ := hB
  rw [ht] at hP1
  obtain ⟨hP, hD⟩ := va_join (wr := ([(h0, .inr (4, [.ref n6, .int 0, .ref (b1 0), .null, .null])), (n6, .inl (G.2.2.2, 4, .inr (.inr (.inr (.inr (fun _ => none))))))] ++ (tabW G b1 0 0 0 0 z0.1 z0.2 z1.1 z1.2 0 (fun _ => 0) (fun _ => 0) (fun _ => 0) (fun _ => 0) 0 (fun _ => 0) (fun _ => 0)))) (w1 := (tabW G b3 0 0 0 0 z0.1 z0.2 z1.1 z1.2 0 (fun _ => 0) (fun _ => 0) (fun _ => 0) (fun _ => 0) 0 (fun _ => 0) (fun _ => 0))) hP hD [16] [0, 1, 2, 3, 4, 5, 6, 7, 8, 9, 10, 11, 12, 13, 14, 15] rfl rfl (by decide) (by decide) hk1 hFc hP1 hD1
  generalize H1 = H at hP hS ⊢
  have hP : va_P G.1 vwCl (([(h0, .inr (4, [.ref n6, .int 0, .ref (b1 0), .null, .null])), (n6, .inl (G.2.2.2, 4, .inr (.inr (.inr (.inr (fun _ => none))))))] ++ (tabW G b1 0 0 0 0 z0.1 z0.2 z1.1 z1.2 0 (fun _ => 0) (fun _ => 0) (fun _ => 0) (fun _ => 0) 0 (fun _ => 0) (fun _ => 0))) ++ (tabW G b3 0 0 0 0 z0.1 z0.2 z1.1 z1.2 0 (fun _ => 0) (fun _ => 0) (fun _ => 0) (fun _ => 0) 0 (fun _ => 0) (fun _ => 0))) H := hP
  have hD : va_D (va_A [(h0, .inr (4, [.null, .int 0, .null, .null, .null]))] s.heap.size) (([(h0, .inr (4, [.ref n6, .int 0, .ref (b1 0), .null, .null])), (n6, .inl (G.2.2.2, 4, .inr (.inr (.inr (.inr (fun _ => none))))))] ++ (tabW G b1 0 0 0 0 z0.1 z0.2 z1.1 z1.2 0 (fun _ => 0) (fun _ => 0) (fun _ => 0) (fun _ => 0) 0 (fun _ => 0) (fun _ => 0))) ++ (tabW G b3 0 0 0 0 z0.1 z0.2 z1.1 z1.2 0 (fun _ => 0) (fun _ => 0) (fun _ => 0) (fun _ => 0) 0 (fun _ => 0) (fun _ => 0))) := hD
  refine W.widen (k := 29) (n := 416) (Nat.le_of_ble_eq_true rfl) (Nat.le_of_ble_eq_true rfl) ?_
  refine va_put (D := G.1) (ci := 4) (v := .ref (b3 0)) (ty := .object "TwoShapes$Table") (C := RX5) (T := TX5) (N := 5) hx hb hts hX5 tyX5 tyX5_ok nmX5 hown hK.1 hP hD hS 0 rfl rfl 3 (by decide) (hts _ tw_147) (fun _ h9 => h9) rfl (by decide +kernel) rfl rfl (Nat.le_of_ble_eq_true rfl) dX5_init_31 (fun H locs hP hD hS => ?_)
  have hP : va_P G.1 vwCl (([(h0, .inr (4, [.ref n6, .int 0, .ref (b1 0), .ref (b3 0), .null])), (n6, .inl (G.2.2.2, 4, .inr (.inr (.inr (.inr (fun _ => none))))))] ++ (tabW G b1 0 0 0 0 z0.1 z0.2 z1.1 z1.2 0 (fun _ => 0) (fun _ => 0) (fun _ => 0) (fun _ => 0) 0 (fun _ => 0) (fun _ => 0))) ++ (tabW G b3 0 0 0 0 z0.1 z0.2 z1.1 z1.2 0 (fun _ => 0) (fun _ => 0) (fun _ => 0) (fun _ => 0) 0 (fun _ => 0) (fun _ => 0))) H := hP
  have hD : va_D (va_A [(h0, .inr (4, [.null, .int 0, .null, .null, .null]))] s.heap.size) (([(h0, .inr (4, [.ref n6, .int 0, .ref (b1 0), .ref (b3 0), .null])), (n6, .inl (G.2.2.2, 4, .inr (.inr (.inr (.inr (fun _ => none))))))] ++ (tabW G b1 0 0 0 0 z0.1 z0.2 z1.1 z1.2 0 (fun _ => 0) (fun _ => 0) (fun _ => 0) (fun _ => 0) 0 (fun _ => 0) (fun _ => 0))) ++ (tabW G b3 0 0 0 0 z0.1 z0.2 z1.1 z1.2 0 (fun _ => 0) (fun _ => 0) (fun _ => 0) (fun _ => 0) 0 (fun _ => 0) (fun _ => 0))) := hD
  refine lv_aload_n hx hb dX5_init_34 rfl (lv_at hl 0 rfl) ?_
  refine va_new (ci := 0) (fs := [.int 0, .null, .int 0, .int 0, .int 0, .int 0, .null]) (C := RX0) (T := TX0) (N := 7) hx hb hts hX0 tyX0 tyX0_ok hown (hts _ tw_120) (hts _ tw_121) (hts _ tw_9) hK.1 hP hD hS hA rfl (fun j hj => by rcases (show j = 0 ∨ j = 1 ∨ j = 2 ∨ j = 3 ∨ j = 4 ∨ j = 5 ∨ j = 6 by omega) with rfl | rfl | rfl | rfl | rfl | rfl | rfl <;> rfl) (Nat.le_of_ble_eq_true rfl) (Nat.le_of_ble_eq_true rfl) dX5_init_35 (fun n35_4 H hP hD hS => ?_)
  have hP : va_P G.1 vwCl ((([(h0, .inr (4, [.ref n6, .int 0, .ref (b1 0), .ref (b3 0), .null])), (n6, .inl (G.2.2.2, 4, .inr (.inr (.inr (.inr (fun _ => none))))))] ++ (tabW G b1 0 0 0 0 z0.1 z0.2 z1.1 z1.2 0 (fun _ => 0) (fun _ => 0) (fun _ => 0) (fun _ => 0) 0 (fun _ => 0) (fun _ => 0))) ++ (tabW G b3 0 0 0 0 z0.1 z0.2 z1.1 z1.2 0 (fun _ => 0) (fun _ => 0) (fun _ => 0) (fun _ => 0) 0 (fun _ => 0) (fun _ => 0))) ++ [(n35_4, .inr (0, [.int 0, .null, .int 0, .int 0, .int 0, .int 0, .null]))]) H := hP
  have hD : va_D (va_A [(h0, .inr (4, [.null, .int 0, .null, .null, .null]))] s.heap.size) ((([(h0, .inr (4, [.ref n6, .int 0, .ref (b1 0), .ref (b3 0), .null])), (n6, .inl (G.2.2.2, 4, .inr (.inr (.inr (.inr (fun _ => none))))))] ++ (tabW G b1 0 0 0 0 z0.1 z0.2 z1.1 z1.2 0 (fun _ => 0) (fun _ => 0) (fun _ => 0) (fun _ => 0) 0 (fun _ => 0) (fun _ => 0))) ++ (tabW G b3 0 0 0 0 z0.1 z0.2 z1.1 z1.2 0 (fun _ => 0) (fun _ => 0) (fun _ => 0) (fun _ => 0) 0 (fun _ => 0) (fun _ => 0))) ++ [(n35_4, .inr (0, [.int 0, .null, .int 0, .int 0, .int 0, .int 0, .null]))]) := hD
  refine W.widen (k := 30) (n := 423) (Nat.le_of_ble_eq_true rfl) (Nat.le_of_ble_eq_true rfl) ?_
  refine lv_dup hx hb dX5_init_38 rfl ?_
  have hPc := hP.sub (ws' := [(n35_4, .inr (0, [.int 0, .null, .int 0, .int 0, .int 0, .int 0, .null]))]) [30] rfl
  have hDc := hD.sub (ws' := [(n35_4, .inr (0, [.int 0, .null, .int 0, .int 0, .int 0, .int 0, .null]))]) [30] (by decide) rfl
  have hFc := va_free (wc := [(n35_4, .inr (0, [.int 0, .null, .int 0, .int 0, .int 0, .int 0, .null]))]) hD hS hA [30] rfl
  refine va_callv (va_runIN (As := []) (rest := [.ref n35_4, .ref h0]) ⟨hx, hb, hml, hown, hts⟩ (qX0_init l G n35_4 H.size) ⟨va_cnB 0 hts (TB_C TB_id tw_124) rfl rfl rfl hK.2.2.2.2.1 (hts _ tw_9) (by decide +kernel) ⟨Nat.le_of_ble_eq_true rfl, Nat.le_of_ble_eq_true rfl⟩, rfl, (hts _ tw_123)⟩ ⟨g_blind, fun U hU hW => ⟨rfl, by rw [hU], by rw [hU]; exact hPc, hK.warm hW, hDc.weaken (fun _ _ _ _ => trivial)⟩⟩ rfl rfl hl.1 rfl (lv_room (Nat.le_of_ble_eq_true rfl)) dX5_init_39 ⟨Nat.le_of_ble_eq_true rfl, Nat.le_of_ble_eq_true rfl⟩) hS (fun q _ h => hFc q h) hFc (fun u t H1 locs ht hvm hw hB hz1 hk1 hS => ?_)
  obtain ⟨b51, b52⟩ := u
  obtain ⟨hP1, hD1⟩ := hB
  rw [ht] at hP1
  obtain ⟨hP, hD⟩ := va_join (wr := (([(h0, .inr (4, [.ref n6, .int 0, .ref (b1 0), .ref (b3 0), .null])), (n6, .inl (G.2.2.2, 4, .inr (.inr (.inr (.inr (fun _ => none))))))] ++ (tabW G b1 0 0 0 0 z0.1 z0.2 z1.1 z1.2 0 (fun _ => 0) (fun _ => 0) (fun _ => 0) (fun _ => 0) 0 (fun _ => 0) (fun _ => 0))) ++ (tabW G b3 0 0 0 0 z0.1 z0.2 z1.1 z1.2 0 (fun _ => 0) (fun _ => 0) (fun _ => 0) (fun _ => 0) 0 (fun _ => 0) (fun _ => 0)))) (w1 := (ordW G n35_4 b51 b52 0 (fun _ => 0) 0 0 0 0 (fun _ => 0))) hP hD [30] [0, 1, 2, 3, 4, 5, 6, 7, 8, 9, 10, 11, 12, 13, 14, 15, 16, 17, 18, 19, 20, 21, 22, 23, 24, 25, 26, 27, 28, 29] rfl rfl (by decide) (by decide) hk1 hFc hP1 hD1
  generalize H1 = H at hP hS ⊢
  have hP : va_P G.1 vwCl ((([(h0, .inr (4, [.ref n6, .int 0, .ref (b1 0), .ref (b3 0), .null])), (n6, .inl (G.2.2.2, 4, .inr (.inr (.inr (.inr (fun _ => none))))))] ++ (tabW G b1 0 0 0 0 z0.1 z0.2 z1.1 z1.2 0 (fun _ => 0) (fun _ => 0) (fun _ => 0) (fun _ => 0) 0 (fun _ => 0) (fun _ => 0))) ++ (tabW G b3 0 0 0 0 z0.1 z0.2 z1.1 z1.2 0 (fun _ => 0) (fun _ => 0) (fun _ => 0) (fun _ => 0) 0 (fun _ => 0) (fun _ => 0))) ++ (ordW G n35_4 b51 b52 0 (fun _ => 0) 0 0 0 0 (fun _ => 0))) H := hP
  have hD : va_D (va_A [(h0, .inr (4, [.null, .int 0, .null, .null, .null]))] s.heap.size) ((([(h0, .inr (4, [.ref n6, .int 0, .ref (b1 0), .ref (b3 0), .null])), (n6, .inl (G.2.2.2, 4, .inr (.inr (.inr (.inr (fun _ => none))))))] ++ (tabW G b1 0 0 0 0 z0.1 z0.2 z1.1 z1.2 0 (fun _ => 0) (fun _ => 0) (fun _ => 0) (fun _ => 0) 0 (fun _ => 0) (fun _ => 0))) ++ (tabW G b3 0 0 0 0 z0.1 z0.2 z1.1 z1.2 0 (fun _ => 0) (fun _ => 0) (fun _ => 0) (fun _ => 0) 0 (fun _ => 0) (fun _ => 0))) ++ (ordW G n35_4 b51 b52 0 (fun _ => 0) 0 0 0 0 (fun _ => 0))) := hD
  refine W.widen (k := 32) (n := 487) (Nat.le_of_ble_eq_true rfl) (Nat.le_of_ble_eq_true rfl) ?_
  refine va_putF (D := G.1) (ci := 4) (v := .ref n35_4) (ty := .object "TwoShapes$Orders") (C := RX5) (T := TX5) (N := 5) hx hb hts hX5 tyX5 tyX5_ok nmX5 hown hK.1 hP hD hS 0 rfl rfl 4 (by decide) (hts _ tw_148) (fun _ h9 => h9) rfl hin rfl (by decide +kernel) rfl rfl (Nat.le_of_ble_eq_true rfl) dX5_init_42 (fun H locs hP hD hS => ?_)
  have hP : va_P G.1 vwCl ((([(h0, .inr (4, [.ref n6, .int 0, .ref (b1 0), .ref (b3 0), .ref n35_4])), (n6, .inl (G.2.2.2, 4, .inr (.inr (.inr (.inr (fun _ => none))))))] ++ (tabW G b1 0 0 0 0 z0.1 z0.2 z1.1 z1.2 0 (fun _ => 0) (fun _ => 0) (fun _ => 0) (fun _ => 0) 0 (fun _ => 0) (fun _ => 0))) ++ (tabW G b3 0 0 0 0 z0.1 z0.2 z1.1 z1.2 0 (fun _ => 0) (fun _ => 0) (fun _ => 0) (fun _ => 0) 0 (fun _ => 0) (fun _ => 0))) ++ (ordW G n35_4 b51 b52 0 (fun _ => 0) 0 0 0 0 (fun _ => 0))) H := hP
  have hD : va_D (va_A [(h0, .inr (4, [.null, .int 0, .null, .null, .null]))] s.heap.size) ((([(h0, .inr (4, [.ref n6, .int 0, .ref (b1 0), .ref (b3 0), .ref n35_4])), (n6, .inl (G.2.2.2, 4, .inr (.inr (.inr (.inr (fun _ => none))))))] ++ (tabW G b1 0 0 0 0 z0.1 z0.2 z1.1 z1.2 0 (fun _ => 0) (fun _ => 0) (fun _ => 0) (fun _ => 0) 0 (fun _ => 0) (fun _ => 0))) ++ (tabW G b3 0 0 0 0 z0.1 z0.2 z1.1 z1.2 0 (fun _ => 0) (fun _ => 0) (fun _ => 0) (fun _ => 0) 0 (fun _ => 0) (fun _ => 0))) ++ (ordW G n35_4 b51 b52 0 (fun _ => 0) 0 0 0 0 (fun _ => 0))) := hD
  refine lv_iconst (v := (0 : Int32)) hx hb dX5_init_45 (by decide) ?_
  refine lv_istore_n (lv' := [(1, .int (0 : Int32)), (0, .ref h0)]) hx hb dX5_init_46 rfl hl (by decide) rfl (fun ls hl => ?_)
  refine lv_iload_n hx hb dX5_init_47 rfl (lv_at hl 0 rfl) ?_
  refine lv_iconst (v := (4 : Int32)) hx hb dX5_init_48 (by decide) ?_
  refine lv_icmp_ge (tgt := 71) hx hb dX5_init_49 (by decide) (fun c_ => absurd c_ (by decide)) (fun _ => ?_)
  refine lv_aload_n hx hb dX5_init_52 rfl (lv_at hl 1 rfl) ?_
  refine va_get (D := G.1) (ci := 4) (v := .ref n6) (C := RX5) (T := TX5) (N := 5) hx hb hts hX5 hown hK.1 hP 0 rfl rfl 0 (by decide) (hts _ tw_144) (fun _ h9 => h9) rfl dX5_init_53 ?_
  refine lv_iload_n hx hb dX5_init_56 rfl (lv_at hl 0 rfl) ?_
  refine va_new (ci := 3) (fs := [.int 0, .int 0, .int 0, .int 0, .null, .null, .null, .null, .int 0, .null, .null]) (C := RX4) (T := TX4) (N := 11) hx hb hts hX4 tyX4 tyX4_ok hown (hts _ tw_22) (hts _ tw_24) (hts _ tw_6) hK.1 hP hD hS hA rfl (fun j hj => by rcases (show j = 0 ∨ j = 1 ∨ j = 2 ∨ j = 3 ∨ j = 4 ∨ j = 5 ∨ j = 6 ∨ j = 7 ∨ j = 8 ∨ j = 9 ∨ j = 10 by omega) with rfl | rfl | rfl | rfl | rfl | rfl | rfl | rfl | rfl | rfl | rfl <;> rfl) (Nat.le_of_ble_eq_true rfl) (Nat.le_of_ble_eq_true rfl) dX5_init_57 (fun n57_6 H hP hD hS => ?_)
  have hP : va_P G.1 vwCl (((([(h0, .inr (4, [.ref n6, .int 0, .ref (b1 0), .ref (b3 0), .ref n35_4])), (n6, .inl (G.2.2.2, 4, .inr (.inr (.inr (.inr (fun _ => none))))))] ++ (tabW G b1 0 0 0 0 z0.1 z0.2 z1.1 z1.2 0 (fun _ => 0) (fun _ => 0) (fun _ => 0) (fun _ => 0) 0 (fun _ => 0) (fun _ => 0))) ++ (tabW G b3 0 0 0 0 z0.1 z0.2 z1.1 z1.2 0 (fun _ => 0) (fun _ => 0) (fun _ => 0) (fun _ => 0) 0 (fun _ => 0) (fun _ => 0))) ++ (ordW G n35_4 b51 b52 0 (fun _ => 0) 0 0 0 0 (fun _ => 0))) ++ [(n57_6, .inr (3, [.int 0, .int 0, .int 0, .int 0, .null, .null, .null, .null, .int 0, .null, .null]))]) H := hP
  have hD : va_D (va_A [(h0, .inr (4, [.null, .int 0, .null, .null, .null]))] s.heap.size) (((([(h0, .inr (4, [.ref n6, .int 0, .ref (b1 0), .ref (b3 0), .ref n35_4])), (n6, .inl (G.2.2.2, 4, .inr (.inr (.inr (.inr (fun _ => none))))))] ++ (tabW G b1 0 0 0 0 z0.1 z0.2 z1.1 z1.2 0 (fun _ => 0) (fun _ => 0) (fun _ => 0) (fun _ => 0) 0 (fun _ => 0) (fun _ => 0))) ++ (tabW G b3 0 0 0 0 z0.1 z0.2 z1.1 z1.2 0 (fun _ => 0) (fun _ => 0) (fun _ => 0) (fun _ => 0) 0 (fun _ => 0) (fun _ => 0))) ++ (ordW G n35_4 b51 b52 0 (fun _ => 0) 0 0 0 0 (fun _ => 0))) ++ [(n57_6, .inr (3, [.int 0, .int 0, .int 0, .int 0, .null, .null, .null, .null, .int 0, .null, .null]))]) := hD
  refine W.widen (k := 33) (n := 498) (Nat.le_of_ble_eq_true rfl) (Nat.le_of_ble_eq_true rfl) ?_
  refine lv_dup hx hb dX5_init_60 rfl ?_
  have hPc := hP.sub (ws' := [(n57_6, .inr (3, [.int 0, .int 0, .int 0, .int 0, .null, .null, .null, .null, .int 0, .null, .null]))]) [33] rfl
  have hDc := hD.sub (ws' := [(n57_6, .inr (3, [.int 0, .int 0, .int 0, .int 0, .null, .null, .null, .null, .int 0, .null, .null]))]) [33] (by decide) rfl
  have hFc := va_free (wc := [(n57_6, .inr (3, [.int 0, .int 0, .int 0, .int 0, .null, .null, .null, .null, .int 0, .null, .null]))]) hD hS hA [33] rfl
  refine va_callv (va_runIN (As := []) (rest := [.ref n57_6, .int (0 : Int32), .ref n6]) ⟨hx, hb, hml, hown, hts⟩ (qX4_init l G n57_6 hcl hcl1 H.size) ⟨va_cnB 0 hts (TB_C TB_id tw_27) rfl rfl rfl hK.2.2.2.1 (hts _ tw_6) (by decide +kernel) ⟨Nat.le_of_ble_eq_true rfl, Nat.le_of_ble_eq_true rfl⟩, rfl, (hts _ tw_26)⟩ ⟨g_blind, fun U hU hW => ⟨rfl, by rw [hU], by rw [hU]; exact hPc, hK.warm hW, hDc.weaken (fun _ _ _ _ => trivial)⟩⟩ rfl rfl hl.1 rfl (lv_room (Nat.le_of_ble_eq_true rfl)) dX5_init_61 ⟨Nat.le_of_ble_eq_true rfl, Nat.le_of_ble_eq_true rfl⟩) hS (fun q _ h => hFc q h) hFc (fun u t H1 locs ht hvm hw hB hz1 hk1 hS => ?_)
  obtain ⟨b7, rfl⟩ : ∃ z, z = u := ⟨_, rfl⟩
  have hw : b7 0 = n57_6 := hw
  subst hw
  obtain ⟨hP1, hD1⟩ := hB
  rw [ht] at hP1
  obtain ⟨hP, hD⟩ := va_join (wr := ((([(h0, .inr (4, [.ref n6, .int 0, .ref (b1 0), .ref (b3 0), .ref n35_4])), (n6, .inl (G.2.2.2, 4, .inr (.inr (.inr (.inr (fun _ => none))))))] ++ (tabW G b1 0 0 0 0 z0.1 z0.2 z1.1 z1.2 0 (fun _ => 0) (fun _ => 0) (fun _ => 0) (fun _ => 0) 0 (fun _ => 0) (fun _ => 0))) ++ (tabW G b3 0 0 0 0 z0.1 z0.2 z1.1 z1.2 0 (fun _ => 0) (fun _ => 0) (fun _ => 0) (fun _ => 0) 0 (fun _ => 0) (fun _ => 0))) ++ (ordW G n35_4 b51 b52 0 (fun _ => 0) 0 0 0 0 (fun _ => 0)))) (w1 := (tabW G b7 0 0 0 0 z0.1 z0.2 z1.1 z1.2 0 (fun _ => 0) (fun _ => 0) (fun _ => 0) (fun _ => 0) 0 (fun _ => 0) (fun _ => 0))) hP hD [33] [0, 1, 2, 3, 4, 5, 6, 7, 8, 9, 10, 11, 12, 13, 14, 15, 16, 17, 18, 19, 20, 21, 22, 23, 24, 25, 26, 27, 28, 29, 30, 31, 32] rfl rfl (by decide) (by decide) hk1 hFc hP1 hD1
  generalize H1 = H at hP hS ⊢
  have hP : va_P G.1 vwCl (((([(h0, .inr (4, [.ref n6, .int 0, .ref (b1 0), .ref (b3 0), .ref n35_4])), (n6, .inl (G.2.2.2, 4, .inr (.inr (.inr (.inr (fun _ => none))))))] ++ (tabW G b1 0 0 0 0 z0.1 z0.2 z1.1 z1.2 0 (fun _ => 0) (fun _ => 0) (fun _ => 0) (fun _ => 0) 0 (fun _ => 0) (fun _ => 0))) ++ (tabW G b3 0 0 0 0 z0.1 z0.2 z1.1 z1.2 0 (fun _ => 0) (fun _ => 0) (fun _ => 0) (fun _ => 0) 0 (fun _ => 0) (fun _ => 0))) ++ (ordW G n35_4 b51 b52 0 (fun _ => 0) 0 0 0 0 (fun _ => 0))) ++ (tabW G b7 0 0 0 0 z0.1 z0.2 z1.1 z1.2 0 (fun _ => 0) (fun _ => 0) (fun _ => 0) (fun _ => 0) 0 (fun _ => 0) (fun _ => 0))) H := hP
  have hD : va_D (va_A [(h0, .inr (4, [.null, .int 0, .null, .null, .null]))] s.heap.size) (((([(h0, .inr (4, [.ref n6, .int 0, .ref (b1 0), .ref (b3 0), .ref n35_4])), (n6, .inl (G.2.2.2, 4, .inr (.inr (.inr (.inr (fun _ => none))))))] ++ (tabW G b1 0 0 0 0 z0.1 z0.2 z1.1 z1.2 0 (fun _ => 0) (fun _ => 0) (fun _ => 0) (fun _ => 0) 0 (fun _ => 0) (fun _ => 0))) ++ (tabW G b3 0 0 0 0 z0.1 z0.2 z1.1 z1.2 0 (fun _ => 0) (fun _ => 0) (fun _ => 0) (fun _ => 0) 0 (fun _ => 0) (fun _ => 0))) ++ (ordW G n35_4 b51 b52 0 (fun _ => 0) 0 0 0 0 (fun _ => 0))) ++ (tabW G b7 0 0 0 0 z0.1 z0.2 z1.1 z1.2 0 (fun _ => 0) (fun _ => 0) (fun _ => 0) (fun _ => 0) 0 (fun _ => 0) (fun _ => 0))) := hD
  refine W.widen (k := 46) (n := 693) (Nat.le_of_ble_eq_true rfl) (Nat.le_of_ble_eq_true rfl) ?_
  refine va_astq (r := (RX4, TX4, 11)) hx hb hK.1 hP hD hS 1 2 33 3 rfl rfl rfl rfl (g_in_vp (by decide)) dX5_init_64 (fun H locs hP hD hS => ?_)
  have hP : va_P G.1 vwCl (((([(h0, .inr (4, [.ref n6, .int 0, .ref (b1 0), .ref (b3 0), .ref n35_4])), (n6, .inl (G.2.2.2, 4, .inr (.inr (.inr (.inr (va_up (fun _ => none) (0 : Int32).toNatClampNeg (some (b7 0))))))))] ++ (tabW G b1 0 0 0 0 z0.1 z0.2 z1.1 z1.2 0 (fun _ => 0) (fun _ => 0) (fun _ => 0) (fun _ => 0) 0 (fun _ => 0) (fun _ => 0))) ++ (tabW G b3 0 0 0 0 z0.1 z0.2 z1.1 z1.2 0 (fun _ => 0) (fun _ => 0) (fun _ => 0) (fun _ => 0) 0 (fun _ => 0) (fun _ => 0))) ++ (ordW G n35_4 b51 b52 0 (fun _ => 0) 0 0 0 0 (fun _ => 0))) ++ (tabW G b7 0 0 0 0 z0.1 z0.2 z1.1 z1.2 0 (fun _ => 0) (fun _ => 0) (fun _ => 0) (fun _ => 0) 0 (fun _ => 0) (fun _ => 0))) H := hP
  have hD : va_D (va_A [(h0, .inr (4, [.null, .int 0, .null, .null, .null]))] s.heap.size) (((([(h0, .inr (4, [.ref n6, .int 0, .ref (b1 0), .ref (b3 0), .ref n35_4])), (n6, .inl (G.2.2.2, 4, .inr (.inr (.inr (.inr (va_up (fun _ => none) (0 : Int32).toNatClampNeg (some (b7 0))))))))] ++ (tabW G b1 0 0 0 0 z0.1 z0.2 z1.1 z1.2 0 (fun _ => 0) (fun _ => 0) (fun _ => 0) (fun _ => 0) 0 (fun _ => 0) (fun _ => 0))) ++ (tabW G b3 0 0 0 0 z0.1 z0.2 z1.1 z1.2 0 (fun _ => 0) (fun _ => 0) (fun _ => 0) (fun _ => 0) 0 (fun _ => 0) (fun _ => 0))) ++ (ordW G n35_4 b51 b52 0 (fun _ => 0) 0 0 0 0 (fun _ => 0))) ++ (tabW G b7 0 0 0 0 z0.1 z0.2 z1.1 z1.2 0 (fun _ => 0) (fun _ => 0) (fun _ => 0) (fun _ => 0) 0 (fun _ => 0) (fun _ => 0))) := hD
  refine lv_iinc (v := (1 : Int32)) (lv' := [(1, .int (1 : Int32)), (0, .ref h0)]) hx hb dX5_init_65 hl (k := 0) rfl rfl (by decide) rfl (fun ls hl => ?_)
  refine lv_goto (tgt := 47) hx hb dX5_init_68 (by decide) ?_
  refine lv_iload_n hx hb dX5_init_47 rfl (lv_at hl 0 rfl) ?_
  refine lv_iconst (v := (4 : Int32)) hx hb dX5_init_48 (by decide) ?_
  refine lv_icmp_ge (tgt := 71) hx hb dX5_init_49 (by decide) (fun c_ => absurd c_ (by decide)) (fun _ => ?_)
  refine lv_aload_n hx hb dX5_init_52 rfl (lv_at hl 1 rfl) ?_
  refine va_get (D := G.1) (ci := 4) (v := .ref n6) (C := RX5) (T := TX5) (N := 5) hx hb hts hX5 hown hK.1 hP 0 rfl rfl 0 (by decide) (hts _ tw_144) (fun _ h9 => h9) rfl dX5_init_53 ?_
  refine lv_iload_n hx hb dX5_init_56 rfl (lv_at hl 0 rfl) ?_
  refine va_new (ci := 3) (fs := [.int 0, .int 0, .int 0, .int 0, .null, .null, .null, .null, .int 0, .null, .null]) (C := RX4) (T := TX4) (N := 11) hx hb hts hX4 tyX4 tyX4_ok hown (hts _ tw_22) (hts _ tw_24) (hts _ tw_6) hK.1 hP hD hS hA rfl (fun j hj => by rcases (show j = 0 ∨ j = 1 ∨ j = 2 ∨ j = 3 ∨ j = 4 ∨ j = 5 ∨ j = 6 ∨ j = 7 ∨ j = 8 ∨ j = 9 ∨ j = 10 by omega) with rfl | rfl | rfl | rfl | rfl | rfl | rfl | rfl | rfl | rfl | rfl <;> rfl) (Nat.le_of_ble_eq_true rfl) (Nat.le_of_ble_eq_true rfl) dX5_init_57 (fun n57_8 H hP hD hS => ?_)
  have hP : va_P G.1 vwCl ((((([(h0, .inr (4, [.ref n6, .int 0, .ref (b1 0), .ref (b3 0), .ref n35_4])), (n6, .inl (G.2.2.2, 4, .inr (.inr (.inr (.inr (va_up (fun _ => none) (0 : Int32).toNatClampNeg (some (b7 0))))))))] ++ (tabW G b1 0 0 0 0 z0.1 z0.2 z1.1 z1.2 0 (fun _ => 0) (fun _ => 0) (fun _ => 0) (fun _ => 0) 0 (fun _ => 0) (fun _ => 0))) ++ (tabW G b3 0 0 0 0 z0.1 z0.2 z1.1 z1.2 0 (fun _ => 0) (fun _ => 0) (fun _ => 0) (fun _ => 0) 0 (fun _ => 0) (fun _ => 0))) ++ (ordW G n35_4 b51 b52 0 (fun _ => 0) 0 0 0 0 (fun _ => 0))) ++ (tabW G b7 0 0 0 0 z0.1 z0.2 z1.1 z1.2 0 (fun _ => 0) (fun _ => 0) (fun _ => 0) (fun _ => 0) 0 (fun _ => 0) (fun _ => 0))) ++ [(n57_8, .inr (3, [.int 0, .int 0, .int 0, .int 0, .null, .null, .null, .null, .int 0, .null, .null]))]) H := hP
  have hD : va_D (va_A [(h0, .inr (4, [.null, .int 0, .null, .null, .null]))] s.heap.size) ((((([(h0, .inr (4, [.ref n6, .int 0, .ref (b1 0), .ref (b3 0), .ref n35_4])), (n6, .inl (G.2.2.2, 4, .inr (.inr (.inr (.inr (va_up (fun _ => none) (0 : Int32).toNatClampNeg (some (b7 0))))))))] ++ (tabW G b1 0 0 0 0 z0.1 z0.2 z1.1 z1.2 0 (fun _ => 0) (fun _ => 0) (fun _ => 0) (fun _ => 0) 0 (fun _ => 0) (fun _ => 0))) ++ (tabW G b3 0 0 0 0 z0.1 z0.2 z1.1 z1.2 0 (fun _ => 0) (fun _ => 0) (fun _ => 0) (fun _ => 0) 0 (fun _ => 0) (fun _ => 0))) ++ (ordW G n35_4 b51 b52 0 (fun _ => 0) 0 0 0 0 (fun _ => 0))) ++ (tabW G b7 0 0 0 0 z0.1 z0.2 z1.1 z1.2 0 (fun _ => 0) (fun _ => 0) (fun _ => 0) (fun _ => 0) 0 (fun _ => 0) (fun _ => 0))) ++ [(n57_8, .inr (3, [.int 0, .int 0, .int 0, .int 0, .null, .null, .null, .null, .int 0, .null, .null]))]) := hD
  refine W.widen (k := 47) (n := 704) (Nat.le_of_ble_eq_true rfl) (Nat.le_of_ble_eq_true rfl) ?_
  refine lv_dup hx hb dX5_init_60 rfl ?_
  have hPc := hP.sub (ws' := [(n57_8, .inr (3, [.int 0, .int 0, .int 0, .int 0, .null, .null, .null, .null, .int 0, .null, .null]))]) [47] rfl
  have hDc := hD.sub (ws' := [(n57_8, .inr (3, [.int 0, .int 0, .int 0, .int 0, .null, .null, .null, .null, .int 0, .null, .null]))]) [47] (by decide) rfl
  have hFc := va_free (wc := [(n57_8, .inr (3, [.int 0, .int 0, .int 0, .int 0, .null, .null, .null, .null, .int 0, .null, .null]))]) hD hS hA [47] rfl
  refine va_callv (va_runIN (As := []) (rest := [.ref n57_8, .int (1 : Int32), .ref n6]) ⟨hx, hb, hml, hown, hts⟩ (qX4_init l G n57_8 hcl hcl1 H.size) ⟨va_cnB 0 hts (TB_C TB_id tw_27) rfl rfl rfl hK.2.2.2.1 (hts _ tw_6) (by decide +kernel) ⟨Nat.le_of_ble_eq_true rfl, Nat.le_of_ble_eq_true rfl⟩, rfl, (hts _ tw_26)⟩ ⟨g_blind, fun U hU hW => ⟨rfl, by rw [hU], by rw [hU]; exact hPc, hK.warm hW, hDc.weaken (fun _ _ _ _ => trivial)⟩⟩ rfl rfl hl.1 rfl (lv_room (Nat.le_of_ble_eq_true rfl)) dX5_init_61 ⟨Nat.le_of_ble_eq_true rfl, Nat.le_of_ble_eq_true rfl⟩) hS (fun q _ h => hFc q h) hFc (fun u t H1 locs ht hvm hw hB hz1 hk1 hS => ?_)
  obtain ⟨b9, rfl⟩ : ∃ z, z = u := ⟨_, rfl⟩
  have hw : b9 0 = n57_8 := hw
  subst hw
  obtain ⟨hP1, hD1⟩ := hB
  rw [ht] at hP1
  obtain ⟨hP, hD⟩ := va_join (wr := (((([(h0, .inr (4, [.ref n6, .int 0, .ref (b1 0), .ref (b3 0), .ref n35_4])), (n6, .inl (G.2.2.2, 4, .inr (.inr (.inr (.inr (va_up (fun _ => none) (0 : Int32).toNatClampNeg (some (b7 0))))))))] ++ (tabW G b1 0 0 0 0 z0.1 z0.2 z1.1 z1.2 0 (fun _ => 0) (fun _ => 0) (fun _ => 0) (fun _ => 0) 0 (fun _ => 0) (fun _ => 0))) ++ (tabW G b3 0 0 0 0 z0.1 z0.2 z1.1 z1.2 0 (fun _ => 0) (fun _ => 0) (fun _ => 0) (fun _ => 0) 0 (fun _ => 0) (fun _ => 0))) ++ (ordW G n35_4 b51 b52 0 (fun _ => 0) 0 0 0 0 (fun _ => 0))) ++ (tabW G b7 0 0 0 0 z0.1 z0.2 z1.1 z1.2 0 (fun _ => 0) (fun _ => 0) (fun _ => 0) (fun _ => 0) 0 (fun _ => 0) (fun _ => 0)))) (w1 := (tabW G b9 0 0 0 0 z0.1 z0.2 z1.1 z1.2 0 (fun _ => 0) (fun _ => 0) (fun _ => 0) (fun _ => 0) 0 (fun _ => 0) (fun _ => 0))) hP hD [47] [0, 1, 2, 3, 4, 5, 6, 7, 8, 9, 10, 11, 12, 13, 14, 15, 16, 17, 18, 19, 20, 21, 22, 23, 24, 25, 26, 27, 28, 29, 30, 31, 32, 33, 34, 35, 36, 37, 38, 39, 40, 41, 42, 43, 44, 45, 46] rfl rfl (by decide) (by decide) hk1 hFc hP1 hD1
  generalize H1 = H at hP hS ⊢
  have hP : va_P G.1 vwCl ((((([(h0, .inr (4, [.ref n6, .int 0, .ref (b1 0), .ref (b3 0), .ref n35_4])), (n6, .inl (G.2.2.2, 4, .inr (.inr (.inr (.inr (va_up (fun _ => none) (0 : Int32).toNatClampNeg (some (b7 0))))))))] ++ (tabW G b1 0 0 0 0 z0.1 z0.2 z1.1 z1.2 0 (fun _ => 0) (fun _ => 0) (fun _ => 0) (fun _ => 0) 0 (fun _ => 0) (fun _ => 0))) ++ (tabW G b3 0 0 0 0 z0.1 z0.2 z1.1 z1.2 0 (fun _ => 0) (fun _ => 0) (fun _ => 0) (fun _ => 0) 0 (fun _ => 0) (fun _ => 0))) ++ (ordW G n35_4 b51 b52 0 (fun _ => 0) 0 0 0 0 (fun _ => 0))) ++ (tabW G b7 0 0 0 0 z0.1 z0.2 z1.1 z1.2 0 (fun _ => 0) (fun _ => 0) (fun _ => 0) (fun _ => 0) 0 (fun _ => 0) (fun _ => 0))) ++ (tabW G b9 0 0 0 0 z0.1 z0.2 z1.1 z1.2 0 (fun _ => 0) (fun _ => 0) (fun _ => 0) (fun _ => 0) 0 (fun _ => 0) (fun _ => 0))) H := hP
  have hD : va_D (va_A [(h0, .inr (4, [.null, .int 0, .null, .null, .null]))] s.heap.size) ((((([(h0, .inr (4, [.ref n6, .int 0, .ref (b1 0), .ref (b3 0), .ref n35_4])), (n6, .inl (G.2.2.2, 4, .inr (.inr (.inr (.inr (va_up (fun _ => none) (0 : Int32).toNatClampNeg (some (b7 0))))))))] ++ (tabW G b1 0 0 0 0 z0.1 z0.2 z1.1 z1.2 0 (fun _ => 0) (fun _ => 0) (fun _ => 0) (fun _ => 0) 0 (fun _ => 0) (fun _ => 0))) ++ (tabW G b3 0 0 0 0 z0.1 z0.2 z1.1 z1.2 0 (fun _ => 0) (fun _ => 0) (fun _ => 0) (fun _ => 0) 0 (fun _ => 0) (fun _ => 0))) ++ (ordW G n35_4 b51 b52 0 (fun _ => 0) 0 0 0 0 (fun _ => 0))) ++ (tabW G b7 0 0 0 0 z0.1 z0.2 z1.1 z1.2 0 (fun _ => 0) (fun _ => 0) (fun _ => 0) (fun _ => 0) 0 (fun _ => 0) (fun _ => 0))) ++ (tabW G b9 0 0 0 0 z0.1 z0.2 z1.1 z1.2 0 (fun _ => 0) (fun _ => 0) (fun _ => 0) (fun _ => 0) 0 (fun _ => 0) (fun _ => 0))) := hD
  refine W.widen (k := 60) (n := 899) (Nat.le_of_ble_eq_true rfl) (Nat.le_of_ble_eq_true rfl) ?_
  refine va_astq (r := (RX4, TX4, 11)) hx hb hK.1 hP hD hS 1 2 47 3 rfl rfl rfl rfl (g_in_vp (by decide)) dX5_init_64 (fun H locs hP hD hS => ?_)
  have hP : va_P G.1 vwCl ((((([(h0, .inr (4, [.ref n6, .int 0, .ref (b1 0), .ref (b3 0), .ref n35_4])), (n6, .inl (G.2.2.2, 4, .inr (.inr (.inr (.inr (va_up (va_up (fun _ => none) (0 : Int32).toNatClampNeg (some (b7 0))) (1 : Int32).toNatClampNeg (some (b9 0))))))))] ++ (tabW G b1 0 0 0 0 z0.1 z0.2 z1.1 z1.2 0 (fun _ => 0) (fun _ => 0) (fun _ => 0) (fun _ => 0) 0 (fun _ => 0) (fun _ => 0))) ++ (tabW G b3 0 0 0 0 z0.1 z0.2 z1.1 z1.2 0 (fun _ => 0) (fun _ => 0) (fun _ => 0) (fun _ => 0) 0 (fun _ => 0) (fun _ => 0))) ++ (ordW G n35_4 b51 b52 0 (fun _ => 0) 0 0 0 0 (fun _ => 0))) ++ (tabW G b7 0 0 0 0 z0.1 z0.2 z1.1 z1.2 0 (fun _ => 0) (fun _ => 0) (fun _ => 0) (fun _ => 0) 0 (fun _ => 0) (fun _ => 0))) ++ (tabW G b9 0 0 0 0 z0.1 z0.2 z1.1 z1.2 0 (fun _ => 0) (fun _ => 0) (fun _ => 0) (fun _ => 0) 0 (fun _ => 0) (fun _ => 0))) H := hP
  have hD : va_D (va_A [(h0, .inr (4, [.null, .int 0, .null, .null, .null]))] s.heap.size) ((((([(h0, .inr (4, [.ref n6, .int 0, .ref (b1 0), .ref (b3 0), .ref n35_4])), (n6, .inl (G.2.2.2, 4, .inr (.inr (.inr (.inr (va_up (va_up (fun _ => none) (0 : Int32).toNatClampNeg (some (b7 0))) (1 : Int32).toNatClampNeg (some (b9 0))))))))] ++ (tabW G b1 0 0 0 0 z0.1 z0.2 z1.1 z1.2 0 (fun _ => 0) (fun _ => 0) (fun _ => 0) (fun _ => 0) 0 (fun _ => 0) (fun _ => 0))) ++ (tabW G b3 0 0 0 0 z0.1 z0.2 z1.1 z1.2 0 (fun _ => 0) (fun _ => 0) (fun _ => 0) (fun _ => 0) 0 (fun _ => 0) (fun _ => 0))) ++ (ordW G n35_4 b51 b52 0 (fun _ => 0) 0 0 0 0 (fun _ => 0))) ++ (tabW G b7 0 0 0 0 z0.1 z0.2 z1.1 z1.2 0 (fun _ => 0) (fun _ => 0) (fun _ => 0) (fun _ => 0) 0 (fun _ => 0) (fun _ => 0))) ++ (tabW G b9 0 0 0 0 z0.1 z0.2 z1.1 z1.2 0 (fun _ => 0) (fun _ => 0) (fun _ => 0) (fun _ => 0) 0 (fun _ => 0) (fun _ => 0))) := hD
  refine lv_iinc (v := (2 : Int32)) (lv' := [(1, .int (2 : Int32)), (0, .ref h0)]) hx hb dX5_init_65 hl (k := 0) rfl rfl (by decide) rfl (fun ls hl => ?_)
  refine lv_goto (tgt := 47) hx hb dX5_init_68 (by decide) ?_
  refine lv_iload_n hx hb dX5_init_47 rfl (lv_at hl 0 rfl) ?_
  refine lv_iconst (v := (4 : Int32)) hx hb dX5_init_48 (by decide) ?_
  refine lv_icmp_ge (tgt := 71) hx hb dX5_init_49 (by decide) (fun c_ => absurd c_ (by decide)) (fun _ => ?_)
  refine lv_aload_n hx hb dX5_init_52 rfl (lv_at hl 1 rfl) ?_
  refine va_get (D := G.1) (ci := 4) (v := .ref n6) (C := RX5) (T := TX5) (N := 5) hx hb hts hX5 hown hK.1 hP 0 rfl rfl 0 (by decide) (hts _ tw_144) (fun _ h9 => h9) rfl dX5_init_53 ?_
  refine lv_iload_n hx hb dX5_init_56 rfl (lv_at hl 0 rfl) ?_
  refine va_new (ci := 3) (fs := [.int 0, .int 0, .int 0, .int 0, .null, .null, .null, .null, .int 0, .null, .null]) (C := RX4) (T := TX4) (N := 11) hx hb hts hX4 tyX4 tyX4_ok hown (hts _ tw_22) (hts _ tw_24) (hts _ tw_6) hK.1 hP hD hS hA rfl (fun j hj => by rcases (show j = 0 ∨ j = 1 ∨ j = 2 ∨ j = 3 ∨ j = 4 ∨ j = 5 ∨ j = 6 ∨ j = 7 ∨ j = 8 ∨ j = 9 ∨ j = 10 by omega) with rfl | rfl | rfl | rfl | rfl | rfl | rfl | rfl | rfl | rfl | rfl <;> rfl) (Nat.le_of_ble_eq_true rfl) (Nat.le_of_ble_eq_true rfl) dX5_init_57 (fun n57_10 H hP hD hS => ?_)
  have hP : va_P G.1 vwCl (((((([(h0, .inr (4, [.ref n6, .int 0, .ref (b1 0), .ref (b3 0), .ref n35_4])), (n6, .inl (G.2.2.2, 4, .inr (.inr (.inr (.inr (va_up (va_up (fun _ => none) (0 : Int32).toNatClampNeg (some (b7 0))) (1 : Int32).toNatClampNeg (some (b9 0))))))))] ++ (tabW G b1 0 0 0 0 z0.1 z0.2 z1.1 z1.2 0 (fun _ => 0) (fun _ => 0) (fun _ => 0) (fun _ => 0) 0 (fun _ => 0) (fun _ => 0))) ++ (tabW G b3 0 0 0 0 z0.1 z0.2 z1.1 z1.2 0 (fun _ => 0) (fun _ => 0) (fun _ => 0) (fun _ => 0) 0 (fun _ => 0) (fun _ => 0))) ++ (ordW G n35_4 b51 b52 0 (fun _ => 0) 0 0 0 0 (fun _ => 0))) ++ (tabW G b7 0 0 0 0 z0.1 z0.2 z1.1 z1.2 0 (fun _ => 0) (fun _ => 0) (fun _ => 0) (fun _ => 0) 0 (fun _ => 0) (fun _ => 0))) ++ (tabW G b9 0 0 0 0 z0.1 z0.2 z1.1 z1.2 0 (fun _ => 0) (fun _ => 0) (fun _ => 0) (fun _ => 0) 0 (fun _ => 0) (fun _ => 0))) ++ [(n57_10, .inr (3, [.int 0, .int 0, .int 0, .int 0, .null, .null, .null, .null, .int 0, .null, .null]))]) H := hP
  have hD : va_D (va_A [(h0, .inr (4, [.null, .int 0, .null, .null, .null]))] s.heap.size) (((((([(h0, .inr (4, [.ref n6, .int 0, .ref (b1 0), .ref (b3 0), .ref n35_4])), (n6, .inl (G.2.2.2, 4, .inr (.inr (.inr (.inr (va_up (va_up (fun _ => none) (0 : Int32).toNatClampNeg (some (b7 0))) (1 : Int32).toNatClampNeg (some (b9 0))))))))] ++ (tabW G b1 0 0 0 0 z0.1 z0.2 z1.1 z1.2 0 (fun _ => 0) (fun _ => 0) (fun _ => 0) (fun _ => 0) 0 (fun _ => 0) (fun _ => 0))) ++ (tabW G b3 0 0 0 0 z0.1 z0.2 z1.1 z1.2 0 (fun _ => 0) (fun _ => 0) (fun _ => 0) (fun _ => 0) 0 (fun _ => 0) (fun _ => 0))) ++ (ordW G n35_4 b51 b52 0 (fun _ => 0) 0 0 0 0 (fun _ => 0))) ++ (tabW G b7 0 0 0 0 z0.1 z0.2 z1.1 z1.2 0 (fun _ => 0) (fun _ => 0) (fun _ => 0) (fun _ => 0) 0 (fun _ => 0) (fun _ => 0))) ++ (tabW G b9 0 0 0 0 z0.1 z0.2 z1.1 z1.2 0 (fun _ => 0) (fun _ => 0) (fun _ => 0) (fun _ => 0) 0 (fun _ => 0) (fun _ => 0))) ++ [(n57_10, .inr (3, [.int 0, .int 0, .int 0, .int 0, .null, .null, .null, .null, .int 0, .null, .null]))]) := hD
  refine W.widen (k := 61) (n := 910) (Nat.le_of_ble_eq_true rfl) (Nat.le_of_ble_eq_true rfl) ?_
  refine lv_dup hx hb dX5_init_60 rfl ?_
  have hPc := hP.sub (ws' := [(n57_10, .inr (3, [.int 0, .int 0, .int 0, .int 0, .null, .null, .null, .null, .int 0, .null, .null]))]) [61] rfl
  have hDc := hD.sub (ws' := [(n57_10, .inr (3, [.int 0, .int 0, .int 0, .int 0, .null, .null, .null, .null, .int 0, .null, .null]))]) [61] (by decide) rfl
  have hFc := va_free (wc := [(n57_10, .inr (3, [.int 0, .int 0, .int 0, .int 0, .null, .null, .null, .null, .int 0, .null, .null]))]) hD hS hA [61] rfl
  refine va_callv (va_runIN (As := []) (rest := [.ref n57_10, .int (2 : Int32), .ref n6]) ⟨hx, hb, hml, hown, hts⟩ (qX4_init l G n57_10 hcl hcl1 H.size) ⟨va_cnB 0 hts (TB_C TB_id tw_27) rfl rfl rfl hK.2.2.2.1 (hts _ tw_6) (by decide +kernel) ⟨Nat.le_of_ble_eq_true rfl, Nat.le_of_ble_eq_true rfl⟩, rfl, (hts _ tw_26)⟩ ⟨g_blind, fun U hU hW => ⟨rfl, by rw [hU], by rw [hU]; exact hPc, hK.warm hW, hDc.weaken (fun _ _ _ _ => trivial)⟩⟩ rfl rfl hl.1 rfl (lv_room (Nat.le_of_ble_eq_true rfl)) dX5_init_61 ⟨Nat.le_of_ble_eq_true rfl, Nat.le_of_ble_eq_true rfl⟩) hS (fun q _ h => hFc q h) hFc (fun u t H1 locs ht hvm hw hB hz1 hk1 hS => ?_)
  obtain ⟨b11, rfl⟩ : ∃ z, z = u := ⟨_, rfl⟩
  have hw : b11 0 = n57_10 := hw
  subst hw
  obtain ⟨hP1, hD1⟩ := hB
  rw [ht] at hP1
  obtain ⟨hP, hD⟩ := va_join (wr := ((((([(h0, .inr (4, [.ref n6, .int 0, .ref (b1 0), .ref (b3 0), .ref n35_4])), (n6, .inl (G.2.2.2, 4, .inr (.inr (.inr (.inr (va_up (va_up (fun _ => none) (0 : Int32).toNatClampNeg (some (b7 0))) (1 : Int32).toNatClampNeg (some (b9 0))))))))] ++ (tabW G b1 0 0 0 0 z0.1 z0.2 z1.1 z1.2 0 (fun _ => 0) (fun _ => 0) (fun _ => 0) (fun _ => 0) 0 (fun _ => 0) (fun _ => 0))) ++ (tabW G b3 0 0 0 0 z0.1 z0.2 z1.1 z1.2 0 (fun _ => 0) (fun _ => 0) (fun _ => 0) (fun _ => 0) 0 (fun _ => 0) (fun _ => 0))) ++ (ordW G n35_4 b51 b52 0 (fun _ => 0) 0 0 0 0 (fun _ => 0))) ++ (tabW G b7 0 0 0 0 z0.1 z0.2 z1.1 z1.2 0 (fun _ => 0) (fun _ => 0) (fun _ => 0) (fun _ => 0) 0 (fun _ => 0) (fun _ => 0))) ++ (tabW G b9 0 0 0 0 z0.1 z0.2 z1.1 z1.2 0 (fun _ => 0) (fun _ => 0) (fun _ => 0) (fun _ => 0) 0 (fun _ => 0) (fun _ => 0)))) (w1 := (tabW G b11 0 0 0 0 z0.1 z0.2 z1.1 z1.2 0 (fun _ => 0) (fun _ => 0) (fun _ => 0) (fun _ => 0) 0 (fun _ => 0) (fun _ => 0))) hP hD [61] [0, 1, 2, 3, 4, 5, 6, 7, 8, 9, 10, 11, 12, 13, 14, 15, 16, 17, 18, 19, 20, 21, 22, 23, 24, 25, 26, 27, 28, 29, 30, 31, 32, 33, 34, 35, 36, 37, 38, 39, 40, 41, 42, 43, 44, 45, 46, 47, 48, 49, 50, 51, 52, 53, 54, 55, 56, 57, 58, 59, 60] rfl rfl (by decide) (by decide) hk1 hFc hP1 hD1
  generalize H1 = H at hP hS ⊢
  have hP : va_P G.1 vwCl (((((([(h0, .inr (4, [.ref n6, .int 0, .ref (b1 0), .ref (b3 0), .ref n35_4])), (n6, .inl (G.2.2.2, 4, .inr (.inr (.inr (.inr (va_up (va_up (fun _ => none) (0 : Int32).toNatClampNeg (some (b7 0))) (1 : Int32).toNatClampNeg (some (b9 0))))))))] ++ (tabW G b1 0 0 0 0 z0.1 z0.2 z1.1 z1.2 0 (fun _ => 0) (fun _ => 0) (fun _ => 0) (fun _ => 0) 0 (fun _ => 0) (fun _ => 0))) ++ (tabW G b3 0 0 0 0 z0.1 z0.2 z1.1 z1.2 0 (fun _ => 0) (fun _ => 0) (fun _ => 0) (fun _ => 0) 0 (fun _ => 0) (fun _ => 0))) ++ (ordW G n35_4 b51 b52 0 (fun _ => 0) 0 0 0 0 (fun _ => 0))) ++ (tabW G b7 0 0 0 0 z0.1 z0.2 z1.1 z1.2 0 (fun _ => 0) (fun _ => 0) (fun _ => 0) (fun _ => 0) 0 (fun _ => 0) (fun _ => 0))) ++ (tabW G b9 0 0 0 0 z0.1 z0.2 z1.1 z1.2 0 (fun _ => 0) (fun _ => 0) (fun _ => 0) (fun _ => 0) 0 (fun _ => 0) (fun _ => 0))) ++ (tabW G b11 0 0 0 0 z0.1 z0.2 z1.1 z1.2 0 (fun _ => 0) (fun _ => 0) (fun _ => 0) (fun _ => 0) 0 (fun _ => 0) (fun _ => 0))) H := hP
  have hD : va_D (va_A [(h0, .inr (4, [.null, .int 0, .null, .null, .null]))] s.heap.size) (((((([(h0, .inr (4, [.ref n6, .int 0, .ref (b1 0), .ref (b3 0), .ref n35_4])), (n6, .inl (G.2.2.2, 4, .inr (.inr (.inr (.inr (va_up (va_up (fun _ => none) (0 : Int32).toNatClampNeg (some (b7 0))) (1 : Int32).toNatClampNeg (some (b9 0))))))))] ++ (tabW G b1 0 0 0 0 z0.1 z0.2 z1.1 z1.2 0 (fun _ => 0) (fun _ => 0) (fun _ => 0) (fun _ => 0) 0 (fun _ => 0) (fun _ => 0))) ++ (tabW G b3 0 0 0 0 z0.1 z0.2 z1.1 z1.2 0 (fun _ => 0) (fun _ => 0) (fun _ => 0) (fun _ => 0) 0 (fun _ => 0) (fun _ => 0))) ++ (ordW G n35_4 b51 b52 0 (fun _ => 0) 0 0 0 0 (fun _ => 0))) ++ (tabW G b7 0 0 0 0 z0.1 z0.2 z1.1 z1.2 0 (fun _ => 0) (fun _ => 0) (fun _ => 0) (fun _ => 0) 0 (fun _ => 0) (fun _ => 0))) ++ (tabW G b9 0 0 0 0 z0.1 z0.2 z1.1 z1.2 0 (fun _ => 0) (fun _ => 0) (fun _ => 0) (fun _ => 0) 0 (fun _ => 0) (fun _ => 0))) ++ (tabW G b11 0 0 0 0 z0.1 z0.2 z1.1 z1.2 0 (fun _ => 0) (fun _ => 0) (fun _ => 0) (fun _ => 0) 0 (fun _ => 0) (fun _ => 0))) := hD
  refine W.widen (k := 74) (n := 1105) (Nat.le_of_ble_eq_true rfl) (Nat.le_of_ble_eq_true rfl) ?_
  refine va_astq (r := (RX4, TX4, 11)) hx hb hK.1 hP hD hS 1 2 61 3 rfl rfl rfl rfl (g_in_vp (by decide)) dX5_init_64 (fun H locs hP hD hS => ?_)
  have hP : va_P G.1 vwCl (((((([(h0, .inr (4, [.ref n6, .int 0, .ref (b1 0), .ref (b3 0), .ref n35_4])), (n6, .inl (G.2.2.2, 4, .inr (.inr (.inr (.inr (va_up (va_up (va_up (fun _ => none) (0 : Int32).toNatClampNeg (some (b7 0))) (1 : Int32).toNatClampNeg (some (b9 0))) (2 : Int32).toNatClampNeg (some (b11 0))))))))] ++ (tabW G b1 0 0 0 0 z0.1 z0.2 z1.1 z1.2 0 (fun _ => 0) (fun _ => 0) (fun _ => 0) (fun _ => 0) 0 (fun _ => 0) (fun _ => 0))) ++ (tabW G b3 0 0 0 0 z0.1 z0.2 z1.1 z1.2 0 (fun _ => 0) (fun _ => 0) (fun _ => 0) (fun _ => 0) 0 (fun _ => 0) (fun _ => 0))) ++ (ordW G n35_4 b51 b52 0 (fun _ => 0) 0 0 0 0 (fun _ => 0))) ++ (tabW G b7 0 0 0 0 z0.1 z0.2 z1.1 z1.2 0 (fun _ => 0) (fun _ => 0) (fun _ => 0) (fun _ => 0) 0 (fun _ => 0) (fun _ => 0))) ++ (tabW G b9 0 0 0 0 z0.1 z0.2 z1.1 z1.2 0 (fun _ => 0) (fun _ => 0) (fun _ => 0) (fun _ => 0) 0 (fun _ => 0) (fun _ => 0))) ++ (tabW G b11 0 0 0 0 z0.1 z0.2 z1.1 z1.2 0 (fun _ => 0) (fun _ => 0) (fun _ => 0) (fun _ => 0) 0 (fun _ => 0) (fun _ => 0))) H := hP
  have hD : va_D (va_A [(h0, .inr (4, [.null, .int 0, .null, .null, .null]))] s.heap.size) (((((([(h0, .inr (4, [.ref n6, .int 0, .ref (b1 0), .ref (b3 0), .ref n35_4])), (n6, .inl (G.2.2.2, 4, .inr (.inr (.inr (.inr (va_up (va_up (va_up (fun _ => none) (0 : Int32).toNatClampNeg (some (b7 0))) (1 : Int32).toNatClampNeg (some (b9 0))) (2 : Int32).toNatClampNeg (some (b11 0))))))))] ++ (tabW G b1 0 0 0 0 z0.1 z0.2 z1.1 z1.2 0 (fun _ => 0) (fun _ => 0) (fun _ => 0) (fun _ => 0) 0 (fun _ => 0) (fun _ => 0))) ++ (tabW G b3 0 0 0 0 z0.1 z0.2 z1.1 z1.2 0 (fun _ => 0) (fun _ => 0) (fun _ => 0) (fun _ => 0) 0 (fun _ => 0) (fun _ => 0))) ++ (ordW G n35_4 b51 b52 0 (fun _ => 0) 0 0 0 0 (fun _ => 0))) ++ (tabW G b7 0 0 0 0 z0.1 z0.2 z1.1 z1.2 0 (fun _ => 0) (fun _ => 0) (fun _ => 0) (fun _ => 0) 0 (fun _ => 0) (fun _ => 0))) ++ (tabW G b9 0 0 0 0 z0.1 z0.2 z1.1 z1.2 0 (fun _ => 0) (fun _ => 0) (fun _ => 0) (fun _ => 0) 0 (fun _ => 0) (fun _ => 0))) ++ (tabW G b11 0 0 0 0 z0.1 z0.2 z1.1 z1.2 0 (fun _ => 0) (fun _ => 0) (fun _ => 0) (fun _ => 0) 0 (fun _ => 0) (fun _ => 0))) := hD
  refine lv_iinc (v := (3 : Int32)) (lv' := [(1, .int (3 : Int32)), (0, .ref h0)]) hx hb dX5_init_65 hl (k := 0) rfl rfl (by decide) rfl (fun ls hl => ?_)
  refine lv_goto (tgt := 47) hx hb dX5_init_68 (by decide) ?_
  refine lv_iload_n hx hb dX5_init_47 rfl (lv_at hl 0 rfl) ?_
  refine lv_iconst (v := (4 : Int32)) hx hb dX5_init_48 (by decide) ?_
  refine lv_icmp_ge (tgt := 71) hx hb dX5_init_49 (by decide) (fun c_ => absurd c_ (by decide)) (fun _ => ?_)
  refine lv_aload_n hx hb dX5_init_52 rfl (lv_at hl 1 rfl) ?_
  refine va_get (D := G.1) (ci := 4) (v := .ref n6) (C := RX5) (T := TX5) (N := 5) hx hb hts hX5 hown hK.1 hP 0 rfl rfl 0 (by decide) (hts _ tw_144) (fun _ h9 => h9) rfl dX5_init_53 ?_
  refine lv_iload_n hx hb dX5_init_56 rfl (lv_at hl 0 rfl) ?_
  refine va_new (ci := 3) (fs := [.int 0, .int 0, .int 0, .int 0, .null, .null, .null, .null, .int 0, .null, .null]) (C := RX4) (T := TX4) (N := 11) hx hb hts hX4 tyX4 tyX4_ok hown (hts _ tw_22) (hts _ tw_24) (hts _ tw_6) hK.1 hP hD hS hA rfl (fun j hj => by rcases (show j = 0 ∨ j = 1 ∨ j = 2 ∨ j = 3 ∨ j = 4 ∨ j = 5 ∨ j = 6 ∨ j = 7 ∨ j = 8 ∨ j = 9 ∨ j = 10 by omega) with rfl | rfl | rfl | rfl | rfl | rfl | rfl | rfl | rfl | rfl | rfl <;> rfl) (Nat.le_of_ble_eq_true rfl) (Nat.le_of_ble_eq_true rfl) dX5_init_57 (fun n57_12 H hP hD hS => ?_)
  have hP : va_P G.1 vwCl ((((((([(h0, .inr (4, [.ref n6, .int 0, .ref (b1 0), .ref (b3 0), .ref n35_4])), (n6, .inl (G.2.2.2, 4, .inr (.inr (.inr (.inr (va_up (va_up (va_up (fun _ => none) (0 : Int32).toNatClampNeg (some (b7 0))) (1 : Int32).toNatClampNeg (some (b9 0))) (2 : Int32).toNatClampNeg (some (b11 0))))))))] ++ (tabW G b1 0 0 0 0 z0.1 z0.2 z1.1 z1.2 0 (fun _ => 0) (fun _ => 0) (fun _ => 0) (fun _ => 0) 0 (fun _ => 0) (fun _ => 0))) ++ (tabW G b3 0 0 0 0 z0.1 z0.2 z1.1 z1.2 0 (fun _ => 0) (fun _ => 0) (fun _ => 0) (fun _ => 0) 0 (fun _ => 0) (fun _ => 0))) ++ (ordW G n35_4 b51 b52 0 (fun _ => 0) 0 0 0 0 (fun _ => 0))) ++ (tabW G b7 0 0 0 0 z0.1 z0.2 z1.1 z1.2 0 (fun _ => 0) (fun _ => 0) (fun _ => 0) (fun _ => 0) 0 (fun _ => 0) (fun _ => 0))) ++ (tabW G b9 0 0 0 0 z0.1 z0.2 z1.1 z1.2 0 (fun _ => 0) (fun _ => 0) (fun _ => 0) (fun _ => 0) 0 (fun _ => 0) (fun _ => 0))) ++ (tabW G b11 0 0 0 0 z0.1 z0.2 z1.1 z1.2 0 (fun _ => 0) (fun _ => 0) (fun _ => 0) (fun _ => 0) 0 (fun _ => 0) (fun _ => 0))) ++ [(n57_12, .inr (3, [.int 0, .int 0, .int 0, .int 0, .null, .null, .null, .null, .int 0, .null, .null]))]) H := hP
  have hD : va_D (va_A [(h0, .inr (4, [.null, .int 0, .null, .null, .null]))] s.heap.size) ((((((([(h0, .inr (4, [.ref n6, .int 0, .ref (b1 0), .ref (b3 0), .ref n35_4])), (n6, .inl (G.2.2.2, 4, .inr (.inr (.inr (.inr (va_up (va_up (va_up (fun _ => none) (0 : Int32).toNatClampNeg (some (b7 0))) (1 : Int32).toNatClampNeg (some (b9 0))) (2 : Int32).toNatClampNeg (some (b11 0))))))))] ++ (tabW G b1 0 0 0 0 z0.1 z0.2 z1.1 z1.2 0 (fun _ => 0) (fun _ => 0) (fun _ => 0) (fun _ => 0) 0 (fun _ => 0) (fun _ => 0))) ++ (tabW G b3 0 0 0 0 z0.1 z0.2 z1.1 z1.2 0 (fun _ => 0) (fun _ => 0) (fun _ => 0) (fun _ => 0) 0 (fun _ => 0) (fun _ => 0))) ++ (ordW G n35_4 b51 b52 0 (fun _ => 0) 0 0 0 0 (fun _ => 0))) ++ (tabW G b7 0 0 0 0 z0.1 z0.2 z1.1 z1.2 0 (fun _ => 0) (fun _ => 0) (fun _ => 0) (fun _ => 0) 0 (fun _ => 0) (fun _ => 0))) ++ (tabW G b9 0 0 0 0 z0.1 z0.2 z1.1 z1.2 0 (fun _ => 0) (fun _ => 0) (fun _ => 0) (fun _ => 0) 0 (fun _ => 0) (fun _ => 0))) ++ (tabW G b11 0 0 0 0 z0.1 z0.2 z1.1 z1.2 0 (fun _ => 0) (fun _ => 0) (fun _ => 0) (fun _ => 0) 0 (fun _ => 0) (fun _ => 0))) ++ [(n57_12, .inr (3, [.int 0, .int 0, .int 0, .int 0, .null, .null, .null, .null, .int 0, .null, .null]))]) := hD
  refine W.widen (k := 75) (n := 1116) (Nat.le_of_ble_eq_true rfl) (Nat.le_of_ble_eq_true rfl) ?_
  refine lv_dup hx hb dX5_init_60 rfl ?_
  have hPc := hP.sub (ws' := [(n57_12, .inr (3, [.int 0, .int 0, .int 0, .int 0, .null, .null, .null, .null, .int 0, .null, .null]))]) [75] rfl
  have hDc := hD.sub (ws' := [(n57_12, .inr (3, [.int 0, .int 0, .int 0, .int 0, .null, .null, .null, .null, .int 0, .null, .null]))]) [75] (by decide) rfl
  have hFc := va_free (wc := [(n57_12, .inr (3, [.int 0, .int 0, .int 0, .int 0, .null, .null, .null, .null, .int 0, .null, .null]))]) hD hS hA [75] rfl
  refine va_callv (va_runIN (As := []) (rest := [.ref n57_12, .int (3 : Int32), .ref n6]) ⟨hx, hb, hml, hown, hts⟩ (qX4_init l G n57_12 hcl hcl1 H.size) ⟨va_cnB 0 hts (TB_C TB_id tw_27) rfl rfl rfl hK.2.2.2.1 (hts _ tw_6) (by decide +kernel) ⟨Nat.le_of_ble_eq_true rfl, Nat.le_of_ble_eq_true rfl⟩, rfl, (hts _ tw_26)⟩ ⟨g_blind, fun U hU hW => ⟨rfl, by rw [hU], by rw [hU]; exact hPc, hK.warm hW, hDc.weaken (fun _ _ _ _ => trivial)⟩⟩ rfl rfl hl.1 rfl (lv_room (Nat.le_of_ble_eq_true rfl)) dX5_init_61 ⟨Nat.le_of_ble_eq_true rfl, Nat.le_of_ble_eq_true rfl⟩) hS (fun q _ h => hFc q h) hFc (fun u t H1 locs ht hvm hw hB hz1 hk1 hS => ?_)
  obtain ⟨b13, rfl⟩ : ∃ z, z = u := ⟨_, rfl⟩
  have hw : b13 0 = n57_12 := hw
  subst hw
  obtain ⟨hP1, hD1⟩ := hB
  rw [ht] at hP1
  obtain ⟨hP, hD⟩ := va_join (wr := (((((([(h0, .inr (4, [.ref n6, .int 0, .ref (b1 0), .ref (b3 0), .ref n35_4])), (n6, .inl (G.2.2.2, 4, .inr (.inr (.inr (.inr (va_up (va_up (va_up (fun _ => none) (0 : Int32).toNatClampNeg (some (b7 0))) (1 : Int32).toNatClampNeg (some (b9 0))) (2 : Int32).toNatClampNeg (some (b11 0))))))))] ++ (tabW G b1 0 0 0 0 z0.1 z0.2 z1.1 z1.2 0 (fun _ => 0) (fun _ => 0) (fun _ => 0) (fun _ => 0) 0 (fun _ => 0) (fun _ => 0))) ++ (tabW G b3 0 0 0 0 z0.1 z0.2 z1.1 z1.2 0 (fun _ => 0) (fun _ => 0) (fun _ => 0) (fun _ => 0) 0 (fun _ => 0) (fun _ => 0))) ++ (ordW G n35_4 b51 b52 0 (fun _ => 0) 0 0 0 0 (fun _ => 0))) ++ (tabW G b7 0 0 0 0 z0.1 z0.2 z1.1 z1.2 0 (fun _ => 0) (fun _ => 0) (fun _ => 0) (fun _ => 0) 0 (fun _ => 0) (fun _ => 0))) ++ (tabW G b9 0 0 0 0 z0.1 z0.2 z1.1 z1.2 0 (fun _ => 0) (fun _ => 0) (fun _ => 0) (fun _ => 0) 0 (fun _ => 0) (fun _ => 0))) ++ (tabW G b11 0 0 0 0 z0.1 z0.2 z1.1 z1.2 0 (fun _ => 0) (fun _ => 0) (fun _ => 0) (fun _ => 0) 0 (fun _ => 0) (fun _ => 0)))) (w1 := (tabW G b13 0 0 0 0 z0.1 z0.2 z1.1 z1.2 0 (fun _ => 0) (fun _ => 0) (fun _ => 0) (fun _ => 0) 0 (fun _ => 0) (fun _ => 0))) hP hD [75] [0, 1, 2, 3, 4, 5, 6, 7, 8, 9, 10, 11, 12, 13, 14, 15, 16, 17, 18, 19, 20, 21, 22, 23, 24, 25, 26, 27, 28, 29, 30, 31, 32, 33, 34, 35, 36, 37, 38, 39, 40, 41, 42, 43, 44, 45, 46, 47, 48, 49, 50, 51, 52, 53, 54, 55, 56, 57, 58, 59, 60, 61, 62, 63, 64, 65, 66, 67, 68, 69, 70, 71, 72, 73, 74] rfl rfl (by decide) (by decide) hk1 hFc hP1 hD1
  generalize H1 = H at hP hS ⊢
  have hP : va_P G.1 vwCl ((((((([(h0, .inr (4, [.ref n6, .int 0, .ref (b1 0), .ref (b3 0), .ref n35_4])), (n6, .inl (G.2.2.2, 4, .inr (.inr (.inr (.inr (va_up (va_up (va_up (fun _ => none) (0 : Int32).toNatClampNeg (some (b7 0))) (1 : Int32).toNatClampNeg (some (b9 0))) (2 : Int32).toNatClampNeg (some (b11 0))))))))] ++ (tabW G b1 0 0 0 0 z0.1 z0.2 z1.1 z1.2 0 (fun _ => 0) (fun _ => 0) (fun _ => 0) (fun _ => 0) 0 (fun _ => 0) (fun _ => 0))) ++ (tabW G b3 0 0 0 0 z0.1 z0.2 z1.1 z1.2 0 (fun _ => 0) (fun _ => 0) (fun _ => 0) (fun _ => 0) 0 (fun _ => 0) (fun _ => 0))) ++ (ordW G n35_4 b51 b52 0 (fun _ => 0) 0 0 0 0 (fun _ => 0))) ++ (tabW G b7 0 0 0 0 z0.1 z0.2 z1.1 z1.2 0 (fun _ => 0) (fun _ => 0) (fun _ => 0) (fun _ => 0) 0 (fun _ => 0) (fun _ => 0))) ++ (tabW G b9 0 0 0 0 z0.1 z0.2 z1.1 z1.2 0 (fun _ => 0) (fun _ => 0) (fun _ => 0) (fun _ => 0) 0 (fun _ => 0) (fun _ => 0))) ++ (tabW G b11 0 0 0 0 z0.1 z0.2 z1.1 z1.2 0 (fun _ => 0) (fun _ => 0) (fun _ => 0) (fun _ => 0) 0 (fun _ => 0) (fun _ => 0))) ++ (tabW G b13 0 0 0 0 z0.1 z0.2 z1.1 z1.2 0 (fun _ => 0) (fun _ => 0) (fun _ => 0) (fun _ => 0) 0 (fun _ => 0) (fun _ => 0))) H := hP
  have hD : va_D (va_A [(h0, .inr (4, [.null, .int 0, .null, .null, .null]))] s.heap.size) ((((((([(h0, .inr (4, [.ref n6, .int 0, .ref (b1 0), .ref (b3 0), .ref n35_4])), (n6, .inl (G.2.2.2, 4, .inr (.inr (.inr (.inr (va_up (va_up (va_up (fun _ => none) (0 : Int32).toNatClampNeg (some (b7 0))) (1 : Int32).toNatClampNeg (some (b9 0))) (2 : Int32).toNatClampNeg (some (b11 0))))))))] ++ (tabW G b1 0 0 0 0 z0.1 z0.2 z1.1 z1.2 0 (fun _ => 0) (fun _ => 0) (fun _ => 0) (fun _ => 0) 0 (fun _ => 0) (fun _ => 0))) ++ (tabW G b3 0 0 0 0 z0.1 z0.2 z1.1 z1.2 0 (fun _ => 0) (fun _ => 0) (fun _ => 0) (fun _ => 0) 0 (fun _ => 0) (fun _ => 0))) ++ (ordW G n35_4 b51 b52 0 (fun _ => 0) 0 0 0 0 (fun _ => 0))) ++ (tabW G b7 0 0 0 0 z0.1 z0.2 z1.1 z1.2 0 (fun _ => 0) (fun _ => 0) (fun _ => 0) (fun _ => 0) 0 (fun _ => 0) (fun _ => 0))) ++ (tabW G b9 0 0 0 0 z0.1 z0.2 z1.1 z1.2 0 (fun _ => 0) (fun _ => 0) (fun _ => 0) (fun _ => 0) 0 (fun _ => 0) (fun _ => 0))) ++ (tabW G b11 0 0 0 0 z0.1 z0.2 z1.1 z1.2 0 (fun _ => 0) (fun _ => 0) (fun _ => 0) (fun _ => 0) 0 (fun _ => 0) (fun _ => 0))) ++ (tabW G b13 0 0 0 0 z0.1 z0.2 z1.1 z1.2 0 (fun _ => 0) (fun _ => 0) (fun _ => 0) (fun _ => 0) 0 (fun _ => 0) (fun _ => 0))) := hD
  refine W.widen (k := 88) (n := 1311) (Nat.le_of_ble_eq_true rfl) (Nat.le_of_ble_eq_true rfl) ?_
  refine va_astq (r := (RX4, TX4, 11)) hx hb hK.1 hP hD hS 1 2 75 3 rfl rfl rfl rfl (g_in_vp (by decide)) dX5_init_64 (fun H locs hP hD hS => ?_)
  have hP : va_P G.1 vwCl ((((((([(h0, .inr (4, [.ref n6, .int 0, .ref (b1 0), .ref (b3 0), .ref n35_4])), (n6, .inl (G.2.2.2, 4, .inr (.inr (.inr (.inr (va_up (va_up (va_up (va_up (fun _ => none) (0 : Int32).toNatClampNeg (some (b7 0))) (1 : Int32).toNatClampNeg (some (b9 0))) (2 : Int32).toNatClampNeg (some (b11 0))) (3 : Int32).toNatClampNeg (some (b13 0))))))))] ++ (tabW G b1 0 0 0 0 z0.1 z0.2 z1.1 z1.2 0 (fun _ => 0) (fun _ => 0) (fun _ => 0) (fun _ => 0) 0 (fun _ => 0) (fun _ => 0))) ++ (tabW G b3 0 0 0 0 z0.1 z0.2 z1.1 z1.2 0 (fun _ => 0) (fun _ => 0) (fun _ => 0) (fun _ => 0) 0 (fun _ => 0) (fun _ => 0))) ++ (ordW G n35_4 b51 b52 0 (fun _ => 0) 0 0 0 0 (fun _ => 0))) ++ (tabW G b7 0 0 0 0 z0.1 z0.2 z1.1 z1.2 0 (fun _ => 0) (fun _ => 0) (fun _ => 0) (fun _ => 0) 0 (fun _ => 0) (fun _ => 0))) ++ (tabW G b9 0 0 0 0 z0.1 z0.2 z1.1 z1.2 0 (fun _ => 0) (fun _ => 0) (fun _ => 0) (fun _ => 0) 0 (fun _ => 0) (fun _ => 0))) ++ (tabW G b11 0 0 0 0 z0.1 z0.2 z1.1 z1.2 0 (fun _ => 0) (fun _ => 0) (fun _ => 0) (fun _ => 0) 0 (fun _ => 0) (fun _ => 0))) ++ (tabW G b13 0 0 0 0 z0.1 z0.2 z1.1 z1.2 0 (fun _ => 0) (fun _ => 0) (fun _ => 0) (fun _ => 0) 0 (fun _ => 0) (fun _ => 0))) H := hP
  have hD : va_D (va_A [(h0, .inr (4, [.null, .int 0, .null, .null, .null]))] s.heap.size) ((((((([(h0, .inr (4, [.ref n6, .int 0, .ref (b1 0), .ref (b3 0), .ref n35_4])), (n6, .inl (G.2.2.2, 4, .inr (.inr (.inr (.inr (va_up (va_up (va_up (va_up (fun _ => none) (0 : Int32).toNatClampNeg (some (b7 0))) (1 : Int32).toNatClampNeg (some (b9 0))) (2 : Int32).toNatClampNeg (some (b11 0))) (3 : Int32).toNatClampNeg (some (b13 0))))))))] ++ (tabW G b1 0 0 0 0 z0.1 z0.2 z1.1 z1.2 0 (fun _ => 0) (fun _ => 0) (fun _ => 0) (fun _ => 0) 0 (fun _ => 0) (fun _ => 0))) ++ (tabW G b3 0 0 0 0 z0.1 z0.2 z1.1 z1.2 0 (fun _ => 0) (fun _ => 0) (fun _ => 0) (fun _ => 0) 0 (fun _ => 0) (fun _ => 0))) ++ (ordW G n35_4 b51 b52 0 (fun _ => 0) 0 0 0 0 (fun _ => 0))) ++ (tabW G b7 0 0 0 0 z0.1 z0.2 z1.1 z1.2 0 (fun _ => 0) (fun _ => 0) (fun _ => 0) (fun _ => 0) 0 (fun _ => 0) (fun _ => 0))) ++ (tabW G b9 0 0 0 0 z0.1 z0.2 z1.1 z1.2 0 (fun _ => 0) (fun _ => 0) (fun _ => 0) (fun _ => 0) 0 (fun _ => 0) (fun _ => 0))) ++ (tabW G b11 0 0 0 0 z0.1 z0.2 z1.1 z1.2 0 (fun _ => 0) (fun _ => 0) (fun _ => 0) (fun _ => 0) 0 (fun _ => 0) (fun _ => 0))) ++ (tabW G b13 0 0 0 0 z0.1 z0.2 z1.1 z1.2 0 (fun _ => 0) (fun _ => 0) (fun _ => 0) (fun _ => 0) 0 (fun _ => 0) (fun _ => 0))) := hD
  refine lv_iinc (v := (4 : Int32)) (lv' := [(1, .int (4 : Int32)), (0, .ref h0)]) hx hb dX5_init_65 hl (k := 0) rfl rfl (by decide) rfl (fun ls hl => ?_)
  refine lv_goto (tgt := 47) hx hb dX5_init_68 (by decide) ?_
  refine lv_iload_n hx hb dX5_init_47 rfl (lv_at hl 0 rfl) ?_
  refine lv_iconst (v := (4 : Int32)) hx hb dX5_init_48 (by decide) ?_
  refine lv_icmp_ge (tgt := 71) hx hb dX5_init_49 (by decide) (fun _ => ?_) (fun c_ => absurd c_ (by decide))
  rw [g_h4] at hP hD
  exact W.vret hx hb hr (fun t ht _ => ⟨⟨(n6, n35_4, b51, b52, b1, b3, b7, b9, b11, b13), rfl, rfl, by rw [ht]; exact hP, hD⟩, hS.F ht⟩) hS.2.2 dX5_init_71
