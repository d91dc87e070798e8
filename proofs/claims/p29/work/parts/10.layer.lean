/-! THE LAYER: contracts of two forms (reads alone; writes in place), their calls, their ends; guards of the decompiled functions. -/
abbrev gT : Type := va_G × ClassId × ClassId × ClassId
abbrev g_tys (G : gT) : List (ClassId × FieldType) := [(G.2.1, .int), (G.2.1, .int), (G.2.2.2, .object "TwoShapes$Table")]
def g_n1 : Cond := .methodLinkNest RX4 100 yX5_isBelow RX5
def g_n2 : Cond := .methodLinkNest RX4 100 yX5_isBelow RX5
def g_n3 : Cond := .methodLinkNest RX5 15 yX4_init RX5
def g_n4 : Cond := .methodLinkNest RX5 25 yX0_init RX5
def g_n5 : Cond := .methodLinkNest RX4 25 yX1_init RX5
def g_nest (U : State) : Prop := va_Nw g_n1 U ∧ va_Nw g_n2 U ∧ va_Nw g_n3 U ∧ va_Nw g_n4 U ∧ va_Nw g_n5 U
theorem g_nest.warm {s U : State} (hW : s.WarmedH U.vm) (h : g_nest s) : g_nest U := ⟨va_Nw.warmM hW h.1, va_Nw.warmM hW h.2.1, va_Nw.warmM hW h.2.2.1, va_Nw.warmM hW h.2.2.2.1, va_Nw.warmM hW h.2.2.2.2⟩
theorem g_nest.same {u U : State} (hv : u.vm = U.vm) (h : g_nest u) : g_nest U := ⟨va_Nw.same rfl hv h.1, va_Nw.same rfl hv h.2.1, va_Nw.same rfl hv h.2.2.1, va_Nw.same rfl hv h.2.2.2.1, va_Nw.same rfl hv h.2.2.2.2⟩
/-- what the tables say: the classes, the array classes, the nest words -/
def gK (G : gT) (U : State) : Prop := va_K G.1 vwCl (g_tys G) U ∧ g_nest U
theorem gK.warm {G : gT} {s U : State} (hW : s.WarmedH U.vm) (h : gK G s) : gK G U := ⟨va_K.moved hW.alike h.1, h.2.warm hW⟩
theorem gK.same {G : gT} {u U : State} (hv : u.vm = U.vm) (h : gK G u) : gK G U := ⟨va_K.moved (by rw [hv]; exact Vm.Alike.refl _) h.1, h.2.same hv⟩
def g_pre (G : gT) (w0 : va_W) (sz : Nat) (U : State) : Prop := U.heap.size = sz ∧ va_P G.1 vwCl w0 U.heap ∧ gK G U ∧ va_D (fun _ => True) w0
def g_preR (G : gT) (w0 : va_W) (U : State) : Prop := va_P G.1 vwCl w0 U.heap ∧ gK G U
theorem g_blind {G : gT} {w0 : va_W} {sz : Nat} {av : List Value} : FrameBlind (va_Pc av (g_pre G w0 sz)) := fun a U g mk q => by
  obtain ⟨q0, q1, qP, qK, qD⟩ := q
  exact ⟨q0, q1, qP, gK.same (u := U) (U := U.calling g mk a) rfl qK, qD⟩
theorem g_blindR {G : gT} {w0 : va_W} {av : List Value} : FrameBlind (va_Pc av (g_preR G w0)) := fun a U g mk q => by
  obtain ⟨q0, qP, qK⟩ := q
  exact ⟨q0, qP, gK.same (u := U) (U := U.calling g mk a) rfl qK⟩
def g_post (G : gT) (v : Option Value) (w1 w0 : va_W) (sz : Nat) : Array Value → State → Outcome → State → Prop := fun _ st oc t => (oc = .returned v ∧ va_P G.1 vwCl w1 t.heap ∧ va_D (va_A w0 sz) w1) ∧ va_F (va_A w0 sz) st t
def g_postR (v : Option Value) : Array Value → State → Outcome → State → Prop := fun _ st oc t => oc = .returned v ∧ t.heap = st.heap
/-- the contract of a method that writes in place -/
def gC (l : Launch) (G : gT) (y : MethodName) (ws : List Cond) (rm : Room) (av : List Value) (w0 : va_W) (v : Option Value) (w1 : va_W) : Prop := ∀ sz, Met l y ws rm (va_Pc av (g_pre G w0 sz)) (g_post G v w1 w0 sz) 0 0 (va_A w0 sz)
/-- the contract of a method that only reads -/
def gR (l : Launch) (G : gT) (y : MethodName) (ws : List Cond) (rm : Room) (av : List Value) (w0 : va_W) (v : Option Value) : Prop := Met l y ws rm (va_Pc av (g_preR G w0)) (g_postR v) 0 0 (fun _ => False)
/-- what holds at every place of a method's walk -/
def gX (p : Program) (s : State) (m : MethodId) (args : Array Value) (meth : Method) (c : Code) (cc : ByteArray) (nL : Nat) (ret : Option FieldType) (own : String) (G : gT) : Prop :=
  p.tables.exec = Jvm.exec ∧ c.code = cc ∧ meth.sig.returnType = ret ∧ (∀ w ∈ TB, w.before args s = true) ∧ s.vm.findClass own = some m.cls ∧ meth.locks = false ∧ c.maxLocals = nL ∧ gK G s
/-- the goal of a walk, at pc -/
abbrev gW (p : Program) (l : Launch) (e : Env) (R : Room) (s : State) (m : MethodId) (args : Array Value) (below : List Frame) (meth : Method) (c : Code) (G : gT) (w0 : va_W) (v : Option Value) (w1 : va_W) (H : Heap) (locs : List Loc) (pc : Nat) (ls : Array Slot) (st : List Value) : Prop :=
  W p l e R s m args below meth c H locs 0 0 (MQ below (g_post G v w1 w0 s.heap.size) args s 0 0 (va_A w0 s.heap.size)) (F0 m pc ls st)
abbrev gV (p : Program) (l : Launch) (e : Env) (R : Room) (s : State) (m : MethodId) (args : Array Value) (below : List Frame) (meth : Method) (c : Code) (v : Option Value) (pc : Nat) (ls : Array Slot) (st : List Value) : Prop :=
  W p l e R s m args below meth c s.heap [] 0 0 (MQ below (g_postR v) args s 0 0 (fun _ => False)) (F0 m pc ls st)
theorem gC.of {l : Launch} {G : gT} {y : MethodName} {ws : List Cond} {rm : Room} {av : List Value} {w0 : va_W} {v : Option Value} {w1 : va_W} {cc : ByteArray} {maxL : Nat} {ret : Option FieldType}
    (hy : plainName y.cls = true) (hw : ws = Cond.code y cc maxL ret :: TB) (hn : (lg_sl av).length ≤ maxL)
    (body : ∀ (p : Program) (e : Env) (s : State) (m : MethodId) (below : List Frame) (meth : Method) (c : Code), gX p s m av.toArray meth c cc maxL ret y.cls G → va_P G.1 vwCl w0 s.heap → va_D (va_A w0 s.heap.size) w0 → va_S (va_A w0 s.heap.size) s.heap s.heap [] →
      ∀ ls, lv_has ls maxL (lv_args 0 av) → gW p l e (headSpec ws rm).room s m av.toArray below meth c G w0 v w1 s.heap [] 0 ls []) : gC l G y ws rm av w0 v w1 := by
  intro sz
  refine Met.ofW (cc := cc) (maxL := maxL) (ret := ret) hy hw ?_
  intro p e s m args below meth c s₁ B hml hv
  obtain ⟨rfl, hsz, hP, hK, hD0⟩ := hv
  subst hsz
  rw [lg_entry_eq]
  exact body p e s m below meth c ⟨B.exec, B.bytes, B.returns, fun w h => atoms_spec (ws := ws) B.pre w (by rw [hw]; exact List.mem_cons_of_mem _ h), findClass_of_methodNamed B.named, B.notSynchronized, hml, hK⟩ hP hD0.self va_S.rf _ (lv_entry av hn)
theorem gR.of {l : Launch} {G : gT} {y : MethodName} {ws : List Cond} {rm : Room} {av : List Value} {w0 : va_W} {v : Option Value} {cc : ByteArray} {maxL : Nat} {ret : Option FieldType}
    (hy : plainName y.cls = true) (hw : ws = Cond.code y cc maxL ret :: TB) (hn : (lg_sl av).length ≤ maxL)
    (body : ∀ (p : Program) (e : Env) (s : State) (m : MethodId) (below : List Frame) (meth : Method) (c : Code), gX p s m av.toArray meth c cc maxL ret y.cls G → va_P G.1 vwCl w0 s.heap →
      ∀ ls, lv_has ls maxL (lv_args 0 av) → gV p l e (headSpec ws rm).room s m av.toArray below meth c v 0 ls []) : gR l G y ws rm av w0 v := by
  refine Met.ofW (cc := cc) (maxL := maxL) (ret := ret) hy hw ?_
  intro p e s m args below meth c s₁ B hml hv
  obtain ⟨rfl, hP, hK⟩ := hv
  rw [lg_entry_eq]
  exact body p e s m below meth c ⟨B.exec, B.bytes, B.returns, fun w h => atoms_spec (ws := ws) B.pre w (by rw [hw]; exact List.mem_cons_of_mem _ h), findClass_of_methodNamed B.named, B.notSynchronized, hml, hK⟩ hP _ (lv_entry av hn)
/-- a world with some places written anew -/
def g_put : va_W → List Nat → va_W → va_W
  | ws, i :: is, q :: qs => g_put (ws.set i q) is qs
  | ws, _, _ => ws
theorem g_put_get : ∀ (is : List Nat) (qs ws : va_W) (k : Nat) (q : Nat × va_E), is.length = qs.length → (g_put ws is qs)[k]? = some q → (∃ j : Nat, is[j]? = some k ∧ qs[j]? = some q) ∨ (k ∉ is ∧ ws[k]? = some q) := by
  intro is
  induction is with
  | nil =>
    intro qs ws k q _ h
    have h' : ws[k]? = some q := by simpa [g_put] using h
    exact Or.inr ⟨by simp, h'⟩
  | cons i is ih =>
    intro qs ws k q hl h
    cases qs with
    | nil => simp at hl
    | cons q0 qs =>
      have h' : (g_put (ws.set i q0) is qs)[k]? = some q := h
      rcases ih qs (ws.set i q0) k q (by simpa using hl) h' with ⟨j, h1, h2⟩ | ⟨h1, h2⟩
      · exact Or.inl ⟨j + 1, by simpa using h1, by simpa using h2⟩
      · by_cases hk : k = i
        · subst hk
          rw [List.getElem?_set] at h2
          simp only [if_true] at h2
          split at h2
          · exact Or.inl ⟨0, by simp, by simpa using h2⟩
          · cases h2
        · rw [List.getElem?_set_ne (fun e => hk e.symm)] at h2
          exact Or.inr ⟨by simp [hk, h1], h2⟩
section GL
variable {p : Program} {l : Launch} {e : Env} {R : Room} {s : State} {m : MethodId} {args : Array Value} {below : List Frame} {meth : Method} {c : Code} {H : Heap} {locs : List Loc} {Q : State → Prop}
variable {G : gT} {pc : Nat} {ls : Array Slot} {rest st0 : List Value} {a : Array Value} {A0 : Nat → Prop} {H0 : Heap}
theorem g_contR {v : Option Value} {st1 : List Value} (hr : va_Run p l e R s m args below meth c H locs 0 0 0 0 (F0 m pc ls st0) rest (g_postR v a) (fun _ => False)) (hs : v.toList ++ rest = st1)
    (kk : W p l e R s m args below meth c H locs 0 0 Q (F0 m (pc + 3) ls st1)) : W p l e R s m args below meth c H locs 0 0 Q (F0 m pc ls st0) := by
  subst hs
  intro T hT X
  obtain ⟨v', st₀, t, T', L, h0, X', hL, e1, e2, ⟨hv, hh⟩, st⟩ := hr T hT X
  cases hv
  obtain ⟨t2, a1, b1⟩ := kk T' (by rw [e1, hh, h0]) (Stand.forget X' (fun q h => (hL q h).elim))
  exact ⟨t2, st t2 a1, b1⟩
theorem g_contC {v : Option Value} {st1 : List Value} {ws w0 w1 : va_W} (hr : va_Run p l e R s m args below meth c H locs 0 0 0 0 (F0 m pc ls st0) rest (g_post G v w1 w0 H.size a) (va_A w0 H.size)) (hs : v.toList ++ rest = st1) (hP : va_P G.1 vwCl ws H) (hD : va_D A0 ws) (hS : va_S A0 H0 H locs) (hA : ∀ q, H0.size ≤ q → A0 q)
    (isC : List Nat) (hC : isC.map (fun i => ws[i]?) = w0.map some) (haddr : w1.map (fun q => q.1) = w0.map (fun q => q.1))
    (kk : ∀ (H1 : Heap) (locs1 : List Loc), va_P G.1 vwCl (g_put ws isC w1) H1 → va_D A0 (g_put ws isC w1) → va_S A0 H0 H1 locs1 → W p l e R s m args below meth c H1 locs1 0 0 Q (F0 m (pc + 3) ls st1)) : W p l e R s m args below meth c H locs 0 0 Q (F0 m pc ls st0) := by
  subst hs
  have hF := va_free hD hS hA isC hC
  have hlen : isC.length = w1.length := by
    have h1 := congrArg List.length hC
    have h2 := congrArg List.length haddr
    simp at h1 h2
    omega
  have at' : ∀ (j k : Nat), isC[j]? = some k → ∃ q, w0[j]? = some q ∧ ws[k]? = some q := by
    intro j k hj
    have h1 : (isC.map (fun i => ws[i]?))[j]? = some ws[k]? := by rw [List.getElem?_map, hj]; rfl
    rw [hC, List.getElem?_map] at h1
    cases hw : w0[j]? with
    | none => rw [hw] at h1; cases h1
    | some q => rw [hw] at h1; exact ⟨q, rfl, (Option.some.inj h1).symm⟩
  have ad' : ∀ (j : Nat) (q q' : Nat × va_E), w1[j]? = some q → w0[j]? = some q' → q.1 = q'.1 := by
    intro j q q' h1 h2
    have h3 : (w1.map (fun q => q.1))[j]? = some q.1 := by rw [List.getElem?_map, h1]; rfl
    rw [haddr, List.getElem?_map, h2] at h3
    exact (Option.some.inj h3).symm
  have same : ∀ (k : Nat) (q : Nat × va_E), (g_put ws isC w1)[k]? = some q → ∃ q', ws[k]? = some q' ∧ q'.1 = q.1 := by
    intro k q hk
    rcases g_put_get isC w1 ws k q hlen hk with ⟨j, h1, h2⟩ | ⟨-, h2⟩
    · obtain ⟨q', h3, h4⟩ := at' j k h1
      exact ⟨q', h4, (ad' j q q' h2 h3).symm⟩
    · exact ⟨q, h2, rfl⟩
  intro T hT X
  obtain ⟨v', st₀, t, T', L, h0, X', hL, e1, e2, ⟨⟨hv, hP1, hD1⟩, hz, hk⟩, st⟩ := hr T hT X
  cases hv
  rw [h0] at hz hk
  have hP2 : va_P G.1 vwCl (g_put ws isC w1) T'.heap := by
    intro k q hq
    rw [e1]
    rcases g_put_get isC w1 ws k q hlen hq with ⟨j, h1, h2⟩ | ⟨h1, h2⟩
    · exact hP1 j q h2
    · refine (hP k q h2).kept (hk q.1 (hP k q h2).lt ?_)
      rintro (⟨j, e0, hj⟩ | hj)
      · have h3 : (isC.map (fun i => ws[i]?))[j]? = some (some (q.1, e0)) := by rw [hC, List.getElem?_map, hj]; rfl
        rw [List.getElem?_map] at h3
        cases hi : isC[j]? with
        | none => rw [hi] at h3; cases h3
        | some i =>
          rw [hi] at h3
          have h4 : ws[i]? = some (q.1, e0) := Option.some.inj h3
          have h5 := hD.1 k i q (q.1, e0) h2 h4 rfl
          subst h5
          exact h1 (List.mem_of_getElem? hi)
      · exact absurd (hP k q h2).lt (by omega)
  have hD2 : va_D A0 (g_put ws isC w1) := by
    refine ⟨fun i j x y hx hy hxy => ?_, fun k q hq => ?_⟩
    · obtain ⟨x', hx1, hx2⟩ := same i x hx
      obtain ⟨y', hy1, hy2⟩ := same j y hy
      exact hD.1 i j x' y' hx1 hy1 (by rw [hx2, hy2, hxy])
    · obtain ⟨q', h1, h2⟩ := same k q hq
      rw [← h2]
      exact hD.2 k q' h1
  obtain ⟨t2, a1, b1⟩ := kk T'.heap (locs ++ L) hP2 hD2
    ⟨Nat.le_trans hS.1 (by rw [e1]; exact hz), fun q h1 h2 => by rw [e1, hk q (Nat.lt_of_lt_of_le h1 hS.1) (fun z => h2 (hF q z))]; exact hS.2.1 q h1 h2, fun q hq => by
      rcases List.mem_append.mp hq with h | h
      · exact hS.2.2 q h
      · exact hF _ (hL q h)⟩ T' rfl X'
  exact ⟨t2, st t2 a1, b1⟩
variable {y : MethodName} {bytes cc : ByteArray} {maxL nL n index : Nat} {ret : Option FieldType} {ws : List Cond} {rm : Room} {Ts : List Cond} {own C : String} {b : Addr} {As : List Value} {w0 w1 : va_W} {v : Option Value}
theorem g_runVC (S : CallFix p m c cc nL s args Ts own) (hM : gC l G y ws rm (.ref b :: As) w0 v w1) (cw : CallW R s args own C index y bytes maxL ret ws rm 0 0 n) (hK : gK G s) (hP : va_P G.1 vwCl w0 H) (hD : va_D A0 w0) (q0 : Nat) {ci N : Nat} {T : u_T} {fs : List Value} (he : w0[q0]? = some (b, .inr (ci, fs))) (hc : vwCl[ci]? = some (C, T, N)) (hn : As.length = n) (hsize : ls.size = nL) (hst : st0 = As.reverse ++ .ref b :: rest) (hW : (rest.map fun v => v.category).sum ≤ 8) (hdg : decode cc pc = .ok (.invokevirtual index, 3)) :
    va_Run p l e R s m args below meth c H locs 0 0 0 0 (F0 m pc ls st0) rest (g_post G v w1 w0 H.size (Value.ref b :: As).toArray) (va_A w0 H.size) :=
  va_runV S (hM H.size) cw ⟨g_blind, va_recv hK.1 hP hc he, fun U hU hw => ⟨rfl, by rw [hU], by rw [hU]; exact hP, hK.warm hw, hD.weaken (fun _ _ _ _ => trivial)⟩⟩ rfl hn hsize hst (lv_room hW) hdg ⟨Nat.zero_le _, Nat.zero_le _⟩
theorem g_runVR (S : CallFix p m c cc nL s args Ts own) (hM : gR l G y ws rm (.ref b :: As) w0 v) (cw : CallW R s args own C index y bytes maxL ret ws rm 0 0 n) (hK : gK G s) (hP : va_P G.1 vwCl w0 H) (q0 : Nat) {ci N : Nat} {T : u_T} {fs : List Value} (he : w0[q0]? = some (b, .inr (ci, fs))) (hc : vwCl[ci]? = some (C, T, N)) (hn : As.length = n) (hsize : ls.size = nL) (hst : st0 = As.reverse ++ .ref b :: rest) (hW : (rest.map fun v => v.category).sum ≤ 8) (hdg : decode cc pc = .ok (.invokevirtual index, 3)) :
    va_Run p l e R s m args below meth c H locs 0 0 0 0 (F0 m pc ls st0) rest (g_postR v (Value.ref b :: As).toArray) (fun _ => False) :=
  va_runV S hM cw ⟨g_blindR, va_recv hK.1 hP hc he, fun U hU hw => ⟨rfl, by rw [hU]; exact hP, hK.warm hw⟩⟩ rfl hn hsize hst (lv_room hW) hdg ⟨Nat.zero_le _, Nat.zero_le _⟩
theorem g_runSR (S : CallFix p m c cc nL s args Ts own) (hM : gR l G y ws rm As w0 v) (cw : CallB R s args own index y bytes maxL ret ws rm 0 0 n ∧ (Cond.static y).before args s = true) (hK : gK G s) (hP : va_P G.1 vwCl w0 H) (hn : As.length = n) (hsize : ls.size = nL) (hst : st0 = As.reverse ++ rest) (hW : (rest.map fun v => v.category).sum ≤ 8) (hdg : decode cc pc = .ok (.invokestatic index, 3)) :
    va_Run p l e R s m args below meth c H locs 0 0 0 0 (F0 m pc ls st0) rest (g_postR v As.toArray) (fun _ => False) :=
  va_runS S hM cw ⟨g_blindR, fun U hU hw => ⟨rfl, by rw [hU]; exact hP, hK.warm hw⟩⟩ rfl hn hsize hst (lv_room hW) hdg ⟨Nat.zero_le _, Nat.zero_le _⟩
theorem g_runSNR {host : String} (S : CallFix p m c cc nL s args Ts own) (hM : gR l G y ws rm As w0 v) (cw : va_CN R s args own index y host bytes maxL ret ws rm 0 0 n ∧ (Cond.static y).before args s = true ∧ True) (hK : gK G s) (hP : va_P G.1 vwCl w0 H) (hn : As.length = n) (hsize : ls.size = nL) (hst : st0 = As.reverse ++ rest) (hW : (rest.map fun v => v.category).sum ≤ 8) (hdg : decode cc pc = .ok (.invokestatic index, 3)) :
    va_Run p l e R s m args below meth c H locs 0 0 0 0 (F0 m pc ls st0) rest (g_postR v As.toArray) (fun _ => False) :=
  va_runSN S hM cw ⟨g_blindR, fun U hU hw => ⟨rfl, by rw [hU]; exact hP, hK.warm hw⟩⟩ rfl hn hsize hst (lv_room hW) hdg ⟨Nat.zero_le _, Nat.zero_le _⟩
-- ends
theorem g_iretR {x : Int32} (hx : p.tables.exec = Jvm.exec) (hb : c.code = cc) (hr : meth.sig.returnType = some .int) (hlocks : meth.locks = false) (hdg : decode cc pc = .ok (.ireturn, 1)) : gV p l e R s m args below meth c (some (.int x)) pc ls [.int x] :=
  W.iret hx hb hr (fun t ht _ => ⟨rfl, ht⟩) (fun q h => by cases h) hdg hlocks
theorem g_zretR {x : Int32} (hx : p.tables.exec = Jvm.exec) (hb : c.code = cc) (hr : meth.sig.returnType = some .boolean) (hlocks : meth.locks = false) (hn : narrow .boolean (.int x) = .int x) (hdg : decode cc pc = .ok (.ireturn, 1)) : gV p l e R s m args below meth c (some (.int x)) pc ls [.int x] :=
  W.zret hx hb hr hn (fun t ht _ => ⟨rfl, ht⟩) (fun q h => by cases h) hdg hlocks
theorem g_aretR {q : Nat} {C : String} (hx : p.tables.exec = Jvm.exec) (hb : c.code = cc) (hr : meth.sig.returnType = some (.object C)) (hlocks : meth.locks = false) (hdg : decode cc pc = .ok (.areturn, 1)) : gV p l e R s m args below meth c (some (.ref q)) pc ls [.ref q] :=
  W.aret hx hb hr (Or.inl ⟨C, rfl⟩) (Or.inr ⟨q, rfl⟩) (fun t ht _ => ⟨rfl, ht⟩) (fun q h => by cases h) hdg hlocks
theorem g_iretC {x : Int32} (hx : p.tables.exec = Jvm.exec) (hb : c.code = cc) (hr : meth.sig.returnType = some .int) (hlocks : meth.locks = false) (hP : va_P G.1 vwCl w1 H) (hD : va_D (va_A w0 s.heap.size) w1) (hS : va_S (va_A w0 s.heap.size) s.heap H locs) (hdg : decode cc pc = .ok (.ireturn, 1)) : gW p l e R s m args below meth c G w0 (some (.int x)) w1 H locs pc ls [.int x] :=
  W.iret hx hb hr (fun t ht _ => ⟨⟨rfl, by rw [ht]; exact hP, hD⟩, hS.F ht⟩) hS.2.2 hdg hlocks
theorem g_zretC {x : Int32} (hx : p.tables.exec = Jvm.exec) (hb : c.code = cc) (hr : meth.sig.returnType = some .boolean) (hlocks : meth.locks = false) (hn : narrow .boolean (.int x) = .int x) (hP : va_P G.1 vwCl w1 H) (hD : va_D (va_A w0 s.heap.size) w1) (hS : va_S (va_A w0 s.heap.size) s.heap H locs) (hdg : decode cc pc = .ok (.ireturn, 1)) : gW p l e R s m args below meth c G w0 (some (.int x)) w1 H locs pc ls [.int x] :=
  W.zret hx hb hr hn (fun t ht _ => ⟨⟨rfl, by rw [ht]; exact hP, hD⟩, hS.F ht⟩) hS.2.2 hdg hlocks
theorem g_aretC {q : Nat} {C : String} (hx : p.tables.exec = Jvm.exec) (hb : c.code = cc) (hr : meth.sig.returnType = some (.object C)) (hlocks : meth.locks = false) (hP : va_P G.1 vwCl w1 H) (hD : va_D (va_A w0 s.heap.size) w1) (hS : va_S (va_A w0 s.heap.size) s.heap H locs) (hdg : decode cc pc = .ok (.areturn, 1)) : gW p l e R s m args below meth c G w0 (some (.ref q)) w1 H locs pc ls [.ref q] :=
  W.aret hx hb hr (Or.inl ⟨C, rfl⟩) (Or.inr ⟨q, rfl⟩) (fun t ht _ => ⟨⟨rfl, by rw [ht]; exact hP, hD⟩, hS.F ht⟩) hS.2.2 hdg hlocks
theorem g_vretC (hx : p.tables.exec = Jvm.exec) (hb : c.code = cc) (hr : meth.sig.returnType = none) (hlocks : meth.locks = false) (hP : va_P G.1 vwCl w1 H) (hD : va_D (va_A w0 s.heap.size) w1) (hS : va_S (va_A w0 s.heap.size) s.heap H locs) (hdg : decode cc pc = .ok (.return_, 1)) : gW p l e R s m args below meth c G w0 none w1 H locs pc ls [] :=
  W.vret hx hb hr (fun t ht _ => ⟨⟨rfl, by rw [ht]; exact hP, hD⟩, hS.F ht⟩) hS.2.2 hdg hlocks
end GL
/-! guards -/
def g_in (i : Int32) (n : Nat) : Bool := decide (¬ (i < 0 ∨ n ≤ i.toNatClampNeg))
theorem g_in_vp {i : Int32} {n : Nat} (h : g_in i n = true) : vp_in i n := show ¬ (i < 0 ∨ n ≤ i.toNatClampNeg) from of_decide_eq_true h
def g_gd {α : Type} (b : Bool) (x : Option α) : Option α := match b with
  | true => x
  | false => none
theorem g_gdS {α : Type} {b : Bool} {x : Option α} {u : α} (h : g_gd b x = some u) : b = true ∧ x = some u := by
  cases b with
  | true => exact ⟨rfl, h⟩
  | false => cases h
theorem g_bdS {α β : Type} {x : Option α} {k : α → Option β} {u : β} (h : x.bind k = some u) : ∃ a, x = some a ∧ k a = some u := by
  cases x with
  | none => cases h
  | some a => exact ⟨a, rfl, h⟩
theorem g_ifT {α : Type} {P : Prop} {d : Decidable P} {x y : Option α} {u : α} (hc : P) (h : (@ite (Option α) P d x y) = some u) : x = some u := by rw [if_pos hc] at h; exact h
theorem g_ifF {α : Type} {P : Prop} {d : Decidable P} {x y : Option α} {u : α} (hc : ¬ P) (h : (@ite (Option α) P d x y) = some u) : y = some u := by rw [if_neg hc] at h; exact h
def g_bl (x : Int32) : Bool := decide (x = 0 ∨ x = 1)
theorem g_nb {x : Int32} (h : g_bl x = true) : narrow .boolean (.int x) = .int x := by
  rcases of_decide_eq_true h with rfl | rfl <;> rfl
theorem g_nb0 : narrow .boolean (.int 0) = .int 0 := rfl
theorem g_nb1 : narrow .boolean (.int 1) = .int 1 := rfl
/-! worlds -/
def shapeW (G : gT) (h0 h1 h2 : Nat) (nu : Int32) (ver row : Nat → Int32) : va_W := [(h0, .inr (2, [.int nu, .ref h1, .ref h2])), (h1, .inl (G.2.1, 31, .inl ver)), (h2, .inl (G.2.1, 31, .inl row))]
def queueW (G : gT) (h0 h1 h2 h3 : Nat) (len : Int32) (qk qv qr : Nat → Int32) : va_W := [(h0, .inr (1, [.int len, .ref h1, .ref h2, .ref h3])), (h1, .inl (G.2.1, 8, .inl qk)), (h2, .inl (G.2.1, 8, .inl qv)), (h3, .inl (G.2.1, 8, .inl qr))]
def tabW (G : gT) (a : Nat → Nat) (ph la po lo : Int32) (ov orr nv nr : Nat → Int32) (ql : Int32) (qk qv qr wr : Nat → Int32) (wa : Int32) (wc wk : Nat → Int32) : va_W :=
  [(a 0, .inr (3, [.int ph, .int la, .int po, .int lo, .ref (a 1), .ref (a 4), .ref (a 7), .ref (a 11), .int wa, .ref (a 12), .ref (a 13)])), (a 1, .inr (2, [.int 0, .ref (a 2), .ref (a 3)])), (a 2, .inl (G.2.1, 31, .inl ov)), (a 3, .inl (G.2.1, 31, .inl orr)), (a 4, .inr (2, [.int 1, .ref (a 5), .ref (a 6)])), (a 5, .inl (G.2.1, 31, .inl nv)), (a 6, .inl (G.2.1, 31, .inl nr)), (a 7, .inr (1, [.int ql, .ref (a 8), .ref (a 9), .ref (a 10)])), (a 8, .inl (G.2.1, 8, .inl qk)), (a 9, .inl (G.2.1, 8, .inl qv)), (a 10, .inl (G.2.1, 8, .inl qr)), (a 11, .inl (G.2.1, 31, .inl wr)), (a 12, .inl (G.2.1, 3, .inl wc)), (a 13, .inl (G.2.1, 3, .inl wk))]
def ordW (G : gT) (h0 h1 h2 : Nat) (len : Int32) (tx : Nat → Int32) (gi pl re ki : Int32) (nu : Nat → Int32) : va_W := [(h0, .inr (0, [.int len, .ref h1, .int gi, .int pl, .int re, .int ki, .ref h2])), (h1, .inl (G.2.1, 60, .inl tx)), (h2, .inl (G.2.1, 4, .inl nu))]
theorem g_0le {n : Nat} : (0 : Nat) ≤ n := Nat.zero_le n
/-! switches -/
def g_off (d lo hi : Int) (offs : Array Int) (x : Int) : Int := if x < lo ∨ hi < x then d else (offs[(x - lo).toNat]?).getD d
theorem g_tsw {p : Program} {l : Launch} {e : Env} {R : Room} {s : State} {m : MethodId} {args : Array Value} {below : List Frame} {meth : Method} {c : Code} {H : Heap} {locs : List Loc} {cells slots : Nat} {Q : State → Prop} {cc : ByteArray} {pc : Nat} {ls : Array Slot} {rest : List Value}
    (hexec : p.tables.exec = Jvm.exec) (hb : c.code = cc) {dflt lo hi : Int} {offs : Array Int} {len : Nat} {x : Int32} {off : Int} {tgt : Nat} (hdg : decode cc pc = .ok (.tableswitch dflt lo hi offs, len)) (ho : g_off dflt lo hi offs x.toInt = off) (hsz : (offs.size : Int) = hi - lo + 1) (ht : (pc : Int) + off = (tgt : Int))
    (k : W p l e R s m args below meth c H locs cells slots Q (F0 m tgt ls rest)) : W p l e R s m args below meth c H locs cells slots Q (F0 m pc ls (.int x :: rest)) := by
  unfold g_off at ho
  by_cases hx : x.toInt < lo ∨ hi < x.toInt
  · rw [if_pos hx] at ho
    exact lv_tableOut hexec hb hdg hx (by rw [ho]; exact ht) k
  · rw [if_neg hx] at ho
    have h1 : ¬ x.toInt < lo := fun q => hx (Or.inl q)
    have h2 : ¬ hi < x.toInt := fun q => hx (Or.inr q)
    have hlt : (x.toInt - lo).toNat < offs.size := by omega
    have hs : offs[(x.toInt - lo).toNat]? = some offs[(x.toInt - lo).toNat] := Array.getElem?_eq_getElem hlt
    rw [hs] at ho
    exact lv_tableIn hexec hb hdg h1 h2 (off := off) (by rw [hs]; exact congrArg some ho) ht k
/-- behind all cases: every place of the table that isn't among them goes to the default -/
theorem g_swd (d lo hi : Int) (offs : Array Int) (used : List Int) {x : Int} (h : ∀ j : Nat, j < offs.size → (lo + j) ∉ used → (offs[j]?).getD d = d) (hsz : (offs.size : Int) = hi - lo + 1) (hu : x ∉ used) : g_off d lo hi offs x = d := by
  unfold g_off
  split
  · rfl
  · rename_i hx
    have h3 : lo + ((x - lo).toNat : Int) = x := by omega
    refine h _ (by omega) ?_
    rw [h3]
    exact hu
