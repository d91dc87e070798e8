/-! contracts framed again: no word on addresses; a reading contract over a larger world -/
theorem gC.frameN {l : Launch} {G : gT} {y : MethodName} {ws : List Cond} {rm : Room} {av : List Value} {w0 w1 : va_W} {v : Option Value} (h : gC l G y ws rm av w0 v w1) {wf W0 W1 : va_W} (h0 : W0.Perm (w0 ++ wf)) (h1 : W1.Perm (w1 ++ wf)) : gC l G y ws rm av W0 v W1 := by
  intro sz
  refine MetFree.mono (h sz) ?_ (fun _ _ _ _ _ hh => hh) ?_
  · rintro a s ⟨rfl, hsz, hP, hK, hD⟩
    exact ⟨rfl, hsz, hP.of_mem (fun q hq => h0.mem_iff.mpr (List.mem_append_left _ hq)), hK, va_D.of_nodup (((h0.map _).nodup_iff.mp hD.nodup).sublist (by rw [List.map_append]; exact List.sublist_append_left _ _)) (fun _ _ => trivial)⟩
  · rintro a s o t ⟨rfl, hsz, hP, hK, hD⟩ ⟨⟨⟨ho, hP1, hD1⟩, hF⟩, L, hL, hfr⟩
    have hn0 : ((w0 ++ wf).map (fun q => q.1)).Nodup := (h0.map _).nodup_iff.mp hD.nodup
    have hsub : ∀ q, va_A w0 sz q → va_A W0 sz q := va_A.mono (fun q hq => h0.mem_iff.mpr (List.mem_append_left _ hq))
    have hP1' : va_P G.1 vwCl W1 t.heap := by
      refine va_P.perm (ws := w1 ++ wf) ?_ h1.symm
      refine va_P.app hP1 (fun k q hk => ?_)
      have hqm : q ∈ wf := List.mem_of_getElem? hk
      have hq0 : q ∈ W0 := h0.mem_iff.mpr (List.mem_append_right _ hqm)
      obtain ⟨j, hj⟩ := List.getElem?_of_mem hq0
      have hat := hP j q hj
      refine hat.kept (hF.2 q.1 hat.lt ?_)
      rintro (⟨i, e, hi⟩ | hi)
      · rw [List.map_append, List.nodup_append] at hn0
        exact hn0.2.2 q.1 (List.mem_map.mpr ⟨(q.1, e), List.mem_of_getElem? hi, rfl⟩) q.1 (List.mem_map.mpr ⟨q, hqm, rfl⟩) rfl
      · have := hat.lt
        omega
    have hD1' : va_D (va_A W0 sz) W1 := by
      refine va_D.perm (ws := w1 ++ wf) ?_ h1.symm
      refine va_D.of_nodup ?_ (fun q hq => ?_)
      · rw [List.map_append, List.nodup_append] at hn0 ⊢
        refine ⟨hD1.nodup, hn0.2.1, fun q hq1 q' hq2 e => ?_⟩
        subst e
        obtain ⟨p1, hp1, rfl⟩ := List.mem_map.mp hq1
        obtain ⟨p2, hp2, hp⟩ := List.mem_map.mp hq2
        rcases hD1.mem hp1 with ⟨i, e, hi⟩ | hi
        · exact hn0.2.2 p1.1 (List.mem_map.mpr ⟨(p1.1, e), List.mem_of_getElem? hi, rfl⟩) p1.1 hq2 rfl
        · obtain ⟨j, hj⟩ := List.getElem?_of_mem (h0.mem_iff.mpr (List.mem_append_right _ hp2))
          have h3 := (hP j p2 hj).lt
          have h4 : p2.1 = p1.1 := hp
          omega
      · rcases List.mem_append.mp hq with hq | hq
        · exact hsub _ (hD1.mem hq)
        · obtain ⟨j, hj⟩ := List.getElem?_of_mem (h0.mem_iff.mpr (List.mem_append_right _ hq))
          exact va_A.in hj
    exact ⟨⟨⟨ho, hP1', hD1'⟩, hF.1, fun q hq hn => hF.2 q hq (fun z => hn (hsub q z))⟩, L, hL, fun q hq => hsub _ (hfr q hq)⟩
theorem gR.frameC {l : Launch} {G : gT} {y : MethodName} {ws : List Cond} {rm : Room} {av : List Value} {w0 : va_W} {v : Option Value} (h : gR l G y ws rm av w0 v) {W : va_W} (hm : ∀ q ∈ w0, q ∈ W) : gC l G y ws rm av W v W := by
  intro sz
  have h' : Met l y ws rm (va_Pc av (g_preR G w0)) (g_postR v) 0 0 (fun _ => False) := h
  refine MetFree.mono h' ?_ (fun _ _ _ _ _ hh => hh) ?_
  · rintro a s ⟨rfl, hsz, hP, hK, hD⟩
    exact ⟨rfl, hP.of_mem hm, hK⟩
  · rintro a s o t ⟨rfl, hsz, hP, hK, hD⟩ ⟨⟨ho, hh⟩, L, hL, hfr⟩
    refine ⟨⟨⟨ho, by rw [hh]; exact hP, hD.self⟩, ?_, fun q hq hn => ?_⟩, L, hL, fun q hq => (hfr q hq).elim⟩
    · rw [hh]; exact Nat.le_refl _
    · rw [hh]
theorem face_sub (G : gT) (x hi h0 h1 h2 : Nat) (st : Int32) (n tr q0 q1 q2 q3 : (Nat → Nat) × zT) (len : Int32) (tx : Nat → Int32) (gi pl re ki : Int32) (nu : Nat → Int32) : ∀ q ∈ ts1W G x hi st (n.1 0) (tr.1 0) h0 ++ tT G n.1 n.2 ++ ordW G h0 h1 h2 len tx gi pl re ki nu, q ∈ faceW G x hi h0 h1 h2 st n tr q0 q1 q2 q3 len tx gi pl re ki nu := by
  intro q hq
  unfold faceW
  rcases List.mem_append.mp hq with hq | hq
  · rcases List.mem_append.mp hq with hq | hq
    · exact List.mem_append_left _ hq
    · exact List.mem_append_right _ (List.mem_append_right _ (List.mem_append_left _ hq))
  · exact List.mem_append_right _ (List.mem_append_right _ (List.mem_append_right _ (List.mem_append_right _ (List.mem_append_left _ hq))))
/-! undo, by roles -/
theorem pU0 {α : Type} (X I nc nr tc tr O c0 r0 c1 r1 c2 r2 c3 r3 : List α) : (X ++ (I ++ ((nc ++ nr) ++ ((tc ++ tr) ++ (O ++ ((c0 ++ r0) ++ ((c1 ++ r1) ++ ((c2 ++ r2) ++ ((c3 ++ r3)))))))))).Perm ((X ++ (I ++ (c0 ++ (c1 ++ (c2 ++ (c3 ++ (nc ++ tc))))))) ++ (nr ++ (tr ++ (O ++ (r0 ++ (r1 ++ (r2 ++ r3))))))) := by
  have h := (List.Perm.map (fun i : Nat => [X, I, nc, nr, tc, tr, O, c0, r0, c1, r1, c2, r2, c3, r3].getD i []) (show ([0, 1, 2, 3, 4, 5, 6, 7, 8, 9, 10, 11, 12, 13, 14] : List Nat).Perm [0, 1, 7, 9, 11, 13, 2, 4, 3, 5, 6, 8, 10, 12, 14] by decide)).flatten
  simpa [List.append_assoc] using h
theorem pU1 {α : Type} (X I nc nr tc tr O c0 r0 c1 r1 c2 r2 c3 r3 : List α) : (X ++ (I ++ ((c0 ++ r0) ++ ((tc ++ tr) ++ (O ++ ((nc ++ nr) ++ ((c1 ++ r1) ++ ((c2 ++ r2) ++ ((c3 ++ r3)))))))))).Perm ((X ++ (I ++ (c0 ++ (c1 ++ (c2 ++ (c3 ++ (nc ++ tc))))))) ++ (nr ++ (tr ++ (O ++ (r0 ++ (r1 ++ (r2 ++ r3))))))) := by
  have h := (List.Perm.map (fun i : Nat => [X, I, nc, nr, tc, tr, O, c0, r0, c1, r1, c2, r2, c3, r3].getD i []) (show ([0, 1, 7, 8, 4, 5, 6, 2, 3, 9, 10, 11, 12, 13, 14] : List Nat).Perm [0, 1, 7, 9, 11, 13, 2, 4, 3, 5, 6, 8, 10, 12, 14] by decide)).flatten
  simpa [List.append_assoc] using h
theorem pU2 {α : Type} (X I nc nr tc tr O c0 r0 c1 r1 c2 r2 c3 r3 : List α) : (X ++ (I ++ ((c1 ++ r1) ++ ((tc ++ tr) ++ (O ++ ((c0 ++ r0) ++ ((nc ++ nr) ++ ((c2 ++ r2) ++ ((c3 ++ r3)))))))))).Perm ((X ++ (I ++ (c0 ++ (c1 ++ (c2 ++ (c3 ++ (nc ++ tc))))))) ++ (nr ++ (tr ++ (O ++ (r0 ++ (r1 ++ (r2 ++ r3))))))) := by
  have h := (List.Perm.map (fun i : Nat => [X, I, nc, nr, tc, tr, O, c0, r0, c1, r1, c2, r2, c3, r3].getD i []) (show ([0, 1, 9, 10, 4, 5, 6, 7, 8, 2, 3, 11, 12, 13, 14] : List Nat).Perm [0, 1, 7, 9, 11, 13, 2, 4, 3, 5, 6, 8, 10, 12, 14] by decide)).flatten
  simpa [List.append_assoc] using h
theorem pU3 {α : Type} (X I nc nr tc tr O c0 r0 c1 r1 c2 r2 c3 r3 : List α) : (X ++ (I ++ ((c2 ++ r2) ++ ((tc ++ tr) ++ (O ++ ((c0 ++ r0) ++ ((c1 ++ r1) ++ ((nc ++ nr) ++ ((c3 ++ r3)))))))))).Perm ((X ++ (I ++ (c0 ++ (c1 ++ (c2 ++ (c3 ++ (nc ++ tc))))))) ++ (nr ++ (tr ++ (O ++ (r0 ++ (r1 ++ (r2 ++ r3))))))) := by
  have h := (List.Perm.map (fun i : Nat => [X, I, nc, nr, tc, tr, O, c0, r0, c1, r1, c2, r2, c3, r3].getD i []) (show ([0, 1, 11, 12, 4, 5, 6, 7, 8, 9, 10, 2, 3, 13, 14] : List Nat).Perm [0, 1, 7, 9, 11, 13, 2, 4, 3, 5, 6, 8, 10, 12, 14] by decide)).flatten
  simpa [List.append_assoc] using h
theorem pU4 {α : Type} (X I nc nr tc tr O c0 r0 c1 r1 c2 r2 c3 r3 : List α) : (X ++ (I ++ ((c3 ++ r3) ++ ((tc ++ tr) ++ (O ++ ((c0 ++ r0) ++ ((c1 ++ r1) ++ ((c2 ++ r2) ++ ((nc ++ nr)))))))))).Perm ((X ++ (I ++ (c0 ++ (c1 ++ (c2 ++ (c3 ++ (nc ++ tc))))))) ++ (nr ++ (tr ++ (O ++ (r0 ++ (r1 ++ (r2 ++ r3))))))) := by
  have h := (List.Perm.map (fun i : Nat => [X, I, nc, nr, tc, tr, O, c0, r0, c1, r1, c2, r2, c3, r3].getD i []) (show ([0, 1, 13, 14, 4, 5, 6, 7, 8, 9, 10, 11, 12, 2, 3] : List Nat).Perm [0, 1, 7, 9, 11, 13, 2, 4, 3, 5, 6, 8, 10, 12, 14] by decide)).flatten
  simpa [List.append_assoc] using h
section FU
variable (G : gT) (x hi h0 h1 h2 : Nat) (n tr q0 q1 q2 q3 : (Nat → Nat) × zT) (len : Int32) (tx : Nat → Int32) (gi pl re ki : Int32) (nu : Nat → Int32)
def restU : va_W := tR G n.1 n.2 ++ (tR G tr.1 tr.2 ++ (ordW G h0 h1 h2 len tx gi pl re ki nu ++ (tR G q0.1 q0.2 ++ (tR G q1.1 q1.2 ++ (tR G q2.1 q2.2 ++ tR G q3.1 q3.2)))))
theorem face_un0 (st : Int32) : (faceW G x hi h0 h1 h2 st n tr q0 q1 q2 q3 len tx gi pl re ki nu).Perm (tsS G x hi (q0.1 0) (q1.1 0) (q2.1 0) (q3.1 0) (n.1 0) (tr.1 0) st (n.1 0) (tr.1 0) h0 (g4 (q0.1 0) (q1.1 0) (q2.1 0) (q3.1 0)) (tV q0.1 q0.2) (tV q1.1 q1.2) (tV q2.1 q2.2) (tV q3.1 q3.2) (tV n.1 n.2) (tV tr.1 tr.2) ++ restU G h0 h1 h2 n tr q0 q1 q2 q3 len tx gi pl re ki nu) :=
  pU0 ([(x, .inr (4, [.ref hi, .int st, .ref (n.1 0), .ref (tr.1 0), .ref h0]))] : va_W) ([(hi, .inl (G.2.2.2, 4, .inr (.inr (.inr (.inr (g4 (q0.1 0) (q1.1 0) (q2.1 0) (q3.1 0)))))))] : va_W) ([(n.1 0, .inr (3, tV n.1 n.2))] : va_W) (tR G n.1 n.2) ([(tr.1 0, .inr (3, tV tr.1 tr.2))] : va_W) (tR G tr.1 tr.2) (ordW G h0 h1 h2 len tx gi pl re ki nu) ([(q0.1 0, .inr (3, tV q0.1 q0.2))] : va_W) (tR G q0.1 q0.2) ([(q1.1 0, .inr (3, tV q1.1 q1.2))] : va_W) (tR G q1.1 q1.2) ([(q2.1 0, .inr (3, tV q2.1 q2.2))] : va_W) (tR G q2.1 q2.2) ([(q3.1 0, .inr (3, tV q3.1 q3.2))] : va_W) (tR G q3.1 q3.2)
theorem face_un1 (st : Int32) : (faceW G x hi h0 h1 h2 st q0 tr n q1 q2 q3 len tx gi pl re ki nu).Perm (tsS G x hi (q0.1 0) (q1.1 0) (q2.1 0) (q3.1 0) (n.1 0) (tr.1 0) st (q0.1 0) (tr.1 0) h0 (g4 (n.1 0) (q1.1 0) (q2.1 0) (q3.1 0)) (tV q0.1 q0.2) (tV q1.1 q1.2) (tV q2.1 q2.2) (tV q3.1 q3.2) (tV n.1 n.2) (tV tr.1 tr.2) ++ restU G h0 h1 h2 n tr q0 q1 q2 q3 len tx gi pl re ki nu) :=
  pU1 ([(x, .inr (4, [.ref hi, .int st, .ref (q0.1 0), .ref (tr.1 0), .ref h0]))] : va_W) ([(hi, .inl (G.2.2.2, 4, .inr (.inr (.inr (.inr (g4 (n.1 0) (q1.1 0) (q2.1 0) (q3.1 0)))))))] : va_W) ([(n.1 0, .inr (3, tV n.1 n.2))] : va_W) (tR G n.1 n.2) ([(tr.1 0, .inr (3, tV tr.1 tr.2))] : va_W) (tR G tr.1 tr.2) (ordW G h0 h1 h2 len tx gi pl re ki nu) ([(q0.1 0, .inr (3, tV q0.1 q0.2))] : va_W) (tR G q0.1 q0.2) ([(q1.1 0, .inr (3, tV q1.1 q1.2))] : va_W) (tR G q1.1 q1.2) ([(q2.1 0, .inr (3, tV q2.1 q2.2))] : va_W) (tR G q2.1 q2.2) ([(q3.1 0, .inr (3, tV q3.1 q3.2))] : va_W) (tR G q3.1 q3.2)
theorem face_un2 (st : Int32) : (faceW G x hi h0 h1 h2 st q1 tr q0 n q2 q3 len tx gi pl re ki nu).Perm (tsS G x hi (q0.1 0) (q1.1 0) (q2.1 0) (q3.1 0) (n.1 0) (tr.1 0) st (q1.1 0) (tr.1 0) h0 (g4 (q0.1 0) (n.1 0) (q2.1 0) (q3.1 0)) (tV q0.1 q0.2) (tV q1.1 q1.2) (tV q2.1 q2.2) (tV q3.1 q3.2) (tV n.1 n.2) (tV tr.1 tr.2) ++ restU G h0 h1 h2 n tr q0 q1 q2 q3 len tx gi pl re ki nu) :=
  pU2 ([(x, .inr (4, [.ref hi, .int st, .ref (q1.1 0), .ref (tr.1 0), .ref h0]))] : va_W) ([(hi, .inl (G.2.2.2, 4, .inr (.inr (.inr (.inr (g4 (q0.1 0) (n.1 0) (q2.1 0) (q3.1 0)))))))] : va_W) ([(n.1 0, .inr (3, tV n.1 n.2))] : va_W) (tR G n.1 n.2) ([(tr.1 0, .inr (3, tV tr.1 tr.2))] : va_W) (tR G tr.1 tr.2) (ordW G h0 h1 h2 len tx gi pl re ki nu) ([(q0.1 0, .inr (3, tV q0.1 q0.2))] : va_W) (tR G q0.1 q0.2) ([(q1.1 0, .inr (3, tV q1.1 q1.2))] : va_W) (tR G q1.1 q1.2) ([(q2.1 0, .inr (3, tV q2.1 q2.2))] : va_W) (tR G q2.1 q2.2) ([(q3.1 0, .inr (3, tV q3.1 q3.2))] : va_W) (tR G q3.1 q3.2)
theorem face_un3 (st : Int32) : (faceW G x hi h0 h1 h2 st q2 tr q0 q1 n q3 len tx gi pl re ki nu).Perm (tsS G x hi (q0.1 0) (q1.1 0) (q2.1 0) (q3.1 0) (n.1 0) (tr.1 0) st (q2.1 0) (tr.1 0) h0 (g4 (q0.1 0) (q1.1 0) (n.1 0) (q3.1 0)) (tV q0.1 q0.2) (tV q1.1 q1.2) (tV q2.1 q2.2) (tV q3.1 q3.2) (tV n.1 n.2) (tV tr.1 tr.2) ++ restU G h0 h1 h2 n tr q0 q1 q2 q3 len tx gi pl re ki nu) :=
  pU3 ([(x, .inr (4, [.ref hi, .int st, .ref (q2.1 0), .ref (tr.1 0), .ref h0]))] : va_W) ([(hi, .inl (G.2.2.2, 4, .inr (.inr (.inr (.inr (g4 (q0.1 0) (q1.1 0) (n.1 0) (q3.1 0)))))))] : va_W) ([(n.1 0, .inr (3, tV n.1 n.2))] : va_W) (tR G n.1 n.2) ([(tr.1 0, .inr (3, tV tr.1 tr.2))] : va_W) (tR G tr.1 tr.2) (ordW G h0 h1 h2 len tx gi pl re ki nu) ([(q0.1 0, .inr (3, tV q0.1 q0.2))] : va_W) (tR G q0.1 q0.2) ([(q1.1 0, .inr (3, tV q1.1 q1.2))] : va_W) (tR G q1.1 q1.2) ([(q2.1 0, .inr (3, tV q2.1 q2.2))] : va_W) (tR G q2.1 q2.2) ([(q3.1 0, .inr (3, tV q3.1 q3.2))] : va_W) (tR G q3.1 q3.2)
theorem face_un4 (st : Int32) : (faceW G x hi h0 h1 h2 st q3 tr q0 q1 q2 n len tx gi pl re ki nu).Perm (tsS G x hi (q0.1 0) (q1.1 0) (q2.1 0) (q3.1 0) (n.1 0) (tr.1 0) st (q3.1 0) (tr.1 0) h0 (g4 (q0.1 0) (q1.1 0) (q2.1 0) (n.1 0)) (tV q0.1 q0.2) (tV q1.1 q1.2) (tV q2.1 q2.2) (tV q3.1 q3.2) (tV n.1 n.2) (tV tr.1 tr.2) ++ restU G h0 h1 h2 n tr q0 q1 q2 q3 len tx gi pl re ki nu) :=
  pU4 ([(x, .inr (4, [.ref hi, .int st, .ref (q3.1 0), .ref (tr.1 0), .ref h0]))] : va_W) ([(hi, .inl (G.2.2.2, 4, .inr (.inr (.inr (.inr (g4 (q0.1 0) (q1.1 0) (q2.1 0) (n.1 0)))))))] : va_W) ([(n.1 0, .inr (3, tV n.1 n.2))] : va_W) (tR G n.1 n.2) ([(tr.1 0, .inr (3, tV tr.1 tr.2))] : va_W) (tR G tr.1 tr.2) (ordW G h0 h1 h2 len tx gi pl re ki nu) ([(q0.1 0, .inr (3, tV q0.1 q0.2))] : va_W) (tR G q0.1 q0.2) ([(q1.1 0, .inr (3, tV q1.1 q1.2))] : va_W) (tR G q1.1 q1.2) ([(q2.1 0, .inr (3, tV q2.1 q2.2))] : va_W) (tR G q2.1 q2.2) ([(q3.1 0, .inr (3, tV q3.1 q3.2))] : va_W) (tR G q3.1 q3.2)
end FU
