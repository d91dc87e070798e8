/-! contracts framed: the same method over a larger world; a call whose world is the whole one -/
theorem va_P.of_mem {D : va_G} {cl : List vw_C} {ws ws' : va_W} {H : Heap} (h : va_P D cl ws H) (hm : ∀ q ∈ ws', q ∈ ws) : va_P D cl ws' H := fun k q hk => by
  obtain ⟨j, hj⟩ := List.getElem?_of_mem (hm q (List.mem_of_getElem? hk))
  exact h j q hj
theorem va_D.nodup {A : Nat → Prop} {ws : va_W} (h : va_D A ws) : (ws.map (fun q => q.1)).Nodup := by
  refine List.pairwise_iff_getElem.mpr ?_
  intro i j hi hj hij heq
  simp only [List.length_map] at hi hj
  simp only [List.getElem_map] at heq
  have := h.1 i j _ _ (List.getElem?_eq_getElem hi) (List.getElem?_eq_getElem hj) heq
  omega
theorem va_D.of_nodup {A : Nat → Prop} {ws : va_W} (hn : (ws.map (fun q => q.1)).Nodup) (hA : ∀ q ∈ ws, A q.1) : va_D A ws := by
  refine ⟨fun i j p q hp hq hpq => ?_, fun k q hk => hA q (List.mem_of_getElem? hk)⟩
  have hn := List.pairwise_iff_getElem.mp hn
  obtain ⟨hi, hp⟩ := List.getElem?_eq_some_iff.mp hp
  obtain ⟨hj, hq⟩ := List.getElem?_eq_some_iff.mp hq
  rcases Nat.lt_trichotomy i j with h | h | h
  · exact (hn i j (by simpa using hi) (by simpa using hj) h (by simp only [List.getElem_map, hp, hq]; exact hpq)).elim
  · exact h
  · exact (hn j i (by simpa using hj) (by simpa using hi) h (by simp only [List.getElem_map, hp, hq]; exact hpq.symm)).elim
theorem va_D.mem {A : Nat → Prop} {ws : va_W} (h : va_D A ws) {q : Nat × va_E} (hq : q ∈ ws) : A q.1 := by
  obtain ⟨k, hk⟩ := List.getElem?_of_mem hq
  exact h.2 k q hk
theorem va_D.perm {A : Nat → Prop} {ws ws' : va_W} (h : va_D A ws) (hp : ws.Perm ws') : va_D A ws' :=
  va_D.of_nodup ((hp.map _).nodup_iff.mp h.nodup) (fun q hq => h.mem (hp.mem_iff.mpr hq))
theorem va_P.perm {D : va_G} {cl : List vw_C} {ws ws' : va_W} {H : Heap} (h : va_P D cl ws H) (hp : ws.Perm ws') : va_P D cl ws' H := h.of_mem (fun _ hq => hp.mem_iff.mpr hq)
theorem va_A.mono {w w' : va_W} {sz : Nat} (hm : ∀ q ∈ w, q ∈ w') : ∀ q, va_A w sz q → va_A w' sz q := fun q h => by
  rcases h with ⟨k, e, h⟩ | h
  · obtain ⟨j, hj⟩ := List.getElem?_of_mem (hm _ (List.mem_of_getElem? h))
    exact Or.inl ⟨j, e, hj⟩
  · exact Or.inr h
theorem gC.frame {l : Launch} {G : gT} {y : MethodName} {ws : List Cond} {rm : Room} {av : List Value} {w0 w1 : va_W} {v : Option Value} (h : gC l G y ws rm av w0 v w1) (ha : w1.map (fun q => q.1) = w0.map (fun q => q.1)) {wf W0 W1 : va_W} (h0 : W0.Perm (w0 ++ wf)) (h1 : W1.Perm (w1 ++ wf)) : gC l G y ws rm av W0 v W1 := by
  intro sz
  refine MetFree.mono (h sz) ?_ (fun _ _ _ _ _ hh => hh) ?_
  · rintro a s ⟨rfl, hsz, hP, hK, hD⟩
    exact ⟨rfl, hsz, hP.of_mem (fun q hq => h0.mem_iff.mpr (List.mem_append_left _ hq)), hK, va_D.of_nodup (((h0.map _).nodup_iff.mp hD.nodup).sublist (by rw [List.map_append]; exact List.sublist_append_left _ _)) (fun _ _ => trivial)⟩
  · rintro a s o t ⟨rfl, hsz, hP, hK, hD⟩ ⟨⟨⟨ho, hP1, hD1⟩, hF⟩, L, hL, hfr⟩
    have hn0 : ((w0 ++ wf).map (fun q => q.1)).Nodup := (h0.map _).nodup_iff.mp hD.nodup
    have hsub : ∀ q, va_A w0 sz q → va_A W0 sz q := va_A.mono (fun q hq => h0.mem_iff.mpr (List.mem_append_left _ hq))
    have hP1' : va_P G.1 vwCl W1 t.heap := by
      refine va_P.perm (ws := w1 ++ wf) ?_ h1.symm
      refine va_P.app hP1 (fun k q hk => ?_)
      have hqm : q ∈ wf := List.mem_of_getElem? hk
      have hq0 : q ∈ W0 := h0.mem_iff.mpr (List.mem_append_right _ hqm)
      obtain ⟨j, hj⟩ := List.getElem?_of_mem hq0
      have hat := hP j q hj
      refine hat.kept (hF.2 q.1 hat.lt ?_)
      rintro (⟨i, e, hi⟩ | hi)
      · rw [List.map_append, List.nodup_append] at hn0
        exact hn0.2.2 q.1 (List.mem_map.mpr ⟨(q.1, e), List.mem_of_getElem? hi, rfl⟩) q.1 (List.mem_map.mpr ⟨q, hqm, rfl⟩) rfl
      · have := hat.lt
        omega
    have hD1' : va_D (va_A W0 sz) W1 := by
      refine va_D.perm (ws := w1 ++ wf) ?_ h1.symm
      refine va_D.of_nodup (by rw [List.map_append, ha, ← List.map_append]; exact hn0) (fun q hq => ?_)
      rcases List.mem_append.mp hq with hq | hq
      · exact hsub _ (hD1.mem hq)
      · obtain ⟨j, hj⟩ := List.getElem?_of_mem (h0.mem_iff.mpr (List.mem_append_right _ hq))
        exact va_A.in hj
    exact ⟨⟨⟨ho, hP1', hD1'⟩, hF.1, fun q hq hn => hF.2 q hq (fun z => hn (hsub q z))⟩, L, hL, fun q hq => hsub _ (hfr q hq)⟩
section GLW
variable {p : Program} {l : Launch} {e : Env} {R : Room} {s : State} {m : MethodId} {args : Array Value} {below : List Frame} {meth : Method} {c : Code} {H : Heap} {locs : List Loc} {cells slots : Nat} {Q : State → Prop}
variable {G : gT} {pc : Nat} {ls : Array Slot} {rest st0 : List Value} {a : Array Value} {A0 : Nat → Prop} {H0 : Heap}
theorem g_contW {v : Option Value} {st1 : List Value} {ws w1 : va_W} (hr : va_Run p l e R s m args below meth c H locs cells slots 0 0 (F0 m pc ls st0) rest (g_post G v w1 ws H.size a) (va_A ws H.size)) (hs : v.toList ++ rest = st1) (hD : va_D A0 ws) (hS : va_S A0 H0 H locs) (hA : ∀ q, H0.size ≤ q → A0 q)
    (kk : ∀ (H1 : Heap) (locs1 : List Loc), va_P G.1 vwCl w1 H1 → va_D A0 w1 → va_S A0 H0 H1 locs1 → W p l e R s m args below meth c H1 locs1 cells slots Q (F0 m (pc + 3) ls st1)) : W p l e R s m args below meth c H locs cells slots Q (F0 m pc ls st0) := by
  subst hs
  have hF : ∀ q, va_A ws H.size q → A0 q := by
    rintro q (⟨k, e0, hk⟩ | hq)
    · exact hD.2 k (q, e0) hk
    · exact hA q (Nat.le_trans hS.1 hq)
  intro T hT X
  obtain ⟨v', st₀, t, T', L, h0, X', hL, e1, e2, ⟨⟨hv, hP1, hD1⟩, hz, hk⟩, st⟩ := hr T hT X
  cases hv
  rw [h0] at hz hk
  obtain ⟨t2, a1, b1⟩ := kk T'.heap (locs ++ L) (by rw [e1]; exact hP1) (hD1.weaken (fun k q _ hq => hF q.1 hq))
    ⟨Nat.le_trans hS.1 (by rw [e1]; exact hz), fun q h1 h2 => by rw [e1, hk q (Nat.lt_of_lt_of_le h1 hS.1) (fun z => h2 (hF q z))]; exact hS.2.1 q h1 h2, fun q hq => by
      rcases List.mem_append.mp hq with h | h
      · exact hS.2.2 q h
      · exact hF _ (hL q h)⟩ T' rfl X'
  exact ⟨t2, st t2 a1, b1⟩
end GLW
