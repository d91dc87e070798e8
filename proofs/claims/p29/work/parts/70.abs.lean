/-! the abstract state of a TwoShapes: how many states, now, trial, the history, the orders; its world by roles -/
abbrev zT : Type := Int32 × Int32 × Int32 × Int32 × (Nat → Int32) × (Nat → Int32) × (Nat → Int32) × (Nat → Int32) × Int32 × (Nat → Int32) × (Nat → Int32) × (Nat → Int32) × (Nat → Int32) × Int32 × (Nat → Int32) × (Nat → Int32)
theorem zg_st {s : Nat} (h : s ≤ 4) : g_st (nI s) := by
  rcases (show s = 0 ∨ s = 1 ∨ s = 2 ∨ s = 3 ∨ s = 4 by omega) with rfl | rfl | rfl | rfl | rfl
  · exact Or.inl (by decide)
  · exact Or.inr (Or.inl (by decide))
  · exact Or.inr (Or.inr (Or.inl (by decide)))
  · exact Or.inr (Or.inr (Or.inr (Or.inl (by decide))))
  · exact Or.inr (Or.inr (Or.inr (Or.inr (by decide))))
/-! the world between calls, by roles -/
theorem pFE {α : Type} (X I N T O c0 r0 c1 r1 c2 r2 c3 r3 : List α) : (X ++ (I ++ (N ++ (T ++ (O ++ ((c0 ++ r0) ++ ((c1 ++ r1) ++ ((c2 ++ r2) ++ ((c3 ++ r3)))))))))).Perm ((X ++ (I ++ (c0 ++ (c1 ++ (c2 ++ c3))))) ++ (N ++ (T ++ O)) ++ (r0 ++ (r1 ++ (r2 ++ r3)))) := by
  have h := (List.Perm.map (fun i : Nat => [X, I, N, T, O, c0, r0, c1, r1, c2, r2, c3, r3].getD i []) (show ([0, 1, 2, 3, 4, 5, 6, 7, 8, 9, 10, 11, 12] : List Nat).Perm [0, 1, 5, 7, 9, 11, 2, 3, 4, 6, 8, 10, 12] by decide)).flatten
  simpa [List.append_assoc] using h
theorem pF0 {α : Type} (X I N T O c0 r0 c1 r1 c2 r2 c3 r3 : List α) : (X ++ (I ++ (T ++ ((c0 ++ r0) ++ (O ++ (N ++ ((c1 ++ r1) ++ ((c2 ++ r2) ++ ((c3 ++ r3)))))))))).Perm ((X ++ (I ++ (c0 ++ (c1 ++ (c2 ++ c3))))) ++ (N ++ (T ++ O)) ++ (r0 ++ (r1 ++ (r2 ++ r3)))) := by
  have h := (List.Perm.map (fun i : Nat => [X, I, N, T, O, c0, r0, c1, r1, c2, r2, c3, r3].getD i []) (show ([0, 1, 3, 5, 6, 4, 2, 7, 8, 9, 10, 11, 12] : List Nat).Perm [0, 1, 5, 7, 9, 11, 2, 3, 4, 6, 8, 10, 12] by decide)).flatten
  simpa [List.append_assoc] using h
theorem pF1 {α : Type} (X I N T O c0 r0 c1 r1 c2 r2 c3 r3 : List α) : (X ++ (I ++ (T ++ ((c1 ++ r1) ++ (O ++ ((c0 ++ r0) ++ (N ++ ((c2 ++ r2) ++ ((c3 ++ r3)))))))))).Perm ((X ++ (I ++ (c0 ++ (c1 ++ (c2 ++ c3))))) ++ (N ++ (T ++ O)) ++ (r0 ++ (r1 ++ (r2 ++ r3)))) := by
  have h := (List.Perm.map (fun i : Nat => [X, I, N, T, O, c0, r0, c1, r1, c2, r2, c3, r3].getD i []) (show ([0, 1, 3, 7, 8, 4, 5, 6, 2, 9, 10, 11, 12] : List Nat).Perm [0, 1, 5, 7, 9, 11, 2, 3, 4, 6, 8, 10, 12] by decide)).flatten
  simpa [List.append_assoc] using h
theorem pF2 {α : Type} (X I N T O c0 r0 c1 r1 c2 r2 c3 r3 : List α) : (X ++ (I ++ (T ++ ((c2 ++ r2) ++ (O ++ ((c0 ++ r0) ++ ((c1 ++ r1) ++ (N ++ ((c3 ++ r3)))))))))).Perm ((X ++ (I ++ (c0 ++ (c1 ++ (c2 ++ c3))))) ++ (N ++ (T ++ O)) ++ (r0 ++ (r1 ++ (r2 ++ r3)))) := by
  have h := (List.Perm.map (fun i : Nat => [X, I, N, T, O, c0, r0, c1, r1, c2, r2, c3, r3].getD i []) (show ([0, 1, 3, 9, 10, 4, 5, 6, 7, 8, 2, 11, 12] : List Nat).Perm [0, 1, 5, 7, 9, 11, 2, 3, 4, 6, 8, 10, 12] by decide)).flatten
  simpa [List.append_assoc] using h
theorem pF3 {α : Type} (X I N T O c0 r0 c1 r1 c2 r2 c3 r3 : List α) : (X ++ (I ++ (T ++ ((c3 ++ r3) ++ (O ++ ((c0 ++ r0) ++ ((c1 ++ r1) ++ ((c2 ++ r2) ++ (N))))))))).Perm ((X ++ (I ++ (c0 ++ (c1 ++ (c2 ++ c3))))) ++ (N ++ (T ++ O)) ++ (r0 ++ (r1 ++ (r2 ++ r3)))) := by
  have h := (List.Perm.map (fun i : Nat => [X, I, N, T, O, c0, r0, c1, r1, c2, r2, c3, r3].getD i []) (show ([0, 1, 3, 11, 12, 4, 5, 6, 7, 8, 9, 10, 2] : List Nat).Perm [0, 1, 5, 7, 9, 11, 2, 3, 4, 6, 8, 10, 12] by decide)).flatten
  simpa [List.append_assoc] using h
theorem pF4 {α : Type} (X I N T O c0 r0 c1 r1 c2 r2 c3 r3 : List α) : (X ++ (I ++ (T ++ ((c0 ++ r0) ++ (O ++ ((c1 ++ r1) ++ ((c2 ++ r2) ++ ((c3 ++ r3) ++ (N))))))))).Perm ((X ++ (I ++ (c0 ++ (c1 ++ (c2 ++ c3))))) ++ (N ++ (T ++ O)) ++ (r0 ++ (r1 ++ (r2 ++ r3)))) := by
  have h := (List.Perm.map (fun i : Nat => [X, I, N, T, O, c0, r0, c1, r1, c2, r2, c3, r3].getD i []) (show ([0, 1, 3, 5, 6, 4, 7, 8, 9, 10, 11, 12, 2] : List Nat).Perm [0, 1, 5, 7, 9, 11, 2, 3, 4, 6, 8, 10, 12] by decide)).flatten
  simpa [List.append_assoc] using h
def tT (G : gT) (a : Nat → Nat) (t : zT) : va_W := tabW G a t.1 t.2.1 t.2.2.1 t.2.2.2.1 t.2.2.2.2.1 t.2.2.2.2.2.1 t.2.2.2.2.2.2.1 t.2.2.2.2.2.2.2.1 t.2.2.2.2.2.2.2.2.1 t.2.2.2.2.2.2.2.2.2.1 t.2.2.2.2.2.2.2.2.2.2.1 t.2.2.2.2.2.2.2.2.2.2.2.1 t.2.2.2.2.2.2.2.2.2.2.2.2.1 t.2.2.2.2.2.2.2.2.2.2.2.2.2.1 t.2.2.2.2.2.2.2.2.2.2.2.2.2.2.1 t.2.2.2.2.2.2.2.2.2.2.2.2.2.2.2
def tV (a : Nat → Nat) (t : zT) : List Value := [.int t.1, .int t.2.1, .int t.2.2.1, .int t.2.2.2.1, .ref (a 1), .ref (a 4), .ref (a 7), .ref (a 11), .int t.2.2.2.2.2.2.2.2.2.2.2.2.2.1, .ref (a 12), .ref (a 13)]
def tR (G : gT) (a : Nat → Nat) (t : zT) : va_W := (tT G a t).tail
theorem tT_eq (G : gT) (a : Nat → Nat) (t : zT) : tT G a t = [(a 0, .inr (3, tV a t))] ++ tR G a t := rfl
def faceW (G : gT) (x hi h0 h1 h2 : Nat) (st : Int32) (n tr q0 q1 q2 q3 : (Nat → Nat) × zT) (len : Int32) (tx : Nat → Int32) (gi pl re ki : Int32) (nu : Nat → Int32) : va_W :=
  [(x, .inr (4, [.ref hi, .int st, .ref (n.1 0), .ref (tr.1 0), .ref h0]))] ++ ([(hi, .inl (G.2.2.2, 4, .inr (.inr (.inr (.inr (g4 (q0.1 0) (q1.1 0) (q2.1 0) (q3.1 0)))))))] ++ (tT G n.1 n.2 ++ (tT G tr.1 tr.2 ++ (ordW G h0 h1 h2 len tx gi pl re ki nu ++ (tT G q0.1 q0.2 ++ (tT G q1.1 q1.2 ++ (tT G q2.1 q2.2 ++ tT G q3.1 q3.2)))))))
def restW (G : gT) (q0 q1 q2 q3 : (Nat → Nat) × zT) : va_W := tR G q0.1 q0.2 ++ (tR G q1.1 q1.2 ++ (tR G q2.1 q2.2 ++ tR G q3.1 q3.2))
theorem face_in (G : gT) (x hi h0 h1 h2 : Nat) (st : Int32) (n tr q0 q1 q2 q3 : (Nat → Nat) × zT) (len : Int32) (tx : Nat → Int32) (gi pl re ki : Int32) (nu : Nat → Int32) : (faceW G x hi h0 h1 h2 st n tr q0 q1 q2 q3 len tx gi pl re ki nu).Perm ((ts2W G x hi (q0.1 0) (q1.1 0) (q2.1 0) (q3.1 0) st (n.1 0) (tr.1 0) h0 (g4 (q0.1 0) (q1.1 0) (q2.1 0) (q3.1 0)) (tV q0.1 q0.2) (tV q1.1 q1.2) (tV q2.1 q2.2) (tV q3.1 q3.2) ++ (tT G n.1 n.2 ++ (tT G tr.1 tr.2 ++ ordW G h0 h1 h2 len tx gi pl re ki nu))) ++ restW G q0 q1 q2 q3) :=
  pFE (([(x, .inr (4, [.ref hi, .int st, .ref (n.1 0), .ref (tr.1 0), .ref h0]))] : va_W)) (([(hi, .inl (G.2.2.2, 4, .inr (.inr (.inr (.inr (g4 (q0.1 0) (q1.1 0) (q2.1 0) (q3.1 0)))))))] : va_W)) (tT G n.1 n.2) (tT G tr.1 tr.2) (ordW G h0 h1 h2 len tx gi pl re ki nu) (([(q0.1 0, .inr (3, tV q0.1 q0.2))] : va_W)) (tR G q0.1 q0.2) (([(q1.1 0, .inr (3, tV q1.1 q1.2))] : va_W)) (tR G q1.1 q1.2) (([(q2.1 0, .inr (3, tV q2.1 q2.2))] : va_W)) (tR G q2.1 q2.2) (([(q3.1 0, .inr (3, tV q3.1 q3.2))] : va_W)) (tR G q3.1 q3.2)
/-! the world after a change, by roles -/
section FO
variable (G : gT) (x hi h0 h1 h2 : Nat) (n tr q0 q1 q2 q3 : (Nat → Nat) × zT) (u : zT) (len : Int32) (tx : Nat → Int32) (gi pl re ki : Int32) (nu : Nat → Int32) (ans : Int32)
/-- what a change's contract leaves -/
def outW (st : Int32) : va_W := (ts2W G x hi (q0.1 0) (q1.1 0) (q2.1 0) (q3.1 0) (sSt ans st) (sNow ans (n.1 0) (tr.1 0)) (sTr ans st (q0.1 0) (q1.1 0) (q2.1 0) (q3.1 0) (tr.1 0)) h0 (sH ans st (q0.1 0) (q1.1 0) (q2.1 0) (q3.1 0) (n.1 0)) (tV q0.1 q0.2) (tV q1.1 q1.2) (tV q2.1 q2.2) (tV q3.1 q3.2) ++ (tT G n.1 n.2 ++ (tT G tr.1 u ++ ordW G h0 h1 h2 len tx gi pl re ki nu))) ++ restW G q0 q1 q2 q3
theorem face_outE {st : Int32} (hs : ans < 0) : (faceW G x hi h0 h1 h2 (sSt ans st) n (tr.1, u) q0 q1 q2 q3 len tx gi pl re ki nu).Perm (outW G x hi h0 h1 h2 n tr q0 q1 q2 q3 u len tx gi pl re ki nu ans st) := by
  have e1 : sNow ans (n.1 0) (tr.1 0) = n.1 0 := if_pos hs
  have e2 : sTr ans st (q0.1 0) (q1.1 0) (q2.1 0) (q3.1 0) (tr.1 0) = tr.1 0 := by unfold sTr; rw [if_pos hs]
  have e3 : sH ans st (q0.1 0) (q1.1 0) (q2.1 0) (q3.1 0) (n.1 0) = g4 (q0.1 0) (q1.1 0) (q2.1 0) (q3.1 0) := by unfold sH; rw [if_pos hs]
  unfold outW
  rw [e1, e2, e3]
  exact pFE (([(x, .inr (4, [.ref hi, .int (sSt ans st), .ref (n.1 0), .ref (tr.1 0), .ref h0]))] : va_W)) (([(hi, .inl (G.2.2.2, 4, .inr (.inr (.inr (.inr (g4 (q0.1 0) (q1.1 0) (q2.1 0) (q3.1 0)))))))] : va_W)) (tT G n.1 n.2) (tT G tr.1 u) (ordW G h0 h1 h2 len tx gi pl re ki nu) ([(q0.1 0, .inr (3, tV q0.1 q0.2))] : va_W) (tR G q0.1 q0.2) ([(q1.1 0, .inr (3, tV q1.1 q1.2))] : va_W) (tR G q1.1 q1.2) ([(q2.1 0, .inr (3, tV q2.1 q2.2))] : va_W) (tR G q2.1 q2.2) ([(q3.1 0, .inr (3, tV q3.1 q3.2))] : va_W) (tR G q3.1 q3.2)
theorem face_out0 (hs : ¬ ans < 0) : (faceW G x hi h0 h1 h2 (sSt ans (0 : Int32)) (tr.1, u) q0 n q1 q2 q3 len tx gi pl re ki nu).Perm (outW G x hi h0 h1 h2 n tr q0 q1 q2 q3 u len tx gi pl re ki nu ans (0 : Int32)) := by
  have e1 : sNow ans (n.1 0) (tr.1 0) = tr.1 0 := if_neg hs
  have e2 : sTr ans (0 : Int32) (q0.1 0) (q1.1 0) (q2.1 0) (q3.1 0) (tr.1 0) = q0.1 0 := by unfold sTr; rw [if_neg hs, if_pos rfl]
  have e3 : sH ans (0 : Int32) (q0.1 0) (q1.1 0) (q2.1 0) (q3.1 0) (n.1 0) = g4 (n.1 0) (q1.1 0) (q2.1 0) (q3.1 0) := by unfold sH; rw [if_neg hs, if_pos rfl]
  unfold outW
  rw [e1, e2, e3]
  exact pF0 (([(x, .inr (4, [.ref hi, .int (sSt ans (0 : Int32)), .ref (tr.1 0), .ref (q0.1 0), .ref h0]))] : va_W)) (([(hi, .inl (G.2.2.2, 4, .inr (.inr (.inr (.inr (g4 (n.1 0) (q1.1 0) (q2.1 0) (q3.1 0)))))))] : va_W)) (tT G n.1 n.2) (tT G tr.1 u) (ordW G h0 h1 h2 len tx gi pl re ki nu) ([(q0.1 0, .inr (3, tV q0.1 q0.2))] : va_W) (tR G q0.1 q0.2) ([(q1.1 0, .inr (3, tV q1.1 q1.2))] : va_W) (tR G q1.1 q1.2) ([(q2.1 0, .inr (3, tV q2.1 q2.2))] : va_W) (tR G q2.1 q2.2) ([(q3.1 0, .inr (3, tV q3.1 q3.2))] : va_W) (tR G q3.1 q3.2)
theorem face_out1 (hs : ¬ ans < 0) : (faceW G x hi h0 h1 h2 (sSt ans (1 : Int32)) (tr.1, u) q1 q0 n q2 q3 len tx gi pl re ki nu).Perm (outW G x hi h0 h1 h2 n tr q0 q1 q2 q3 u len tx gi pl re ki nu ans (1 : Int32)) := by
  have e1 : sNow ans (n.1 0) (tr.1 0) = tr.1 0 := if_neg hs
  have e2 : sTr ans (1 : Int32) (q0.1 0) (q1.1 0) (q2.1 0) (q3.1 0) (tr.1 0) = q1.1 0 := by unfold sTr; rw [if_neg hs, if_neg (by decide), if_pos rfl]
  have e3 : sH ans (1 : Int32) (q0.1 0) (q1.1 0) (q2.1 0) (q3.1 0) (n.1 0) = g4 (q0.1 0) (n.1 0) (q2.1 0) (q3.1 0) := by unfold sH; rw [if_neg hs, if_neg (by decide), if_pos rfl]
  unfold outW
  rw [e1, e2, e3]
  exact pF1 (([(x, .inr (4, [.ref hi, .int (sSt ans (1 : Int32)), .ref (tr.1 0), .ref (q1.1 0), .ref h0]))] : va_W)) (([(hi, .inl (G.2.2.2, 4, .inr (.inr (.inr (.inr (g4 (q0.1 0) (n.1 0) (q2.1 0) (q3.1 0)))))))] : va_W)) (tT G n.1 n.2) (tT G tr.1 u) (ordW G h0 h1 h2 len tx gi pl re ki nu) ([(q0.1 0, .inr (3, tV q0.1 q0.2))] : va_W) (tR G q0.1 q0.2) ([(q1.1 0, .inr (3, tV q1.1 q1.2))] : va_W) (tR G q1.1 q1.2) ([(q2.1 0, .inr (3, tV q2.1 q2.2))] : va_W) (tR G q2.1 q2.2) ([(q3.1 0, .inr (3, tV q3.1 q3.2))] : va_W) (tR G q3.1 q3.2)
theorem face_out2 (hs : ¬ ans < 0) : (faceW G x hi h0 h1 h2 (sSt ans (2 : Int32)) (tr.1, u) q2 q0 q1 n q3 len tx gi pl re ki nu).Perm (outW G x hi h0 h1 h2 n tr q0 q1 q2 q3 u len tx gi pl re ki nu ans (2 : Int32)) := by
  have e1 : sNow ans (n.1 0) (tr.1 0) = tr.1 0 := if_neg hs
  have e2 : sTr ans (2 : Int32) (q0.1 0) (q1.1 0) (q2.1 0) (q3.1 0) (tr.1 0) = q2.1 0 := by unfold sTr; rw [if_neg hs, if_neg (by decide), if_neg (by decide), if_pos rfl]
  have e3 : sH ans (2 : Int32) (q0.1 0) (q1.1 0) (q2.1 0) (q3.1 0) (n.1 0) = g4 (q0.1 0) (q1.1 0) (n.1 0) (q3.1 0) := by unfold sH; rw [if_neg hs, if_neg (by decide), if_neg (by decide), if_pos rfl]
  unfold outW
  rw [e1, e2, e3]
  exact pF2 (([(x, .inr (4, [.ref hi, .int (sSt ans (2 : Int32)), .ref (tr.1 0), .ref (q2.1 0), .ref h0]))] : va_W)) (([(hi, .inl (G.2.2.2, 4, .inr (.inr (.inr (.inr (g4 (q0.1 0) (q1.1 0) (n.1 0) (q3.1 0)))))))] : va_W)) (tT G n.1 n.2) (tT G tr.1 u) (ordW G h0 h1 h2 len tx gi pl re ki nu) ([(q0.1 0, .inr (3, tV q0.1 q0.2))] : va_W) (tR G q0.1 q0.2) ([(q1.1 0, .inr (3, tV q1.1 q1.2))] : va_W) (tR G q1.1 q1.2) ([(q2.1 0, .inr (3, tV q2.1 q2.2))] : va_W) (tR G q2.1 q2.2) ([(q3.1 0, .inr (3, tV q3.1 q3.2))] : va_W) (tR G q3.1 q3.2)
theorem face_out3 (hs : ¬ ans < 0) : (faceW G x hi h0 h1 h2 (sSt ans (3 : Int32)) (tr.1, u) q3 q0 q1 q2 n len tx gi pl re ki nu).Perm (outW G x hi h0 h1 h2 n tr q0 q1 q2 q3 u len tx gi pl re ki nu ans (3 : Int32)) := by
  have e1 : sNow ans (n.1 0) (tr.1 0) = tr.1 0 := if_neg hs
  have e2 : sTr ans (3 : Int32) (q0.1 0) (q1.1 0) (q2.1 0) (q3.1 0) (tr.1 0) = q3.1 0 := by unfold sTr; rw [if_neg hs, if_neg (by decide), if_neg (by decide), if_neg (by decide), if_pos rfl]
  have e3 : sH ans (3 : Int32) (q0.1 0) (q1.1 0) (q2.1 0) (q3.1 0) (n.1 0) = g4 (q0.1 0) (q1.1 0) (q2.1 0) (n.1 0) := by unfold sH; rw [if_neg hs, if_neg (by decide), if_neg (by decide), if_neg (by decide), if_pos rfl]
  unfold outW
  rw [e1, e2, e3]
  exact pF3 (([(x, .inr (4, [.ref hi, .int (sSt ans (3 : Int32)), .ref (tr.1 0), .ref (q3.1 0), .ref h0]))] : va_W)) (([(hi, .inl (G.2.2.2, 4, .inr (.inr (.inr (.inr (g4 (q0.1 0) (q1.1 0) (q2.1 0) (n.1 0)))))))] : va_W)) (tT G n.1 n.2) (tT G tr.1 u) (ordW G h0 h1 h2 len tx gi pl re ki nu) ([(q0.1 0, .inr (3, tV q0.1 q0.2))] : va_W) (tR G q0.1 q0.2) ([(q1.1 0, .inr (3, tV q1.1 q1.2))] : va_W) (tR G q1.1 q1.2) ([(q2.1 0, .inr (3, tV q2.1 q2.2))] : va_W) (tR G q2.1 q2.2) ([(q3.1 0, .inr (3, tV q3.1 q3.2))] : va_W) (tR G q3.1 q3.2)
theorem face_out4 (hs : ¬ ans < 0) : (faceW G x hi h0 h1 h2 (sSt ans (4 : Int32)) (tr.1, u) q0 q1 q2 q3 n len tx gi pl re ki nu).Perm (outW G x hi h0 h1 h2 n tr q0 q1 q2 q3 u len tx gi pl re ki nu ans (4 : Int32)) := by
  have e1 : sNow ans (n.1 0) (tr.1 0) = tr.1 0 := if_neg hs
  have e2 : sTr ans (4 : Int32) (q0.1 0) (q1.1 0) (q2.1 0) (q3.1 0) (tr.1 0) = q0.1 0 := by unfold sTr; rw [if_neg hs, if_neg (by decide), if_neg (by decide), if_neg (by decide), if_neg (by decide)]
  have e3 : sH ans (4 : Int32) (q0.1 0) (q1.1 0) (q2.1 0) (q3.1 0) (n.1 0) = g4 (q1.1 0) (q2.1 0) (q3.1 0) (n.1 0) := by unfold sH; rw [if_neg hs, if_neg (by decide), if_neg (by decide), if_neg (by decide), if_neg (by decide)]
  unfold outW
  rw [e1, e2, e3]
  exact pF4 (([(x, .inr (4, [.ref hi, .int (sSt ans (4 : Int32)), .ref (tr.1 0), .ref (q0.1 0), .ref h0]))] : va_W)) (([(hi, .inl (G.2.2.2, 4, .inr (.inr (.inr (.inr (g4 (q1.1 0) (q2.1 0) (q3.1 0) (n.1 0)))))))] : va_W)) (tT G n.1 n.2) (tT G tr.1 u) (ordW G h0 h1 h2 len tx gi pl re ki nu) ([(q0.1 0, .inr (3, tV q0.1 q0.2))] : va_W) (tR G q0.1 q0.2) ([(q1.1 0, .inr (3, tV q1.1 q1.2))] : va_W) (tR G q1.1 q1.2) ([(q2.1 0, .inr (3, tV q2.1 q2.2))] : va_W) (tR G q2.1 q2.2) ([(q3.1 0, .inr (3, tV q3.1 q3.2))] : va_W) (tR G q3.1 q3.2)
end FO
/-! contracts framed again: no word on addresses; a reading contract over a larger world -/
theorem gC.frameN {l : Launch} {G : gT} {y : MethodName} {ws : List Cond} {rm : Room} {av : List Value} {w0 w1 : va_W} {v : Option Value} (h : gC l G y ws rm av w0 v w1) {wf W0 W1 : va_W} (h0 : W0.Perm (w0 ++ wf)) (h1 : W1.Perm (w1 ++ wf)) : gC l G y ws rm av W0 v W1 := by
  intro sz
  refine MetFree.mono (h sz) ?_ (fun _ _ _ _ _ hh => hh) ?_
  · rintro a s ⟨rfl, hsz, hP, hK, hD⟩
    exact ⟨rfl, hsz, hP.of_mem (fun q hq => h0.mem_iff.mpr (List.mem_append_left _ hq)), hK, va_D.of_nodup (((h0.map _).nodup_iff.mp hD.nodup).sublist (by rw [List.map_append]; exact List.sublist_append_left _ _)) (fun _ _ => trivial)⟩
  · rintro a s o t ⟨rfl, hsz, hP, hK, hD⟩ ⟨⟨⟨ho, hP1, hD1⟩, hF⟩, L, hL, hfr⟩
    have hn0 : ((w0 ++ wf).map (fun q => q.1)).Nodup := (h0.map _).nodup_iff.mp hD.nodup
    have hsub : ∀ q, va_A w0 sz q → va_A W0 sz q := va_A.mono (fun q hq => h0.mem_iff.mpr (List.mem_append_left _ hq))
    have hP1' : va_P G.1 vwCl W1 t.heap := by
      refine va_P.perm (ws := w1 ++ wf) ?_ h1.symm
      refine va_P.app hP1 (fun k q hk => ?_)
      have hqm : q ∈ wf := List.mem_of_getElem? hk
      have hq0 : q ∈ W0 := h0.mem_iff.mpr (List.mem_append_right _ hqm)
      obtain ⟨j, hj⟩ := List.getElem?_of_mem hq0
      have hat := hP j q hj
      refine hat.kept (hF.2 q.1 hat.lt ?_)
      rintro (⟨i, e, hi⟩ | hi)
      · rw [List.map_append, List.nodup_append] at hn0
        exact hn0.2.2 q.1 (List.mem_map.mpr ⟨(q.1, e), List.mem_of_getElem? hi, rfl⟩) q.1 (List.mem_map.mpr ⟨q, hqm, rfl⟩) rfl
      · have := hat.lt
        omega
    have hD1' : va_D (va_A W0 sz) W1 := by
      refine va_D.perm (ws := w1 ++ wf) ?_ h1.symm
      refine va_D.of_nodup ?_ (fun q hq => ?_)
      · rw [List.map_append, List.nodup_append] at hn0 ⊢
        refine ⟨hD1.nodup, hn0.2.1, fun q hq1 q' hq2 e => ?_⟩
        subst e
        obtain ⟨p1, hp1, rfl⟩ := List.mem_map.mp hq1
        obtain ⟨p2, hp2, hp⟩ := List.mem_map.mp hq2
        rcases hD1.mem hp1 with ⟨i, e, hi⟩ | hi
        · exact hn0.2.2 p1.1 (List.mem_map.mpr ⟨(p1.1, e), List.mem_of_getElem? hi, rfl⟩) p1.1 hq2 rfl
        · obtain ⟨j, hj⟩ := List.getElem?_of_mem (h0.mem_iff.mpr (List.mem_append_right _ hp2))
          have h3 := (hP j p2 hj).lt
          have h4 : p2.1 = p1.1 := hp
          omega
      · rcases List.mem_append.mp hq with hq | hq
        · exact hsub _ (hD1.mem hq)
        · obtain ⟨j, hj⟩ := List.getElem?_of_mem (h0.mem_iff.mpr (List.mem_append_right _ hq))
          exact va_A.in hj
    exact ⟨⟨⟨ho, hP1', hD1'⟩, hF.1, fun q hq hn => hF.2 q hq (fun z => hn (hsub q z))⟩, L, hL, fun q hq => hsub _ (hfr q hq)⟩
theorem gR.frameC {l : Launch} {G : gT} {y : MethodName} {ws : List Cond} {rm : Room} {av : List Value} {w0 : va_W} {v : Option Value} (h : gR l G y ws rm av w0 v) {W : va_W} (hm : ∀ q ∈ w0, q ∈ W) : gC l G y ws rm av W v W := by
  intro sz
  have h' : Met l y ws rm (va_Pc av (g_preR G w0)) (g_postR v) 0 0 (fun _ => False) := h
  refine MetFree.mono h' ?_ (fun _ _ _ _ _ hh => hh) ?_
  · rintro a s ⟨rfl, hsz, hP, hK, hD⟩
    exact ⟨rfl, hP.of_mem hm, hK⟩
  · rintro a s o t ⟨rfl, hsz, hP, hK, hD⟩ ⟨⟨ho, hh⟩, L, hL, hfr⟩
    refine ⟨⟨⟨ho, by rw [hh]; exact hP, hD.self⟩, ?_, fun q hq hn => ?_⟩, L, hL, fun q hq => (hfr q hq).elim⟩
    · rw [hh]; exact Nat.le_refl _
    · rw [hh]
theorem face_sub (G : gT) (x hi h0 h1 h2 : Nat) (st : Int32) (n tr q0 q1 q2 q3 : (Nat → Nat) × zT) (len : Int32) (tx : Nat → Int32) (gi pl re ki : Int32) (nu : Nat → Int32) : ∀ q ∈ ts1W G x hi st (n.1 0) (tr.1 0) h0 ++ tT G n.1 n.2 ++ ordW G h0 h1 h2 len tx gi pl re ki nu, q ∈ faceW G x hi h0 h1 h2 st n tr q0 q1 q2 q3 len tx gi pl re ki nu := by
  intro q hq
  unfold faceW
  rcases List.mem_append.mp hq with hq | hq
  · rcases List.mem_append.mp hq with hq | hq
    · exact List.mem_append_left _ hq
    · exact List.mem_append_right _ (List.mem_append_right _ (List.mem_append_left _ hq))
  · exact List.mem_append_right _ (List.mem_append_right _ (List.mem_append_right _ (List.mem_append_right _ (List.mem_append_left _ hq))))
/-! undo, by roles -/
theorem pU0 {α : Type} (X I nc nr tc tr O c0 r0 c1 r1 c2 r2 c3 r3 : List α) : (X ++ (I ++ ((nc ++ nr) ++ ((tc ++ tr) ++ (O ++ ((c0 ++ r0) ++ ((c1 ++ r1) ++ ((c2 ++ r2) ++ ((c3 ++ r3)))))))))).Perm ((X ++ (I ++ (c0 ++ (c1 ++ (c2 ++ (c3 ++ (nc ++ tc))))))) ++ (nr ++ (tr ++ (O ++ (r0 ++ (r1 ++ (r2 ++ r3))))))) := by
  have h := (List.Perm.map (fun i : Nat => [X, I, nc, nr, tc, tr, O, c0, r0, c1, r1, c2, r2, c3, r3].getD i []) (show ([0, 1, 2, 3, 4, 5, 6, 7, 8, 9, 10, 11, 12, 13, 14] : List Nat).Perm [0, 1, 7, 9, 11, 13, 2, 4, 3, 5, 6, 8, 10, 12, 14] by decide)).flatten
  simpa [List.append_assoc] using h
theorem pU1 {α : Type} (X I nc nr tc tr O c0 r0 c1 r1 c2 r2 c3 r3 : List α) : (X ++ (I ++ ((c0 ++ r0) ++ ((tc ++ tr) ++ (O ++ ((nc ++ nr) ++ ((c1 ++ r1) ++ ((c2 ++ r2) ++ ((c3 ++ r3)))))))))).Perm ((X ++ (I ++ (c0 ++ (c1 ++ (c2 ++ (c3 ++ (nc ++ tc))))))) ++ (nr ++ (tr ++ (O ++ (r0 ++ (r1 ++ (r2 ++ r3))))))) := by
  have h := (List.Perm.map (fun i : Nat => [X, I, nc, nr, tc, tr, O, c0, r0, c1, r1, c2, r2, c3, r3].getD i []) (show ([0, 1, 7, 8, 4, 5, 6, 2, 3, 9, 10, 11, 12, 13, 14] : List Nat).Perm [0, 1, 7, 9, 11, 13, 2, 4, 3, 5, 6, 8, 10, 12, 14] by decide)).flatten
  simpa [List.append_assoc] using h
theorem pU2 {α : Type} (X I nc nr tc tr O c0 r0 c1 r1 c2 r2 c3 r3 : List α) : (X ++ (I ++ ((c1 ++ r1) ++ ((tc ++ tr) ++ (O ++ ((c0 ++ r0) ++ ((nc ++ nr) ++ ((c2 ++ r2) ++ ((c3 ++ r3)))))))))).Perm ((X ++ (I ++ (c0 ++ (c1 ++ (c2 ++ (c3 ++ (nc ++ tc))))))) ++ (nr ++ (tr ++ (O ++ (r0 ++ (r1 ++ (r2 ++ r3))))))) := by
  have h := (List.Perm.map (fun i : Nat => [X, I, nc, nr, tc, tr, O, c0, r0, c1, r1, c2, r2, c3, r3].getD i []) (show ([0, 1, 9, 10, 4, 5, 6, 7, 8, 2, 3, 11, 12, 13, 14] : List Nat).Perm [0, 1, 7, 9, 11, 13, 2, 4, 3, 5, 6, 8, 10, 12, 14] by decide)).flatten
  simpa [List.append_assoc] using h
theorem pU3 {α : Type} (X I nc nr tc tr O c0 r0 c1 r1 c2 r2 c3 r3 : List α) : (X ++ (I ++ ((c2 ++ r2) ++ ((tc ++ tr) ++ (O ++ ((c0 ++ r0) ++ ((c1 ++ r1) ++ ((nc ++ nr) ++ ((c3 ++ r3)))))))))).Perm ((X ++ (I ++ (c0 ++ (c1 ++ (c2 ++ (c3 ++ (nc ++ tc))))))) ++ (nr ++ (tr ++ (O ++ (r0 ++ (r1 ++ (r2 ++ r3))))))) := by
  have h := (List.Perm.map (fun i : Nat => [X, I, nc, nr, tc, tr, O, c0, r0, c1, r1, c2, r2, c3, r3].getD i []) (show ([0, 1, 11, 12, 4, 5, 6, 7, 8, 9, 10, 2, 3, 13, 14] : List Nat).Perm [0, 1, 7, 9, 11, 13, 2, 4, 3, 5, 6, 8, 10, 12, 14] by decide)).flatten
  simpa [List.append_assoc] using h
theorem pU4 {α : Type} (X I nc nr tc tr O c0 r0 c1 r1 c2 r2 c3 r3 : List α) : (X ++ (I ++ ((c3 ++ r3) ++ ((tc ++ tr) ++ (O ++ ((c0 ++ r0) ++ ((c1 ++ r1) ++ ((c2 ++ r2) ++ ((nc ++ nr)))))))))).Perm ((X ++ (I ++ (c0 ++ (c1 ++ (c2 ++ (c3 ++ (nc ++ tc))))))) ++ (nr ++ (tr ++ (O ++ (r0 ++ (r1 ++ (r2 ++ r3))))))) := by
  have h := (List.Perm.map (fun i : Nat => [X, I, nc, nr, tc, tr, O, c0, r0, c1, r1, c2, r2, c3, r3].getD i []) (show ([0, 1, 13, 14, 4, 5, 6, 7, 8, 9, 10, 11, 12, 2, 3] : List Nat).Perm [0, 1, 7, 9, 11, 13, 2, 4, 3, 5, 6, 8, 10, 12, 14] by decide)).flatten
  simpa [List.append_assoc] using h
section FU
variable (G : gT) (x hi h0 h1 h2 : Nat) (n tr q0 q1 q2 q3 : (Nat → Nat) × zT) (len : Int32) (tx : Nat → Int32) (gi pl re ki : Int32) (nu : Nat → Int32)
def restU : va_W := tR G n.1 n.2 ++ (tR G tr.1 tr.2 ++ (ordW G h0 h1 h2 len tx gi pl re ki nu ++ (tR G q0.1 q0.2 ++ (tR G q1.1 q1.2 ++ (tR G q2.1 q2.2 ++ tR G q3.1 q3.2)))))
theorem face_un0 (st : Int32) : (faceW G x hi h0 h1 h2 st n tr q0 q1 q2 q3 len tx gi pl re ki nu).Perm (tsS G x hi (q0.1 0) (q1.1 0) (q2.1 0) (q3.1 0) (n.1 0) (tr.1 0) st (n.1 0) (tr.1 0) h0 (g4 (q0.1 0) (q1.1 0) (q2.1 0) (q3.1 0)) (tV q0.1 q0.2) (tV q1.1 q1.2) (tV q2.1 q2.2) (tV q3.1 q3.2) (tV n.1 n.2) (tV tr.1 tr.2) ++ restU G h0 h1 h2 n tr q0 q1 q2 q3 len tx gi pl re ki nu) :=
  pU0 ([(x, .inr (4, [.ref hi, .int st, .ref (n.1 0), .ref (tr.1 0), .ref h0]))] : va_W) ([(hi, .inl (G.2.2.2, 4, .inr (.inr (.inr (.inr (g4 (q0.1 0) (q1.1 0) (q2.1 0) (q3.1 0)))))))] : va_W) ([(n.1 0, .inr (3, tV n.1 n.2))] : va_W) (tR G n.1 n.2) ([(tr.1 0, .inr (3, tV tr.1 tr.2))] : va_W) (tR G tr.1 tr.2) (ordW G h0 h1 h2 len tx gi pl re ki nu) ([(q0.1 0, .inr (3, tV q0.1 q0.2))] : va_W) (tR G q0.1 q0.2) ([(q1.1 0, .inr (3, tV q1.1 q1.2))] : va_W) (tR G q1.1 q1.2) ([(q2.1 0, .inr (3, tV q2.1 q2.2))] : va_W) (tR G q2.1 q2.2) ([(q3.1 0, .inr (3, tV q3.1 q3.2))] : va_W) (tR G q3.1 q3.2)
theorem face_un1 (st : Int32) : (faceW G x hi h0 h1 h2 st q0 tr n q1 q2 q3 len tx gi pl re ki nu).Perm (tsS G x hi (q0.1 0) (q1.1 0) (q2.1 0) (q3.1 0) (n.1 0) (tr.1 0) st (q0.1 0) (tr.1 0) h0 (g4 (n.1 0) (q1.1 0) (q2.1 0) (q3.1 0)) (tV q0.1 q0.2) (tV q1.1 q1.2) (tV q2.1 q2.2) (tV q3.1 q3.2) (tV n.1 n.2) (tV tr.1 tr.2) ++ restU G h0 h1 h2 n tr q0 q1 q2 q3 len tx gi pl re ki nu) :=
  pU1 ([(x, .inr (4, [.ref hi, .int st, .ref (q0.1 0), .ref (tr.1 0), .ref h0]))] : va_W) ([(hi, .inl (G.2.2.2, 4, .inr (.inr (.inr (.inr (g4 (n.1 0) (q1.1 0) (q2.1 0) (q3.1 0)))))))] : va_W) ([(n.1 0, .inr (3, tV n.1 n.2))] : va_W) (tR G n.1 n.2) ([(tr.1 0, .inr (3, tV tr.1 tr.2))] : va_W) (tR G tr.1 tr.2) (ordW G h0 h1 h2 len tx gi pl re ki nu) ([(q0.1 0, .inr (3, tV q0.1 q0.2))] : va_W) (tR G q0.1 q0.2) ([(q1.1 0, .inr (3, tV q1.1 q1.2))] : va_W) (tR G q1.1 q1.2) ([(q2.1 0, .inr (3, tV q2.1 q2.2))] : va_W) (tR G q2.1 q2.2) ([(q3.1 0, .inr (3, tV q3.1 q3.2))] : va_W) (tR G q3.1 q3.2)
theorem face_un2 (st : Int32) : (faceW G x hi h0 h1 h2 st q1 tr q0 n q2 q3 len tx gi pl re ki nu).Perm (tsS G x hi (q0.1 0) (q1.1 0) (q2.1 0) (q3.1 0) (n.1 0) (tr.1 0) st (q1.1 0) (tr.1 0) h0 (g4 (q0.1 0) (n.1 0) (q2.1 0) (q3.1 0)) (tV q0.1 q0.2) (tV q1.1 q1.2) (tV q2.1 q2.2) (tV q3.1 q3.2) (tV n.1 n.2) (tV tr.1 tr.2) ++ restU G h0 h1 h2 n tr q0 q1 q2 q3 len tx gi pl re ki nu) :=
  pU2 ([(x, .inr (4, [.ref hi, .int st, .ref (q1.1 0), .ref (tr.1 0), .ref h0]))] : va_W) ([(hi, .inl (G.2.2.2, 4, .inr (.inr (.inr (.inr (g4 (q0.1 0) (n.1 0) (q2.1 0) (q3.1 0)))))))] : va_W) ([(n.1 0, .inr (3, tV n.1 n.2))] : va_W) (tR G n.1 n.2) ([(tr.1 0, .inr (3, tV tr.1 tr.2))] : va_W) (tR G tr.1 tr.2) (ordW G h0 h1 h2 len tx gi pl re ki nu) ([(q0.1 0, .inr (3, tV q0.1 q0.2))] : va_W) (tR G q0.1 q0.2) ([(q1.1 0, .inr (3, tV q1.1 q1.2))] : va_W) (tR G q1.1 q1.2) ([(q2.1 0, .inr (3, tV q2.1 q2.2))] : va_W) (tR G q2.1 q2.2) ([(q3.1 0, .inr (3, tV q3.1 q3.2))] : va_W) (tR G q3.1 q3.2)
theorem face_un3 (st : Int32) : (faceW G x hi h0 h1 h2 st q2 tr q0 q1 n q3 len tx gi pl re ki nu).Perm (tsS G x hi (q0.1 0) (q1.1 0) (q2.1 0) (q3.1 0) (n.1 0) (tr.1 0) st (q2.1 0) (tr.1 0) h0 (g4 (q0.1 0) (q1.1 0) (n.1 0) (q3.1 0)) (tV q0.1 q0.2) (tV q1.1 q1.2) (tV q2.1 q2.2) (tV q3.1 q3.2) (tV n.1 n.2) (tV tr.1 tr.2) ++ restU G h0 h1 h2 n tr q0 q1 q2 q3 len tx gi pl re ki nu) :=
  pU3 ([(x, .inr (4, [.ref hi, .int st, .ref (q2.1 0), .ref (tr.1 0), .ref h0]))] : va_W) ([(hi, .inl (G.2.2.2, 4, .inr (.inr (.inr (.inr (g4 (q0.1 0) (q1.1 0) (n.1 0) (q3.1 0)))))))] : va_W) ([(n.1 0, .inr (3, tV n.1 n.2))] : va_W) (tR G n.1 n.2) ([(tr.1 0, .inr (3, tV tr.1 tr.2))] : va_W) (tR G tr.1 tr.2) (ordW G h0 h1 h2 len tx gi pl re ki nu) ([(q0.1 0, .inr (3, tV q0.1 q0.2))] : va_W) (tR G q0.1 q0.2) ([(q1.1 0, .inr (3, tV q1.1 q1.2))] : va_W) (tR G q1.1 q1.2) ([(q2.1 0, .inr (3, tV q2.1 q2.2))] : va_W) (tR G q2.1 q2.2) ([(q3.1 0, .inr (3, tV q3.1 q3.2))] : va_W) (tR G q3.1 q3.2)
theorem face_un4 (st : Int32) : (faceW G x hi h0 h1 h2 st q3 tr q0 q1 q2 n len tx gi pl re ki nu).Perm (tsS G x hi (q0.1 0) (q1.1 0) (q2.1 0) (q3.1 0) (n.1 0) (tr.1 0) st (q3.1 0) (tr.1 0) h0 (g4 (q0.1 0) (q1.1 0) (q2.1 0) (n.1 0)) (tV q0.1 q0.2) (tV q1.1 q1.2) (tV q2.1 q2.2) (tV q3.1 q3.2) (tV n.1 n.2) (tV tr.1 tr.2) ++ restU G h0 h1 h2 n tr q0 q1 q2 q3 len tx gi pl re ki nu) :=
  pU4 ([(x, .inr (4, [.ref hi, .int st, .ref (q3.1 0), .ref (tr.1 0), .ref h0]))] : va_W) ([(hi, .inl (G.2.2.2, 4, .inr (.inr (.inr (.inr (g4 (q0.1 0) (q1.1 0) (q2.1 0) (n.1 0)))))))] : va_W) ([(n.1 0, .inr (3, tV n.1 n.2))] : va_W) (tR G n.1 n.2) ([(tr.1 0, .inr (3, tV tr.1 tr.2))] : va_W) (tR G tr.1 tr.2) (ordW G h0 h1 h2 len tx gi pl re ki nu) ([(q0.1 0, .inr (3, tV q0.1 q0.2))] : va_W) (tR G q0.1 q0.2) ([(q1.1 0, .inr (3, tV q1.1 q1.2))] : va_W) (tR G q1.1 q1.2) ([(q2.1 0, .inr (3, tV q2.1 q2.2))] : va_W) (tR G q2.1 q2.2) ([(q3.1 0, .inr (3, tV q3.1 q3.2))] : va_W) (tR G q3.1 q3.2)
end FU
abbrev zO : Type := Int32 × (Nat → Int32) × Int32 × Int32 × Int32 × Int32 × (Nat → Int32)
abbrev zS : Type := Nat × zT × zT × (Nat → zT) × zO
def faceZ (G : gT) (x hi h0 h1 h2 : Nat) (S : zS) (an at' : Nat → Nat) (aH : Nat → Nat → Nat) : va_W := faceW G x hi h0 h1 h2 (nI S.1) (an, S.2.1) (at', S.2.2.1) (aH 0, S.2.2.2.1 0) (aH 1, S.2.2.2.1 1) (aH 2, S.2.2.2.1 2) (aH 3, S.2.2.2.1 3) S.2.2.2.2.1 S.2.2.2.2.2.1 S.2.2.2.2.2.2.1 S.2.2.2.2.2.2.2.1 S.2.2.2.2.2.2.2.2.1 S.2.2.2.2.2.2.2.2.2.1 S.2.2.2.2.2.2.2.2.2.2
def Rp (G : gT) (x hi h0 h1 h2 : Nat) (S : zS) (w : va_W) : Prop := S.1 ≤ 4 ∧ ∃ (an at' : Nat → Nat) (aH : Nat → Nat → Nat), w = faceZ G x hi h0 h1 h2 S an at' aH
theorem Rp.recv {G : gT} {x hi h0 h1 h2 : Nat} {S : zS} {w : va_W} (h : Rp G x hi h0 h1 h2 S w) : ∃ fs, w[0]? = some (x, .inr (4, fs)) := by
  obtain ⟨-, an, at', aH, rfl⟩ := h
  exact ⟨_, rfl⟩
/-- a change's settling: with an error only the trial has changed -/
def K_set (S : zS) (r : Int32) (u : zT) : zS := if r < 0 then (S.1, S.2.1, u, S.2.2.2.1, S.2.2.2.2) else if S.1 < 4 then (S.1 + 1, u, S.2.2.2.1 S.1, (fun i => if i = S.1 then S.2.1 else S.2.2.2.1 i), S.2.2.2.2) else (4, u, S.2.2.2.1 0, (fun i => if i = 3 then S.2.1 else S.2.2.2.1 (i + 1)), S.2.2.2.2)
theorem K_set_le {S : zS} (hs : S.1 ≤ 4) (r : Int32) (u : zT) : (K_set S r u).1 ≤ 4 := by
  unfold K_set
  split
  · exact hs
  · split
    · dsimp only; omega
    · exact Nat.le_refl 4
theorem chg_K {l : Launch} {G : gT} {y : MethodName} {ws : List Cond} {rm : Room} {av : List Value} {x hi h0 h1 h2 s : Nat} (hs : s ≤ 4) {an at' : Nat → Nat} {aH : Nat → Nat → Nat} {nt tt : zT} {HH : Nat → zT} {u : zT} {ans : Int32} {len : Int32} {tx : Nat → Int32} {gi pl re ki : Int32} {nu : Nat → Int32} (h : gC l G y ws rm av (ts2W G x hi (aH 0 0) (aH 1 0) (aH 2 0) (aH 3 0) (nI s) (an 0) (at' 0) h0 (g4 (aH 0 0) (aH 1 0) (aH 2 0) (aH 3 0)) (tV (aH 0) (HH 0)) (tV (aH 1) (HH 1)) (tV (aH 2) (HH 2)) (tV (aH 3) (HH 3)) ++ (tT G an nt ++ (tT G at' tt ++ ordW G h0 h1 h2 len tx gi pl re ki nu))) (some (.int ans)) (ts2W G x hi (aH 0 0) (aH 1 0) (aH 2 0) (aH 3 0) (sSt ans (nI s)) (sNow ans (an 0) (at' 0)) (sTr ans (nI s) (aH 0 0) (aH 1 0) (aH 2 0) (aH 3 0) (at' 0)) h0 (sH ans (nI s) (aH 0 0) (aH 1 0) (aH 2 0) (aH 3 0) (an 0)) (tV (aH 0) (HH 0)) (tV (aH 1) (HH 1)) (tV (aH 2) (HH 2)) (tV (aH 3) (HH 3)) ++ (tT G an nt ++ (tT G at' u ++ ordW G h0 h1 h2 len tx gi pl re ki nu)))) : ∃ (an' at'' : Nat → Nat) (aH' : Nat → Nat → Nat), gC l G y ws rm av (faceZ G x hi h0 h1 h2 (s, nt, tt, HH, len, tx, gi, pl, re, ki, nu) an at' aH) (some (.int ans)) (faceZ G x hi h0 h1 h2 (K_set (s, nt, tt, HH, len, tx, gi, pl, re, ki, nu) ans u) an' at'' aH') := by
  have hin := face_in G x hi h0 h1 h2 (nI s) (an, nt) (at', tt) (aH 0, HH 0) (aH 1, HH 1) (aH 2, HH 2) (aH 3, HH 3) len tx gi pl re ki nu
  by_cases ha : ans < 0
  · have e : sSt ans (nI s) = nI s := if_pos ha
    have ho := face_outE G x hi h0 h1 h2 (an, nt) (at', tt) (aH 0, HH 0) (aH 1, HH 1) (aH 2, HH 2) (aH 3, HH 3) u len tx gi pl re ki nu ans (st := nI s) ha
    rw [e] at ho
    have ez : K_set (s, nt, tt, HH, len, tx, gi, pl, re, ki, nu) ans u = (s, nt, u, HH, len, tx, gi, pl, re, ki, nu) := if_pos ha
    rw [ez]
    exact ⟨an, at', aH, gC.frame h rfl hin ho⟩
  · rcases (show s = 0 ∨ s = 1 ∨ s = 2 ∨ s = 3 ∨ s = 4 by omega) with rfl | rfl | rfl | rfl | rfl
    · have e : sSt ans (0 : Int32) = nI 1 := by unfold sSt; rw [if_neg ha]; decide
      have ho := face_out0 G x hi h0 h1 h2 (an, nt) (at', tt) (aH 0, HH 0) (aH 1, HH 1) (aH 2, HH 2) (aH 3, HH 3) u len tx gi pl re ki nu ans ha
      rw [e] at ho
      have ek : nI 0 = (0 : Int32) := by decide
      rw [ek] at h hin
      have ez : K_set (0, nt, tt, HH, len, tx, gi, pl, re, ki, nu) ans u = (1, u, HH 0, (fun i => if i = 0 then nt else HH i), len, tx, gi, pl, re, ki, nu) := by unfold K_set; rw [if_neg ha]; rfl
      rw [ez]
      refine ⟨at', aH 0, fun i => if i = 0 then an else aH i, ?_⟩
      show gC l G y ws rm av (faceW G x hi h0 h1 h2 (nI 0) _ _ _ _ _ _ len tx gi pl re ki nu) _ _
      rw [ek]
      exact gC.frame h rfl hin ho
    · have e : sSt ans (1 : Int32) = nI 2 := by unfold sSt; rw [if_neg ha]; decide
      have ho := face_out1 G x hi h0 h1 h2 (an, nt) (at', tt) (aH 0, HH 0) (aH 1, HH 1) (aH 2, HH 2) (aH 3, HH 3) u len tx gi pl re ki nu ans ha
      rw [e] at ho
      have ek : nI 1 = (1 : Int32) := by decide
      rw [ek] at h hin
      have ez : K_set (1, nt, tt, HH, len, tx, gi, pl, re, ki, nu) ans u = (2, u, HH 1, (fun i => if i = 1 then nt else HH i), len, tx, gi, pl, re, ki, nu) := by unfold K_set; rw [if_neg ha]; rfl
      rw [ez]
      refine ⟨at', aH 1, fun i => if i = 1 then an else aH i, ?_⟩
      show gC l G y ws rm av (faceW G x hi h0 h1 h2 (nI 1) _ _ _ _ _ _ len tx gi pl re ki nu) _ _
      rw [ek]
      exact gC.frame h rfl hin ho
    · have e : sSt ans (2 : Int32) = nI 3 := by unfold sSt; rw [if_neg ha]; decide
      have ho := face_out2 G x hi h0 h1 h2 (an, nt) (at', tt) (aH 0, HH 0) (aH 1, HH 1) (aH 2, HH 2) (aH 3, HH 3) u len tx gi pl re ki nu ans ha
      rw [e] at ho
      have ek : nI 2 = (2 : Int32) := by decide
      rw [ek] at h hin
      have ez : K_set (2, nt, tt, HH, len, tx, gi, pl, re, ki, nu) ans u = (3, u, HH 2, (fun i => if i = 2 then nt else HH i), len, tx, gi, pl, re, ki, nu) := by unfold K_set; rw [if_neg ha]; rfl
      rw [ez]
      refine ⟨at', aH 2, fun i => if i = 2 then an else aH i, ?_⟩
      show gC l G y ws rm av (faceW G x hi h0 h1 h2 (nI 2) _ _ _ _ _ _ len tx gi pl re ki nu) _ _
      rw [ek]
      exact gC.frame h rfl hin ho
    · have e : sSt ans (3 : Int32) = nI 4 := by unfold sSt; rw [if_neg ha]; decide
      have ho := face_out3 G x hi h0 h1 h2 (an, nt) (at', tt) (aH 0, HH 0) (aH 1, HH 1) (aH 2, HH 2) (aH 3, HH 3) u len tx gi pl re ki nu ans ha
      rw [e] at ho
      have ek : nI 3 = (3 : Int32) := by decide
      rw [ek] at h hin
      have ez : K_set (3, nt, tt, HH, len, tx, gi, pl, re, ki, nu) ans u = (4, u, HH 3, (fun i => if i = 3 then nt else HH i), len, tx, gi, pl, re, ki, nu) := by unfold K_set; rw [if_neg ha]; rfl
      rw [ez]
      refine ⟨at', aH 3, fun i => if i = 3 then an else aH i, ?_⟩
      show gC l G y ws rm av (faceW G x hi h0 h1 h2 (nI 3) _ _ _ _ _ _ len tx gi pl re ki nu) _ _
      rw [ek]
      exact gC.frame h rfl hin ho
    · have e : sSt ans (4 : Int32) = nI 4 := by unfold sSt; rw [if_neg ha]; decide
      have ho := face_out4 G x hi h0 h1 h2 (an, nt) (at', tt) (aH 0, HH 0) (aH 1, HH 1) (aH 2, HH 2) (aH 3, HH 3) u len tx gi pl re ki nu ans ha
      rw [e] at ho
      have ek : nI 4 = (4 : Int32) := by decide
      rw [ek] at h hin
      have ez : K_set (4, nt, tt, HH, len, tx, gi, pl, re, ki, nu) ans u = (4, u, HH 0, (fun i => if i = 3 then nt else HH (i + 1)), len, tx, gi, pl, re, ki, nu) := by unfold K_set; rw [if_neg ha]; rfl
      rw [ez]
      refine ⟨at', aH 0, fun i => if i = 3 then an else aH (i + 1), ?_⟩
      show gC l G y ws rm av (faceW G x hi h0 h1 h2 (nI 4) _ _ _ _ _ _ len tx gi pl re ki nu) _ _
      rw [ek]
      exact gC.frame h rfl hin ho
/-! a contract that tells of the world behind it by a word alone -/
def g_postF (G : gT) (v : Option Value) (P1 : va_W → Prop) (w0 : va_W) (sz : Nat) : Array Value → State → Outcome → State → Prop := fun _ st oc t => (oc = .returned v ∧ ∃ w1, P1 w1 ∧ va_P G.1 vwCl w1 t.heap ∧ va_D (va_A w0 sz) w1) ∧ va_F (va_A w0 sz) st t
def gF (l : Launch) (G : gT) (y : MethodName) (ws : List Cond) (rm : Room) (av : List Value) (w0 : va_W) (v : Option Value) (P1 : va_W → Prop) : Prop := ∀ sz, Met l y ws rm (va_Pc av (g_pre G w0 sz)) (g_postF G v P1 w0 sz) 0 0 (va_A w0 sz)
theorem gC.toF {l : Launch} {G : gT} {y : MethodName} {ws : List Cond} {rm : Room} {av : List Value} {w0 w1 : va_W} {v : Option Value} {P1 : va_W → Prop} (h : gC l G y ws rm av w0 v w1) (hp : P1 w1) : gF l G y ws rm av w0 v P1 := by
  intro sz
  refine MetFree.mono (h sz) (fun _ _ hh => hh) (fun _ _ _ _ _ hh => hh) ?_
  rintro a s o t _ ⟨⟨⟨ho, hP1, hD1⟩, hF⟩, hL⟩
  exact ⟨⟨⟨ho, w1, hp, hP1, hD1⟩, hF⟩, hL⟩
abbrev gWF (p : Program) (l : Launch) (e : Env) (R : Room) (s : State) (m : MethodId) (args : Array Value) (below : List Frame) (meth : Method) (c : Code) (G : gT) (w0 : va_W) (v : Option Value) (P1 : va_W → Prop) (H : Heap) (locs : List Loc) (pc : Nat) (ls : Array Slot) (st : List Value) : Prop :=
  W p l e R s m args below meth c H locs 0 0 (MQ below (g_postF G v P1 w0 s.heap.size) args s 0 0 (va_A w0 s.heap.size)) (F0 m pc ls st)
theorem gF.of {l : Launch} {G : gT} {y : MethodName} {ws : List Cond} {rm : Room} {av : List Value} {w0 : va_W} {v : Option Value} {P1 : va_W → Prop} {cc : ByteArray} {maxL : Nat} {ret : Option FieldType}
    (hy : plainName y.cls = true) (hw : ws = Cond.code y cc maxL ret :: TB) (hn : (lg_sl av).length ≤ maxL)
    (body : ∀ (p : Program) (e : Env) (s : State) (m : MethodId) (below : List Frame) (meth : Method) (c : Code), gX p s m av.toArray meth c cc maxL ret y.cls G → va_P G.1 vwCl w0 s.heap → va_D (va_A w0 s.heap.size) w0 → va_S (va_A w0 s.heap.size) s.heap s.heap [] →
      ∀ ls, lv_has ls maxL (lv_args 0 av) → gWF p l e (headSpec ws rm).room s m av.toArray below meth c G w0 v P1 s.heap [] 0 ls []) : gF l G y ws rm av w0 v P1 := by
  intro sz
  refine Met.ofW (cc := cc) (maxL := maxL) (ret := ret) hy hw ?_
  intro p e s m args below meth c s₁ B hml hv
  obtain ⟨rfl, hsz, hP, hK, hD0⟩ := hv
  subst hsz
  rw [lg_entry_eq]
  exact body p e s m below meth c ⟨B.exec, B.bytes, B.returns, fun w h => atoms_spec (ws := ws) B.pre w (by rw [hw]; exact List.mem_cons_of_mem _ h), findClass_of_methodNamed B.named, B.notSynchronized, hml, hK⟩ hP hD0.self va_S.rf _ (lv_entry av hn)
section GLF
variable {p : Program} {l : Launch} {e : Env} {R : Room} {s : State} {m : MethodId} {args : Array Value} {below : List Frame} {meth : Method} {c : Code} {H : Heap} {locs : List Loc} {cells slots : Nat} {Q : State → Prop}
variable {G : gT} {pc : Nat} {ls : Array Slot} {rest st0 : List Value} {a : Array Value} {A0 : Nat → Prop} {H0 : Heap}
theorem g_contF {v : Option Value} {st1 : List Value} {ws : va_W} {P1 : va_W → Prop} (hr : va_Run p l e R s m args below meth c H locs cells slots 0 0 (F0 m pc ls st0) rest (g_postF G v P1 ws H.size a) (va_A ws H.size)) (hs : v.toList ++ rest = st1) (hD : va_D A0 ws) (hS : va_S A0 H0 H locs) (hA : ∀ q, H0.size ≤ q → A0 q)
    (kk : ∀ (w1 : va_W) (H1 : Heap) (locs1 : List Loc), P1 w1 → va_P G.1 vwCl w1 H1 → va_D A0 w1 → va_S A0 H0 H1 locs1 → W p l e R s m args below meth c H1 locs1 cells slots Q (F0 m (pc + 3) ls st1)) : W p l e R s m args below meth c H locs cells slots Q (F0 m pc ls st0) := by
  subst hs
  have hF : ∀ q, va_A ws H.size q → A0 q := by
    rintro q (⟨k, e0, hk⟩ | hq)
    · exact hD.2 k (q, e0) hk
    · exact hA q (Nat.le_trans hS.1 hq)
  intro T hT X
  obtain ⟨v', st₀, t, T', L, h0, X', hL, e1, e2, ⟨⟨hv, w1, hp, hP1, hD1⟩, hz, hk⟩, st⟩ := hr T hT X
  cases hv
  rw [h0] at hz hk
  obtain ⟨t2, a1, b1⟩ := kk w1 T'.heap (locs ++ L) hp (by rw [e1]; exact hP1) (hD1.weaken (fun k q _ hq => hF q.1 hq))
    ⟨Nat.le_trans hS.1 (by rw [e1]; exact hz), fun q h1 h2 => by rw [e1, hk q (Nat.lt_of_lt_of_le h1 hS.1) (fun z => h2 (hF q z))]; exact hS.2.1 q h1 h2, fun q hq => by
      rcases List.mem_append.mp hq with h | h
      · exact hS.2.2 q h
      · exact hF _ (hL q h)⟩ T' rfl X'
  exact ⟨t2, st t2 a1, b1⟩
/-- a reading contract's call, at any room -/
theorem g_contRN {v : Option Value} {st1 : List Value} (hr : va_Run p l e R s m args below meth c H locs cells slots 0 0 (F0 m pc ls st0) rest (g_postR v a) (fun _ => False)) (hs : v.toList ++ rest = st1)
    (kk : W p l e R s m args below meth c H locs cells slots Q (F0 m (pc + 3) ls st1)) : W p l e R s m args below meth c H locs cells slots Q (F0 m pc ls st0) := by
  subst hs
  intro T hT X
  obtain ⟨v', st₀, t, T', L, h0, X', hL, e1, e2, ⟨hv, hh⟩, st⟩ := hr T hT X
  cases hv
  obtain ⟨t2, a1, b1⟩ := kk T' (by rw [e1, hh, h0]) (Stand.forget X' (fun q h => (hL q h).elim))
  exact ⟨t2, st t2 a1, b1⟩
variable {y : MethodName} {bytes cc : ByteArray} {maxL nL n index : Nat} {ret : Option FieldType} {ws : List Cond} {rm : Room} {Ts : List Cond} {own C : String} {b : Addr} {As : List Value} {w0 : va_W} {P1 : va_W → Prop} {v : Option Value}
theorem g_runVF (S : CallFix p m c cc nL s args Ts own) (hM : gF l G y ws rm (.ref b :: As) w0 v P1) (cw : CallW R s args own C index y bytes maxL ret ws rm 0 0 n) (hK : gK G s) (hP : va_P G.1 vwCl w0 H) (hD : va_D A0 w0) (q0 : Nat) {ci N : Nat} {T : u_T} {fs : List Value} (he : w0[q0]? = some (b, .inr (ci, fs))) (hc : vwCl[ci]? = some (C, T, N)) (hn : As.length = n) (hsize : ls.size = nL) (hst : st0 = As.reverse ++ .ref b :: rest) (hW : (rest.map fun v => v.category).sum ≤ 8) (hdg : decode cc pc = .ok (.invokevirtual index, 3)) (hf : cells + 0 ≤ R.cells ∧ slots + 0 ≤ R.slots) :
    va_Run p l e R s m args below meth c H locs cells slots 0 0 (F0 m pc ls st0) rest (g_postF G v P1 w0 H.size (Value.ref b :: As).toArray) (va_A w0 H.size) :=
  va_runV S (hM H.size) cw ⟨g_blind, va_recv hK.1 hP hc he, fun U hU hw => ⟨rfl, by rw [hU], by rw [hU]; exact hP, hK.warm hw, hD.weaken (fun _ _ _ _ => trivial)⟩⟩ rfl hn hsize hst (lv_room hW) hdg hf
theorem g_runSF (S : CallFix p m c cc nL s args Ts own) (hM : gF l G y ws rm As w0 v P1) (cw : CallB R s args own index y bytes maxL ret ws rm 0 0 n ∧ (Cond.static y).before args s = true) (hK : gK G s) (hP : va_P G.1 vwCl w0 H) (hD : va_D A0 w0) (hn : As.length = n) (hsize : ls.size = nL) (hst : st0 = As.reverse ++ rest) (hW : (rest.map fun v => v.category).sum ≤ 8) (hdg : decode cc pc = .ok (.invokestatic index, 3)) (hf : cells + 0 ≤ R.cells ∧ slots + 0 ≤ R.slots) :
    va_Run p l e R s m args below meth c H locs cells slots 0 0 (F0 m pc ls st0) rest (g_postF G v P1 w0 H.size As.toArray) (va_A w0 H.size) :=
  va_runS S (hM H.size) cw ⟨g_blind, fun U hU hw => ⟨rfl, by rw [hU], by rw [hU]; exact hP, hK.warm hw, hD.weaken (fun _ _ _ _ => trivial)⟩⟩ rfl hn hsize hst (lv_room hW) hdg hf
theorem g_runVRN (S : CallFix p m c cc nL s args Ts own) (hM : gR l G y ws rm (.ref b :: As) w0 v) (cw : CallW R s args own C index y bytes maxL ret ws rm 0 0 n) (hK : gK G s) (hP : va_P G.1 vwCl w0 H) (q0 : Nat) {ci N : Nat} {T : u_T} {fs : List Value} (he : w0[q0]? = some (b, .inr (ci, fs))) (hc : vwCl[ci]? = some (C, T, N)) (hn : As.length = n) (hsize : ls.size = nL) (hst : st0 = As.reverse ++ .ref b :: rest) (hW : (rest.map fun v => v.category).sum ≤ 8) (hdg : decode cc pc = .ok (.invokevirtual index, 3)) (hf : cells + 0 ≤ R.cells ∧ slots + 0 ≤ R.slots) :
    va_Run p l e R s m args below meth c H locs cells slots 0 0 (F0 m pc ls st0) rest (g_postR v (Value.ref b :: As).toArray) (fun _ => False) :=
  va_runV S hM cw ⟨g_blindR, va_recv hK.1 hP hc he, fun U hU hw => ⟨rfl, by rw [hU]; exact hP, hK.warm hw⟩⟩ rfl hn hsize hst (lv_room hW) hdg hf
theorem g_runSRN (S : CallFix p m c cc nL s args Ts own) (hM : gR l G y ws rm As w0 v) (cw : CallB R s args own index y bytes maxL ret ws rm 0 0 n ∧ (Cond.static y).before args s = true) (hK : gK G s) (hP : va_P G.1 vwCl w0 H) (hn : As.length = n) (hsize : ls.size = nL) (hst : st0 = As.reverse ++ rest) (hW : (rest.map fun v => v.category).sum ≤ 8) (hdg : decode cc pc = .ok (.invokestatic index, 3)) (hf : cells + 0 ≤ R.cells ∧ slots + 0 ≤ R.slots) :
    va_Run p l e R s m args below meth c H locs cells slots 0 0 (F0 m pc ls st0) rest (g_postR v As.toArray) (fun _ => False) :=
  va_runS S hM cw ⟨g_blindR, fun U hU hw => ⟨rfl, by rw [hU]; exact hP, hK.warm hw⟩⟩ rfl hn hsize hst (lv_room hW) hdg hf
variable {w : va_W}
theorem g_zretF {x : Int32} {wz : va_W} (hx : p.tables.exec = Jvm.exec) (hb : c.code = cc) (hr : meth.sig.returnType = some .boolean) (hlocks : meth.locks = false) (hn : narrow .boolean (.int x) = .int x) (hp : P1 w) (hP : va_P G.1 vwCl w H) (hD : va_D (va_A wz s.heap.size) w) (hS : va_S (va_A wz s.heap.size) s.heap H locs) (hdg : decode cc pc = .ok (.ireturn, 1)) : gWF p l e R s m args below meth c G wz (some (.int x)) P1 H locs pc ls [.int x] :=
  W.zret hx hb hr hn (fun t ht _ => ⟨⟨rfl, w, hp, by rw [ht]; exact hP, hD⟩, hS.F ht⟩) hS.2.2 hdg hlocks
end GLF
theorem gR.grow {l : Launch} {G : gT} {y : MethodName} {ws : List Cond} {rm : Room} {av : List Value} {w0 : va_W} {v : Option Value} (h : gR l G y ws rm av w0 v) {W : va_W} (hm : ∀ q ∈ w0, q ∈ W) : gR l G y ws rm av W v := by
  have h' : Met l y ws rm (va_Pc av (g_preR G w0)) (g_postR v) 0 0 (fun _ => False) := h
  refine MetFree.mono h' ?_ (fun _ _ _ _ _ hh => hh) (fun _ _ _ _ _ hh => hh)
  rintro a s ⟨rfl, hP, hK⟩
  exact ⟨rfl, hP.of_mem hm, hK⟩
/-! the operations on the abstract state, and their contracts -/
def K_count (p0 : Int32) (S : zS) : Option Int32 := fX5_count p0 (nI S.1) S.2.1.1 S.2.1.2.1 S.2.1.2.2.1 S.2.1.2.2.2.1 S.2.1.2.2.2.2.1 S.2.1.2.2.2.2.2.1 S.2.1.2.2.2.2.2.2.1 S.2.1.2.2.2.2.2.2.2.1 S.2.1.2.2.2.2.2.2.2.2.1 S.2.1.2.2.2.2.2.2.2.2.2.1 S.2.1.2.2.2.2.2.2.2.2.2.2.1 S.2.1.2.2.2.2.2.2.2.2.2.2.2.1 S.2.1.2.2.2.2.2.2.2.2.2.2.2.2.1 S.2.1.2.2.2.2.2.2.2.2.2.2.2.2.2.1 S.2.1.2.2.2.2.2.2.2.2.2.2.2.2.2.2.1 S.2.1.2.2.2.2.2.2.2.2.2.2.2.2.2.2.2 S.2.2.2.2.1 S.2.2.2.2.2.1 S.2.2.2.2.2.2.1 S.2.2.2.2.2.2.2.1 S.2.2.2.2.2.2.2.2.1 S.2.2.2.2.2.2.2.2.2.1 S.2.2.2.2.2.2.2.2.2.2
theorem A_count (l : Launch) (G : gT) {x hi h0 h1 h2 : Nat} {p0 : Int32} {S : zS} {w : va_W} {r : Int32} (hR : Rp G x hi h0 h1 h2 S w) (e : K_count p0 S = some r) : gR l G yX5_count wsX5_count rmX5_count [.ref x, .int p0] w (some (.int r)) := by
  obtain ⟨-, an, at', aH, rfl⟩ := hR
  exact gR.grow (qX5_count l G x hi (at' 0) an h0 h1 h2 e) (face_sub G x hi h0 h1 h2 (nI S.1) (an, S.2.1) (at', S.2.2.1) (aH 0, S.2.2.2.1 0) (aH 1, S.2.2.2.1 1) (aH 2, S.2.2.2.1 2) (aH 3, S.2.2.2.1 3) _ _ _ _ _ _ _)
def K_check (S : zS) : Option Int32 := fX5_check (nI S.1) S.2.1.1 S.2.1.2.1 S.2.1.2.2.1 S.2.1.2.2.2.1 S.2.1.2.2.2.2.1 S.2.1.2.2.2.2.2.1 S.2.1.2.2.2.2.2.2.1 S.2.1.2.2.2.2.2.2.2.1 S.2.1.2.2.2.2.2.2.2.2.1 S.2.1.2.2.2.2.2.2.2.2.2.1 S.2.1.2.2.2.2.2.2.2.2.2.2.1 S.2.1.2.2.2.2.2.2.2.2.2.2.2.1 S.2.1.2.2.2.2.2.2.2.2.2.2.2.2.1 S.2.1.2.2.2.2.2.2.2.2.2.2.2.2.2.1 S.2.1.2.2.2.2.2.2.2.2.2.2.2.2.2.2.1 S.2.1.2.2.2.2.2.2.2.2.2.2.2.2.2.2.2 S.2.2.2.2.1 S.2.2.2.2.2.1 S.2.2.2.2.2.2.1 S.2.2.2.2.2.2.2.1 S.2.2.2.2.2.2.2.2.1 S.2.2.2.2.2.2.2.2.2.1 S.2.2.2.2.2.2.2.2.2.2
theorem A_check (l : Launch) (G : gT) {x hi h0 h1 h2 : Nat} {S : zS} {w : va_W} {r : Int32} (hR : Rp G x hi h0 h1 h2 S w) (e : K_check S = some r) : gR l G yX5_check wsX5_check rmX5_check [.ref x] w (some (.int r)) := by
  obtain ⟨-, an, at', aH, rfl⟩ := hR
  exact gR.grow (qX5_check l G x hi (at' 0) an h0 h1 h2 e) (face_sub G x hi h0 h1 h2 (nI S.1) (an, S.2.1) (at', S.2.2.1) (aH 0, S.2.2.2.1 0) (aH 1, S.2.2.2.1 1) (aH 2, S.2.2.2.1 2) (aH 3, S.2.2.2.1 3) _ _ _ _ _ _ _)
def K_quarrel (S : zS) : Option Int32 := fX5_quarrel (nI S.1) S.2.1.1 S.2.1.2.1 S.2.1.2.2.1 S.2.1.2.2.2.1 S.2.1.2.2.2.2.1 S.2.1.2.2.2.2.2.1 S.2.1.2.2.2.2.2.2.1 S.2.1.2.2.2.2.2.2.2.1 S.2.1.2.2.2.2.2.2.2.2.1 S.2.1.2.2.2.2.2.2.2.2.2.1 S.2.1.2.2.2.2.2.2.2.2.2.2.1 S.2.1.2.2.2.2.2.2.2.2.2.2.2.1 S.2.1.2.2.2.2.2.2.2.2.2.2.2.2.1 S.2.1.2.2.2.2.2.2.2.2.2.2.2.2.2.1 S.2.1.2.2.2.2.2.2.2.2.2.2.2.2.2.2.1 S.2.1.2.2.2.2.2.2.2.2.2.2.2.2.2.2.2 S.2.2.2.2.1 S.2.2.2.2.2.1 S.2.2.2.2.2.2.1 S.2.2.2.2.2.2.2.1 S.2.2.2.2.2.2.2.2.1 S.2.2.2.2.2.2.2.2.2.1 S.2.2.2.2.2.2.2.2.2.2
theorem A_quarrel (l : Launch) (G : gT) {x hi h0 h1 h2 : Nat} {S : zS} {w : va_W} {r : Int32} (hR : Rp G x hi h0 h1 h2 S w) (e : K_quarrel S = some r) : gR l G yX5_quarrel wsX5_quarrel rmX5_quarrel [.ref x] w (some (.int r)) := by
  obtain ⟨-, an, at', aH, rfl⟩ := hR
  exact gR.grow (qX5_quarrel l G x hi (at' 0) an h0 h1 h2 e) (face_sub G x hi h0 h1 h2 (nI S.1) (an, S.2.1) (at', S.2.2.1) (aH 0, S.2.2.2.1 0) (aH 1, S.2.2.2.1 1) (aH 2, S.2.2.2.1 2) (aH 3, S.2.2.2.1 3) _ _ _ _ _ _ _)
def K_shapeOf (p0 p1 p2 : Int32) (S : zS) : Option Int32 := fX5_shapeOf p0 p1 p2 (nI S.1) S.2.1.1 S.2.1.2.1 S.2.1.2.2.1 S.2.1.2.2.2.1 S.2.1.2.2.2.2.1 S.2.1.2.2.2.2.2.1 S.2.1.2.2.2.2.2.2.1 S.2.1.2.2.2.2.2.2.2.1 S.2.1.2.2.2.2.2.2.2.2.1 S.2.1.2.2.2.2.2.2.2.2.2.1 S.2.1.2.2.2.2.2.2.2.2.2.2.1 S.2.1.2.2.2.2.2.2.2.2.2.2.2.1 S.2.1.2.2.2.2.2.2.2.2.2.2.2.2.1 S.2.1.2.2.2.2.2.2.2.2.2.2.2.2.2.1 S.2.1.2.2.2.2.2.2.2.2.2.2.2.2.2.2.1 S.2.1.2.2.2.2.2.2.2.2.2.2.2.2.2.2.2 S.2.2.2.2.1 S.2.2.2.2.2.1 S.2.2.2.2.2.2.1 S.2.2.2.2.2.2.2.1 S.2.2.2.2.2.2.2.2.1 S.2.2.2.2.2.2.2.2.2.1 S.2.2.2.2.2.2.2.2.2.2
theorem A_shapeOf (l : Launch) (G : gT) {x hi h0 h1 h2 : Nat} {p0 p1 p2 : Int32} {S : zS} {w : va_W} {r : Int32} (hR : Rp G x hi h0 h1 h2 S w) (e : K_shapeOf p0 p1 p2 S = some r) : gR l G yX5_shapeOf wsX5_shapeOf rmX5_shapeOf [.ref x, .int p0, .int p1, .int p2] w (some (.int r)) := by
  obtain ⟨-, an, at', aH, rfl⟩ := hR
  exact gR.grow (qX5_shapeOf l G x hi (at' 0) an h0 h1 h2 e) (face_sub G x hi h0 h1 h2 (nI S.1) (an, S.2.1) (at', S.2.2.1) (aH 0, S.2.2.2.1 0) (aH 1, S.2.2.2.1 1) (aH 2, S.2.2.2.1 2) (aH 3, S.2.2.2.1 3) _ _ _ _ _ _ _)
def K_read (p0 p1 p2 : Int32) (S : zS) : Option Int32 := fX5_read p0 p1 p2 (nI S.1) S.2.1.1 S.2.1.2.1 S.2.1.2.2.1 S.2.1.2.2.2.1 S.2.1.2.2.2.2.1 S.2.1.2.2.2.2.2.1 S.2.1.2.2.2.2.2.2.1 S.2.1.2.2.2.2.2.2.2.1 S.2.1.2.2.2.2.2.2.2.2.1 S.2.1.2.2.2.2.2.2.2.2.2.1 S.2.1.2.2.2.2.2.2.2.2.2.2.1 S.2.1.2.2.2.2.2.2.2.2.2.2.2.1 S.2.1.2.2.2.2.2.2.2.2.2.2.2.2.1 S.2.1.2.2.2.2.2.2.2.2.2.2.2.2.2.1 S.2.1.2.2.2.2.2.2.2.2.2.2.2.2.2.2.1 S.2.1.2.2.2.2.2.2.2.2.2.2.2.2.2.2.2 S.2.2.2.2.1 S.2.2.2.2.2.1 S.2.2.2.2.2.2.1 S.2.2.2.2.2.2.2.1 S.2.2.2.2.2.2.2.2.1 S.2.2.2.2.2.2.2.2.2.1 S.2.2.2.2.2.2.2.2.2.2
theorem A_read (l : Launch) (G : gT) {x hi h0 h1 h2 : Nat} {p0 p1 p2 : Int32} {S : zS} {w : va_W} {r : Int32} (hR : Rp G x hi h0 h1 h2 S w) (e : K_read p0 p1 p2 S = some r) : gR l G yX5_read wsX5_read rmX5_read [.ref x, .int p0, .int p1, .int p2] w (some (.int r)) := by
  obtain ⟨-, an, at', aH, rfl⟩ := hR
  exact gR.grow (qX5_read l G x hi (at' 0) an h0 h1 h2 e) (face_sub G x hi h0 h1 h2 (nI S.1) (an, S.2.1) (at', S.2.2.1) (aH 0, S.2.2.2.1 0) (aH 1, S.2.2.2.1 1) (aH 2, S.2.2.2.1 2) (aH 3, S.2.2.2.1 3) _ _ _ _ _ _ _)
def K_keys (p0 : Int32) (S : zS) : Option Int32 := fX5_keys p0 (nI S.1) S.2.1.1 S.2.1.2.1 S.2.1.2.2.1 S.2.1.2.2.2.1 S.2.1.2.2.2.2.1 S.2.1.2.2.2.2.2.1 S.2.1.2.2.2.2.2.2.1 S.2.1.2.2.2.2.2.2.2.1 S.2.1.2.2.2.2.2.2.2.2.1 S.2.1.2.2.2.2.2.2.2.2.2.1 S.2.1.2.2.2.2.2.2.2.2.2.2.1 S.2.1.2.2.2.2.2.2.2.2.2.2.2.1 S.2.1.2.2.2.2.2.2.2.2.2.2.2.2.1 S.2.1.2.2.2.2.2.2.2.2.2.2.2.2.2.1 S.2.1.2.2.2.2.2.2.2.2.2.2.2.2.2.2.1 S.2.1.2.2.2.2.2.2.2.2.2.2.2.2.2.2.2 S.2.2.2.2.1 S.2.2.2.2.2.1 S.2.2.2.2.2.2.1 S.2.2.2.2.2.2.2.1 S.2.2.2.2.2.2.2.2.1 S.2.2.2.2.2.2.2.2.2.1 S.2.2.2.2.2.2.2.2.2.2
theorem A_keys (l : Launch) (G : gT) {x hi h0 h1 h2 : Nat} {p0 : Int32} {S : zS} {w : va_W} {r : Int32} (hR : Rp G x hi h0 h1 h2 S w) (e : K_keys p0 S = some r) : gR l G yX5_keys wsX5_keys rmX5_keys [.ref x, .int p0] w (some (.int r)) := by
  obtain ⟨-, an, at', aH, rfl⟩ := hR
  exact gR.grow (qX5_keys l G x hi (at' 0) an h0 h1 h2 e) (face_sub G x hi h0 h1 h2 (nI S.1) (an, S.2.1) (at', S.2.2.1) (aH 0, S.2.2.2.1 0) (aH 1, S.2.2.2.1 1) (aH 2, S.2.2.2.1 2) (aH 3, S.2.2.2.1 3) _ _ _ _ _ _ _)
def K_begin (S : zS) : Option (Int32 × zS) := (fX5_begin (nI S.1) S.2.1.1 S.2.1.2.1 S.2.1.2.2.1 S.2.1.2.2.2.1 S.2.1.2.2.2.2.1 S.2.1.2.2.2.2.2.1 S.2.1.2.2.2.2.2.2.1 S.2.1.2.2.2.2.2.2.2.1 S.2.1.2.2.2.2.2.2.2.2.1 S.2.1.2.2.2.2.2.2.2.2.2.1 S.2.1.2.2.2.2.2.2.2.2.2.2.1 S.2.1.2.2.2.2.2.2.2.2.2.2.2.1 S.2.1.2.2.2.2.2.2.2.2.2.2.2.2.1 S.2.1.2.2.2.2.2.2.2.2.2.2.2.2.2.1 S.2.1.2.2.2.2.2.2.2.2.2.2.2.2.2.2.1 S.2.1.2.2.2.2.2.2.2.2.2.2.2.2.2.2.2 S.2.2.1.1 S.2.2.1.2.1 S.2.2.1.2.2.1 S.2.2.1.2.2.2.1 S.2.2.1.2.2.2.2.1 S.2.2.1.2.2.2.2.2.1 S.2.2.1.2.2.2.2.2.2.1 S.2.2.1.2.2.2.2.2.2.2.1 S.2.2.1.2.2.2.2.2.2.2.2.1 S.2.2.1.2.2.2.2.2.2.2.2.2.1 S.2.2.1.2.2.2.2.2.2.2.2.2.2.1 S.2.2.1.2.2.2.2.2.2.2.2.2.2.2.1 S.2.2.1.2.2.2.2.2.2.2.2.2.2.2.2.1 S.2.2.1.2.2.2.2.2.2.2.2.2.2.2.2.2.1 S.2.2.1.2.2.2.2.2.2.2.2.2.2.2.2.2.2.1 S.2.2.1.2.2.2.2.2.2.2.2.2.2.2.2.2.2.2 S.2.2.2.2.1 S.2.2.2.2.2.1 S.2.2.2.2.2.2.1 S.2.2.2.2.2.2.2.1 S.2.2.2.2.2.2.2.2.1 S.2.2.2.2.2.2.2.2.2.1 S.2.2.2.2.2.2.2.2.2.2).bind fun o => some (o.1, K_set S o.1 o.2)
theorem A_begin (l : Launch) (G : gT) {x hi h0 h1 h2 : Nat} {S : zS} {w : va_W} {r : Int32 × zS} (hR : Rp G x hi h0 h1 h2 S w) (e : K_begin S = some r) : gF l G yX5_begin wsX5_begin rmX5_begin [.ref x] w (some (.int r.1)) (Rp G x hi h0 h1 h2 r.2) := by
  obtain ⟨hs, an, at', aH, rfl⟩ := hR
  obtain ⟨o, e1, e2⟩ := g_bdS e
  cases e2
  obtain ⟨s, nt, tt, HH, len, tx, gi, pl, re, ki, nu⟩ := S
  obtain ⟨an', at'', aH', hg⟩ := chg_K (nt := nt) (tt := tt) (HH := HH) (u := o.2) hs (qX5_begin l G x hi _ _ _ _ _ _ _ _ an at' h0 h1 h2 (zg_st hs) e1)
  exact gC.toF hg ⟨K_set_le hs o.1 o.2, an', at'', aH', rfl⟩
def K_turn (S : zS) : Option (Int32 × zS) := (fX5_turn (nI S.1) S.2.1.1 S.2.1.2.1 S.2.1.2.2.1 S.2.1.2.2.2.1 S.2.1.2.2.2.2.1 S.2.1.2.2.2.2.2.1 S.2.1.2.2.2.2.2.2.1 S.2.1.2.2.2.2.2.2.2.1 S.2.1.2.2.2.2.2.2.2.2.1 S.2.1.2.2.2.2.2.2.2.2.2.1 S.2.1.2.2.2.2.2.2.2.2.2.2.1 S.2.1.2.2.2.2.2.2.2.2.2.2.2.1 S.2.1.2.2.2.2.2.2.2.2.2.2.2.2.1 S.2.1.2.2.2.2.2.2.2.2.2.2.2.2.2.1 S.2.1.2.2.2.2.2.2.2.2.2.2.2.2.2.2.1 S.2.1.2.2.2.2.2.2.2.2.2.2.2.2.2.2.2 S.2.2.1.1 S.2.2.1.2.1 S.2.2.1.2.2.1 S.2.2.1.2.2.2.1 S.2.2.1.2.2.2.2.1 S.2.2.1.2.2.2.2.2.1 S.2.2.1.2.2.2.2.2.2.1 S.2.2.1.2.2.2.2.2.2.2.1 S.2.2.1.2.2.2.2.2.2.2.2.1 S.2.2.1.2.2.2.2.2.2.2.2.2.1 S.2.2.1.2.2.2.2.2.2.2.2.2.2.1 S.2.2.1.2.2.2.2.2.2.2.2.2.2.2.1 S.2.2.1.2.2.2.2.2.2.2.2.2.2.2.2.1 S.2.2.1.2.2.2.2.2.2.2.2.2.2.2.2.2.1 S.2.2.1.2.2.2.2.2.2.2.2.2.2.2.2.2.2.1 S.2.2.1.2.2.2.2.2.2.2.2.2.2.2.2.2.2.2 S.2.2.2.2.1 S.2.2.2.2.2.1 S.2.2.2.2.2.2.1 S.2.2.2.2.2.2.2.1 S.2.2.2.2.2.2.2.2.1 S.2.2.2.2.2.2.2.2.2.1 S.2.2.2.2.2.2.2.2.2.2).bind fun o => some (o.1, K_set S o.1 o.2)
theorem A_turn (l : Launch) (G : gT) {x hi h0 h1 h2 : Nat} {S : zS} {w : va_W} {r : Int32 × zS} (hR : Rp G x hi h0 h1 h2 S w) (e : K_turn S = some r) : gF l G yX5_turn wsX5_turn rmX5_turn [.ref x] w (some (.int r.1)) (Rp G x hi h0 h1 h2 r.2) := by
  obtain ⟨hs, an, at', aH, rfl⟩ := hR
  obtain ⟨o, e1, e2⟩ := g_bdS e
  cases e2
  obtain ⟨s, nt, tt, HH, len, tx, gi, pl, re, ki, nu⟩ := S
  obtain ⟨an', at'', aH', hg⟩ := chg_K (nt := nt) (tt := tt) (HH := HH) (u := o.2) hs (qX5_turn l G x hi _ _ _ _ _ _ _ _ an at' h0 h1 h2 (zg_st hs) e1)
  exact gC.toF hg ⟨K_set_le hs o.1 o.2, an', at'', aH', rfl⟩
def K_back (S : zS) : Option (Int32 × zS) := (fX5_back (nI S.1) S.2.1.1 S.2.1.2.1 S.2.1.2.2.1 S.2.1.2.2.2.1 S.2.1.2.2.2.2.1 S.2.1.2.2.2.2.2.1 S.2.1.2.2.2.2.2.2.1 S.2.1.2.2.2.2.2.2.2.1 S.2.1.2.2.2.2.2.2.2.2.1 S.2.1.2.2.2.2.2.2.2.2.2.1 S.2.1.2.2.2.2.2.2.2.2.2.2.1 S.2.1.2.2.2.2.2.2.2.2.2.2.2.1 S.2.1.2.2.2.2.2.2.2.2.2.2.2.2.1 S.2.1.2.2.2.2.2.2.2.2.2.2.2.2.2.1 S.2.1.2.2.2.2.2.2.2.2.2.2.2.2.2.2.1 S.2.1.2.2.2.2.2.2.2.2.2.2.2.2.2.2.2 S.2.2.1.1 S.2.2.1.2.1 S.2.2.1.2.2.1 S.2.2.1.2.2.2.1 S.2.2.1.2.2.2.2.1 S.2.2.1.2.2.2.2.2.1 S.2.2.1.2.2.2.2.2.2.1 S.2.2.1.2.2.2.2.2.2.2.1 S.2.2.1.2.2.2.2.2.2.2.2.1 S.2.2.1.2.2.2.2.2.2.2.2.2.1 S.2.2.1.2.2.2.2.2.2.2.2.2.2.1 S.2.2.1.2.2.2.2.2.2.2.2.2.2.2.1 S.2.2.1.2.2.2.2.2.2.2.2.2.2.2.2.1 S.2.2.1.2.2.2.2.2.2.2.2.2.2.2.2.2.1 S.2.2.1.2.2.2.2.2.2.2.2.2.2.2.2.2.2.1 S.2.2.1.2.2.2.2.2.2.2.2.2.2.2.2.2.2.2 S.2.2.2.2.1 S.2.2.2.2.2.1 S.2.2.2.2.2.2.1 S.2.2.2.2.2.2.2.1 S.2.2.2.2.2.2.2.2.1 S.2.2.2.2.2.2.2.2.2.1 S.2.2.2.2.2.2.2.2.2.2).bind fun o => some (o.1, K_set S o.1 o.2)
theorem A_back (l : Launch) (G : gT) {x hi h0 h1 h2 : Nat} {S : zS} {w : va_W} {r : Int32 × zS} (hR : Rp G x hi h0 h1 h2 S w) (e : K_back S = some r) : gF l G yX5_back wsX5_back rmX5_back [.ref x] w (some (.int r.1)) (Rp G x hi h0 h1 h2 r.2) := by
  obtain ⟨hs, an, at', aH, rfl⟩ := hR
  obtain ⟨o, e1, e2⟩ := g_bdS e
  cases e2
  obtain ⟨s, nt, tt, HH, len, tx, gi, pl, re, ki, nu⟩ := S
  obtain ⟨an', at'', aH', hg⟩ := chg_K (nt := nt) (tt := tt) (HH := HH) (u := o.2) hs (qX5_back l G x hi _ _ _ _ _ _ _ _ an at' h0 h1 h2 (zg_st hs) e1)
  exact gC.toF hg ⟨K_set_le hs o.1 o.2, an', at'', aH', rfl⟩
def K_drop (S : zS) : Option (Int32 × zS) := (fX5_drop (nI S.1) S.2.1.1 S.2.1.2.1 S.2.1.2.2.1 S.2.1.2.2.2.1 S.2.1.2.2.2.2.1 S.2.1.2.2.2.2.2.1 S.2.1.2.2.2.2.2.2.1 S.2.1.2.2.2.2.2.2.2.1 S.2.1.2.2.2.2.2.2.2.2.1 S.2.1.2.2.2.2.2.2.2.2.2.1 S.2.1.2.2.2.2.2.2.2.2.2.2.1 S.2.1.2.2.2.2.2.2.2.2.2.2.2.1 S.2.1.2.2.2.2.2.2.2.2.2.2.2.2.1 S.2.1.2.2.2.2.2.2.2.2.2.2.2.2.2.1 S.2.1.2.2.2.2.2.2.2.2.2.2.2.2.2.2.1 S.2.1.2.2.2.2.2.2.2.2.2.2.2.2.2.2.2 S.2.2.1.1 S.2.2.1.2.1 S.2.2.1.2.2.1 S.2.2.1.2.2.2.1 S.2.2.1.2.2.2.2.1 S.2.2.1.2.2.2.2.2.1 S.2.2.1.2.2.2.2.2.2.1 S.2.2.1.2.2.2.2.2.2.2.1 S.2.2.1.2.2.2.2.2.2.2.2.1 S.2.2.1.2.2.2.2.2.2.2.2.2.1 S.2.2.1.2.2.2.2.2.2.2.2.2.2.1 S.2.2.1.2.2.2.2.2.2.2.2.2.2.2.1 S.2.2.1.2.2.2.2.2.2.2.2.2.2.2.2.1 S.2.2.1.2.2.2.2.2.2.2.2.2.2.2.2.2.1 S.2.2.1.2.2.2.2.2.2.2.2.2.2.2.2.2.2.1 S.2.2.1.2.2.2.2.2.2.2.2.2.2.2.2.2.2.2 S.2.2.2.2.1 S.2.2.2.2.2.1 S.2.2.2.2.2.2.1 S.2.2.2.2.2.2.2.1 S.2.2.2.2.2.2.2.2.1 S.2.2.2.2.2.2.2.2.2.1 S.2.2.2.2.2.2.2.2.2.2).bind fun o => some (o.1, K_set S o.1 o.2)
theorem A_drop (l : Launch) (G : gT) {x hi h0 h1 h2 : Nat} {S : zS} {w : va_W} {r : Int32 × zS} (hR : Rp G x hi h0 h1 h2 S w) (e : K_drop S = some r) : gF l G yX5_drop wsX5_drop rmX5_drop [.ref x] w (some (.int r.1)) (Rp G x hi h0 h1 h2 r.2) := by
  obtain ⟨hs, an, at', aH, rfl⟩ := hR
  obtain ⟨o, e1, e2⟩ := g_bdS e
  cases e2
  obtain ⟨s, nt, tt, HH, len, tx, gi, pl, re, ki, nu⟩ := S
  obtain ⟨an', at'', aH', hg⟩ := chg_K (nt := nt) (tt := tt) (HH := HH) (u := o.2) hs (qX5_drop l G x hi _ _ _ _ _ _ _ _ an at' h0 h1 h2 (zg_st hs) e1)
  exact gC.toF hg ⟨K_set_le hs o.1 o.2, an', at'', aH', rfl⟩
def K_writeOld (p0 p1 p2 p3 : Int32) (S : zS) : Option (Int32 × zS) := (fX5_writeOld p0 p1 p2 p3 (nI S.1) S.2.1.1 S.2.1.2.1 S.2.1.2.2.1 S.2.1.2.2.2.1 S.2.1.2.2.2.2.1 S.2.1.2.2.2.2.2.1 S.2.1.2.2.2.2.2.2.1 S.2.1.2.2.2.2.2.2.2.1 S.2.1.2.2.2.2.2.2.2.2.1 S.2.1.2.2.2.2.2.2.2.2.2.1 S.2.1.2.2.2.2.2.2.2.2.2.2.1 S.2.1.2.2.2.2.2.2.2.2.2.2.2.1 S.2.1.2.2.2.2.2.2.2.2.2.2.2.2.1 S.2.1.2.2.2.2.2.2.2.2.2.2.2.2.2.1 S.2.1.2.2.2.2.2.2.2.2.2.2.2.2.2.2.1 S.2.1.2.2.2.2.2.2.2.2.2.2.2.2.2.2.2 S.2.2.1.1 S.2.2.1.2.1 S.2.2.1.2.2.1 S.2.2.1.2.2.2.1 S.2.2.1.2.2.2.2.1 S.2.2.1.2.2.2.2.2.1 S.2.2.1.2.2.2.2.2.2.1 S.2.2.1.2.2.2.2.2.2.2.1 S.2.2.1.2.2.2.2.2.2.2.2.1 S.2.2.1.2.2.2.2.2.2.2.2.2.1 S.2.2.1.2.2.2.2.2.2.2.2.2.2.1 S.2.2.1.2.2.2.2.2.2.2.2.2.2.2.1 S.2.2.1.2.2.2.2.2.2.2.2.2.2.2.2.1 S.2.2.1.2.2.2.2.2.2.2.2.2.2.2.2.2.1 S.2.2.1.2.2.2.2.2.2.2.2.2.2.2.2.2.2.1 S.2.2.1.2.2.2.2.2.2.2.2.2.2.2.2.2.2.2 S.2.2.2.2.1 S.2.2.2.2.2.1 S.2.2.2.2.2.2.1 S.2.2.2.2.2.2.2.1 S.2.2.2.2.2.2.2.2.1 S.2.2.2.2.2.2.2.2.2.1 S.2.2.2.2.2.2.2.2.2.2).bind fun o => some (o.1, K_set S o.1 o.2)
theorem A_writeOld (l : Launch) (G : gT) {x hi h0 h1 h2 : Nat} {p0 p1 p2 p3 : Int32} {S : zS} {w : va_W} {r : Int32 × zS} (hR : Rp G x hi h0 h1 h2 S w) (e : K_writeOld p0 p1 p2 p3 S = some r) : gF l G yX5_writeOld wsX5_writeOld rmX5_writeOld [.ref x, .int p0, .int p1, .int p2, .int p3] w (some (.int r.1)) (Rp G x hi h0 h1 h2 r.2) := by
  obtain ⟨hs, an, at', aH, rfl⟩ := hR
  obtain ⟨o, e1, e2⟩ := g_bdS e
  cases e2
  obtain ⟨s, nt, tt, HH, len, tx, gi, pl, re, ki, nu⟩ := S
  obtain ⟨an', at'', aH', hg⟩ := chg_K (nt := nt) (tt := tt) (HH := HH) (u := o.2) hs (qX5_writeOld l G x hi _ _ _ _ _ _ _ _ an at' h0 h1 h2 (zg_st hs) e1)
  exact gC.toF hg ⟨K_set_le hs o.1 o.2, an', at'', aH', rfl⟩
def K_writeNew (p0 p1 p2 : Int32) (S : zS) : Option (Int32 × zS) := (fX5_writeNew p0 p1 p2 (nI S.1) S.2.1.1 S.2.1.2.1 S.2.1.2.2.1 S.2.1.2.2.2.1 S.2.1.2.2.2.2.1 S.2.1.2.2.2.2.2.1 S.2.1.2.2.2.2.2.2.1 S.2.1.2.2.2.2.2.2.2.1 S.2.1.2.2.2.2.2.2.2.2.1 S.2.1.2.2.2.2.2.2.2.2.2.1 S.2.1.2.2.2.2.2.2.2.2.2.2.1 S.2.1.2.2.2.2.2.2.2.2.2.2.2.1 S.2.1.2.2.2.2.2.2.2.2.2.2.2.2.1 S.2.1.2.2.2.2.2.2.2.2.2.2.2.2.2.1 S.2.1.2.2.2.2.2.2.2.2.2.2.2.2.2.2.1 S.2.1.2.2.2.2.2.2.2.2.2.2.2.2.2.2.2 S.2.2.1.1 S.2.2.1.2.1 S.2.2.1.2.2.1 S.2.2.1.2.2.2.1 S.2.2.1.2.2.2.2.1 S.2.2.1.2.2.2.2.2.1 S.2.2.1.2.2.2.2.2.2.1 S.2.2.1.2.2.2.2.2.2.2.1 S.2.2.1.2.2.2.2.2.2.2.2.1 S.2.2.1.2.2.2.2.2.2.2.2.2.1 S.2.2.1.2.2.2.2.2.2.2.2.2.2.1 S.2.2.1.2.2.2.2.2.2.2.2.2.2.2.1 S.2.2.1.2.2.2.2.2.2.2.2.2.2.2.2.1 S.2.2.1.2.2.2.2.2.2.2.2.2.2.2.2.2.1 S.2.2.1.2.2.2.2.2.2.2.2.2.2.2.2.2.2.1 S.2.2.1.2.2.2.2.2.2.2.2.2.2.2.2.2.2.2 S.2.2.2.2.1 S.2.2.2.2.2.1 S.2.2.2.2.2.2.1 S.2.2.2.2.2.2.2.1 S.2.2.2.2.2.2.2.2.1 S.2.2.2.2.2.2.2.2.2.1 S.2.2.2.2.2.2.2.2.2.2).bind fun o => some (o.1, K_set S o.1 o.2)
theorem A_writeNew (l : Launch) (G : gT) {x hi h0 h1 h2 : Nat} {p0 p1 p2 : Int32} {S : zS} {w : va_W} {r : Int32 × zS} (hR : Rp G x hi h0 h1 h2 S w) (e : K_writeNew p0 p1 p2 S = some r) : gF l G yX5_writeNew wsX5_writeNew rmX5_writeNew [.ref x, .int p0, .int p1, .int p2] w (some (.int r.1)) (Rp G x hi h0 h1 h2 r.2) := by
  obtain ⟨hs, an, at', aH, rfl⟩ := hR
  obtain ⟨o, e1, e2⟩ := g_bdS e
  cases e2
  obtain ⟨s, nt, tt, HH, len, tx, gi, pl, re, ki, nu⟩ := S
  obtain ⟨an', at'', aH', hg⟩ := chg_K (nt := nt) (tt := tt) (HH := HH) (u := o.2) hs (qX5_writeNew l G x hi _ _ _ _ _ _ _ _ an at' h0 h1 h2 (zg_st hs) e1)
  exact gC.toF hg ⟨K_set_le hs o.1 o.2, an', at'', aH', rfl⟩
def K_remove (p0 : Int32) (S : zS) : Option (Int32 × zS) := (fX5_remove p0 (nI S.1) S.2.1.1 S.2.1.2.1 S.2.1.2.2.1 S.2.1.2.2.2.1 S.2.1.2.2.2.2.1 S.2.1.2.2.2.2.2.1 S.2.1.2.2.2.2.2.2.1 S.2.1.2.2.2.2.2.2.2.1 S.2.1.2.2.2.2.2.2.2.2.1 S.2.1.2.2.2.2.2.2.2.2.2.1 S.2.1.2.2.2.2.2.2.2.2.2.2.1 S.2.1.2.2.2.2.2.2.2.2.2.2.2.1 S.2.1.2.2.2.2.2.2.2.2.2.2.2.2.1 S.2.1.2.2.2.2.2.2.2.2.2.2.2.2.2.1 S.2.1.2.2.2.2.2.2.2.2.2.2.2.2.2.2.1 S.2.1.2.2.2.2.2.2.2.2.2.2.2.2.2.2.2 S.2.2.1.1 S.2.2.1.2.1 S.2.2.1.2.2.1 S.2.2.1.2.2.2.1 S.2.2.1.2.2.2.2.1 S.2.2.1.2.2.2.2.2.1 S.2.2.1.2.2.2.2.2.2.1 S.2.2.1.2.2.2.2.2.2.2.1 S.2.2.1.2.2.2.2.2.2.2.2.1 S.2.2.1.2.2.2.2.2.2.2.2.2.1 S.2.2.1.2.2.2.2.2.2.2.2.2.2.1 S.2.2.1.2.2.2.2.2.2.2.2.2.2.2.1 S.2.2.1.2.2.2.2.2.2.2.2.2.2.2.2.1 S.2.2.1.2.2.2.2.2.2.2.2.2.2.2.2.2.1 S.2.2.1.2.2.2.2.2.2.2.2.2.2.2.2.2.2.1 S.2.2.1.2.2.2.2.2.2.2.2.2.2.2.2.2.2.2 S.2.2.2.2.1 S.2.2.2.2.2.1 S.2.2.2.2.2.2.1 S.2.2.2.2.2.2.2.1 S.2.2.2.2.2.2.2.2.1 S.2.2.2.2.2.2.2.2.2.1 S.2.2.2.2.2.2.2.2.2.2).bind fun o => some (o.1, K_set S o.1 o.2)
theorem A_remove (l : Launch) (G : gT) {x hi h0 h1 h2 : Nat} {p0 : Int32} {S : zS} {w : va_W} {r : Int32 × zS} (hR : Rp G x hi h0 h1 h2 S w) (e : K_remove p0 S = some r) : gF l G yX5_remove wsX5_remove rmX5_remove [.ref x, .int p0] w (some (.int r.1)) (Rp G x hi h0 h1 h2 r.2) := by
  obtain ⟨hs, an, at', aH, rfl⟩ := hR
  obtain ⟨o, e1, e2⟩ := g_bdS e
  cases e2
  obtain ⟨s, nt, tt, HH, len, tx, gi, pl, re, ki, nu⟩ := S
  obtain ⟨an', at'', aH', hg⟩ := chg_K (nt := nt) (tt := tt) (HH := HH) (u := o.2) hs (qX5_remove l G x hi _ _ _ _ _ _ _ _ an at' h0 h1 h2 (zg_st hs) e1)
  exact gC.toF hg ⟨K_set_le hs o.1 o.2, an', at'', aH', rfl⟩
def K_drain (p0 : Int32) (S : zS) : Option (Int32 × zS) := (fX5_drain p0 (nI S.1) S.2.1.1 S.2.1.2.1 S.2.1.2.2.1 S.2.1.2.2.2.1 S.2.1.2.2.2.2.1 S.2.1.2.2.2.2.2.1 S.2.1.2.2.2.2.2.2.1 S.2.1.2.2.2.2.2.2.2.1 S.2.1.2.2.2.2.2.2.2.2.1 S.2.1.2.2.2.2.2.2.2.2.2.1 S.2.1.2.2.2.2.2.2.2.2.2.2.1 S.2.1.2.2.2.2.2.2.2.2.2.2.2.1 S.2.1.2.2.2.2.2.2.2.2.2.2.2.2.1 S.2.1.2.2.2.2.2.2.2.2.2.2.2.2.2.1 S.2.1.2.2.2.2.2.2.2.2.2.2.2.2.2.2.1 S.2.1.2.2.2.2.2.2.2.2.2.2.2.2.2.2.2 S.2.2.1.1 S.2.2.1.2.1 S.2.2.1.2.2.1 S.2.2.1.2.2.2.1 S.2.2.1.2.2.2.2.1 S.2.2.1.2.2.2.2.2.1 S.2.2.1.2.2.2.2.2.2.1 S.2.2.1.2.2.2.2.2.2.2.1 S.2.2.1.2.2.2.2.2.2.2.2.1 S.2.2.1.2.2.2.2.2.2.2.2.2.1 S.2.2.1.2.2.2.2.2.2.2.2.2.2.1 S.2.2.1.2.2.2.2.2.2.2.2.2.2.2.1 S.2.2.1.2.2.2.2.2.2.2.2.2.2.2.2.1 S.2.2.1.2.2.2.2.2.2.2.2.2.2.2.2.2.1 S.2.2.1.2.2.2.2.2.2.2.2.2.2.2.2.2.2.1 S.2.2.1.2.2.2.2.2.2.2.2.2.2.2.2.2.2.2 S.2.2.2.2.1 S.2.2.2.2.2.1 S.2.2.2.2.2.2.1 S.2.2.2.2.2.2.2.1 S.2.2.2.2.2.2.2.2.1 S.2.2.2.2.2.2.2.2.2.1 S.2.2.2.2.2.2.2.2.2.2).bind fun o => some (o.1, K_set S o.1 o.2)
theorem A_drain (l : Launch) (G : gT) {x hi h0 h1 h2 : Nat} {p0 : Int32} {S : zS} {w : va_W} {r : Int32 × zS} (hR : Rp G x hi h0 h1 h2 S w) (e : K_drain p0 S = some r) : gF l G yX5_drain wsX5_drain rmX5_drain [.ref x, .int p0] w (some (.int r.1)) (Rp G x hi h0 h1 h2 r.2) := by
  obtain ⟨hs, an, at', aH, rfl⟩ := hR
  obtain ⟨o, e1, e2⟩ := g_bdS e
  cases e2
  obtain ⟨s, nt, tt, HH, len, tx, gi, pl, re, ki, nu⟩ := S
  obtain ⟨an', at'', aH', hg⟩ := chg_K (nt := nt) (tt := tt) (HH := HH) (u := o.2) hs (qX5_drain l G x hi _ _ _ _ _ _ _ _ an at' h0 h1 h2 (zg_st hs) e1)
  exact gC.toF hg ⟨K_set_le hs o.1 o.2, an', at'', aH', rfl⟩
def K_backfill (p0 : Int32) (S : zS) : Option (Int32 × zS) := (fX5_backfill p0 (nI S.1) S.2.1.1 S.2.1.2.1 S.2.1.2.2.1 S.2.1.2.2.2.1 S.2.1.2.2.2.2.1 S.2.1.2.2.2.2.2.1 S.2.1.2.2.2.2.2.2.1 S.2.1.2.2.2.2.2.2.2.1 S.2.1.2.2.2.2.2.2.2.2.1 S.2.1.2.2.2.2.2.2.2.2.2.1 S.2.1.2.2.2.2.2.2.2.2.2.2.1 S.2.1.2.2.2.2.2.2.2.2.2.2.2.1 S.2.1.2.2.2.2.2.2.2.2.2.2.2.2.1 S.2.1.2.2.2.2.2.2.2.2.2.2.2.2.2.1 S.2.1.2.2.2.2.2.2.2.2.2.2.2.2.2.2.1 S.2.1.2.2.2.2.2.2.2.2.2.2.2.2.2.2.2 S.2.2.1.1 S.2.2.1.2.1 S.2.2.1.2.2.1 S.2.2.1.2.2.2.1 S.2.2.1.2.2.2.2.1 S.2.2.1.2.2.2.2.2.1 S.2.2.1.2.2.2.2.2.2.1 S.2.2.1.2.2.2.2.2.2.2.1 S.2.2.1.2.2.2.2.2.2.2.2.1 S.2.2.1.2.2.2.2.2.2.2.2.2.1 S.2.2.1.2.2.2.2.2.2.2.2.2.2.1 S.2.2.1.2.2.2.2.2.2.2.2.2.2.2.1 S.2.2.1.2.2.2.2.2.2.2.2.2.2.2.2.1 S.2.2.1.2.2.2.2.2.2.2.2.2.2.2.2.2.1 S.2.2.1.2.2.2.2.2.2.2.2.2.2.2.2.2.2.1 S.2.2.1.2.2.2.2.2.2.2.2.2.2.2.2.2.2.2 S.2.2.2.2.1 S.2.2.2.2.2.1 S.2.2.2.2.2.2.1 S.2.2.2.2.2.2.2.1 S.2.2.2.2.2.2.2.2.1 S.2.2.2.2.2.2.2.2.2.1 S.2.2.2.2.2.2.2.2.2.2).bind fun o => some (o.1, K_set S o.1 o.2)
theorem A_backfill (l : Launch) (G : gT) {x hi h0 h1 h2 : Nat} {p0 : Int32} {S : zS} {w : va_W} {r : Int32 × zS} (hR : Rp G x hi h0 h1 h2 S w) (e : K_backfill p0 S = some r) : gF l G yX5_backfill wsX5_backfill rmX5_backfill [.ref x, .int p0] w (some (.int r.1)) (Rp G x hi h0 h1 h2 r.2) := by
  obtain ⟨hs, an, at', aH, rfl⟩ := hR
  obtain ⟨o, e1, e2⟩ := g_bdS e
  cases e2
  obtain ⟨s, nt, tt, HH, len, tx, gi, pl, re, ki, nu⟩ := S
  obtain ⟨an', at'', aH', hg⟩ := chg_K (nt := nt) (tt := tt) (HH := HH) (u := o.2) hs (qX5_backfill l G x hi _ _ _ _ _ _ _ _ an at' h0 h1 h2 (zg_st hs) e1)
  exact gC.toF hg ⟨K_set_le hs o.1 o.2, an', at'', aH', rfl⟩
def K_crash (S : zS) : Option (Int32 × zS) := (fX5_crash (nI S.1) S.2.1.1 S.2.1.2.1 S.2.1.2.2.1 S.2.1.2.2.2.1 S.2.1.2.2.2.2.1 S.2.1.2.2.2.2.2.1 S.2.1.2.2.2.2.2.2.1 S.2.1.2.2.2.2.2.2.2.1 S.2.1.2.2.2.2.2.2.2.2.1 S.2.1.2.2.2.2.2.2.2.2.2.1 S.2.1.2.2.2.2.2.2.2.2.2.2.1 S.2.1.2.2.2.2.2.2.2.2.2.2.2.1 S.2.1.2.2.2.2.2.2.2.2.2.2.2.2.1 S.2.1.2.2.2.2.2.2.2.2.2.2.2.2.2.1 S.2.1.2.2.2.2.2.2.2.2.2.2.2.2.2.2.1 S.2.1.2.2.2.2.2.2.2.2.2.2.2.2.2.2.2 S.2.2.1.1 S.2.2.1.2.1 S.2.2.1.2.2.1 S.2.2.1.2.2.2.1 S.2.2.1.2.2.2.2.1 S.2.2.1.2.2.2.2.2.1 S.2.2.1.2.2.2.2.2.2.1 S.2.2.1.2.2.2.2.2.2.2.1 S.2.2.1.2.2.2.2.2.2.2.2.1 S.2.2.1.2.2.2.2.2.2.2.2.2.1 S.2.2.1.2.2.2.2.2.2.2.2.2.2.1 S.2.2.1.2.2.2.2.2.2.2.2.2.2.2.1 S.2.2.1.2.2.2.2.2.2.2.2.2.2.2.2.1 S.2.2.1.2.2.2.2.2.2.2.2.2.2.2.2.2.1 S.2.2.1.2.2.2.2.2.2.2.2.2.2.2.2.2.2.1 S.2.2.1.2.2.2.2.2.2.2.2.2.2.2.2.2.2.2 S.2.2.2.2.1 S.2.2.2.2.2.1 S.2.2.2.2.2.2.1 S.2.2.2.2.2.2.2.1 S.2.2.2.2.2.2.2.2.1 S.2.2.2.2.2.2.2.2.2.1 S.2.2.2.2.2.2.2.2.2.2).bind fun o => some (o.1, K_set S o.1 o.2)
theorem A_crash (l : Launch) (G : gT) {x hi h0 h1 h2 : Nat} {S : zS} {w : va_W} {r : Int32 × zS} (hR : Rp G x hi h0 h1 h2 S w) (e : K_crash S = some r) : gF l G yX5_crash wsX5_crash rmX5_crash [.ref x] w (some (.int r.1)) (Rp G x hi h0 h1 h2 r.2) := by
  obtain ⟨hs, an, at', aH, rfl⟩ := hR
  obtain ⟨o, e1, e2⟩ := g_bdS e
  cases e2
  obtain ⟨s, nt, tt, HH, len, tx, gi, pl, re, ki, nu⟩ := S
  obtain ⟨an', at'', aH', hg⟩ := chg_K (nt := nt) (tt := tt) (HH := HH) (u := o.2) hs (qX5_crash l G x hi _ _ _ _ _ _ _ _ an at' h0 h1 h2 (zg_st hs) e1)
  exact gC.toF hg ⟨K_set_le hs o.1 o.2, an', at'', aH', rfl⟩
def K_mend (p0 : Int32) (S : zS) : Option (Int32 × zS) := (fX5_mend p0 (nI S.1) S.2.1.1 S.2.1.2.1 S.2.1.2.2.1 S.2.1.2.2.2.1 S.2.1.2.2.2.2.1 S.2.1.2.2.2.2.2.1 S.2.1.2.2.2.2.2.2.1 S.2.1.2.2.2.2.2.2.2.1 S.2.1.2.2.2.2.2.2.2.2.1 S.2.1.2.2.2.2.2.2.2.2.2.1 S.2.1.2.2.2.2.2.2.2.2.2.2.1 S.2.1.2.2.2.2.2.2.2.2.2.2.2.1 S.2.1.2.2.2.2.2.2.2.2.2.2.2.2.1 S.2.1.2.2.2.2.2.2.2.2.2.2.2.2.2.1 S.2.1.2.2.2.2.2.2.2.2.2.2.2.2.2.2.1 S.2.1.2.2.2.2.2.2.2.2.2.2.2.2.2.2.2 S.2.2.1.1 S.2.2.1.2.1 S.2.2.1.2.2.1 S.2.2.1.2.2.2.1 S.2.2.1.2.2.2.2.1 S.2.2.1.2.2.2.2.2.1 S.2.2.1.2.2.2.2.2.2.1 S.2.2.1.2.2.2.2.2.2.2.1 S.2.2.1.2.2.2.2.2.2.2.2.1 S.2.2.1.2.2.2.2.2.2.2.2.2.1 S.2.2.1.2.2.2.2.2.2.2.2.2.2.1 S.2.2.1.2.2.2.2.2.2.2.2.2.2.2.1 S.2.2.1.2.2.2.2.2.2.2.2.2.2.2.2.1 S.2.2.1.2.2.2.2.2.2.2.2.2.2.2.2.2.1 S.2.2.1.2.2.2.2.2.2.2.2.2.2.2.2.2.2.1 S.2.2.1.2.2.2.2.2.2.2.2.2.2.2.2.2.2.2 S.2.2.2.2.1 S.2.2.2.2.2.1 S.2.2.2.2.2.2.1 S.2.2.2.2.2.2.2.1 S.2.2.2.2.2.2.2.2.1 S.2.2.2.2.2.2.2.2.2.1 S.2.2.2.2.2.2.2.2.2.2).bind fun o => some (o.1, K_set S o.1 o.2)
theorem A_mend (l : Launch) (G : gT) {x hi h0 h1 h2 : Nat} {p0 : Int32} {S : zS} {w : va_W} {r : Int32 × zS} (hR : Rp G x hi h0 h1 h2 S w) (e : K_mend p0 S = some r) : gF l G yX5_mend wsX5_mend rmX5_mend [.ref x, .int p0] w (some (.int r.1)) (Rp G x hi h0 h1 h2 r.2) := by
  obtain ⟨hs, an, at', aH, rfl⟩ := hR
  obtain ⟨o, e1, e2⟩ := g_bdS e
  cases e2
  obtain ⟨s, nt, tt, HH, len, tx, gi, pl, re, ki, nu⟩ := S
  obtain ⟨an', at'', aH', hg⟩ := chg_K (nt := nt) (tt := tt) (HH := HH) (u := o.2) hs (qX5_mend l G x hi _ _ _ _ _ _ _ _ an at' h0 h1 h2 (zg_st hs) e1)
  exact gC.toF hg ⟨K_set_le hs o.1 o.2, an', at'', aH', rfl⟩
def K_walk (p0 p1 : Int32) (S : zS) : Option (Int32 × zS) := (fX5_walk p0 p1 (nI S.1) S.2.1.1 S.2.1.2.1 S.2.1.2.2.1 S.2.1.2.2.2.1 S.2.1.2.2.2.2.1 S.2.1.2.2.2.2.2.1 S.2.1.2.2.2.2.2.2.1 S.2.1.2.2.2.2.2.2.2.1 S.2.1.2.2.2.2.2.2.2.2.1 S.2.1.2.2.2.2.2.2.2.2.2.1 S.2.1.2.2.2.2.2.2.2.2.2.2.1 S.2.1.2.2.2.2.2.2.2.2.2.2.2.1 S.2.1.2.2.2.2.2.2.2.2.2.2.2.2.1 S.2.1.2.2.2.2.2.2.2.2.2.2.2.2.2.1 S.2.1.2.2.2.2.2.2.2.2.2.2.2.2.2.2.1 S.2.1.2.2.2.2.2.2.2.2.2.2.2.2.2.2.2 S.2.2.1.1 S.2.2.1.2.1 S.2.2.1.2.2.1 S.2.2.1.2.2.2.1 S.2.2.1.2.2.2.2.1 S.2.2.1.2.2.2.2.2.1 S.2.2.1.2.2.2.2.2.2.1 S.2.2.1.2.2.2.2.2.2.2.1 S.2.2.1.2.2.2.2.2.2.2.2.1 S.2.2.1.2.2.2.2.2.2.2.2.2.1 S.2.2.1.2.2.2.2.2.2.2.2.2.2.1 S.2.2.1.2.2.2.2.2.2.2.2.2.2.2.1 S.2.2.1.2.2.2.2.2.2.2.2.2.2.2.2.1 S.2.2.1.2.2.2.2.2.2.2.2.2.2.2.2.2.1 S.2.2.1.2.2.2.2.2.2.2.2.2.2.2.2.2.2.1 S.2.2.1.2.2.2.2.2.2.2.2.2.2.2.2.2.2.2 S.2.2.2.2.1 S.2.2.2.2.2.1 S.2.2.2.2.2.2.1 S.2.2.2.2.2.2.2.1 S.2.2.2.2.2.2.2.2.1 S.2.2.2.2.2.2.2.2.2.1 S.2.2.2.2.2.2.2.2.2.2).bind fun o => some (o.1, K_set S o.1 o.2)
theorem A_walk (l : Launch) (G : gT) {x hi h0 h1 h2 : Nat} {p0 p1 : Int32} {S : zS} {w : va_W} {r : Int32 × zS} (hR : Rp G x hi h0 h1 h2 S w) (e : K_walk p0 p1 S = some r) : gF l G yX5_walk wsX5_walk rmX5_walk [.ref x, .int p0, .int p1] w (some (.int r.1)) (Rp G x hi h0 h1 h2 r.2) := by
  obtain ⟨hs, an, at', aH, rfl⟩ := hR
  obtain ⟨o, e1, e2⟩ := g_bdS e
  cases e2
  obtain ⟨s, nt, tt, HH, len, tx, gi, pl, re, ki, nu⟩ := S
  obtain ⟨an', at'', aH', hg⟩ := chg_K (nt := nt) (tt := tt) (HH := HH) (u := o.2) hs (qX5_walk l G x hi _ _ _ _ _ _ _ _ an at' h0 h1 h2 (zg_st hs) e1)
  exact gC.toF hg ⟨K_set_le hs o.1 o.2, an', at'', aH', rfl⟩
def K_step (p0 : Int32) (S : zS) : Option (Int32 × zS) := (fX5_step p0 (nI S.1) S.2.1.1 S.2.1.2.1 S.2.1.2.2.1 S.2.1.2.2.2.1 S.2.1.2.2.2.2.1 S.2.1.2.2.2.2.2.1 S.2.1.2.2.2.2.2.2.1 S.2.1.2.2.2.2.2.2.2.1 S.2.1.2.2.2.2.2.2.2.2.1 S.2.1.2.2.2.2.2.2.2.2.2.1 S.2.1.2.2.2.2.2.2.2.2.2.2.1 S.2.1.2.2.2.2.2.2.2.2.2.2.2.1 S.2.1.2.2.2.2.2.2.2.2.2.2.2.2.1 S.2.1.2.2.2.2.2.2.2.2.2.2.2.2.2.1 S.2.1.2.2.2.2.2.2.2.2.2.2.2.2.2.2.1 S.2.1.2.2.2.2.2.2.2.2.2.2.2.2.2.2.2 S.2.2.1.1 S.2.2.1.2.1 S.2.2.1.2.2.1 S.2.2.1.2.2.2.1 S.2.2.1.2.2.2.2.1 S.2.2.1.2.2.2.2.2.1 S.2.2.1.2.2.2.2.2.2.1 S.2.2.1.2.2.2.2.2.2.2.1 S.2.2.1.2.2.2.2.2.2.2.2.1 S.2.2.1.2.2.2.2.2.2.2.2.2.1 S.2.2.1.2.2.2.2.2.2.2.2.2.2.1 S.2.2.1.2.2.2.2.2.2.2.2.2.2.2.1 S.2.2.1.2.2.2.2.2.2.2.2.2.2.2.2.1 S.2.2.1.2.2.2.2.2.2.2.2.2.2.2.2.2.1 S.2.2.1.2.2.2.2.2.2.2.2.2.2.2.2.2.2.1 S.2.2.1.2.2.2.2.2.2.2.2.2.2.2.2.2.2.2 S.2.2.2.2.1 S.2.2.2.2.2.1 S.2.2.2.2.2.2.1 S.2.2.2.2.2.2.2.1 S.2.2.2.2.2.2.2.2.1 S.2.2.2.2.2.2.2.2.2.1 S.2.2.2.2.2.2.2.2.2.2).bind fun o => some (o.1, K_set S o.1 o.2)
theorem A_step (l : Launch) (G : gT) {x hi h0 h1 h2 : Nat} {p0 : Int32} {S : zS} {w : va_W} {r : Int32 × zS} (hR : Rp G x hi h0 h1 h2 S w) (e : K_step p0 S = some r) : gF l G yX5_step wsX5_step rmX5_step [.ref x, .int p0] w (some (.int r.1)) (Rp G x hi h0 h1 h2 r.2) := by
  obtain ⟨hs, an, at', aH, rfl⟩ := hR
  obtain ⟨o, e1, e2⟩ := g_bdS e
  cases e2
  obtain ⟨s, nt, tt, HH, len, tx, gi, pl, re, ki, nu⟩ := S
  obtain ⟨an', at'', aH', hg⟩ := chg_K (nt := nt) (tt := tt) (HH := HH) (u := o.2) hs (qX5_step l G x hi _ _ _ _ _ _ _ _ an at' h0 h1 h2 (zg_st hs) e1)
  exact gC.toF hg ⟨K_set_le hs o.1 o.2, an', at'', aH', rfl⟩
def K_undo (S : zS) : Int32 × zS := if S.1 = 0 then (-1000002, S) else (nI (S.1 - 1), (S.1 - 1, S.2.2.2.1 (S.1 - 1), S.2.2.1, (fun i => if i = S.1 - 1 then S.2.1 else S.2.2.2.1 i), S.2.2.2.2))
theorem A_undo (l : Launch) (G : gT) {x hi h0 h1 h2 : Nat} {S : zS} {w : va_W} (hR : Rp G x hi h0 h1 h2 S w) (h1' : 0 < S.1) : gF l G yX5_undo wsX5_undo rmX5_undo [.ref x] w (some (.int (K_undo S).1)) (Rp G x hi h0 h1 h2 (K_undo S).2) := by
  obtain ⟨hs, an, at', aH, rfl⟩ := hR
  obtain ⟨s, nt, tt, HH, len, tx, gi, pl, re, ki, nu⟩ := S
  dsimp only at hs h1'
  rcases (show s = 1 ∨ s = 2 ∨ s = 3 ∨ s = 4 by omega) with rfl | rfl | rfl | rfl
  · have hg := gC.frameN (qX5_undo_k1 l G x hi (aH 0 0) (aH 1 0) (aH 2 0) (aH 3 0) (an 0) (at' 0) h0 (tV (aH 0) (HH 0)) (tV (aH 1) (HH 1)) (tV (aH 2) (HH 2)) (tV (aH 3) (HH 3)) (tV an nt) (tV at' tt)) (face_un0 G x hi h0 h1 h2 (an, nt) (at', tt) (aH 0, HH 0) (aH 1, HH 1) (aH 2, HH 2) (aH 3, HH 3) len tx gi pl re ki nu 1) (face_un1 G x hi h0 h1 h2 (an, nt) (at', tt) (aH 0, HH 0) (aH 1, HH 1) (aH 2, HH 2) (aH 3, HH 3) len tx gi pl re ki nu 0)
    have ek : nI 1 = (1 : Int32) := by decide
    have ej : nI 0 = (0 : Int32) := by decide
    have ez : K_undo (1, nt, tt, HH, len, tx, gi, pl, re, ki, nu) = (nI 0, (0, HH 0, tt, (fun i => if i = 0 then nt else HH i), len, tx, gi, pl, re, ki, nu)) := rfl
    rw [ez]
    refine gC.toF (w1 := faceZ G x hi h0 h1 h2 (0, HH 0, tt, (fun i => if i = 0 then nt else HH i), len, tx, gi, pl, re, ki, nu) (aH 0) at' (fun i => if i = 0 then an else aH i)) ?_ ⟨by dsimp only; omega, _, _, _, rfl⟩
    show gC l G yX5_undo wsX5_undo rmX5_undo [.ref x] (faceW G x hi h0 h1 h2 (nI 1) _ _ _ _ _ _ len tx gi pl re ki nu) (some (.int (nI 0))) (faceW G x hi h0 h1 h2 (nI 0) _ _ _ _ _ _ len tx gi pl re ki nu)
    rw [ek, ej]
    exact hg
  · have hg := gC.frameN (qX5_undo_k2 l G x hi (aH 0 0) (aH 1 0) (aH 2 0) (aH 3 0) (an 0) (at' 0) h0 (tV (aH 0) (HH 0)) (tV (aH 1) (HH 1)) (tV (aH 2) (HH 2)) (tV (aH 3) (HH 3)) (tV an nt) (tV at' tt)) (face_un0 G x hi h0 h1 h2 (an, nt) (at', tt) (aH 0, HH 0) (aH 1, HH 1) (aH 2, HH 2) (aH 3, HH 3) len tx gi pl re ki nu 2) (face_un2 G x hi h0 h1 h2 (an, nt) (at', tt) (aH 0, HH 0) (aH 1, HH 1) (aH 2, HH 2) (aH 3, HH 3) len tx gi pl re ki nu 1)
    have ek : nI 2 = (2 : Int32) := by decide
    have ej : nI 1 = (1 : Int32) := by decide
    have ez : K_undo (2, nt, tt, HH, len, tx, gi, pl, re, ki, nu) = (nI 1, (1, HH 1, tt, (fun i => if i = 1 then nt else HH i), len, tx, gi, pl, re, ki, nu)) := rfl
    rw [ez]
    refine gC.toF (w1 := faceZ G x hi h0 h1 h2 (1, HH 1, tt, (fun i => if i = 1 then nt else HH i), len, tx, gi, pl, re, ki, nu) (aH 1) at' (fun i => if i = 1 then an else aH i)) ?_ ⟨by dsimp only; omega, _, _, _, rfl⟩
    show gC l G yX5_undo wsX5_undo rmX5_undo [.ref x] (faceW G x hi h0 h1 h2 (nI 2) _ _ _ _ _ _ len tx gi pl re ki nu) (some (.int (nI 1))) (faceW G x hi h0 h1 h2 (nI 1) _ _ _ _ _ _ len tx gi pl re ki nu)
    rw [ek, ej]
    exact hg
  · have hg := gC.frameN (qX5_undo_k3 l G x hi (aH 0 0) (aH 1 0) (aH 2 0) (aH 3 0) (an 0) (at' 0) h0 (tV (aH 0) (HH 0)) (tV (aH 1) (HH 1)) (tV (aH 2) (HH 2)) (tV (aH 3) (HH 3)) (tV an nt) (tV at' tt)) (face_un0 G x hi h0 h1 h2 (an, nt) (at', tt) (aH 0, HH 0) (aH 1, HH 1) (aH 2, HH 2) (aH 3, HH 3) len tx gi pl re ki nu 3) (face_un3 G x hi h0 h1 h2 (an, nt) (at', tt) (aH 0, HH 0) (aH 1, HH 1) (aH 2, HH 2) (aH 3, HH 3) len tx gi pl re ki nu 2)
    have ek : nI 3 = (3 : Int32) := by decide
    have ej : nI 2 = (2 : Int32) := by decide
    have ez : K_undo (3, nt, tt, HH, len, tx, gi, pl, re, ki, nu) = (nI 2, (2, HH 2, tt, (fun i => if i = 2 then nt else HH i), len, tx, gi, pl, re, ki, nu)) := rfl
    rw [ez]
    refine gC.toF (w1 := faceZ G x hi h0 h1 h2 (2, HH 2, tt, (fun i => if i = 2 then nt else HH i), len, tx, gi, pl, re, ki, nu) (aH 2) at' (fun i => if i = 2 then an else aH i)) ?_ ⟨by dsimp only; omega, _, _, _, rfl⟩
    show gC l G yX5_undo wsX5_undo rmX5_undo [.ref x] (faceW G x hi h0 h1 h2 (nI 3) _ _ _ _ _ _ len tx gi pl re ki nu) (some (.int (nI 2))) (faceW G x hi h0 h1 h2 (nI 2) _ _ _ _ _ _ len tx gi pl re ki nu)
    rw [ek, ej]
    exact hg
  · have hg := gC.frameN (qX5_undo_k4 l G x hi (aH 0 0) (aH 1 0) (aH 2 0) (aH 3 0) (an 0) (at' 0) h0 (tV (aH 0) (HH 0)) (tV (aH 1) (HH 1)) (tV (aH 2) (HH 2)) (tV (aH 3) (HH 3)) (tV an nt) (tV at' tt)) (face_un0 G x hi h0 h1 h2 (an, nt) (at', tt) (aH 0, HH 0) (aH 1, HH 1) (aH 2, HH 2) (aH 3, HH 3) len tx gi pl re ki nu 4) (face_un4 G x hi h0 h1 h2 (an, nt) (at', tt) (aH 0, HH 0) (aH 1, HH 1) (aH 2, HH 2) (aH 3, HH 3) len tx gi pl re ki nu 3)
    have ek : nI 4 = (4 : Int32) := by decide
    have ej : nI 3 = (3 : Int32) := by decide
    have ez : K_undo (4, nt, tt, HH, len, tx, gi, pl, re, ki, nu) = (nI 3, (3, HH 3, tt, (fun i => if i = 3 then nt else HH i), len, tx, gi, pl, re, ki, nu)) := rfl
    rw [ez]
    refine gC.toF (w1 := faceZ G x hi h0 h1 h2 (3, HH 3, tt, (fun i => if i = 3 then nt else HH i), len, tx, gi, pl, re, ki, nu) (aH 3) at' (fun i => if i = 3 then an else aH i)) ?_ ⟨by dsimp only; omega, _, _, _, rfl⟩
    show gC l G yX5_undo wsX5_undo rmX5_undo [.ref x] (faceW G x hi h0 h1 h2 (nI 4) _ _ _ _ _ _ len tx gi pl re ki nu) (some (.int (nI 3))) (faceW G x hi h0 h1 h2 (nI 3) _ _ _ _ _ _ len tx gi pl re ki nu)
    rw [ek, ej]
    exact hg
