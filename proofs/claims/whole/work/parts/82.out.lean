/-! the world after a change, by roles -/
section FO
variable (G : gT) (x hi h0 h1 h2 : Nat) (n tr q0 q1 q2 q3 : (Nat → Nat) × zT) (u : zT) (len : Int32) (tx : Nat → Int32) (gi pl re ki : Int32) (nu : Nat → Int32) (ans : Int32)
/-- what a change's contract leaves -/
def outW (st : Int32) : va_W := (ts2W G x hi (q0.1 0) (q1.1 0) (q2.1 0) (q3.1 0) (sSt ans st) (sNow ans (n.1 0) (tr.1 0)) (sTr ans st (q0.1 0) (q1.1 0) (q2.1 0) (q3.1 0) (tr.1 0)) h0 (sH ans st (q0.1 0) (q1.1 0) (q2.1 0) (q3.1 0) (n.1 0)) (tV q0.1 q0.2) (tV q1.1 q1.2) (tV q2.1 q2.2) (tV q3.1 q3.2) ++ (tT G n.1 n.2 ++ (tT G tr.1 u ++ ordW G h0 h1 h2 len tx gi pl re ki nu))) ++ restW G q0 q1 q2 q3
theorem face_outE {st : Int32} (hs : ans < 0) : (faceW G x hi h0 h1 h2 (sSt ans st) n (tr.1, u) q0 q1 q2 q3 len tx gi pl re ki nu).Perm (outW G x hi h0 h1 h2 n tr q0 q1 q2 q3 u len tx gi pl re ki nu ans st) := by
  have e1 : sNow ans (n.1 0) (tr.1 0) = n.1 0 := if_pos hs
  have e2 : sTr ans st (q0.1 0) (q1.1 0) (q2.1 0) (q3.1 0) (tr.1 0) = tr.1 0 := by unfold sTr; rw [if_pos hs]
  have e3 : sH ans st (q0.1 0) (q1.1 0) (q2.1 0) (q3.1 0) (n.1 0) = g4 (q0.1 0) (q1.1 0) (q2.1 0) (q3.1 0) := by unfold sH; rw [if_pos hs]
  unfold outW
  rw [e1, e2, e3]
  exact pFE (([(x, .inr (4, [.ref hi, .int (sSt ans st), .ref (n.1 0), .ref (tr.1 0), .ref h0]))] : va_W)) (([(hi, .inl (G.2.2.2, 4, .inr (.inr (.inr (.inr (g4 (q0.1 0) (q1.1 0) (q2.1 0) (q3.1 0)))))))] : va_W)) (tT G n.1 n.2) (tT G tr.1 u) (ordW G h0 h1 h2 len tx gi pl re ki nu) ([(q0.1 0, .inr (3, tV q0.1 q0.2))] : va_W) (tR G q0.1 q0.2) ([(q1.1 0, .inr (3, tV q1.1 q1.2))] : va_W) (tR G q1.1 q1.2) ([(q2.1 0, .inr (3, tV q2.1 q2.2))] : va_W) (tR G q2.1 q2.2) ([(q3.1 0, .inr (3, tV q3.1 q3.2))] : va_W) (tR G q3.1 q3.2)
theorem face_out0 (hs : ¬ ans < 0) : (faceW G x hi h0 h1 h2 (sSt ans (0 : Int32)) (tr.1, u) q0 n q1 q2 q3 len tx gi pl re ki nu).Perm (outW G x hi h0 h1 h2 n tr q0 q1 q2 q3 u len tx gi pl re ki nu ans (0 : Int32)) := by
  have e1 : sNow ans (n.1 0) (tr.1 0) = tr.1 0 := if_neg hs
  have e2 : sTr ans (0 : Int32) (q0.1 0) (q1.1 0) (q2.1 0) (q3.1 0) (tr.1 0) = q0.1 0 := by unfold sTr; rw [if_neg hs, if_pos rfl]
  have e3 : sH ans (0 : Int32) (q0.1 0) (q1.1 0) (q2.1 0) (q3.1 0) (n.1 0) = g4 (n.1 0) (q1.1 0) (q2.1 0) (q3.1 0) := by unfold sH; rw [if_neg hs, if_pos rfl]
  unfold outW
  rw [e1, e2, e3]
  exact pF0 (([(x, .inr (4, [.ref hi, .int (sSt ans (0 : Int32)), .ref (tr.1 0), .ref (q0.1 0), .ref h0]))] : va_W)) (([(hi, .inl (G.2.2.2, 4, .inr (.inr (.inr (.inr (g4 (n.1 0) (q1.1 0) (q2.1 0) (q3.1 0)))))))] : va_W)) (tT G n.1 n.2) (tT G tr.1 u) (ordW G h0 h1 h2 len tx gi pl re ki nu) ([(q0.1 0, .inr (3, tV q0.1 q0.2))] : va_W) (tR G q0.1 q0.2) ([(q1.1 0, .inr (3, tV q1.1 q1.2))] : va_W) (tR G q1.1 q1.2) ([(q2.1 0, .inr (3, tV q2.1 q2.2))] : va_W) (tR G q2.1 q2.2) ([(q3.1 0, .inr (3, tV q3.1 q3.2))] : va_W) (tR G q3.1 q3.2)
theorem face_out1 (hs : ¬ ans < 0) : (faceW G x hi h0 h1 h2 (sSt ans (1 : Int32)) (tr.1, u) q1 q0 n q2 q3 len tx gi pl re ki nu).Perm (outW G x hi h0 h1 h2 n tr q0 q1 q2 q3 u len tx gi pl re ki nu ans (1 : Int32)) := by
  have e1 : sNow ans (n.1 0) (tr.1 0) = tr.1 0 := if_neg hs
  have e2 : sTr ans (1 : Int32) (q0.1 0) (q1.1 0) (q2.1 0) (q3.1 0) (tr.1 0) = q1.1 0 := by unfold sTr; rw [if_neg hs, if_neg (by decide), if_pos rfl]
  have e3 : sH ans (1 : Int32) (q0.1 0) (q1.1 0) (q2.1 0) (q3.1 0) (n.1 0) = g4 (q0.1 0) (n.1 0) (q2.1 0) (q3.1 0) := by unfold sH; rw [if_neg hs, if_neg (by decide), if_pos rfl]
  unfold outW
  rw [e1, e2, e3]
  exact pF1 (([(x, .inr (4, [.ref hi, .int (sSt ans (1 : Int32)), .ref (tr.1 0), .ref (q1.1 0), .ref h0]))] : va_W)) (([(hi, .inl (G.2.2.2, 4, .inr (.inr (.inr (.inr (g4 (q0.1 0) (n.1 0) (q2.1 0) (q3.1 0)))))))] : va_W)) (tT G n.1 n.2) (tT G tr.1 u) (ordW G h0 h1 h2 len tx gi pl re ki nu) ([(q0.1 0, .inr (3, tV q0.1 q0.2))] : va_W) (tR G q0.1 q0.2) ([(q1.1 0, .inr (3, tV q1.1 q1.2))] : va_W) (tR G q1.1 q1.2) ([(q2.1 0, .inr (3, tV q2.1 q2.2))] : va_W) (tR G q2.1 q2.2) ([(q3.1 0, .inr (3, tV q3.1 q3.2))] : va_W) (tR G q3.1 q3.2)
theorem face_out2 (hs : ¬ ans < 0) : (faceW G x hi h0 h1 h2 (sSt ans (2 : Int32)) (tr.1, u) q2 q0 q1 n q3 len tx gi pl re ki nu).Perm (outW G x hi h0 h1 h2 n tr q0 q1 q2 q3 u len tx gi pl re ki nu ans (2 : Int32)) := by
  have e1 : sNow ans (n.1 0) (tr.1 0) = tr.1 0 := if_neg hs
  have e2 : sTr ans (2 : Int32) (q0.1 0) (q1.1 0) (q2.1 0) (q3.1 0) (tr.1 0) = q2.1 0 := by unfold sTr; rw [if_neg hs, if_neg (by decide), if_neg (by decide), if_pos rfl]
  have e3 : sH ans (2 : Int32) (q0.1 0) (q1.1 0) (q2.1 0) (q3.1 0) (n.1 0) = g4 (q0.1 0) (q1.1 0) (n.1 0) (q3.1 0) := by unfold sH; rw [if_neg hs, if_neg (by decide), if_neg (by decide), if_pos rfl]
  unfold outW
  rw [e1, e2, e3]
  exact pF2 (([(x, .inr (4, [.ref hi, .int (sSt ans (2 : Int32)), .ref (tr.1 0), .ref (q2.1 0), .ref h0]))] : va_W)) (([(hi, .inl (G.2.2.2, 4, .inr (.inr (.inr (.inr (g4 (q0.1 0) (q1.1 0) (n.1 0) (q3.1 0)))))))] : va_W)) (tT G n.1 n.2) (tT G tr.1 u) (ordW G h0 h1 h2 len tx gi pl re ki nu) ([(q0.1 0, .inr (3, tV q0.1 q0.2))] : va_W) (tR G q0.1 q0.2) ([(q1.1 0, .inr (3, tV q1.1 q1.2))] : va_W) (tR G q1.1 q1.2) ([(q2.1 0, .inr (3, tV q2.1 q2.2))] : va_W) (tR G q2.1 q2.2) ([(q3.1 0, .inr (3, tV q3.1 q3.2))] : va_W) (tR G q3.1 q3.2)
theorem face_out3 (hs : ¬ ans < 0) : (faceW G x hi h0 h1 h2 (sSt ans (3 : Int32)) (tr.1, u) q3 q0 q1 q2 n len tx gi pl re ki nu).Perm (outW G x hi h0 h1 h2 n tr q0 q1 q2 q3 u len tx gi pl re ki nu ans (3 : Int32)) := by
  have e1 : sNow ans (n.1 0) (tr.1 0) = tr.1 0 := if_neg hs
  have e2 : sTr ans (3 : Int32) (q0.1 0) (q1.1 0) (q2.1 0) (q3.1 0) (tr.1 0) = q3.1 0 := by unfold sTr; rw [if_neg hs, if_neg (by decide), if_neg (by decide), if_neg (by decide), if_pos rfl]
  have e3 : sH ans (3 : Int32) (q0.1 0) (q1.1 0) (q2.1 0) (q3.1 0) (n.1 0) = g4 (q0.1 0) (q1.1 0) (q2.1 0) (n.1 0) := by unfold sH; rw [if_neg hs, if_neg (by decide), if_neg (by decide), if_neg (by decide), if_pos rfl]
  unfold outW
  rw [e1, e2, e3]
  exact pF3 (([(x, .inr (4, [.ref hi, .int (sSt ans (3 : Int32)), .ref (tr.1 0), .ref (q3.1 0), .ref h0]))] : va_W)) (([(hi, .inl (G.2.2.2, 4, .inr (.inr (.inr (.inr (g4 (q0.1 0) (q1.1 0) (q2.1 0) (n.1 0)))))))] : va_W)) (tT G n.1 n.2) (tT G tr.1 u) (ordW G h0 h1 h2 len tx gi pl re ki nu) ([(q0.1 0, .inr (3, tV q0.1 q0.2))] : va_W) (tR G q0.1 q0.2) ([(q1.1 0, .inr (3, tV q1.1 q1.2))] : va_W) (tR G q1.1 q1.2) ([(q2.1 0, .inr (3, tV q2.1 q2.2))] : va_W) (tR G q2.1 q2.2) ([(q3.1 0, .inr (3, tV q3.1 q3.2))] : va_W) (tR G q3.1 q3.2)
theorem face_out4 (hs : ¬ ans < 0) : (faceW G x hi h0 h1 h2 (sSt ans (4 : Int32)) (tr.1, u) q0 q1 q2 q3 n len tx gi pl re ki nu).Perm (outW G x hi h0 h1 h2 n tr q0 q1 q2 q3 u len tx gi pl re ki nu ans (4 : Int32)) := by
  have e1 : sNow ans (n.1 0) (tr.1 0) = tr.1 0 := if_neg hs
  have e2 : sTr ans (4 : Int32) (q0.1 0) (q1.1 0) (q2.1 0) (q3.1 0) (tr.1 0) = q0.1 0 := by unfold sTr; rw [if_neg hs, if_neg (by decide), if_neg (by decide), if_neg (by decide), if_neg (by decide)]
  have e3 : sH ans (4 : Int32) (q0.1 0) (q1.1 0) (q2.1 0) (q3.1 0) (n.1 0) = g4 (q1.1 0) (q2.1 0) (q3.1 0) (n.1 0) := by unfold sH; rw [if_neg hs, if_neg (by decide), if_neg (by decide), if_neg (by decide), if_neg (by decide)]
  unfold outW
  rw [e1, e2, e3]
  exact pF4 (([(x, .inr (4, [.ref hi, .int (sSt ans (4 : Int32)), .ref (tr.1 0), .ref (q0.1 0), .ref h0]))] : va_W)) (([(hi, .inl (G.2.2.2, 4, .inr (.inr (.inr (.inr (g4 (q1.1 0) (q2.1 0) (q3.1 0) (n.1 0)))))))] : va_W)) (tT G n.1 n.2) (tT G tr.1 u) (ordW G h0 h1 h2 len tx gi pl re ki nu) ([(q0.1 0, .inr (3, tV q0.1 q0.2))] : va_W) (tR G q0.1 q0.2) ([(q1.1 0, .inr (3, tV q1.1 q1.2))] : va_W) (tR G q1.1 q1.2) ([(q2.1 0, .inr (3, tV q2.1 q2.2))] : va_W) (tR G q2.1 q2.2) ([(q3.1 0, .inr (3, tV q3.1 q3.2))] : va_W) (tR G q3.1 q3.2)
end FO
