/-! a change, framed by roles -/
theorem chg_frame {l : Launch} {G : gT} {y : MethodName} {ws : List Cond} {rm : Room} {av : List Value} {x hi h0 h1 h2 s : Nat} (hs : s ≤ 4) {n tr : (Nat → Nat) × zT} {H : Nat → (Nat → Nat) × zT} {u : zT} {ans : Int32} {len : Int32} {tx : Nat → Int32} {gi pl re ki : Int32} {nu : Nat → Int32} {len' : Int32} {tx' : Nat → Int32} {gi' pl' re' ki' : Int32} {nu' : Nat → Int32} (h : gC l G y ws rm av (ts2W G x hi ((H 0).1 0) ((H 1).1 0) ((H 2).1 0) ((H 3).1 0) (nI s) (n.1 0) (tr.1 0) h0 (g4 ((H 0).1 0) ((H 1).1 0) ((H 2).1 0) ((H 3).1 0)) (tV (H 0).1 (H 0).2) (tV (H 1).1 (H 1).2) (tV (H 2).1 (H 2).2) (tV (H 3).1 (H 3).2) ++ (tT G n.1 n.2 ++ (tT G tr.1 tr.2 ++ ordW G h0 h1 h2 len tx gi pl re ki nu))) (some (.int ans)) (ts2W G x hi ((H 0).1 0) ((H 1).1 0) ((H 2).1 0) ((H 3).1 0) (sSt ans (nI s)) (sNow ans (n.1 0) (tr.1 0)) (sTr ans (nI s) ((H 0).1 0) ((H 1).1 0) ((H 2).1 0) ((H 3).1 0) (tr.1 0)) h0 (sH ans (nI s) ((H 0).1 0) ((H 1).1 0) ((H 2).1 0) ((H 3).1 0) (n.1 0)) (tV (H 0).1 (H 0).2) (tV (H 1).1 (H 1).2) (tV (H 2).1 (H 2).2) (tV (H 3).1 (H 3).2) ++ (tT G n.1 n.2 ++ (tT G tr.1 u ++ ordW G h0 h1 h2 len' tx' gi' pl' re' ki' nu')))) : ∃ (n' tr' : (Nat → Nat) × zT) (H' : Nat → (Nat → Nat) × zT) (s' : Nat), gC l G y ws rm av (faceW G x hi h0 h1 h2 (nI s) n tr (H 0) (H 1) (H 2) (H 3) len tx gi pl re ki nu) (some (.int ans)) (faceW G x hi h0 h1 h2 (nI s') n' tr' (H' 0) (H' 1) (H' 2) (H' 3) len' tx' gi' pl' re' ki' nu') ∧ (ans < 0 → n' = n ∧ s' = s ∧ ∀ i, H' i = H i) ∧ (¬ ans < 0 → n'.2 = u ∧ (s' = if s < 4 then s + 1 else 4) ∧ ∀ i, i < s' → (H' i).2 = zH s (fun j => (H j).2) n.2 i) := by
  have hin := face_in G x hi h0 h1 h2 (nI s) n tr (H 0) (H 1) (H 2) (H 3) len tx gi pl re ki nu
  by_cases ha : ans < 0
  · have e : sSt ans (nI s) = nI s := if_pos ha
    have ho := face_outE G x hi h0 h1 h2 n tr (H 0) (H 1) (H 2) (H 3) u len' tx' gi' pl' re' ki' nu' ans (st := nI s) ha
    rw [e] at ho
    exact ⟨n, (tr.1, u), H, s, gC.frame h rfl hin ho, fun _ => ⟨rfl, rfl, fun _ => rfl⟩, fun h' => absurd ha h'⟩
  · rcases (show s = 0 ∨ s = 1 ∨ s = 2 ∨ s = 3 ∨ s = 4 by omega) with rfl | rfl | rfl | rfl | rfl
    · have e : sSt ans (0 : Int32) = nI 1 := by unfold sSt; rw [if_neg ha]; decide
      have ho := face_out0 G x hi h0 h1 h2 n tr (H 0) (H 1) (H 2) (H 3) u len' tx' gi' pl' re' ki' nu' ans ha
      rw [e] at ho
      have ek : nI 0 = (0 : Int32) := by decide
      rw [ek] at h hin ⊢
      refine ⟨(tr.1, u), H 0, fun i => if i = 0 then n else H i, 1, gC.frame h rfl hin ho, fun h' => absurd h' ha, fun _ => ⟨rfl, rfl, fun i hi => ?_⟩⟩
      unfold zH
      rw [if_pos (by omega)]
      dsimp only
      by_cases hik : i = 0
      · rw [if_pos hik, if_pos hik]
      · rw [if_neg hik, if_neg hik]
    · have e : sSt ans (1 : Int32) = nI 2 := by unfold sSt; rw [if_neg ha]; decide
      have ho := face_out1 G x hi h0 h1 h2 n tr (H 0) (H 1) (H 2) (H 3) u len' tx' gi' pl' re' ki' nu' ans ha
      rw [e] at ho
      have ek : nI 1 = (1 : Int32) := by decide
      rw [ek] at h hin ⊢
      refine ⟨(tr.1, u), H 1, fun i => if i = 1 then n else H i, 2, gC.frame h rfl hin ho, fun h' => absurd h' ha, fun _ => ⟨rfl, rfl, fun i hi => ?_⟩⟩
      unfold zH
      rw [if_pos (by omega)]
      dsimp only
      by_cases hik : i = 1
      · rw [if_pos hik, if_pos hik]
      · rw [if_neg hik, if_neg hik]
    · have e : sSt ans (2 : Int32) = nI 3 := by unfold sSt; rw [if_neg ha]; decide
      have ho := face_out2 G x hi h0 h1 h2 n tr (H 0) (H 1) (H 2) (H 3) u len' tx' gi' pl' re' ki' nu' ans ha
      rw [e] at ho
      have ek : nI 2 = (2 : Int32) := by decide
      rw [ek] at h hin ⊢
      refine ⟨(tr.1, u), H 2, fun i => if i = 2 then n else H i, 3, gC.frame h rfl hin ho, fun h' => absurd h' ha, fun _ => ⟨rfl, rfl, fun i hi => ?_⟩⟩
      unfold zH
      rw [if_pos (by omega)]
      dsimp only
      by_cases hik : i = 2
      · rw [if_pos hik, if_pos hik]
      · rw [if_neg hik, if_neg hik]
    · have e : sSt ans (3 : Int32) = nI 4 := by unfold sSt; rw [if_neg ha]; decide
      have ho := face_out3 G x hi h0 h1 h2 n tr (H 0) (H 1) (H 2) (H 3) u len' tx' gi' pl' re' ki' nu' ans ha
      rw [e] at ho
      have ek : nI 3 = (3 : Int32) := by decide
      rw [ek] at h hin ⊢
      refine ⟨(tr.1, u), H 3, fun i => if i = 3 then n else H i, 4, gC.frame h rfl hin ho, fun h' => absurd h' ha, fun _ => ⟨rfl, rfl, fun i hi => ?_⟩⟩
      unfold zH
      rw [if_pos (by omega)]
      dsimp only
      by_cases hik : i = 3
      · rw [if_pos hik, if_pos hik]
      · rw [if_neg hik, if_neg hik]
    · have e : sSt ans (4 : Int32) = nI 4 := by unfold sSt; rw [if_neg ha]; decide
      have ho := face_out4 G x hi h0 h1 h2 n tr (H 0) (H 1) (H 2) (H 3) u len' tx' gi' pl' re' ki' nu' ans ha
      rw [e] at ho
      have ek : nI 4 = (4 : Int32) := by decide
      rw [ek] at h hin ⊢
      refine ⟨(tr.1, u), H 0, fun i => if i = 3 then n else H (i + 1), 4, gC.frame h rfl hin ho, fun h' => absurd h' ha, fun _ => ⟨rfl, rfl, fun i hi => ?_⟩⟩
      unfold zH
      rw [if_neg (by omega)]
      dsimp only
      by_cases hik : i = 3
      · rw [if_pos hik, if_pos hik]
      · rw [if_neg hik, if_neg hik]
