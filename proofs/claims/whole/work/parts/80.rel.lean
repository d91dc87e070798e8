/-! between calls: the states recorded -/
abbrev zT : Type := Int32 × Int32 × Int32 × Int32 × (Nat → Int32) × (Nat → Int32) × (Nat → Int32) × (Nat → Int32) × Int32 × (Nat → Int32) × (Nat → Int32) × (Nat → Int32) × (Nat → Int32) × Int32 × (Nat → Int32) × (Nat → Int32)
def RIt (ss : Nat → Int32) (t : zT) : Prop := RI ss t.1 t.2.1 t.2.2.1 t.2.2.2.1 t.2.2.2.2.1 t.2.2.2.2.2.1 t.2.2.2.2.2.2.1 t.2.2.2.2.2.2.2.1 t.2.2.2.2.2.2.2.2.1 t.2.2.2.2.2.2.2.2.2.1 t.2.2.2.2.2.2.2.2.2.2.1 t.2.2.2.2.2.2.2.2.2.2.2.1 t.2.2.2.2.2.2.2.2.2.2.2.2.1 t.2.2.2.2.2.2.2.2.2.2.2.2.2.1 t.2.2.2.2.2.2.2.2.2.2.2.2.2.2.1 t.2.2.2.2.2.2.2.2.2.2.2.2.2.2.2
theorem RIt_congr {ss ss' : Nat → Int32} {t : zT} (R : RIt ss t) (hs : ∀ i, i < 411 → ss' i = ss i) : RIt ss' t := RI_congr R hs
def HistOK (was : Nat → Int32) (s : Nat) (H : Nat → zT) : Prop := ∀ i, i < s → RIt (fun j => was (411 * i + j)) (H i)
/-- the history after a change that answered -/
def zH (s : Nat) (H : Nat → zT) (now : zT) : Nat → zT := if s < 4 then fun i => if i = s then now else H i else fun i => if i = 3 then now else H (i + 1)
theorem hist_acted {ss was was' : Nat → Int32} {s s' : Nat} {H : Nat → zT} {now : zT} (h : HistOK was s H) (R : RIt ss now) (A : Acted ss was s was' s') : HistOK was' s' (zH s H now) := by
  intro i hi
  unfold zH
  rcases A with ⟨h4, hs', g1, g2⟩ | ⟨h4, hs', g1, g2⟩
  · rw [if_pos h4]
    by_cases his : i = s
    · subst his
      rw [if_pos rfl]
      exact RIt_congr R (fun j hj => g1 j hj)
    · rw [if_neg his]
      exact RIt_congr (h i (by omega)) (fun j hj => g2 _ (by omega))
  · rw [if_neg (by omega)]
    by_cases hi3 : i = 3
    · subst hi3
      rw [if_pos rfl]
      exact RIt_congr R (fun j hj => g1 j hj)
    · rw [if_neg hi3]
      exact RIt_congr (h (i + 1) (by omega)) (fun j hj => by
        rw [g2 _ (by omega), show 411 * i + j + 411 = 411 * (i + 1) + j by omega])
theorem hist_less {was : Nat → Int32} {s : Nat} {H H' : Nat → zT} (h : HistOK was s H) (hH : ∀ i, i < s - 1 → H' i = H i) : HistOK was (s - 1) H' := fun i hi => by
  rw [hH i hi]
  exact h i (by omega)
/-- the table that undo takes back -/
theorem hist_back {was ss' : Nat → Int32} {s : Nat} {H : Nat → zT} (h0 : s ≠ 0) (h : HistOK was s H) (hs : ∀ i, i < 411 → ss' i = was (411 * (s - 1) + i)) : RIt ss' (H (s - 1)) := RIt_congr (h (s - 1) (by omega)) hs
/-- the whole relation between calls -/
def Rel (ss was : Nat → Int32) (sta : Int32) (txt : Nat → Int32) (typ : Int32) (s : Nat) (now : zT) (H : Nat → zT) (len : Int32) (tx : Nat → Int32) : Prop := s ≤ 4 ∧ sta = nI s ∧ RIt ss now ∧ HistOK was s H ∧ ∃ L, L ≤ 60 ∧ len = nI L ∧ typ = nI L ∧ ∀ i, i < L → tx i = txt i
theorem zg_st {s : Nat} (h : s ≤ 4) : g_st (nI s) := by
  rcases (show s = 0 ∨ s = 1 ∨ s = 2 ∨ s = 3 ∨ s = 4 by omega) with rfl | rfl | rfl | rfl | rfl
  · exact Or.inl (by decide)
  · exact Or.inr (Or.inl (by decide))
  · exact Or.inr (Or.inr (Or.inl (by decide)))
  · exact Or.inr (Or.inr (Or.inr (Or.inl (by decide))))
  · exact Or.inr (Or.inr (Or.inr (Or.inr (by decide))))
/-- the start: everything zero, no row in either shape -/
theorem Rel_start {z0v z0r z1v z1r : Nat → Int32} (h0 : ∀ k, k < 31 → z0v k = nI 0 ∧ z0r k = zN) (h1 : ∀ k, k < 31 → z1v k = nI 0 ∧ z1r k = zN) (H : Nat → zT) : Rel (fun _ => 0) (fun _ => 0) 0 (fun _ => 0) 0 0 (0, 0, 0, 0, z0v, z0r, z1v, z1r, 0, (fun _ => 0), (fun _ => 0), (fun _ => 0), (fun _ => 0), 0, (fun _ => 0), (fun _ => 0)) H 0 (fun _ => 0) := by
  have e0 : (0 : Int32) = nI 0 := gl_0
  refine ⟨by omega, e0, ⟨0, 0, 0, 0, e0, e0, e0, e0, ⟨by omega, by omega, by omega, by omega, fun h => absurd rfl h⟩, ⟨e0, e0, fun _ => e0, e0, rfl⟩, RTs_cleared (fun _ _ _ => e0) h0, RTs_cleared (fun _ _ _ => e0) h1, fun i hi => absurd hi (by omega), fun _ _ => rfl, ⟨0, by omega, e0, fun i hi => ⟨?_, ?_, Or.inl e0, Or.inr ⟨0, by omega, e0⟩⟩⟩, fun _ => h1, fun h => absurd h (by omega)⟩, fun i hi => absurd hi (by omega), 0, by omega, e0, e0, fun i hi => absurd hi (by omega)⟩
  · rw [Nat.zero_testBit, e0]; rfl
  · intro h; rw [Nat.zero_testBit] at h; exact absurd h (by decide)
