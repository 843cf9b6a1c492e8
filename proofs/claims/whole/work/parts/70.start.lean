/-! the start -/
def T0 : TW := fun k => match k with
  | 0 => fun _ => 0
  | 1 => upd (upd (upd (upd (fun _ => 0) 0 (nI (2 ^ 0))) 9 (nI (2 ^ 1))) 79 (nI (2 ^ 2))) 70 (nI (2 ^ 3))
  | 2 => upd (upd (upd (upd (fun _ => -1) 0 (nI 0)) 9 (nI 1)) 79 (nI 2)) 70 (nI 3)
  | 3 => fun _ => -1
  | 4 => fun _ => -1
  | 5 => fun _ => nI 20
  | 6 => depF
  | 7 => fun _ => -1
  | 10 => fseF
  | _ => fun _ => 0
theorem Inv.start : Inv T0 := by
  have h1 := (show ∀ s, s < 80 → T0 0 s = 0 ∨ T0 0 s = 1 from by decide +kernel)
  have h2 := (show ∀ s, s < 80 → tn (T0 1 s) < 16 ∧ T0 1 s = nI (tn (T0 1 s)) from by decide +kernel)
  have h3 := (show ∀ s, s < 80 → T0 2 s = -1 ∨ (tn (T0 2 s) < 4 ∧ T0 2 s = nI (tn (T0 2 s))) from by decide +kernel)
  have h6 := (show ∀ p, p < 4 → tn (T0 6 p) < 80 ∧ T0 6 p = nI (tn (T0 6 p)) from by decide +kernel)
  refine ⟨h1, fun s hs => ⟨_, h2 s hs⟩, fun s hs => ?_, fun t _ => Or.inl ⟨rfl, rfl⟩, fun t u _ _ _ _ _ => rfl, fun p hp => ⟨_, h6 p hp⟩, fun p _ => Or.inl rfl, ⟨2, by decide, by decide⟩, ⟨2, by decide, by decide, by decide⟩, ⟨1, by decide, by decide⟩, by decide +kernel⟩
  rcases h3 s hs with q | q
  · exact Or.inl q
  · exact Or.inr ⟨_, q⟩
theorem HK.start : HK T0 := by
  intro s hs h
  have := (show ∀ s, s < 80 → hsT T0 s = false from by decide +kernel) s hs
  rw [this] at h
  cases h
def flN (a i : Nat) (v : Int32) (f : Nat → Int32) : Nat → Int32 := fun j => if a ≤ j ∧ j < a + i then v else f j
theorem flN_zero (a : Nat) (v : Int32) (f : Nat → Int32) : flN a 0 v f = f := by
  funext j
  unfold flN
  rw [if_neg (by omega)]
theorem flN_succ (a i : Nat) (v : Int32) (f : Nat → Int32) : flN a (i + 1) v f = upd (flN a i v f) (a + i) v := by
  funext j
  unfold flN upd
  by_cases h : j = a + i
  · rw [if_pos (by omega), if_pos h]
  · rw [if_neg h]
    dsimp only
    by_cases q : a ≤ j ∧ j < a + i
    · rw [if_pos q, if_pos (by omega)]
    · rw [if_neg q, if_neg (by omega)]
