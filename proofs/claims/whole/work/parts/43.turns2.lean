/-! one place of the text: the relation goes on -/
theorem RR.other {cs : Nat → Nat} {i p g : Nat} {σ : RS} {st' : Nat} (h : RR σ p g) (h5 : σ.2.1 < 5) (hc : cs i < 128) (hn : npC σ.2.1 (cs i) = some st') (h58 : ¬ cs i = 58) (hd : dirC (cs i) = none) : RR (stNx (cs i) σ) p (cs i - 48) ∧ (stNx (cs i) σ).1 = σ.1 := by
  obtain ⟨e1, e2, e3⟩ := np_dig hn h58 hd
  have hs := sub48 e1 hc
  rcases e3 with ⟨z, z2, z3⟩ | ⟨z, z2, z3, z4⟩ | ⟨z, z2⟩
  · unfold stNx
    rw [if_pos z]
    refine ⟨⟨fun q => ?_, fun q => ⟨hs, by omega⟩, fun q => ?_⟩, rfl⟩
    · exact absurd (show (2 : Nat) ≤ 1 from q) (by decide)
    · exact absurd (show (1 : Nat) = 3 from q) (by decide)
  · unfold stNx
    rw [if_neg (by omega), if_neg (by omega), if_neg (by omega), if_neg (by omega)]
    have hp := h.1 (by omega)
    refine ⟨⟨fun q => hp, fun q => absurd (show (3 : Nat) = 1 from q) (by decide), fun q => ⟨?_, ?_, by omega⟩⟩, rfl⟩
    · show upd (upd σ.2.2.2 (3 * σ.1) σ.2.2.1) (3 * σ.1 + 1) (nI (cs i) - nI 48) (3 * σ.1) = nI p
      unfold upd
      rw [if_neg (by omega), if_pos rfl]
      exact hp.1
    · show upd (upd σ.2.2.2 (3 * σ.1) σ.2.2.1) (3 * σ.1 + 1) (nI (cs i) - nI 48) (3 * σ.1 + 1) = nI (cs i - 48)
      unfold upd
      rw [if_pos rfl]
      exact hs
  · have hc59 : cs i = 59 := by
      rw [z] at hn
      unfold npC at hn
      simp at hn
      by_cases q : cs i = 59
      · exact q
      · rw [if_neg q, z2] at hn
        split at hn
        · cases hn
        · cases hn
    unfold stNx
    rw [if_neg (by omega), if_neg (by omega), if_neg (by omega), if_pos ⟨z, hc59⟩]
    exact ⟨⟨fun q => absurd (show (2 : Nat) ≤ 0 from q) (by decide), fun q => absurd (show (0 : Nat) = 1 from q) (by decide), fun q => absurd (show (0 : Nat) = 3 from q) (by decide)⟩, rfl⟩
theorem RR.colon {cs : Nat → Nat} {i p g : Nat} {σ : RS} {st' : Nat} (h : RR σ p g) (hn : npC σ.2.1 (cs i) = some st') (h58 : cs i = 58) : RR (stNx (cs i) σ) g g ∧ (stNx (cs i) σ).1 = σ.1 := by
  obtain ⟨e1, e2⟩ := np_colon hn h58
  unfold stNx
  rw [if_neg (by omega), if_pos e1]
  exact ⟨⟨fun q => h.2.1 e1, fun q => absurd (show (2 : Nat) = 1 from q) (by decide), fun q => absurd (show (2 : Nat) = 3 from q) (by decide)⟩, rfl⟩
