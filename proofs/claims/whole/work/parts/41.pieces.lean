/-! the list of pieces: what is written stays -/
def limR (σ : RS) : Nat := if σ.2.1 = 3 then 3 * σ.1 + 2 else 3 * σ.1
theorem nx_keep (c : Nat) (σ : RS) : (∀ j, j < limR σ → (stNx c σ).2.2.2 j = σ.2.2.2 j) ∧ limR σ ≤ limR (stNx c σ) := by
  unfold limR stNx
  by_cases h0 : σ.2.1 = 0
  · rw [if_pos h0]; simp [h0]
  rw [if_neg h0]
  by_cases h1 : σ.2.1 = 1
  · rw [if_pos h1]; simp [h1]
  rw [if_neg h1]
  by_cases h3 : σ.2.1 = 3
  · rw [if_pos h3, if_pos h3]
    refine ⟨fun j hj => ?_, ?_⟩
    · show upd σ.2.2.2 (3 * σ.1 + 2) (oI (dirC c)) j = _
      unfold upd
      rw [if_neg (by omega)]
    · rw [if_neg (show ¬ (4 : Nat) = 3 by decide)]
      show 3 * σ.1 + 2 ≤ 3 * (σ.1 + 1)
      omega
  rw [if_neg h3, if_neg h3]
  by_cases h4 : σ.2.1 = 4 ∧ c = 59
  · rw [if_pos h4]; simp
  rw [if_neg h4]
  refine ⟨fun j hj => ?_, ?_⟩
  · show upd (upd σ.2.2.2 (3 * σ.1) σ.2.2.1) (3 * σ.1 + 1) (nI c - nI 48) j = _
    unfold upd
    rw [if_neg (by omega), if_neg (by omega)]
  · rw [if_pos rfl]
    show 3 * σ.1 ≤ 3 * σ.1 + 2
    omega
theorem rd_keep {cs : Nat → Nat} : ∀ (k i : Nat) (σ : RS) (j : Nat), j < limR σ → (rdS cs k i σ).2.2.2.2 j = σ.2.2.2 j
  | 0, i, σ, j, h => rfl
  | k + 1, i, σ, j, h => by
    have h1 := nx_keep (cs i) σ
    rw [rdS]
    split
    · rw [rd_keep k (i + 1) (stNx (cs i) σ) j (by have := h1.2; omega)]
      exact h1.1 j h
    · exact h1.1 j h
