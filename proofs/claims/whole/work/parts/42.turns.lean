/-! the turns of the text and the list of pieces -/
theorem nx_pm (c : Nat) (σ : RS) : σ.1 ≤ (stNx c σ).1 := by
  unfold stNx
  repeat' split
  all_goals first | exact Nat.le_refl _ | exact Nat.le_succ _
theorem rd_pm {cs : Nat → Nat} : ∀ (k i : Nat) (σ : RS), σ.1 ≤ (rdS cs k i σ).2.1
  | 0, i, σ => Nat.le_refl _
  | k + 1, i, σ => by
    have h1 := nx_pm (cs i) σ
    rw [rdS]
    split
    · exact Nat.le_trans h1 (rd_pm k (i + 1) (stNx (cs i) σ))
    · exact h1
def RR (σ : RS) (p g : Nat) : Prop := (2 ≤ σ.2.1 → σ.2.2.1 = nI p ∧ p < 4) ∧ (σ.2.1 = 1 → σ.2.2.1 = nI g ∧ g < 4) ∧ (σ.2.1 = 3 → σ.2.2.2 (3 * σ.1) = nI p ∧ σ.2.2.2 (3 * σ.1 + 1) = nI g ∧ g < 7)
def PcAt (F : Nat → Int32) (q : Nat) : Prop := (∃ p, p < 4 ∧ F (3 * q) = nI p) ∧ (∃ g, g < 7 ∧ F (3 * q + 1) = nI g) ∧ (∃ d, d < 4 ∧ F (3 * q + 2) = nI d)
theorem sub48 {c : Nat} (h : 48 ≤ c) (hc : c < 128) : nI c - nI 48 = nI (c - 48) := (show ∀ c, c < 128 → 48 ≤ c → nI c - nI 48 = nI (c - 48) from by decide) c hc h
