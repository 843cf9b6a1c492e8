/-! a flood, step by step -/
theorem nb_sym {s d a : Nat} (hs : s < 80) (hd : d < 4) (h : nbT s d = some a) : ∃ e, e < 4 ∧ nbT a e = some s := by
  have key := (show ∀ s, s < 80 → ∀ d, d < 4 → (nbT s d = none ∨ nbT ((nbT s d).getD 0) ((d + 2) % 4) = some s) from by decide +kernel) s hs d hd
  rw [h] at key
  rcases key with q | q
  · cases q
  · exact ⟨(d + 2) % 4, by omega, q⟩
def vl (len : Nat → Option Nat) (s : Nat) : Nat := (len s).getD 1000000
/-- what a flood keeps: i squares are taken, b is the value last taken; R: how a square may be marked -/
def FL (T : TW) (p : Nat) (R : Nat → Nat → Prop) (i b : Nat) (σ : WS) : Prop :=
  QI σ ∧
  (∀ s, s < 80 → ¬ σ.1 s = none → (∃ j, j < σ.2.2 ∧ σ.2.1 j = s) ∨ obsT T p s = 4) ∧
  (∀ j k, j ≤ k → k < σ.2.2 → vl σ.1 (σ.2.1 j) ≤ vl σ.1 (σ.2.1 k)) ∧
  (∀ j, j < σ.2.2 → vl σ.1 (σ.2.1 j) ≤ b + 1) ∧
  (∀ j, j < σ.2.2 → i ≤ j → b ≤ vl σ.1 (σ.2.1 j)) ∧
  (∀ j, j < σ.2.2 → j < i → ∀ d s, d < 4 → nbT (σ.2.1 j) d = some s → obsT T p s = 0 ∨ obsT T p s = 4 → ∃ v, σ.1 s = some v ∧ v ≤ vl σ.1 (σ.2.1 j) + 1) ∧
  (∀ s v, s < 80 → σ.1 s = some v → R v s)
theorem vl_some {len : Nat → Option Nat} {s v : Nat} (h : len s = some v) : vl len s = v := by
  unfold vl
  rw [h]
  rfl
/-- a mark on a square that had none changes no other value -/
def Ext (σ τ : WS) : Prop := (∀ s v, σ.1 s = some v → τ.1 s = some v) ∧ σ.2.2 ≤ τ.2.2 ∧ (∀ j, j < σ.2.2 → τ.2.1 j = σ.2.1 j)
theorem Ext.rf (σ : WS) : Ext σ σ := ⟨fun _ _ h => h, Nat.le_refl _, fun _ _ => rfl⟩
theorem Ext.tr {σ τ ρ : WS} (h1 : Ext σ τ) (h2 : Ext τ ρ) : Ext σ ρ := ⟨fun s v h => h2.1 s v (h1.1 s v h), Nat.le_trans h1.2.1 h2.2.1, fun j hj => by rw [h2.2.2 j (Nat.lt_of_lt_of_le hj h1.2.1), h1.2.2 j hj]⟩
theorem Ext.enq {σ : WS} {t v : Nat} (hn : σ.1 t = none) : Ext σ (enqS σ t v) := by
  refine ⟨fun s w h => ?_, Nat.le_succ _, fun j hj => ?_⟩
  · show va_up σ.1 t (some v) s = some w
    unfold va_up
    split
    · rename_i e
      rw [e, hn] at h
      cases h
    · exact h
  · show va_up σ.2.1 σ.2.2 t j = σ.2.1 j
    unfold va_up
    rw [if_neg (by omega)]
theorem Ext.mark {σ : WS} {t v : Nat} (hn : σ.1 t = none) : Ext σ (va_up σ.1 t (some v), σ.2.1, σ.2.2) := by
  refine ⟨fun s w h => ?_, Nat.le_refl _, fun j hj => rfl⟩
  show va_up σ.1 t (some v) s = some w
  unfold va_up
  split
  · rename_i e
    rw [e, hn] at h
    cases h
  · exact h
