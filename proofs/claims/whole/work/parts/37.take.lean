/-! taking a line up -/
def clT (T : TW) (p s : Nat) : TW := setT T 1 s (nI (clr (mkT T s) p))
theorem clr_od {m p : Nat} (hm : m < 16) (hp : p < 4) (h0 : ¬ p = 0) : clr m p % 2 = m % 2 := (show ∀ m, m < 16 → ∀ p, p < 4 → ¬ p = 0 → clr m p % 2 = m % 2 from by decide +kernel) m hm p hp h0
theorem Inv.cl {T : TW} {p s : Nat} (hI : Inv T) (hp : p < 4) (hs : s < 80) (hd : ¬ s = dep p) : Inv (clT T p s) := by
  have hm := mk_lt hI hs
  have hc := clr_le (mkT T s) p
  have h0 := mk_0 hI
  obtain ⟨i0, i1, i2, i3, i4, i6, i7, i8, i9, i10, -⟩ := hI
  refine ⟨i0, fun q hq => ?_, i2, i3, i4, i6, i7, i8, i9, i10, ?_⟩
  · show ∃ m, m < 16 ∧ upd (T 1) s (nI (clr (mkT T s) p)) q = nI m
    unfold upd
    split
    · exact ⟨_, by omega, rfl⟩
    · exact i1 q hq
  · show tn (upd (T 1) s (nI (clr (mkT T s) p)) 0) % 2 = 1
    unfold upd
    split
    · rename_i h
      have hp0 : ¬ p = 0 := fun q => hd (by rw [q, ← h]; rfl)
      rw [tn_nI (by omega), clr_od hm hp hp0, ← h]
      exact h0
    · exact h0
theorem mk_cl {T : TW} {p s : Nat} (hm : mkT T s < 16) : mkT (clT T p s) s = clr (mkT T s) p := by
  have hc := clr_le (mkT T s) p
  show tn (upd (T 1) s (nI (clr (mkT T s) p)) s) = _
  unfold upd
  rw [if_pos rfl, tn_nI (by omega)]
theorem ff_lowm {m : Nat} (hm : m < 16) : ff (fun t => decide (0 < m &&& 2 ^ t)) 0 4 = lowm m := (show ∀ m, m < 16 → ff (fun t => decide (0 < m &&& 2 ^ t)) 0 4 = lowm m from by decide +kernel) m hm
theorem low_cl {T : TW} {p s : Nat} (hm : mkT T s < 16) : ff (fun t_ => hasT (clT T p s) t_ s) 0 4 = lowm (clr (mkT T s) p) := by
  have hc := clr_le (mkT T s) p
  rw [← ff_lowm (m := clr (mkT T s) p) (by omega)]
  congr 1
  funext t
  unfold hasT
  rw [mk_cl hm]
theorem rm_yes {T : TW} {p s : Nat} (h : owT T s = some p) : setT (clT T p s) 2 s (oI (lowm (clr (mkT T s) p))) = rmT T p s := by
  unfold rmT clT
  rw [if_pos h]
theorem rm_no {T : TW} {p s : Nat} {v : Int32} (h : ¬ owT T s = some p) (hv : v = T 2 s) : setT (clT T p s) 2 s v = rmT T p s := by
  subst hv
  unfold rmT clT
  rw [if_neg h]
  funext k i
  unfold setT upd
  by_cases h1 : k = 2
  · subst h1
    rw [if_pos rfl]
    by_cases h2 : i = s
    · rw [if_pos h2, h2]; rfl
    · rw [if_neg h2]
  · rw [if_neg h1]
def tuR (T : TW) (p : Nat) : Nat → TW
  | 0 => T
  | k + 1 => if hasT (tuR T p k) p k = true ∧ ¬ k = dep p then rmT (tuR T p k) p k else tuR T p k
def tuC (T : TW) (p : Nat) : Nat → Nat
  | 0 => 0
  | k + 1 => if hasT (tuR T p k) p k = true ∧ ¬ k = dep p then tuC T p k + 1 else tuC T p k
theorem tuC_le (T : TW) (p : Nat) : ∀ k, tuC T p k ≤ k
  | 0 => Nat.le_refl _
  | k + 1 => by
    have := tuC_le T p k
    rw [tuC]
    split <;> omega
theorem Inv.rm {T : TW} {p s : Nat} (hI : Inv T) (hp : p < 4) (hs : s < 80) (hd : ¬ s = dep p) : Inv (rmT T p s) := by
  have h := hI.cl hp hs hd
  unfold rmT
  split
  · have hl : ∀ k, lowm (clr (mkT T s) p) = some k → k < 4 := fun k q => by
      unfold lowm at q
      split at q
      · cases q
      · cases q
        have := lob_lt (clr (mkT T s) p)
        omega
    obtain ⟨i0, i1, i2, i3, i4, i6, i7, i8, i9, i10, i11⟩ := h
    refine ⟨i0, i1, fun q hq => ?_, i3, i4, i6, i7, i8, i9, i10, i11⟩
    show upd (T 2) s (oI (lowm (clr (mkT T s) p))) q = -1 ∨ ∃ o, o < 4 ∧ upd (T 2) s (oI (lowm (clr (mkT T s) p))) q = nI o
    unfold upd
    split
    · cases e : lowm (clr (mkT T s) p) with
      | none => exact Or.inl rfl
      | some o => exact Or.inr ⟨o, hl o e, rfl⟩
    · exact i2 q hq
  · exact h
theorem tuR_inv {T : TW} {p : Nat} (hI : Inv T) (hp : p < 4) : ∀ k, k ≤ 80 → Inv (tuR T p k)
  | 0, _ => hI
  | k + 1, hk => by
    have h := tuR_inv hI hp k (by omega)
    rw [tuR]
    split
    · rename_i q
      exact h.rm hp (by omega) q.2
    · exact h
theorem tuR_yes {T : TW} {p k : Nat} (h : hasT (tuR T p k) p k = true) (hd : ¬ k = dep p) : tuR T p (k + 1) = rmT (tuR T p k) p k := by rw [tuR, if_pos ⟨h, hd⟩]
theorem tuC_yes {T : TW} {p k : Nat} (h : hasT (tuR T p k) p k = true) (hd : ¬ k = dep p) : tuC T p (k + 1) = tuC T p k + 1 := by rw [tuC, if_pos ⟨h, hd⟩]
theorem tuR_no {T : TW} {p k : Nat} (h : ¬ (hasT (tuR T p k) p k = true ∧ ¬ k = dep p)) : tuR T p (k + 1) = tuR T p k := by rw [tuR, if_neg h]
theorem tuC_no {T : TW} {p k : Nat} (h : ¬ (hasT (tuR T p k) p k = true ∧ ¬ k = dep p)) : tuC T p (k + 1) = tuC T p k := by rw [tuC, if_neg h]
def tkT (T : TW) (p : Nat) : TW := setT (setT (tuR T p 80) 6 p (nI (dep p))) 7 p (-1)
def tuE (x : Int32) : Nat := if inR 0 3 x = true then 0 else 1
