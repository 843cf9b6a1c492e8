/-! stop and drop keep the order -/
theorem Inv.drp {T : TW} {t : Nat} (hI : Inv T) : Inv (drpT T t) := by
  obtain ⟨i0, i1, i2, i3, i4, i6, i7, i8, i9, i10, i11⟩ := hI
  have e3 : ∀ u, drpT T t 3 u = if u = t then -1 else T 3 u := fun u => by
    show upd (T 3) t (-1) u = _
    rfl
  have e4 : ∀ u, drpT T t 4 u = if u = t then -1 else T 4 u := fun u => by
    show upd (T 4) t (-1) u = _
    rfl
  refine ⟨i0, i1, i2, fun u hu => ?_, fun u w hu hw hn h1 h2 => ?_, i6, i7, i8, i9, i10, i11⟩
  · rw [e3, e4]
    by_cases h : u = t
    · rw [if_pos h, if_pos h]; exact Or.inl ⟨rfl, rfl⟩
    · rw [if_neg h, if_neg h]; exact i3 u hu
  · rw [e3, e3] at h1
    rw [e4, e4] at h2
    rw [e3]
    by_cases h : u = t
    · rw [if_pos h]
    · rw [if_neg h] at h1 h2 ⊢
      by_cases h3 : w = t
      · rw [if_pos h3] at h1
        exact h1
      · rw [if_neg h3] at h1 h2
        exact i4 u w hu hw hn h1 h2
theorem Inv.stp {T : TW} {t s p : Nat} (hI : Inv T) (hs : s < 80) (hp : p < 4) (hno : stoT T (some s) (some p) = none) : Inv (stpT T t s p) := by
  have hI0 := hI
  obtain ⟨i0, i1, i2, i3, i4, i6, i7, i8, i9, i10, i11⟩ := hI
  have e3 : ∀ u, stpT T t s p 3 u = if u = t then nI s else T 3 u := fun u => by
    show upd (T 3) t (nI s) u = _
    rfl
  have e4 : ∀ u, stpT T t s p 4 u = if u = t then nI p else T 4 u := fun u => by
    show upd (T 4) t (nI p) u = _
    rfl
  have key : ∀ u, u < 12 → T 3 u = nI s → T 4 u = nI p → False := fun u hu h1 h2 => by
    have h := ff_none _ _ hno u (Nat.zero_le _) (by omega)
    have a1 : sqT T u = some s := by unfold sqT; rw [h1, ton_nI (by omega)]
    have a2 : plT T u = some p := by unfold plT; rw [h2, ton_nI (by omega)]
    rw [a1, a2] at h
    simp at h
  refine ⟨i0, i1, i2, fun u hu => ?_, fun u w hu hw hn h1 h2 => ?_, i6, i7, i8, i9, i10, i11⟩
  · rw [e3, e4]
    by_cases h : u = t
    · rw [if_pos h, if_pos h]; exact Or.inr ⟨s, p, hs, hp, rfl, rfl⟩
    · rw [if_neg h, if_neg h]; exact i3 u hu
  · rw [e3, e3] at h1
    rw [e4, e4] at h2
    rw [e3]
    by_cases h : u = t
    · by_cases h3 : w = t
      · exact absurd (h.trans h3.symm) hn
      · rw [if_pos h, if_neg h3] at h1 h2
        exact (key w hw h1.symm h2.symm).elim
    · rw [if_neg h] at h1 h2 ⊢
      by_cases h3 : w = t
      · rw [if_pos h3] at h1 h2
        exact (key u hu h1 h2).elim
      · rw [if_neg h3] at h1 h2
        exact i4 u w hu hw hn h1 h2
