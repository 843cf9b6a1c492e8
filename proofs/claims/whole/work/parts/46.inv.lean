/-! changes keep the order -/
theorem Inv.hou {T : TW} {s : Nat} {on : Bool} (hI : Inv T) : Inv (setT T 0 s (bI on)) := by
  obtain ⟨i0, i1, i2, i3, i4, i6, i7, i8, i9, i10, i11⟩ := hI
  refine ⟨fun q hq => ?_, i1, i2, i3, i4, i6, i7, i8, i9, i10, i11⟩
  show upd (T 0) s (bI on) q = 0 ∨ upd (T 0) s (bI on) q = 1
  unfold upd
  split
  · cases on
    · exact Or.inl rfl
    · exact Or.inr rfl
  · exact i0 q hq
theorem Inv.giv {T : TW} {p : Nat} {v : Int32} (hI : Inv T) : Inv (setT T 5 p v) := by
  obtain ⟨i0, i1, i2, i3, i4, i6, i7, i8, i9, i10, i11⟩ := hI
  exact ⟨i0, i1, i2, i3, i4, i6, i7, i8, i9, i10, i11⟩
theorem Inv.set0 {T : TW} {k a : Nat} (hI : Inv T) (hk : k < 3) (ha : if k = 1 then 1 ≤ a ∧ a < 5 else a < 10) : Inv (setT T 10 k (nI a)) := by
  obtain ⟨i0, i1, i2, i3, i4, i6, i7, ⟨a8, b8, c8⟩, ⟨a9, b9, c9, d9⟩, ⟨a10, b10, c10⟩, i11⟩ := hI
  refine ⟨i0, i1, i2, i3, i4, i6, i7, ?_, ?_, ?_, i11⟩
  · show ∃ a', a' < 10 ∧ upd (T 10) k (nI a) 0 = nI a'
    unfold upd
    split
    · rw [if_neg (by omega)] at ha
      exact ⟨a, ha, rfl⟩
    · exact ⟨a8, b8, c8⟩
  · show ∃ a', 1 ≤ a' ∧ a' < 5 ∧ upd (T 10) k (nI a) 1 = nI a'
    unfold upd
    split
    · rw [if_pos (by omega)] at ha
      exact ⟨a, ha.1, ha.2, rfl⟩
    · exact ⟨a9, b9, c9, d9⟩
  · show ∃ a', a' < 10 ∧ upd (T 10) k (nI a) 2 = nI a'
    unfold upd
    split
    · rw [if_neg (by omega)] at ha
      exact ⟨a, ha, rfl⟩
    · exact ⟨a10, b10, c10⟩
