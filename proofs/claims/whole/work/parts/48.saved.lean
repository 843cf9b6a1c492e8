/-! what is saved, both sides -/
def SVR (sv : Nat → Int32) (Sv : Nat → TW) (sn : Nat) : Prop := ∀ j, j < sn → ∀ k, k < 288 → sv (j * 288 + k) = zT (Sv j) k
theorem SVR.save {sv : Nat → Int32} {Sv : Nat → TW} {sn : Nat} (h : SVR sv Sv sn) (hsn : sn ≤ 6) (T : TW) : SVR (savS sv sn T) (svV Sv sn T) (svN sn) := by
  intro j hj k hk
  unfold svN at hj
  unfold savS svV
  by_cases h6 : sn < 6
  · rw [if_pos h6] at hj ⊢
    rw [if_pos h6]
    unfold wrS va_up
    by_cases e : j = sn
    · subst e
      rw [if_pos (by omega), if_pos rfl, show j * 288 + k - j * 288 = k from by omega]
    · rw [if_neg (by omega), if_neg e]
      exact h j (by omega) k hk
  · rw [if_neg h6] at hj ⊢
    rw [if_neg h6]
    have e6 : sn = 6 := by omega
    subst e6
    unfold wrS rotS shS
    by_cases e : j < 5
    · rw [if_neg (by omega), if_pos (by omega), if_pos e]
      rw [show j * 288 + k + 288 = (j + 1) * 288 + k from by omega]
      exact h (j + 1) (by omega) k hk
    · have e5 : j = 5 := by omega
      subst e5
      rw [if_pos (by omega), if_neg (by omega), show 5 * 288 + k - 5 * 288 = k from by omega]
theorem SVR.less {sv : Nat → Int32} {Sv : Nat → TW} {sn : Nat} (h : SVR sv Sv sn) : SVR sv Sv (sn - 1) := fun j hj => h j (by omega)
def SvI (Sv : Nat → TW) (sn : Nat) : Prop := ∀ j, j < sn → Inv (Sv j)
theorem SvI.save {Sv : Nat → TW} {sn : Nat} {T : TW} (h : SvI Sv sn) (hsn : sn ≤ 6) (hI : Inv T) : SvI (svV Sv sn T) (svN sn) := by
  intro j hj
  unfold svN at hj
  unfold svV
  by_cases h6 : sn < 6
  · rw [if_pos h6] at hj ⊢
    unfold va_up
    split
    · exact hI
    · exact h j (by omega)
  · rw [if_neg h6] at hj ⊢
    unfold rotS
    split
    · exact h (j + 1) (by omega)
    · exact hI
