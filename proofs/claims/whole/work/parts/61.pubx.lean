/-! the class's calls: words that the two sides share -/
theorem sto_low (T : TW) (q : Option Nat) : stoT T q none = lowT T q := by
  unfold stoT lowT
  congr 1
  funext t
  simp
theorem hst_sto (T : TW) (s p : Nat) : hstT T s p = (stoT T (some s) (some p)).isSome := by
  unfold stoT hstT
  congr 2
theorem trk_0 {T : TW} {s : Nat} (h : mkT T s < 16) : trkT T s = 0 ↔ mkT T s = 0 := by
  unfold trkT
  exact (show ∀ m, m < 16 → (bc m = 0 ↔ m = 0) from by decide +kernel) _ h
theorem inR_of {lo hi x : Int32} (h1 : ¬ x < lo) (h2 : ¬ hi < x) : inR lo hi x = true := by
  unfold inR
  rw [decide_eq_true h1, decide_eq_true h2]
  rfl
theorem inR_lo {lo hi x : Int32} (h : x < lo) : inR lo hi x = false := by
  unfold inR
  rw [decide_eq_false (fun q => q h)]
  rfl
theorem inR_hi {lo hi x : Int32} (h : hi < x) : inR lo hi x = false := by
  unfold inR
  rw [decide_eq_false (p := ¬ hi < x) (fun q => q h), Bool.and_false]
theorem sto_no {T : TW} {s p : Nat} (h : hstT T s p = false) : stoT T (some s) (some p) = none := by
  rw [hst_sto] at h
  cases e : stoT T (some s) (some p) with
  | none => rfl
  | some k => rw [e] at h; cases h
theorem sto_yes {T : TW} {s p : Nat} (h : hstT T s p = true) : ¬ stoT T (some s) (some p) = none := by
  rw [hst_sto] at h
  intro q
  rw [q] at h
  cases h
