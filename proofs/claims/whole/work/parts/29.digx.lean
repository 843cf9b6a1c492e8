/-! a share's bits: what the decisions give -/
theorem isN_vf {x : UInt64} (h : isN x = true) : vf_n64 x := by
  unfold vf_n64
  exact of_decide_eq_true h
theorem ck_n {k m : Nat} (h : chk1 k m = true) : vf_n64 (shD k m) := by
  unfold chk1 at h
  rw [Bool.and_eq_true] at h
  exact isN_vf h.1
theorem ck_0 {m : Nat} (h : chk1 0 m = true) : Op.cmpValue (FP.dcmp (shD 0 m) FP.dconst0) .l = 0 ∧ Op.cmpValue (FP.dcmp (shD 0 m) FP.dconst0) .g ≤ 0 := by
  unfold chk1 at h
  simp only [Bool.and_eq_true, if_true, decide_eq_true_eq] at h
  exact h.2
theorem ck_k {k m : Nat} (hk : ¬ k = 0) (h : chk1 k m = true) : shJ k m ≤ 7 ∧ ¬ Op.cmpValue (FP.dcmp (shD k m) FP.dconst0) .l = 0 ∧ 0 < Op.cmpValue (FP.dcmp (shD k m) FP.dconst0) .g ∧ Op.cmpValue (FP.dcmp (shD k m) 4611686018427387904) .l < 0 ∧ (∀ j, j ≤ shJ k m → isN (dbl (shD k m) j) = true ∧ (if j < shJ k m then lt1 (dbl (shD k m) j) else !lt1 (dbl (shD k m) j)) = true) ∧ isN (FP.dsub (dbl (shD k m) (shJ k m)) FP.dconst1) = true ∧ isN (FP.dmul (FP.dsub (dbl (shD k m) (shJ k m)) FP.dconst1) 4841369599423283200) = true ∧ isN (FP.dmul (dbl (shD k m) (shJ k m)) 4841369599423283200) = true ∧ (((1023 - (nI (shJ k m)).toInt64) <<< ((nI 52).toInt64 &&& 63)) + FP.d2l (FP.dmul (dbl (shD k m) (shJ k m)) 4841369599423283200)) - 4503599627370496 = shB k m := by
  unfold chk1 at h
  rw [if_neg hk] at h
  simp only [Bool.and_eq_true, decide_eq_true_eq] at h
  obtain ⟨-, ⟨⟨⟨⟨⟨⟨⟨h1, h2⟩, h3⟩, h4⟩, h5⟩, h6⟩, h7⟩, h8⟩, h9⟩ := h
  refine ⟨h1, h2, h3, h4, fun j hj => ?_, h6, h7, h8, h9⟩
  have h5 := (List.all_eq_true.mp h5) j (List.mem_range.mpr (by omega))
  rw [decide_eq_true hj, Bool.not_true, Bool.false_or, Bool.and_eq_true] at h5
  exact h5
