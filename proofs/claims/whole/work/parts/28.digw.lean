/-! digests -/
def itN (F : Nat → Int64 → Int64) : Nat → Int64 → Int64
  | 0, h => h
  | k + 1, h => F k (itN F k h)
def mxN (f : Nat → Int32) : Nat → Int64 → Int64 := itN (fun k h => 31 * h + (f k).toInt64)
noncomputable def bdT (T : TW) (p g : Nat) : Option Nat := (bq T p g (fun _ => 0)).1
theorem bsR_fa (T : TW) (p g : Nat) (fa fb : Nat → Nat) : ∀ d, (bsR T p g fa d).1 = (bsR T p g fb d).1 ∧ (bsR T p g fa d).2.1 = (bsR T p g fb d).2.1 ∧ (bsR T p g fa d).2.2.1 = (bsR T p g fb d).2.2.1
  | 0 => ⟨rfl, rfl, rfl⟩
  | d + 1 => by
    have h := bsR_fa T p g fa fb d
    rw [bsR, bsR]
    split
    · split
      · exact h
      · rename_i to _
        have e : btr (bsR T p g fa d) (frN T p to) (tollT T to) = btr (bsR T p g fb d) (frN T p to) (tollT T to) := by
          unfold btr
          rw [h.1, h.2.1, h.2.2]
        rw [e]
        split
        · exact ⟨rfl, rfl, rfl⟩
        · exact h
    · exact h
noncomputable def faB (T : TW) (p : Nat) : Nat → (Nat → Nat) → Nat → Nat
  | 0, fa => fa
  | k + 1, fa => (bq T p (k + 1) (faB T p k fa)).2.2.2
noncomputable def dgP (T : TW) (p : Nat) (h : Int64) : Int64 := mxN (fun k => oI (bdT T p (k + 1))) 6 (itN (fun k h => mxN (fun d => nI (whyT T p (hdT T p) (k + 1) d)) 4 h) 6 (31 * (31 * mxN (ppT T p) 10 h + (oI (wyO (dst T p 0 44))).toInt64) + (oI (wyO (dst T p 1 44))).toInt64))
noncomputable def faP (T : TW) (fa : Nat → Nat) : Nat → Nat → Nat
  | 0 => fa
  | p + 1 => faB T p 6 (dst T p 1)
def msP (T : TW) (ms : Nat) : Nat → Nat
  | 0 => ms
  | p + 1 => misM T p 12
def shD (k m : Nat) : UInt64 := FP.ddiv (FP.i2d (nI k)) (FP.i2d (nI m))
def dbl (x : UInt64) : Nat → UInt64
  | 0 => x
  | j + 1 => FP.dmul (dbl x j) 4611686018427387904
def lt1 (x : UInt64) : Bool := decide (Op.cmpValue (FP.dcmp x FP.dconst1) .g < 0)
def isN (x : UInt64) : Bool := decide (x &&& 0x7fffffffffffffff ≤ 0x7ff0000000000000)
/-- how often a share is doubled -/
def dbN (x : UInt64) : Nat → Nat → Nat
  | 0, j => j
  | k + 1, j => if lt1 (dbl x j) = true then dbN x k (j + 1) else j
def shJ (k m : Nat) : Nat := dbN (shD k m) 8 0
def shB (k m : Nat) : Int64 := if k = 0 then 0 else ((1023 - (nI (shJ k m)).toInt64) <<< ((nI 52).toInt64 &&& 63)) + FP.d2l (FP.dmul (FP.dsub (dbl (shD k m) (shJ k m)) FP.dconst1) 4841369599423283200)
def chk1 (k m : Nat) : Bool := isN (shD k m) && (if k = 0 then decide (Op.cmpValue (FP.dcmp (shD k m) FP.dconst0) .l = 0) && decide (Op.cmpValue (FP.dcmp (shD k m) FP.dconst0) .g ≤ 0) else
  decide (shJ k m ≤ 7) && decide (¬ Op.cmpValue (FP.dcmp (shD k m) FP.dconst0) .l = 0) && decide (0 < Op.cmpValue (FP.dcmp (shD k m) FP.dconst0) .g) && decide (Op.cmpValue (FP.dcmp (shD k m) 4611686018427387904) .l < 0) && (List.range 8).all (fun j => !decide (j ≤ shJ k m) || (isN (dbl (shD k m) j) && (if j < shJ k m then lt1 (dbl (shD k m) j) else !lt1 (dbl (shD k m) j)))) && isN (FP.dsub (dbl (shD k m) (shJ k m)) FP.dconst1) && isN (FP.dmul (FP.dsub (dbl (shD k m) (shJ k m)) FP.dconst1) 4841369599423283200) && isN (FP.dmul (dbl (shD k m) (shJ k m)) 4841369599423283200) && decide ((((1023 - (nI (shJ k m)).toInt64) <<< ((nI 52).toInt64 &&& 63)) + FP.d2l (FP.dmul (dbl (shD k m) (shJ k m)) 4841369599423283200)) - 4503599627370496 = shB k m))
theorem chk1_1 : ∀ i, i < 10 → ∀ k, k < 81 → (!decide (k ≤ 1 + i) || chk1 k (1 + i)) = true := by decide +kernel
theorem chk1_11 : ∀ i, i < 10 → ∀ k, k < 81 → (!decide (k ≤ 11 + i) || chk1 k (11 + i)) = true := by decide +kernel
theorem chk1_21 : ∀ i, i < 10 → ∀ k, k < 81 → (!decide (k ≤ 21 + i) || chk1 k (21 + i)) = true := by decide +kernel
theorem chk1_31 : ∀ i, i < 10 → ∀ k, k < 81 → (!decide (k ≤ 31 + i) || chk1 k (31 + i)) = true := by decide +kernel
theorem chk1_41 : ∀ i, i < 10 → ∀ k, k < 81 → (!decide (k ≤ 41 + i) || chk1 k (41 + i)) = true := by decide +kernel
theorem chk1_51 : ∀ i, i < 10 → ∀ k, k < 81 → (!decide (k ≤ 51 + i) || chk1 k (51 + i)) = true := by decide +kernel
theorem chk1_61 : ∀ i, i < 10 → ∀ k, k < 81 → (!decide (k ≤ 61 + i) || chk1 k (61 + i)) = true := by decide +kernel
theorem chk1_71 : ∀ i, i < 10 → ∀ k, k < 81 → (!decide (k ≤ 71 + i) || chk1 k (71 + i)) = true := by decide +kernel
theorem chk1_all {k m : Nat} (hm : 1 ≤ m) (h80 : m ≤ 80) (hk : k ≤ m) : chk1 k m = true := by
  have key : ∀ c, (∀ i, i < 10 → ∀ k, k < 81 → (!decide (k ≤ c + i) || chk1 k (c + i)) = true) → c ≤ m → m < c + 10 → chk1 k m = true := by
    intro c h h1 h2
    have h3 := h (m - c) (by omega) k (by omega)
    rw [show c + (m - c) = m from by omega, decide_eq_true hk, Bool.not_true, Bool.false_or] at h3
    exact h3
  rcases (show m < 11 ∨ (11 ≤ m ∧ m < 21) ∨ (21 ≤ m ∧ m < 31) ∨ (31 ≤ m ∧ m < 41) ∨ (41 ≤ m ∧ m < 51) ∨ (51 ≤ m ∧ m < 61) ∨ (61 ≤ m ∧ m < 71) ∨ 71 ≤ m by omega) with q | q | q | q | q | q | q | q
  · exact key 1 chk1_1 (by omega) (by omega)
  · exact key 11 chk1_11 (by omega) (by omega)
  · exact key 21 chk1_21 (by omega) (by omega)
  · exact key 31 chk1_31 (by omega) (by omega)
  · exact key 41 chk1_41 (by omega) (by omega)
  · exact key 51 chk1_51 (by omega) (by omega)
  · exact key 61 chk1_61 (by omega) (by omega)
  · exact key 71 chk1_71 (by omega) (by omega)
