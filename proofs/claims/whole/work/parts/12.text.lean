/-! the buffer's words -/
def textW (K : Nat → ClassId) (t : Nat → Nat) (cs : Nat → Nat) (ln : Nat) : va_W := [(t 0, .inr (0, [.ref (t 1), .int (nI ln)])), (t 1, .inl (K 0, 60, .inl (fun j => nI (cs j))))]
def CB (cs : Nat → Nat) (ln : Nat) : Prop := ln ≤ 60 ∧ ∀ j, j < ln → 33 ≤ cs j ∧ cs j ≤ 126
def dirC (c : Nat) : Option Nat := if c = 110 then some 0 else if c = 101 then some 1 else if c = 115 then some 2 else if c = 119 then some 3 else none
theorem dirC_lt (c : Nat) : ∀ k, dirC c = some k → k < 4 := by
  intro k h
  unfold dirC at h
  split at h
  · cases h; decide
  split at h
  · cases h; decide
  split at h
  · cases h; decide
  split at h
  · cases h; decide
  · cases h
def dieC (c : Nat) : Bool := decide (49 ≤ c) && decide (c ≤ 54)
def npC (pl c : Nat) : Option Nat := if pl = 0 then (if 48 ≤ c ∧ c ≤ 51 then some 1 else none) else if pl = 1 then (if c = 58 then some 2 else none) else if pl = 2 then (if dieC c = true then some 3 else none) else if pl = 3 then (if dirC c = none then none else some 4) else if pl = 4 then (if c = 59 then some 0 else if dieC c = true then some 3 else none) else none
theorem npC_lt (pl c : Nat) : ∀ k, npC pl c = some k → k < 5 := by
  intro k h
  unfold npC at h
  repeat' split at h
  all_goals first | (cases h; decide) | (cases h)
def scS (cs : Nat → Nat) : Nat → Option Nat
  | 0 => some 0
  | i + 1 => match scS cs i with
    | none => none
    | some pl => npC pl (cs i)
theorem sc_lt (cs : Nat → Nat) : ∀ i k, scS cs i = some k → k < 5
  | 0, k, h => by cases h; decide
  | i + 1, k, h => by
    rw [scS] at h
    split at h
    · cases h
    · exact npC_lt _ _ k h
theorem sc_none (cs : Nat → Nat) {i : Nat} (h : scS cs i = none) : ∀ j, i ≤ j → scS cs j = none
  | 0, hj => by
    have e : i = 0 := by omega
    rw [e] at h
    exact h
  | j + 1, hj => by
    rcases Nat.lt_or_ge i (j + 1) with q | q
    · rw [scS, sc_none cs h j (by omega)]
    · have e : i = j + 1 := by omega
      rw [e] at h
      exact h
def errS (cs : Nat → Nat) (ln : Nat) : Nat := match ff (fun i_ => (scS cs (i_ + 1)).isNone) 0 ln with
  | none => ln
  | some k => k
def cmpS (cs : Nat → Nat) (ln : Nat) : Bool := decide (scS cs ln = some 4)
abbrev PS : Type := TW × Nat × Nat × Nat
def runS (cs : Nat → Nat) : Nat → Nat → PS → TW × Nat
  | 0, _, σ => (σ.1, σ.2.1)
  | k + 1, i, σ => if cs i = 58 then runS cs k (i + 1) (σ.1, σ.2.1, σ.2.2.2, σ.2.2.2) else match dirC (cs i) with
    | none => runS cs k (i + 1) (σ.1, σ.2.1, σ.2.2.1, cs i - 48)
    | some d => if whyT σ.1 σ.2.2.1 (hdT σ.1 σ.2.2.1) σ.2.2.2 d = 0 then (match nbT (hdT σ.1 σ.2.2.1) d with
      | none => (σ.1, σ.2.1)
      | some to => runS cs k (i + 1) (layT σ.1 σ.2.2.1 to d, σ.2.1 + 1, σ.2.2.1, σ.2.2.2)) else (σ.1, σ.2.1)
def plyS (cs : Nat → Nat) (ln : Nat) (T : TW) : TW × Nat := runS cs ln 0 (T, 0, 0, 0)
theorem run_colon {cs : Nat → Nat} {ln i : Nat} {T : TW} {x p g : Nat} (hi : i < ln) (h : cs i = 58) : runS cs (ln - i) i (T, x, p, g) = runS cs (ln - (i + 1)) (i + 1) (T, x, g, g) := by
  rw [show ln - i = (ln - (i + 1)) + 1 from by omega, runS, if_pos h]
theorem run_dig {cs : Nat → Nat} {ln i : Nat} {T : TW} {x p g : Nat} (hi : i < ln) (h : ¬ cs i = 58) (hd : dirC (cs i) = none) : runS cs (ln - i) i (T, x, p, g) = runS cs (ln - (i + 1)) (i + 1) (T, x, p, cs i - 48) := by
  rw [show ln - i = (ln - (i + 1)) + 1 from by omega, runS, if_neg h, hd]
theorem run_lay {cs : Nat → Nat} {ln i d to : Nat} {T : TW} {x p g : Nat} (hi : i < ln) (h : ¬ cs i = 58) (hd : dirC (cs i) = some d) (hw : whyT T p (hdT T p) g d = 0) (hn : nbT (hdT T p) d = some to) : runS cs (ln - i) i (T, x, p, g) = runS cs (ln - (i + 1)) (i + 1) (layT T p to d, x + 1, p, g) := by
  rw [show ln - i = (ln - (i + 1)) + 1 from by omega, runS, if_neg h, hd]
  simp only [hw, hn, if_true]
theorem run_stop {cs : Nat → Nat} {ln i d : Nat} {T : TW} {x p g : Nat} (hi : i < ln) (h : ¬ cs i = 58) (hd : dirC (cs i) = some d) (hw : ¬ whyT T p (hdT T p) g d = 0) : runS cs (ln - i) i (T, x, p, g) = (T, x) := by
  rw [show ln - i = (ln - (i + 1)) + 1 from by omega, runS, if_neg h, hd]
  simp only [hw, if_false]
theorem run_end {cs : Nat → Nat} {ln i : Nat} {T : TW} {x p g : Nat} (hi : ln ≤ i) : runS cs (ln - i) i (T, x, p, g) = (T, x) := by
  rw [show ln - i = 0 from by omega, runS]
/-- what the reader of turns knows at a place of the text -/
def PK (cs : Nat → Nat) (i p g : Nat) : Prop := ∃ pl, scS cs i = some pl ∧ (pl = 1 → g < 4) ∧ (2 ≤ pl → p < 4) ∧ (pl = 3 → 1 ≤ g ∧ g < 7)
theorem PK.next {cs : Nat → Nat} {ln i p g : Nat} (h : PK cs i p g) (hC : scS cs ln = some 4) (hi : i < ln) : ∃ pl pl', scS cs i = some pl ∧ (pl = 1 → g < 4) ∧ (2 ≤ pl → p < 4) ∧ (pl = 3 → 1 ≤ g ∧ g < 7) ∧ npC pl (cs i) = some pl' ∧ scS cs (i + 1) = some pl' := by
  obtain ⟨pl, h1, h2, h3, h4⟩ := h
  cases e : scS cs (i + 1) with
  | none => rw [sc_none cs e ln (by omega)] at hC; cases hC
  | some pl' =>
    refine ⟨pl, pl', h1, h2, h3, h4, ?_, rfl⟩
    rw [scS, h1] at e
    exact e
theorem np_colon {pl pl' c : Nat} (h : npC pl c = some pl') (hc : c = 58) : pl = 1 ∧ pl' = 2 := by
  subst hc
  unfold npC dieC dirC at h
  simp at h
  repeat' split at h
  all_goals first | (cases h; done) | (cases h; omega) | omega
theorem np_dir {pl pl' c d : Nat} (h : npC pl c = some pl') (hd : dirC c = some d) : pl = 3 ∧ pl' = 4 := by
  have hc : c = 110 ∨ c = 101 ∨ c = 115 ∨ c = 119 := by
    unfold dirC at hd
    repeat' split at hd
    all_goals first | (cases hd; done) | omega
  unfold npC at h
  rw [hd] at h
  unfold dieC at h
  simp at h
  repeat' split at h
  all_goals first | (cases h; done) | (cases h; omega) | omega
theorem np_dig {pl pl' c : Nat} (h : npC pl c = some pl') (hc : ¬ c = 58) (hd : dirC c = none) : 48 ≤ c ∧ c ≤ 59 ∧ ((pl = 0 ∧ pl' = 1 ∧ c ≤ 51) ∨ ((pl = 2 ∨ pl = 4) ∧ pl' = 3 ∧ 49 ≤ c ∧ c ≤ 54) ∨ (pl = 4 ∧ pl' = 0)) := by
  unfold npC at h
  rw [hd] at h
  unfold dieC at h
  simp at h
  repeat' split at h
  all_goals first | (cases h; done) | (cases h; omega) | omega
theorem PK.colon {cs : Nat → Nat} {ln i p g : Nat} (h : PK cs i p g) (hC : scS cs ln = some 4) (hi : i < ln) (hc : cs i = 58) : PK cs (i + 1) g g := by
  obtain ⟨pl, pl', h1, h2, h3, h4, h5, h6⟩ := h.next hC hi
  obtain ⟨e1, e2⟩ := np_colon h5 hc
  exact ⟨pl', h6, fun q => by omega, fun q => h2 e1, fun q => by omega⟩
theorem PK.dir {cs : Nat → Nat} {ln i p g d : Nat} (h : PK cs i p g) (hC : scS cs ln = some 4) (hi : i < ln) (hd : dirC (cs i) = some d) : PK cs (i + 1) p g ∧ p < 4 ∧ 1 ≤ g ∧ g < 7 := by
  obtain ⟨pl, pl', h1, h2, h3, h4, h5, h6⟩ := h.next hC hi
  obtain ⟨e1, e2⟩ := np_dir h5 hd
  have h7 := h3 (by omega)
  exact ⟨⟨pl', h6, fun q => by omega, fun q => h7, fun q => by omega⟩, h7, h4 e1⟩
theorem PK.dig {cs : Nat → Nat} {ln i p g : Nat} (h : PK cs i p g) (hC : scS cs ln = some 4) (hi : i < ln) (hc : ¬ cs i = 58) (hd : dirC (cs i) = none) : PK cs (i + 1) p (cs i - 48) ∧ 48 ≤ cs i ∧ cs i ≤ 59 := by
  obtain ⟨pl, pl', h1, h2, h3, h4, h5, h6⟩ := h.next hC hi
  obtain ⟨e1, e2, e3⟩ := np_dig h5 hc hd
  refine ⟨⟨pl', h6, fun q => by omega, fun q => ?_, fun q => by omega⟩, e1, e2⟩
  exact h3 (by omega)
/-- a piece that is laid keeps the town in order -/
theorem lay_k (T : TW) (p to d k : Nat) (h1 : k ≠ 1) (h2 : k ≠ 2) (h5 : k ≠ 5) (h6 : k ≠ 6) (h7 : k ≠ 7) (h8 : k ≠ 8) (h9 : k ≠ 9) (h11 : k ≠ 11) : layT T p to d k = T k := by
  unfold layT incT setT
  cases owT T to <;> simp [h1, h2, h5, h6, h7, h8, h9, h11]
theorem lay_1 (T : TW) (p to d : Nat) : layT T p to d 1 = upd (T 1) to (nI (mkT T to ||| 2 ^ p)) := by
  unfold layT incT setT
  cases owT T to <;> simp
theorem lay_2 (T : TW) (p to d : Nat) : layT T p to d 2 = if owT T to = none then upd (T 2) to (nI p) else T 2 := by
  unfold layT incT setT
  cases owT T to <;> simp
theorem lay_6 (T : TW) (p to d : Nat) : layT T p to d 6 = upd (T 6) p (nI to) := by
  unfold layT incT setT
  cases owT T to <;> simp
theorem lay_7 (T : TW) (p to d : Nat) : layT T p to d 7 = upd (T 7) p (nI d) := by
  unfold layT incT setT
  cases owT T to <;> simp
theorem or_bit {m p : Nat} (hm : m < 16) (hp : p < 4) : (m ||| 2 ^ p) < 16 ∧ (m ||| 2 ^ p) % 2 = (if p = 0 then 1 else m % 2) := (show ∀ m, m < 16 → ∀ p, p < 4 → (m ||| 2 ^ p) < 16 ∧ (m ||| 2 ^ p) % 2 = (if p = 0 then 1 else m % 2) from by decide +kernel) m hm p hp
theorem Inv.lay {T : TW} {p to d : Nat} (hI : Inv T) (hp : p < 4) (hto : to < 80) (hd : d < 4) : Inv (layT T p to d) := by
  have hm := mk_lt hI hto
  have hob := or_bit hm hp
  have h0 := mk_0 hI
  obtain ⟨i0, i1, i2, i3, i4, i6, i7, i8, i9, i10, -⟩ := hI
  have e0 : layT T p to d 0 = T 0 := lay_k T p to d 0 (by decide) (by decide) (by decide) (by decide) (by decide) (by decide) (by decide) (by decide)
  have e3 : layT T p to d 3 = T 3 := lay_k T p to d 3 (by decide) (by decide) (by decide) (by decide) (by decide) (by decide) (by decide) (by decide)
  have e4 : layT T p to d 4 = T 4 := lay_k T p to d 4 (by decide) (by decide) (by decide) (by decide) (by decide) (by decide) (by decide) (by decide)
  have e10 : layT T p to d 10 = T 10 := lay_k T p to d 10 (by decide) (by decide) (by decide) (by decide) (by decide) (by decide) (by decide) (by decide)
  refine ⟨by rw [e0]; exact i0, fun s hs => ?_, fun s hs => ?_, by rw [e3, e4]; exact i3, by rw [e3, e4]; exact i4, fun q hq => ?_, fun q hq => ?_, by rw [e10]; exact i8, by rw [e10]; exact i9, by rw [e10]; exact i10, ?_⟩
  · rw [lay_1]
    unfold upd
    split
    · exact ⟨_, hob.1, rfl⟩
    · exact i1 s hs
  · rw [lay_2]
    split
    · unfold upd
      split
      · exact Or.inr ⟨p, hp, rfl⟩
      · exact i2 s hs
    · exact i2 s hs
  · rw [lay_6]
    unfold upd
    split
    · exact ⟨to, hto, rfl⟩
    · exact i6 q hq
  · rw [lay_7]
    unfold upd
    split
    · exact Or.inr ⟨d, hd, rfl⟩
    · exact i7 q hq
  · show tn (layT T p to d 1 0) % 2 = 1
    rw [lay_1]
    unfold upd
    split
    · rename_i h
      rw [tn_nI (by omega), hob.2]
      split
      · rfl
      · rw [← h]; exact h0
    · exact h0
