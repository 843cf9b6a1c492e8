/-! the two readers of the buffer agree -/
theorem ok_np {c st : Nat} (hc : c < 128) (hs : st < 5) : stOk c st = (npC st c).isSome := (show ∀ c, c < 128 → ∀ st, st < 5 → stOk c st = (npC st c).isSome from by decide +kernel) c hc st hs
theorem nx_np {c k : Nat} {σ : RS} (h5 : σ.2.1 < 5) (h : npC σ.2.1 c = some k) : (stNx c σ).2.1 = k := by
  unfold npC at h
  unfold stNx
  by_cases h0 : σ.2.1 = 0
  · rw [if_pos h0] at h ⊢
    split at h
    · cases h; rfl
    · cases h
  rw [if_neg h0] at h ⊢
  by_cases h1 : σ.2.1 = 1
  · rw [if_pos h1] at h ⊢
    split at h
    · cases h; rfl
    · cases h
  rw [if_neg h1] at h ⊢
  by_cases h2 : σ.2.1 = 2
  · rw [if_pos h2] at h
    rw [if_neg (by omega), if_neg (by omega)]
    split at h
    · cases h; rfl
    · cases h
  rw [if_neg h2] at h
  by_cases h3 : σ.2.1 = 3
  · rw [if_pos h3] at h ⊢
    split at h
    · cases h
    · cases h; rfl
  rw [if_neg h3] at h ⊢
  have h4 : σ.2.1 = 4 := by omega
  rw [if_pos h4] at h
  by_cases hc : c = 59
  · rw [if_pos hc] at h
    rw [if_pos ⟨h4, hc⟩]
    cases h
    rfl
  · rw [if_neg hc] at h
    rw [if_neg (fun q => hc q.2)]
    split at h
    · cases h; rfl
    · cases h
def ixO (n : Nat) : Option Nat → Nat
  | none => n
  | some k => k
theorem rd_sc {cs : Nat → Nat} {ln : Nat} (hC : ∀ j, j < ln → cs j < 128) : ∀ (k i : Nat) (σ : RS), i + k = ln → scS cs i = some σ.2.1 → (rdS cs k i σ).1 = ixO ln (ff (fun i_ => (scS cs (i_ + 1)).isNone) i k) ∧ ((rdS cs k i σ).1 = ln → scS cs ln = some (rdS cs k i σ).2.2.1)
  | 0, i, σ, hk, hs => ⟨by rw [rdS, ff]; exact hk, fun _ => by rw [rdS, ← show i = ln from by omega]; exact hs⟩
  | k + 1, i, σ, hk, hs => by
    have h5 := sc_lt cs i _ hs
    have hc := hC i (by omega)
    have ho := ok_np hc h5
    rw [rdS, ff]
    cases e : npC σ.2.1 (cs i) with
    | none =>
      have e2 : scS cs (i + 1) = none := by rw [scS, hs]; exact e
      rw [e] at ho
      rw [if_neg (by rw [ho]; decide), if_pos (by rw [e2]; rfl)]
      exact ⟨rfl, fun q => absurd q (by show ¬ i = ln; omega)⟩
    | some j =>
      have e2 : scS cs (i + 1) = some (stNx (cs i) σ).2.1 := by rw [scS, hs, nx_np h5 e]; exact e
      rw [e] at ho
      rw [if_pos (by rw [ho]; rfl), if_neg (by rw [e2]; exact Bool.false_ne_true)]
      exact rd_sc hC k (i + 1) (stNx (cs i) σ) (by omega) e2
theorem rb_err {cs : Nat → Nat} {ln : Nat} (h : CB cs ln) (pn : Int32) (pf : Nat → Int32) : (rbS cs ln pn pf).1 = errS cs ln := by
  have h1 := (rd_sc (cs := cs) (ln := ln) (fun j hj => by have := (h.2 j hj).2; omega) ln 0 (0, 0, pn, pf) (by omega) rfl).1
  unfold rbS errS
  rw [h1]
  cases ff (fun i_ => (scS cs (i_ + 1)).isNone) 0 ln <;> rfl
theorem wh_cmp {cs : Nat → Nat} {ln : Nat} (h : CB cs ln) (pn : Int32) (pf : Nat → Int32) : whS cs ln pn pf = cmpS cs ln := by
  have h1 := rd_sc (cs := cs) (ln := ln) (fun j hj => by have := (h.2 j hj).2; omega) ln 0 (0, 0, pn, pf) (by omega) rfl
  unfold whS cmpS
  by_cases q : (rbS cs ln pn pf).1 = ln
  · rw [h1.2 q, decide_eq_true q, Bool.true_and]
    exact decide_eq_decide.mpr ⟨fun z => congrArg some z, fun z => Option.some.inj z⟩
  · rw [decide_eq_false q, Bool.false_and]
    symm
    refine decide_eq_false fun z => q ?_
    unfold rbS
    rw [h1.1]
    cases e : ff (fun i_ => (scS cs (i_ + 1)).isNone) 0 ln with
    | none => rfl
    | some k =>
      have hk := ff_lt _ _ _ e
      have h2 : scS cs (k + 1) = none := Option.isNone_iff_eq_none.mp hk.2.2
      rw [sc_none cs h2 ln (by omega)] at z
      cases z
