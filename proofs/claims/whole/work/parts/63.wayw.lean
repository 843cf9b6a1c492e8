/-! the searches' rows after a digest -/
def wyM (T : TW) (p : Nat) : Nat → WS → WS
  | 0, σ => σ
  | k + 1, σ => mfS T p (wyM T p k σ).2.1
def wyP (T : TW) (p : Nat) (σ : WS) : WS := wyM T p 6 (cheS T p (fewS T p σ.2.1).1, (fewS T p σ.2.1).2.1, (fewS T p σ.2.1).2.2)
def wyD (T : TW) : Nat → WS → WS
  | 0, σ => σ
  | p + 1, σ => wyP T p (wyD T p σ)
theorem wyM_zero (T : TW) (p : Nat) (σ : WS) : wyM T p 0 σ = σ := rfl
theorem wyM_succ (T : TW) (p k : Nat) (σ : WS) : wyM T p (k + 1) σ = mfS T p (wyM T p k σ).2.1 := rfl
theorem wyP_eq (T : TW) (p : Nat) (σ : WS) : wyP T p σ = wyM T p 6 (cheS T p (fewS T p σ.2.1).1, (fewS T p σ.2.1).2.1, (fewS T p σ.2.1).2.2) := rfl
theorem wyD_zero (T : TW) (σ : WS) : wyD T 0 σ = σ := rfl
theorem wyD_succ (T : TW) (p : Nat) (σ : WS) : wyD T (p + 1) σ = wyP T p (wyD T p σ) := rfl
theorem bd_dir {T : TW} {p g : Nat} (hI : Inv T) (hK : HK T) (qu : Nat → Nat) (hp : p < 4) : oI (dirB T p g qu) = oI (bdT T p g) := congrArg oI (dirB_eq hI hK qu (fun _ => 0) hp)
