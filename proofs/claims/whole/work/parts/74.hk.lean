/-! houses stand where no track lies: kept by every change -/
theorem HK.eq {T U : TW} (h0 : U 0 = T 0) (h1 : U 1 = T 1) (h : HK T) : HK U := by
  intro s hs hh
  unfold hsT at hh
  rw [h0] at hh
  have := h s hs (by unfold hsT; exact hh)
  unfold mkT at this ⊢
  rw [h1]
  exact this
theorem set_ne {T : TW} {k i j : Nat} {v : Int32} (h : ¬ j = k) : setT T k i v j = T j := if_neg h
theorem HK.set {T : TW} {k i : Nat} {v : Int32} (h : HK T) (h0 : ¬ 0 = k) (h1 : ¬ 1 = k) : HK (setT T k i v) := HK.eq (set_ne h0) (set_ne h1) h
theorem HK.hou {T : TW} {s : Nat} {v : Int32} (h : HK T) (hm : mkT T s = 0) : HK (setT T 0 s v) := by
  intro q hq hh
  have e1 : setT T 0 s v 1 = T 1 := set_ne (by decide)
  unfold mkT
  rw [e1]
  by_cases z : q = s
  · subst z
    exact hm
  · refine h q hq ?_
    unfold hsT at hh ⊢
    have e0 : setT T 0 s v 0 q = T 0 q := by
      unfold setT upd
      rw [if_pos rfl]
      exact if_neg z
    rw [e0] at hh
    exact hh
theorem lay_0 (T : TW) (p to d : Nat) : layT T p to d 0 = T 0 := by
  unfold layT
  split <;> rfl
theorem lay_1n (T : TW) (p to d : Nat) {s : Nat} (h : ¬ s = to) : layT T p to d 1 s = T 1 s := by
  rw [lay_1]
  exact if_neg h
theorem HK.lay {T : TW} {p to d : Nat} (h : HK T) (ho : hsT T to = false) : HK (layT T p to d) := by
  intro s hs hh
  unfold hsT at hh
  rw [lay_0] at hh
  have hh2 : hsT T s = true := hh
  by_cases z : s = to
  · subst z
    rw [ho] at hh2
    cases hh2
  · have := h s hs hh2
    unfold mkT at this ⊢
    rw [lay_1n T p to d z]
    exact this
theorem obs_hs {T : TW} {p s : Nat} (h : obsT T p s = 0) : hsT T s = false := by
  unfold obsT at h
  split at h
  · omega
  · rename_i q
    cases e : hsT T s with
    | false => rfl
    | true => exact absurd e q
theorem HK.rm {T : TW} {p s : Nat} (h : HK T) : HK (rmT T p s) := by
  intro q hq hh
  have e0 : rmT T p s 0 = T 0 := by
    unfold rmT
    split <;> rfl
  have e1 : rmT T p s 1 q = if q = s then nI (clr (mkT T s) p) else T 1 q := by
    unfold rmT
    split <;> rfl
  unfold hsT at hh
  rw [e0] at hh
  have h2 := h q hq hh
  unfold mkT
  rw [e1]
  by_cases z : q = s
  · subst z
    rw [if_pos rfl]
    have := clr_le (mkT T q) p
    rw [h2] at this ⊢
    have e : clr 0 p = 0 := by omega
    rw [e]
    rfl
  · rw [if_neg z]
    exact h2
theorem tuR_HK {T : TW} {p : Nat} (h : HK T) : ∀ k, HK (tuR T p k)
  | 0 => h
  | k + 1 => by
    show HK (if hasT (tuR T p k) p k = true ∧ ¬ k = dep p then rmT (tuR T p k) p k else tuR T p k)
    split
    · exact (tuR_HK h k).rm
    · exact tuR_HK h k
theorem HK.tk {T : TW} {p : Nat} (h : HK T) : HK (tkT T p) := ((tuR_HK h 80).set (by decide) (by decide)).set (by decide) (by decide)
theorem HK.stp {T : TW} {t s p : Nat} (h : HK T) : HK (stpT T t s p) := (h.set (by decide) (by decide)).set (by decide) (by decide)
theorem HK.drp {T : TW} {t : Nat} (h : HK T) : HK (drpT T t) := (h.set (by decide) (by decide)).set (by decide) (by decide)
theorem run_HK {cs : Nat → Nat} : ∀ (k i : Nat) (σ : PS), HK σ.1 → HK (runS cs k i σ).1
  | 0, i, σ, h => h
  | k + 1, i, σ, h => by
    rw [runS]
    split
    · exact run_HK k (i + 1) _ h
    · split
      · exact run_HK k (i + 1) _ h
      · rename_i d _
        split
        · rename_i hw
          split
          · exact h
          · rename_i to hto
            exact run_HK k (i + 1) _ (h.lay (obs_hs (why_obs hw hto)))
        · exact h
theorem ply_HK {cs : Nat → Nat} {ln : Nat} {T : TW} (h : HK T) : HK (plyS cs ln T).1 := run_HK ln 0 _ h
theorem plR_Inv {pf : Nat → Int32} {pm : Nat} (hP : PcOK pf pm) : ∀ (k i : Nat) (T : TW), i + k ≤ pm → Inv T → Inv (plR pf k i T).1
  | 0, i, T, _, h => h
  | k + 1, i, T, hi, h => by
    rw [plR]
    split
    · exact plR_Inv hP k (i + 1) _ (by omega) (plT1_inv h (pc_p hP (show i < pm by omega)).2 (pc_d hP (show i < pm by omega)).2)
    · exact h
theorem ply_Inv {cs : Nat → Nat} {ln : Nat} {T : TW} (hC : CB cs ln) (hw : cmpS cs ln = true) (h : Inv T) : Inv (plyS cs ln T).1 := by
  obtain ⟨h1, h2⟩ := ply_eq hC hw 0 (fun _ => 0)
  rw [← h2 T]
  exact plR_Inv h1 _ 0 T (by omega) h
def SvH (Sv : Nat → TW) (sn : Nat) : Prop := ∀ j, j < sn → HK (Sv j)
theorem SvH.save {Sv : Nat → TW} {sn : Nat} {T : TW} (h : SvH Sv sn) (hsn : sn ≤ 6) (hI : HK T) : SvH (svV Sv sn T) (svN sn) := by
  intro j hj
  unfold svN at hj
  unfold svV
  split
  · rename_i q
    rw [if_pos q] at hj
    unfold va_up
    split
    · exact hI
    · exact h j (by omega)
  · rename_i q
    rw [if_neg q] at hj
    unfold rotS
    split
    · exact h (j + 1) (by omega)
    · exact hI
