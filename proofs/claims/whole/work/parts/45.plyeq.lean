/-! play, both sides -/
theorem rd_pmM {cs : Nat → Nat} : ∀ (k i : Nat) (σ : RS), pmM (rdS cs k i σ).2 ≤ pmM σ + k
  | 0, i, σ => Nat.le_refl _
  | k + 1, i, σ => by
    have h1 := pmM_nx (cs i) σ
    rw [rdS]
    split
    · have := rd_pmM (cs := cs) k (i + 1) (stNx (cs i) σ)
      omega
    · show pmM (stNx (cs i) σ) ≤ _
      omega
theorem ply_eq {cs : Nat → Nat} {ln : Nat} (h : CB cs ln) (hw : cmpS cs ln = true) (pn : Int32) (pf : Nat → Int32) : PcOK (rbS cs ln pn pf).2.2.2.2 (rbS cs ln pn pf).2.1 ∧ ∀ T, plR (rbS cs ln pn pf).2.2.2.2 (rbS cs ln pn pf).2.1 0 T = plyS cs ln T := by
  have hw4 : scS cs ln = some 4 := of_decide_eq_true hw
  have hR : RR (0, 0, pn, pf) 0 0 := ⟨fun q => absurd (show (2 : Nat) ≤ 0 from q) (by decide), fun q => absurd (show (0 : Nat) = 1 from q) (by decide), fun q => absurd (show (0 : Nat) = 3 from q) (by decide)⟩
  have hm := rd_turns (cs := cs) (ln := ln) (fun j hj => by have := (h.2 j hj).2; omega) hw4 ln 0 (0, 0, pn, pf) 0 0 (by omega) rfl hR rfl rfl
  have hb := rd_pmM (cs := cs) ln 0 (0, 0, pn, pf)
  have hb2 := pmM_le (rdS cs ln 0 (0, 0, pn, pf)).2
  have hb3 : pmM ((0, 0, pn, pf) : RS) = 0 := rfl
  have h60 := h.1
  refine ⟨⟨?_, fun i hi => hm.2 i (Nat.zero_le _) hi⟩, fun T => (hm.1 T).symm⟩
  show (rdS cs ln 0 (0, 0, pn, pf)).2.1 ≤ 30
  omega
