/-! the turns of a whole text are the list's -/
theorem rd_turns {cs : Nat → Nat} {ln PM : Nat} {F : Nat → Int32} (hC : ∀ j, j < ln → cs j < 128) (hw : scS cs ln = some 4) : ∀ (k i : Nat) (σ : RS) (p g : Nat), i + k = ln → scS cs i = some σ.2.1 → RR σ p g → (rdS cs k i σ).2.2.2.2 = F → (rdS cs k i σ).2.1 = PM → (∀ Tx, runS cs k i (Tx, σ.1, p, g) = plR F (PM - σ.1) σ.1 Tx) ∧ ∀ q, σ.1 ≤ q → q < PM → PcAt F q
  | 0, i, σ, p, g, hk, hs, hR, hF, hP => by
    rw [rdS] at hP
    have hP : σ.1 = PM := hP
    refine ⟨fun Tx => ?_, fun q h1 h2 => by omega⟩
    rw [runS, hP, Nat.sub_self, plR]
  | k + 1, i, σ, p, g, hk, hs, hR, hF, hP => by
    have h5 := sc_lt cs i _ hs
    have hc := hC i (by omega)
    have ho := ok_np hc h5
    cases e : npC σ.2.1 (cs i) with
    | none =>
      have e2 : scS cs (i + 1) = none := by rw [scS, hs]; exact e
      rw [sc_none cs e2 ln (by omega)] at hw
      cases hw
    | some st' =>
      have e2 : scS cs (i + 1) = some (stNx (cs i) σ).2.1 := by rw [scS, hs, nx_np h5 e]; exact e
      rw [e] at ho
      rw [rdS, if_pos (by rw [ho]; rfl)] at hF hP
      by_cases h58 : cs i = 58
      · have hr := hR.colon e h58
        have ih := rd_turns hC hw k (i + 1) (stNx (cs i) σ) g g (by omega) e2 hr.1 hF hP
        rw [hr.2] at ih
        refine ⟨fun Tx => ?_, ih.2⟩
        rw [runS, if_pos h58]
        exact ih.1 Tx
      · cases hd : dirC (cs i) with
        | none =>
          have hr := hR.other h5 hc e h58 hd
          have ih := rd_turns hC hw k (i + 1) (stNx (cs i) σ) p (cs i - 48) (by omega) e2 hr.1 hF hP
          rw [hr.2] at ih
          refine ⟨fun Tx => ?_, ih.2⟩
          rw [runS, if_neg h58, hd]
          exact ih.1 Tx
        | some d =>
          obtain ⟨e3, e4⟩ := np_dir e hd
          have hd4 := dirC_lt _ d hd
          have hx := hR.2.2 e3
          have hpn := hR.1 (by omega)
          have en : stNx (cs i) σ = (σ.1 + 1, 4, σ.2.2.1, upd σ.2.2.2 (3 * σ.1 + 2) (oI (some d))) := by
            unfold stNx
            rw [if_neg (by omega), if_neg (by omega), if_pos e3, hd]
          rw [en] at e2 hF hP
          have hr : RR (σ.1 + 1, 4, σ.2.2.1, upd σ.2.2.2 (3 * σ.1 + 2) (oI (some d))) p g := ⟨fun _ => hpn, fun q => absurd (show (4 : Nat) = 1 from q) (by decide), fun q => absurd (show (4 : Nat) = 3 from q) (by decide)⟩
          have ih := rd_turns hC hw k (i + 1) _ p g (by omega) e2 hr hF hP
          have hpm := rd_pm (cs := cs) k (i + 1) (σ.1 + 1, 4, σ.2.2.1, upd σ.2.2.2 (3 * σ.1 + 2) (oI (some d)))
          rw [hP] at hpm
          have hpm : σ.1 + 1 ≤ PM := hpm
          have kp : ∀ j, j < 3 * (σ.1 + 1) → F j = upd σ.2.2.2 (3 * σ.1 + 2) (oI (some d)) j := fun j hj => by
            rw [← hF]
            exact rd_keep k (i + 1) _ j (show j < limR _ by unfold limR; rw [if_neg (show ¬ (4 : Nat) = 3 by decide)]; exact hj)
          have f0 : F (3 * σ.1) = nI p := by rw [kp _ (by omega)]; unfold upd; rw [if_neg (by omega)]; exact hx.1
          have f1 : F (3 * σ.1 + 1) = nI g := by rw [kp _ (by omega)]; unfold upd; rw [if_neg (by omega)]; exact hx.2.1
          have f2 : F (3 * σ.1 + 2) = nI d := by rw [kp _ (by omega)]; unfold upd; rw [if_pos rfl]; rfl
          have g0 : pcP F σ.1 = p := by unfold pcP; rw [f0, tn_nI (by omega)]
          have g1 : pcG F σ.1 = g := by unfold pcG; rw [f1, tn_nI (by omega)]
          have g2 : pcD F σ.1 = d := by unfold pcD; rw [f2, tn_nI (by omega)]
          refine ⟨fun Tx => ?_, fun q h1 h2 => ?_⟩
          · rw [runS, if_neg h58, hd]
            by_cases hy : whyT Tx p (hdT Tx p) g d = 0
            · obtain ⟨to, hto⟩ := why_nb hy
              rw [plR_ok (by omega) (by rw [g0, g1, g2]; exact decide_eq_true hy), g0, g1, g2, plT1_ok hy hto]
              simp only [hy, hto, if_true]
              exact ih.1 _
            · rw [plR_no (by omega) (by rw [g0, g1, g2]; exact decide_eq_false hy)]
              simp only [hy, if_false]
          · rcases Nat.lt_or_ge σ.1 q with z | z
            · exact ih.2 q z h2
            · have z2 : q = σ.1 := by omega
              subst z2
              exact ⟨⟨p, hpn.2, f0⟩, ⟨g, hx.2.2, f1⟩, ⟨d, hd4, f2⟩⟩
