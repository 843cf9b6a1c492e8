/-! what the law's loop keeps, call by call -/
theorem in_tn {lo hi x : Int32} {a b : Nat} (ha : lo = nI a) (hb : hi = nI b) (hab : a < 2 ^ 31) (hbb : b < 2 ^ 31) (h : inR lo hi x = true) : a ≤ tn x ∧ tn x ≤ b ∧ x = nI (tn x) := by
  obtain ⟨k, h1, h2, h3⟩ := inR_nL ha hb hab hbb h
  rw [h3, tn_nI (by omega)]
  exact ⟨h1, h2, rfl⟩
theorem LI.hou {T : TW} {cs : Nat → Nat} {ln sn : Nat} {Sv : Nat → TW} {sv : Nat → Int32} {x : Int32} {on : Bool} (h : LI T cs ln sn Sv sv) (hE : houE T x = 0) : LI (setT T 0 (tn x) (bI on)) cs ln (svN sn) (svV Sv sn T) (savS sv sn T) := by
  unfold houE at hE
  split at hE
  · split at hE
    · rename_i hm
      exact h.chg h.1.hou (h.2.1.hou hm) h.2.2.1
    · cases hE
  · cases hE
theorem LI.stp {T : TW} {cs : Nat → Nat} {ln sn : Nat} {Sv : Nat → TW} {sv : Nat → Int32} {x y : Int32} {t : Nat} (h : LI T cs ln sn Sv sv) (hE : stE T x y = 0) : LI (stpT T t (tn x) (tn y)) cs ln (svN sn) (svV Sv sn T) (savS sv sn T) := by
  unfold stE at hE
  split at hE
  · rename_i h1
    split at hE
    · rename_i h2
      split at hE
      · cases hE
      · split at hE
        · rename_i h3
          have a1 := in_tn (a := 0) (b := 79) rfl rfl (by decide) (by decide) h1
          have a2 := in_tn (a := 0) (b := 3) rfl rfl (by decide) (by decide) h2
          exact h.chg (h.1.stp (by omega) (by omega) h3) h.2.1.stp h.2.2.1
        · cases hE
    · cases hE
  · cases hE
theorem LI.drp {T : TW} {cs : Nat → Nat} {ln sn : Nat} {Sv : Nat → TW} {sv : Nat → Int32} {t : Nat} (h : LI T cs ln sn Sv sv) : LI (drpT T t) cs ln (svN sn) (svV Sv sn T) (savS sv sn T) := h.chg h.1.drp h.2.1.drp h.2.2.1
theorem LI.lay1 {T : TW} {cs : Nat → Nat} {ln sn : Nat} {Sv : Nat → TW} {sv : Nat → Int32} {p f g d : Nat} (h : LI T cs ln sn Sv sv) (hp : p < 4) (hf : f < 80) (hd : d < 4) (hw : whyT T p f g d = 0) : LI (layT T p (toT f d) d) cs ln (svN sn) (svV Sv sn T) (savS sv sn T) := by
  obtain ⟨to, hto⟩ := why_nb hw
  rw [toT_s hto]
  exact h.chg (h.1.lay hp (nb_lt hf to hto) hd) (h.2.1.lay (obs_hs (why_obs hw hto))) h.2.2.1
theorem LI.lay {T : TW} {cs : Nat → Nat} {ln sn : Nat} {Sv : Nat → TW} {sv : Nat → Int32} {x g d : Int32} (h : LI T cs ln sn Sv sv) (hE : laE T x g d = 0) : LI (layT T (tn x) (toT (hdT T (tn x)) (tn d)) (tn d)) cs ln (svN sn) (svV Sv sn T) (savS sv sn T) := by
  unfold laE at hE
  split at hE
  · rename_i h1
    split at hE
    · split at hE
      · rename_i h3
        split at hE
        · rename_i h4
          have a1 := in_tn (a := 0) (b := 3) rfl rfl (by decide) (by decide) h1
          have a3 := in_tn (a := 0) (b := 3) rfl rfl (by decide) (by decide) h3
          exact h.lay1 (by omega) (hd_lt h.1 (by omega)) (by omega) h4
        · cases hE
      · cases hE
    · cases hE
  · cases hE
theorem LI.bra {T : TW} {cs : Nat → Nat} {ln sn : Nat} {Sv : Nat → TW} {sv : Nat → Int32} {x f d : Int32} (h : LI T cs ln sn Sv sv) (hE : brE T x f d = 0) : LI (layT T (tn x) (toT (tn f) (tn d)) (tn d)) cs ln (svN sn) (svV Sv sn T) (savS sv sn T) := by
  unfold brE at hE
  split at hE
  · rename_i h1
    split at hE
    · rename_i h2
      split at hE
      · split at hE
        · rename_i h3
          split at hE
          · rename_i h4
            have a1 := in_tn (a := 0) (b := 3) rfl rfl (by decide) (by decide) h1
            have a2 := in_tn (a := 0) (b := 79) rfl rfl (by decide) (by decide) h2
            have a3 := in_tn (a := 0) (b := 3) rfl rfl (by decide) (by decide) h3
            exact h.lay1 (by omega) (by omega) (by omega) h4
          · cases hE
        · cases hE
      · cases hE
    · cases hE
  · cases hE
theorem LI.giv {T : TW} {cs : Nat → Nat} {ln sn : Nat} {Sv : Nat → TW} {sv : Nat → Int32} {p : Nat} {v : Int32} (h : LI T cs ln sn Sv sv) : LI (setT T 5 p v) cs ln (svN sn) (svV Sv sn T) (savS sv sn T) := h.chg h.1.giv (h.2.1.set (by decide) (by decide)) h.2.2.1
theorem LI.set {T : TW} {cs : Nat → Nat} {ln sn : Nat} {Sv : Nat → TW} {sv : Nat → Int32} {x v : Int32} (h : LI T cs ln sn Sv sv) (hE : seE x v = 0) : LI (setT T 10 (tn x) v) cs ln (svN sn) (svV Sv sn T) (savS sv sn T) := by
  unfold seE at hE
  split at hE
  · rename_i h1
    split at hE
    · rename_i h2
      have a1 := in_tn (a := 0) (b := 2) rfl rfl (by decide) (by decide) h1
      have key : ∃ n, v = nI n ∧ (if tn x = 1 then 1 ≤ n ∧ n < 5 else n < 10) := by
        unfold stvR at h2
        split at h2
        · rename_i q
          have a2 := in_tn (a := 1) (b := 4) rfl rfl (by decide) (by decide) h2
          exact ⟨tn v, a2.2.2, by rw [if_pos (by omega)]; omega⟩
        · rename_i q
          have a2 := in_tn (a := 0) (b := 9) rfl rfl (by decide) (by decide) h2
          exact ⟨tn v, a2.2.2, by rw [if_neg (by omega)]; omega⟩
      obtain ⟨n, hn, hb⟩ := key
      subst hn
      exact h.chg (h.1.set0 (by omega) hb) (h.2.1.set (by decide) (by decide)) h.2.2.1
    · cases hE
  · cases hE
theorem LI.app {T : TW} {cs : Nat → Nat} {ln sn : Nat} {Sv : Nat → TW} {sv : Nat → Int32} {c : Int32} (h : LI T cs ln sn Sv sv) (hE : apE ln c = 0) : LI T (va_up cs ln (tn c)) (ln + 1) sn Sv sv := by
  unfold apE at hE
  split at hE
  · rename_i h1
    split at hE
    · cases hE
    · rename_i h2
      have a1 := in_tn (a := 33) (b := 126) rfl rfl (by decide) (by decide) h1
      exact h.txt (h.2.2.1.add h2 a1.1 a1.2.1)
  · cases hE
theorem LI.ply {T : TW} {cs : Nat → Nat} {ln sn : Nat} {Sv : Nat → TW} {sv : Nat → Int32} (h : LI T cs ln sn Sv sv) (hE : cmpS cs ln = true) : LI (plyS cs ln T).1 cs 0 (svN sn) (svV Sv sn T) (savS sv sn T) := h.chg (ply_Inv h.2.2.1 hE h.1) (ply_HK h.2.1) (CB.zero cs)
theorem Inv.tk {T : TW} {p : Nat} (hI : Inv T) (hp : p < 4) : Inv (tkT T p) := by
  have h := tuR_inv hI hp 80 (Nat.le_refl 80)
  obtain ⟨i0, i1, i2, i3, i4, i6, i7, i8, i9, i10, i11⟩ := h
  refine ⟨i0, i1, i2, i3, i4, fun q hq => ?_, fun q hq => ?_, i8, i9, i10, i11⟩
  · show ∃ h, h < 80 ∧ upd (tuR T p 80 6) p (nI (dep p)) q = nI h
    unfold upd
    split
    · exact ⟨dep p, Nat.lt_succ_of_le (dep_lt p), rfl⟩
    · exact i6 q hq
  · show upd (tuR T p 80 7) p (-1) q = -1 ∨ ∃ d, d < 4 ∧ upd (tuR T p 80 7) p (-1) q = nI d
    unfold upd
    split
    · exact Or.inl rfl
    · exact i7 q hq
theorem LI.tak {T : TW} {cs : Nat → Nat} {ln sn : Nat} {Sv : Nat → TW} {sv : Nat → Int32} {x : Int32} (h : LI T cs ln sn Sv sv) (hE : tuE x = 0) : LI (tkT T (tn x)) cs ln (svN sn) (svV Sv sn T) (savS sv sn T) := by
  unfold tuE at hE
  split at hE
  · rename_i h1
    have a1 := in_tn (a := 0) (b := 3) rfl rfl (by decide) (by decide) h1
    exact h.chg (h.1.tk (by omega)) h.2.1.tk h.2.2.1
  · cases hE
theorem bq_bd (T : TW) (p g : Nat) (fa : Nat → Nat) : oI (bq T p g fa).1 = oI (bdT T p g) := congrArg oI (bq_fa T p g fa)
theorem wh_is {cs : Nat → Nat} {ln : Nat} (h : CB cs ln) (pn : Int32) (pf : Nat → Int32) (hc : cmpS cs ln = true) : whS cs ln pn pf = true := by rw [wh_cmp h]; exact hc
theorem wh_pc {cs : Nat → Nat} {ln : Nat} (h : CB cs ln) (pn : Int32) (pf : Nat → Int32) : whS cs ln pn pf = true → PcOK (rbS cs ln pn pf).2.2.2.2 (rbS cs ln pn pf).2.1 := fun q => (ply_eq h (by rw [← wh_cmp h pn pf]; exact q) pn pf).1
