/-! shortest ways -/
def wgt (T : TW) (m s : Nat) : Nat := if m = 0 then 1 else tollT T s
theorem wgt_le {T : TW} {m s : Nat} (hI : Inv T) : wgt T m s ≤ 36 := by
  unfold wgt
  split
  · decide
  · exact toll_lt hI
/-- from the line to s in at most k steps at the cost n -/
def rch (T : TW) (p m : Nat) : Nat → Nat → Nat → Prop
  | 0, n, s => s < 80 ∧ hasT T p s = true ∧ n = 0
  | k + 1, n, s => rch T p m k n s ∨ (s < 80 ∧ obsT T p s = 0 ∧ ∃ d a q, d < 4 ∧ nbT s d = some a ∧ rch T p m k q a ∧ n = q + wgt T m s)
def rcS (T : TW) (p m n s : Nat) : Prop := ∃ k, rch T p m k n s
theorem least_ex {P : Nat → Prop} (h : ∃ n, P n) : ∃ n, P n ∧ ∀ m, P m → n ≤ m := by
  obtain ⟨n, hn⟩ := h
  induction n using Nat.strongRecOn with
  | ind n ih =>
    by_cases q : ∃ m, m < n ∧ P m
    · obtain ⟨m, hm, hp⟩ := q
      exact ih m hm hp
    · exact ⟨n, hn, fun m hm => Nat.le_of_not_lt fun z => q ⟨m, z, hm⟩⟩
noncomputable def dst (T : TW) (p m : Nat) : Nat → Nat := fun s => @dite Nat (∃ n, n < 1000000 ∧ rcS T p m n s) (Classical.propDecidable _) (fun h => (least_ex h).choose) (fun _ => 1000000)
def IsD (T : TW) (p m : Nat) (dS : Nat → Nat) : Prop :=
  (∀ s, s < 80 → hasT T p s = true → dS s = 0) ∧
  (∀ s d a, s < 80 → d < 4 → nbT s d = some a → dS a < 1000000 → obsT T p s = 0 → dS s ≤ dS a + wgt T m s) ∧
  (∀ s, s < 80 → dS s < 1000000 → rcS T p m (dS s) s) ∧
  (∀ s, dS s ≤ 1000000)
theorem dst_le {T : TW} {p m n s : Nat} (h : rcS T p m n s) : dst T p m s ≤ n := by
  unfold dst
  split
  · rename_i q
    rcases Nat.lt_or_ge n 1000000 with z | z
    · exact (least_ex q).choose_spec.2 n ⟨z, h⟩
    · exact Nat.le_trans (Nat.le_of_lt (least_ex q).choose_spec.1.1) z
  · rename_i q
    exact Nat.le_of_not_lt fun z => q ⟨n, z, h⟩
theorem dst_rc {T : TW} {p m s : Nat} (h : dst T p m s < 1000000) : rcS T p m (dst T p m s) s := by
  unfold dst at h ⊢
  split
  · rename_i q
    exact (least_ex q).choose_spec.1.2
  · rename_i q
    rw [dif_neg q] at h
    exact absurd h (Nat.lt_irrefl _)
theorem dst_top (T : TW) (p m s : Nat) : dst T p m s ≤ 1000000 := by
  unfold dst
  split
  · rename_i q
    exact Nat.le_of_lt (least_ex q).choose_spec.1.1
  · exact Nat.le_refl _
theorem dst_ok (T : TW) (p m : Nat) : IsD T p m (dst T p m) := by
  refine ⟨fun s hs h => ?_, fun s d a hs hd hn ha ho => ?_, fun s _ h => dst_rc h, fun s => dst_top T p m s⟩
  · exact Nat.le_zero.mp (dst_le ⟨0, hs, h, rfl⟩)
  · obtain ⟨k, hk⟩ := dst_rc ha
    exact dst_le ⟨k + 1, Or.inr ⟨hs, ho, d, a, _, hd, hn, hk, rfl⟩⟩
/-- a square's number is settled from its neighbour d -/
def Rlx (T : TW) (p m : Nat) (f : Nat → Nat) (s d : Nat) : Prop := ∀ a, nbT s d = some a → f a < 1000000 → obsT T p s = 0 → f s ≤ f a + wgt T m s
def FI (T : TW) (p : Nat) (dS f : Nat → Nat) : Prop := ∀ s, s < 80 → dS s ≤ f s ∧ f s ≤ 1000000 ∧ (hasT T p s = true → f s = 0)
theorem rc_le {T : TW} {p m : Nat} {dS f : Nat → Nat} (hF : FI T p dS f) (hR : ∀ s d, s < 80 → d < 4 → Rlx T p m f s d) : ∀ k n s, rch T p m k n s → n < 1000000 → f s ≤ n
  | 0, n, s, h, _ => by
    obtain ⟨h1, h2, h3⟩ := h
    rw [(hF s h1).2.2 h2]
    exact Nat.zero_le _
  | k + 1, n, s, h, hn => by
    rcases h with h | ⟨h1, h2, d, a, q, hd, h3, h4, h5⟩
    · exact rc_le hF hR k n s h hn
    · have h6 := rc_le hF hR k q a h4 (by omega)
      have h7 := hR s d h1 hd a h3 (by omega) h2
      omega
theorem FI.final {T : TW} {p m : Nat} {dS f : Nat → Nat} (hF : FI T p dS f) (hR : ∀ s d, s < 80 → d < 4 → Rlx T p m f s d) (hD : IsD T p m dS) : ∀ s, s < 80 → f s = dS s := by
  intro s hs
  have h1 := hF s hs
  rcases Nat.lt_or_ge (dS s) 1000000 with q | q
  · obtain ⟨k, hk⟩ := hD.2.2.1 s hs q
    have := rc_le hF hR k _ s hk q
    omega
  · omega
/-- within a sweep -/
def SI (T : TW) (p m : Nat) (dS f0 f : Nat → Nat) (mo k : Nat) : Prop := FI T p dS f ∧ mo < 2 ∧ (mo = 0 → f = f0 ∧ ∀ s d, d < 4 → 4 * s + d < k → Rlx T p m f s d) ∧ (mo = 1 → fb_sm f 80 < fb_sm f0 80)
theorem SI.start {T : TW} {p m : Nat} {dS f : Nat → Nat} (h : FI T p dS f) : SI T p m dS f f 0 0 := ⟨h, by decide, fun _ => ⟨rfl, fun s d _ q => absurd q (Nat.not_lt_zero _)⟩, fun q => by cases q⟩
theorem SI.skip {T : TW} {p m : Nat} {dS f0 f : Nat → Nat} {mo k : Nat} (h : SI T p m dS f0 f mo k) (hR : Rlx T p m f (k / 4) (k % 4)) : SI T p m dS f0 f mo (k + 1) := by
  obtain ⟨h1, h2, h3, h4⟩ := h
  refine ⟨h1, h2, fun q => ⟨(h3 q).1, fun s d hd hk => ?_⟩, h4⟩
  rcases Nat.lt_or_ge (4 * s + d) k with z | z
  · exact (h3 q).2 s d hd z
  · have e1 : s = k / 4 := by omega
    have e2 : d = k % 4 := by omega
    rw [e1, e2]
    exact hR
theorem SI.step {T : TW} {p m : Nat} {dS f0 f : Nat → Nat} {mo k a : Nat} (h : SI T p m dS f0 f mo k) (hD : IsD T p m dS) (hk : k < 320) (hn : nbT (k / 4) (k % 4) = some a) (ha : a < 80) (hfa : f a < 1000000) (ho : obsT T p (k / 4) = 0) (hlt : f a + wgt T m (k / 4) < f (k / 4)) : SI T p m dS f0 (va_up f (k / 4) (f a + wgt T m (k / 4))) 1 (k + 1) := by
  obtain ⟨h1, h2, h3, h4⟩ := h
  have hs := h1 (k / 4) (by omega)
  have hda := h1 a ha
  refine ⟨fun s hs80 => ?_, by decide, fun q => (by cases q), fun _ => ?_⟩
  · unfold va_up
    split
    · rename_i e
      subst e
      have := hD.2.1 _ _ _ hs80 (by omega) hn (by omega) ho
      refine ⟨by omega, by omega, fun q => ?_⟩
      have := hs.2.2 q
      omega
    · exact h1 s hs80
  · have hu := fb_sm_upd f (f a + wgt T m (k / 4)) (i := k / 4) (n := 80) (by omega)
    have e : (fun j => if j = k / 4 then f a + wgt T m (k / 4) else f j) = va_up f (k / 4) (f a + wgt T m (k / 4)) := rfl
    rw [e] at hu
    rcases (show mo = 0 ∨ mo = 1 by omega) with q | q
    · rw [← (h3 q).1]
      omega
    · have := h4 q
      omega
theorem SI.done {T : TW} {p m : Nat} {dS f0 f : Nat → Nat} {mo : Nat} (h : SI T p m dS f0 f mo 320) (q : mo = 0) : ∀ s d, s < 80 → d < 4 → Rlx T p m f s d := fun s d hs hd => (h.2.2.1 q).2 s d hd (by omega)
theorem SI.less {T : TW} {p m : Nat} {dS f0 f : Nat → Nat} {mo k : Nat} (h : SI T p m dS f0 f mo k) : 2 * fb_sm f 80 + mo < 2 * fb_sm f0 80 + 1 := by
  rcases (show mo = 0 ∨ mo = 1 by have := h.2.1; omega) with q | q
  · rw [q, (h.2.2.1 q).1]
    omega
  · have := h.2.2.2 q
    omega
def wyO (x : Nat) : Option Nat := if x < 1000000 then some x else none
theorem wyO_lt (x : Nat) : ∀ k, wyO x = some k → k < 1000000 := by
  intro k h
  unfold wyO at h
  split at h
  · cases h; assumption
  · cases h
/-- the town with one more square on the line of p -/
def mrk (T : TW) (p to : Nat) : TW := setT T 1 to (nI (mkT T to ||| 2 ^ p))
theorem mrk_back {T : TW} {p to : Nat} {v : Int32} (h : v = T 1 to) : setT (mrk T p to) 1 to v = T := by
  subst h
  unfold mrk
  funext k i
  unfold setT upd
  by_cases h1 : k = 1
  · subst h1
    rw [if_pos rfl, if_pos rfl]
    by_cases h2 : i = to
    · rw [if_pos h2, h2]
    · rw [if_neg h2, if_neg h2]
  · rw [if_neg h1, if_neg h1]
theorem Inv.mark {T : TW} {p to : Nat} (hI : Inv T) (hp : p < 4) (hto : to < 80) : Inv (mrk T p to) := by
  have hm := mk_lt hI hto
  have hob := or_bit hm hp
  have h0 := mk_0 hI
  obtain ⟨i0, i1, i2, i3, i4, i6, i7, i8, i9, i10, -⟩ := hI
  refine ⟨i0, fun s hs => ?_, i2, i3, i4, i6, i7, i8, i9, i10, ?_⟩
  · show ∃ m, m < 16 ∧ upd (T 1) to (nI (mkT T to ||| 2 ^ p)) s = nI m
    unfold upd
    split
    · exact ⟨_, hob.1, rfl⟩
    · exact i1 s hs
  · show tn (upd (T 1) to (nI (mkT T to ||| 2 ^ p)) 0) % 2 = 1
    unfold upd
    split
    · rename_i h
      rw [tn_nI (by omega), hob.2]
      split
      · rfl
      · rw [← h]; exact h0
    · exact h0
def nrD (T : TW) (p : Nat) (f : Nat → Nat) : Nat → Nat
  | 0 => 1000000
  | k + 1 => match sqT T k with
    | none => nrD T p f k
    | some s => if missT T p k = true ∧ f s < nrD T p f k then f s else nrD T p f k
theorem nrD_le (T : TW) (p : Nat) (f : Nat → Nat) : ∀ k, nrD T p f k ≤ 1000000
  | 0 => Nat.le_refl _
  | k + 1 => by
    have := nrD_le T p f k
    rw [nrD]
    split
    · exact this
    · split
      · rename_i h
        have := h.2
        omega
      · exact this
theorem mis_bit (T : TW) (p : Nat) : ∀ n i, misM T p n < 2 ^ n ∧ ((misM T p n / 2 ^ i &&& 1 = 1) ↔ (i < n ∧ missT T p i = true))
  | 0, i => by
    refine ⟨Nat.zero_lt_one, ?_⟩
    rw [misM, Nat.zero_div]
    exact ⟨fun q => (by cases q), fun q => absurd q.1 (Nat.not_lt_zero _)⟩
  | n + 1, i => by
    have h1 := (mis_bit T p n i).1
    have h2 := (mis_bit T p n i).2
    rw [misM]
    have e1 : ∀ x : Nat, (x / 2 ^ i &&& 1 = 1) ↔ x.testBit i = true := fun x => by
      rw [Nat.testBit_eq_decide_div_mod_eq, Nat.and_one_is_mod]
      exact ⟨fun q => decide_eq_true q, fun q => of_decide_eq_true q⟩
    rw [e1] at h2 ⊢
    refine ⟨?_, ?_⟩
    · refine Nat.or_lt_two_pow (Nat.lt_trans h1 (Nat.pow_lt_pow_right (by decide) (Nat.lt_succ_self n))) ?_
      split
      · exact Nat.pow_lt_pow_right (by decide) (Nat.lt_succ_self n)
      · exact Nat.pow_pos (by decide)
    · rw [Nat.testBit_or, Bool.or_eq_true, h2]
      by_cases hm : missT T p n = true
      · rw [if_pos hm, Nat.testBit_two_pow]
        constructor
        · rintro (q | q)
          · exact ⟨by omega, q.2⟩
          · have := of_decide_eq_true q
            exact ⟨by omega, this ▸ hm⟩
        · intro q
          by_cases e : n = i
          · exact Or.inr (decide_eq_true e)
          · exact Or.inl ⟨by omega, q.2⟩
      · rw [if_neg hm, Nat.zero_testBit]
        constructor
        · rintro (q | q)
          · exact ⟨by omega, q.2⟩
          · cases q
        · intro q
          by_cases e : n = i
          · exact absurd (e ▸ q.2) hm
          · exact Or.inl ⟨by omega, q.2⟩
theorem miss_sq2 {T : TW} {p i : Nat} (hI : Inv T) (hi : i < 12) (h : missT T p i = true) : ∃ s, sqT T i = some s := by
  unfold missT at h
  rw [Bool.and_eq_true] at h
  exact pl_sq hI hi (of_decide_eq_true h.1)
theorem nrD_yes {T : TW} {p i s : Nat} {f : Nat → Nat} (h : sqT T i = some s) (hm : missT T p i = true) (hl : f s < nrD T p f i) : nrD T p f (i + 1) = f s := by
  rw [nrD, h]
  exact if_pos ⟨hm, hl⟩
theorem nrD_no {T : TW} {p i s : Nat} {f : Nat → Nat} (h : sqT T i = some s) (hl : ¬ f s < nrD T p f i) : nrD T p f (i + 1) = nrD T p f i := by
  rw [nrD, h]
  exact if_neg fun q => hl q.2
theorem nrD_out {T : TW} {p i : Nat} {f : Nat → Nat} (h : ¬ missT T p i = true) : nrD T p f (i + 1) = nrD T p f i := by
  rw [nrD]
  split
  · rfl
  · exact if_neg fun q => h q.1
abbrev BR : Type := Option Nat × Nat × Nat × (Nat → Nat)
def btrP (r : BR) (x t : Nat) : Prop := x < r.2.1 ∨ (x = r.2.1 ∧ ¬ r.1 = none ∧ t < r.2.2.1)
def btr (r : BR) (x t : Nat) : Bool := decide (x < r.2.1) || (decide (x = r.2.1) && (!decide (r.1 = none) && decide (t < r.2.2.1)))
theorem btr_iff (r : BR) (x t : Nat) : btr r x t = true ↔ btrP r x t := by
  unfold btr btrP
  simp only [Bool.or_eq_true, Bool.and_eq_true, decide_eq_true_eq, Bool.not_eq_true', decide_eq_false_iff_not]
noncomputable def frD (T : TW) (p to : Nat) : Nat → Nat := dst (mrk T p to) p 0
noncomputable def frN (T : TW) (p to : Nat) : Nat := nrD T p (frD T p to) 12
noncomputable def bsR (T : TW) (p g : Nat) (fa : Nat → Nat) : Nat → BR
  | 0 => (none, 1000000, 0, fa)
  | d + 1 => if whyT T p (hdT T p) g d = 0 then (match nbT (hdT T p) d with
    | none => bsR T p g fa d
    | some to => if btr (bsR T p g fa d) (frN T p to) (tollT T to) = true then (some d, frN T p to, tollT T to, frD T p to) else ((bsR T p g fa d).1, (bsR T p g fa d).2.1, (bsR T p g fa d).2.2.1, frD T p to)) else bsR T p g fa d
theorem bsR_no {T : TW} {p g d : Nat} {fa : Nat → Nat} (h : ¬ whyT T p (hdT T p) g d = 0) : bsR T p g fa (d + 1) = bsR T p g fa d := by
  rw [bsR, if_neg h]
theorem bsR_new {T : TW} {p g d to : Nat} {fa : Nat → Nat} (h : whyT T p (hdT T p) g d = 0) (hn : nbT (hdT T p) d = some to) (hb : btrP (bsR T p g fa d) (frN T p to) (tollT T to)) : bsR T p g fa (d + 1) = (some d, frN T p to, tollT T to, frD T p to) := by
  rw [bsR, if_pos h, hn]
  exact if_pos ((btr_iff _ _ _).mpr hb)
theorem bsR_old {T : TW} {p g d to : Nat} {fa : Nat → Nat} (h : whyT T p (hdT T p) g d = 0) (hn : nbT (hdT T p) d = some to) (hb : ¬ btrP (bsR T p g fa d) (frN T p to) (tollT T to)) : bsR T p g fa (d + 1) = ((bsR T p g fa d).1, (bsR T p g fa d).2.1, (bsR T p g fa d).2.2.1, frD T p to) := by
  rw [bsR, if_pos h, hn]
  exact if_neg fun q => hb ((btr_iff _ _ _).mp q)
theorem bsR_lt {T : TW} (hI : Inv T) (p g : Nat) (fa : Nat → Nat) : ∀ d, d ≤ 4 → (∀ k, (bsR T p g fa d).1 = some k → k < 4) ∧ (bsR T p g fa d).2.1 ≤ 1000000 ∧ (bsR T p g fa d).2.2.1 ≤ 36
  | 0, _ => ⟨fun k h => (by cases h), Nat.le_refl _, Nat.zero_le _⟩
  | d + 1, hd => by
    have h := bsR_lt hI p g fa d (by omega)
    rw [bsR]
    split
    · split
      · exact h
      · split
        · exact ⟨fun k q => (by cases q; omega), nrD_le _ _ _ _, toll_lt hI⟩
        · exact h
    · exact h
theorem fi_ini {T : TW} {p m : Nat} {dS f : Nat → Nat} (hD : IsD T p m dS) (h : ∀ s, s < 80 → f s = if hasT T p s = true then 0 else 1000000) : FI T p dS f := by
  intro s hs
  have h1 := h s hs
  have h2 := hD.2.2.2 s
  by_cases q : hasT T p s = true
  · rw [if_pos q] at h1
    rw [hD.1 s hs q, h1]
    exact ⟨Nat.le_refl _, by omega, fun _ => rfl⟩
  · rw [if_neg q] at h1
    rw [h1]
    exact ⟨h2, Nat.le_refl _, fun z => absurd z q⟩
theorem SI.done9 {T : TW} {p m : Nat} {dS f0 f : Nat → Nat} {mo k : Nat} (h : SI T p m dS f0 f mo k) (q : mo = 0) (hk : k = 320) : ∀ s d, s < 80 → d < 4 → Rlx T p m f s d := by
  subst hk
  exact h.done q
theorem bq_ex (T : TW) (p g : Nat) (fa : Nat → Nat) : ∃ x : BR, x = bsR T p g fa 4 := ⟨_, rfl⟩
noncomputable def bq (T : TW) (p g : Nat) (fa : Nat → Nat) : BR := (bq_ex T p g fa).choose
theorem bq_eq (T : TW) (p g : Nat) (fa : Nat → Nat) : bq T p g fa = bsR T p g fa 4 := (bq_ex T p g fa).choose_spec
theorem bq_lt {T : TW} (hI : Inv T) (p g : Nat) (fa : Nat → Nat) : ∀ k, (bq T p g fa).1 = some k → k < 4 := by
  rw [bq_eq]
  exact (bsR_lt hI p g fa 4 (Nat.le_refl 4)).1
