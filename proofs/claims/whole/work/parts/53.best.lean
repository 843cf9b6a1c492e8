/-! the best direction: the class searches from the stops, the reference from the line -/
theorem les_or {a b : Option Nat} {c : Nat} (h : lesO a b = some c) : a = some c ∨ b = some c := by
  unfold lesO at h
  split at h
  · exact Or.inr h
  · exact Or.inl h
  · rename_i x y
    cases h
    rcases Nat.le_total x y with q | q
    · exact Or.inl (congrArg some (show x = Nat.min x y from (Nat.min_eq_left q).symm))
    · exact Or.inr (congrArg some (show y = Nat.min x y from (Nat.min_eq_right q).symm))
theorem les_l {a b : Option Nat} {x : Nat} (h : a = some x) : ∃ c, lesO a b = some c ∧ c ≤ x := by
  subst h
  cases b with
  | none => exact ⟨x, rfl, Nat.le_refl _⟩
  | some y => exact ⟨min x y, rfl, Nat.min_le_left _ _⟩
theorem les_r {a b : Option Nat} {x : Nat} (h : b = some x) : ∃ c, lesO a b = some c ∧ c ≤ x := by
  subst h
  cases a with
  | none => exact ⟨x, rfl, Nat.le_refl _⟩
  | some y => exact ⟨min y x, rfl, Nat.min_le_right _ _⟩
theorem nol_mem {T : TW} {p : Nat} {len : Nat → Option Nat} : ∀ k v, nolS T p len k = some v → ∃ t, t < k ∧ hasT T p t = true ∧ len t = some v
  | 0, v, h => by cases h
  | k + 1, v, h => by
    rw [nolS] at h
    split at h
    · rename_i q
      rcases les_or h with z | z
      · obtain ⟨t, h1, h2⟩ := nol_mem k v z
        exact ⟨t, Nat.lt_succ_of_lt h1, h2⟩
      · exact ⟨k, Nat.lt_succ_self k, q, z⟩
    · obtain ⟨t, h1, h2⟩ := nol_mem k v h
      exact ⟨t, Nat.lt_succ_of_lt h1, h2⟩
theorem nol_le {T : TW} {p : Nat} {len : Nat → Option Nat} {t v : Nat} (ht : hasT T p t = true) (hv : len t = some v) : ∀ k, t < k → ∃ c, nolS T p len k = some c ∧ c ≤ v
  | 0, h => absurd h (Nat.not_lt_zero t)
  | k + 1, h => by
    rw [nolS]
    by_cases z : t = k
    · subst z
      rw [if_pos ht]
      exact les_r hv
    · obtain ⟨c, h1, h2⟩ := nol_le ht hv k (by omega)
      split
      · obtain ⟨d, h3, h4⟩ := les_l (b := len k) h1
        exact ⟨d, h3, Nat.le_trans h4 h2⟩
      · exact ⟨c, h1, h2⟩
theorem misS_more {T : TW} {p : Nat} (hI : Inv T) (qu : Nat → Nat) : ∀ i, i ≤ 12 → (∀ s v, (misS T p i (fun _ => none, qu, 0)).1 s = some v → v = 0 ∧ s < 80 ∧ obsT T p s = 0 ∧ ∃ u, u < i ∧ missT T p u = true ∧ sqT T u = some s) ∧ (∀ s, ¬ (misS T p i (fun _ => none, qu, 0)).1 s = none → ∃ j, j < (misS T p i (fun _ => none, qu, 0)).2.2 ∧ (misS T p i (fun _ => none, qu, 0)).2.1 j = s) ∧ (∀ u s, u < i → missT T p u = true → sqT T u = some s → obsT T p s = 0 → (misS T p i (fun _ => none, qu, 0)).1 s = some 0)
  | 0, _ => ⟨fun s v h => (by cases h), fun s h => absurd rfl h, fun u s h => absurd h (Nat.not_lt_zero u)⟩
  | i + 1, hi => by
    obtain ⟨h1, h2, h3⟩ := misS_more (p := p) hI qu i (by omega)
    obtain ⟨g1, g2, g3⟩ := misS_ok (p := p) hI qu i (by omega)
    rw [misS]
    split
    · rename_i hs
      refine ⟨fun s v h => ?_, h2, fun u s hu hm hq ho => ?_⟩
      · obtain ⟨k1, k2, k3, u, k4, k5⟩ := h1 s v h
        exact ⟨k1, k2, k3, u, by omega, k5⟩
      · by_cases z : u = i
        · subst z
          rw [hs] at hq
          cases hq
        · exact h3 u s (by omega) hm hq ho
    · rename_i t ht
      split
      · rename_i hm
        have hf := mis_fresh hI (by omega) g3 hm.1 ht
        have ht80 := sq_lt hI (by omega) t ht
        have hmk : ∀ s, (enqS (misS T p i (fun _ => none, qu, 0)) t 0).1 s = if s = t then some 0 else (misS T p i (fun _ => none, qu, 0)).1 s := fun s => rfl
        refine ⟨fun s v h => ?_, fun s h => ?_, fun u s hu hm2 hq ho => ?_⟩
        · rw [hmk s] at h
          split at h
          · rename_i z
            subst z
            cases h
            exact ⟨rfl, ht80, hm.2, i, Nat.lt_succ_self i, hm.1, ht⟩
          · obtain ⟨k1, k2, k3, u, k4, k5⟩ := h1 s v h
            exact ⟨k1, k2, k3, u, by omega, k5⟩
        · by_cases z : s = t
          · subst z
            refine ⟨(misS T p i (fun _ => none, qu, 0)).2.2, Nat.lt_succ_self _, ?_⟩
            show va_up (misS T p i (fun _ => none, qu, 0)).2.1 (misS T p i (fun _ => none, qu, 0)).2.2 s _ = s
            unfold va_up
            exact if_pos rfl
          · rw [hmk s, if_neg z] at h
            obtain ⟨j, k1, k2⟩ := h2 s h
            exact ⟨j, Nat.lt_succ_of_lt k1, by rw [(Ext.enq hf).2.2 j k1, k2]⟩
        · rw [hmk s]
          by_cases z : s = t
          · rw [if_pos z]
          · rw [if_neg z]
            by_cases y : u = i
            · subst y
              rw [ht] at hq
              cases hq
              exact absurd rfl z
            · exact h3 u s (by omega) hm2 hq ho
      · rename_i hm
        refine ⟨fun s v h => ?_, h2, fun u s hu hm2 hq ho => ?_⟩
        · obtain ⟨k1, k2, k3, u, k4, k5⟩ := h1 s v h
          exact ⟨k1, k2, k3, u, by omega, k5⟩
        · by_cases z : u = i
          · subst z
            rw [ht] at hq
            cases hq
            exact absurd ⟨hm2, ho⟩ hm
          · exact h3 u s (by omega) hm2 hq ho
theorem mrk_mk {T : TW} {p to s : Nat} (hI : Inv T) (hp : p < 4) (hto : to < 80) : mkT (mrk T p to) s = if s = to then mkT T to ||| 2 ^ p else mkT T s := by
  show tn (upd (T 1) to (nI (mkT T to ||| 2 ^ p)) s) = _
  unfold upd
  by_cases z : s = to
  · rw [if_pos z, if_pos z, tn_nI (by have := (or_bit (mk_lt hI hto) hp).1; omega)]
  · rw [if_neg z, if_neg z]
    rfl
theorem mrk_to {T : TW} {p to : Nat} (hI : Inv T) (hp : p < 4) (hto : to < 80) : hasT (mrk T p to) p to = true := by
  unfold hasT
  rw [mrk_mk hI hp hto, if_pos rfl]
  exact (show ∀ m, m < 16 → ∀ p, p < 4 → decide (0 < (m ||| 2 ^ p) &&& 2 ^ p) = true from by decide +kernel) _ (mk_lt hI hto) p hp
theorem mrk_has {T : TW} {p to s : Nat} (hI : Inv T) (hp : p < 4) (hto : to < 80) (hs : ¬ s = to) : hasT (mrk T p to) p s = hasT T p s := by
  unfold hasT
  rw [mrk_mk hI hp hto, if_neg hs]
theorem mrk_obs {T : TW} {p to s : Nat} (hI : Inv T) (hp : p < 4) (hto : to < 80) (hs : ¬ s = to) : obsT (mrk T p to) p s = obsT T p s := by
  unfold obsT
  rw [mrk_has hI hp hto hs]
  unfold trkT
  rw [mrk_mk hI hp hto, if_neg hs]
  rfl
theorem nrD_le2 {T : TW} {p : Nat} {f : Nat → Nat} {u s : Nat} (hm : missT T p u = true) (hq : sqT T u = some s) : ∀ k, u < k → nrD T p f k ≤ f s
  | 0, h => absurd h (Nat.not_lt_zero u)
  | k + 1, h => by
    by_cases z : u = k
    · subst z
      rw [nrD, hq]
      dsimp only
      split
      · exact Nat.le_refl _
      · rename_i y
        exact Nat.le_of_not_lt fun x => y ⟨hm, x⟩
    · have ih := nrD_le2 (f := f) hm hq k (by omega)
      rw [nrD]
      split
      · exact ih
      · split
        · rename_i y
          have := y.2
          omega
        · exact ih
theorem nrD_mem {T : TW} {p : Nat} {f : Nat → Nat} : ∀ k, nrD T p f k < 1000000 → ∃ u s, u < k ∧ missT T p u = true ∧ sqT T u = some s ∧ nrD T p f k = f s
  | 0, h => by
    rw [nrD] at h
    omega
  | k + 1, h => by
    rw [nrD] at h ⊢
    split
    · rename_i hs
      rw [hs] at h
      obtain ⟨u, s, h1, h2⟩ := nrD_mem k h
      exact ⟨u, s, by omega, h2⟩
    · rename_i t ht
      rw [ht] at h
      dsimp only at h
      split
      · rename_i y
        exact ⟨k, t, Nat.lt_succ_self k, y.1, ht, rfl⟩
      · rename_i y
        rw [if_neg y] at h
        obtain ⟨u, s, h1, h2⟩ := nrD_mem k h
        exact ⟨u, s, by omega, h2⟩
theorem miss_has {T : TW} {p u s : Nat} (hm : missT T p u = true) (hq : sqT T u = some s) (hpl : plT T u = some p) : ¬ hasT T p s = true := by
  intro h
  unfold missT onT at hm
  rw [hq] at hm
  simp only [Bool.and_eq_true, decide_eq_true_eq, Bool.not_eq_true'] at hm
  first
  | exact absurd h (by rw [hm.2]; exact fun q => by cases q)
  | (rw [hpl] at hm; exact absurd h (by rw [hm.2]; exact fun q => by cases q))
/-- the class's numbers for squares: steps from a stop that is missing -/
theorem mf_facts {T : TW} {p : Nat} (hI : Inv T) (qu : Nat → Nat) {R : Nat → Nat → Prop} (hR : RST T p R (fun s => obsT T p s = 0)) (h0 : ∀ u s, u < 12 → missT T p u = true → sqT T u = some s → obsT T p s = 0 → R 0 s) :
    (∀ u s, u < 12 → missT T p u = true → sqT T u = some s → obsT T p s = 0 → (mfS T p qu).1 s = some 0) ∧
    (∀ s v, (mfS T p qu).1 s = some v → R v s) ∧
    (∀ s v, (mfS T p qu).1 s = some v → obsT T p s = 0 → DN T p (mfS T p qu).1 s) := by
  obtain ⟨g1, g2, g3⟩ := misS_ok (p := p) hI qu 12 (Nat.le_refl 12)
  obtain ⟨k1, k2, k3⟩ := misS_more (p := p) hI qu 12 (Nat.le_refl 12)
  have hF0 : FL T p R (fun s => obsT T p s = 0) 0 0 (misS T p 12 (fun _ => none, qu, 0)) := by
    refine FL.seed g1 (fun u v h => (k1 u v h).1) (fun u h => Or.inl (k2 u h)) (fun u v h => ?_) (fun j hj => ?_)
    · obtain ⟨e1, e2, e3, w, e4, e5, e6⟩ := k1 u v h
      subst e1
      exact h0 w u e4 e5 e6 e3
    · obtain ⟨w, hw⟩ := g1.2.2.1 j hj
      exact (k1 _ w hw).2.2.1
  obtain ⟨j, c, hF, hj, hE⟩ := FL.flood hR 80 0 0 _ hF0 (Nat.le_refl 80)
  refine ⟨fun u s hu hm hq ho => hE.1 s 0 (k3 u s hu hm hq ho), hF.2.2.2.2.2.2.1, fun s v h ho => ?_⟩
  rcases hF.2.1 s (by show ¬ (mfS T p qu).1 s = none; rw [h]; exact fun q => by cases q) with ⟨i, q1, q2⟩ | q
  · have := hF.2.2.2.2.2.1 i q1 (Nat.lt_of_lt_of_le q1 hj)
    rw [q2] at this
    exact this
  · omega
theorem rch_sq {T : TW} {p m : Nat} : ∀ k n s, rch T p m k n s → s < 80 ∧ (hasT T p s = true ∨ obsT T p s = 0)
  | 0, n, s, h => ⟨h.1, Or.inl h.2.1⟩
  | k + 1, n, s, h => by
    rcases h with h | h
    · exact rch_sq k n s h
    · exact ⟨h.1, Or.inr h.2.1⟩
theorem mf_walk {T : TW} {p to : Nat} {L : Nat → Option Nat} (hI : Inv T) (hK : HK T) (hp : p < 4) (hto : to < 80) (hot : obsT T p to = 0) (hL : ∀ s v, L s = some v → obsT T p s = 0 → DN T p L s) : ∀ k n s v, rch (mrk T p to) p 0 k n s → L s = some v → ∃ t w, t < 80 ∧ (hasT T p t = true ∨ t = to) ∧ L t = some w ∧ w ≤ v + n
  | 0, n, s, v, h, hv => by
    refine ⟨s, v, h.1, ?_, hv, Nat.le_add_right _ _⟩
    by_cases z : s = to
    · exact Or.inr z
    · have := h.2.1
      rw [mrk_has hI hp hto z] at this
      exact Or.inl this
  | k + 1, n, s, v, h, hv => by
    rcases h with h | ⟨h1, h2, d, a, q, hd, h3, h4, h5⟩
    · exact mf_walk hI hK hp hto hot hL k n s v h hv
    · have hne : ¬ s = to := fun z => by
        subst z
        exact obs_no h2 (mrk_to hI hp hto)
      rw [mrk_obs hI hp hto hne] at h2
      have hoa : obsT T p a = 0 ∨ obsT T p a = 4 := by
        obtain ⟨ha, hb⟩ := rch_sq k q a h4
        by_cases z : a = to
        · rw [z]
          exact Or.inl hot
        · rw [mrk_has hI hp hto z, mrk_obs hI hp hto z] at hb
          rcases hb with hb | hb
          · exact Or.inr (has_obs hK ha hb)
          · exact Or.inl hb
      obtain ⟨w, h6, h7⟩ := hL s v hv h2 d a hd h3 hoa
      rw [vl_some hv] at h7
      obtain ⟨t, x, h8, h9, h10, h11⟩ := mf_walk hI hK hp hto hot hL k q a w h4 h6
      have hw : wgt (mrk T p to) 0 s = 1 := if_pos rfl
      exact ⟨t, x, h8, h9, h10, by omega⟩
theorem fr_eq {T : TW} {p to : Nat} (hI : Inv T) (hK : HK T) (qu : Nat → Nat) (hp : p < 4) (hto : to < 80) (hot : obsT T p to = 0) : lesO (nolS T p (mfS T p qu).1 80) ((mfS T p qu).1 to) = wyO (frN T p to) := by
  have hD := dst_ok (mrk T p to) p 0
  have hR : RST T p (fun v s => ∃ u r, u < 12 ∧ missT T p u = true ∧ sqT T u = some r ∧ frD T p to r ≤ frD T p to s + v) (fun s => obsT T p s = 0) := by
    refine ⟨fun f w d t hf hof hw hd hn ho => ?_, fun _ _ h => h⟩
    obtain ⟨u, r, h1, h2, h3, h4⟩ := hw
    refine ⟨u, r, h1, h2, h3, ?_⟩
    have ht := nb_lt hf t hn
    have h5 : frD T p to f ≤ frD T p to t + 1 := by
      by_cases z : f = to
      · have : frD T p to f = 0 := hD.1 f hf (by rw [z]; exact mrk_to hI hp hto)
        omega
      · rcases Nat.lt_or_ge (frD T p to t) 1000000 with q | q
        · have := hD.2.1 f d t hf hd hn q (by rw [mrk_obs hI hp hto z]; exact hof)
          have hw : wgt (mrk T p to) 0 f = 1 := if_pos rfl
          show dst (mrk T p to) p 0 f ≤ dst (mrk T p to) p 0 t + 1
          omega
        · have : frD T p to f ≤ 1000000 := dst_top _ _ _ _
          omega
    omega
  obtain ⟨g1, g2, g3⟩ := mf_facts hI qu hR (fun u s h1 h2 h3 _ => ⟨u, s, h1, h2, h3, Nat.le_refl _⟩)
  have hBm := mf_LB (p := p) hI qu
  have hlo : ∀ c, lesO (nolS T p (mfS T p qu).1 80) ((mfS T p qu).1 to) = some c → frN T p to ≤ c ∧ c < 1000000 := by
    intro c hc
    have : ∃ t, t < 80 ∧ hasT (mrk T p to) p t = true ∧ (mfS T p qu).1 t = some c := by
      rcases les_or hc with z | z
      · obtain ⟨t, h1, h2, h3⟩ := nol_mem 80 c z
        refine ⟨t, h1, ?_, h3⟩
        by_cases y : t = to
        · rw [y]
          exact mrk_to hI hp hto
        · rw [mrk_has hI hp hto y]
          exact h2
      · exact ⟨to, hto, mrk_to hI hp hto, z⟩
    obtain ⟨t, h1, h2, h3⟩ := this
    obtain ⟨u, r, h4, h5, h6, h7⟩ := g2 t c h3
    have h8 : frD T p to t = 0 := hD.1 t h1 h2
    have h9 : frN T p to ≤ frD T p to r := nrD_le2 h5 h6 12 h4
    have h10 := hBm t h1 c h3
    exact ⟨by omega, by omega⟩
  have hhi : frN T p to < 1000000 → ∃ c, lesO (nolS T p (mfS T p qu).1 80) ((mfS T p qu).1 to) = some c ∧ c ≤ frN T p to := by
    intro h
    obtain ⟨u, s, h1, h2, h3, h4⟩ := nrD_mem 12 h
    have h5 : frN T p to = frD T p to s := h4
    rw [h5] at h ⊢
    obtain ⟨k, hk⟩ := dst_rc h
    obtain ⟨hs, hb⟩ := rch_sq k _ s hk
    have ho : obsT T p s = 0 := by
      by_cases z : s = to
      · rw [z]
        exact hot
      · rw [mrk_has hI hp hto z, mrk_obs hI hp hto z] at hb
        rcases hb with hb | hb
        · exact absurd hb (miss_has h2 h3 (miss_pl h2))
        · exact hb
    obtain ⟨t, w, h6, h7, h8, h9⟩ := mf_walk hI hK hp hto hot g3 k _ s 0 hk (g1 u s h1 h2 h3 ho)
    have h9 : w ≤ frD T p to s := by
      have : frD T p to s = dst (mrk T p to) p 0 s := rfl
      omega
    rcases h7 with h7 | h7
    · obtain ⟨c, c1, c2⟩ := nol_le h7 h8 80 h6
      obtain ⟨e, e1, e2⟩ := les_l (b := (mfS T p qu).1 to) c1
      exact ⟨e, e1, by omega⟩
    · subst h7
      obtain ⟨e, e1, e2⟩ := les_r (a := nolS T p (mfS T p qu).1 80) h8
      exact ⟨e, e1, by omega⟩
  have htop : frN T p to ≤ 1000000 := nrD_le T p _ 12
  cases e : lesO (nolS T p (mfS T p qu).1 80) ((mfS T p qu).1 to) with
  | none =>
    unfold wyO
    split
    · rename_i h
      obtain ⟨c, h1, h2⟩ := hhi h
      rw [e] at h1
      cases h1
    · rfl
  | some c =>
    obtain ⟨h1, h2⟩ := hlo c e
    obtain ⟨c2, h3, h4⟩ := hhi (by omega)
    rw [e] at h3
    cases h3
    have : c = frN T p to := by omega
    unfold wyO
    rw [← this, if_pos h2]
/-- the two choices side by side -/
def BSM (b : Option Nat × Nat × Nat) (r : BR) : Prop := b.1 = r.1 ∧ (r.1 = none → r.2.1 = 1000000) ∧ (¬ r.1 = none → b.2.1 = r.2.1 ∧ b.2.2 = r.2.2.1 ∧ r.2.1 < 1000000)
theorem bst_bs {T : TW} {p g : Nat} (hI : Inv T) (hK : HK T) (qu : Nat → Nat) (fa : Nat → Nat) (hp : p < 4) : ∀ d, d ≤ 4 → BSM (bstS T p g (mfS T p qu).1 (nolS T p (mfS T p qu).1 80) d) (bsR T p g fa d)
  | 0, _ => ⟨rfl, fun _ => rfl, fun h => absurd rfl h⟩
  | d + 1, hd => by
    obtain ⟨h1, h2, h3⟩ := bst_bs (g := g) hI hK qu fa hp d (by omega)
    by_cases hw : whyT T p (hdT T p) g d = 0
    · obtain ⟨to, hto⟩ := why_nb hw
      have hot := why_obs hw hto
      have hto80 := nb_lt (hd_lt hI hp) to hto
      have hfr := fr_eq hI hK qu hp hto80 hot
      have htop : frN T p to ≤ 1000000 := nrD_le T p _ 12
      rcases Nat.lt_or_ge (frN T p to) 1000000 with q | q
      · have hw1 : wyO (frN T p to) = some (frN T p to) := if_pos q
        rw [hw1] at hfr
        by_cases hb : btrP (bsR T p g fa d) (frN T p to) (tollT T to)
        · rw [bsR_new hw hto hb, bst_new rfl hw hto hfr ?_]
          · exact ⟨rfl, fun z => (by cases z), fun _ => ⟨rfl, rfl, q⟩⟩
          · by_cases z : (bsR T p g fa d).1 = none
            · exact Or.inl (by rw [h1]; exact z)
            · obtain ⟨e1, e2, e3⟩ := h3 z
              rw [e1, e2]
              rcases hb with hb | hb
              · exact Or.inr (Or.inl hb)
              · exact Or.inr (Or.inr ⟨hb.1, hb.2.2⟩)
        · rw [bsR_old hw hto hb, bst_same rfl ?_]
          · exact ⟨h1, h2, h3⟩
          · intro to2 aw hw2 hto2 haw
            rw [hto] at hto2
            cases hto2
            rw [hfr] at haw
            cases haw
            intro x
            by_cases z : (bsR T p g fa d).1 = none
            · exact hb (Or.inl (by rw [h2 z]; exact q))
            · obtain ⟨e1, e2, e3⟩ := h3 z
              rw [h1, e1, e2] at x
              rcases x with x | x | x
              · exact z x
              · exact hb (Or.inl x)
              · exact hb (Or.inr ⟨x.1, z, x.2⟩)
      · have hw1 : wyO (frN T p to) = none := if_neg (by omega)
        rw [hw1] at hfr
        have hb : ¬ btrP (bsR T p g fa d) (frN T p to) (tollT T to) := by
          intro x
          by_cases z : (bsR T p g fa d).1 = none
          · rcases x with x | x
            · rw [h2 z] at x
              omega
            · exact x.2.1 z
          · obtain ⟨e1, e2, e3⟩ := h3 z
            rcases x with x | x
            · omega
            · have := x.1
              omega
        rw [bsR_old hw hto hb, bst_same rfl ?_]
        · exact ⟨h1, h2, h3⟩
        · intro to2 aw hw2 hto2 haw
          rw [hto] at hto2
          cases hto2
          rw [hfr] at haw
          cases haw
    · rw [bsR_no hw, bst_same rfl (fun to aw hw2 _ _ => absurd hw2 hw)]
      exact ⟨h1, h2, h3⟩
theorem dirB_eq {T : TW} {p g : Nat} (hI : Inv T) (hK : HK T) (qu : Nat → Nat) (fa : Nat → Nat) (hp : p < 4) : dirB T p g qu = (bq T p g fa).1 := by
  rw [bq_eq]
  exact (bst_bs hI hK qu fa hp 4 (Nat.le_refl 4)).1
