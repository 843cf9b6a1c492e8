/-! least tolls: the class's sweeps settle within 80 rounds -/
theorem rch_up {T : TW} {p m n s : Nat} {k : Nat} (h : rch T p m k n s) : ∀ j, rch T p m (k + j) n s
  | 0 => h
  | j + 1 => Or.inl (rch_up h j)
theorem rch_mono {T : TW} {p m n s k j : Nat} (h : rch T p m k n s) (hkj : k ≤ j) : rch T p m j n s := by
  have := rch_up h (j - k)
  rw [show k + (j - k) = j from by omega] at this
  exact this
/-- on the way to a square with the fewest steps among its cheapest ways lie squares with each smaller number of steps -/
theorem hop_chain {T : TW} {p m : Nat} : ∀ k s, dst T p m s < 1000000 → rch T p m k (dst T p m s) s → (∀ j, j < k → ¬ rch T p m j (dst T p m s) s) → ∃ g : Nat → Nat, ∀ i, i ≤ k → g i < 80 ∧ rch T p m i (dst T p m (g i)) (g i) ∧ ∀ j, j < i → ¬ rch T p m j (dst T p m (g i)) (g i)
  | 0, s, hd, h, hm => ⟨fun _ => s, fun i hi => by
      have e : i = 0 := by omega
      subst e
      exact ⟨(rch_sq 0 _ s h).1, h, hm⟩⟩
  | k + 1, s, hd, h, hm => by
    have hs := (rch_sq (k + 1) _ s h).1
    rcases h with h | h
    · exact absurd h (hm k (Nat.lt_succ_self k))
    · have h0 := h
      obtain ⟨h1, h2, d, a, q, hdd, h3, h4, h5⟩ := h
      have ha : dst T p m a ≤ q := dst_le ⟨k, h4⟩
      have hr := (dst_ok T p m).2.1 s d a hs hdd h3 (by omega) h2
      have e : q = dst T p m a := by omega
      subst e
      obtain ⟨g, hg⟩ := hop_chain k a (by omega) h4 (fun j hj hq => hm (j + 1) (by omega) (Or.inr ⟨h1, h2, d, a, _, hdd, h3, hq, h5⟩))
      refine ⟨fun i => if i = k + 1 then s else g i, fun i hi => ?_⟩
      dsimp only
      by_cases z : i = k + 1
      · subst z
        rw [if_pos rfl]
        exact ⟨hs, Or.inr h0, hm⟩
      · rw [if_neg z]
        exact hg i (by omega)
theorem rch_80 {T : TW} {p m s : Nat} (h : dst T p m s < 1000000) : rch T p m 80 (dst T p m s) s := by
  obtain ⟨k, h1, h2⟩ := least_ex (dst_rc h)
  rcases Nat.lt_or_ge k 81 with q | q
  · exact rch_mono h1 (by omega)
  · exfalso
    obtain ⟨g, hg⟩ := hop_chain k s h h1 (fun j hj hq => by have := h2 j hq; omega)
    obtain ⟨i, hi, hq⟩ := fb_onto (n := 80) (f := g) (fun i hi => (hg i (by omega)).1) (fun i j hij hj e => by
      have h3 := (hg i (by omega)).2.1
      rw [e] at h3
      exact (hg j (by omega)).2.2 i hij h3) (y := g 80) (hg 80 (by omega)).1
    have h3 := (hg i (by omega)).2.1
    rw [hq] at h3
    exact (hg 80 (by omega)).2.2 i hi h3
theorem bef_mem {s : Nat} {len : Nat → Option Nat} : ∀ k b, befS len s k = some b → ∃ d a, d < k ∧ nbT s d = some a ∧ len a = some b
  | 0, b, h => by cases h
  | k + 1, b, h => by
    rw [befS] at h
    split at h
    · obtain ⟨d, a, h1, h2⟩ := bef_mem k b h
      exact ⟨d, a, by omega, h2⟩
    · rename_i t ht
      rcases les_or h with z | z
      · obtain ⟨d, a, h1, h2⟩ := bef_mem k b z
        exact ⟨d, a, by omega, h2⟩
      · exact ⟨k, t, Nat.lt_succ_self k, ht, z⟩
theorem bef_le {s d a v : Nat} {len : Nat → Option Nat} (hn : nbT s d = some a) (hv : len a = some v) : ∀ k, d < k → ∃ b, befS len s k = some b ∧ b ≤ v
  | 0, h => absurd h (Nat.not_lt_zero d)
  | k + 1, h => by
    rw [befS]
    by_cases z : d = k
    · subst z
      rw [hn]
      exact les_r hv
    · obtain ⟨b, h1, h2⟩ := bef_le hn hv k (by omega)
      split
      · exact ⟨b, h1, h2⟩
      · rename_i t ht
        obtain ⟨c, h3, h4⟩ := les_l (b := len t) h1
        exact ⟨c, h3, Nat.le_trans h4 h2⟩
/-- one square looked at -/
theorem imp_none {T : TW} {p s : Nat} {len : Nat → Option Nat} (h : impS T p len s = none) : impL T p len s = len := by
  unfold impL
  rw [h]
theorem imp_ot {T : TW} {p s t : Nat} {len : Nat → Option Nat} (h : ¬ t = s) : impL T p len s t = len t := by
  unfold impL
  cases impS T p len s with
  | none => rfl
  | some c => exact if_neg h
theorem imp_has {T : TW} {p s : Nat} {len : Nat → Option Nat} (h : hasT T p s = true) : impS T p len s = none := by
  unfold impS
  split
  · rename_i q
    exact absurd h (obs_no q)
  · rfl
theorem imp_at {T : TW} {p s : Nat} {len : Nat → Option Nat} (ho : obsT T p s = 0) {d a v : Nat} (hd : d < 4) (hn : nbT s d = some a) (hv : len a = some v) : ∃ w, impL T p len s s = some w ∧ w ≤ v + tollT T s := by
  obtain ⟨b, h1, h2⟩ := bef_le hn hv 4 hd
  unfold impL
  cases e : impS T p len s with
  | none =>
    unfold impS at e
    rw [if_pos ho, h1] at e
    dsimp only at e
    split at e
    · cases e
    · rename_i k hk
      split at e
      · exact ⟨k, hk, by omega⟩
      · cases e
  | some c =>
    refine ⟨c, by show va_up len s (some c) s = some c; unfold va_up; exact if_pos rfl, ?_⟩
    unfold impS at e
    rw [if_pos ho, h1] at e
    dsimp only at e
    split at e
    · cases e
      omega
    · split at e
      · cases e
      · cases e
        omega
theorem imp_new {T : TW} {p s c : Nat} {len : Nat → Option Nat} (h : impS T p len s = some c) : obsT T p s = 0 ∧ (∃ d a b, d < 4 ∧ nbT s d = some a ∧ len a = some b ∧ c = b + tollT T s) ∧ ∀ k, len s = some k → c < k := by
  unfold impS at h
  split at h
  · rename_i ho
    split at h
    · cases h
    · rename_i b hb
      obtain ⟨d, a, h1, h2, h3⟩ := bef_mem 4 b hb
      split at h
      · rename_i hn
        cases h
        exact ⟨ho, ⟨d, a, b, h1, h2, h3, rfl⟩, fun k q => by rw [hn] at q; cases q⟩
      · rename_i k hk
        split at h
        · cases h
        · rename_i hlt
          cases h
          exact ⟨ho, ⟨d, a, b, h1, h2, h3, rfl⟩, fun j q => by rw [hk] at q; cases q; omega⟩
  · cases h
theorem wgt1 (T : TW) (s : Nat) : wgt T 1 s = tollT T s := if_neg (by decide)
theorem imp_FI {T : TW} {p s : Nat} {len : Nat → Option Nat} (hs : s < 80) (hF : FI T p (dst T p 1) (vl len)) (hT : ∀ c, impS T p len s = some c → c ≤ 1000000) : FI T p (dst T p 1) (vl (impL T p len s)) ∧ ∀ t, vl (impL T p len s) t ≤ vl len t ∨ 1000000 < vl len t := by
  cases e : impS T p len s with
  | none =>
    rw [imp_none e]
    exact ⟨hF, fun t => Or.inl (Nat.le_refl _)⟩
  | some c =>
    obtain ⟨ho, ⟨d, a, b, hd, hn, hb, hc⟩, hlt⟩ := imp_new e
    have hc2 := hT c e
    have hat : impL T p len s s = some c := by
      unfold impL
      rw [e]
      show va_up len s (some c) s = some c
      unfold va_up
      exact if_pos rfl
    have hle : c ≤ vl len s := by
      cases z : len s with
      | none => rw [vl_none z]; exact hc2
      | some k => rw [vl_some z]; exact Nat.le_of_lt (hlt k z)
    have hot : ∀ t, ¬ t = s → vl (impL T p len s) t = vl len t := fun t q => by
      unfold vl
      rw [imp_ot q]
    refine ⟨fun t ht => ?_, fun t => ?_⟩
    · by_cases z : t = s
      · subst z
        rw [vl_some hat]
        have ha := (hF a (nb_lt hs a hn)).1
        rw [vl_some hb] at ha
        refine ⟨?_, hc2, fun q => absurd q (obs_no ho)⟩
        rcases Nat.lt_or_ge (dst T p 1 a) 1000000 with q | q
        · have h1 := (dst_ok T p 1).2.1 t d a ht hd hn q ho
          rw [wgt1] at h1
          omega
        · have h1 := dst_top T p 1 t
          omega
      · rw [hot t z]
        exact hF t ht
    · by_cases z : t = s
      · subst z
        rw [vl_some hat]
        exact Or.inl hle
      · rw [hot t z]
        exact Or.inl (Nat.le_refl _)
theorem sqo_lt {r i : Nat} (hi : i < 80) : sqo r i < 80 := by
  unfold sqo
  split <;> omega
theorem sqo_onto (r : Nat) {s : Nat} (hs : s < 80) : ∃ i, i < 80 ∧ sqo r i = s := by
  unfold sqo
  by_cases h : r % 2 = 0
  · exact ⟨s, hs, by rw [if_pos h]⟩
  · exact ⟨79 - s, by omega, by rw [if_neg h]; omega⟩
theorem swp_ok {T : TW} {p r B : Nat} {len : Nat → Option Nat} (hI : Inv T) (hB : LB B len) (hBl : B + 2880 < 1000000) (hF : FI T p (dst T p 1) (vl len)) : ∀ i, i ≤ 80 → LB (B + 36 * i) (swpS T p r i (len, false)).1 ∧ FI T p (dst T p 1) (vl (swpS T p r i (len, false)).1) ∧ (∀ t, t < 80 → vl (swpS T p r i (len, false)).1 t ≤ vl len t) ∧ (∀ j, j < i → obsT T p (sqo r j) = 0 → ∀ d a v, d < 4 → nbT (sqo r j) d = some a → len a = some v → vl (swpS T p r i (len, false)).1 (sqo r j) ≤ v + tollT T (sqo r j)) ∧ ((swpS T p r i (len, false)).2 = false → (swpS T p r i (len, false)).1 = len)
  | 0, _ => ⟨hB, hF, fun t _ => Nat.le_refl _, fun j h => absurd h (Nat.not_lt_zero j), fun _ => rfl⟩
  | i + 1, hi => by
    obtain ⟨h1, h2, h3, h4, h5⟩ := swp_ok (r := r) hI hB hBl hF i (by omega)
    have hs : sqo r i < 80 := sqo_lt (by omega)
    have hT : ∀ c, impS T p (swpS T p r i (len, false)).1 (sqo r i) = some c → c ≤ 1000000 := by
      intro c hc
      have h6 := imp_LB (p := p) hI h1 hs (sqo r i) hs c (by
        unfold impL
        rw [hc]
        show va_up _ (sqo r i) (some c) (sqo r i) = some c
        unfold va_up
        exact if_pos rfl)
      omega
    obtain ⟨h6, h7⟩ := imp_FI hs h2 hT
    have hm : ∀ t, t < 80 → vl (impL T p (swpS T p r i (len, false)).1 (sqo r i)) t ≤ vl (swpS T p r i (len, false)).1 t := fun t ht => by
      have := (h2 t ht).2.1
      rcases h7 t with z | z <;> omega
    rw [swpS]
    refine ⟨(imp_LB hI h1 hs).mono (by omega), h6, fun t ht => Nat.le_trans (hm t ht) (h3 t ht), fun j hj ho d a v hd hn hv => ?_, fun hc => ?_⟩
    · by_cases z : j = i
      · subst z
        have ha := h3 a (nb_lt hs a hn)
        rw [vl_some hv] at ha
        have hv80 := hB a (nb_lt hs a hn) v hv
        have e := vl_is (len := (swpS T p r j (len, false)).1) (s := a) (by omega)
        obtain ⟨w, w1, w2⟩ := imp_at ho hd hn e
        show vl (impL T p (swpS T p r j (len, false)).1 (sqo r j)) (sqo r j) ≤ _
        rw [vl_some w1]
        omega
      · have := h4 j (by omega) ho d a v hd hn hv
        exact Nat.le_trans (hm (sqo r j) (sqo_lt (by omega))) this
    · have hc : ((swpS T p r i (len, false)).2 || (impS T p (swpS T p r i (len, false)).1 (sqo r i)).isSome) = false := hc
      rw [Bool.or_eq_false_iff] at hc
      have hn : impS T p (swpS T p r i (len, false)).1 (sqo r i) = none := by
        cases e : impS T p (swpS T p r i (len, false)).1 (sqo r i) with
        | none => rfl
        | some c => rw [e] at hc; exact absurd hc.2 (fun q => by cases q)
      show impL T p (swpS T p r i (len, false)).1 (sqo r i) = len
      rw [imp_none hn]
      exact h5 hc.1
theorem swp_rlx {T : TW} {p r B : Nat} {len : Nat → Option Nat} (hI : Inv T) (hB : LB B len) (hBl : B + 2880 < 1000000) (hF : FI T p (dst T p 1) (vl len)) : ∀ s d a, s < 80 → d < 4 → nbT s d = some a → vl len a < 1000000 → obsT T p s = 0 → vl (swpS T p r 80 (len, false)).1 s ≤ vl len a + tollT T s := by
  intro s d a hs hd hn ha ho
  obtain ⟨i, hi, e⟩ := sqo_onto r hs
  subst e
  exact (swp_ok hI hB hBl hF 80 (Nat.le_refl 80)).2.2.2.1 i hi ho d a _ hd hn (vl_is ha)
/-- after r rounds -/
def RN (T : TW) (p r : Nat) (σ : LC) : Prop := LB (2880 * r) σ.1 ∧ FI T p (dst T p 1) (vl σ.1) ∧ (∀ n s, rch T p 1 r n s → n < 1000000 → vl σ.1 s ≤ n) ∧ (σ.2 = false → ∀ s d, s < 80 → d < 4 → Rlx T p 1 (vl σ.1) s d)
theorem rnd_next {T : TW} {p r : Nat} {len : Nat → Option Nat} {ch : Bool} (hI : Inv T) (hr : r < 80) (h : RN T p r (len, ch)) : RN T p (r + 1) (swpS T p r 80 (len, false)) := by
  obtain ⟨h1, h2, h3, h4⟩ := h
  have hBl : 2880 * r + 2880 < 1000000 := by omega
  obtain ⟨g1, g2, g3, g4, g5⟩ := swp_ok (r := r) hI h1 hBl h2 80 (Nat.le_refl 80)
  have g6 := swp_rlx (r := r) hI h1 hBl h2
  refine ⟨g1.mono (by omega), g2, fun n s hn hl => ?_, fun hc s d hs hd a hna ha ho => ?_⟩
  · rcases hn with hn | ⟨k1, k2, d, a, q, hd, k3, k4, k5⟩
    · exact Nat.le_trans (g3 s (rch_sq r n s hn).1) (h3 n s hn hl)
    · rw [wgt1] at k5
      have h6 := h3 q a k4 (by omega)
      have h7 := g6 s d a k1 hd k3 (by show vl len a < 1000000; have h6 : vl len a ≤ q := h6; omega) k2
      have h6 : vl len a ≤ q := h6
      have h7 : vl (swpS T p r 80 (len, false)).1 s ≤ vl len a + tollT T s := h7
      omega
  · have e := g5 hc
    rw [e] at ha ⊢
    have h7 := g6 s d a hs hd hna ha ho
    rw [e] at h7
    rw [wgt1]
    exact h7
theorem rnd_ok {T : TW} {p : Nat} (hI : Inv T) : ∀ (k r : Nat) (σ : LC), k + r = 80 → RN T p r σ → LB 230400 (rndS T p k r σ) ∧ ∀ s, s < 80 → vl (rndS T p k r σ) s = dst T p 1 s
  | 0, r, σ, hk, h => by
    have e : r = 80 := by omega
    subst e
    obtain ⟨h1, h2, h3, h4⟩ := h
    refine ⟨h1.mono (by omega), fun s hs => ?_⟩
    have h5 := h2 s hs
    show vl σ.1 s = _
    rcases Nat.lt_or_ge (dst T p 1 s) 1000000 with q | q
    · have := h3 _ s (rch_80 q) q
      omega
    · omega
  | k + 1, r, (len, ch), hk, h => by
    rw [rndS]
    split
    · exact rnd_ok hI k (r + 1) _ (by omega) (rnd_next hI (by omega) h)
    · rename_i hc
      obtain ⟨h1, h2, h3, h4⟩ := h
      refine ⟨h1.mono (by omega), h2.final (m := 1) (h4 (by
        cases ch with
        | true => exact absurd rfl hc
        | false => rfl)) (dst_ok T p 1)⟩
theorem che_eq {T : TW} {p : Nat} (hI : Inv T) (len : Nat → Option Nat) {s : Nat} (hs : s < 80) : cheS T p len s = wyO (dst T p 1 s) := by
  have hv : ∀ t, t < 80 → vl (iniS T p len 80) t = if hasT T p t = true then 0 else 1000000 := fun t ht => by
    unfold vl
    rw [ini_at, if_pos ht]
    split <;> rfl
  have hF : FI T p (dst T p 1) (vl (iniS T p len 80)) := fi_ini (dst_ok T p 1) hv
  obtain ⟨h1, h2⟩ := rnd_ok (p := p) hI 80 0 (iniS T p len 80, true) rfl ⟨ini_LB T p len, hF, fun n t hn _ => by
    obtain ⟨g1, g2, g3⟩ := hn
    show vl (iniS T p len 80) t ≤ n
    rw [hv t g1, if_pos g2]
    exact Nat.zero_le _, fun q => by cases q⟩
  have h3 : vl (cheS T p len) s = dst T p 1 s := h2 s hs
  unfold wyO
  cases e : cheS T p len s with
  | none =>
    rw [vl_none e] at h3
    rw [if_neg (by omega)]
  | some v =>
    have h4 := h1 s hs v e
    rw [vl_some e] at h3
    rw [← h3, if_pos (by omega)]
