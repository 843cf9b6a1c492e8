/-! fewest pieces: the flood tells what the rounds tell -/
def HK (T : TW) : Prop := ∀ s, s < 80 → hsT T s = true → mkT T s = 0
theorem has_obs {T : TW} {p s : Nat} (hK : HK T) (hs : s < 80) (h : hasT T p s = true) : obsT T p s = 4 := by
  unfold obsT
  split
  · rename_i q
    unfold hasT at h
    rw [hK s hs q, Nat.zero_and] at h
    cases h
  · first | rfl | rw [if_pos h]
theorem obs_has {T : TW} {p s : Nat} (h : obsT T p s = 4) : hasT T p s = true := by
  unfold obsT at h
  split at h
  · omega
  · split at h
    · assumption
    · split at h <;> omega
theorem obs_no {T : TW} {p s : Nat} (h : obsT T p s = 0) : ¬ hasT T p s = true := by
  unfold obsT at h
  split at h
  · omega
  · split at h
    · omega
    · assumption
theorem FL.seed {T : TW} {p : Nat} {R : Nat → Nat → Prop} {Q : Nat → Prop} {σ : WS} (hQ : QI σ) (h0 : ∀ s v, σ.1 s = some v → v = 0) (hA : ∀ s, ¬ σ.1 s = none → (∃ j, j < σ.2.2 ∧ σ.2.1 j = s) ∨ obsT T p s = 4) (hR : ∀ s v, σ.1 s = some v → R v s) (hq : ∀ j, j < σ.2.2 → Q (σ.2.1 j)) : FL T p R Q 0 0 σ := by
  have hz : ∀ j, j < σ.2.2 → vl σ.1 (σ.2.1 j) = 0 := fun j hj => by
    obtain ⟨w, hw⟩ := hQ.2.2.1 j hj
    rw [vl_some hw]
    exact h0 _ _ hw
  refine ⟨hQ, hA, fun j k hjk hk => ?_, fun s v h => ?_, fun j _ _ => Nat.zero_le _, fun j _ h => absurd h (Nat.not_lt_zero j), hR, hq⟩
  · rw [hz j (Nat.lt_of_le_of_lt hjk hk)]
    exact Nat.zero_le _
  · rw [h0 s v h]
    exact Nat.zero_le _
theorem seed_ok (T : TW) (p : Nat) (qu : Nat → Nat) : ∀ k, k ≤ 80 → QI (seedS T p k (fun _ => none, qu, 0)) ∧ (∀ s, (seedS T p k (fun _ => none, qu, 0)).1 s = if s < k ∧ hasT T p s = true then some 0 else none) ∧ (∀ s, s < k → hasT T p s = true → ∃ j, j < (seedS T p k (fun _ => none, qu, 0)).2.2 ∧ (seedS T p k (fun _ => none, qu, 0)).2.1 j = s)
  | 0, _ => ⟨QI0 qu, fun s => by rw [if_neg (fun q => Nat.not_lt_zero s q.1)]; rfl, fun s h => absurd h (Nat.not_lt_zero s)⟩
  | k + 1, hk => by
    obtain ⟨h1, h2, h3⟩ := seed_ok T p qu k (by omega)
    rw [seedS]
    split
    · rename_i hh
      have hn : (seedS T p k (fun _ => none, qu, 0)).1 k = none := by rw [h2 k, if_neg (fun q => Nat.lt_irrefl k q.1)]
      refine ⟨h1.enq (by omega) hn, fun s => ?_, fun s hs q => ?_⟩
      · show va_up (seedS T p k (fun _ => none, qu, 0)).1 k (some 0) s = _
        unfold va_up
        by_cases z : s = k
        · subst z
          rw [if_pos rfl, if_pos ⟨Nat.lt_succ_self s, hh⟩]
        · rw [if_neg z, h2 s]
          by_cases y : s < k ∧ hasT T p s = true
          · rw [if_pos y, if_pos ⟨by omega, y.2⟩]
          · rw [if_neg y, if_neg (fun x => y ⟨by omega, x.2⟩)]
      · by_cases z : s = k
        · subst z
          refine ⟨(seedS T p s (fun _ => none, qu, 0)).2.2, Nat.lt_succ_self _, ?_⟩
          show va_up (seedS T p s (fun _ => none, qu, 0)).2.1 (seedS T p s (fun _ => none, qu, 0)).2.2 s _ = s
          unfold va_up
          exact if_pos rfl
        · obtain ⟨j, y1, y2⟩ := h3 s (by omega) q
          refine ⟨j, Nat.lt_succ_of_lt y1, ?_⟩
          rw [(Ext.enq hn).2.2 j y1, y2]
    · rename_i hh
      refine ⟨h1, fun s => ?_, fun s hs q => ?_⟩
      · rw [h2 s]
        by_cases y : s < k ∧ hasT T p s = true
        · rw [if_pos y, if_pos ⟨by omega, y.2⟩]
        · rw [if_neg y, if_neg (fun x => y ⟨by
            by_cases z : s = k
            · subst z
              exact absurd x.2 hh
            · omega, x.2⟩)]
      · by_cases z : s = k
        · subst z
          exact absurd q hh
        · exact h3 s (by omega) q
theorem wyO_vl {len : Nat → Option Nat} {s n : Nat} (hB : LB 1000 len) (hs : s < 80) (h : vl len s = n) : len s = wyO n := by
  subst h
  unfold wyO
  cases e : len s with
  | none => rw [vl_none e, if_neg (Nat.lt_irrefl _)]
  | some v =>
    have := hB s hs v e
    rw [vl_some e, if_pos (by omega)]
theorem few_eq {T : TW} {p : Nat} (hK : HK T) (qu : Nat → Nat) {s : Nat} (hs : s < 80) : (fewS T p qu).1 s = wyO (dst T p 0 s) := by
  obtain ⟨g1, g2, g3⟩ := seed_ok T p qu 80 (Nat.le_refl 80)
  have hD := dst_ok T p 0
  have hR : RST T p (fun v s => s < 80 ∧ dst T p 0 s ≤ v) (fun _ => True) := by
    refine ⟨fun f w d t hf _ hw hd hn ho => ⟨nb_lt hf t hn, ?_⟩, fun _ _ _ => trivial⟩
    rcases ho with ho | ho
    · obtain ⟨e, he, hne⟩ := nb_sym hf hd hn
      rcases Nat.lt_or_ge (dst T p 0 f) 1000000 with q | q
      · have h1 := hD.2.1 t e f (nb_lt hf t hn) he hne q ho
        have h2 : wgt T 0 t = 1 := if_pos rfl
        have h3 := hw.2
        omega
      · have h1 := dst_top T p 0 t
        have h3 := hw.2
        omega
    · rw [hD.1 t (nb_lt hf t hn) (obs_has ho)]
      exact Nat.zero_le _
  have hz : ∀ u v, (seedS T p 80 (fun _ => none, qu, 0)).1 u = some v → v = 0 ∧ u < 80 ∧ hasT T p u = true := fun u v h => by
    rw [g2 u] at h
    split at h
    · rename_i q
      cases h
      exact ⟨rfl, q⟩
    · cases h
  have hF0 : FL T p (fun v s => s < 80 ∧ dst T p 0 s ≤ v) (fun _ => True) 0 0 (seedS T p 80 (fun _ => none, qu, 0)) := by
    refine FL.seed g1 (fun u v h => (hz u v h).1) (fun u h => ?_) (fun u v h => ?_) (fun _ _ => trivial)
    · cases e : (seedS T p 80 (fun _ => none, qu, 0)).1 u with
      | none => exact absurd e h
      | some v => exact Or.inl (g3 u (hz u v e).2.1 (hz u v e).2.2)
    · obtain ⟨h1, h2, h3⟩ := hz u v h
      refine ⟨h2, ?_⟩
      rw [hD.1 u h2 h3]
      exact Nat.zero_le _
  obtain ⟨j, c, hF, hj, hE⟩ := FL.flood hR 80 0 0 _ hF0 (Nat.le_refl 80)
  have hB : LB 1000 (fewS T p qu).1 := (floodS_ok (T := T) (p := p) 80 0 _ g1 (fun u _ v h => by rw [(hz u v h).1]; exact Nat.le_refl _)).2.mono (by omega)
  have hq : ∀ u, u < 80 → hasT T p u = true → ∃ k, k < (fewS T p qu).2.2 ∧ (fewS T p qu).2.1 k = u := fun u hu h => by
    obtain ⟨k, h1, h2⟩ := g3 u hu h
    exact ⟨k, Nat.lt_of_lt_of_le h1 hE.2.1, by rw [← h2]; exact hE.2.2 k h1⟩
  have hFI : FI T p (dst T p 0) (vl (fewS T p qu).1) := by
    intro u hu
    refine ⟨?_, ?_, fun h => ?_⟩
    · cases e : (fewS T p qu).1 u with
      | none => rw [vl_none e]; exact dst_top T p 0 u
      | some v => rw [vl_some e]; exact (hF.2.2.2.2.2.2.1 u v e).2
    · cases e : (fewS T p qu).1 u with
      | none => rw [vl_none e]; exact Nat.le_refl _
      | some v =>
        have := hB u hu v e
        rw [vl_some e]
        omega
    · exact vl_some (hE.1 u 0 (by rw [g2 u, if_pos ⟨hu, h⟩]))
  have hRx : ∀ u d, u < 80 → d < 4 → Rlx T p 0 (vl (fewS T p qu).1) u d := by
    intro u d hu hd a hn ha ho
    have ha80 := nb_lt hu a hn
    have e := vl_is ha
    obtain ⟨k, k1, k2⟩ : ∃ k, k < (fewS T p qu).2.2 ∧ (fewS T p qu).2.1 k = a := by
      rcases hF.2.1 a (by show ¬ (fewS T p qu).1 a = none; rw [e]; exact fun q => by cases q) with q | q
      · exact q
      · exact hq a ha80 (obs_has q)
    obtain ⟨b, hb, hnb⟩ := nb_sym hu hd hn
    obtain ⟨v, v1, v2⟩ := hF.2.2.2.2.2.1 k k1 (Nat.lt_of_lt_of_le k1 hj) b u hb (by show nbT ((fewS T p qu).2.1 k) b = some u; rw [k2]; exact hnb) (Or.inl ho)
    have v1 : (fewS T p qu).1 u = some v := v1
    have v2 : v ≤ vl (fewS T p qu).1 ((fewS T p qu).2.1 k) + 1 := v2
    rw [k2] at v2
    rw [vl_some v1]
    exact v2
  exact wyO_vl hB hs (hFI.final hRx hD s hs)
