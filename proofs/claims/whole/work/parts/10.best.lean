/-! what a search keeps -/
theorem dirS_ok {T : TW} {p f v d B : Nat} {σ : WS} (hQ : QI σ) (hB : LB B σ.1) (hf : f < 80) (hv : v ≤ B) : QI (dirS T p f v d σ) ∧ LB B (dirS T p f v d σ).1 := by
  unfold dirS
  split
  · exact ⟨hQ, hB⟩
  · rename_i t ht
    split
    · rename_i hn
      split
      · exact ⟨hQ.enq (nb_lt hf t ht) hn, hB.up hv⟩
      · split
        · exact ⟨QI.mark hQ, hB.up hv⟩
        · exact ⟨hQ, hB⟩
    · exact ⟨hQ, hB⟩
theorem dirsS_ok {T : TW} {p f v B : Nat} {σ : WS} (hQ : QI σ) (hB : LB B σ.1) (hf : f < 80) (hv : v ≤ B) : ∀ k, QI (dirsS T p f v k σ) ∧ LB B (dirsS T p f v k σ).1
  | 0 => ⟨hQ, hB⟩
  | k + 1 => dirS_ok (dirsS_ok hQ hB hf hv k).1 (dirsS_ok hQ hB hf hv k).2 hf hv
theorem procS_ok {T : TW} {p i : Nat} {σ : WS} (hQ : QI σ) (hB : LB i σ.1) (hi : i < σ.2.2) : QI (procS T p i σ) ∧ LB (i + 1) (procS T p i σ).1 := by
  unfold procS
  split
  · exact ⟨hQ, hB.mono (by omega)⟩
  · rename_i w hw
    have hf := hQ.2.1 i hi
    exact dirsS_ok hQ (hB.mono (by omega)) hf (by have := hB _ hf w hw; omega) 4
theorem floodS_ok {T : TW} {p : Nat} : ∀ (k i : Nat) (σ : WS), QI σ → LB i σ.1 → QI (floodS T p k i σ) ∧ LB (i + k) (floodS T p k i σ).1
  | 0, i, σ, hQ, hB => ⟨hQ, hB⟩
  | k + 1, i, σ, hQ, hB => by
    rw [floodS]
    split
    · rename_i hi
      have h1 := procS_ok (T := T) (p := p) hQ hB hi
      have h2 := floodS_ok (T := T) (p := p) k (i + 1) _ h1.1 h1.2
      exact ⟨h2.1, h2.2.mono (by omega)⟩
    · exact ⟨hQ, hB.mono (by omega)⟩
theorem QI0 (qu : Nat → Nat) : QI (fun _ => none, qu, 0) := ⟨Nat.zero_le _, fun j hj => absurd hj (Nat.not_lt_zero j), fun j hj => absurd hj (Nat.not_lt_zero j), fun i j _ hj => absurd hj (Nat.not_lt_zero j)⟩
theorem misS_ok {T : TW} {p : Nat} (hI : Inv T) (qu : Nat → Nat) : ∀ i, i ≤ 12 → QI (misS T p i (fun _ => none, qu, 0)) ∧ LB 0 (misS T p i (fun _ => none, qu, 0)).1 ∧ ∀ s, ¬ (misS T p i (fun _ => none, qu, 0)).1 s = none → ∃ u, u < i ∧ missT T p u = true ∧ sqT T u = some s
  | 0, _ => ⟨QI0 qu, LB.non, fun s h => absurd rfl h⟩
  | i + 1, hi => by
    obtain ⟨h1, h2, h3⟩ := misS_ok (p := p) hI qu i (by omega)
    rw [misS]
    split
    · exact ⟨h1, h2, mis_keep h3⟩
    · rename_i s hs
      split
      · rename_i hm
        exact ⟨h1.enq (sq_lt hI (by omega) s hs) (mis_fresh hI (by omega) h3 hm.1 hs), h2.up (Nat.le_refl _), mis_enq h3 hm.1 hs⟩
      · exact ⟨h1, h2, mis_keep h3⟩
theorem mf_LB {T : TW} {p : Nat} (hI : Inv T) (qu : Nat → Nat) : LB 1000 (mfS T p qu).1 := by
  obtain ⟨h1, h2, h3⟩ := misS_ok (p := p) hI qu 12 (by omega)
  exact (floodS_ok 80 0 _ h1 h2).2.mono (by omega)
theorem why_obs {T : TW} {p f die d to : Nat} (h : whyT T p f die d = 0) (hto : nbT f d = some to) : obsT T p to = 0 := by
  unfold whyT at h
  rw [hto] at h
  dsimp only at h
  split at h
  · cases h
  · split at h
    · omega
    · rename_i q
      exact Classical.not_not.mp q
theorem bst_same {T : TW} {p die d : Nat} {L : Nat → Option Nat} {la : Option Nat} {r : Option Nat × Nat × Nat} (he : bstS T p die L la d = r) (h : ∀ to aw, whyT T p (hdT T p) die d = 0 → nbT (hdT T p) d = some to → lesO la (L to) = some aw → ¬ (r.1 = none ∨ aw < r.2.1 ∨ (aw = r.2.1 ∧ tollT T to < r.2.2))) : bstS T p die L la (d + 1) = r := by
  rw [bstS, he]
  split
  · split
    · rfl
    · rename_i to hto
      split
      · rfl
      · rename_i aw haw
        rw [if_neg (h to aw (by assumption) hto haw)]
  · rfl
theorem bst_new {T : TW} {p die d to aw : Nat} {L : Nat → Option Nat} {la : Option Nat} {r : Option Nat × Nat × Nat} (he : bstS T p die L la d = r) (h0 : whyT T p (hdT T p) die d = 0) (h1 : nbT (hdT T p) d = some to) (h2 : lesO la (L to) = some aw) (h : r.1 = none ∨ aw < r.2.1 ∨ (aw = r.2.1 ∧ tollT T to < r.2.2)) : bstS T p die L la (d + 1) = (some d, aw, tollT T to) := by
  rw [bstS, he, if_pos h0, h1]
  dsimp only
  rw [h2]
  dsimp only
  rw [if_pos h]
