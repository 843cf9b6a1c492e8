/-! a flood, step by step -/
theorem nb_sym {s d a : Nat} (hs : s < 80) (hd : d < 4) (h : nbT s d = some a) : ∃ e, e < 4 ∧ nbT a e = some s := by
  have key := (show ∀ s, s < 80 → ∀ d, d < 4 → (nbT s d = none ∨ nbT ((nbT s d).getD 0) ((d + 2) % 4) = some s) from by decide +kernel) s hs d hd
  rw [h] at key
  rcases key with q | q
  · cases q
  · exact ⟨(d + 2) % 4, by omega, q⟩
def vl (len : Nat → Option Nat) (s : Nat) : Nat := (len s).getD 1000000
theorem vl_some {len : Nat → Option Nat} {s v : Nat} (h : len s = some v) : vl len s = v := by
  unfold vl
  rw [h]
  rfl
theorem vl_none {len : Nat → Option Nat} {s : Nat} (h : len s = none) : vl len s = 1000000 := by
  unfold vl
  rw [h]
  rfl
theorem vl_is {len : Nat → Option Nat} {s : Nat} (h : vl len s < 1000000) : len s = some (vl len s) := by
  cases e : len s with
  | none => rw [vl_none e] at h; omega
  | some v => rw [vl_some e]
/-- a mark on a square that had none changes no other value -/
def Ext (σ τ : WS) : Prop := (∀ s v, σ.1 s = some v → τ.1 s = some v) ∧ σ.2.2 ≤ τ.2.2 ∧ (∀ j, j < σ.2.2 → τ.2.1 j = σ.2.1 j)
theorem Ext.rf (σ : WS) : Ext σ σ := ⟨fun _ _ h => h, Nat.le_refl _, fun _ _ => rfl⟩
theorem Ext.tr {σ τ ρ : WS} (h1 : Ext σ τ) (h2 : Ext τ ρ) : Ext σ ρ := ⟨fun s v h => h2.1 s v (h1.1 s v h), Nat.le_trans h1.2.1 h2.2.1, fun j hj => by rw [h2.2.2 j (Nat.lt_of_lt_of_le hj h1.2.1), h1.2.2 j hj]⟩
theorem Ext.enq {σ : WS} {t v : Nat} (hn : σ.1 t = none) : Ext σ (enqS σ t v) := by
  refine ⟨fun s w h => ?_, Nat.le_succ _, fun j hj => ?_⟩
  · show va_up σ.1 t (some v) s = some w
    unfold va_up
    split
    · rename_i e
      rw [e, hn] at h
      cases h
    · exact h
  · show va_up σ.2.1 σ.2.2 t j = σ.2.1 j
    unfold va_up
    rw [if_neg (by omega)]
theorem Ext.mark {σ : WS} {t v : Nat} (hn : σ.1 t = none) : Ext σ (va_up σ.1 t (some v), σ.2.1, σ.2.2) := by
  refine ⟨fun s w h => ?_, Nat.le_refl _, fun j hj => rfl⟩
  show va_up σ.1 t (some v) s = some w
  unfold va_up
  split
  · rename_i e
    rw [e, hn] at h
    cases h
  · exact h
theorem Ext.vq {σ τ : WS} (e : Ext σ τ) (hq : QI σ) {j : Nat} (hj : j < σ.2.2) : vl τ.1 (τ.2.1 j) = vl σ.1 (σ.2.1 j) := by
  obtain ⟨w, hw⟩ := hq.2.2.1 j hj
  rw [e.2.2 j hj, vl_some hw, vl_some (e.1 _ _ hw)]
/-- all that lies beside f is marked -/
def DN (T : TW) (p : Nat) (len : Nat → Option Nat) (f : Nat) : Prop := ∀ d t, d < 4 → nbT f d = some t → obsT T p t = 0 ∨ obsT T p t = 4 → ∃ v, len t = some v ∧ v ≤ vl len f + 1
theorem DN.ext {T : TW} {p f w : Nat} {σ τ : WS} (h : DN T p σ.1 f) (hf : σ.1 f = some w) (e : Ext σ τ) : DN T p τ.1 f := by
  intro d t hd hn ho
  obtain ⟨v, h1, h2⟩ := h d t hd hn ho
  rw [vl_some hf] at h2
  exact ⟨v, e.1 _ _ h1, by rw [vl_some (e.1 _ _ hf)]; exact h2⟩
/-- what a flood keeps: i squares are taken, b is the value last taken; R: how a square may be marked; Q: what may wait -/
def FL (T : TW) (p : Nat) (R : Nat → Nat → Prop) (Q : Nat → Prop) (i b : Nat) (σ : WS) : Prop :=
  QI σ ∧
  (∀ s, ¬ σ.1 s = none → (∃ j, j < σ.2.2 ∧ σ.2.1 j = s) ∨ obsT T p s = 4) ∧
  (∀ j k, j ≤ k → k < σ.2.2 → vl σ.1 (σ.2.1 j) ≤ vl σ.1 (σ.2.1 k)) ∧
  (∀ s v, σ.1 s = some v → v ≤ b + 1) ∧
  (∀ j, j < σ.2.2 → i ≤ j → b ≤ vl σ.1 (σ.2.1 j)) ∧
  (∀ j, j < σ.2.2 → j < i → DN T p σ.1 (σ.2.1 j)) ∧
  (∀ s v, σ.1 s = some v → R v s) ∧
  (∀ j, j < σ.2.2 → Q (σ.2.1 j))
theorem FL.take {T : TW} {p i b w : Nat} {R : Nat → Nat → Prop} {Q : Nat → Prop} {σ : WS} (h : FL T p R Q i b σ) (hi : i < σ.2.2) (hw : σ.1 (σ.2.1 i) = some w) : FL T p R Q i w σ := by
  obtain ⟨h1, h2, h3, h4, h5, h6, h7, h8⟩ := h
  have hb := h5 i hi (Nat.le_refl _)
  rw [vl_some hw] at hb
  refine ⟨h1, h2, h3, fun s v hv => ?_, fun j hj hij => ?_, h6, h7, h8⟩
  · have := h4 s v hv
    omega
  · have := h3 i j hij hj
    rw [vl_some hw] at this
    exact this
theorem FL.enq {T : TW} {p i w t : Nat} {R : Nat → Nat → Prop} {Q : Nat → Prop} {σ : WS} (h : FL T p R Q i w σ) (hi : i ≤ σ.2.2) (ht : t < 80) (hn : σ.1 t = none) (hR : R (w + 1) t) (hQ : Q t) : FL T p R Q i w (enqS σ t (w + 1)) := by
  obtain ⟨h1, h2, h3, h4, h5, h6, h7, h8⟩ := h
  have e : Ext σ (enqS σ t (w + 1)) := Ext.enq hn
  have hne : ∀ j, j < σ.2.2 → (enqS σ t (w + 1)).2.1 j = σ.2.1 j := e.2.2
  have hnew : (enqS σ t (w + 1)).2.1 σ.2.2 = t := by
    show va_up σ.2.1 σ.2.2 t σ.2.2 = t
    unfold va_up
    exact if_pos rfl
  have hmk : (enqS σ t (w + 1)).1 t = some (w + 1) := by
    show va_up σ.1 t (some (w + 1)) t = some (w + 1)
    unfold va_up
    exact if_pos rfl
  have hot : ∀ s, ¬ s = t → (enqS σ t (w + 1)).1 s = σ.1 s := fun s q => by
    show va_up σ.1 t (some (w + 1)) s = σ.1 s
    unfold va_up
    exact if_neg q
  have hv : ∀ s v, (enqS σ t (w + 1)).1 s = some v → (s = t ∧ v = w + 1) ∨ σ.1 s = some v := fun s v q => by
    by_cases z : s = t
    · subst z
      rw [hmk] at q
      cases q
      exact Or.inl ⟨rfl, rfl⟩
    · rw [hot s z] at q
      exact Or.inr q
  have hc : ∀ j, j < σ.2.2 + 1 → j < σ.2.2 ∨ j = σ.2.2 := fun j hj => by omega
  have hle : ∀ j, j < σ.2.2 → vl σ.1 (σ.2.1 j) ≤ w + 1 := fun j hj => by
    obtain ⟨v, q⟩ := h1.2.2.1 j hj
    rw [vl_some q]
    exact h4 _ _ q
  refine ⟨h1.enq ht hn, fun s hs => ?_, fun j k hjk hk => ?_, fun s v q => ?_, fun j hj hij => ?_, fun j hj hji => ?_, fun s v q => ?_, fun j hj => ?_⟩
  · by_cases z : s = t
    · exact Or.inl ⟨σ.2.2, Nat.lt_succ_self _, by rw [hnew, z]⟩
    · rw [hot s z] at hs
      rcases h2 s hs with ⟨j, hj, q⟩ | q
      · exact Or.inl ⟨j, Nat.lt_succ_of_lt hj, by rw [hne j hj, q]⟩
      · exact Or.inr q
  · rcases hc k hk with q | q
    · rw [e.vq h1 q, e.vq h1 (show j < σ.2.2 by omega)]
      exact h3 j k hjk q
    · subst q
      rw [hnew, vl_some hmk]
      rcases hc j (by omega) with z | z
      · rw [e.vq h1 z]
        exact hle j z
      · rw [z, hnew, vl_some hmk]
        exact Nat.le_refl _
  · rcases hv s v q with z | z
    · omega
    · exact h4 s v z
  · rcases hc j hj with q | q
    · rw [e.vq h1 q]
      exact h5 j q hij
    · rw [q, hnew, vl_some hmk]
      omega
  · have q : j < σ.2.2 := by omega
    obtain ⟨v, z⟩ := h1.2.2.1 j q
    rw [hne j q]
    exact (h6 j q hji).ext z e
  · rcases hv s v q with z | z
    · rw [z.1, z.2]
      exact hR
    · exact h7 s v z
  · rcases hc j hj with q | q
    · rw [hne j q]
      exact h8 j q
    · rw [q, hnew]
      exact hQ
theorem FL.mark {T : TW} {p i w t : Nat} {R : Nat → Nat → Prop} {Q : Nat → Prop} {σ : WS} (h : FL T p R Q i w σ) (hn : σ.1 t = none) (hR : R (w + 1) t) (ho : obsT T p t = 4) : FL T p R Q i w (va_up σ.1 t (some (w + 1)), σ.2.1, σ.2.2) := by
  obtain ⟨h1, h2, h3, h4, h5, h6, h7, h8⟩ := h
  have e : Ext σ (va_up σ.1 t (some (w + 1)), σ.2.1, σ.2.2) := Ext.mark hn
  have hmk : va_up σ.1 t (some (w + 1)) t = some (w + 1) := by
    unfold va_up
    exact if_pos rfl
  have hot : ∀ s, ¬ s = t → va_up σ.1 t (some (w + 1)) s = σ.1 s := fun s q => by
    unfold va_up
    exact if_neg q
  have hv : ∀ s v, va_up σ.1 t (some (w + 1)) s = some v → (s = t ∧ v = w + 1) ∨ σ.1 s = some v := fun s v q => by
    by_cases z : s = t
    · subst z
      rw [hmk] at q
      cases q
      exact Or.inl ⟨rfl, rfl⟩
    · rw [hot s z] at q
      exact Or.inr q
  refine ⟨QI.mark (len := σ.1) h1, fun s hs => ?_, fun j k hjk hk => ?_, fun s v q => ?_, fun j hj hij => ?_, fun j hj hji => ?_, fun s v q => ?_, h8⟩
  · by_cases z : s = t
    · rw [z]
      exact Or.inr ho
    · exact h2 s (fun q => hs (by show va_up σ.1 t (some (w + 1)) s = none; rw [hot s z]; exact q))
  · rw [e.vq h1 hk, e.vq h1 (Nat.lt_of_le_of_lt hjk hk)]
    exact h3 j k hjk hk
  · rcases hv s v q with z | z
    · omega
    · exact h4 s v z
  · rw [e.vq h1 hj]
    exact h5 j hj hij
  · obtain ⟨v, z⟩ := h1.2.2.1 j hj
    exact (h6 j hj hji).ext z e
  · rcases hv s v q with z | z
    · rw [z.1, z.2]
      exact hR
    · exact h7 s v z
/-- while the squares beside f are looked at, k of them -/
def FM (T : TW) (p : Nat) (R : Nat → Nat → Prop) (Q : Nat → Prop) (i f w k : Nat) (σ : WS) : Prop :=
  FL T p R Q i w σ ∧ i < σ.2.2 ∧ σ.2.1 i = f ∧ σ.1 f = some w ∧ ∀ d t, d < k → nbT f d = some t → obsT T p t = 0 ∨ obsT T p t = 4 → ∃ v, σ.1 t = some v ∧ v ≤ w + 1
def RST (T : TW) (p : Nat) (R : Nat → Nat → Prop) (Q : Nat → Prop) : Prop := (∀ f w d t, f < 80 → Q f → R w f → d < 4 → nbT f d = some t → obsT T p t = 0 ∨ obsT T p t = 4 → R (w + 1) t) ∧ ∀ t, t < 80 → obsT T p t = 0 → Q t
theorem FM.ext {T : TW} {p i f w k v : Nat} {R : Nat → Nat → Prop} {Q : Nat → Prop} {σ τ : WS} (h : FM T p R Q i f w k σ) (hF : FL T p R Q i w τ) (e : Ext σ τ) (hd : ∀ t, nbT f k = some t → obsT T p t = 0 ∨ obsT T p t = 4 → ∃ v, τ.1 t = some v ∧ v ≤ w + 1) : FM T p R Q i f w (k + 1) τ := by
  obtain ⟨h1, h2, h3, h4, h5⟩ := h
  refine ⟨hF, Nat.lt_of_lt_of_le h2 e.2.1, by rw [e.2.2 i h2, h3], e.1 _ _ h4, fun d t q hn ho => ?_⟩
  by_cases z : d = k
  · subst z
    exact hd t hn ho
  · obtain ⟨v, z1, z2⟩ := h5 d t (by omega) hn ho
    exact ⟨v, e.1 _ _ z1, z2⟩
theorem FM.dir {T : TW} {p i f w k : Nat} {R : Nat → Nat → Prop} {Q : Nat → Prop} {σ : WS} (hR : RST T p R Q) (hk : k < 4) (h : FM T p R Q i f w k σ) : FM T p R Q i f w (k + 1) (dirS T p f (w + 1) k σ) ∧ Ext σ (dirS T p f (w + 1) k σ) := by
  have hF := h.1
  have hi := h.2.1
  have hf : f < 80 := by
    rw [← h.2.2.1]
    exact hF.1.2.1 i hi
  have hQf : Q f := by
    rw [← h.2.2.1]
    exact hF.2.2.2.2.2.2.2 i hi
  have hRf := hF.2.2.2.2.2.2.1 f w h.2.2.2.1
  unfold dirS
  split
  · rename_i hn
    exact ⟨h.ext (v := 0) hF (Ext.rf σ) (fun t q => by rw [hn] at q; cases q), Ext.rf σ⟩
  · rename_i t hn
    have ht := nb_lt hf t hn
    split
    · rename_i hm
      split
      · rename_i ho
        refine ⟨h.ext (v := 0) (hF.enq (Nat.le_of_lt hi) ht hm (hR.1 f w k t hf hQf hRf hk hn (Or.inl ho)) (hR.2 t ht ho)) (Ext.enq hm) (fun u q _ => ?_), Ext.enq hm⟩
        rw [hn] at q
        cases q
        exact ⟨w + 1, by show va_up σ.1 t (some (w + 1)) t = some (w + 1); unfold va_up; exact if_pos rfl, Nat.le_refl _⟩
      · split
        · rename_i ho
          refine ⟨h.ext (v := 0) (hF.mark hm (hR.1 f w k t hf hQf hRf hk hn (Or.inr ho)) ho) (Ext.mark hm) (fun u q _ => ?_), Ext.mark hm⟩
          rw [hn] at q
          cases q
          exact ⟨w + 1, by show va_up σ.1 t (some (w + 1)) t = some (w + 1); unfold va_up; exact if_pos rfl, Nat.le_refl _⟩
        · rename_i n0 n4
          refine ⟨h.ext (v := 0) hF (Ext.rf σ) (fun u q ho => ?_), Ext.rf σ⟩
          rw [hn] at q
          cases q
          rcases ho with z | z
          · exact absurd z n0
          · exact absurd z n4
    · rename_i hm
      refine ⟨h.ext (v := 0) hF (Ext.rf σ) (fun u q ho => ?_), Ext.rf σ⟩
      rw [hn] at q
      cases q
      cases e : σ.1 t with
      | none => exact absurd e hm
      | some v => exact ⟨v, rfl, hF.2.2.2.1 t v e⟩
theorem FM.dirs {T : TW} {p i f w : Nat} {R : Nat → Nat → Prop} {Q : Nat → Prop} {σ : WS} (hR : RST T p R Q) (h : FM T p R Q i f w 0 σ) : ∀ k, k ≤ 4 → FM T p R Q i f w k (dirsS T p f (w + 1) k σ) ∧ Ext σ (dirsS T p f (w + 1) k σ)
  | 0, _ => ⟨h, Ext.rf σ⟩
  | k + 1, hk => by
    obtain ⟨h1, h2⟩ := FM.dirs hR h k (by omega)
    obtain ⟨h3, h4⟩ := h1.dir hR (by omega)
    exact ⟨h3, h2.tr h4⟩
theorem FL.proc {T : TW} {p i b : Nat} {R : Nat → Nat → Prop} {Q : Nat → Prop} {σ : WS} (hR : RST T p R Q) (h : FL T p R Q i b σ) (hi : i < σ.2.2) : ∃ w, FL T p R Q (i + 1) w (procS T p i σ) ∧ Ext σ (procS T p i σ) := by
  obtain ⟨w, hw⟩ := h.1.2.2.1 i hi
  have h0 : FM T p R Q i (σ.2.1 i) w 0 σ := ⟨h.take hi hw, hi, rfl, hw, fun d t q => absurd q (Nat.not_lt_zero d)⟩
  obtain ⟨h1, h2⟩ := FM.dirs hR h0 4 (Nat.le_refl 4)
  have e : procS T p i σ = dirsS T p (σ.2.1 i) (w + 1) 4 σ := by
    unfold procS
    rw [hw]
  rw [e]
  obtain ⟨⟨k1, k2, k3, k4, k5, k6, k7, k8⟩, g2, g3, g4, g5⟩ := h1
  refine ⟨w, ⟨k1, k2, k3, k4, fun j hj hij => k5 j hj (by omega), fun j hj hji => ?_, k7, k8⟩, h2⟩
  by_cases z : j = i
  · subst z
    rw [g3]
    intro d t hd hn ho
    rw [vl_some g4]
    exact g5 d t hd hn ho
  · exact k6 j hj (by omega)
theorem FL.flood {T : TW} {p : Nat} {R : Nat → Nat → Prop} {Q : Nat → Prop} (hR : RST T p R Q) : ∀ (k i b : Nat) (σ : WS), FL T p R Q i b σ → 80 ≤ k + i → ∃ j c, FL T p R Q j c (floodS T p k i σ) ∧ (floodS T p k i σ).2.2 ≤ j ∧ Ext σ (floodS T p k i σ)
  | 0, i, b, σ, h, hk => ⟨i, b, h, by have := h.1.1; show σ.2.2 ≤ i; omega, Ext.rf σ⟩
  | k + 1, i, b, σ, h, hk => by
    rw [floodS]
    split
    · rename_i hi
      obtain ⟨w, h1, h2⟩ := h.proc hR hi
      obtain ⟨j, c, h3, h4, h5⟩ := FL.flood hR k (i + 1) w _ h1 (by omega)
      exact ⟨j, c, h3, h4, h2.tr h5⟩
    · rename_i hi
      exact ⟨i, b, h, by omega, Ext.rf σ⟩
