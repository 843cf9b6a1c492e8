/-! the searches' words -/
theorem cell_cong {cA : ClassId} {n : Nat} {f g : Nat → Int32} (h : ∀ j, j < n → f j = g j) : vp_cell cA (n, .inl f) = vp_cell cA (n, .inl g) := by
  rw [vp_cell_i, vp_cell_i]
  unfold arrV
  have e : (fun j : Fin n => Value.int (f j.val)) = (fun j : Fin n => Value.int (g j.val)) := funext fun j => by rw [h j.val j.isLt]
  rw [e]
theorem va_P.cong {D : va_G} {cl : List vw_C} {ws : va_W} {H : Heap} {q0 h n : Nat} {cA : ClassId} {f g : Nat → Int32} (hP : va_P D cl (ws.set q0 (h, .inl (cA, n, .inl f))) H) (e : ∀ j, j < n → f j = g j) : va_P D cl (ws.set q0 (h, .inl (cA, n, .inl g))) H := by
  intro k q hk
  rw [List.getElem?_set] at hk
  have hp := hP k
  rw [List.getElem?_set] at hp
  split at hk
  · rename_i hkq
    split at hk
    · rename_i hl
      rw [if_pos hkq, if_pos hl] at hp
      cases hk
      have h1 := hp _ rfl
      show H[h]? = some (vp_cell cA (n, .inl g))
      rw [← cell_cong e]
      exact h1
    · cases hk
  · rename_i hkq
    rw [if_neg hkq] at hp
    exact hp q hk
theorem va_D.cong {A : Nat → Prop} {ws : va_W} {q0 h : Nat} {e1 e2 : va_E} (hD : va_D A (ws.set q0 (h, e1))) : va_D A (ws.set q0 (h, e2)) := by
  have key : ∀ (k : Nat) (q : Nat × va_E), (ws.set q0 (h, e2))[k]? = some q → ∃ q' : Nat × va_E, (ws.set q0 (h, e1))[k]? = some q' ∧ q'.1 = q.1 := by
    intro k q hk
    rw [List.getElem?_set] at hk ⊢
    split at hk
    · rename_i hkq
      split at hk
      · rename_i hl
        rw [if_pos hkq, if_pos hl]
        cases hk
        exact ⟨_, rfl, rfl⟩
      · cases hk
    · rename_i hkq
      rw [if_neg hkq]
      exact ⟨q, hk, rfl⟩
  refine ⟨fun i j p q hi hj hpq => ?_, fun k q hk => ?_⟩
  · obtain ⟨p', h1, h2⟩ := key i p hi
    obtain ⟨q', h3, h4⟩ := key j q hj
    exact hD.1 i j p' q' h1 h3 (by rw [h2, h4]; exact hpq)
  · obtain ⟨q', h1, h2⟩ := key k q hk
    rw [← h2]
    exact hD.2 k q' h1
theorem updON (len : Nat → Option Nat) (k v : Nat) : upd (fun j => oI (len j)) k (nI v) = fun j => oI (va_up len k (some v) j) := by
  funext j
  unfold upd va_up
  split <;> rfl
theorem updOM (len : Nat → Option Nat) (k : Nat) : upd (fun j => oI (len j)) k (-1) = fun j => oI (va_up len k none j) := by
  funext j
  unfold upd va_up
  split <;> rfl
theorem updNN (qu : Nat → Nat) (k v : Nat) : upd (fun j => nI (qu j)) k (nI v) = fun j => nI (va_up qu k v j) := by
  funext j
  unfold upd va_up
  split <;> rfl
def waysW (K : Nat → ClassId) (b : Nat → Nat) (len : Nat → Option Nat) (qu : Nat → Nat) (n : Nat) : va_W := [(b 0, .inr (2, [.ref (b 1), .ref (b 2), .int (nI n)])), (b 1, .inl (K 0, 80, .inl (fun j => oI (len j)))), (b 2, .inl (K 0, 80, .inl (fun j => nI (qu j))))]
abbrev WS : Type := (Nat → Option Nat) × (Nat → Nat) × Nat
def enqS (σ : WS) (s v : Nat) : WS := (va_up σ.1 s (some v), va_up σ.2.1 σ.2.2 s, σ.2.2 + 1)
def dirS (T : TW) (p f v d : Nat) (σ : WS) : WS := match nbT f d with
  | none => σ
  | some t => if σ.1 t = none then (if obsT T p t = 0 then enqS σ t v else if obsT T p t = 4 then (va_up σ.1 t (some v), σ.2.1, σ.2.2) else σ) else σ
def dirsS (T : TW) (p f v : Nat) : Nat → WS → WS
  | 0, σ => σ
  | k + 1, σ => dirS T p f v k (dirsS T p f v k σ)
def procS (T : TW) (p i : Nat) (σ : WS) : WS := match σ.1 (σ.2.1 i) with
  | none => σ
  | some w => dirsS T p (σ.2.1 i) (w + 1) 4 σ
def floodS (T : TW) (p : Nat) : Nat → Nat → WS → WS
  | 0, _, σ => σ
  | k + 1, i, σ => if i < σ.2.2 then floodS T p k (i + 1) (procS T p i σ) else σ
theorem flood_done {T : TW} {p i : Nat} {σ : WS} (h : σ.2.2 ≤ i ∨ 80 ≤ i) : floodS T p (80 - i) i σ = σ := by
  cases e : 80 - i with
  | zero => rfl
  | succ k => rw [floodS, if_neg (by omega)]
theorem flood_step {T : TW} {p i w : Nat} {σ σ2 : WS} (h : i < σ.2.2) (hi : i < 80) (hw : σ.1 (σ.2.1 i) = some w) (h2 : dirsS T p (σ.2.1 i) (w + 1) 4 σ = σ2) : floodS T p (80 - i) i σ = floodS T p (80 - (i + 1)) (i + 1) σ2 := by
  rw [show 80 - i = (80 - (i + 1)) + 1 from by omega, floodS, if_pos h, procS, hw]
  simp only [h2]
/-- the queue is in order -/
def QI (σ : WS) : Prop := σ.2.2 ≤ 80 ∧ (∀ j, j < σ.2.2 → σ.2.1 j < 80) ∧ (∀ j, j < σ.2.2 → ∃ w, σ.1 (σ.2.1 j) = some w) ∧ ∀ i j, i < j → j < σ.2.2 → σ.2.1 i ≠ σ.2.1 j
def LB (B : Nat) (len : Nat → Option Nat) : Prop := ∀ s, s < 80 → ∀ k, len s = some k → k ≤ B
theorem QI.room {σ : WS} {t : Nat} (h : QI σ) (ht : t < 80) (hn : σ.1 t = none) : σ.2.2 < 80 := by
  rcases Nat.lt_or_ge σ.2.2 80 with q | q
  · exact q
  · have e : σ.2.2 = 80 := by have := h.1; omega
    obtain ⟨i, hi, hq⟩ := fb_onto (n := 80) (f := σ.2.1) (fun i hi => h.2.1 i (by omega)) (fun i j hij hj => h.2.2.2 i j hij (by omega)) ht
    obtain ⟨w, hw⟩ := h.2.2.1 i (by omega)
    rw [hq, hn] at hw
    cases hw
theorem QI.enq {σ : WS} {t v : Nat} (h : QI σ) (ht : t < 80) (hn : σ.1 t = none) : QI (enqS σ t v) := by
  have hr := h.room ht hn
  obtain ⟨h1, h2, h3, h4⟩ := h
  have hne : ∀ j, j < σ.2.2 → σ.2.1 j ≠ t := fun j hj q => by
    obtain ⟨w, hw⟩ := h3 j hj
    rw [q, hn] at hw
    cases hw
  refine ⟨?_, fun j hj => ?_, fun j hj => ?_, fun i j hij hj => ?_⟩
  · show σ.2.2 + 1 ≤ 80; omega
  · show va_up σ.2.1 σ.2.2 t j < 80
    have hj : j < σ.2.2 + 1 := hj
    unfold va_up
    split
    · exact ht
    · exact h2 j (by omega)
  · show ∃ w, va_up σ.1 t (some v) (va_up σ.2.1 σ.2.2 t j) = some w
    have hj : j < σ.2.2 + 1 := hj
    unfold va_up
    split
    · exact ⟨v, by rw [if_pos rfl]⟩
    · obtain ⟨w, hw⟩ := h3 j (by omega)
      rw [if_neg (hne j (by omega))]
      exact ⟨w, hw⟩
  · show va_up σ.2.1 σ.2.2 t i ≠ va_up σ.2.1 σ.2.2 t j
    have hj : j < σ.2.2 + 1 := hj
    unfold va_up
    rw [if_neg (by omega)]
    split
    · exact hne i (by omega)
    · exact h4 i j hij (by omega)
theorem QI.mark {len : Nat → Option Nat} {qu : Nat → Nat} {n t v : Nat} (h : QI (len, qu, n)) : QI (va_up len t (some v), qu, n) := by
  obtain ⟨h1, h2, h3, h4⟩ := h
  refine ⟨h1, h2, fun j hj => ?_, h4⟩
  obtain ⟨w, hw⟩ := h3 j hj
  show ∃ w, va_up len t (some v) (qu j) = some w
  unfold va_up
  split
  · exact ⟨v, rfl⟩
  · exact ⟨w, hw⟩
theorem LB.up {B v t : Nat} {len : Nat → Option Nat} (h : LB B len) (hv : v ≤ B) : LB B (va_up len t (some v)) := by
  intro s hs k hk
  unfold va_up at hk
  split at hk
  · cases hk; exact hv
  · exact h s hs k hk
theorem LB.mono {B C : Nat} {len : Nat → Option Nat} (h : LB B len) (hc : B ≤ C) : LB C len := fun s hs k hk => Nat.le_trans (h s hs k hk) hc
theorem LB.lt {B t : Nat} {len : Nat → Option Nat} (h : LB B len) (ht : t < 80) (hc : B < 2 ^ 31) : ∀ k, len t = some k → k < 2 ^ 31 := fun k hk => Nat.lt_of_le_of_lt (h t ht k hk) hc
theorem LB.le {B t : Nat} {len : Nat → Option Nat} (h : LB B len) (ht : t < 80) : ∀ k, len t = some k → k < B + 1 := fun k hk => Nat.lt_succ_of_le (h t ht k hk)
theorem LB.non {B : Nat} : LB B (fun _ => none) := fun s _ k hk => by cases hk
def seedS (T : TW) (p : Nat) : Nat → WS → WS
  | 0, σ => σ
  | k + 1, σ => if hasT T p k = true then enqS (seedS T p k σ) k 0 else seedS T p k σ
def fewS (T : TW) (p : Nat) (qu : Nat → Nat) : WS := floodS T p 80 0 (seedS T p 80 (fun _ => none, qu, 0))
def misS (T : TW) (p : Nat) : Nat → WS → WS
  | 0, σ => σ
  | k + 1, σ => match sqT T k with
    | none => misS T p k σ
    | some s => if missT T p k = true ∧ obsT T p s = 0 then enqS (misS T p k σ) s 0 else misS T p k σ
def mfS (T : TW) (p : Nat) (qu : Nat → Nat) : WS := floodS T p 80 0 (misS T p 12 (fun _ => none, qu, 0))
def nolS (T : TW) (p : Nat) (len : Nat → Option Nat) : Nat → Option Nat
  | 0 => none
  | k + 1 => if hasT T p k = true then lesO (nolS T p len k) (len k) else nolS T p len k
theorem nol_lt {T : TW} {p B : Nat} {len : Nat → Option Nat} (h : LB B len) : ∀ i, i ≤ 80 → ∀ k, nolS T p len i = some k → k < B + 1
  | 0, _, k, hk => by cases hk
  | i + 1, hi, k, hk => by
    rw [nolS] at hk
    split at hk
    · exact les_lt (nol_lt h i (by omega)) (h.le (by omega)) k hk
    · exact nol_lt h i (by omega) k hk
def befS (len : Nat → Option Nat) (s : Nat) : Nat → Option Nat
  | 0 => none
  | d + 1 => match nbT s d with
    | none => befS len s d
    | some t => lesO (befS len s d) (len t)
theorem bef_lt {B s : Nat} {len : Nat → Option Nat} (h : LB B len) (hs : s < 80) : ∀ d, ∀ k, befS len s d = some k → k < B + 1
  | 0, k, hk => by cases hk
  | d + 1, k, hk => by
    rw [befS] at hk
    split at hk
    · exact bef_lt h hs d k hk
    · rename_i t ht
      exact les_lt (bef_lt h hs d) (h.le (nb_lt hs t ht)) k hk
def impS (T : TW) (p : Nat) (len : Nat → Option Nat) (s : Nat) : Option Nat := if obsT T p s = 0 then (match befS len s 4 with
  | none => none
  | some b => match len s with
    | none => some (b + tollT T s)
    | some k => if k ≤ b + tollT T s then none else some (b + tollT T s)) else none
def impL (T : TW) (p : Nat) (len : Nat → Option Nat) (s : Nat) : Nat → Option Nat := match impS T p len s with
  | none => len
  | some c => va_up len s (some c)
theorem imp_LB {T : TW} {p B s : Nat} {len : Nat → Option Nat} (hI : Inv T) (h : LB B len) (hs : s < 80) : LB (B + 36) (impL T p len s) := by
  unfold impL
  split
  · exact h.mono (by omega)
  · rename_i c hc
    refine (h.mono (by omega)).up ?_
    unfold impS at hc
    have ht := toll_lt (s := s) hI
    split at hc
    · split at hc
      · cases hc
      · rename_i b hb
        have h1 := bef_lt h hs 4 b hb
        split at hc
        · cases hc; omega
        · split at hc
          · cases hc
          · cases hc; omega
    · cases hc
def iniS (T : TW) (p : Nat) (len : Nat → Option Nat) : Nat → Nat → Option Nat
  | 0 => len
  | k + 1 => va_up (iniS T p len k) k (if hasT T p k = true then some 0 else none)
theorem ini_at (T : TW) (p : Nat) (len : Nat → Option Nat) : ∀ i s, iniS T p len i s = if s < i then (if hasT T p s = true then some 0 else none) else len s
  | 0, s => by rw [iniS, if_neg (Nat.not_lt_zero s)]
  | i + 1, s => by
    rw [iniS]
    unfold va_up
    split
    · rename_i h
      subst h
      rw [if_pos (Nat.lt_succ_self s)]
    · rw [ini_at T p len i s]
      by_cases h : s < i
      · rw [if_pos h, if_pos (show s < i + 1 by omega)]
      · rw [if_neg h, if_neg (show ¬ s < i + 1 by omega)]
theorem ini_LB (T : TW) (p : Nat) (len : Nat → Option Nat) : LB 0 (iniS T p len 80) := by
  intro s hs k hk
  rw [ini_at, if_pos hs] at hk
  split at hk
  · cases hk; exact Nat.le_refl _
  · cases hk
abbrev LC : Type := (Nat → Option Nat) × Bool
def sqo (r i : Nat) : Nat := if r % 2 = 0 then i else 79 - i
def swpS (T : TW) (p r : Nat) : Nat → LC → LC
  | 0, σ => σ
  | i + 1, σ => (impL T p (swpS T p r i σ).1 (sqo r i), (swpS T p r i σ).2 || (impS T p (swpS T p r i σ).1 (sqo r i)).isSome)
def rndS (T : TW) (p : Nat) : Nat → Nat → LC → Nat → Option Nat
  | 0, _, σ => σ.1
  | k + 1, r, σ => if σ.2 = true then rndS T p k (r + 1) (swpS T p r 80 (σ.1, false)) else σ.1
theorem rnd_done {T : TW} {p r : Nat} {len : Nat → Option Nat} {ch : Bool} (h : 80 ≤ r ∨ ch = false) : rndS T p (80 - r) r (len, ch) = len := by
  cases e : 80 - r with
  | zero => rfl
  | succ k =>
    rcases h with h | h
    · omega
    · subst h; rfl
theorem rnd_step {T : TW} {p r : Nat} {len l2 : Nat → Option Nat} {c2 : Bool} (hr : r < 80) (h2 : swpS T p r 80 (len, false) = (l2, c2)) : rndS T p (80 - r) r (len, true) = rndS T p (80 - (r + 1)) (r + 1) (l2, c2) := by
  rw [show 80 - r = (80 - (r + 1)) + 1 from by omega, rndS, if_pos rfl]
  simp only [h2]
def cheS (T : TW) (p : Nat) (len : Nat → Option Nat) : Nat → Option Nat := rndS T p 80 0 (iniS T p len 80, true)
def bstS (T : TW) (p die : Nat) (L : Nat → Option Nat) (la : Option Nat) : Nat → Option Nat × Nat × Nat
  | 0 => (none, 0, 0)
  | d + 1 => if whyT T p (hdT T p) die d = 0 then (match nbT (hdT T p) d with
    | none => bstS T p die L la d
    | some to => match lesO la (L to) with
      | none => bstS T p die L la d
      | some aw => if (bstS T p die L la d).1 = none ∨ aw < (bstS T p die L la d).2.1 ∨ (aw = (bstS T p die L la d).2.1 ∧ tollT T to < (bstS T p die L la d).2.2) then (some d, aw, tollT T to) else bstS T p die L la d) else bstS T p die L la d
def dirB (T : TW) (p die : Nat) (qu : Nat → Nat) : Option Nat := (bstS T p die (mfS T p qu).1 (nolS T p (mfS T p qu).1 80) 4).1
theorem why_nb {T : TW} {p f die d : Nat} (h : whyT T p f die d = 0) : ∃ to, nbT f d = some to := by
  unfold whyT at h
  split at h
  · cases h
  · rename_i to hto
    exact ⟨to, hto⟩
theorem miss_sq {T : TW} {p t : Nat} (hI : Inv T) (ht : t < 12) (h : missT T p t = true) : ∃ s, sqT T t = some s := by
  unfold missT at h
  simp only [Bool.and_eq_true, decide_eq_true_eq] at h
  exact pl_sq hI ht h.1
theorem miss_pl {T : TW} {p t : Nat} (h : missT T p t = true) : plT T t = some p := by
  unfold missT at h
  simp only [Bool.and_eq_true, decide_eq_true_eq] at h
  exact h.1
theorem set_get {ws : va_W} {q0 h n : Nat} {cA : ClassId} {f g : Nat → Int32} (hq : ws[q0]? = some (h, .inl (cA, n, .inl f))) : (ws.set q0 (h, .inl (cA, n, .inl g)))[q0]? = some (h, .inl (cA, n, .inl g)) := by
  rw [List.getElem?_set, if_pos rfl, if_pos (List.getElem?_eq_some_iff.mp hq).1]
theorem set_self {ws : va_W} {q0 : Nat} {e : Nat × va_E} (hq : ws[q0]? = some e) : ws.set q0 e = ws := by
  apply List.ext_getElem?
  intro k
  rw [List.getElem?_set]
  split
  · rename_i h
    subst h
    rw [if_pos (List.getElem?_eq_some_iff.mp hq).1, hq]
  · rfl
theorem set_set {ws : va_W} {q0 : Nat} {e f : Nat × va_E} : (ws.set q0 e).set q0 f = ws.set q0 f := by
  apply List.ext_getElem?
  intro k
  simp only [List.getElem?_set, List.length_set]
  split <;> rfl
theorem fill_up (f : Nat → Int32) (v : Int32) (i : Nat) : upd (fun j => if j < i then v else f j) i v = fun j => if j < i + 1 then v else f j := by
  funext j
  unfold upd
  dsimp only
  split
  · rw [if_pos (by omega)]
  · by_cases h : j < i
    · rw [if_pos h, if_pos (by omega)]
    · rw [if_neg h, if_neg (by omega)]
theorem mis_fresh {T : TW} {p i k : Nat} {lx : Nat → Option Nat} (hI : Inv T) (hi : i < 12) (hfr : ∀ s, ¬ lx s = none → ∃ u, u < i ∧ missT T p u = true ∧ sqT T u = some s) (hm : missT T p i = true) (hk : sqT T i = some k) : lx k = none := by
  by_cases h : lx k = none
  · exact h
  · obtain ⟨u, h1, h2, h3⟩ := hfr k h
    exact (sq_one hI (show u < 12 by omega) hi (by omega) h3 hk (miss_pl h2) (miss_pl hm)).elim
theorem mis_enq {T : TW} {p i k v : Nat} {lx : Nat → Option Nat} (hfr : ∀ s, ¬ lx s = none → ∃ u, u < i ∧ missT T p u = true ∧ sqT T u = some s) (hm : missT T p i = true) (hk : sqT T i = some k) : ∀ s, ¬ va_up lx k (some v) s = none → ∃ u, u < i + 1 ∧ missT T p u = true ∧ sqT T u = some s := by
  intro s hs
  unfold va_up at hs
  split at hs
  · rename_i h
    subst h
    exact ⟨i, Nat.lt_succ_self i, hm, hk⟩
  · obtain ⟨u, h1, h2, h3⟩ := hfr s hs
    exact ⟨u, by omega, h2, h3⟩
theorem mis_keep {T : TW} {p i : Nat} {lx : Nat → Option Nat} (hfr : ∀ s, ¬ lx s = none → ∃ u, u < i ∧ missT T p u = true ∧ sqT T u = some s) : ∀ s, ¬ lx s = none → ∃ u, u < i + 1 ∧ missT T p u = true ∧ sqT T u = some s := fun s hs => by
  obtain ⟨u, h1, h2, h3⟩ := hfr s hs
  exact ⟨u, by omega, h2, h3⟩
theorem mis_no {T : TW} {p i : Nat} {σ σ2 : WS} (he : misS T p i σ = σ2) (h : ∀ s, sqT T i = some s → missT T p i = true → obsT T p s = 0 → False) : misS T p (i + 1) σ = σ2 := by
  rw [misS]
  split
  · exact he
  · rename_i s hs
    rw [if_neg (fun q => h s hs q.1 q.2)]
    exact he
