/-! the reference's other arrays, and what it writes -/
def sC (K : Nat → ClassId) (r : Nat → Nat) (sv : Nat → Int32) : Nat × va_E := (r 2, .inl (K 0, 1728, .inl sv))
def bC (K : Nat → ClassId) (r : Nat → Nat) (cs : Nat → Nat) : Nat × va_E := (r 3, .inl (K 0, 60, .inl (fun j => nI (cs j))))
def pC (K : Nat → ClassId) (r : Nat → Nat) (pf : Nat → Int32) : Nat × va_E := (r 4, .inl (K 0, 96, .inl pf))
def fC (K : Nat → ClassId) (r : Nat → Nat) (fa : Nat → Nat) : Nat × va_E := (r 5, .inl (K 0, 80, .inl (fun j => nI (fa j))))
def shS (sv : Nat → Int32) (i : Nat) : Nat → Int32 := fun j => if j < i then sv (j + 288) else sv j
def wrS (sv : Nat → Int32) (n : Nat) (T : TW) (i : Nat) : Nat → Int32 := fun j => if n * 288 ≤ j ∧ j < n * 288 + i then zT T (j - n * 288) else sv j
def savS (sv : Nat → Int32) (sn : Nat) (T : TW) : Nat → Int32 := if sn < 6 then wrS sv sn T 288 else wrS (shS sv 1440) 5 T 288
theorem shS_0 (sv : Nat → Int32) : shS sv 0 = sv := by
  funext j
  unfold shS
  rw [if_neg (Nat.not_lt_zero j)]
theorem shS_up (sv : Nat → Int32) (i : Nat) : upd (shS sv i) i (shS sv i (i + 288)) = shS sv (i + 1) := by
  funext j
  unfold upd
  by_cases h : j = i
  · subst h
    rw [if_pos rfl]
    unfold shS
    rw [if_neg (by omega), if_pos (by omega)]
  · rw [if_neg h]
    unfold shS
    by_cases h2 : j < i
    · rw [if_pos h2, if_pos (by omega)]
    · rw [if_neg h2, if_neg (by omega)]
theorem wrS_0 (sv : Nat → Int32) (n : Nat) (T : TW) : wrS sv n T 0 = sv := by
  funext j
  unfold wrS
  rw [if_neg (by omega)]
theorem wrS_up (sv : Nat → Int32) (n : Nat) (T : TW) (i : Nat) : upd (wrS sv n T i) (n * 288 + i) (zT T i) = wrS sv n T (i + 1) := by
  funext j
  unfold upd
  by_cases h : j = n * 288 + i
  · subst h
    rw [if_pos rfl]
    unfold wrS
    rw [if_pos (by omega), show n * 288 + i - n * 288 = i from by omega]
  · rw [if_neg h]
    unfold wrS
    by_cases h2 : n * 288 ≤ j ∧ j < n * 288 + i
    · rw [if_pos h2, if_pos (by omega)]
    · rw [if_neg h2, if_neg (by omega)]
/-- a town that is being laid back -/
def bkS (T T2 : TW) (i : Nat) : Nat → Int32 := fun k => if k < i then zT T2 k else zT T k
theorem bkS_0 (T T2 : TW) : bkS T T2 0 = zT T := by
  funext k
  unfold bkS
  rw [if_neg (Nat.not_lt_zero k)]
theorem bkS_up (T T2 : TW) (i : Nat) {v : Int32} (h : v = zT T2 i) : upd (bkS T T2 i) i v = bkS T T2 (i + 1) := by
  subst h
  funext j
  unfold upd
  by_cases h : j = i
  · subst h
    rw [if_pos rfl]
    unfold bkS
    rw [if_pos (by omega)]
  · rw [if_neg h]
    unfold bkS
    by_cases h2 : j < i
    · rw [if_pos h2, if_pos (by omega)]
    · rw [if_neg h2, if_neg (by omega)]
theorem zT_out {T : TW} {k : Nat} (h : 288 ≤ k) : zT T k = 0 := by
  unfold zT
  rw [if_neg (by omega), if_neg (by omega), if_neg (by omega), if_neg (by omega), if_neg (by omega), if_neg (by omega), if_neg (by omega)]
theorem bkS_all (T T2 : TW) : bkS T T2 288 = zT T2 := by
  funext k
  unfold bkS
  by_cases h : k < 288
  · rw [if_pos h]
  · rw [if_neg h, zT_out (by omega), zT_out (by omega)]
/-- a piece laid by the reference -/
theorem lay_ref_n (T : TW) (p to d : Nat) (v1 v2 v3 : Int32) (h : owT T to = none) (e1 : v1 = T 5 p + (nI (stT T 2) - nI (tollT T to))) (e2 : v2 = T 8 p + nI (tollT T to)) (e3 : v3 = T 11 0 + 1) : setT (setT (setT (setT (setT (setT (setT T 5 p v1) 8 p v2) 6 p (nI to)) 7 p (nI d)) 2 to (nI p)) 1 to (nI (mkT T to ||| 2 ^ p))) 11 0 v3 = layT T p to d := by
  subst e1 e2 e3
  unfold layT
  rw [h]
  funext k
  unfold incT setT
  by_cases h1 : k = 1
  · subst h1; simp
  by_cases h2 : k = 2
  · subst h2; simp
  by_cases h5 : k = 5
  · subst h5; simp
  by_cases h6 : k = 6
  · subst h6; simp
  by_cases h7 : k = 7
  · subst h7; simp
  by_cases h8 : k = 8
  · subst h8; simp
  by_cases h11 : k = 11
  · subst h11; simp
  simp [h1, h2, h5, h6, h7, h8, h11]
theorem upd_two (f : Nat → Int32) (p o : Nat) (x y : Int32) : upd (upd f p (f p + x)) o (upd f p (f p + x) o + y) = upd (upd f o (f o + y)) p (upd f o (f o + y) p + x) := by
  funext i
  unfold upd
  by_cases h1 : i = o
  · by_cases h2 : i = p
    · subst h1; subst h2
      simp only [if_true]
      rw [Int32.add_assoc, Int32.add_assoc, Int32.add_comm x y]
    · subst h1
      rw [if_pos rfl, if_neg h2, if_neg h2, if_pos rfl]
  · by_cases h2 : i = p
    · subst h2
      rw [if_neg h1, if_pos rfl, if_pos rfl, if_neg h1]
    · rw [if_neg h1, if_neg h2, if_neg h2, if_neg h1]
theorem lay_ref_s (T : TW) (p to d o : Nat) (v1 v2 v3 v4 v5 : Int32) (h : owT T to = some o) (e1 : v1 = T 5 p + (nI (stT T 2) - nI (tollT T to))) (e2 : v2 = T 8 p + nI (tollT T to)) (e3 : v3 = T 11 0 + 1) (e4 : v4 = upd (T 5) p v1 o + nI (tollT T to)) (e5 : v5 = T 9 o + nI (tollT T to)) : setT (setT (setT (setT (setT (setT (setT (setT T 5 p v1) 8 p v2) 6 p (nI to)) 7 p (nI d)) 5 o v4) 9 o v5) 1 to (nI (mkT T to ||| 2 ^ p))) 11 0 v3 = layT T p to d := by
  subst e5 e4 e1 e2 e3
  unfold layT
  rw [h]
  funext k
  unfold incT setT
  by_cases h1 : k = 1
  · subst h1; simp
  by_cases h2 : k = 2
  · subst h2; simp
  by_cases h5 : k = 5
  · subst h5; simp only [if_true, if_false, reduceIte, Nat.reduceEqDiff]; exact upd_two _ _ _ _ _
  by_cases h6 : k = 6
  · subst h6; simp
  by_cases h7 : k = 7
  · subst h7; simp
  by_cases h8 : k = 8
  · subst h8; simp
  by_cases h9 : k = 9
  · subst h9; simp
  by_cases h11 : k = 11
  · subst h11; simp
  simp [h1, h2, h5, h6, h7, h8, h9, h11]
/-! reading the buffer: pieces, state, player, list -/
abbrev RS : Type := Nat × Nat × Int32 × (Nat → Int32)
def stOk (c st : Nat) : Bool := if st = 0 then inR 0 3 (nI c - nI 48) else if st = 1 then decide (c = 58) else if st = 3 then (dirC c).isSome else if st = 4 ∧ c = 59 then true else decide (49 ≤ c ∧ c ≤ 54)
def stNx (c : Nat) (σ : RS) : RS := if σ.2.1 = 0 then (σ.1, 1, nI c - nI 48, σ.2.2.2) else if σ.2.1 = 1 then (σ.1, 2, σ.2.2.1, σ.2.2.2) else if σ.2.1 = 3 then (σ.1 + 1, 4, σ.2.2.1, upd σ.2.2.2 (3 * σ.1 + 2) (oI (dirC c))) else if σ.2.1 = 4 ∧ c = 59 then (σ.1, 0, σ.2.2.1, σ.2.2.2) else (σ.1, 3, σ.2.2.1, upd (upd σ.2.2.2 (3 * σ.1) σ.2.2.1) (3 * σ.1 + 1) (nI c - nI 48))
def rdS (cs : Nat → Nat) : Nat → Nat → RS → Nat × RS
  | 0, i, σ => (i, σ)
  | k + 1, i, σ => if stOk (cs i) σ.2.1 = true then rdS cs k (i + 1) (stNx (cs i) σ) else (i, stNx (cs i) σ)
def rbS (cs : Nat → Nat) (ln : Nat) (pn : Int32) (pf : Nat → Int32) : Nat × RS := rdS cs ln 0 (0, 0, pn, pf)
def whS (cs : Nat → Nat) (ln : Nat) (pn : Int32) (pf : Nat → Int32) : Bool := decide ((rbS cs ln pn pf).1 = ln) && decide ((rbS cs ln pn pf).2.2.1 = 4)
theorem stn_lt {c : Nat} {σ : RS} (h : σ.2.1 < 5) : (stNx c σ).2.1 < 5 := by
  unfold stNx
  repeat' split
  all_goals simp
theorem rd_lt {cs : Nat → Nat} : ∀ (k i : Nat) (σ : RS), σ.2.1 < 5 → (rdS cs k i σ).2.2.1 < 5 ∧ i ≤ (rdS cs k i σ).1 ∧ (rdS cs k i σ).1 ≤ i + k
  | 0, i, σ, h => ⟨h, Nat.le_refl _, Nat.le_refl _⟩
  | k + 1, i, σ, h => by
    rw [rdS]
    split
    · have := rd_lt (cs := cs) k (i + 1) (stNx (cs i) σ) (stn_lt h)
      exact ⟨this.1, by omega, by omega⟩
    · exact ⟨stn_lt h, Nat.le_refl _, by omega⟩
def pmM (σ : RS) : Nat := 2 * σ.1 + (if σ.2.1 = 3 then 1 else 0)
theorem pmM_le (σ : RS) : 2 * σ.1 ≤ pmM σ := Nat.le_add_right _ _
theorem pmM_nx (c : Nat) (σ : RS) : pmM (stNx c σ) ≤ pmM σ + 1 := by
  unfold pmM stNx
  by_cases h0 : σ.2.1 = 0
  · rw [if_pos h0]; simp [h0]
  rw [if_neg h0]
  by_cases h1 : σ.2.1 = 1
  · rw [if_pos h1]; simp [h1]
  rw [if_neg h1]
  by_cases h3 : σ.2.1 = 3
  · rw [if_pos h3]; simp [h3]; omega
  rw [if_neg h3]
  by_cases h4 : σ.2.1 = 4 ∧ c = 59
  · rw [if_pos h4]; simp [h4]
  rw [if_neg h4]
  simp
theorem rd_ok {cs : Nat → Nat} {ln i : Nat} {σ : RS} (hi : i < ln) (h : stOk (cs i) σ.2.1 = true) : rdS cs (ln - i) i σ = rdS cs (ln - (i + 1)) (i + 1) (stNx (cs i) σ) := by
  rw [show ln - i = (ln - (i + 1)) + 1 from by omega, rdS, if_pos h]
theorem rd_no {cs : Nat → Nat} {ln i : Nat} {σ : RS} (hi : i < ln) (h : stOk (cs i) σ.2.1 = false) : rdS cs (ln - i) i σ = (i, stNx (cs i) σ) := by
  rw [show ln - i = (ln - (i + 1)) + 1 from by omega, rdS, if_neg (by rw [h]; decide)]
theorem rd_end {cs : Nat → Nat} {ln i : Nat} {σ : RS} (hi : ln ≤ i) : rdS cs (ln - i) i σ = (i, σ) := by
  rw [show ln - i = 0 from by omega, rdS]
theorem rb_lt (cs : Nat → Nat) (ln : Nat) (pn : Int32) (pf : Nat → Int32) : (rbS cs ln pn pf).2.2.1 < 5 ∧ (rbS cs ln pn pf).1 ≤ ln := by
  have h := rd_lt (cs := cs) ln 0 (0, 0, pn, pf) (Nat.zero_lt_succ 4)
  exact ⟨h.1, by have := h.2.2; unfold rbS; omega⟩
def pcP (pf : Nat → Int32) (i : Nat) : Nat := tn (pf (3 * i))
def pcG (pf : Nat → Int32) (i : Nat) : Nat := tn (pf (3 * i + 1))
def pcD (pf : Nat → Int32) (i : Nat) : Nat := tn (pf (3 * i + 2))
def PcOK (pf : Nat → Int32) (pm : Nat) : Prop := pm ≤ 30 ∧ ∀ i, i < pm → (∃ p, p < 4 ∧ pf (3 * i) = nI p) ∧ (∃ g, g < 7 ∧ pf (3 * i + 1) = nI g) ∧ (∃ d, d < 4 ∧ pf (3 * i + 2) = nI d)
theorem pc_p {pf : Nat → Int32} {pm i : Nat} (h : PcOK pf pm) (hi : i < pm) : pf (3 * i) = nI (pcP pf i) ∧ pcP pf i < 4 := by
  obtain ⟨p, hp, e⟩ := (h.2 i hi).1
  unfold pcP
  rw [e, tn_nI (by omega)]
  exact ⟨rfl, hp⟩
theorem pc_g {pf : Nat → Int32} {pm i : Nat} (h : PcOK pf pm) (hi : i < pm) : pf (3 * i + 1) = nI (pcG pf i) ∧ pcG pf i < 7 := by
  obtain ⟨p, hp, e⟩ := (h.2 i hi).2.1
  unfold pcG
  rw [e, tn_nI (by omega)]
  exact ⟨rfl, hp⟩
theorem pc_d {pf : Nat → Int32} {pm i : Nat} (h : PcOK pf pm) (hi : i < pm) : pf (3 * i + 2) = nI (pcD pf i) ∧ pcD pf i < 4 := by
  obtain ⟨p, hp, e⟩ := (h.2 i hi).2.2
  unfold pcD
  rw [e, tn_nI (by omega)]
  exact ⟨rfl, hp⟩
def okP (T : TW) (p g d : Nat) : Bool := decide (whyT T p (hdT T p) g d = 0)
def plT1 (T : TW) (p g d : Nat) : TW := if okP T p g d = true then (match nbT (hdT T p) d with
  | none => T
  | some to => layT T p to d) else T
theorem plT1_no {T : TW} {p g d : Nat} (h : ¬ whyT T p (hdT T p) g d = 0) : plT1 T p g d = T := by
  unfold plT1 okP
  rw [if_neg (by simpa using h)]
theorem plT1_ok {T : TW} {p g d to : Nat} (h : whyT T p (hdT T p) g d = 0) (hn : nbT (hdT T p) d = some to) : plT1 T p g d = layT T p to d := by
  unfold plT1 okP
  rw [if_pos (by simpa using h), hn]
theorem plT1_inv {T : TW} {p g d : Nat} (hI : Inv T) (hp : p < 4) (hd : d < 4) : Inv (plT1 T p g d) := by
  unfold plT1
  split
  · split
    · exact hI
    · rename_i to h
      exact hI.lay hp (nb_lt (hd_lt hI hp) to h) hd
  · exact hI
def plR (pf : Nat → Int32) : Nat → Nat → TW → TW × Nat
  | 0, i, T => (T, i)
  | k + 1, i, T => if okP T (pcP pf i) (pcG pf i) (pcD pf i) = true then plR pf k (i + 1) (plT1 T (pcP pf i) (pcG pf i) (pcD pf i)) else (T, i)
theorem plR_ok {pf : Nat → Int32} {pm i : Nat} {T : TW} (hi : i < pm) (h : okP T (pcP pf i) (pcG pf i) (pcD pf i) = true) : plR pf (pm - i) i T = plR pf (pm - (i + 1)) (i + 1) (plT1 T (pcP pf i) (pcG pf i) (pcD pf i)) := by
  rw [show pm - i = (pm - (i + 1)) + 1 from by omega, plR, if_pos h]
theorem plR_no {pf : Nat → Int32} {pm i : Nat} {T : TW} (hi : i < pm) (h : okP T (pcP pf i) (pcG pf i) (pcD pf i) = false) : plR pf (pm - i) i T = (T, i) := by
  rw [show pm - i = (pm - (i + 1)) + 1 from by omega, plR, if_neg (by rw [h]; decide)]
theorem plR_end {pf : Nat → Int32} {pm i : Nat} {T : TW} (hi : pm ≤ i) : plR pf (pm - i) i T = (T, i) := by
  rw [show pm - i = 0 from by omega, plR]
theorem plT1_stay {T : TW} {p g d : Nat} (h : okP T p g d = false) : plT1 T p g d = T := by
  unfold plT1
  rw [if_neg (by rw [h]; decide)]
