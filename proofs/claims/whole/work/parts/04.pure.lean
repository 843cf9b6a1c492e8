/-! the town as numbers: T 0 houses, 1 masks, 2 owners, 3 stops' squares, 4 stops' players, 5 coins, 6 heads, 7 last directions, 8 paid, 9 got, 10 settings, 11 (at 0) pieces laid -/
abbrev TW : Type := Nat → Nat → Int32
def tn (x : Int32) : Nat := x.toNatClampNeg
def ton (x : Int32) : Option Nat := if x = -1 then none else some x.toNatClampNeg
theorem tn_nI {n : Nat} (h : n < 2 ^ 31) : tn (nI n) = n := nI_clamp h
theorem ton_nI {n : Nat} (h : n < 2 ^ 31) : ton (nI n) = some n := by
  unfold ton
  rw [if_neg (nI_ne_m1 h), nI_clamp h]
theorem ton_m1 : ton (-1) = none := if_pos rfl
theorem ton_oI {o : Option Nat} (h : ∀ k, o = some k → k < 2 ^ 31) : ton (oI o) = o := by
  cases o with
  | none => exact ton_m1
  | some k => exact ton_nI (h k rfl)
def dep (p : Nat) : Nat := if p = 0 then 0 else if p = 1 then 9 else if p = 2 then 79 else 70
def hsT (T : TW) (s : Nat) : Bool := decide (¬ T 0 s = 0)
def mkT (T : TW) (s : Nat) : Nat := tn (T 1 s)
def owT (T : TW) (s : Nat) : Option Nat := ton (T 2 s)
def sqT (T : TW) (t : Nat) : Option Nat := ton (T 3 t)
def plT (T : TW) (t : Nat) : Option Nat := ton (T 4 t)
def coT (T : TW) (p : Nat) : Int32 := T 5 p
def hdT (T : TW) (p : Nat) : Nat := tn (T 6 p)
def laT (T : TW) (p : Nat) : Option Nat := ton (T 7 p)
def stT (T : TW) (k : Nat) : Nat := tn (T 10 k)
def Inv (T : TW) : Prop :=
  (∀ s, s < 80 → T 0 s = 0 ∨ T 0 s = 1) ∧
  (∀ s, s < 80 → ∃ m, m < 16 ∧ T 1 s = nI m) ∧
  (∀ s, s < 80 → T 2 s = -1 ∨ ∃ o, o < 4 ∧ T 2 s = nI o) ∧
  (∀ t, t < 12 → (T 3 t = -1 ∧ T 4 t = -1) ∨ ∃ s p, s < 80 ∧ p < 4 ∧ T 3 t = nI s ∧ T 4 t = nI p) ∧
  (∀ t u, t < 12 → u < 12 → t ≠ u → T 3 t = T 3 u → T 4 t = T 4 u → T 3 t = -1) ∧
  (∀ p, p < 4 → ∃ h, h < 80 ∧ T 6 p = nI h) ∧
  (∀ p, p < 4 → T 7 p = -1 ∨ ∃ d, d < 4 ∧ T 7 p = nI d) ∧
  (∃ a, a < 10 ∧ T 10 0 = nI a) ∧ (∃ a, 1 ≤ a ∧ a < 5 ∧ T 10 1 = nI a) ∧ (∃ a, a < 10 ∧ T 10 2 = nI a) ∧
  mkT T 0 % 2 = 1
section INV
variable {T : TW} {s t p k : Nat}
theorem eq_hs (hI : Inv T) (hs : s < 80) : T 0 s = bI (hsT T s) := by
  unfold hsT
  rcases hI.1 s hs with h | h <;> rw [h] <;> decide
theorem eq_mk (hI : Inv T) (hs : s < 80) : T 1 s = nI (mkT T s) := by
  obtain ⟨m, hm, h⟩ := hI.2.1 s hs
  unfold mkT
  rw [h, tn_nI (by omega)]
theorem mk_lt (hI : Inv T) (hs : s < 80) : mkT T s < 16 := by
  obtain ⟨m, hm, h⟩ := hI.2.1 s hs
  unfold mkT
  rw [h, tn_nI (by omega)]
  exact hm
theorem eq_ow (hI : Inv T) (hs : s < 80) : T 2 s = oI (owT T s) := by
  unfold owT
  rcases hI.2.2.1 s hs with h | ⟨o, ho, h⟩
  · rw [h]; rfl
  · rw [h, ton_nI (by omega)]; rfl
theorem ow_lt (hI : Inv T) (hs : s < 80) : ∀ k, owT T s = some k → k < 4 := by
  intro k hk
  unfold owT at hk
  rcases hI.2.2.1 s hs with h | ⟨o, ho, h⟩
  · rw [h] at hk; cases hk
  · rw [h, ton_nI (by omega)] at hk; cases hk; exact ho
theorem eq_sq (hI : Inv T) (ht : t < 12) : T 3 t = oI (sqT T t) := by
  unfold sqT
  rcases hI.2.2.2.1 t ht with ⟨h, -⟩ | ⟨s, p, hs, hp, h, h2⟩
  · rw [h]; rfl
  · rw [h, ton_nI (by omega)]; rfl
theorem eq_pl (hI : Inv T) (ht : t < 12) : T 4 t = oI (plT T t) := by
  unfold plT
  rcases hI.2.2.2.1 t ht with ⟨-, h⟩ | ⟨s, p, hs, hp, h2, h⟩
  · rw [h]; rfl
  · rw [h, ton_nI (by omega)]; rfl
theorem sq_lt (hI : Inv T) (ht : t < 12) : ∀ k, sqT T t = some k → k < 80 := by
  intro k hk
  unfold sqT at hk
  rcases hI.2.2.2.1 t ht with ⟨h, -⟩ | ⟨s, p, hs, hp, h, h2⟩
  · rw [h] at hk; cases hk
  · rw [h, ton_nI (by omega)] at hk; cases hk; exact hs
theorem pl_lt (hI : Inv T) (ht : t < 12) : ∀ k, plT T t = some k → k < 4 := by
  intro k hk
  unfold plT at hk
  rcases hI.2.2.2.1 t ht with ⟨-, h⟩ | ⟨s, p, hs, hp, h2, h⟩
  · rw [h] at hk; cases hk
  · rw [h, ton_nI (by omega)] at hk; cases hk; exact hp
theorem sq_pl (hI : Inv T) (ht : t < 12) : sqT T t = none ↔ plT T t = none := by
  unfold sqT plT
  rcases hI.2.2.2.1 t ht with ⟨h, h2⟩ | ⟨s, p, hs, hp, h, h2⟩
  · rw [h, h2]
  · rw [h, h2, ton_nI (by omega), ton_nI (by omega)]; simp
theorem pl_sq (hI : Inv T) (ht : t < 12) {q : Nat} (h : plT T t = some q) : ∃ k, sqT T t = some k := by
  cases hk : sqT T t with
  | none => rw [(sq_pl hI ht).mp hk] at h; cases h
  | some k => exact ⟨k, rfl⟩
theorem sq_is_pl (hI : Inv T) (ht : t < 12) {q : Nat} (h : sqT T t = some q) : ∃ k, plT T t = some k := by
  cases hk : plT T t with
  | none => rw [(sq_pl hI ht).mpr hk] at h; cases h
  | some k => exact ⟨k, rfl⟩
theorem sq_one (hI : Inv T) {u : Nat} (ht : t < 12) (hu : u < 12) (hn : t ≠ u) {q w : Nat} (h1 : sqT T t = some q) (h2 : sqT T u = some q) (h3 : plT T t = some w) (h4 : plT T u = some w) : False := by
  have e1 := hI.2.2.2.2.1 t u ht hu hn (by rw [eq_sq hI ht, eq_sq hI hu, h1, h2]) (by rw [eq_pl hI ht, eq_pl hI hu, h3, h4])
  rw [sqT, e1] at h1
  cases h1
theorem eq_hd (hI : Inv T) (hp : p < 4) : T 6 p = nI (hdT T p) := by
  obtain ⟨m, hm, h⟩ := hI.2.2.2.2.2.1 p hp
  unfold hdT
  rw [h, tn_nI (by omega)]
theorem hd_lt (hI : Inv T) (hp : p < 4) : hdT T p < 80 := by
  obtain ⟨m, hm, h⟩ := hI.2.2.2.2.2.1 p hp
  unfold hdT
  rw [h, tn_nI (by omega)]
  exact hm
theorem eq_la (hI : Inv T) (hp : p < 4) : T 7 p = oI (laT T p) := by
  unfold laT
  rcases hI.2.2.2.2.2.2.1 p hp with h | ⟨o, ho, h⟩
  · rw [h]; rfl
  · rw [h, ton_nI (by omega)]; rfl
theorem la_lt (hI : Inv T) (hp : p < 4) : ∀ k, laT T p = some k → k < 4 := by
  intro k hk
  unfold laT at hk
  rcases hI.2.2.2.2.2.2.1 p hp with h | ⟨o, ho, h⟩
  · rw [h] at hk; cases hk
  · rw [h, ton_nI (by omega)] at hk; cases hk; exact ho
theorem st_all (hI : Inv T) (hk : k < 3) : ∃ a, a < 10 ∧ T 10 k = nI a := by
  rcases (show k = 0 ∨ k = 1 ∨ k = 2 by omega) with rfl | rfl | rfl
  · exact hI.2.2.2.2.2.2.2.1
  · obtain ⟨a, h1, h2, h3⟩ := hI.2.2.2.2.2.2.2.2.1
    exact ⟨a, by omega, h3⟩
  · exact hI.2.2.2.2.2.2.2.2.2.1
theorem eq_st (hI : Inv T) (hk : k < 3) : T 10 k = nI (stT T k) := by
  obtain ⟨a, ha, h⟩ := st_all hI hk
  unfold stT
  rw [h, tn_nI (by omega)]
theorem st_lt (hI : Inv T) (hk : k < 3) : stT T k < 10 := by
  obtain ⟨a, ha, h⟩ := st_all hI hk
  unfold stT
  rw [h, tn_nI (by omega)]
  exact ha
theorem st1_in (hI : Inv T) : 1 ≤ stT T 1 ∧ stT T 1 < 5 := by
  obtain ⟨a, h1, h2, h3⟩ := hI.2.2.2.2.2.2.2.2.1
  unfold stT
  rw [h3, tn_nI (by omega)]
  exact ⟨h1, h2⟩
theorem mk_0 (hI : Inv T) : mkT T 0 % 2 = 1 := hI.2.2.2.2.2.2.2.2.2.2
theorem lt31 {o : Option Nat} {n : Nat} (h : ∀ k, o = some k → k < n) (hn : n ≤ 2 ^ 31) : ∀ k, o = some k → k < 2 ^ 31 := fun k q => Nat.lt_of_lt_of_le (h k q) hn
end INV
/-- bits of a mask below 16 -/
def bc (m : Nat) : Nat := m % 2 + m / 2 % 2 + m / 4 % 2 + m / 8 % 2
theorem bc_lt (m : Nat) : bc m ≤ 4 := by unfold bc; omega
def hasT (T : TW) (p s : Nat) : Bool := decide (0 < mkT T s &&& 2 ^ p)
def trkT (T : TW) (s : Nat) : Nat := bc (mkT T s)
theorem trk_lt (T : TW) (s : Nat) : trkT T s ≤ 4 := bc_lt _
def tollT (T : TW) (s : Nat) : Nat := if owT T s = none then 0 else stT T 0 * trkT T s
theorem toll_lt {T : TW} {s : Nat} (hI : Inv T) : tollT T s ≤ 36 := by
  unfold tollT
  have h1 := st_lt hI (k := 0) (by decide)
  have h2 := trk_lt T s
  split
  · omega
  · have := Nat.mul_le_mul (show stT T 0 ≤ 9 by omega) h2
    omega
/-- 3, 4 or 5: why no die lets the player come to the square; else 0 -/
def obsT (T : TW) (p s : Nat) : Nat := if hsT T s = true then 3 else if hasT T p s = true then 4 else if stT T 1 ≤ trkT T s then 5 else 0
theorem obs_lt (T : TW) (p s : Nat) : obsT T p s ≤ 5 := by unfold obsT; split <;> (try omega); split <;> (try omega); split <;> omega
def nbT (s d : Nat) : Option Nat := if d = 0 then (if 0 < s / 10 then some (s - 10) else none) else if d = 1 then (if s % 10 < 9 then some (s + 1) else none) else if d = 2 then (if s / 10 < 7 then some (s + 10) else none) else if d = 3 then (if 0 < s % 10 then some (s - 1) else none) else none
theorem nb_lt {s d : Nat} (hs : s < 80) : ∀ k, nbT s d = some k → k < 80 := by
  intro k h
  unfold nbT at h
  split at h
  · split at h
    · cases h; omega
    · cases h
  split at h
  · split at h
    · cases h; omega
    · cases h
  split at h
  · split at h
    · cases h; omega
    · cases h
  split at h
  · split at h
    · cases h; omega
    · cases h
  · cases h
def dieT (die : Nat) (last : Option Nat) (d : Nat) : Bool := match last with
  | none => true
  | some w => if die = 6 then true else if die ≤ 2 then decide (¬ d = (w + 2) % 4) else if die ≤ 4 then decide (d = w) else decide (¬ d = w ∧ ¬ d = (w + 2) % 4)
def whyT (T : TW) (p f die d : Nat) : Nat := match nbT f d with
  | none => 1
  | some to => if dieT die (laT T p) d = false then 2 else if ¬ obsT T p to = 0 then obsT T p to else if coT T p < nI (tollT T to) then 6 else 0
/-- the cells of a town -/
def townW (K : Nat → ClassId) (a : Nat → Nat) (T : TW) : va_W := [(a 0, .inr (1, [.ref (a 1), .ref (a 2), .ref (a 3), .ref (a 4), .ref (a 5), .ref (a 6), .ref (a 7), .ref (a 8), .ref (a 9), .ref (a 10), .ref (a 11), .int (T 11 0)])), (a 1, .inl (K 0, 80, .inl (T 0))), (a 2, .inl (K 0, 80, .inl (T 1))), (a 3, .inl (K 0, 80, .inl (T 2))), (a 4, .inl (K 0, 12, .inl (T 3))), (a 5, .inl (K 0, 12, .inl (T 4))), (a 6, .inl (K 0, 4, .inl (T 5))), (a 7, .inl (K 0, 4, .inl (T 6))), (a 8, .inl (K 0, 4, .inl (T 7))), (a 9, .inl (K 0, 4, .inl (T 8))), (a 10, .inl (K 0, 4, .inl (T 9))), (a 11, .inl (K 0, 3, .inl (T 10)))]
def setT (T : TW) (k i : Nat) (v : Int32) : TW := fun j => if j = k then upd (T k) i v else T j
/-- lo ≤ x ≤ hi -/
def inR (lo hi x : Int32) : Bool := decide (¬ x < lo) && decide (¬ hi < x)
theorem inR_lit (hi h1 : Int32) (h : h1.toInt = hi.toInt + 1) (x : Int32) : h1 ≤ x ↔ hi < x := by
  rw [fa_le, fa_lt]; omega
theorem inR_79 (x : Int32) : 79 < x ↔ nI 80 ≤ x := (inR_lit 79 80 (by decide) x).symm
theorem inR_3 (x : Int32) : 3 < x ↔ nI 4 ≤ x := (inR_lit 3 4 (by decide) x).symm
theorem inR_11 (x : Int32) : 11 < x ↔ nI 12 ≤ x := (inR_lit 11 12 (by decide) x).symm
theorem inR_2 (x : Int32) : 2 < x ↔ nI 3 ≤ x := (inR_lit 2 3 (by decide) x).symm
theorem inR_6 (x : Int32) : 6 < x ↔ nI 6 < x := Iff.rfl
theorem lit_1 : (1 : Int32) = nI 1 := rfl
/-- within the bounds it is a number -/
theorem inR_nI {hi x : Int32} {n : Nat} (hn : hi = nI n) (hb : n < 2 ^ 31) (h : inR 0 hi x = true) : ∃ k, k ≤ n ∧ x = nI k := by
  unfold inR at h
  simp only [Bool.and_eq_true, decide_eq_true_eq] at h
  obtain ⟨j, h1, h2⟩ := nI_of2 (x := x) (M := hi) (n := n) (by rw [hn]; exact nI_toInt hb) h.1 (i_nlt_le h.2)
  exact ⟨j, h1, h2⟩
theorem why_lt (T : TW) (p f die d : Nat) : whyT T p f die d ≤ 6 := by
  unfold whyT
  split
  · omega
  · rename_i to _
    have := obs_lt T p to
    split
    · omega
    split
    · omega
    split <;> omega
/-- the first of the n numbers from i on for which p holds -/
def ff (p : Nat → Bool) : Nat → Nat → Option Nat
  | _, 0 => none
  | i, n + 1 => if p i = true then some i else ff p (i + 1) n
theorem ff_yes {p : Nat → Bool} {i b : Nat} (h : p i = true) (hi : i < b) : ff p i (b - i) = some i := by
  rw [show b - i = (b - i - 1) + 1 from by omega, ff, if_pos h]
theorem ff_no {p : Nat → Bool} {i b : Nat} {o : Option Nat} (e : o = ff p i (b - i)) (h : p i = false) (hi : i < b) : o = ff p (i + 1) (b - (i + 1)) := by
  rw [e, show b - i = (b - (i + 1)) + 1 from by omega, ff, if_neg (by rw [h]; decide)]
theorem ff_lt {p : Nat → Bool} : ∀ (n i : Nat) (k : Nat), ff p i n = some k → i ≤ k ∧ k < i + n ∧ p k = true
  | 0, i, k, h => by cases h
  | n + 1, i, k, h => by
    rw [ff] at h
    split at h
    · cases h; exact ⟨Nat.le_refl _, by omega, by assumption⟩
    · obtain ⟨h1, h2, h3⟩ := ff_lt n (i + 1) k h
      exact ⟨by omega, by omega, h3⟩
theorem ff_none {p : Nat → Bool} : ∀ (n i : Nat), ff p i n = none → ∀ k, i ≤ k → k < i + n → p k = false
  | 0, i, h, k, h1, h2 => by omega
  | n + 1, i, h, k, h1, h2 => by
    rw [ff] at h
    split at h
    · cases h
    · rename_i hp
      rcases Nat.lt_or_ge i k with q | q
      · exact ff_none n (i + 1) h k q (by omega)
      · obtain rfl : k = i := by omega
        simpa using hp
/-- the stop's square is on the line -/
def onT (T : TW) (p t : Nat) : Bool := match sqT T t with
  | none => false
  | some s => hasT T p s
def missT (T : TW) (p t : Nat) : Bool := decide (plT T t = some p) && !onT T p t
def lenT (T : TW) (p : Nat) : Nat := fa_cnt (fun t_ => hasT T p t_) 80
def ownsT (T : TW) (p : Nat) : Nat := fa_cnt (fun t_ => decide (owT T t_ = some p)) 80
def slT (T : TW) (p : Nat) : Nat := fa_cnt (fun t_ => decide (plT T t_ = some p)) 12
def srT (T : TW) (p : Nat) : Nat := fa_cnt (fun t_ => decide (plT T t_ = some p) && onT T p t_) 12
def swT (T : TW) (m : Nat) : Nat := fa_cnt (fun t_ => decide (m ≤ trkT T t_)) 80
def stopsT (T : TW) : Nat := fa_cnt (fun t_ => (sqT T t_).isSome) 12
def joinT (T : TW) (p : Nat) : Bool := decide (srT T p = slT T p)
def ljT (T : TW) : Nat := fa_cnt (fun t_ => joinT T t_) 4
def lowT (T : TW) (q : Option Nat) : Option Nat := ff (fun t_ => decide (sqT T t_ = q)) 0 12
def hstT (T : TW) (s p : Nat) : Bool := (ff (fun t_ => decide (sqT T t_ = some s) && decide (plT T t_ = some p)) 0 12).isSome
theorem sl_le (T : TW) (p : Nat) : slT T p ≤ 12 := fa_cnt_le _ 12
theorem sr_le (T : TW) (p : Nat) : srT T p ≤ 12 := fa_cnt_le _ 12
theorem sw_le (T : TW) (m : Nat) : swT T m ≤ 80 := fa_cnt_le _ 80
theorem low_lt (T : TW) (q : Option Nat) : ∀ k, lowT T q = some k → k < 12 := fun k h => by have := (ff_lt _ _ _ h).2.1; omega
theorem min_nI {a b : Nat} (ha : a < 2 ^ 31) (hb : b < 2 ^ 31) : (if nI b < nI a then nI b else nI a) = nI (Nat.min a b) := by
  by_cases h : b < a
  · rw [if_pos ((nI_ltI hb ha).mpr h), show Nat.min a b = b from Nat.min_eq_right (by omega)]
  · rw [if_neg (fun q => h ((nI_ltI hb ha).mp q)), show Nat.min a b = a from Nat.min_eq_left (by omega)]
/-- the lesser of two lengths: none is longer than any -/
def lesO (a b : Option Nat) : Option Nat := match a, b with
  | none, b => b
  | some x, none => some x
  | some x, some y => some (Nat.min x y)
theorem les_lt {a b : Option Nat} {n : Nat} (ha : ∀ k, a = some k → k < n) (hb : ∀ k, b = some k → k < n) : ∀ k, lesO a b = some k → k < n := by
  intro k h
  match a, b, h with
  | none, b, h => exact hb k h
  | some x, none, h => exact ha k h
  | some x, some y, h =>
    cases h
    exact Nat.lt_of_le_of_lt (Nat.min_le_left x y) (ha x rfl)
/-- the lowest bit of a mask that is not 0 -/
def lob (m : Nat) : Nat := if m % 2 = 1 then 0 else if m / 2 % 2 = 1 then 1 else if m / 4 % 2 = 1 then 2 else 3
theorem lob_lt (m : Nat) : lob m ≤ 3 := by unfold lob; split <;> (try omega); split <;> (try omega); split <;> omega
def clr (m p : Nat) : Nat := if m / 2 ^ p % 2 = 1 then m - 2 ^ p else m
theorem clr_le (m p : Nat) : clr m p ≤ m := by
  unfold clr
  split
  · exact Nat.sub_le _ _
  · exact Nat.le_refl _
theorem clr_eq {m p : Nat} (hm : m < 16) (hp : p < 4) : nI m &&& (nI (2 ^ p) ^^^ -1) = nI (clr m p) := (show ∀ m, m < 16 → ∀ p, p < 4 → nI m &&& (nI (2 ^ p) ^^^ -1) = nI (clr m p) from by decide +kernel) m hm p hp
def lowm (m : Nat) : Option Nat := if m = 0 then none else some (lob m)
def incT (T : TW) (k i : Nat) (v : Int32) : TW := setT T k i (T k i + v)
def rmT (T : TW) (p s : Nat) : TW := if owT T s = some p then setT (setT T 1 s (nI (clr (mkT T s) p))) 2 s (oI (lowm (clr (mkT T s) p))) else setT T 1 s (nI (clr (mkT T s) p))
def layT (T : TW) (p to d : Nat) : TW := setT (setT (setT (setT (incT (incT (match owT T to with
  | none => setT T 2 to (nI p)
  | some o => incT (incT T 5 o (nI (tollT T to))) 9 o (nI (tollT T to))) 5 p (nI (stT T 2) - nI (tollT T to))) 8 p (nI (tollT T to))) 1 to (nI (mkT T to ||| 2 ^ p))) 6 p (nI to)) 7 p (nI d)) 11 0 (T 11 0 + 1)
def btT (T : TW) (p b : Nat) : Bool := decide (srT T b < srT T p) || (decide (srT T p = srT T b) && decide (coT T b < coT T p))
def ldT (T : TW) : Nat → Nat
  | 0 => 0
  | n + 1 => if n = 0 then 0 else if btT T n (ldT T n) = true then n else ldT T n
theorem ld_lt (T : TW) : ∀ n, 1 ≤ n → ldT T n < n
  | 0, h => by omega
  | n + 1, h => by
    rw [ldT]
    split
    · omega
    · have := ld_lt T n (by omega)
      split <;> omega
theorem sub_gt {a b : Nat} (ha : a < 2 ^ 30) (hb : b < 2 ^ 30) : 0 < nI a - nI b ↔ b < a := by
  rw [fa_lt, pk_sub_toInt ha hb]
  have : (0 : Int32).toInt = 0 := by decide
  omega
theorem sub_eq0 {a b : Nat} (ha : a < 2 ^ 30) (hb : b < 2 ^ 30) : nI a - nI b = 0 ↔ a = b := by
  rw [fa_eq, pk_sub_toInt ha hb]
  have : (0 : Int32).toInt = 0 := by decide
  omega
