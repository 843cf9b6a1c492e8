/-! the reference's words -/
def zT (T : TW) : Nat → Int32 := fun k => if k < 3 then T 10 k else if k < 4 then T 11 0 else if k < 84 then T 0 (k - 4) else if k < 164 then T 1 (k - 84) else if k < 244 then T 2 (k - 164) else if k < 268 then (if k % 2 = 0 then T 3 ((k - 244) / 2) else T 4 ((k - 244) / 2)) else if k < 288 then T (5 + (k - 268) % 5) ((k - 268) / 5) else 0
theorem zT_st {T : TW} {k : Nat} (h : k < 3) : zT T k = T 10 k := by unfold zT; rw [if_pos h]
theorem zT_pc {T : TW} : zT T 3 = T 11 0 := rfl
theorem zT_hs {T : TW} {s : Nat} (h : s < 80) : zT T (4 + s) = T 0 s := by
  unfold zT
  rw [if_neg (by omega), if_neg (by omega), if_pos (by omega), show 4 + s - 4 = s from by omega]
theorem zT_mk {T : TW} {s : Nat} (h : s < 80) : zT T (84 + s) = T 1 s := by
  unfold zT
  rw [if_neg (by omega), if_neg (by omega), if_neg (by omega), if_pos (by omega), show 84 + s - 84 = s from by omega]
theorem zT_ow {T : TW} {s : Nat} (h : s < 80) : zT T (164 + s) = T 2 s := by
  unfold zT
  rw [if_neg (by omega), if_neg (by omega), if_neg (by omega), if_neg (by omega), if_pos (by omega), show 164 + s - 164 = s from by omega]
theorem zT_sq {T : TW} {t : Nat} (h : t < 12) : zT T (244 + 2 * t) = T 3 t := by
  unfold zT
  rw [if_neg (by omega), if_neg (by omega), if_neg (by omega), if_neg (by omega), if_neg (by omega), if_pos (by omega), if_pos (by omega), show (244 + 2 * t - 244) / 2 = t from by omega]
theorem zT_pl {T : TW} {t : Nat} (h : t < 12) : zT T (244 + 2 * t + 1) = T 4 t := by
  unfold zT
  rw [if_neg (by omega), if_neg (by omega), if_neg (by omega), if_neg (by omega), if_neg (by omega), if_pos (by omega), if_neg (by omega), show (244 + 2 * t + 1 - 244) / 2 = t from by omega]
theorem zT_pp {T : TW} {p w : Nat} (h : p < 4) (hw : w < 5) : zT T (268 + 5 * p + w) = T (5 + w) p := by
  unfold zT
  rw [if_neg (by omega), if_neg (by omega), if_neg (by omega), if_neg (by omega), if_neg (by omega), if_neg (by omega), if_pos (by omega), show (268 + 5 * p + w - 268) % 5 = w from by omega, show (268 + 5 * p + w - 268) / 5 = p from by omega]
theorem setT_ne {T : TW} {k i k2 i2 : Nat} {v : Int32} (h : ¬ (k2 = k ∧ i2 = i)) : setT T k i v k2 i2 = T k2 i2 := by
  unfold setT upd
  by_cases h1 : k2 = k
  · subst h1
    rw [if_pos rfl, if_neg (fun q => h ⟨rfl, q⟩)]
  · rw [if_neg h1]
theorem setT_eq {T : TW} {k i : Nat} {v : Int32} : setT T k i v k i = v := by
  unfold setT upd
  rw [if_pos rfl, if_pos rfl]
theorem zU {T : TW} {k i x : Nat} {v : Int32} (hx : x < 288) (h1 : zT (setT T k i v) x = v) (h2 : ∀ y, y ≠ x → zT (setT T k i v) y = zT T y) : upd (zT T) x v = zT (setT T k i v) := by
  funext y
  unfold upd
  split
  · rename_i h
    rw [h, h1]
  · rename_i h
    exact (h2 y h).symm
theorem zU_st {T : TW} {k : Nat} {v : Int32} (h : k < 3) : upd (zT T) k v = zT (setT T 10 k v) := by
  refine zU (by omega) (by rw [zT_st h, setT_eq]) fun y hy => ?_
  unfold zT
  repeat' split
  all_goals first | exact setT_ne (by omega) | exact rfl
theorem zU_pc {T : TW} {v : Int32} : upd (zT T) 3 v = zT (setT T 11 0 v) := by
  refine zU (by omega) (by rw [zT_pc, setT_eq]) fun y hy => ?_
  unfold zT
  repeat' split
  all_goals first | exact setT_ne (by omega) | exact rfl
theorem zU_hs {T : TW} {s : Nat} {v : Int32} (h : s < 80) : upd (zT T) (4 + s) v = zT (setT T 0 s v) := by
  refine zU (by omega) (by rw [zT_hs h, setT_eq]) fun y hy => ?_
  unfold zT
  repeat' split
  all_goals first | exact setT_ne (by omega) | exact rfl
theorem zU_mk {T : TW} {s : Nat} {v : Int32} (h : s < 80) : upd (zT T) (84 + s) v = zT (setT T 1 s v) := by
  refine zU (by omega) (by rw [zT_mk h, setT_eq]) fun y hy => ?_
  unfold zT
  repeat' split
  all_goals first | exact setT_ne (by omega) | exact rfl
theorem zU_ow {T : TW} {s : Nat} {v : Int32} (h : s < 80) : upd (zT T) (164 + s) v = zT (setT T 2 s v) := by
  refine zU (by omega) (by rw [zT_ow h, setT_eq]) fun y hy => ?_
  unfold zT
  repeat' split
  all_goals first | exact setT_ne (by omega) | exact rfl
theorem zU_sq {T : TW} {t : Nat} {v : Int32} (h : t < 12) : upd (zT T) (244 + 2 * t) v = zT (setT T 3 t v) := by
  refine zU (by omega) (by rw [zT_sq h, setT_eq]) fun y hy => ?_
  unfold zT
  repeat' split
  all_goals first | exact setT_ne (by omega) | exact rfl
theorem zU_pl {T : TW} {t : Nat} {v : Int32} (h : t < 12) : upd (zT T) (244 + 2 * t + 1) v = zT (setT T 4 t v) := by
  refine zU (by omega) (by rw [zT_pl h, setT_eq]) fun y hy => ?_
  unfold zT
  repeat' split
  all_goals first | exact setT_ne (by omega) | exact rfl
theorem zU_pp {T : TW} {p w : Nat} {v : Int32} (h : p < 4) (hw : w < 5) : upd (zT T) (268 + 5 * p + w) v = zT (setT T (5 + w) p v) := by
  refine zU (by omega) (by rw [zT_pp h hw, setT_eq]) fun y hy => ?_
  unfold zT
  repeat' split
  all_goals first | exact setT_ne (by omega) | exact rfl
def refO (r : Nat → Nat) (th sm ty pm pn sta ms : Int32) (hs : Int64) : Nat × va_E := (r 0, .inr (4, [.int th, .ref (r 1), .ref (r 2), .int sm, .ref (r 3), .int ty, .ref (r 4), .int pm, .int pn, .int sta, .ref (r 5), .int ms, .long hs]))
def zC (K : Nat → ClassId) (r : Nat → Nat) (T : TW) : Nat × va_E := (r 1, .inl (K 0, 288, .inl (zT T)))
theorem inR_N {a b x : Nat} (ha : a < 2 ^ 31) (hb : b < 2 ^ 31) (hx : x < 2 ^ 31) : inR (nI a) (nI b) (nI x) = decide (a ≤ x ∧ x ≤ b) := by
  unfold inR
  rw [decide_eq_decide.mpr (show (¬ nI x < nI a) ↔ a ≤ x from ⟨fun q => Nat.le_of_not_lt fun z => q ((nI_ltI hx ha).mpr z), fun q z => absurd ((nI_ltI hx ha).mp z) (Nat.not_lt.mpr q)⟩), decide_eq_decide.mpr (show (¬ nI b < nI x) ↔ x ≤ b from ⟨fun q => Nat.le_of_not_lt fun z => q ((nI_ltI hb hx).mpr z), fun q z => absurd ((nI_ltI hb hx).mp z) (Nat.not_lt.mpr q)⟩), Bool.decide_and]
theorem has_shr {m p : Nat} (hm : m < 16) (hp : p < 4) : decide (m / 2 ^ p &&& 1 = 1) = decide (0 < m &&& 2 ^ p) := (show ∀ m, m < 16 → ∀ p, p < 4 → decide (m / 2 ^ p &&& 1 = 1) = decide (0 < m &&& 2 ^ p) from by decide +kernel) m hm p hp
theorem m1_lt {i : Nat} (h : i < 1000) : nI i + (-1) < 0 ↔ i = 0 := by
  cases i with
  | zero => exact ⟨fun _ => rfl, fun _ => by decide⟩
  | succ k =>
    rw [pk_m1]
    exact ⟨fun q => absurd q (nI_pos (by omega)), fun q => by omega⟩
def bcp (m : Nat) : Nat → Nat
  | 0 => 0
  | k + 1 => bcp m k + (m / 2 ^ k &&& 1)
theorem bcp_4 {m : Nat} (hm : m < 16) : bcp m 4 = bc m := (show ∀ m, m < 16 → bcp m 4 = bc m from by decide +kernel) m hm
theorem bcp_le (m : Nat) : ∀ k, bcp m k ≤ k
  | 0 => Nat.le_refl _
  | k + 1 => by
    have := bcp_le m k
    have h : m / 2 ^ k &&& 1 ≤ 1 := Nat.and_le_right
    rw [bcp]
    omega
theorem dep_lt (p : Nat) : dep p ≤ 79 := by unfold dep; repeat' split
                                            all_goals omega
theorem ff_down {p : Nat → Bool} {i b : Nat} (h : 0 < i) (hb : i ≤ b) : ff p (i - 1) (b - (i - 1)) = if p (i - 1) = true then some (i - 1) else ff p i (b - i) := by
  rw [show b - (i - 1) = (b - i) + 1 from by omega, ff, show i - 1 + 1 = i from by omega]
def stoT (T : TW) (q v : Option Nat) : Option Nat := ff (fun t_ => decide (sqT T t_ = q) && (decide (v = none) || decide (plT T t_ = v))) 0 12
theorem sto_lt (T : TW) (q v : Option Nat) : ∀ k, stoT T q v = some k → k < 12 := fun k h => by have := (ff_lt _ _ _ h).2.1; omega
theorem sub_add4 {d k : Nat} (hd : d < 4) (hk : k < 4) : nI d - nI k + nI 4 = nI (d + 4 - k) := (show ∀ d, d < 4 → ∀ k, k < 4 → nI d - nI k + nI 4 = nI (d + 4 - k) from by decide +kernel) d hd k hk
theorem bI_1 (b : Bool) : bI b = nI 1 ↔ b = true := by cases b <;> decide
theorem bI_n1 (b : Bool) : ¬ bI b = nI 1 ↔ b = false := by cases b <;> decide
section ROWB
variable {p : Program} {l : Launch} {e : Env} {R : Room} {s : State} {m : MethodId} {args : Array Value} {below : List Frame} {meth : Method} {c : Code} {H : Heap} {locs : List Loc} {cells slots : Nat} {Q : State → Prop}
variable {cc : ByteArray} {pc : Nat} {ls : Array Slot} {rest : List Value}
theorem bb_icmp_ne (hx : p.tables.exec = Jvm.exec) (hb : c.code = cc) {x : Bool} {off : Int} {tgt : Nat} (hdg : decode cc pc = .ok (.if_icmp .ne off, 3)) (ht : (pc : Int) + off = (tgt : Int)) (kt : x = false → W p l e R s m args below meth c H locs cells slots Q (F0 m tgt ls rest)) (kf : x = true → W p l e R s m args below meth c H locs cells slots Q (F0 m (pc + 3) ls rest)) : W p l e R s m args below meth c H locs cells slots Q (F0 m pc ls (.int (nI 1) :: .int (bI x) :: rest)) := lv_icmp_ne hx hb hdg ht (fun q => kt ((bI_n1 x).mp q)) (fun q => kf ((bI_1 x).mp q))
theorem bb_icmp_eq (hx : p.tables.exec = Jvm.exec) (hb : c.code = cc) {x : Bool} {off : Int} {tgt : Nat} (hdg : decode cc pc = .ok (.if_icmp .eq off, 3)) (ht : (pc : Int) + off = (tgt : Int)) (kt : x = true → W p l e R s m args below meth c H locs cells slots Q (F0 m tgt ls rest)) (kf : x = false → W p l e R s m args below meth c H locs cells slots Q (F0 m (pc + 3) ls rest)) : W p l e R s m args below meth c H locs cells slots Q (F0 m pc ls (.int (nI 1) :: .int (bI x) :: rest)) := lv_icmp_eq hx hb hdg ht (fun q => kt ((bI_1 x).mp q)) (fun q => kf ((bI_n1 x).mp q))
end ROWB
theorem isSome_sq {T : TW} {t : Nat} (h : (sqT T t).isSome = false) : sqT T t = none := by
  cases e : sqT T t with
  | none => rfl
  | some z => rw [e] at h; cases h
theorem isSome_pl {T : TW} {t : Nat} (hI : Inv T) (ht : t < 12) (h : (sqT T t).isSome = false) : plT T t = none := (sq_pl hI ht).mp (isSome_sq h)
theorem sto_none (T : TW) (s : Nat) : stoT T (some s) none = lowT T (some s) := by
  unfold stoT lowT
  congr 1
  funext t
  simp
def opnT (T : TW) (p s : Nat) : Bool := decide (obsT T p s = 0)
def misM (T : TW) (p : Nat) : Nat → Nat
  | 0 => 0
  | k + 1 => misM T p k ||| (if missT T p k = true then 2 ^ k else 0)
