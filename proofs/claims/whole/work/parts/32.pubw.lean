/-! the calls' words: 0 answers, else what is thrown -/
theorem inR_nL {lo hi x : Int32} {a b : Nat} (ha : lo = nI a) (hb : hi = nI b) (hab : a < 2 ^ 31) (hbb : b < 2 ^ 31) (h : inR lo hi x = true) : ∃ k, a ≤ k ∧ k ≤ b ∧ x = nI k := by
  subst ha hb
  unfold inR at h
  simp only [Bool.and_eq_true, decide_eq_true_eq] at h
  obtain ⟨j, h3, h4⟩ := nI_of2 (x := x) (M := nI b) (n := b) (nI_toInt hbb) (fun q => h.1 (by
    rw [fa_lt] at q ⊢
    have h0 : (0 : Int32).toInt = 0 := by decide
    rw [nI_toInt hab]
    omega)) (i_nlt_le h.2)
  have h1 := h.1
  rw [h4, nI_ltI (by omega) hab] at h1
  exact ⟨j, by omega, h3, h4⟩
def q1 (a b : Int32) (x : Int32) : Nat := if inR a b x = true then 0 else 1
def q2 (a b c d : Int32) (x w : Int32) : Nat := if inR a b x = true then (if inR c d w = true then 0 else 2) else 1
def rfE (x g d : Int32) : Nat := if inR 0 3 x = true then (if inR 1 6 g = true then (if inR 0 3 d = true then 0 else 2) else 2) else 1
def awE (x b : Int32) : Nat := if inR 0 3 x = true then (if inR 0 79 b = true then 0 else 1) else 1
def houE (T : TW) (x : Int32) : Nat := if inR 0 79 x = true then (if mkT T (tn x) = 0 then (if stoT T (some (tn x)) none = none then 0 else 2) else 2) else 1
def stE (T : TW) (x y : Int32) : Nat := if inR 0 79 x = true then (if inR 0 3 y = true then (if hsT T (tn x) = true then 2 else if stoT T (some (tn x)) (some (tn y)) = none then (if lowT T none = none then 2 else 0) else 2) else 1) else 1
def isS (T : TW) (x : Int32) : Bool := inR 0 11 x && (sqT T (tn x)).isSome
def laE (T : TW) (x g d : Int32) : Nat := if inR 0 3 x = true then (if inR 1 6 g = true then (if inR 0 3 d = true then (if whyT T (tn x) (hdT T (tn x)) (tn g) (tn d) = 0 then 0 else 3) else 2) else 2) else 1
def brE (T : TW) (x s d : Int32) : Nat := if inR 0 3 x = true then (if inR 0 79 s = true then (if hasT T (tn x) (tn s) = true then (if inR 0 3 d = true then (if whyT T (tn x) (tn s) 6 (tn d) = 0 then 0 else 3) else 2) else 1) else 1) else 1
def giE (T : TW) (x k : Int32) : Nat := if inR 0 3 x = true then (if inR 1 999 k = true then (if coT T (tn x) + k ≤ nI 99999 then 0 else 3) else 2) else 1
def seE (x v : Int32) : Nat := if inR 0 2 x = true then (if stvR (tn x) v = true then 0 else 2) else 1
def apE (ln : Nat) (c : Int32) : Nat := if inR 33 126 c = true then (if ln = 60 then 2 else 0) else 1
/-- what stop does -/
def stpT (T : TW) (t : Nat) (s p : Nat) : TW := setT (setT T 3 t (nI s)) 4 t (nI p)
def drpT (T : TW) (t : Nat) : TW := setT (setT T 3 t (-1)) 4 t (-1)
/-- the square that a piece laid from f comes to -/
def toT (f d : Nat) : Nat := match nbT f d with
  | none => 0
  | some to => to
theorem toT_s {f d to : Nat} (h : nbT f d = some to) : toT f d = to := by rw [toT, h]
theorem ni0 : nI 0 = 0 := rfl
section ROWD2
variable {p : Program} {l : Launch} {e : Env} {R : Room} {s : State} {m : MethodId} {args : Array Value} {below : List Frame} {meth : Method} {c : Code} {H : Heap} {locs : List Loc} {cells slots : Nat} {cc : ByteArray} {pc : Nat} {ls : Array Slot}
theorem wr_dret {D : va_G} {ws w2 : va_W} {sz mc ms : Nat} {A : Nat → Prop} {x v : UInt64} (hA : A = va_A ws sz) (hP : va_P D vwCl w2 H) (hD : va_D A w2) (hS : va_S A s.heap H locs) (hx : p.tables.exec = Jvm.exec) (hb : c.code = cc) (hr : meth.sig.returnType = some .double) (hk : meth.locks = false) (hdg : decode cc pc = .ok (.dreturn, 1)) (hc : cells ≤ mc ∧ slots ≤ ms) (h : x = v) : W p l e R s m args below meth c H locs cells slots (MQ below (wrQ D ws w2 sz (some (.double v))) args s mc ms A) (F0 m pc ls [.double x]) := by
  subst hA
  subst h
  refine W.widen (k := mc) (n := ms) hc.1 hc.2 ?_
  exact W.dret (v := x) hx hb hr (fun t ht hW => ⟨rfl, ⟨by rw [ht]; exact hP, hD⟩, hS.F ht⟩) hS.2.2 hdg hk
end ROWD2
def drE (T : TW) (x : Int32) : Nat := if isS T x = true then 0 else 1
theorem isS_in {T : TW} {x : Int32} (h : isS T x = true) : inR 0 11 x = true := by
  unfold isS at h
  rw [Bool.and_eq_true] at h
  exact h.1
theorem isS_so {T : TW} {x : Int32} (h : isS T x = true) : (sqT T (tn x)).isSome = true := by
  unfold isS at h
  rw [Bool.and_eq_true] at h
  exact h.2
