/-! a share's bits: what the decisions give -/
theorem isN_vf {x : UInt64} (h : isN x = true) : vf_n64 x := by
  unfold vf_n64
  exact of_decide_eq_true h
theorem ck_n {k m : Nat} (h : chk1 k m = true) : vf_n64 (shD k m) := by
  unfold chk1 at h
  rw [Bool.and_eq_true] at h
  exact isN_vf h.1
theorem ck_0 {m : Nat} (h : chk1 0 m = true) : Op.cmpValue (FP.dcmp (shD 0 m) FP.dconst0) .l = 0 ∧ Op.cmpValue (FP.dcmp (shD 0 m) FP.dconst0) .g ≤ 0 := by
  unfold chk1 at h
  simp only [Bool.and_eq_true, if_true, decide_eq_true_eq] at h
  exact h.2
theorem ck_k {k m : Nat} (hk : ¬ k = 0) (h : chk1 k m = true) : shJ k m ≤ 7 ∧ ¬ Op.cmpValue (FP.dcmp (shD k m) FP.dconst0) .l = 0 ∧ 0 < Op.cmpValue (FP.dcmp (shD k m) FP.dconst0) .g ∧ Op.cmpValue (FP.dcmp (shD k m) 4611686018427387904) .l < 0 ∧ (∀ j, j ≤ shJ k m → isN (dbl (shD k m) j) = true ∧ (if j < shJ k m then lt1 (dbl (shD k m) j) else !lt1 (dbl (shD k m) j)) = true) ∧ isN (FP.dsub (dbl (shD k m) (shJ k m)) FP.dconst1) = true ∧ isN (FP.dmul (FP.dsub (dbl (shD k m) (shJ k m)) FP.dconst1) 4841369599423283200) = true ∧ isN (FP.dmul (dbl (shD k m) (shJ k m)) 4841369599423283200) = true ∧ (((1023 - (nI (shJ k m)).toInt64) <<< ((nI 52).toInt64 &&& 63)) + FP.d2l (FP.dmul (dbl (shD k m) (shJ k m)) 4841369599423283200)) - 4503599627370496 = shB k m := by
  unfold chk1 at h
  rw [if_neg hk] at h
  simp only [Bool.and_eq_true, decide_eq_true_eq] at h
  obtain ⟨-, ⟨⟨⟨⟨⟨⟨⟨h1, h2⟩, h3⟩, h4⟩, h5⟩, h6⟩, h7⟩, h8⟩, h9⟩ := h
  refine ⟨h1, h2, h3, h4, fun j hj => ?_, h6, h7, h8, h9⟩
  have h5 := (List.all_eq_true.mp h5) j (List.mem_range.mpr (by omega))
  rw [decide_eq_true hj, Bool.not_true, Bool.false_or, Bool.and_eq_true] at h5
  exact h5
theorem cnt_mono {p q : Nat → Bool} (h : ∀ k, p k = true → q k = true) : ∀ n, fa_cnt p n ≤ fa_cnt q n
  | 0 => Nat.le_refl _
  | n + 1 => by
    have ih := cnt_mono h n
    cases hp : p n with
    | true => rw [fa_cnt_yes hp, fa_cnt_yes (h n hp)]; omega
    | false =>
      rw [fa_cnt_no hp]
      cases hq : q n with
      | true => rw [fa_cnt_yes hq]; omega
      | false => rw [fa_cnt_no hq]; exact ih
theorem cnt_pos {p : Nat → Bool} (h : p 0 = true) : ∀ n, 1 ≤ fa_cnt p (n + 1)
  | 0 => by rw [fa_cnt_yes h]; omega
  | n + 1 => by
    have ih := cnt_pos h n
    cases hp : p (n + 1) with
    | true => rw [fa_cnt_yes hp]; omega
    | false => rw [fa_cnt_no hp]; exact ih
theorem sw_21 (T : TW) : swT T 2 ≤ swT T 1 := by
  unfold swT
  exact cnt_mono (fun k hk => decide_eq_true (by have := of_decide_eq_true hk; omega)) 80
theorem sw_pos {T : TW} (hI : Inv T) : 1 ≤ swT T 1 := by
  unfold swT
  refine cnt_pos (decide_eq_true ?_) 79
  have h := mk_0 hI
  have h2 := mk_lt hI (s := 0) (by decide)
  unfold trkT
  exact (show ∀ m, m < 16 → m % 2 = 1 → 1 ≤ bc m from by decide +kernel) _ h2 h
section ROWD
variable {p : Program} {l : Launch} {e : Env} {R : Room} {s : State} {m : MethodId} {args : Array Value} {below : List Frame} {meth : Method} {c : Code} {cc : ByteArray} {pc : Nat} {ls : Array Slot}
theorem rd_dret {x v : UInt64} (hx : p.tables.exec = Jvm.exec) (hb : c.code = cc) (hr : meth.sig.returnType = some .double) (hk : meth.locks = false) (hdg : decode cc pc = .ok (.dreturn, 1)) (h : x = v) : W p l e R s m args below meth c s.heap [] 0 0 (MQ below (rdQ (.double v)) args s 0 0 (fun _ => False)) (F0 m pc ls [.double x]) := by
  subst h
  exact W.dret (v := x) hx hb hr (fun t ht hW => ⟨rfl, ht⟩) (fun q h => by cases h) hdg hk
end ROWD
theorem ck_stop {k m j : Nat} (hk : ¬ k = 0) (h : chk1 k m = true) (hj : j ≤ shJ k m) (c : 0 ≤ Op.cmpValue (FP.dcmp (dbl (shD k m) j) FP.dconst1) .g) : j = shJ k m := by
  rcases Nat.lt_or_ge j (shJ k m) with q | q
  · have h1 := ((ck_k hk h).2.2.2.2.1 j hj).2
    rw [if_pos q] at h1
    exact absurd (of_decide_eq_true h1) (i_le_nlt c)
  · omega
theorem ck_go {k m j : Nat} (hk : ¬ k = 0) (h : chk1 k m = true) (hj : j ≤ shJ k m) (c : ¬ 0 ≤ Op.cmpValue (FP.dcmp (dbl (shD k m) j) FP.dconst1) .g) : j < shJ k m := by
  rcases Nat.lt_or_ge j (shJ k m) with q | q
  · exact q
  · have h1 := ((ck_k hk h).2.2.2.2.1 j hj).2
    rw [if_neg (by omega)] at h1
    have h2 : lt1 (dbl (shD k m) j) = true := decide_eq_true (i_nle_lt c)
    rw [h2] at h1
    cases h1
theorem ck_dmul {k m j : Nat} (hk : ¬ k = 0) (h : chk1 k m = true) (hj : j < shJ k m) : vf_n64 (FP.dmul (dbl (shD k m) j) 4611686018427387904) := isN_vf ((ck_k hk h).2.2.2.2.1 (j + 1) hj).1
theorem ex_dn {j : Nat} (hj : j ≤ 7) : (1023 - (nI j).toInt64) - 1 = 1023 - (nI (j + 1)).toInt64 := (show ∀ j, j < 8 → (1023 - (nI j).toInt64) - 1 = 1023 - (nI (j + 1)).toInt64 from by decide) j (by omega)
def dg1 (T : TW) (sn : Nat) : Int64 := mxN (nbrT T sn) 8 2909
def dg2 (T : TW) (sn : Nat) : Int64 := mxN (fun k => nI (stT T k)) 3 (dg1 T sn)
def dg3 (T : TW) (sn : Nat) : Int64 := itN (fun s h => mxN (psT T s) 4 h) 80 (dg2 T sn)
def dg4 (T : TW) (sn : Nat) : Int64 := itN (fun t h => mxN (ptT T t) 3 h) 12 (dg3 T sn)
noncomputable def dg5 (T : TW) (sn : Nat) : Int64 := itN (fun p h => dgP T p h) 4 (dg4 T sn)
noncomputable def dg8 (T : TW) (sn ln : Nat) : Int64 := 31 * (31 * (31 * dg5 T sn + (nI (ldT T 4)).toInt64) + shB (swT T 2) (swT T 1)) + (nI ln).toInt64
noncomputable def dgT (T : TW) (sn : Nat) (cs : Nat → Nat) (ln : Nat) : Int64 := mxN (fun i => nI (cs i)) ln (dg8 T sn ln)
theorem faB_succ (T : TW) (p k : Nat) (fa : Nat → Nat) : faB T p (k + 1) fa = (bq T p (k + 1) (faB T p k fa)).2.2.2 := by rw [faB]
theorem mxN_succ (f : Nat → Int32) (k : Nat) (h : Int64) : mxN f (k + 1) h = 31 * mxN f k h + (f k).toInt64 := rfl
theorem faP_succ (T : TW) (fa : Nat → Nat) (p : Nat) : faP T fa (p + 1) = faB T p 6 (dst T p 1) := rfl
theorem dgP_eq (T : TW) (p : Nat) (h : Int64) : dgP T p h = mxN (fun k => oI (bdT T p (k + 1))) 6 (itN (fun k h => mxN (fun d => nI (whyT T p (hdT T p) (k + 1) d)) 4 h) 6 (31 * (31 * mxN (ppT T p) 10 h + (oI (wyO (dst T p 0 44))).toInt64) + (oI (wyO (dst T p 1 44))).toInt64)) := rfl
theorem bq_fa (T : TW) (p g : Nat) (fa : Nat → Nat) : (bq T p g fa).1 = bdT T p g := by
  rw [bdT, bq_eq, bq_eq]
  exact (bsR_fa T p g _ _ 4).1
theorem bd_lt {T : TW} (hI : Inv T) (p g : Nat) : ∀ k, bdT T p g = some k → k < 4 := by
  rw [bdT]
  exact bq_lt hI p g _
theorem itN_zero (F : Nat → Int64 → Int64) (h : Int64) : itN F 0 h = h := rfl
theorem itN_succ (F : Nat → Int64 → Int64) (k : Nat) (h : Int64) : itN F (k + 1) h = F k (itN F k h) := rfl
theorem mxN_zero (f : Nat → Int32) (h : Int64) : mxN f 0 h = h := rfl
theorem faB_zero (T : TW) (p : Nat) (fa : Nat → Nat) : faB T p 0 fa = fa := rfl
theorem faP_zero (T : TW) (fa : Nat → Nat) : faP T fa 0 = fa := rfl
theorem msP_zero (T : TW) (ms : Nat) : msP T ms 0 = ms := rfl
theorem msP_succ (T : TW) (ms p : Nat) : msP T ms (p + 1) = misM T p 12 := rfl
theorem dgT_eq (T : TW) (sn : Nat) (cs : Nat → Nat) (ln : Nat) : dgT T sn cs ln = mxN (fun i => nI (cs i)) ln (dg8 T sn ln) := rfl
theorem dg8_eq (T : TW) (sn ln : Nat) : dg8 T sn ln = 31 * (31 * (31 * dg5 T sn + (nI (ldT T 4)).toInt64) + shB (swT T 2) (swT T 1)) + (nI ln).toInt64 := rfl
theorem dg5_eq (T : TW) (sn : Nat) : dg5 T sn = itN (fun p h => dgP T p h) 4 (dg4 T sn) := rfl
theorem dg4_eq (T : TW) (sn : Nat) : dg4 T sn = itN (fun t h => mxN (ptT T t) 3 h) 12 (dg3 T sn) := rfl
theorem dg3_eq (T : TW) (sn : Nat) : dg3 T sn = itN (fun s h => mxN (psT T s) 4 h) 80 (dg2 T sn) := rfl
theorem dg2_eq (T : TW) (sn : Nat) : dg2 T sn = mxN (fun k => nI (stT T k)) 3 (dg1 T sn) := rfl
theorem dg1_eq (T : TW) (sn : Nat) : dg1 T sn = mxN (nbrT T sn) 8 2909 := rfl
