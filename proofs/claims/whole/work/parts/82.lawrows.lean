/-! the law's wrappers: calls that catch -/
def xn (U : State) : Prop := va_Nc xIO xIA U ∧ va_Nc xIO xIS U ∧ va_Nc xIA xIO U ∧ va_Nc xIA xIS U ∧ va_Nc xIS xIO U ∧ va_Nc xIS xIA U
theorem xn.moved {u U : State} (hvm : u.vm.Alike U.vm) (h : xn u) : xn U := ⟨h.1.moved hvm, h.2.1.moved hvm, h.2.2.1.moved hvm, h.2.2.2.1.moved hvm, h.2.2.2.2.1.moved hvm, h.2.2.2.2.2.moved hvm⟩
def oC (K : Nat → ClassId) (o : Nat) (f : Nat → Int64) : Nat × va_E := (o, .inl (K 2, 1, .inr (.inl f)))
def lxP (dp fs : Nat) (D : va_G) (K : Nat → ClassId) (ws : va_W) (sz : Nat) (av : List Value) : Array Value → State → Prop := fun a U => txP dp fs D K ws sz av a U ∧ xn U
theorem lxP.blind {dp fs : Nat} {D : va_G} {K : Nat → ClassId} {ws : va_W} {sz : Nat} {av : List Value} : FrameBlind (lxP dp fs D K ws sz av) := fun a U g mk q => ⟨txP.blind a U g mk q.1, xn.moved (u := U) (U := U.calling g mk a) (Vm.Alike.refl U.vm) q.2⟩
abbrev Lx (dp fs : Nat) (l : Launch) (y : MethodName) (wy : List Cond) (rm : Room) (D : va_G) (K : Nat → ClassId) (ws : va_W) (sz : Nat) (av : List Value) (w2 : va_W) (v : Int32) (mc ms : Nat) : Prop := vx_Met l y wy rm (lxP dp fs D K ws sz av) (txQ D ws w2 sz v 0) (txX D ws sz 0 xnA) mc ms (va_A ws sz)
section LAWR
variable {p : Program} {l : Launch} {e : Env} {R : Room} {s : State} {m : MethodId} {args : Array Value} {below : List Frame} {meth : Method} {c : Code} {H : Heap} {locs : List Loc} {cells slots : Nat} {Q : State → Prop} {cc : ByteArray} {pc : Nat} {ls : Array Slot} {rest st0 : List Value} {D : va_G} {K : Nat → ClassId} {ws w2 : va_W} {sz mc ms dp fs : Nat} {A : Nat → Prop}
theorem lx_intro {y : MethodName} {wy wy' : List Cond} {rm : Room} {av : List Value} {v : Int32} {maxL : Nat} {ret : Option FieldType} {hh : List (Nat × Nat × Nat × Nat)} (hy : plainName y.cls = true) (hw : wy = Cond.codeWith y cc maxL ret hh :: wy') (hL : (lg_sl av).length ≤ maxL)
    (body : ∀ (p : Program) (e : Env) (s : State) (m : MethodId) (args : Array Value) (below : List Frame) (meth : Method) (c : Code) (A : Nat → Prop), p.tables.exec = Jvm.exec → c.code = cc → c.maxLocals = maxL → meth.sig.returnType = ret → (∀ w ∈ wy, w.before args s = true) → s.vm.findClass y.cls = some m.cls → meth.locks = false → s.heap.size = sz → A = va_A ws sz → va_P D vwCl ws s.heap → ev D K s → va_D A ws → va_S A s.heap s.heap [] → (∀ q : Nat, s.heap.size ≤ q → A q) → c.exceptionTable.toList = tableOf hh → xw s → xst dp fs A s s.heap → xn s → ∀ ls : Array Slot, lv_has ls maxL (lv_args 0 av) →
      W p l e (headSpec wy rm).room s m args below meth c s.heap [] 0 0 (vx_MQ below (txQ D ws w2 sz v 0) (txX D ws sz 0 xnA) args s mc ms A) (F0 m 0 ls [])) : Lx dp fs l y wy rm D K ws sz av w2 v mc ms := by
  refine vx_ofWH (cc := cc) (maxL := maxL) (ret := ret) (hh := hh) hy hw ?_
  intro p e s m args below meth c s₁ B hml hv
  obtain ⟨⟨rfl, hsz, hP, hE, hD0, hXw, hZ⟩, hxn⟩ := hv
  have hl := lv_entry av hL
  rw [lg_entry_eq]
  subst hsz
  have hts := atoms_spec (ws := wy) B.pre
  exact body p e s m _ below meth c _ B.exec B.bytes hml B.returns hts (findClass_of_methodNamed B.named) B.notSynchronized rfl rfl hP hE hD0.self va_S.rf (fun q h => Or.inr h) (vx_table (x := y) B (hts _ (by rw [hw]; exact List.mem_cons_self))) hXw hZ hxn _ hl
theorem tx_V {y : MethodName} {nL n index maxL : Nat} {bytes : ByteArray} {ret : Option FieldType} {wy Ts : List Cond} {rm : Room} {own C : String} {b : Addr} {As : List Value} {v : Int32} {E : Nat} {nm : Nat → String} {ci q0 : Nat} {qc : vw_C} {fs1 : List Value}
    (Sx1 : CallFix p m c cc nL s args Ts own) (hP : va_P D vwCl ws H) (hE : ev D K s) (hA : ∀ q : Nat, s.heap.size ≤ q → A q) (hD : va_D A ws) (hS : va_S A s.heap H locs) (hXw : xw s) (hZ : xst dp fs A s s.heap) (hM : Tx dp fs l y wy rm D K ws H.size (.ref b :: As) E nm w2 v mc ms) (cw : CallW R s args own C index y bytes maxL ret wy rm mc ms n) (hci : vwCl[ci]? = some qc) (hC : qc.1 = C) (hq : ws[q0]? = some (b, .inr (ci, fs1)))
    (hn : As.length = n) (hsize : ls.size = nL) (hst : st0 = As.reverse ++ .ref b :: rest) (hW : (rest.map fun v => v.category).sum ≤ 8) (hdg : decode cc pc = .ok (.invokevirtual index, 3)) (hf : cells + mc ≤ R.cells ∧ slots + ms ≤ R.slots)
    (kk : E = 0 → ∀ (H1 : Heap) (locs1 : List Loc), va_P D vwCl w2 H1 → va_D A w2 → va_S A s.heap H1 locs1 → W p l e R s m args below meth c H1 locs1 (cells + mc) (slots + ms) Q (F0 m (pc + 3) ls (.int v :: rest)))
    (kx : ¬ E = 0 → ∀ (ce : Cell) (q9 : Addr) (H1 : Heap) (locs1 : List Loc), va_P D vwCl ws H1 → va_D A ws → va_S A s.heap H1 locs1 → H1[q9]? = some ce → ce.vm = .none → s.vm.findClass (nm E) = some ce.cls → vx_W p l e R s m args below meth c H1 locs1 (cells + mc) (slots + ms) Q (F0 m pc ls rest) q9) : W p l e R s m args below meth c H locs cells slots Q (F0 m pc ls st0) := by
  subst hC
  have hF := sub_A hA hD hS.1
  refine vx_calli (vx_runV Sx1 hM cw ⟨txP.blind, va_recv hE.1 hP hci hq, fun U hU hW => ⟨rfl, by rw [hU], by rw [hU]; exact hP, hE.warm hW, hD.weaken (fun _ _ _ _ => trivial), hXw.warm hW, hZ.go hS hW hU hF⟩⟩ rfl hn hsize hst (lv_room hW) hdg hf) hS (fun q _ h => hF q h) (fun q h => hF q h) (fun q _ h => hF q h) ?_ ?_
  · intro X ce q9 u t H1 locs1 ht _ hp hB _ _ hS1 h1 h2 h3
    obtain ⟨hX, hP1, hD1⟩ := hB
    subst hX
    rw [ht] at hP1
    exact kx hp ce q9 H1 locs1 hP1 (hD1.weaken fun _ q _ h => hF q.1 h) hS1 h1 h2 h3
  · intro r u t H1 locs1 ht _ hp hB _ _ hS1
    obtain ⟨hP1, hD1⟩ := hB
    obtain ⟨hE0, hr⟩ := hp
    subst hr
    rw [ht] at hP1
    exact kk hE0 H1 locs1 hP1 (hD1.weaken fun _ q _ h => hF q.1 h) hS1
theorem nv_last (hx : p.tables.exec = Jvm.exec) (hb : c.code = cc) (hE : ev D K s) (hP : va_P D vwCl ws H) (hD : va_D A ws) (hS : va_S A s.heap H locs) (q0 : Nat) {o : Nat} {f : Nat → Int64} (ha : ws[q0]? = some (oC K o f)) {x : Int64} (hdg : decode cc pc = .ok (.lastore, 1))
    (kk : ∀ (H1 : Heap) (locs1 : List Loc), va_P D vwCl (ws.set q0 (oC K o (vp_updL f 0 x))) H1 → va_D A (ws.set q0 (oC K o (vp_updL f 0 x))) → va_S A s.heap H1 locs1 → W p l e R s m args below meth c H1 locs1 cells slots Q (F0 m (pc + 1) ls rest)) : W p l e R s m args below meth c H locs cells slots Q (F0 m pc ls (.long x :: .int (nI 0) :: .ref o :: rest)) := by
  refine va_last hx hb hE.1 hP hD hS q0 2 ha rfl (pk_in 0 1 (by decide)) hdg (fun H1 locs1 h1 h2 h3 => ?_)
  rw [pk_cl 0] at h1 h2
  exact kk H1 locs1 h1 h2 h3
theorem nv_lald (hx : p.tables.exec = Jvm.exec) (hb : c.code = cc) (hE : ev D K s) (hP : va_P D vwCl ws H) (q0 : Nat) {o : Nat} {f : Nat → Int64} (ha : ws[q0]? = some (oC K o f)) (hdg : decode cc pc = .ok (.laload, 1))
    (kk : W p l e R s m args below meth c H locs cells slots Q (F0 m (pc + 1) ls (.long (f 0) :: rest))) : W p l e R s m args below meth c H locs cells slots Q (F0 m pc ls (.int (nI 0) :: .ref o :: rest)) := by
  refine va_lald hx hb hE.1 hP q0 2 ha rfl (pk_in 0 1 (by decide)) hdg ?_
  rw [pk_cl 0]
  exact kk
end LAWR
section LAWR2
variable {p : Program} {l : Launch} {e : Env} {R : Room} {s : State} {m : MethodId} {args : Array Value} {below : List Frame} {meth : Method} {c : Code} {H : Heap} {locs : List Loc} {cells slots : Nat} {Q : State → Prop} {cc : ByteArray} {pc : Nat} {ls : Array Slot} {rest st0 : List Value} {D : va_G} {K : Nat → ClassId} {ws w2 : va_W} {sz mc ms dp fs : Nat} {A : Nat → Prop}
theorem lx_S {y : MethodName} {nL n index maxL : Nat} {bytes : ByteArray} {ret : Option FieldType} {wy Ts : List Cond} {rm : Room} {own : String} {As : List Value} {v : Int32} {hh : List (Nat × Nat × Nat × Nat)}
    (Sx1 : CallFix p m c cc nL s args Ts own) (hP : va_P D vwCl ws H) (hE : ev D K s) (hA : ∀ q : Nat, s.heap.size ≤ q → A q) (hD : va_D A ws) (hS : va_S A s.heap H locs) (hXw : xw s) (hZ : xst dp fs A s s.heap) (hxn : xn s) (hM : Lx dp fs l y wy rm D K ws H.size As w2 v mc ms) (cw : vx_CSW R s args own index y bytes maxL ret hh wy rm mc ms n)
    (hn : As.length = n) (hsize : ls.size = nL) (hst : st0 = As.reverse ++ rest) (hW : (rest.map fun v => v.category).sum ≤ 8) (hdg : decode cc pc = .ok (.invokestatic index, 3)) (hf : cells + mc ≤ R.cells ∧ slots + ms ≤ R.slots)
    (kk : ∀ (H1 : Heap) (locs1 : List Loc), va_P D vwCl w2 H1 → va_D A w2 → va_S A s.heap H1 locs1 → W p l e R s m args below meth c H1 locs1 (cells + mc) (slots + ms) Q (F0 m (pc + 3) ls (.int v :: rest))) : W p l e R s m args below meth c H locs cells slots Q (F0 m pc ls st0) := by
  have hF := sub_A hA hD hS.1
  refine vx_calli (vx_runSX Sx1 hM cw ⟨lxP.blind, fun U hU hW => ⟨⟨rfl, by rw [hU], by rw [hU]; exact hP, hE.warm hW, hD.weaken (fun _ _ _ _ => trivial), hXw.warm hW, hZ.go hS hW hU hF⟩, hxn.moved hW.alike⟩⟩ rfl hn hsize hst (lv_room hW) hdg hf) hS (fun q _ h => hF q h) (fun q h => hF q h) (fun q _ h => hF q h) ?_ ?_
  · intro X ce q9 u t H1 locs1 _ _ hp _ _ _ _ _ _ _
    exact absurd rfl hp
  · intro r u t H1 locs1 ht _ hp hB _ _ hS1
    obtain ⟨hP1, hD1⟩ := hB
    obtain ⟨-, hr⟩ := hp
    subst hr
    rw [ht] at hP1
    exact kk H1 locs1 hP1 (hD1.weaken fun _ q _ h => hF q.1 h) hS1
end LAWR2
/-! the law's world: the class's object, the answers' row, the reference -/
def cW (K : Nat → ClassId) (a b t c : Nat → Nat) (g : Nat → Nat → Nat) (T : TW) (len : Nat → Option Nat) (qu : Nat → Nat) (n : Nat) (cs : Nat → Nat) (ln sn : Nat) (Sv : Nat → TW) (X : va_W) : va_W := townW K a T ++ (waysW K b len qu n ++ (textW K t cs ln ++ (mainW K a b t c g sn ++ svW K g Sv X)))
def rfW (K : Nat → ClassId) (r : Nat → Nat) (th pn : Int32) (sn ln pm sta ms : Nat) (hs : Int64) (T : TW) (sv : Nat → Int32) (cs : Nat → Nat) (pf : Nat → Int32) (fa : Nat → Nat) (Y : va_W) : va_W := refO r th (nI sn) (nI ln) (nI pm) pn (nI sta) (nI ms) hs :: zC K r T :: sC K r sv :: bC K r cs :: pC K r pf :: fC K r fa :: Y
theorem cW_app (K : Nat → ClassId) (a b t c : Nat → Nat) (g : Nat → Nat → Nat) (T : TW) (len : Nat → Option Nat) (qu : Nat → Nat) (n : Nat) (cs : Nat → Nat) (ln sn : Nat) (Sv : Nat → TW) (Y Z : va_W) : cW K a b t c g T len qu n cs ln sn Sv (Y ++ Z) = cW K a b t c g T len qu n cs ln sn Sv Y ++ Z := by
  unfold cW svW
  simp only [List.append_assoc]
theorem lw_pm {K : Nat → ClassId} {a b t c : Nat → Nat} {g : Nat → Nat → Nat} {T : TW} {len : Nat → Option Nat} {qu : Nat → Nat} {n : Nat} {cs : Nat → Nat} {ln sn : Nat} {Sv : Nat → TW} {o : Nat × va_E} {r : Nat → Nat} {th pn : Int32} {sm ty pm sta ms : Nat} {hs : Int64} {T2 : TW} {sv : Nat → Int32} {cs2 : Nat → Nat} {pf : Nat → Int32} {fa : Nat → Nat} :
    (cW K a b t c g T len qu n cs ln sn Sv (o :: rfW K r th pn sm ty pm sta ms hs T2 sv cs2 pf fa [])).Perm (rfW K r th pn sm ty pm sta ms hs T2 sv cs2 pf fa (cW K a b t c g T len qu n cs ln sn Sv [o])) := by
  have e : cW K a b t c g T len qu n cs ln sn Sv (o :: rfW K r th pn sm ty pm sta ms hs T2 sv cs2 pf fa []) = cW K a b t c g T len qu n cs ln sn Sv [o] ++ rfW K r th pn sm ty pm sta ms hs T2 sv cs2 pf fa [] := cW_app K a b t c g T len qu n cs ln sn Sv [o] _
  rw [e]
  exact List.perm_append_comm
/-- what the two sides agree on, and what each keeps -/
def LI (T : TW) (cs : Nat → Nat) (ln sn : Nat) (Sv : Nat → TW) (sv : Nat → Int32) : Prop := Inv T ∧ HK T ∧ CB cs ln ∧ sn ≤ 6 ∧ SVR sv Sv sn ∧ SvI Sv sn ∧ SvH Sv sn
theorem svN_le9 {sn : Nat} (h : sn ≤ 6) : svN sn ≤ 6 := by
  unfold svN
  split <;> omega
theorem LI.chg {T T2 : TW} {cs cs2 : Nat → Nat} {ln ln2 sn : Nat} {Sv : Nat → TW} {sv : Nat → Int32} (h : LI T cs ln sn Sv sv) (hI : Inv T2) (hK : HK T2) (hC : CB cs2 ln2) : LI T2 cs2 ln2 (svN sn) (svV Sv sn T) (savS sv sn T) := ⟨hI, hK, hC, svN_le9 h.2.2.2.1, h.2.2.2.2.1.save h.2.2.2.1 T, h.2.2.2.2.2.1.save h.2.2.2.1 h.1, h.2.2.2.2.2.2.save h.2.2.2.1 h.2.1⟩
theorem LI.und {T : TW} {cs : Nat → Nat} {ln sn : Nat} {Sv : Nat → TW} {sv : Nat → Int32} (h : LI T cs ln sn Sv sv) (h0 : ¬ sn = 0) : LI (Sv (sn - 1)) cs ln (sn - 1) Sv sv := ⟨h.2.2.2.2.2.1 _ (by omega), h.2.2.2.2.2.2 _ (by omega), h.2.2.1, by have := h.2.2.2.1; omega, h.2.2.2.2.1.less, fun j hj => h.2.2.2.2.2.1 j (by omega), fun j hj => h.2.2.2.2.2.2 j (by omega)⟩
theorem LI.txt {T : TW} {cs cs2 : Nat → Nat} {ln ln2 sn : Nat} {Sv : Nat → TW} {sv : Nat → Int32} (h : LI T cs ln sn Sv sv) (hC : CB cs2 ln2) : LI T cs2 ln2 sn Sv sv := ⟨h.1, h.2.1, hC, h.2.2.2⟩
theorem CB.zero (cs : Nat → Nat) : CB cs 0 := ⟨Nat.zero_le _, fun j h => absurd h (Nat.not_lt_zero j)⟩
theorem CB.add {cs : Nat → Nat} {ln c : Nat} (h : CB cs ln) (hl : ¬ ln = 60) (h1 : 33 ≤ c) (h2 : c ≤ 126) : CB (va_up cs ln c) (ln + 1) := by
  refine ⟨by have := h.1; omega, fun j hj => ?_⟩
  unfold va_up
  split
  · exact ⟨h1, h2⟩
  · exact h.2 j (by omega)
def unz (f : Nat → Int32) : TW := fun j => if j = 10 then f else if j = 11 then fun _ => f 3 else if j = 0 then fun s => f (4 + s) else if j = 1 then fun s => f (84 + s) else if j = 2 then fun s => f (164 + s) else if j = 3 then fun t => f (244 + 2 * t) else if j = 4 then fun t => f (245 + 2 * t) else fun p => f (268 + 5 * p + (j - 5))
theorem unz_z (f : Nat → Int32) {k : Nat} (hk : k < 288) : f k = zT (unz f) k := by
  unfold zT unz
  by_cases h1 : k < 3
  · rw [if_pos h1]
    rfl
  · rw [if_neg h1]
    by_cases h2 : k < 4
    · rw [if_pos h2, show k = 3 from by omega]
      rfl
    · rw [if_neg h2]
      by_cases h3 : k < 84
      · rw [if_pos h3]
        show f k = f (4 + (k - 4))
        rw [show 4 + (k - 4) = k from by omega]
      · rw [if_neg h3]
        by_cases h4 : k < 164
        · rw [if_pos h4]
          show f k = f (84 + (k - 84))
          rw [show 84 + (k - 84) = k from by omega]
        · rw [if_neg h4]
          by_cases h5 : k < 244
          · rw [if_pos h5]
            show f k = f (164 + (k - 164))
            rw [show 164 + (k - 164) = k from by omega]
          · rw [if_neg h5]
            by_cases h6 : k < 268
            · rw [if_pos h6]
              by_cases h7 : k % 2 = 0
              · rw [if_pos h7]
                show f k = f (244 + 2 * ((k - 244) / 2))
                rw [show 244 + 2 * ((k - 244) / 2) = k from by omega]
              · rw [if_neg h7]
                show f k = f (245 + 2 * ((k - 244) / 2))
                rw [show 245 + 2 * ((k - 244) / 2) = k from by omega]
            · rw [if_neg h6, if_pos hk]
              have e : (5 + (k - 268) % 5 = 5 ∨ 5 + (k - 268) % 5 = 6 ∨ 5 + (k - 268) % 5 = 7 ∨ 5 + (k - 268) % 5 = 8 ∨ 5 + (k - 268) % 5 = 9) := by omega
              rw [if_neg (by omega), if_neg (by omega), if_neg (by omega), if_neg (by omega), if_neg (by omega), if_neg (by omega), if_neg (by omega)]
              rw [show 268 + 5 * ((k - 268) / 5) + (5 + (k - 268) % 5 - 5) = k from by omega]
theorem lcmp_rf (x : Int64) : lg_cmp x x = 0 := by
  unfold lg_cmp
  first
  | (rw [if_neg (by first | exact Int64.lt_irrefl | simp), if_neg (by first | exact Int64.lt_irrefl | simp)]; done)
  | simp
theorem len_sub {L k : Nat} (hL : L ≤ 2048) (hk : 4 * k ≤ 4096) (h : ¬ nI L - nI 4 < nI (4 * k)) : 4 * k + 4 ≤ L := by
  rcases Nat.lt_or_ge L 4 with q | q
  · exfalso
    refine h ?_
    have h1 : nI L - nI 4 < 0 := (show ∀ L, L < 4 → nI L - nI 4 < 0 from by decide) L q
    have h2 := nI_pos' (n := 4 * k) (by omega)
    rw [fa_lt] at h1 ⊢
    rw [fa_le] at h2
    omega
  · rw [pk_sub q] at h
    have := i_nlt_le h
    rw [nI_leI (by omega) (by omega)] at this
    omega
