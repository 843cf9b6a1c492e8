/-! calls that may throw, and what stands outside all worlds: the static rows, the texts, the exceptions' own words -/
def nmsX : List String := ["java/lang/RuntimeException", "java/lang/Exception"]
def xIO : String := "java/lang/IndexOutOfBoundsException"
def xIA : String := "java/lang/IllegalArgumentException"
def xIS : String := "java/lang/IllegalStateException"
def xsL : List (Nat × String) := [(40, "no such square"), (54, "the square has a track or a stop"), (75, "no such square or playe\x72"), (81, "there is a house or a stop of the playe\x72"), (87, "all stops are there"), (101, "no such stop"), (103, "no such playe\x72"), (113, "die or direction is out of range"), (123, "the piece is refused"), (132, "no such player, or not a square of the line"), (134, "direction is out of range"), (139, "coins is out of range"), (145, "the player would have too many coins"), (153, "no such setting"), (158, "value is out of range"), (163, "code is not 33 to 126"), (169, "the buffer is full"), (182, "the buffer is not complete turns as a text"), (191, "there is no saved state"), (197, "what is not 0 to 3"), (203, "stop is out of range"), (205, "what is not 0 to 2"), (210, "what is not 0 to 9"), (215, "what is not 0 to 7"), (220, "no such player or square"), (229, "die is out of range")]
/-- the words that are not the methods' own -/
def xw (U : State) : Prop := va_Nw (.declares (Bundle.initS "java/lang/RuntimeException")) U ∧ va_Nw (.declares (Bundle.initS "java/lang/Exception")) U ∧ va_Nw (.declares (Bundle.initS Bundle.tN)) U ∧ va_Nw (.castable xIO xIO) U ∧ va_Nw (.castable xIA xIA) U ∧ va_Nw (.castable xIS xIS) U ∧ (∀ q ∈ xsL, ∃ a, vk_R RX3 q.1 q.2 a U) ∧ va_Nw (.fieldLinkNest RX1 30 "TramTolls" "DEPOTS" "[I" RX3) U ∧ va_Nw (.fieldLinkNest RX1 50 "TramTolls" "FIRST_SETTINGS" "[I" RX3) U ∧ va_Nw (.castable "[I" "java/lang/Cloneable") U ∧ va_AO RX1 U
theorem xw.warm {s U : State} (hW : s.WarmedH U.vm) (h : xw s) : xw U := by
  obtain ⟨h1, h2, h3, h4, h5, h6, h7, h8, h9, h10, h11⟩ := h
  refine ⟨h1.warmD hW, h2.warmD hW, h3.warmD hW, h4.warmC hW, h5.warmC hW, h6.warmC hW, fun q hq => ?_, h8.warmF hW, h9.warmF hW, h10.warmC hW, h11.moved hW.alike⟩
  obtain ⟨a, ha⟩ := h7 q hq
  exact ⟨a, ha.warm hW⟩
theorem xw.same {u U : State} (e : u.vm = U.vm) (h : xw u) : xw U := by
  obtain ⟨h1, h2, h3, h4, h5, h6, h7, h8, h9, h10, h11⟩ := h
  refine ⟨h1.same rfl e, h2.same rfl e, h3.same rfl e, h4.same rfl e, h5.same rfl e, h6.same rfl e, fun q hq => ?_, h8.same rfl e, h9.same rfl e, h10.same rfl e, h11.moved (by rw [e]; exact Vm.Alike.refl U.vm)⟩
  obtain ⟨a, ha⟩ := h7 q hq
  exact ⟨a, ha.same e.symm⟩
def depF (i : Nat) : Int32 := nI (dep i)
def fseF (i : Nat) : Int32 := nI (if i = 2 then 1 else 2)
/-- a static row of ints, as it stands -/
def xT (t N : Nat) (f : Nat → Int32) (A : Nat → Prop) (U : State) (H : Heap) : Prop := ∃ cell : Cell, H[t]? = some cell ∧ U.isArrayOf cell .int ∧ cell.vm ≠ .unknown ∧ cell.slots.size = N ∧ (∀ j : Nat, j < N → cell.slots[j]? = some (.int (f j))) ∧ U.vm.findClass "[I" = some cell.cls ∧ ¬ A t
theorem xT.moved {t N : Nat} {f : Nat → Int32} {A : Nat → Prop} {u U : State} {H : Heap} (hvm : u.vm.Alike U.vm) (h : xT t N f A u H) : xT t N f A U H := by
  obtain ⟨cell, h1, h2, h3, h4, h5, h6, h7⟩ := h
  exact ⟨cell, h1, State.isArrayOf_alike hvm h2, h3, h4, h5, by rw [hvm.findClass]; exact h6, h7⟩
theorem xT.kept {t N : Nat} {f : Nat → Int32} {A : Nat → Prop} {U : State} {H H1 : Heap} (h : xT t N f A U H) (hq : ∀ a : Nat, a < H.size → ¬ A a → H1[a]? = H[a]?) : xT t N f A U H1 := by
  obtain ⟨cell, h1, h2, h3, h4, h5, h6, h7⟩ := h
  exact ⟨cell, by rw [hq t (Array.getElem?_eq_some_iff.mp h1).1 h7]; exact h1, h2, h3, h4, h5, h6, h7⟩
theorem xT.narrow {t N : Nat} {f : Nat → Int32} {A B : Nat → Prop} {U : State} {H : Heap} (h : xT t N f A U H) (hAB : ∀ q, B q → A q) : xT t N f B U H := by
  obtain ⟨cell, h1, h2, h3, h4, h5, h6, h7⟩ := h
  exact ⟨cell, h1, h2, h3, h4, h5, h6, fun z => h7 (hAB t z)⟩
theorem xT.va {t N : Nat} {f : Nat → Int32} {A : Nat → Prop} {U : State} {H : Heap} (h : xT t N f A U H) : va_T .int t N (fun j => .int (f j)) A U H := by
  obtain ⟨cell, h1, h2, h3, h4, h5, h6, h7⟩ := h
  exact ⟨cell, h1, h2, h3, Nat.le_of_eq h4.symm, by rw [h4], h5, h7⟩
/-- the statics -/
def xst (dp fs : Nat) (A : Nat → Prop) (U : State) (H : Heap) : Prop := vx_Zq Bundle.tN "UNASSIGNED_STACK" Bundle.steD A U H ∧ vx_Zq Bundle.tN "SUPPRESSED_SENTINEL" Bundle.listD A U H ∧ (va_Z RX3 "DEPOTS" "[I" (.ref dp) A U H ∧ xT dp 4 depF A U H) ∧ (va_Z RX3 "FIRST_SETTINGS" "[I" (.ref fs) A U H ∧ xT fs 3 fseF A U H)
theorem xst.moved {dp fs : Nat} {A : Nat → Prop} {u U : State} {H : Heap} (hvm : u.vm.Alike U.vm) (h : xst dp fs A u H) : xst dp fs A U H := ⟨h.1.moved hvm, h.2.1.moved hvm, ⟨h.2.2.1.1.moved hvm, h.2.2.1.2.moved hvm⟩, ⟨h.2.2.2.1.moved hvm, h.2.2.2.2.moved hvm⟩⟩
theorem xst.kept {dp fs : Nat} {A : Nat → Prop} {U : State} {H H1 : Heap} (h : xst dp fs A U H) (hq : ∀ a : Nat, a < H.size → ¬ A a → H1[a]? = H[a]?) : xst dp fs A U H1 := ⟨h.1.kept hq, h.2.1.kept hq, ⟨h.2.2.1.1.kept hq, h.2.2.1.2.kept hq⟩, ⟨h.2.2.2.1.kept hq, h.2.2.2.2.kept hq⟩⟩
theorem xst.narrow {dp fs : Nat} {A B : Nat → Prop} {U : State} {H : Heap} (h : xst dp fs A U H) (hAB : ∀ q, B q → A q) : xst dp fs B U H := ⟨h.1.narrow hAB, h.2.1.narrow hAB, ⟨h.2.2.1.1.narrow hAB, h.2.2.1.2.narrow hAB⟩, ⟨h.2.2.2.1.narrow hAB, h.2.2.2.2.narrow hAB⟩⟩
/-- at a call: from the caller's start to the callee's -/
theorem xst.go {dp fs : Nat} {A B : Nat → Prop} {s U : State} {H : Heap} {locs : List Loc} (h : xst dp fs A s s.heap) (hS : va_S A s.heap H locs) (hW : s.WarmedH U.vm) (hU : U.heap = H) (hAB : ∀ q, B q → A q) : xst dp fs B U U.heap := by
  rw [hU]
  exact ((h.kept hS.2.1).moved hW.alike).narrow hAB
/-- a method over a world, that may throw -/
def txP (dp fs : Nat) (D : va_G) (K : Nat → ClassId) (ws : va_W) (sz : Nat) (av : List Value) : Array Value → State → Prop := va_Pc av (fun U => U.heap.size = sz ∧ va_P D vwCl ws U.heap ∧ ev D K U ∧ va_D (fun _ => True) ws ∧ xw U ∧ xst dp fs (va_A ws sz) U U.heap)
def txQ (D : va_G) (ws w2 : va_W) (sz : Nat) (v : Int32) (E : Nat) : Array Value → State → Outcome → State → Prop := va_Qi (fun (r : Int32) (_ : Unit) => E = 0 ∧ r = v) (fun _ t => va_P D vwCl w2 t.heap ∧ va_D (va_A ws sz) w2) (va_A ws sz)
def txX (D : va_G) (ws : va_W) (sz E : Nat) (nm : Nat → String) : String → State → State → Prop := vx_X (fun (_ : Unit) => ¬ E = 0) (fun X _ t => X = nm E ∧ va_P D vwCl ws t.heap ∧ va_D (va_A ws sz) ws) (va_A ws sz)
abbrev Tx (dp fs : Nat) (l : Launch) (y : MethodName) (wy : List Cond) (rm : Room) (D : va_G) (K : Nat → ClassId) (ws : va_W) (sz : Nat) (av : List Value) (E : Nat) (nm : Nat → String) (w2 : va_W) (v : Int32) (mc ms : Nat) : Prop := vx_Met l y wy rm (txP dp fs D K ws sz av) (txQ D ws w2 sz v E) (txX D ws sz E nm) mc ms (va_A ws sz)
/-- a writer that looks at the static rows -/
abbrev Sx (dp fs : Nat) (l : Launch) (y : MethodName) (wy : List Cond) (rm : Room) (D : va_G) (K : Nat → ClassId) (ws : va_W) (sz : Nat) (av : List Value) (w2 : va_W) (v : Option Value) (mc ms : Nat) : Prop := Met l y wy rm (txP dp fs D K ws sz av) (wrQ D ws w2 sz v) mc ms (va_A ws sz)
theorem txP.blind {dp fs : Nat} {D : va_G} {K : Nat → ClassId} {ws : va_W} {sz : Nat} {av : List Value} : FrameBlind (txP dp fs D K ws sz av) := fun a U g mk q => ⟨q.1, q.2.1, q.2.2.1, ev.same (u := U) (U := U.calling g mk a) rfl q.2.2.2.1, q.2.2.2.2.1, xw.same (u := U) (U := U.calling g mk a) rfl q.2.2.2.2.2.1, xst.moved (u := U) (U := U.calling g mk a) (Vm.Alike.refl U.vm) q.2.2.2.2.2.2⟩
def xnA (n : Nat) : String := if n = 1 then xIO else if n = 2 then xIA else xIS
def xnB (n : Nat) : String := if n = 1 then xIO else xIS
def xnC (n : Nat) : String := if n = 1 then xIA else xIS
def xnD (_ : Nat) : String := xIS
def xB (cls : String) : List Cond := [.declares (Bundle.initS "java/lang/RuntimeException"), .declares (Bundle.initS "java/lang/Exception"), .declares (Bundle.initS Bundle.tN), .castable cls cls]
theorem xB_at {cls : String} {args : Array Value} {s : State} (h : xw s) (hc : va_Nw (.castable cls cls) s) : ∀ w ∈ xB cls, w.before args s = true := vx_c (h.1.use rfl) (vx_c (h.2.1.use rfl) (vx_c (h.2.2.1.use rfl) (vx_c (hc.use rfl) vx_n)))
section THROW
variable {p : Program} {l : Launch} {e : Env} {R : Room} {s : State} {m : MethodId} {args : Array Value} {below : List Frame} {meth : Method} {c : Code} {H : Heap} {locs : List Loc} {cells slots : Nat} {cc : ByteArray} {pc : Nat} {ls : Array Slot} {D : va_G} {K : Nat → ClassId} {ws w2 : va_W} {sz mc ms dp fs : Nat} {A : Nat → Prop}
theorem tx_intro {y : MethodName} {wy wy' : List Cond} {rm : Room} {av : List Value} {v : Int32} {E : Nat} {nm : Nat → String} {maxL : Nat} {ret : Option FieldType} (hy : plainName y.cls = true) (hw : wy = Cond.code y cc maxL ret :: wy') (hL : (lg_sl av).length ≤ maxL)
    (body : ∀ (p : Program) (e : Env) (s : State) (m : MethodId) (args : Array Value) (below : List Frame) (meth : Method) (c : Code) (A : Nat → Prop), p.tables.exec = Jvm.exec → c.code = cc → c.maxLocals = maxL → meth.sig.returnType = ret → (∀ w ∈ wy, w.before args s = true) → s.vm.findClass y.cls = some m.cls → meth.locks = false → s.heap.size = sz → A = va_A ws sz → va_P D vwCl ws s.heap → ev D K s → va_D A ws → va_S A s.heap s.heap [] → (∀ q : Nat, s.heap.size ≤ q → A q) → (∀ x ∈ c.exceptionTable.toList, False) → xw s → xst dp fs A s s.heap → ∀ ls : Array Slot, lv_has ls maxL (lv_args 0 av) →
      W p l e (headSpec wy rm).room s m args below meth c s.heap [] 0 0 (vx_MQ below (txQ D ws w2 sz v E) (txX D ws sz E nm) args s mc ms A) (F0 m 0 ls [])) : Tx dp fs l y wy rm D K ws sz av E nm w2 v mc ms := by
  refine vx_ofW (cc := cc) (maxL := maxL) (ret := ret) hy hw ?_
  intro p e s m args below meth c s₁ B hml hxt hv
  obtain ⟨rfl, hsz, hP, hE, hD0, hXw, hZ⟩ := hv
  have hl := lv_entry av hL
  rw [lg_entry_eq]
  subst hsz
  exact body p e s m _ below meth c _ B.exec B.bytes hml B.returns (atoms_spec (ws := wy) B.pre) (findClass_of_methodNamed B.named) B.notSynchronized rfl rfl hP hE hD0.self va_S.rf (fun q h => Or.inr h) hxt hXw hZ _ hl
theorem sx_intro {y : MethodName} {wy wy' : List Cond} {rm : Room} {av : List Value} {v : Option Value} {maxL : Nat} {ret : Option FieldType} (hy : plainName y.cls = true) (hw : wy = Cond.code y cc maxL ret :: wy') (hL : (lg_sl av).length ≤ maxL)
    (body : ∀ (p : Program) (e : Env) (s : State) (m : MethodId) (args : Array Value) (below : List Frame) (meth : Method) (c : Code) (A : Nat → Prop), p.tables.exec = Jvm.exec → c.code = cc → c.maxLocals = maxL → meth.sig.returnType = ret → (∀ w ∈ wy, w.before args s = true) → s.vm.findClass y.cls = some m.cls → meth.locks = false → s.heap.size = sz → A = va_A ws sz → va_P D vwCl ws s.heap → ev D K s → va_D A ws → va_S A s.heap s.heap [] → (∀ q : Nat, s.heap.size ≤ q → A q) → (y.name = "<init>" → meth.name = "<init>") → xw s → xst dp fs A s s.heap → ∀ ls : Array Slot, lv_has ls maxL (lv_args 0 av) →
      W p l e (headSpec wy rm).room s m args below meth c s.heap [] 0 0 (MQ below (wrQ D ws w2 sz v) args s mc ms A) (F0 m 0 ls [])) : Sx dp fs l y wy rm D K ws sz av w2 v mc ms := by
  refine Met.ofW (cc := cc) (maxL := maxL) (ret := ret) hy hw ?_
  intro p e s m args below meth c s₁ B hml hv
  obtain ⟨rfl, hsz, hP, hE, hD0, hXw, hZ⟩ := hv
  have hl := lv_entry av hL
  rw [lg_entry_eq]
  subst hsz
  exact body p e s m _ below meth c _ B.exec B.bytes hml B.returns (atoms_spec (ws := wy) B.pre) (findClass_of_methodNamed B.named) B.notSynchronized rfl rfl hP hE hD0.self va_S.rf (fun q h => Or.inr h) (fun h => by rw [← h]; exact (name_of_methodNamed B.named B.method).1) hXw hZ _ hl
theorem tx_iret {x v : Int32} {E : Nat} {nm : Nat → String} (hA : A = va_A ws sz) (hP : va_P D vwCl w2 H) (hD : va_D A w2) (hS : va_S A s.heap H locs) (hx : p.tables.exec = Jvm.exec) (hb : c.code = cc) (hr : meth.sig.returnType = some .int) (hk : meth.locks = false) (hdg : decode cc pc = .ok (.ireturn, 1)) (hc : cells ≤ mc ∧ slots ≤ ms) (hE : E = 0) (h : x = v) : W p l e R s m args below meth c H locs cells slots (vx_MQ below (txQ D ws w2 sz v E) (txX D ws sz E nm) args s mc ms A) (F0 m pc ls [.int x]) := by
  subst hA
  subst h
  refine vx_ret ?_
  refine W.widen (k := mc) (n := ms) hc.1 hc.2 ?_
  exact W.iret (v := x) hx hb hr (fun t ht hW => ⟨⟨x, (), rfl, ⟨hE, rfl⟩, ⟨by rw [ht]; exact hP, hD⟩⟩, hS.F ht⟩) hS.2.2 hdg hk
theorem va_P.grow {ws : va_W} {H1 : Heap} (hP : va_P D vwCl ws H) (h : ∀ q : Nat, q < H.size → H1[q]? = H[q]?) : va_P D vwCl ws H1 := hP.kept fun k q hk => h q.1 (hP k q hk).lt
theorem tx_thr {ik ic is : Nat} {cls text : String} {v : Int32} {E n : Nat} {nm : Nat → String} (hx : p.tables.exec = Jvm.exec) (hb : c.code = cc) (hst : l.stackTraces = false) (hown : s.vm.findClass RX3 = some m.cls) (hcls : Bundle.fit cls = true)
    (hk : (Cond.classLink RX3 ik cls).before args s = true) (hini : (Cond.initialized cls).before args s = true) (h1 : ∀ w ∈ (vx_atS RX3 ic cls nmsX).filter goodWord, w.before args s = true) (h2 : ∀ w ∈ (vx_atS RX3 ic cls nmsX).filter (fun w => !goodWord w), w ∈ xB cls)
    (hgood : ∀ w ∈ Cond.classLink RX3 ik cls :: Cond.initialized cls :: vx_atS RX3 ic cls nmsX, vx_ot w = true) (hcc : va_Nw (.castable cls cls) s) (hXw : xw s) (htx : (is, text) ∈ xsL) (hZ : xst dp fs A s s.heap) (hA : A = va_A ws sz) (hP : va_P D vwCl ws H) (hD : va_D A ws) (hS : va_S A s.heap H locs) (hsize : ls.size = c.maxLocals)
    (hxt : ∀ x ∈ c.exceptionTable.toList, False) (hR : 5 < R.frames ∧ 82 ≤ R.locals) (hR2 : cells + 1 ≤ R.cells ∧ slots + 6 ≤ R.slots) (hlocks : meth.locks = false) (hmc : cells + 1 ≤ mc ∧ slots + 6 ≤ ms) (hn : ¬ n = 0) (hnm : nm n = cls) (hE : E = n)
    (d0 : decode cc pc = .ok (.new ik, 3)) (d3 : decode cc (pc + 3) = .ok (.dup, 1)) (d4 : decode cc (pc + 4) = .ok (.ldc is, 2)) (d6 : decode cc (pc + 6) = .ok (.invokespecial ic, 3)) (d9 : decode cc (pc + 9) = .ok (.athrow, 1)) :
    W p l e R s m args below meth c H locs cells slots (vx_MQ below (txQ D ws w2 sz v E) (txX D ws sz E nm) args s mc ms A) (F0 m pc ls []) := by
  obtain ⟨sa, hsa⟩ := hXw.2.2.2.2.2.2.1 _ htx
  refine vx_throwS (cls := cls) (text := text) (names := nmsX) (sa := sa) hx hb hst hown hcls (by decide +kernel) hk hini hsa (vx_hat h1 h2 (xB_at hXw hcc)) hgood hZ.1 hZ.2.1 hS hsize d0 d3 d4 d6 d9 (fun x h => (hxt x h).elim) hR.1 ?_ hR2.1 hR2.2 hlocks (fun t ht h3 h4 => ?_) hS.2.2 hmc.1 hmc.2
  · exact hR.2
  · subst hA
    exact ⟨(), by rw [hE]; exact hn, ⟨by rw [hE]; exact hnm.symm, hP.grow h4, hD⟩, ⟨Nat.le_trans hS.1 h3, fun q q1 q2 => by rw [h4 q (Nat.lt_of_lt_of_le q1 hS.1)]; exact hS.2.1 q q1 q2⟩⟩
end THROW
theorem xg_IO : ∀ w ∈ Cond.classLink RX3 38 xIO :: Cond.initialized xIO :: vx_atS RX3 42 xIO nmsX, vx_ot w = true := by decide +kernel
theorem xg_IA : ∀ w ∈ Cond.classLink RX3 111 xIA :: Cond.initialized xIA :: vx_atS RX3 115 xIA nmsX, vx_ot w = true := by decide +kernel
theorem xg_IS : ∀ w ∈ Cond.classLink RX3 52 xIS :: Cond.initialized xIS :: vx_atS RX3 56 xIS nmsX, vx_ot w = true := by decide +kernel
theorem xh_IO : ∀ w ∈ (vx_atS RX3 42 xIO nmsX).filter (fun w => !goodWord w), w ∈ xB xIO := by decide +kernel
theorem xh_IA : ∀ w ∈ (vx_atS RX3 115 xIA nmsX).filter (fun w => !goodWord w), w ∈ xB xIA := by decide +kernel
theorem xh_IS : ∀ w ∈ (vx_atS RX3 56 xIS nmsX).filter (fun w => !goodWord w), w ∈ xB xIS := by decide +kernel
/-- a reader of the static rows -/
def rsP (dp fs : Nat) (D : va_G) (K : Nat → ClassId) (av : List Value) : Array Value → State → Prop := va_Pc av (fun U => ev D K U ∧ xst dp fs (fun _ => False) U U.heap)
abbrev Rs (dp fs : Nat) (l : Launch) (y : MethodName) (wy : List Cond) (rm : Room) (D : va_G) (K : Nat → ClassId) (av : List Value) (v : Value) : Prop := Met l y wy rm (rsP dp fs D K av) (rdQ v) 0 0 (fun _ => False)
theorem rsP.blind {dp fs : Nat} {D : va_G} {K : Nat → ClassId} {av : List Value} : FrameBlind (rsP dp fs D K av) := fun a U g mk q => ⟨q.1, ev.same (u := U) (U := U.calling g mk a) rfl q.2.1, xst.moved (u := U) (U := U.calling g mk a) (Vm.Alike.refl U.vm) q.2.2⟩
section STAT
variable {p : Program} {l : Launch} {e : Env} {R : Room} {s : State} {m : MethodId} {args : Array Value} {below : List Frame} {meth : Method} {c : Code} {H : Heap} {locs : List Loc} {cells slots : Nat} {Q : State → Prop} {cc : ByteArray} {pc : Nat} {ls : Array Slot} {rest st0 : List Value} {D : va_G} {K : Nat → ClassId} {ws w2 : va_W} {sz mc ms dp fs : Nat} {A : Nat → Prop}
theorem rs_intro {y : MethodName} {wy wy' : List Cond} {rm : Room} {av : List Value} {v : Value} {maxL : Nat} {ret : Option FieldType} (hy : plainName y.cls = true) (hw : wy = Cond.code y cc maxL ret :: wy') (hL : (lg_sl av).length ≤ maxL)
    (body : ∀ (p : Program) (e : Env) (s : State) (m : MethodId) (args : Array Value) (below : List Frame) (meth : Method) (c : Code), p.tables.exec = Jvm.exec → c.code = cc → c.maxLocals = maxL → meth.sig.returnType = ret → (∀ w ∈ wy, w.before args s = true) → s.vm.findClass y.cls = some m.cls → meth.locks = false → ev D K s → xst dp fs (fun _ => False) s s.heap → ∀ ls : Array Slot, lv_has ls maxL (lv_args 0 av) →
      W p l e (headSpec wy rm).room s m args below meth c s.heap [] 0 0 (MQ below (rdQ v) args s 0 0 (fun _ => False)) (F0 m 0 ls [])) : Rs dp fs l y wy rm D K av v := by
  refine Met.ofW (cc := cc) (maxL := maxL) (ret := ret) hy hw ?_
  intro p e s m args below meth c s₁ B hml hv
  obtain ⟨rfl, hE, hZ⟩ := hv
  have hl := lv_entry av hL
  rw [lg_entry_eq]
  exact body p e s m _ below meth c B.exec B.bytes hml B.returns (atoms_spec (ws := wy) B.pre) (findClass_of_methodNamed B.named) B.notSynchronized hE hZ _ hl
theorem rs_SN {y : MethodName} {nL n index maxL : Nat} {bytes : ByteArray} {ret : Option FieldType} {wy Ts : List Cond} {rm : Room} {own host : String} {As : List Value} {v : Value}
    (S : CallFix p m c cc nL s args Ts own) (hE : ev D K s) (hZ : xst dp fs A s s.heap) (hS : va_S A s.heap H locs) (hM : Rs dp fs l y wy rm D K As v) (cw : va_CN R s args own index y host bytes maxL ret wy rm 0 0 n) (hst1 : (Cond.static y).before args s = true)
    (hn : As.length = n) (hsize : ls.size = nL) (hst : st0 = As.reverse ++ rest) (hW : (rest.map fun v => v.category).sum ≤ 8) (hdg : decode cc pc = .ok (.invokestatic index, 3)) (hf : cells ≤ R.cells ∧ slots ≤ R.slots)
    (kk : W p l e R s m args below meth c H locs cells slots Q (F0 m (pc + 3) ls (v :: rest))) : W p l e R s m args below meth c H locs cells slots Q (F0 m pc ls st0) :=
  rd_run (va_runSN S hM ⟨cw, hst1, trivial⟩ ⟨rsP.blind, fun U hU hW => ⟨rfl, hE.warm hW, hZ.go hS hW hU (fun _ h => h.elim)⟩⟩ rfl hn hsize hst (lv_room hW) hdg hf) kk
theorem sub_A {A : Nat → Prop} {ws : va_W} {H H0 : Heap} (hA : ∀ q : Nat, H0.size ≤ q → A q) (hD : va_D A ws) (hH : H0.size ≤ H.size) : ∀ q, va_A ws H.size q → A q := fun q h => by
  rcases h with ⟨k, e, h⟩ | h
  · exact hD.2 k _ h
  · exact hA q (Nat.le_trans hH h)
theorem sx_V {y : MethodName} {nL n index maxL mc ms : Nat} {bytes : ByteArray} {ret : Option FieldType} {wy Ts : List Cond} {rm : Room} {own C : String} {b : Addr} {As : List Value} {v : Option Value} {ci q0 : Nat} {qc : vw_C} {fs1 : List Value}
    (S : CallFix p m c cc nL s args Ts own) (hP : va_P D vwCl ws H) (hE : ev D K s) (hA : ∀ q : Nat, s.heap.size ≤ q → A q) (hD : va_D A ws) (hS : va_S A s.heap H locs) (hXw : xw s) (hZ : xst dp fs A s s.heap) (hM : Sx dp fs l y wy rm D K ws H.size (.ref b :: As) w2 v mc ms) (cw : CallW R s args own C index y bytes maxL ret wy rm mc ms n) (hci : vwCl[ci]? = some qc) (hC : qc.1 = C) (hq : ws[q0]? = some (b, .inr (ci, fs1)))
    (hn : As.length = n) (hsize : ls.size = nL) (hst : st0 = As.reverse ++ .ref b :: rest) (hW : (rest.map fun v => v.category).sum ≤ 8) (hdg : decode cc pc = .ok (.invokevirtual index, 3)) (hf : cells + mc ≤ R.cells ∧ slots + ms ≤ R.slots)
    (kk : ∀ (H1 : Heap) (locs1 : List Loc), va_P D vwCl w2 H1 → va_D A w2 → va_S A s.heap H1 locs1 → W p l e R s m args below meth c H1 locs1 (cells + mc) (slots + ms) Q (F0 m (pc + 3) ls (v.toList ++ rest))) : W p l e R s m args below meth c H locs cells slots Q (F0 m pc ls st0) := by
  subst hC
  exact wr_run (va_runV S hM cw ⟨txP.blind, va_recv hE.1 hP hci hq, fun U hU hW => ⟨rfl, by rw [hU], by rw [hU]; exact hP, hE.warm hW, hD.weaken (fun _ _ _ _ => trivial), hXw.warm hW, hZ.go hS hW hU (sub_A hA hD hS.1)⟩⟩ rfl hn hsize hst (lv_room hW) hdg hf) hA hD hS kk
end STAT
