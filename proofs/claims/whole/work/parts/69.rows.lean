/-! constructors: rows -/
def ixQ {S : Type} (D : va_G) (ws : va_W) (sz : Nat) (w2 : S → va_W) : Array Value → State → Outcome → State → Prop := va_Qv (fun (_ : S) => True) (fun a t => va_P D vwCl (w2 a) t.heap ∧ va_D (va_A ws sz) (w2 a)) (va_A ws sz)
abbrev Ix {S : Type} (dp fs : Nat) (l : Launch) (y : MethodName) (wy : List Cond) (rm : Room) (D : va_G) (K : Nat → ClassId) (ws : va_W) (sz : Nat) (av : List Value) (w2 : S → va_W) (mc ms : Nat) : Prop := Met l y wy rm (txP dp fs D K ws sz av) (ixQ D ws sz w2) mc ms (va_A ws sz)
def at0 (h : Nat) (a : Nat → Nat) (i : Nat) : Nat := if i = 0 then h else a i
section INITS
variable {p : Program} {l : Launch} {e : Env} {R : Room} {s : State} {m : MethodId} {args : Array Value} {below : List Frame} {meth : Method} {c : Code} {H H0 : Heap} {locs : List Loc} {cells slots : Nat} {Q : State → Prop} {cc : ByteArray} {pc : Nat} {ls : Array Slot} {rest : List Value} {D : va_G} {K : Nat → ClassId} {ws : va_W} {sz mc ms dp fs : Nat} {A : Nat → Prop}
theorem ix_intro {y : MethodName} {wy wy' : List Cond} {rm : Room} {av : List Value} {S : Type} {w2 : S → va_W} {maxL : Nat} {ret : Option FieldType} (hy : plainName y.cls = true) (hw : wy = Cond.code y cc maxL ret :: wy') (hL : (lg_sl av).length ≤ maxL)
    (body : ∀ (p : Program) (e : Env) (s : State) (m : MethodId) (args : Array Value) (below : List Frame) (meth : Method) (c : Code) (A : Nat → Prop), p.tables.exec = Jvm.exec → c.code = cc → c.maxLocals = maxL → meth.sig.returnType = ret → (∀ w ∈ wy, w.before args s = true) → s.vm.findClass y.cls = some m.cls → meth.locks = false → s.heap.size = sz → A = va_A ws sz → va_P D vwCl ws s.heap → ev D K s → va_D A ws → va_S A s.heap s.heap [] → (∀ q : Nat, s.heap.size ≤ q → A q) → (y.name = "<init>" → meth.name = "<init>") → xw s → xst dp fs A s s.heap → ∀ ls : Array Slot, lv_has ls maxL (lv_args 0 av) →
      W p l e (headSpec wy rm).room s m args below meth c s.heap [] 0 0 (MQ below (ixQ D ws sz w2) args s mc ms A) (F0 m 0 ls [])) : Ix dp fs l y wy rm D K ws sz av w2 mc ms := by
  refine Met.ofW (cc := cc) (maxL := maxL) (ret := ret) hy hw ?_
  intro p e s m args below meth c s₁ B hml hv
  obtain ⟨rfl, hsz, hP, hE, hD0, hXw, hZ⟩ := hv
  have hl := lv_entry av hL
  rw [lg_entry_eq]
  subst hsz
  exact body p e s m _ below meth c _ B.exec B.bytes hml B.returns (atoms_spec (ws := wy) B.pre) (findClass_of_methodNamed B.named) B.notSynchronized rfl rfl hP hE hD0.self va_S.rf (fun q h => Or.inr h) (fun h => by rw [← h]; exact (name_of_methodNamed B.named B.method).1) hXw hZ _ hl
theorem ix_vret {S : Type} {w2 : S → va_W} (a : S) (hA : A = va_A ws sz) (hP : va_P D vwCl (w2 a) H) (hD : va_D A (w2 a)) (hS : va_S A s.heap H locs) (hx : p.tables.exec = Jvm.exec) (hb : c.code = cc) (hr : meth.sig.returnType = none) (hk : meth.locks = false) (hdg : decode cc pc = .ok (.return_, 1)) (hc : cells ≤ mc ∧ slots ≤ ms) : W p l e R s m args below meth c H locs cells slots (MQ below (ixQ D ws sz w2) args s mc ms A) (F0 m pc ls []) := by
  subst hA
  refine W.widen (k := mc) (n := ms) hc.1 hc.2 ?_
  exact W.vret hx hb hr (fun t ht hW => ⟨⟨a, rfl, trivial, ⟨by rw [ht]; exact hP, hD⟩⟩, hS.F ht⟩) hS.2.2 hdg hk
theorem K0_is (hE : ev D K s) : s.vm.findClass "[I" = some (K 0) := va_nm_int (hE.1.2 0 (K 0, .int) rfl).2
theorem nv_newa (hx : p.tables.exec = Jvm.exec) (hb : c.code = cc) (harr : (Cond.arrayClass .int).before args s = true) (hE : ev D K s) (hP : va_P D vwCl ws H) (hD : va_D A ws) (hS : va_S A H0 H locs) (hA : ∀ q : Nat, H0.size ≤ q → A q) {n : Nat} (hn : n ≤ 100000) (hR : cells + 1 ≤ R.cells ∧ slots + n ≤ R.slots) (hdg : decode cc pc = .ok (.newarray .int, 2))
    (kk : ∀ (q : Nat) (H1 : Heap), va_P D vwCl (ws ++ [(q, .inl (K 0, n, .inl (fun _ => 0)))]) H1 → va_D A (ws ++ [(q, .inl (K 0, n, .inl (fun _ => 0)))]) → va_S A H0 H1 locs → W p l e R s m args below meth c H1 locs (cells + 1) (slots + n) Q (F0 m (pc + 2) ls (.ref q :: rest))) : W p l e R s m args below meth c H locs cells slots Q (F0 m pc ls (.int (nI n) :: rest)) := by
  refine va_newa (atype := .int) (ty := .int) (tys := eT K) (N' := n) (a0 := (n, .inl (fun _ => 0))) hx hb harr rfl hE.1 hP hD hS hA (fun cA => by rw [vp_cell_i]; rfl) (nI_pos (by omega)) (nI_clamp (by omega)) (by show n * 4 ≤ _; omega) hR.1 hR.2 hdg (fun q cA H1 hK1 h1 h2 h3 => ?_)
  have e1 : s.vm.findClass "[I" = some cA := va_nm_int (hK1.2 3 (cA, .int) rfl).2
  have e2 : cA = K 0 := Option.some.inj (e1.symm.trans (K0_is hE))
  subst e2
  exact kk q H1 h1 h2 h3
theorem nv_newq (hx : p.tables.exec = Jvm.exec) (hb : c.code = cc) {own : String} {index : Nat} (hown : s.vm.findClass own = some m.cls) (hcl : (Cond.classLink own index RX1).before args s = true) (hXw : xw s) (hE : ev D K s) (hP : va_P D vwCl ws H) (hD : va_D A ws) (hS : va_S A H0 H locs) (hA : ∀ q : Nat, H0.size ≤ q → A q) {n : Nat} (hn : n ≤ 100000) (hR : cells + 1 ≤ R.cells ∧ slots + n ≤ R.slots) (hdg : decode cc pc = .ok (.anewarray index, 3))
    (kk : ∀ (q : Nat) (H1 : Heap), va_P D vwCl (ws ++ [(q, .inl (K 1, n, .inr (.inr (.inr (.inr (fun _ => none))))))]) H1 → va_D A (ws ++ [(q, .inl (K 1, n, .inr (.inr (.inr (.inr (fun _ => none))))))]) → va_S A H0 H1 locs → W p l e R s m args below meth c H1 locs (cells + 1) (slots + n) Q (F0 m (pc + 3) ls (.ref q :: rest))) : W p l e R s m args below meth c H locs cells slots Q (F0 m pc ls (.int (nI n) :: rest)) := by
  refine va_newq (tys := eT K) (N' := n) hx hb hown hcl hXw.2.2.2.2.2.2.2.2.2.2 hE.1 hP hD hS hA (nI_pos (by omega)) (nI_clamp (by omega)) (by omega) hR.1 hR.2 hdg (fun q cA H1 hK1 h1 h2 h3 => ?_)
  obtain ⟨_, _, _, _, _, e1⟩ := (hK1.2 3 (cA, .object RX1) rfl).2
  obtain ⟨_, _, _, _, _, e2⟩ := (hE.1.2 1 (K 1, .object "TramTolls$Town") rfl).2
  have e3 : cA = K 1 := Option.some.inj (e1.symm.trans e2)
  subst e3
  exact kk q H1 h1 h2 h3
theorem cell_of {cell : Cell} {N : Nat} {f : Nat → Int32} {k : ClassId} (hc : cell.cls = k) (hs : cell.slots.size = N) (hv : ∀ j : Nat, j < N → cell.slots[j]? = some (.int (f j))) : ({ cls := cell.cls, slots := cell.slots } : Cell) = vp_cell k (N, .inl f) := by
  rw [vp_cell_i]
  have hsz : (arrV k N (fun j => .int (f j))).slots.size = N := arrV_size _ _ _
  have hsl : cell.slots = (arrV k N (fun j => .int (f j))).slots := by
    apply Array.ext_getElem?
    intro i
    rcases Nat.lt_or_ge i N with q | q
    · rw [hv i q]
      exact (arrV_read k (fun j => .int (f j)) q).symm
    · rw [Array.getElem?_eq_none (by omega), Array.getElem?_eq_none (by omega)]
  rw [hc, hsl]
  rfl
theorem nv_clone (hx : p.tables.exec = Jvm.exec) (hb : c.code = cc) (hml : c.maxLocals = ls.size) {own : String} {index : Nat} (hown : s.vm.findClass own = some m.cls)
    (hlink : (Cond.methodLink own index ⟨"[I", "clone", "()Ljava/lang/Object;"⟩).before args s = true) (hsame : (Cond.sameMethod "[I" "java/lang/Object" "clone" "()Ljava/lang/Object;").before args s = true)
    (hnat : (Cond.native ⟨"java/lang/Object", "clone", "()Ljava/lang/Object;"⟩).before args s = true) (hinst : (Cond.instanceMethod ⟨"java/lang/Object", "clone", "()Ljava/lang/Object;"⟩).before args s = true)
    (hsel : (Cond.selects "[I" ⟨"[I", "clone", "()Ljava/lang/Object;"⟩ ⟨"java/lang/Object", "clone", "()Ljava/lang/Object;"⟩).before args s = true) (hcl : va_Nw (.castable "[I" "java/lang/Cloneable") s)
    (hE : ev D K s) (hP : va_P D vwCl ws H) (hD : va_D A ws) (hS : va_S A s.heap H locs) (hA : ∀ q : Nat, s.heap.size ≤ q → A q) {t N : Nat} {f : Nat → Int32} (hT : xT t N f A s s.heap)
    (hframes : 1 ≤ R.frames) (hlocals : (rest.map fun v => v.category).sum + 14 ≤ R.locals) (hR : cells + 1 ≤ R.cells ∧ slots + N ≤ R.slots) (hdg : decode cc pc = .ok (.invokevirtual index, 3))
    (kk : ∀ (q : Nat) (H1 : Heap), va_P D vwCl (ws ++ [(q, .inl (K 0, N, .inl f))]) H1 → va_D A (ws ++ [(q, .inl (K 0, N, .inl f))]) → va_S A s.heap H1 locs → W p l e R s m args below meth c H1 locs (cells + 1) (slots + N) Q (F0 m (pc + 3) ls (.ref q :: rest))) : W p l e R s m args below meth c H locs cells slots Q (F0 m pc ls (.ref t :: rest)) := by
  obtain ⟨cell, h1, h2, h3, h4, h5, h6, h7⟩ := hT
  have hcls : cell.cls = K 0 := Option.some.inj (h6.symm.trans (K0_is hE))
  obtain ⟨c0, t0', f1, f2, f3⟩ := Cond.castable_spec (va_Nw.use (A := args) rfl hcl)
  have e0 : c0 = cell.cls := Option.some.inj (f1.symm.trans h6)
  subst e0
  have hcE := cell_of (k := K 0) hcls h4 h5
  intro T hT X
  have hcellT : T.heap[t]? = some cell := by
    rw [hT, hS.2.1 t (Array.getElem?_eq_some_iff.mp h1).1 h7]
    exact h1
  obtain ⟨-, kA, hkA, comp, hkind⟩ := State.isArrayOf_alike X.warmed.alike h2
  have h20 := h2.1
  obtain ⟨-, kS, hkS, compS, hkindS⟩ := h2
  obtain ⟨vm', X', st⟩ := X.cloneArray hx hown hlink hsame hnat hinst hsel (a := t) (cell := cell) hcellT h20 h3 h6 f2 f3
    (fun i v hv => by
      have hk' : T.vm.classes[cell.cls]? = some kA := hkA
      have hi : i < N := by rw [← h4]; exact (Array.getElem?_eq_some_iff.mp hv).1
      have hv2 : v = .int (f i) := Option.some.inj (hv.symm.trans (h5 i hi))
      subst hv2
      simp [State.fitsSlot, State.slotType?, hk', hkind]
      rfl)
    (g := F0 m pc ls (.ref t :: rest)) rfl (by rw [hml]) rfl (by rw [hb]; exact hdg) hframes (by show 2 * 0 + _ + 14 ≤ _; omega) hR.1 (by rw [h4]; exact hR.2) (hloader := Vm.clonesLoader_of_array hkS hkindS)
  rw [hcE, h4] at X'
  generalize hH1 : H.push (vp_cell (K 0) (N, .inl f)) = H1
  have z1 : H1.size = H.size + 1 := by rw [← hH1, Array.size_push]
  have e1 : H1[H.size]? = some (vp_cell (K 0) (N, .inl f)) := by rw [← hH1, Array.getElem?_push_size]
  have o1 : ∀ q : Nat, q < H.size → H1[q]? = H[q]? := fun q hq => by rw [← hH1, Array.getElem?_push, if_neg (Nat.ne_of_lt hq)]
  have hk : ∀ (k : Nat) (y : Nat × va_E), ws[k]? = some y → H1[y.1]? = H[y.1]? := fun k y hy => o1 y.1 ((hP k y hy).lt)
  obtain ⟨t2, b1, b2⟩ := kk H.size H1 ((hP.kept hk).app (fun k y hy => by
      have hz : k < 1 := (List.getElem?_eq_some_iff.mp hy).1
      rw [show k = 0 by omega] at hy
      cases hy
      exact e1)) (hD.push hP rfl (hA _ hS.1)) ⟨Nat.le_trans hS.1 (by omega), fun y h1 h2 => (o1 y (Nat.lt_of_lt_of_le h1 hS.1)).trans (hS.2.1 y h1 h2), hS.2.2⟩
    ((T.setVm vm').pushCell (vp_cell (K 0) (N, .inl f))) (by rw [← hH1, ← hT]; rfl) X'
  refine ⟨t2, st t2 ?_, b2⟩
  rw [hcE, hT]
  exact b1
/-- a constructor's call: its own cell goes in, what it made comes back behind the rest -/
theorem ix_run {y : MethodName} {wc wr : va_W} {S : Type} {w2 : S → va_W} {a : Array Value} {st0 : List Value} (hr : va_Run p l e R s m args below meth c H locs cells slots mc ms (F0 m pc ls st0) rest (ixQ D wc H.size w2 a) (va_A wc H.size)) (hA : ∀ q : Nat, s.heap.size ≤ q → A q) (hP : va_P D vwCl ws H) (hD : va_D A ws) (hS : va_S A s.heap H locs)
    (isC isR : List Nat) (hC : isC.map (fun i => ws[i]?) = wc.map some) (hW : isR.map (fun i => ws[i]?) = wr.map some) (hn : va_nd isR = true) (hdis : ∀ i ∈ isR, i ∉ isC)
    (kk : ∀ (a : S) (H1 : Heap) (locs1 : List Loc), va_P D vwCl (wr ++ w2 a) H1 → va_D A (wr ++ w2 a) → va_S A s.heap H1 locs1 → W p l e R s m args below meth c H1 locs1 (cells + mc) (slots + ms) Q (F0 m (pc + 3) ls rest)) : W p l e R s m args below meth c H locs cells slots Q (F0 m pc ls st0) := by
  have hF := va_free hD hS hA isC hC
  refine va_callv hr hS (fun q _ h => hF q h) (fun q h => hF q h) (fun u t H1 locs1 ht hvm hp hB h5 hk1 hS1 => ?_)
  obtain ⟨hP1, hD1⟩ := hB
  rw [ht] at hP1
  obtain ⟨hP2, hD2⟩ := va_join (wr := wr) (w1 := w2 u) hP hD isC isR hC hW hn hdis hk1 hF hP1 hD1
  exact kk u H1 locs1 hP2 hD2 hS1
theorem ix_I {y : MethodName} {nL n index maxL : Nat} {bytes : ByteArray} {wy Ts : List Cond} {rm : Room} {own : String} {b : Addr} {wc wr : va_W} {S : Type} {w2 : S → va_W}
    (Sx1 : CallFix p m c cc nL s args Ts own) (hP : va_P D vwCl ws H) (hE : ev D K s) (hA : ∀ q : Nat, s.heap.size ≤ q → A q) (hD : va_D A ws) (hS : va_S A s.heap H locs) (hXw : xw s) (hZ : xst dp fs A s s.heap) (isC isR : List Nat) (hC : isC.map (fun i => ws[i]?) = wc.map some) (hRr : isR.map (fun i => ws[i]?) = wr.map some) (hnd : va_nd isR = true) (hdis : ∀ i ∈ isR, i ∉ isC) (hPc : va_P D vwCl wc H) (hDc : va_D (fun _ => True) wc)
    (hM : Ix dp fs l y wy rm D K wc H.size [.ref b] w2 mc ms) (cw : CallB R s args own index y bytes maxL none wy rm mc ms n ∧ y.name = "<init>" ∧ (Cond.instanceMethod y).before args s = true) (hn : 0 = n) (hsize : ls.size = nL) (hW : (rest.map fun v => v.category).sum ≤ 8) (hdg : decode cc pc = .ok (.invokespecial index, 3)) (hf : cells + mc ≤ R.cells ∧ slots + ms ≤ R.slots)
    (kk : ∀ (a : S) (H1 : Heap) (locs1 : List Loc), va_P D vwCl (wr ++ w2 a) H1 → va_D A (wr ++ w2 a) → va_S A s.heap H1 locs1 → W p l e R s m args below meth c H1 locs1 (cells + mc) (slots + ms) Q (F0 m (pc + 3) ls rest)) : W p l e R s m args below meth c H locs cells slots Q (F0 m pc ls (.ref b :: rest)) :=
  ix_run (y := y) (va_runI (As := []) (rest := rest) Sx1 hM cw ⟨txP.blind, fun U hU hW => ⟨rfl, by rw [hU], by rw [hU]; exact hPc, hE.warm hW, hDc, hXw.warm hW, hZ.go hS hW hU (va_free hD hS hA isC hC)⟩⟩ rfl hn hsize rfl (lv_room hW) hdg hf) hA hP hD hS isC isR hC hRr hnd hdis kk
theorem ix_IN {y : MethodName} {nL n index maxL : Nat} {bytes : ByteArray} {wy Ts : List Cond} {rm : Room} {own host : String} {b : Addr} {wc wr : va_W} {S : Type} {w2 : S → va_W}
    (Sx1 : CallFix p m c cc nL s args Ts own) (hP : va_P D vwCl ws H) (hE : ev D K s) (hA : ∀ q : Nat, s.heap.size ≤ q → A q) (hD : va_D A ws) (hS : va_S A s.heap H locs) (hXw : xw s) (hZ : xst dp fs A s s.heap) (isC isR : List Nat) (hC : isC.map (fun i => ws[i]?) = wc.map some) (hRr : isR.map (fun i => ws[i]?) = wr.map some) (hnd : va_nd isR = true) (hdis : ∀ i ∈ isR, i ∉ isC) (hPc : va_P D vwCl wc H) (hDc : va_D (fun _ => True) wc)
    (hM : Ix dp fs l y wy rm D K wc H.size [.ref b] w2 mc ms) (cw : va_CN R s args own index y host bytes maxL none wy rm mc ms n ∧ y.name = "<init>" ∧ (Cond.instanceMethod y).before args s = true) (hn : 0 = n) (hsize : ls.size = nL) (hW : (rest.map fun v => v.category).sum ≤ 8) (hdg : decode cc pc = .ok (.invokespecial index, 3)) (hf : cells + mc ≤ R.cells ∧ slots + ms ≤ R.slots)
    (kk : ∀ (a : S) (H1 : Heap) (locs1 : List Loc), va_P D vwCl (wr ++ w2 a) H1 → va_D A (wr ++ w2 a) → va_S A s.heap H1 locs1 → W p l e R s m args below meth c H1 locs1 (cells + mc) (slots + ms) Q (F0 m (pc + 3) ls rest)) : W p l e R s m args below meth c H locs cells slots Q (F0 m pc ls (.ref b :: rest)) :=
  ix_run (y := y) (va_runIN (As := []) (rest := rest) Sx1 hM cw ⟨txP.blind, fun U hU hW => ⟨rfl, by rw [hU], by rw [hU]; exact hPc, hE.warm hW, hDc, hXw.warm hW, hZ.go hS hW hU (va_free hD hS hA isC hC)⟩⟩ rfl hn hsize rfl (lv_room hW) hdg hf) hA hP hD hS isC isR hC hRr hnd hdis kk
end INITS
