/-! constructors: rows -/
def ixQ (D : va_G) (ws : va_W) (sz : Nat) (w2 : (Nat → Nat) → va_W) : Array Value → State → Outcome → State → Prop := va_Qv (fun (_ : Nat → Nat) => True) (fun a t => va_P D vwCl (w2 a) t.heap ∧ va_D (va_A ws sz) (w2 a)) (va_A ws sz)
abbrev Ix (dp fs : Nat) (l : Launch) (y : MethodName) (wy : List Cond) (rm : Room) (D : va_G) (K : Nat → ClassId) (ws : va_W) (sz : Nat) (av : List Value) (w2 : (Nat → Nat) → va_W) (mc ms : Nat) : Prop := Met l y wy rm (txP dp fs D K ws sz av) (ixQ D ws sz w2) mc ms (va_A ws sz)
section INITS
variable {p : Program} {l : Launch} {e : Env} {R : Room} {s : State} {m : MethodId} {args : Array Value} {below : List Frame} {meth : Method} {c : Code} {H H0 : Heap} {locs : List Loc} {cells slots : Nat} {Q : State → Prop} {cc : ByteArray} {pc : Nat} {ls : Array Slot} {rest : List Value} {D : va_G} {K : Nat → ClassId} {ws : va_W} {sz mc ms dp fs : Nat} {A : Nat → Prop}
theorem ix_intro {y : MethodName} {wy wy' : List Cond} {rm : Room} {av : List Value} {w2 : (Nat → Nat) → va_W} {maxL : Nat} {ret : Option FieldType} (hy : plainName y.cls = true) (hw : wy = Cond.code y cc maxL ret :: wy') (hL : (lg_sl av).length ≤ maxL)
    (body : ∀ (p : Program) (e : Env) (s : State) (m : MethodId) (args : Array Value) (below : List Frame) (meth : Method) (c : Code) (A : Nat → Prop), p.tables.exec = Jvm.exec → c.code = cc → c.maxLocals = maxL → meth.sig.returnType = ret → (∀ w ∈ wy, w.before args s = true) → s.vm.findClass y.cls = some m.cls → meth.locks = false → s.heap.size = sz → A = va_A ws sz → va_P D vwCl ws s.heap → ev D K s → va_D A ws → va_S A s.heap s.heap [] → (∀ q : Nat, s.heap.size ≤ q → A q) → (y.name = "<init>" → meth.name = "<init>") → xw s → xst dp fs A s s.heap → ∀ ls : Array Slot, lv_has ls maxL (lv_args 0 av) →
      W p l e (headSpec wy rm).room s m args below meth c s.heap [] 0 0 (MQ below (ixQ D ws sz w2) args s mc ms A) (F0 m 0 ls [])) : Ix dp fs l y wy rm D K ws sz av w2 mc ms := by
  refine Met.ofW (cc := cc) (maxL := maxL) (ret := ret) hy hw ?_
  intro p e s m args below meth c s₁ B hml hv
  obtain ⟨rfl, hsz, hP, hE, hD0, hXw, hZ⟩ := hv
  have hl := lv_entry av hL
  rw [lg_entry_eq]
  subst hsz
  exact body p e s m _ below meth c _ B.exec B.bytes hml B.returns (atoms_spec (ws := wy) B.pre) (findClass_of_methodNamed B.named) B.notSynchronized rfl rfl hP hE hD0.self va_S.rf (fun q h => Or.inr h) (fun h => by rw [← h]; exact (name_of_methodNamed B.named B.method).1) hXw hZ _ hl
theorem ix_vret {w2 : (Nat → Nat) → va_W} (a : Nat → Nat) (hA : A = va_A ws sz) (hP : va_P D vwCl (w2 a) H) (hD : va_D A (w2 a)) (hS : va_S A s.heap H locs) (hx : p.tables.exec = Jvm.exec) (hb : c.code = cc) (hr : meth.sig.returnType = none) (hk : meth.locks = false) (hdg : decode cc pc = .ok (.return_, 1)) (hc : cells ≤ mc ∧ slots ≤ ms) : W p l e R s m args below meth c H locs cells slots (MQ below (ixQ D ws sz w2) args s mc ms A) (F0 m pc ls []) := by
  subst hA
  refine W.widen (k := mc) (n := ms) hc.1 hc.2 ?_
  exact W.vret hx hb hr (fun t ht hW => ⟨⟨a, rfl, trivial, ⟨by rw [ht]; exact hP, hD⟩⟩, hS.F ht⟩) hS.2.2 hdg hk
theorem K0_is (hE : ev D K s) : s.vm.findClass "[I" = some (K 0) := va_nm_int (hE.1.2 0 (K 0, .int) rfl).2
theorem nv_newa (hx : p.tables.exec = Jvm.exec) (hb : c.code = cc) (harr : (Cond.arrayClass .int).before args s = true) (hE : ev D K s) (hP : va_P D vwCl ws H) (hD : va_D A ws) (hS : va_S A H0 H locs) (hA : ∀ q : Nat, H0.size ≤ q → A q) {n : Nat} (hn : n ≤ 100000) (hR : cells + 1 ≤ R.cells ∧ slots + n ≤ R.slots) (hdg : decode cc pc = .ok (.newarray .int, 2))
    (kk : ∀ (q : Nat) (H1 : Heap), va_P D vwCl (ws ++ [(q, .inl (K 0, n, .inl (fun _ => 0)))]) H1 → va_D A (ws ++ [(q, .inl (K 0, n, .inl (fun _ => 0)))]) → va_S A H0 H1 locs → W p l e R s m args below meth c H1 locs (cells + 1) (slots + n) Q (F0 m (pc + 2) ls (.ref q :: rest))) : W p l e R s m args below meth c H locs cells slots Q (F0 m pc ls (.int (nI n) :: rest)) := by
  refine va_newa (atype := .int) (ty := .int) (tys := eT K) (N' := n) (a0 := (n, .inl (fun _ => 0))) hx hb harr rfl hE.1 hP hD hS hA (fun cA => by rw [vp_cell_i]; rfl) (nI_pos (by omega)) (nI_clamp (by omega)) (by show n * 4 ≤ _; omega) hR.1 hR.2 hdg (fun q cA H1 hK1 h1 h2 h3 => ?_)
  have e1 : s.vm.findClass "[I" = some cA := va_nm_int (hK1.2 3 (cA, .int) rfl).2
  have e2 : cA = K 0 := Option.some.inj (e1.symm.trans (K0_is hE))
  subst e2
  exact kk q H1 h1 h2 h3
theorem cell_of {cell : Cell} {N : Nat} {f : Nat → Int32} {k : ClassId} (hc : cell.cls = k) (hs : cell.slots.size = N) (hv : ∀ j : Nat, j < N → cell.slots[j]? = some (.int (f j))) : ({ cls := cell.cls, slots := cell.slots } : Cell) = vp_cell k (N, .inl f) := by
  rw [vp_cell_i]
  have hsz : (arrV k N (fun j => .int (f j))).slots.size = N := arrV_size _ _ _
  have hsl : cell.slots = (arrV k N (fun j => .int (f j))).slots := by
    apply Array.ext_getElem?
    intro i
    rcases Nat.lt_or_ge i N with q | q
    · rw [hv i q]
      exact (arrV_get k N (fun j => .int (f j)) i q).symm
    · rw [Array.getElem?_eq_none (by omega), Array.getElem?_eq_none (by omega)]
  rw [hc, hsl]
  rfl
end INITS
