/-! from the entry -/
theorem nv_newl {p : Program} {l : Launch} {e : Env} {R : Room} {s : State} {m : MethodId} {args : Array Value} {below : List Frame} {meth : Method} {c : Code} {H H0 : Heap} {locs : List Loc} {cells slots : Nat} {Q : State → Prop} {cc : ByteArray} {pc : Nat} {ls : Array Slot} {rest : List Value} {D : va_G} {K : Nat → ClassId} {ws : va_W} {A : Nat → Prop} (hx : p.tables.exec = Jvm.exec) (hb : c.code = cc) (harr : (Cond.arrayClass .long).before args s = true) (hE : ev D K s) (hP : va_P D vwCl ws H) (hD : va_D A ws) (hS : va_S A H0 H locs) (hA : ∀ q : Nat, H0.size ≤ q → A q) {n : Nat} (hn : n ≤ 1000) (hR : cells + 1 ≤ R.cells ∧ slots + n ≤ R.slots) (hdg : decode cc pc = .ok (.newarray .long, 2))
    (kk : ∀ (q : Nat) (H1 : Heap), va_P D vwCl (ws ++ [(q, .inl (K 2, n, .inr (.inl (fun _ => 0))))]) H1 → va_D A (ws ++ [(q, .inl (K 2, n, .inr (.inl (fun _ => 0))))]) → va_S A H0 H1 locs → W p l e R s m args below meth c H1 locs (cells + 1) (slots + n) Q (F0 m (pc + 2) ls (.ref q :: rest))) : W p l e R s m args below meth c H locs cells slots Q (F0 m pc ls (.int (nI n) :: rest)) := by
  refine va_newa (atype := .long) (ty := .long) (tys := eT K) (N' := n) (a0 := (n, .inr (.inl (fun _ => 0)))) hx hb harr rfl hE.1 hP hD hS hA (fun cA => by rw [vp_cell_l]; rfl) (nI_pos (by omega)) (nI_clamp (by omega)) (by show n * 8 ≤ _; omega) hR.1 hR.2 hdg (fun q cA H1 hK1 h1 h2 h3 => ?_)
  have e1 : s.vm.findClass "[J" = some cA := va_nm_long (hK1.2 3 (cA, .long) rfl).2
  have e2 : s.vm.findClass "[J" = some (K 2) := va_nm_long (hE.1.2 2 (K 2, .long) rfl).2
  have e3 : cA = K 2 := Option.some.inj (e1.symm.trans e2)
  subst e3
  exact kk q H1 h1 h2 h3
theorem ev_start {args : Array Value} {s : State} (hts : ∀ w ∈ lw_tbl, w.before args s = true) : ∃ (D : va_G) (K : Nat → ClassId), ev D K s := by
  obtain ⟨c0, i0, h0⟩ := u_known (C := RX0) (T := TX0) (N := 2) (n := 2) hts inX0 (tw_at hts (i := 99) (by decide +kernel))
  obtain ⟨c1, i1, h1⟩ := u_known (C := RX1) (T := TX1) (N := 12) (n := 12) hts inX1 (tw_at hts (i := 25) (by decide +kernel))
  obtain ⟨c2, i2, h2⟩ := u_known (C := RX2) (T := TX2) (N := 3) (n := 3) hts inX2 (tw_at hts (i := 114) (by decide +kernel))
  obtain ⟨c3, i3, h3⟩ := u_known (C := RX3) (T := TX3) (N := 5) (n := 5) hts inX3 (tw_at hts (i := 17) (by decide +kernel))
  obtain ⟨c4, i4, h4⟩ := u_known (C := RX4) (T := TX4) (N := 13) (n := 13) hts inX4 (tw_at hts (i := 714) (by decide +kernel))
  obtain ⟨k0, a0, b0⟩ := arr_cls (ty := .int) (tw_at hts (i := 96) (by decide +kernel)) (fun C h => by cases h)
  obtain ⟨k1, a1, b1⟩ := arr_obj (C := "TramTolls$Town") (tw_at hts (i := 97) (by decide +kernel))
  obtain ⟨k2, a2, b2⟩ := arr_cls (ty := .long) (tw_at hts (i := 1063) (by decide +kernel)) (fun C h => by cases h)
  refine ⟨(fun k => if k = 0 then c0 else if k = 1 then c1 else if k = 2 then c2 else if k = 3 then c3 else c4, fun k => if k = 0 then i0 else if k = 1 then i1 else if k = 2 then i2 else if k = 3 then i3 else i4), fun k => if k = 0 then k0 else if k = 1 then k1 else k2, ⟨fun k q hq => ?_, fun k q hq => ?_⟩, nw_start hts⟩
  · match k, hq with
    | 0, hq => cases hq; exact h0
    | 1, hq => cases hq; exact h1
    | 2, hq => cases hq; exact h2
    | 3, hq => cases hq; exact h3
    | 4, hq => cases hq; exact h4
    | k + 5, hq => simp [vwCl] at hq
  · match k, hq with
    | 0, hq => cases hq; exact ⟨a0, b0⟩
    | 1, hq => cases hq; exact ⟨a1, b1⟩
    | 2, hq => cases hq; exact ⟨a2, b2⟩
    | k + 3, hq => simp [eT] at hq
theorem LI.start : LI T0 (fun _ => 0) 0 0 (fun _ => T0) (fun _ => 0) := ⟨Inv.start, HK.start, CB.zero _, by decide, fun j h => absurd h (Nat.not_lt_zero j), fun j h => absurd h (Nat.not_lt_zero j), fun j h => absurd h (Nat.not_lt_zero j)⟩
theorem nd_range : ∀ (n a : Nat), va_nd (List.range' a n) = true
  | 0, a => rfl
  | n + 1, a => by
    rw [List.range'_succ]
    have ih := nd_range n (a + 1)
    unfold va_nd
    rw [ih, Bool.and_true]
    have : a ∉ List.range' (a + 1) n := fun h => by have := (List.mem_range'_1.mp h).1; omega
    simp [this]
theorem map_range {x : Nat × va_E} {ws : va_W} : (List.range' 1 ws.length).map (fun i => (x :: ws)[i]?) = ws.map some := by
  apply List.ext_getElem?
  intro i
  rw [List.getElem?_map, List.getElem?_map]
  rcases Nat.lt_or_ge i ws.length with h | h
  · rw [List.getElem?_range' h, List.getElem?_eq_getElem h]
    show some ((x :: ws)[1 + 1 * i]?) = some (some ws[i])
    rw [show 1 + 1 * i = i + 1 from by omega, List.getElem?_cons_succ, List.getElem?_eq_getElem h]
  · rw [List.getElem?_eq_none (by rw [List.length_range']; exact h), List.getElem?_eq_none h]
    rfl
set_option maxHeartbeats 4000000 in
set_option maxRecDepth 100000 in
/-- the reference's constructor is called -/
theorem W4 {p : Program} (l : Launch) {e : Env} {s : State} {m : MethodId} {args : Array Value} {below : List Frame} {meth : Method} {c : Code} {H : Heap} {locs : List Loc} {cells slots : Nat} {Q : State → Prop} {ls : Array Slot} {D : va_G} {K : Nat → ClassId} {A : Nat → Prop} {dp fs q2 : Nat} {ws : va_W} (hx : p.tables.exec = Jvm.exec) (hb : c.code = cL_law) (hml : c.maxLocals = 9) (hown : s.vm.findClass RL = some m.cls) (hts9 : ∀ w ∈ wsL_law, w.before args s = true) (hP : va_P D vwCl ((q2, .inr (4, [.int 0, .null, .null, .int 0, .null, .int 0, .null, .int 0, .int 0, .int 0, .null, .int 0, .long 0])) :: ws) H) (hE : ev D K s) (hA : ∀ q : Nat, s.heap.size ≤ q → A q) (hD : va_D A ((q2, .inr (4, [.int 0, .null, .null, .int 0, .null, .int 0, .null, .int 0, .int 0, .int 0, .null, .int 0, .long 0])) :: ws)) (hS : va_S A s.heap H locs) (hXw : xw s) (hZ : xst dp fs A s s.heap) (hls : ls.size = 9) (hf : cells + 5 ≤ 601024 ∧ slots + 2252 ≤ 7293034)
    (kk : ∀ (r : Nat → Nat) (H1 : Heap) (locs1 : List Loc), va_P D vwCl (ws ++ rfW K (at0 q2 r) (nI 0) (nI 0) 0 0 0 0 0 0 T0 (fun _ => 0) (fun _ => 0) (fun _ => 0) (fun _ => 0) []) H1 → va_D A (ws ++ rfW K (at0 q2 r) (nI 0) (nI 0) 0 0 0 0 0 0 T0 (fun _ => 0) (fun _ => 0) (fun _ => 0) (fun _ => 0) []) → va_S A s.heap H1 locs1 → W p l e room_1 s m args below meth c H1 locs1 (cells + 5) (slots + 2252) Q (F0 m 15 ls [.ref q2])) : W p l e room_1 s m args below meth c H locs cells slots Q (F0 m 12 ls [.ref q2, .ref q2]) := by
  have hPc := hP.sub (ws' := [(q2, .inr (4, [.int 0, .null, .null, .int 0, .null, .int 0, .null, .int 0, .int 0, .int 0, .null, .int 0, .long 0]))]) [0] rfl
  have hDc := hD.sub (ws' := [(q2, .inr (4, [.int 0, .null, .null, .int 0, .null, .int 0, .null, .int 0, .int 0, .int 0, .null, .int 0, .long 0]))]) [0] (by decide) rfl
  refine ix_I (rest := [.ref q2]) (wc := [(q2, .inr (4, [.int 0, .null, .null, .int 0, .null, .int 0, .null, .int 0, .int 0, .int 0, .null, .int 0, .long 0]))]) (wr := ws) (y := yX4_init) ⟨hx, hb, hml, hown, hts9⟩ hP hE hA hD hS hXw hZ [0] (List.range' 1 ws.length) rfl map_range (nd_range _ _) (fun i hi h => by
    have h1 := (List.mem_range'_1.mp hi).1
    rw [List.mem_singleton] at h
    omega) hPc (hDc.weaken (fun _ _ _ _ => trivial)) (c_X4_init l D K dp fs _ q2) (cwI 0 hts9 gL_law_X4_init rfl rfl rfl (hts9 _ (List.mem_of_getElem? (i := 5) rfl)) (hts9 _ (List.mem_of_getElem? (i := 61) rfl)) (hts9 _ (List.mem_of_getElem? (i := 62) rfl)) rfl (by decide +kernel) ⟨Nat.le_of_ble_eq_true rfl, Nat.le_of_ble_eq_true rfl⟩) rfl hls (Nat.le_of_ble_eq_true rfl) dL_law_12 ⟨hf.1, hf.2⟩ (fun r H locs hP hD hS => ?_)
  exact kk r H locs hP hD hS
set_option maxHeartbeats 4000000 in
set_option maxRecDepth 100000 in
theorem whole_start {p : Program} {e : Env} {s : State} {m : MethodId} {below : List Frame} {meth : Method} {c : Code} (l : Launch) (hflags : l.flags = flags0) {b L : Nat} {xs : Nat → Int32} (hL : L ≤ 2048) (C0 : lw_At p s m meth c b L xs) : W p l e room_1 s m #[Value.ref b] below meth c s.heap [] 0 0 (lw_Z below #[Value.ref b] s) (entryFrame m ([Value.ref b] : List Value).toArray 9) := by
  obtain ⟨hx, hb, hr, hml, hown, hts, hX, hbl, hlocks, hgv⟩ := id C0
  have hst : l.stackTraces = false := by
    unfold Launch.stackTraces
    rw [hflags]
    decide
  have hA : ∀ q : Nat, s.heap.size ≤ q → (fun q : Nat => s.heap.size ≤ q) q := fun _ h => h
  have hbA : ¬ (fun q : Nat => s.heap.size ≤ q) b := Nat.not_le.mpr hbl
  obtain ⟨D, K, hE⟩ := ev_start hts
  obtain ⟨dp, fs, hZ⟩ := st_start hts hgv
  have hXw := xw_start hts
  have hxn := xn_start hgv
  have hts9 : ∀ w ∈ wsL_law, w.before #[Value.ref b] s = true := fun w h => hts w (wsL_law_in w h)
  have hS : va_S (fun q : Nat => s.heap.size ≤ q) s.heap s.heap [] := va_S.rf
  have hP : va_P D vwCl [] s.heap := fun k q h => by simp at h
  have hD : va_D (fun q : Nat => s.heap.size ≤ q) [] := ⟨fun i j p q h => by simp at h, fun k q h => by simp at h⟩
  have hl := lv_entry ([.ref b]) (n := 9) (Nat.le_of_ble_eq_true rfl)
  rw [lg_entry_eq]
  generalize (lg_sl ([.ref b]) ++ List.replicate (9 - (lg_sl ([.ref b])).length) Slot.unset).toArray = ls at hl ⊢
  have hl : lv_has ls 9 [(0, .ref b)] := hl
  have hown : s.vm.findClass RL = some m.cls := hown
  refine va_new (ci := 3) (fs := [.null, .null, .int 0, .null, .null]) (C := RX3) (T := TX3) (N := 5) hx hb hts inX3 tyX3 tyX3_ok hown (hts9 _ (List.mem_of_getElem? (i := 0) rfl)) (tw_at hts (i := 17) (by decide +kernel)) (hts9 _ (List.mem_of_getElem? (i := 2) rfl)) hE.1 hP hD hS hA rfl (fun j hj => by rcases (show j = 0 ∨ j = 1 ∨ j = 2 ∨ j = 3 ∨ j = 4 by omega) with rfl | rfl | rfl | rfl | rfl <;> rfl) (Nat.le_of_ble_eq_true rfl) (Nat.le_of_ble_eq_true rfl) dL_law_0 (fun q1 H hP hD hS => ?_)
  have hP : va_P D vwCl [(q1, .inr (3, [.null, .null, .int 0, .null, .null]))] H := hP
  have hD : va_D (fun q : Nat => s.heap.size ≤ q) [(q1, .inr (3, [.null, .null, .int 0, .null, .null]))] := hD
  refine lv_dup hx hb dL_law_3 rfl ?_
  refine ix_I (rest := [.ref q1]) (wc := [(q1, .inr (3, [.null, .null, .int 0, .null, .null]))]) (wr := []) (y := yX3_init) ⟨hx, hb, hml, hown, hts9⟩ hP hE hA hD hS hXw hZ [0] [] rfl rfl (by decide) (by decide) hP (hD.weaken (fun _ _ _ _ => trivial)) (c_X3_init l D K dp fs _ q1) (cwI 0 hts9 gL_law_X3_init rfl rfl rfl (hts9 _ (List.mem_of_getElem? (i := 2) rfl)) (hts9 _ (List.mem_of_getElem? (i := 7) rfl)) (hts9 _ (List.mem_of_getElem? (i := 8) rfl)) rfl (by decide +kernel) ⟨Nat.le_of_ble_eq_true rfl, Nat.le_of_ble_eq_true rfl⟩) rfl hl.1 (Nat.le_of_ble_eq_true rfl) dL_law_4 ⟨Nat.le_of_ble_eq_true rfl, Nat.le_of_ble_eq_true rfl⟩ (fun u H locs hP hD hS => ?_)
  have hP : va_P D vwCl (cW K u.1 u.2.1 u.2.2.1 (at0 q1 (fun _ => u.2.2.2.1)) u.2.2.2.2 T0 (fun _ => some 0) (fun _ => 0) 0 (fun _ => 0) 0 0 (fun _ => T0) []) H := hP
  have hD : va_D (fun q : Nat => s.heap.size ≤ q) (cW K u.1 u.2.1 u.2.2.1 (at0 q1 (fun _ => u.2.2.2.1)) u.2.2.2.2 T0 (fun _ => some 0) (fun _ => 0) 0 (fun _ => 0) 0 0 (fun _ => T0) []) := hD
  refine lv_astore_n (lv' := [(1, .ref q1), (0, .ref b)]) hx hb dL_law_7 rfl hl (by decide) rfl (fun ls hl => ?_)
  refine va_new (ci := 4) (fs := [.int 0, .null, .null, .int 0, .null, .int 0, .null, .int 0, .int 0, .int 0, .null, .int 0, .long 0]) (C := RX4) (T := TX4) (N := 13) hx hb hts inX4 tyX4 tyX4_ok hown (hts9 _ (List.mem_of_getElem? (i := 3) rfl)) (tw_at hts (i := 714) (by decide +kernel)) (hts9 _ (List.mem_of_getElem? (i := 5) rfl)) hE.1 hP hD hS hA rfl (fun j hj => by rcases (show j = 0 ∨ j = 1 ∨ j = 2 ∨ j = 3 ∨ j = 4 ∨ j = 5 ∨ j = 6 ∨ j = 7 ∨ j = 8 ∨ j = 9 ∨ j = 10 ∨ j = 11 ∨ j = 12 by omega) with rfl | rfl | rfl | rfl | rfl | rfl | rfl | rfl | rfl | rfl | rfl | rfl | rfl <;> rfl) (Nat.le_of_ble_eq_true rfl) (Nat.le_of_ble_eq_true rfl) dL_law_8 (fun q2 H hP hD hS => ?_)
  have hP := hP.perm List.perm_append_comm
  have hD := hD.perm List.perm_append_comm
  refine lv_dup hx hb dL_law_11 rfl ?_
  refine W4 l hx hb hml hown hts9 hP hE hA hD hS hXw hZ hl.1 ⟨Nat.le_of_ble_eq_true rfl, Nat.le_of_ble_eq_true rfl⟩ ?_
  intro r H locs hP hD hS
  refine lv_astore_n (lv' := [(2, .ref q2), (1, .ref q1), (0, .ref b)]) hx hb dL_law_15 rfl hl (by decide) rfl (fun ls hl => ?_)
  refine lv_iconst (v := nI 1) hx hb dL_law_16 (by decide) ?_
  refine nv_newl (n := 1) hx hb (tw_at hts (i := 1063) (by decide +kernel)) hE hP hD hS hA (by decide) ⟨Nat.le_of_ble_eq_true rfl, Nat.le_of_ble_eq_true rfl⟩ dL_law_17 (fun o H hP hD hS => ?_)
  have pm : ((cW K u.1 u.2.1 u.2.2.1 (at0 q1 (fun _ => u.2.2.2.1)) u.2.2.2.2 T0 (fun _ => some 0) (fun _ => 0) 0 (fun _ => 0) 0 0 (fun _ => T0) [] ++ rfW K (at0 q2 r) (nI 0) (nI 0) 0 0 0 0 0 0 T0 (fun _ => 0) (fun _ => 0) (fun _ => 0) (fun _ => 0) []) ++ [oC K o (fun _ => 0)]).Perm (cW K u.1 u.2.1 u.2.2.1 (at0 q1 (fun _ => u.2.2.2.1)) u.2.2.2.2 T0 (fun _ => some 0) (fun _ => 0) 0 (fun _ => 0) 0 0 (fun _ => T0) (oC K o (fun _ => 0) :: rfW K (at0 q2 r) (nI 0) (nI 0) 0 0 0 0 0 0 T0 (fun _ => 0) (fun _ => 0) (fun _ => 0) (fun _ => 0) [])) := by
    have e : cW K u.1 u.2.1 u.2.2.1 (at0 q1 (fun _ => u.2.2.2.1)) u.2.2.2.2 T0 (fun _ => some 0) (fun _ => 0) 0 (fun _ => 0) 0 0 (fun _ => T0) (oC K o (fun _ => 0) :: rfW K (at0 q2 r) (nI 0) (nI 0) 0 0 0 0 0 0 T0 (fun _ => 0) (fun _ => 0) (fun _ => 0) (fun _ => 0) []) = cW K u.1 u.2.1 u.2.2.1 (at0 q1 (fun _ => u.2.2.2.1)) u.2.2.2.2 T0 (fun _ => some 0) (fun _ => 0) 0 (fun _ => 0) 0 0 (fun _ => T0) [] ++ ([oC K o (fun _ => 0)] ++ rfW K (at0 q2 r) (nI 0) (nI 0) 0 0 0 0 0 0 T0 (fun _ => 0) (fun _ => 0) (fun _ => 0) (fun _ => 0) []) := cW_app K u.1 u.2.1 u.2.2.1 (at0 q1 (fun _ => u.2.2.2.1)) u.2.2.2.2 T0 (fun _ => some 0) (fun _ => 0) 0 (fun _ => 0) 0 0 (fun _ => T0) [] _
    rw [e, List.append_assoc]
    exact List.Perm.append_left _ List.perm_append_comm
  have hP := hP.perm pm
  have hD := hD.perm pm
  refine lv_astore_n (lv' := [(3, .ref o), (2, .ref q2), (1, .ref q1), (0, .ref b)]) hx hb dL_law_19 rfl hl (by decide) rfl (fun ls hl => ?_)
  refine lv_iconst (v := nI 0) hx hb dL_law_20 (by decide) ?_
  refine lv_istore (lv' := [(4, .int (nI 0)), (3, .ref o), (2, .ref q2), (1, .ref q1), (0, .ref b)]) hx hb dL_law_21 hl (by decide) rfl (fun ls hl => ?_)
  refine W.widen (k := 200 + 0) (n := 10000 + 6 * 0) (Nat.le_of_ble_eq_true rfl) (Nat.le_of_ble_eq_true rfl) ?_
  exact law_loop (a := u.1) (b := u.2.1) (t := u.2.2.1) (c := at0 q1 (fun _ => u.2.2.2.1)) (r := at0 q2 r) (o := o) (l := l) hx hb hml hts9 hown hst hE hXw hxn hZ hA hX hbl hbA hL (fun cells slots H locs ls hS hc1 hc2 => by
    refine va_forget (fun q hq => hS.2.2 q hq) ?_
    refine W.widen (k := 601024) (n := 7293034) hc1 hc2 ?_
    exact lw_ret (d0 := s.drawn) (Drawn.sameBut.refl s.drawn lw_cs) hx hb hr hlocks dL_law_1557) (L + 1) 0 (by omega) (by omega) _ _ _ _ _ _ _ _ _ _ _ _ _ _ _ _ _ _ _ LI.start H locs ls hP hD hS (lv_sub hl [0, 4, 3, 2, 1] rfl)
