theorem hd_J7_fill_53178 : yJ7_fill_53178.cls = RJ7 ∧ yJ7_fill_53178.cls ≠ "java/lang/invoke/MethodHandle" ∧ yJ7_fill_53178.cls ≠ "java/lang/invoke/VarHandle" ∧ (parseMethodDescriptor yJ7_fill_53178.desc).map (fun d => d.parameters.length) = some 2 := by decide +kernel
theorem hn_J7_fill_53178 : yJ7_fill_53178.cls ≠ "java/lang/invoke/MethodHandle" ∧ yJ7_fill_53178.cls ≠ "java/lang/invoke/VarHandle" ∧ (parseMethodDescriptor yJ7_fill_53178.desc).map (fun d => d.parameters.length) = some 2 := hd_J7_fill_53178.2
theorem hd_X2_clearLengths : yX2_clearLengths.cls = RX2 ∧ yX2_clearLengths.cls ≠ "java/lang/invoke/MethodHandle" ∧ yX2_clearLengths.cls ≠ "java/lang/invoke/VarHandle" ∧ (parseMethodDescriptor yX2_clearLengths.desc).map (fun d => d.parameters.length) = some 0 := by decide +kernel
theorem hn_X2_clearLengths : yX2_clearLengths.cls ≠ "java/lang/invoke/MethodHandle" ∧ yX2_clearLengths.cls ≠ "java/lang/invoke/VarHandle" ∧ (parseMethodDescriptor yX2_clearLengths.desc).map (fun d => d.parameters.length) = some 0 := hd_X2_clearLengths.2
theorem hd_X2_enqueue : yX2_enqueue.cls = RX2 ∧ yX2_enqueue.cls ≠ "java/lang/invoke/MethodHandle" ∧ yX2_enqueue.cls ≠ "java/lang/invoke/VarHandle" ∧ (parseMethodDescriptor yX2_enqueue.desc).map (fun d => d.parameters.length) = some 2 := by decide +kernel
theorem hn_X2_enqueue : yX2_enqueue.cls ≠ "java/lang/invoke/MethodHandle" ∧ yX2_enqueue.cls ≠ "java/lang/invoke/VarHandle" ∧ (parseMethodDescriptor yX2_enqueue.desc).map (fun d => d.parameters.length) = some 2 := hd_X2_enqueue.2
set_option maxHeartbeats 4000000 in
set_option maxRecDepth 100000 in
theorem c_J7_fill_53178 (l : Launch) (D : va_G) (K : Nat → ClassId) (sz : Nat) (ws : va_W) (q0 h n : Nat) (f : Nat → Int32) (v : Int32) (hq : ws[q0]? = some (h, .inl (K 0, n, .inl f))) (hn : n < 2 ^ 31) : Wr l yJ7_fill_53178 wsJ7_fill_53178 ({ frames := 1, cells := 0, slots := 0, locals := 12 } : Room) D K (ws) sz [.ref h, .int v] (ws.set q0 (h, .inl (K 0, n, .inl (fun _ => v)))) none 0 0 := by
  refine wr_intro (cc := cJ7_fill_53178) (maxL := 4) (ret := none) (by decide) rfl (Nat.le_of_ble_eq_true rfl) ?_
  intro pr en st md ar bl mt co A hx hb hml hr hts hown hk hsz hAe hP hE hD hS hA hin ls hl
  have hown : st.vm.findClass RJ7 = some md.cls := hown
  have hl : lv_has ls 4 [(0, .ref h), (1, .int v)] := hl
  obtain ⟨H, hH⟩ : ∃ z, z = st.heap := ⟨_, rfl⟩
  obtain ⟨locs, hlo⟩ : ∃ z : List Loc, z = [] := ⟨_, rfl⟩
  have hP : va_P D vwCl (ws) H := by rw [hH]; exact hP
  have hS : va_S A st.heap H locs := by rw [hH, hlo]; exact hS
  suffices go : W pr l en (headSpec wsJ7_fill_53178 ({ frames := 1, cells := 0, slots := 0, locals := 12 } : Room)).room st md ar bl mt co H locs 0 0 (MQ bl (wrQ D (ws) (ws.set q0 (h, .inl (K 0, n, .inl (fun _ => v)))) sz none) ar st 0 0 A) (F0 md 0 ls []) by rw [hH, hlo] at go; exact go
  clear hH hlo
  refine lv_iconst (v := nI 0) hx hb dJ7_fill_53178_0 (by decide) ?_
  refine lv_istore_n (lv' := [(2, .int (nI 0)), (0, .ref h), (1, .int v)]) hx hb dJ7_fill_53178_1 rfl hl (by decide) rfl (fun ls hl => ?_)
  refine lv_aload_n hx hb dJ7_fill_53178_2 rfl (lv_at hl 1 rfl) ?_
  refine va_alen (v := nI n) hx hb hE.1 hP q0 0 hq rfl rfl dJ7_fill_53178_3 ?_
  refine lv_istore_n (lv' := [(3, .int (nI n)), (2, .int (nI 0)), (0, .ref h), (1, .int v)]) hx hb dJ7_fill_53178_4 rfl hl (by decide) rfl (fun ls hl => ?_)
  have loop_1 : ∀ (n_5 : Nat) (i : Nat), (i ≤ n) → (n - i) < n_5 → ∀ (H : Heap) (locs : List Loc), va_P D vwCl (ws.set q0 (h, .inl (K 0, n, .inl (fun j => if j < i then v else f j)))) H → va_D A (ws.set q0 (h, .inl (K 0, n, .inl (fun j => if j < i then v else f j)))) → va_S A st.heap H locs →  ∀ x_2 : Int32, x_2 = nI i → ∀ ls : Array Slot, lv_has ls 4 [(0, .ref h), (1, .int v), (2, .int x_2), (3, .int (nI n))] → W pr l en (headSpec wsJ7_fill_53178 ({ frames := 1, cells := 0, slots := 0, locals := 12 } : Room)).room st md ar bl mt co H locs 0 0 (MQ bl (wrQ D (ws) (ws.set q0 (h, .inl (K 0, n, .inl (fun _ => v)))) sz none) ar st 0 0 A) (F0 md 5 ls []) := by
    intro n_5
    induction n_5 with
    | zero => intro i _ hn_5; exact absurd hn_5 (Nat.not_lt_zero _)
    | succ n_5 ih_5 =>
      intro i hi hn_5 H locs hP hD hS x_2 ex_2 ls hl
      subst ex_2
      have hl : lv_has ls 4 [(0, .ref h), (1, .int v), (2, .int (nI i)), (3, .int (nI n))] := hl
      refine lv_iload_n hx hb dJ7_fill_53178_5 rfl (lv_at hl 2 rfl) ?_
      refine lv_iload_n hx hb dJ7_fill_53178_6 rfl (lv_at hl 3 rfl) ?_
      refine nv_icmp_ge (x := i) (y := n) (tgt := 20) hx hb dJ7_fill_53178_7 (by decide) (by omega) (by omega) (fun c_2 => ?_) (fun c_2 => ?_)
      · have n_c_2 := Nat.not_lt.mpr c_2
        have e9 : i = n := by omega
        rw [e9] at hP hD
        have hP := va_P.cong hP (g := fun _ => v) (fun j hj => if_pos hj)
        have hD := va_D.cong hD (e2 := .inl (K 0, n, .inl (fun _ => v)))
        exact wr_vret hAe hP hD hS hx hb hr hk dJ7_fill_53178_20 ⟨Nat.le_of_ble_eq_true rfl, Nat.le_of_ble_eq_true rfl⟩
      · have n_c_2 := Nat.not_le.mpr c_2
        refine lv_aload_n hx hb dJ7_fill_53178_10 rfl (lv_at hl 0 rfl) ?_
        refine lv_iload_n hx hb dJ7_fill_53178_11 rfl (lv_at hl 2 rfl) ?_
        refine lv_iload_n hx hb dJ7_fill_53178_12 rfl (lv_at hl 1 rfl) ?_
        refine va_iast hx hb hE.1 hP hD hS q0 0 (set_get hq) rfl (pk_in i n (by omega)) dJ7_fill_53178_13 (fun H locs hP hD hS => ?_)
        rw [pk_cl i] at hP hD
        rw [set_set, fill_up] at hP hD
        have hP : va_P D vwCl (ws.set q0 (h, .inl (K 0, n, .inl (fun j => if j < i + 1 then v else f j)))) H := hP
        have hD : va_D A (ws.set q0 (h, .inl (K 0, n, .inl (fun j => if j < i + 1 then v else f j)))) := hD
        refine lv_iinc (v := nI (i + 1)) (lv' := [(2, .int (nI (i + 1))), (0, .ref h), (1, .int v), (3, .int (nI n))]) hx hb dJ7_fill_53178_14 hl (k := 2) rfl (nI_add _ 1) (by decide) rfl (fun ls hl => ?_)
        refine lv_goto (tgt := 5) hx hb dJ7_fill_53178_17 (by decide) ?_
        exact ih_5 (i + 1) (by omega) (by omega) _ _ hP hD hS _ rfl ls (lv_sub hl [1, 2, 0, 3] rfl)
  have e0 : ws = ws.set q0 (h, .inl (K 0, n, .inl (fun j => if j < 0 then v else f j))) := (set_self (by rw [hq]; congr 4)).symm
  rw [e0] at hP hD
  exact loop_1 _ 0 (Nat.zero_le _) (Nat.lt_succ_self _) _ _ hP hD hS _ rfl ls (lv_sub hl [2, 3, 1, 0] rfl)
set_option maxHeartbeats 4000000 in
set_option maxRecDepth 100000 in
theorem c_X2_clearLengths (l : Launch) (D : va_G) (K : Nat → ClassId) (sz : Nat) (a b : Nat → Nat) (T : TW) (X : va_W) (len : Nat → Option Nat) (qu : Nat → Nat) (n : Nat) : Wr l yX2_clearLengths wsX2_clearLengths ({ frames := 2, cells := 0, slots := 0, locals := 35 } : Room) D K (townW K a T ++ (waysW K b len qu n ++ X)) sz [.ref (b 0)] (townW K a T ++ (waysW K b (fun _ => none) qu 0 ++ X)) none 0 0 := by
  refine wr_intro (cc := cX2_clearLengths) (maxL := 1) (ret := none) (by decide) rfl (Nat.le_of_ble_eq_true rfl) ?_
  intro pr en st md ar bl mt co A hx hb hml hr hts hown hk hsz hAe hP hE hD hS hA hin ls hl
  have hown : st.vm.findClass RX2 = some md.cls := hown
  have hl : lv_has ls 1 [(0, .ref (b 0))] := hl
  obtain ⟨H, hH⟩ : ∃ z, z = st.heap := ⟨_, rfl⟩
  obtain ⟨locs, hlo⟩ : ∃ z : List Loc, z = [] := ⟨_, rfl⟩
  have hP : va_P D vwCl (townW K a T ++ (waysW K b len qu n ++ X)) H := by rw [hH]; exact hP
  have hS : va_S A st.heap H locs := by rw [hH, hlo]; exact hS
  suffices go : W pr l en (headSpec wsX2_clearLengths ({ frames := 2, cells := 0, slots := 0, locals := 35 } : Room)).room st md ar bl mt co H locs 0 0 (MQ bl (wrQ D (townW K a T ++ (waysW K b len qu n ++ X)) (townW K a T ++ (waysW K b (fun _ => none) qu 0 ++ X)) sz none) ar st 0 0 A) (F0 md 0 ls []) by rw [hH, hlo] at go; exact go
  clear hH hlo
  have F9 : (Cond.fieldLink RX2 9 "TramTolls$Ways" "lengths" "[I").before ar st = true := hts _ (List.mem_of_getElem? (i := 1) rfl)
  have inX2 : ∀ w ∈ u_ws RX2 TX2 3, w ∈ wsX2_clearLengths := fun w h => List.mem_cons_of_mem _ (List.mem_append_right _ h)
  have F87 : (Cond.fieldLink RX2 87 "TramTolls$Ways" "queued" "I").before ar st = true := hts _ (List.mem_of_getElem? (i := 2) rfl)
  refine lv_aload_n hx hb dX2_clearLengths_0 rfl (lv_at hl 0 rfl) ?_
  refine va_get (D := D) (ci := 2) (v := .ref (b 1)) (C := RX2) (T := TX2) (N := 3) hx hb hts inX2 hown hE.1 hP 12 rfl rfl 0 (by decide) F9 (fun _ h9 => h9) rfl dX2_clearLengths_1 ?_
  refine lv_iconst (v := -1) hx hb dX2_clearLengths_4 (by decide) ?_
  refine wr_S (rest := []) ⟨hx, hb, hml, hown, hts⟩ hP hE hA hD hS (c_J7_fill_53178 l D K _ _ 13 _ 80 _ (-1) rfl (by decide)) (va_cwS 2 hts gX2_clearLengths_J7_fill_53178 rfl rfl rfl hn_J7_fill_53178 ⟨Nat.le_of_ble_eq_true rfl, Nat.le_of_ble_eq_true rfl⟩) rfl hl.1 rfl (Nat.le_of_ble_eq_true rfl) dX2_clearLengths_5 ⟨Nat.le_of_ble_eq_true rfl, Nat.le_of_ble_eq_true rfl⟩ (fun H locs hP hD hS => ?_)
  have hP : va_P D vwCl (townW K a T ++ (waysW K b (fun _ => none) qu n ++ X)) H := hP
  have hD : va_D A (townW K a T ++ (waysW K b (fun _ => none) qu n ++ X)) := hD
  refine lv_aload_n hx hb dX2_clearLengths_8 rfl (lv_at hl 0 rfl) ?_
  refine lv_iconst (v := nI 0) hx hb dX2_clearLengths_9 (by decide) ?_
  refine va_put (D := D) (ci := 2) (v := .int (nI 0)) (ty := .int) (C := RX2) (T := TX2) (N := 3) hx hb hts inX2 tyX2 tyX2_ok nmX2 hown hE.1 hP hD hS 12 rfl rfl 2 (by decide) F87 (fun _ h9 => h9) rfl (by decide +kernel) rfl rfl (Nat.le_of_ble_eq_true rfl) dX2_clearLengths_10 (fun H locs hP hD hS => ?_)
  have hP : va_P D vwCl (townW K a T ++ (waysW K b (fun _ => none) qu 0 ++ X)) H := hP
  have hD : va_D A (townW K a T ++ (waysW K b (fun _ => none) qu 0 ++ X)) := hD
  exact wr_vret hAe hP hD hS hx hb hr hk dX2_clearLengths_13 ⟨Nat.le_of_ble_eq_true rfl, Nat.le_of_ble_eq_true rfl⟩
set_option maxHeartbeats 4000000 in
set_option maxRecDepth 100000 in
theorem c_X2_enqueue (l : Launch) (D : va_G) (K : Nat → ClassId) (sz : Nat) (a b : Nat → Nat) (T : TW) (X : va_W) (len : Nat → Option Nat) (qu : Nat → Nat) (n : Nat) (s v : Nat) (hs : s < 80) (hn : n < 80) : Wr l yX2_enqueue wsX2_enqueue ({ frames := 2, cells := 0, slots := 0, locals := 34 } : Room) D K (townW K a T ++ (waysW K b len qu n ++ X)) sz [.ref (b 0), .int (nI s), .int (nI v)] (townW K a T ++ (waysW K b (va_up len s (some v)) (va_up qu n s) (n + 1) ++ X)) none 0 0 := by
  refine wr_intro (cc := cX2_enqueue) (maxL := 3) (ret := none) (by decide) rfl (Nat.le_of_ble_eq_true rfl) ?_
  intro pr en st md ar bl mt co A hx hb hml hr hts hown hk hsz hAe hP hE hD hS hA hin ls hl
  have hown : st.vm.findClass RX2 = some md.cls := hown
  have hl : lv_has ls 3 [(0, .ref (b 0)), (1, .int (nI s)), (2, .int (nI v))] := hl
  obtain ⟨H, hH⟩ : ∃ z, z = st.heap := ⟨_, rfl⟩
  obtain ⟨locs, hlo⟩ : ∃ z : List Loc, z = [] := ⟨_, rfl⟩
  have hP : va_P D vwCl (townW K a T ++ (waysW K b len qu n ++ X)) H := by rw [hH]; exact hP
  have hS : va_S A st.heap H locs := by rw [hH, hlo]; exact hS
  suffices go : W pr l en (headSpec wsX2_enqueue ({ frames := 2, cells := 0, slots := 0, locals := 34 } : Room)).room st md ar bl mt co H locs 0 0 (MQ bl (wrQ D (townW K a T ++ (waysW K b len qu n ++ X)) (townW K a T ++ (waysW K b (va_up len s (some v)) (va_up qu n s) (n + 1) ++ X)) sz none) ar st 0 0 A) (F0 md 0 ls []) by rw [hH, hlo] at go; exact go
  clear hH hlo
  have F9 : (Cond.fieldLink RX2 9 "TramTolls$Ways" "lengths" "[I").before ar st = true := hts _ (List.mem_of_getElem? (i := 1) rfl)
  have inX2 : ∀ w ∈ u_ws RX2 TX2 3, w ∈ wsX2_enqueue := fun w h => List.mem_cons_of_mem _ (List.mem_append_right _ h)
  have IniX3 : (Cond.initialized RX3).before ar st = true := hts _ (List.mem_of_getElem? (i := 5) rfl)
  have Sta_X3_put : (Cond.static yX3_put).before ar st = true := hts _ (List.mem_of_getElem? (i := 4) rfl)
  have F15 : (Cond.fieldLink RX2 15 "TramTolls$Ways" "queue" "[I").before ar st = true := hts _ (List.mem_of_getElem? (i := 2) rfl)
  have F87 : (Cond.fieldLink RX2 87 "TramTolls$Ways" "queued" "I").before ar st = true := hts _ (List.mem_of_getElem? (i := 3) rfl)
  refine lv_aload_n hx hb dX2_enqueue_0 rfl (lv_at hl 0 rfl) ?_
  refine va_get (D := D) (ci := 2) (v := .ref (b 1)) (C := RX2) (T := TX2) (N := 3) hx hb hts inX2 hown hE.1 hP 12 rfl rfl 0 (by decide) F9 (fun _ h9 => h9) rfl dX2_enqueue_1 ?_
  refine lv_iload_n hx hb dX2_enqueue_4 rfl (lv_at hl 1 rfl) ?_
  refine lv_iload_n hx hb dX2_enqueue_5 rfl (lv_at hl 2 rfl) ?_
  refine wr_SN (rest := []) ⟨hx, hb, hml, hown, hts⟩ hP hE hA hD hS (c_X3_put l D K _ _ 13 _ 80 _ s (nI v) rfl (by omega) (by omega)) (va_cnB (host := RX3) 3 hts gX2_enqueue_X3_put_n39 rfl rfl rfl hE.2.2.2.2.2.1 IniX3 hn_X3_put ⟨Nat.le_of_ble_eq_true rfl, Nat.le_of_ble_eq_true rfl⟩) Sta_X3_put rfl hl.1 rfl (Nat.le_of_ble_eq_true rfl) dX2_enqueue_6 ⟨Nat.le_of_ble_eq_true rfl, Nat.le_of_ble_eq_true rfl⟩ (fun H locs hP hD hS => ?_)
  rw [updON len s v] at hP hD
  have hP : va_P D vwCl (townW K a T ++ (waysW K b (va_up len s (some v)) qu n ++ X)) H := hP
  have hD : va_D A (townW K a T ++ (waysW K b (va_up len s (some v)) qu n ++ X)) := hD
  refine lv_aload_n hx hb dX2_enqueue_9 rfl (lv_at hl 0 rfl) ?_
  refine va_get (D := D) (ci := 2) (v := .ref (b 2)) (C := RX2) (T := TX2) (N := 3) hx hb hts inX2 hown hE.1 hP 12 rfl rfl 1 (by decide) F15 (fun _ h9 => h9) rfl dX2_enqueue_10 ?_
  refine lv_aload_n hx hb dX2_enqueue_13 rfl (lv_at hl 0 rfl) ?_
  refine va_get (D := D) (ci := 2) (v := .int (nI n)) (C := RX2) (T := TX2) (N := 3) hx hb hts inX2 hown hE.1 hP 12 rfl rfl 2 (by decide) F87 (fun _ h9 => h9) rfl dX2_enqueue_14 ?_
  refine lv_iload_n hx hb dX2_enqueue_17 rfl (lv_at hl 1 rfl) ?_
  refine wr_SN (rest := []) ⟨hx, hb, hml, hown, hts⟩ hP hE hA hD hS (c_X3_put l D K _ _ 14 _ 80 _ n (nI s) rfl (by omega) (by omega)) (va_cnB (host := RX3) 3 hts gX2_enqueue_X3_put_n39 rfl rfl rfl hE.2.2.2.2.2.1 IniX3 hn_X3_put ⟨Nat.le_of_ble_eq_true rfl, Nat.le_of_ble_eq_true rfl⟩) Sta_X3_put rfl hl.1 rfl (Nat.le_of_ble_eq_true rfl) dX2_enqueue_18 ⟨Nat.le_of_ble_eq_true rfl, Nat.le_of_ble_eq_true rfl⟩ (fun H locs hP hD hS => ?_)
  rw [updNN qu n s] at hP hD
  have hP : va_P D vwCl (townW K a T ++ (waysW K b (va_up len s (some v)) (va_up qu n s) n ++ X)) H := hP
  have hD : va_D A (townW K a T ++ (waysW K b (va_up len s (some v)) (va_up qu n s) n ++ X)) := hD
  refine lv_aload_n hx hb dX2_enqueue_21 rfl (lv_at hl 0 rfl) ?_
  refine lv_dup hx hb dX2_enqueue_22 rfl ?_
  refine va_get (D := D) (ci := 2) (v := .int (nI n)) (C := RX2) (T := TX2) (N := 3) hx hb hts inX2 hown hE.1 hP 12 rfl rfl 2 (by decide) F87 (fun _ h9 => h9) rfl dX2_enqueue_23 ?_
  refine lv_iconst (v := nI 1) hx hb dX2_enqueue_26 (by decide) ?_
  refine nv_iadd (x := n) (y := 1) hx hb dX2_enqueue_27 ?_
  refine va_put (D := D) (ci := 2) (v := .int (nI (n + 1))) (ty := .int) (C := RX2) (T := TX2) (N := 3) hx hb hts inX2 tyX2 tyX2_ok nmX2 hown hE.1 hP hD hS 12 rfl rfl 2 (by decide) F87 (fun _ h9 => h9) rfl (by decide +kernel) rfl rfl (Nat.le_of_ble_eq_true rfl) dX2_enqueue_28 (fun H locs hP hD hS => ?_)
  have hP : va_P D vwCl (townW K a T ++ (waysW K b (va_up len s (some v)) (va_up qu n s) (n + 1) ++ X)) H := hP
  have hD : va_D A (townW K a T ++ (waysW K b (va_up len s (some v)) (va_up qu n s) (n + 1) ++ X)) := hD
  exact wr_vret hAe hP hD hS hx hb hr hk dX2_enqueue_31 ⟨Nat.le_of_ble_eq_true rfl, Nat.le_of_ble_eq_true rfl⟩
