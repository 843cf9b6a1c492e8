theorem hd_J7_fill_53178 : yJ7_fill_53178.cls = RJ7 ∧ yJ7_fill_53178.cls ≠ "java/lang/invoke/MethodHandle" ∧ yJ7_fill_53178.cls ≠ "java/lang/invoke/VarHandle" ∧ (parseMethodDescriptor yJ7_fill_53178.desc).map (fun d => d.parameters.length) = some 2 := by decide +kernel
theorem hn_J7_fill_53178 : yJ7_fill_53178.cls ≠ "java/lang/invoke/MethodHandle" ∧ yJ7_fill_53178.cls ≠ "java/lang/invoke/VarHandle" ∧ (parseMethodDescriptor yJ7_fill_53178.desc).map (fun d => d.parameters.length) = some 2 := hd_J7_fill_53178.2
theorem hd_X2_clearLengths : yX2_clearLengths.cls = RX2 ∧ yX2_clearLengths.cls ≠ "java/lang/invoke/MethodHandle" ∧ yX2_clearLengths.cls ≠ "java/lang/invoke/VarHandle" ∧ (parseMethodDescriptor yX2_clearLengths.desc).map (fun d => d.parameters.length) = some 0 := by decide +kernel
theorem hn_X2_clearLengths : yX2_clearLengths.cls ≠ "java/lang/invoke/MethodHandle" ∧ yX2_clearLengths.cls ≠ "java/lang/invoke/VarHandle" ∧ (parseMethodDescriptor yX2_clearLengths.desc).map (fun d => d.parameters.length) = some 0 := hd_X2_clearLengths.2
theorem hd_X2_enqueue : yX2_enqueue.cls = RX2 ∧ yX2_enqueue.cls ≠ "java/lang/invoke/MethodHandle" ∧ yX2_enqueue.cls ≠ "java/lang/invoke/VarHandle" ∧ (parseMethodDescriptor yX2_enqueue.desc).map (fun d => d.parameters.length) = some 2 := by decide +kernel
theorem hn_X2_enqueue : yX2_enqueue.cls ≠ "java/lang/invoke/MethodHandle" ∧ yX2_enqueue.cls ≠ "java/lang/invoke/VarHandle" ∧ (parseMethodDescriptor yX2_enqueue.desc).map (fun d => d.parameters.length) = some 2 := hd_X2_enqueue.2
theorem hd_X2_flood : yX2_flood.cls = RX2 ∧ yX2_flood.cls ≠ "java/lang/invoke/MethodHandle" ∧ yX2_flood.cls ≠ "java/lang/invoke/VarHandle" ∧ (parseMethodDescriptor yX2_flood.desc).map (fun d => d.parameters.length) = some 2 := by decide +kernel
theorem hn_X2_flood : yX2_flood.cls ≠ "java/lang/invoke/MethodHandle" ∧ yX2_flood.cls ≠ "java/lang/invoke/VarHandle" ∧ (parseMethodDescriptor yX2_flood.desc).map (fun d => d.parameters.length) = some 2 := hd_X2_flood.2
theorem hd_X2_fewestPieces : yX2_fewestPieces.cls = RX2 ∧ yX2_fewestPieces.cls ≠ "java/lang/invoke/MethodHandle" ∧ yX2_fewestPieces.cls ≠ "java/lang/invoke/VarHandle" ∧ (parseMethodDescriptor yX2_fewestPieces.desc).map (fun d => d.parameters.length) = some 3 := by decide +kernel
theorem hn_X2_fewestPieces : yX2_fewestPieces.cls ≠ "java/lang/invoke/MethodHandle" ∧ yX2_fewestPieces.cls ≠ "java/lang/invoke/VarHandle" ∧ (parseMethodDescriptor yX2_fewestPieces.desc).map (fun d => d.parameters.length) = some 3 := hd_X2_fewestPieces.2
theorem hd_X2_nearestOfLine : yX2_nearestOfLine.cls = RX2 ∧ yX2_nearestOfLine.cls ≠ "java/lang/invoke/MethodHandle" ∧ yX2_nearestOfLine.cls ≠ "java/lang/invoke/VarHandle" ∧ (parseMethodDescriptor yX2_nearestOfLine.desc).map (fun d => d.parameters.length) = some 2 := by decide +kernel
theorem hn_X2_nearestOfLine : yX2_nearestOfLine.cls ≠ "java/lang/invoke/MethodHandle" ∧ yX2_nearestOfLine.cls ≠ "java/lang/invoke/VarHandle" ∧ (parseMethodDescriptor yX2_nearestOfLine.desc).map (fun d => d.parameters.length) = some 2 := hd_X2_nearestOfLine.2
theorem hd_X2_floodFromMissingStops : yX2_floodFromMissingStops.cls = RX2 ∧ yX2_floodFromMissingStops.cls ≠ "java/lang/invoke/MethodHandle" ∧ yX2_floodFromMissingStops.cls ≠ "java/lang/invoke/VarHandle" ∧ (parseMethodDescriptor yX2_floodFromMissingStops.desc).map (fun d => d.parameters.length) = some 2 := by decide +kernel
theorem hn_X2_floodFromMissingStops : yX2_floodFromMissingStops.cls ≠ "java/lang/invoke/MethodHandle" ∧ yX2_floodFromMissingStops.cls ≠ "java/lang/invoke/VarHandle" ∧ (parseMethodDescriptor yX2_floodFromMissingStops.desc).map (fun d => d.parameters.length) = some 2 := hd_X2_floodFromMissingStops.2
theorem hd_X2_improveCost : yX2_improveCost.cls = RX2 ∧ yX2_improveCost.cls ≠ "java/lang/invoke/MethodHandle" ∧ yX2_improveCost.cls ≠ "java/lang/invoke/VarHandle" ∧ (parseMethodDescriptor yX2_improveCost.desc).map (fun d => d.parameters.length) = some 3 := by decide +kernel
theorem hn_X2_improveCost : yX2_improveCost.cls ≠ "java/lang/invoke/MethodHandle" ∧ yX2_improveCost.cls ≠ "java/lang/invoke/VarHandle" ∧ (parseMethodDescriptor yX2_improveCost.desc).map (fun d => d.parameters.length) = some 3 := hd_X2_improveCost.2
theorem hd_X2_leastTolls : yX2_leastTolls.cls = RX2 ∧ yX2_leastTolls.cls ≠ "java/lang/invoke/MethodHandle" ∧ yX2_leastTolls.cls ≠ "java/lang/invoke/VarHandle" ∧ (parseMethodDescriptor yX2_leastTolls.desc).map (fun d => d.parameters.length) = some 3 := by decide +kernel
theorem hn_X2_leastTolls : yX2_leastTolls.cls ≠ "java/lang/invoke/MethodHandle" ∧ yX2_leastTolls.cls ≠ "java/lang/invoke/VarHandle" ∧ (parseMethodDescriptor yX2_leastTolls.desc).map (fun d => d.parameters.length) = some 3 := hd_X2_leastTolls.2
set_option maxHeartbeats 4000000 in
set_option maxRecDepth 100000 in
theorem c_J7_fill_53178 (l : Launch) (D : va_G) (K : Nat → ClassId) (sz : Nat) (ws : va_W) (q0 h n : Nat) (f : Nat → Int32) (v : Int32) (hq : ws[q0]? = some (h, .inl (K 0, n, .inl f))) (hn : n < 2 ^ 31) : Wr l yJ7_fill_53178 wsJ7_fill_53178 ({ frames := 1, cells := 0, slots := 0, locals := 12 } : Room) D K (ws) sz [.ref h, .int v] (ws.set q0 (h, .inl (K 0, n, .inl (fun _ => v)))) none 0 0 := by
  refine wr_intro (cc := cJ7_fill_53178) (maxL := 4) (ret := none) (by decide) rfl (Nat.le_of_ble_eq_true rfl) ?_
  intro pr en st md ar bl mt co A hx hb hml hr hts hown hk hsz hAe hP hE hD hS hA hin ls hl
  have hown : st.vm.findClass RJ7 = some md.cls := hown
  have hl : lv_has ls 4 [(0, .ref h), (1, .int v)] := hl
  obtain ⟨H, hH⟩ : ∃ z, z = st.heap := ⟨_, rfl⟩
  obtain ⟨locs, hlo⟩ : ∃ z : List Loc, z = [] := ⟨_, rfl⟩
  have hP : va_P D vwCl (ws) H := by rw [hH]; exact hP
  have hS : va_S A st.heap H locs := by rw [hH, hlo]; exact hS
  suffices go : W pr l en (headSpec wsJ7_fill_53178 ({ frames := 1, cells := 0, slots := 0, locals := 12 } : Room)).room st md ar bl mt co H locs 0 0 (MQ bl (wrQ D (ws) (ws.set q0 (h, .inl (K 0, n, .inl (fun _ => v)))) sz none) ar st 0 0 A) (F0 md 0 ls []) by rw [hH, hlo] at go; exact go
  clear hH hlo
  refine lv_iconst (v := nI 0) hx hb dJ7_fill_53178_0 (by decide) ?_
  refine lv_istore_n (lv' := [(2, .int (nI 0)), (0, .ref h), (1, .int v)]) hx hb dJ7_fill_53178_1 rfl hl (by decide) rfl (fun ls hl => ?_)
  refine lv_aload_n hx hb dJ7_fill_53178_2 rfl (lv_at hl 1 rfl) ?_
  refine va_alen (v := nI n) hx hb hE.1 hP q0 0 hq rfl rfl dJ7_fill_53178_3 ?_
  refine lv_istore_n (lv' := [(3, .int (nI n)), (2, .int (nI 0)), (0, .ref h), (1, .int v)]) hx hb dJ7_fill_53178_4 rfl hl (by decide) rfl (fun ls hl => ?_)
  have loop_1 : ∀ (n_5 : Nat) (i : Nat), (i ≤ n) → (n - i) < n_5 → ∀ (H : Heap) (locs : List Loc), va_P D vwCl (ws.set q0 (h, .inl (K 0, n, .inl (fun j => if j < i then v else f j)))) H → va_D A (ws.set q0 (h, .inl (K 0, n, .inl (fun j => if j < i then v else f j)))) → va_S A st.heap H locs →  ∀ x_2 : Int32, x_2 = nI i → ∀ ls : Array Slot, lv_has ls 4 [(0, .ref h), (1, .int v), (2, .int x_2), (3, .int (nI n))] → W pr l en (headSpec wsJ7_fill_53178 ({ frames := 1, cells := 0, slots := 0, locals := 12 } : Room)).room st md ar bl mt co H locs 0 0 (MQ bl (wrQ D (ws) (ws.set q0 (h, .inl (K 0, n, .inl (fun _ => v)))) sz none) ar st 0 0 A) (F0 md 5 ls []) := by
    intro n_5
    induction n_5 with
    | zero => intro i _ hn_5; exact absurd hn_5 (Nat.not_lt_zero _)
    | succ n_5 ih_5 =>
      intro i hi hn_5 H locs hP hD hS x_2 ex_2 ls hl
      subst ex_2
      have hl : lv_has ls 4 [(0, .ref h), (1, .int v), (2, .int (nI i)), (3, .int (nI n))] := hl
      refine lv_iload_n hx hb dJ7_fill_53178_5 rfl (lv_at hl 2 rfl) ?_
      refine lv_iload_n hx hb dJ7_fill_53178_6 rfl (lv_at hl 3 rfl) ?_
      refine nv_icmp_ge (x := i) (y := n) (tgt := 20) hx hb dJ7_fill_53178_7 (by decide) (by omega) (by omega) (fun c_2 => ?_) (fun c_2 => ?_)
      · have n_c_2 := Nat.not_lt.mpr c_2
        have e9 : i = n := by omega
        rw [e9] at hP hD
        have hP := va_P.cong hP (g := fun _ => v) (fun j hj => if_pos hj)
        have hD := va_D.cong hD (e2 := .inl (K 0, n, .inl (fun _ => v)))
        exact wr_vret hAe hP hD hS hx hb hr hk dJ7_fill_53178_20 ⟨Nat.le_of_ble_eq_true rfl, Nat.le_of_ble_eq_true rfl⟩
      · have n_c_2 := Nat.not_le.mpr c_2
        refine lv_aload_n hx hb dJ7_fill_53178_10 rfl (lv_at hl 0 rfl) ?_
        refine lv_iload_n hx hb dJ7_fill_53178_11 rfl (lv_at hl 2 rfl) ?_
        refine lv_iload_n hx hb dJ7_fill_53178_12 rfl (lv_at hl 1 rfl) ?_
        refine va_iast hx hb hE.1 hP hD hS q0 0 (set_get hq) rfl (pk_in i n (by omega)) dJ7_fill_53178_13 (fun H locs hP hD hS => ?_)
        rw [pk_cl i] at hP hD
        rw [set_set, fill_up] at hP hD
        have hP : va_P D vwCl (ws.set q0 (h, .inl (K 0, n, .inl (fun j => if j < i + 1 then v else f j)))) H := hP
        have hD : va_D A (ws.set q0 (h, .inl (K 0, n, .inl (fun j => if j < i + 1 then v else f j)))) := hD
        refine lv_iinc (v := nI (i + 1)) (lv' := [(2, .int (nI (i + 1))), (0, .ref h), (1, .int v), (3, .int (nI n))]) hx hb dJ7_fill_53178_14 hl (k := 2) rfl (nI_add _ 1) (by decide) rfl (fun ls hl => ?_)
        refine lv_goto (tgt := 5) hx hb dJ7_fill_53178_17 (by decide) ?_
        exact ih_5 (i + 1) (by omega) (by omega) _ _ hP hD hS _ rfl ls (lv_sub hl [1, 2, 0, 3] rfl)
  have e0 : ws = ws.set q0 (h, .inl (K 0, n, .inl (fun j => if j < 0 then v else f j))) := (set_self (by rw [hq]; congr 4)).symm
  rw [e0] at hP hD
  exact loop_1 _ 0 (Nat.zero_le _) (Nat.lt_succ_self _) _ _ hP hD hS _ rfl ls (lv_sub hl [2, 3, 1, 0] rfl)
set_option maxHeartbeats 4000000 in
set_option maxRecDepth 100000 in
theorem c_X2_clearLengths (l : Launch) (D : va_G) (K : Nat → ClassId) (sz : Nat) (a b : Nat → Nat) (T : TW) (X : va_W) (len : Nat → Option Nat) (qu : Nat → Nat) (n : Nat) : Wr l yX2_clearLengths wsX2_clearLengths ({ frames := 2, cells := 0, slots := 0, locals := 35 } : Room) D K (townW K a T ++ (waysW K b len qu n ++ X)) sz [.ref (b 0)] (townW K a T ++ (waysW K b (fun _ => none) qu 0 ++ X)) none 0 0 := by
  refine wr_intro (cc := cX2_clearLengths) (maxL := 1) (ret := none) (by decide) rfl (Nat.le_of_ble_eq_true rfl) ?_
  intro pr en st md ar bl mt co A hx hb hml hr hts hown hk hsz hAe hP hE hD hS hA hin ls hl
  have hown : st.vm.findClass RX2 = some md.cls := hown
  have hl : lv_has ls 1 [(0, .ref (b 0))] := hl
  obtain ⟨H, hH⟩ : ∃ z, z = st.heap := ⟨_, rfl⟩
  obtain ⟨locs, hlo⟩ : ∃ z : List Loc, z = [] := ⟨_, rfl⟩
  have hP : va_P D vwCl (townW K a T ++ (waysW K b len qu n ++ X)) H := by rw [hH]; exact hP
  have hS : va_S A st.heap H locs := by rw [hH, hlo]; exact hS
  suffices go : W pr l en (headSpec wsX2_clearLengths ({ frames := 2, cells := 0, slots := 0, locals := 35 } : Room)).room st md ar bl mt co H locs 0 0 (MQ bl (wrQ D (townW K a T ++ (waysW K b len qu n ++ X)) (townW K a T ++ (waysW K b (fun _ => none) qu 0 ++ X)) sz none) ar st 0 0 A) (F0 md 0 ls []) by rw [hH, hlo] at go; exact go
  clear hH hlo
  have F9 : (Cond.fieldLink RX2 9 "TramTolls$Ways" "lengths" "[I").before ar st = true := hts _ (List.mem_of_getElem? (i := 1) rfl)
  have inX2 : ∀ w ∈ u_ws RX2 TX2 3, w ∈ wsX2_clearLengths := fun w h => List.mem_cons_of_mem _ (List.mem_append_right _ h)
  have F87 : (Cond.fieldLink RX2 87 "TramTolls$Ways" "queued" "I").before ar st = true := hts _ (List.mem_of_getElem? (i := 2) rfl)
  refine lv_aload_n hx hb dX2_clearLengths_0 rfl (lv_at hl 0 rfl) ?_
  refine va_get (D := D) (ci := 2) (v := .ref (b 1)) (C := RX2) (T := TX2) (N := 3) hx hb hts inX2 hown hE.1 hP 12 rfl rfl 0 (by decide) F9 (fun _ h9 => h9) rfl dX2_clearLengths_1 ?_
  refine lv_iconst (v := -1) hx hb dX2_clearLengths_4 (by decide) ?_
  refine wr_S (rest := []) ⟨hx, hb, hml, hown, hts⟩ hP hE hA hD hS (c_J7_fill_53178 l D K _ _ 13 _ 80 _ (-1) rfl (by decide)) (va_cwS 2 hts gX2_clearLengths_J7_fill_53178 rfl rfl rfl hn_J7_fill_53178 ⟨Nat.le_of_ble_eq_true rfl, Nat.le_of_ble_eq_true rfl⟩) rfl hl.1 rfl (Nat.le_of_ble_eq_true rfl) dX2_clearLengths_5 ⟨Nat.le_of_ble_eq_true rfl, Nat.le_of_ble_eq_true rfl⟩ (fun H locs hP hD hS => ?_)
  have hP : va_P D vwCl (townW K a T ++ (waysW K b (fun _ => none) qu n ++ X)) H := hP
  have hD : va_D A (townW K a T ++ (waysW K b (fun _ => none) qu n ++ X)) := hD
  refine lv_aload_n hx hb dX2_clearLengths_8 rfl (lv_at hl 0 rfl) ?_
  refine lv_iconst (v := nI 0) hx hb dX2_clearLengths_9 (by decide) ?_
  refine va_put (D := D) (ci := 2) (v := .int (nI 0)) (ty := .int) (C := RX2) (T := TX2) (N := 3) hx hb hts inX2 tyX2 tyX2_ok nmX2 hown hE.1 hP hD hS 12 rfl rfl 2 (by decide) F87 (fun _ h9 => h9) rfl (by decide +kernel) rfl rfl (Nat.le_of_ble_eq_true rfl) dX2_clearLengths_10 (fun H locs hP hD hS => ?_)
  have hP : va_P D vwCl (townW K a T ++ (waysW K b (fun _ => none) qu 0 ++ X)) H := hP
  have hD : va_D A (townW K a T ++ (waysW K b (fun _ => none) qu 0 ++ X)) := hD
  exact wr_vret hAe hP hD hS hx hb hr hk dX2_clearLengths_13 ⟨Nat.le_of_ble_eq_true rfl, Nat.le_of_ble_eq_true rfl⟩
set_option maxHeartbeats 4000000 in
set_option maxRecDepth 100000 in
theorem c_X2_enqueue (l : Launch) (D : va_G) (K : Nat → ClassId) (sz : Nat) (a b : Nat → Nat) (T : TW) (X : va_W) (len : Nat → Option Nat) (qu : Nat → Nat) (n : Nat) (s v : Nat) (hs : s < 80) (hn : n < 80) : Wr l yX2_enqueue wsX2_enqueue ({ frames := 2, cells := 0, slots := 0, locals := 34 } : Room) D K (townW K a T ++ (waysW K b len qu n ++ X)) sz [.ref (b 0), .int (nI s), .int (nI v)] (townW K a T ++ (waysW K b (va_up len s (some v)) (va_up qu n s) (n + 1) ++ X)) none 0 0 := by
  refine wr_intro (cc := cX2_enqueue) (maxL := 3) (ret := none) (by decide) rfl (Nat.le_of_ble_eq_true rfl) ?_
  intro pr en st md ar bl mt co A hx hb hml hr hts hown hk hsz hAe hP hE hD hS hA hin ls hl
  have hown : st.vm.findClass RX2 = some md.cls := hown
  have hl : lv_has ls 3 [(0, .ref (b 0)), (1, .int (nI s)), (2, .int (nI v))] := hl
  obtain ⟨H, hH⟩ : ∃ z, z = st.heap := ⟨_, rfl⟩
  obtain ⟨locs, hlo⟩ : ∃ z : List Loc, z = [] := ⟨_, rfl⟩
  have hP : va_P D vwCl (townW K a T ++ (waysW K b len qu n ++ X)) H := by rw [hH]; exact hP
  have hS : va_S A st.heap H locs := by rw [hH, hlo]; exact hS
  suffices go : W pr l en (headSpec wsX2_enqueue ({ frames := 2, cells := 0, slots := 0, locals := 34 } : Room)).room st md ar bl mt co H locs 0 0 (MQ bl (wrQ D (townW K a T ++ (waysW K b len qu n ++ X)) (townW K a T ++ (waysW K b (va_up len s (some v)) (va_up qu n s) (n + 1) ++ X)) sz none) ar st 0 0 A) (F0 md 0 ls []) by rw [hH, hlo] at go; exact go
  clear hH hlo
  have F9 : (Cond.fieldLink RX2 9 "TramTolls$Ways" "lengths" "[I").before ar st = true := hts _ (List.mem_of_getElem? (i := 1) rfl)
  have inX2 : ∀ w ∈ u_ws RX2 TX2 3, w ∈ wsX2_enqueue := fun w h => List.mem_cons_of_mem _ (List.mem_append_right _ h)
  have IniX3 : (Cond.initialized RX3).before ar st = true := hts _ (List.mem_of_getElem? (i := 5) rfl)
  have Sta_X3_put : (Cond.static yX3_put).before ar st = true := hts _ (List.mem_of_getElem? (i := 4) rfl)
  have F15 : (Cond.fieldLink RX2 15 "TramTolls$Ways" "queue" "[I").before ar st = true := hts _ (List.mem_of_getElem? (i := 2) rfl)
  have F87 : (Cond.fieldLink RX2 87 "TramTolls$Ways" "queued" "I").before ar st = true := hts _ (List.mem_of_getElem? (i := 3) rfl)
  refine lv_aload_n hx hb dX2_enqueue_0 rfl (lv_at hl 0 rfl) ?_
  refine va_get (D := D) (ci := 2) (v := .ref (b 1)) (C := RX2) (T := TX2) (N := 3) hx hb hts inX2 hown hE.1 hP 12 rfl rfl 0 (by decide) F9 (fun _ h9 => h9) rfl dX2_enqueue_1 ?_
  refine lv_iload_n hx hb dX2_enqueue_4 rfl (lv_at hl 1 rfl) ?_
  refine lv_iload_n hx hb dX2_enqueue_5 rfl (lv_at hl 2 rfl) ?_
  refine wr_SN (rest := []) ⟨hx, hb, hml, hown, hts⟩ hP hE hA hD hS (c_X3_put l D K _ _ 13 _ 80 _ s (nI v) rfl (by omega) (by omega)) (va_cnB (host := RX3) 3 hts gX2_enqueue_X3_put_n39 rfl rfl rfl hE.2.2.2.2.2.1 IniX3 hn_X3_put ⟨Nat.le_of_ble_eq_true rfl, Nat.le_of_ble_eq_true rfl⟩) Sta_X3_put rfl hl.1 rfl (Nat.le_of_ble_eq_true rfl) dX2_enqueue_6 ⟨Nat.le_of_ble_eq_true rfl, Nat.le_of_ble_eq_true rfl⟩ (fun H locs hP hD hS => ?_)
  rw [updON len s v] at hP hD
  have hP : va_P D vwCl (townW K a T ++ (waysW K b (va_up len s (some v)) qu n ++ X)) H := hP
  have hD : va_D A (townW K a T ++ (waysW K b (va_up len s (some v)) qu n ++ X)) := hD
  refine lv_aload_n hx hb dX2_enqueue_9 rfl (lv_at hl 0 rfl) ?_
  refine va_get (D := D) (ci := 2) (v := .ref (b 2)) (C := RX2) (T := TX2) (N := 3) hx hb hts inX2 hown hE.1 hP 12 rfl rfl 1 (by decide) F15 (fun _ h9 => h9) rfl dX2_enqueue_10 ?_
  refine lv_aload_n hx hb dX2_enqueue_13 rfl (lv_at hl 0 rfl) ?_
  refine va_get (D := D) (ci := 2) (v := .int (nI n)) (C := RX2) (T := TX2) (N := 3) hx hb hts inX2 hown hE.1 hP 12 rfl rfl 2 (by decide) F87 (fun _ h9 => h9) rfl dX2_enqueue_14 ?_
  refine lv_iload_n hx hb dX2_enqueue_17 rfl (lv_at hl 1 rfl) ?_
  refine wr_SN (rest := []) ⟨hx, hb, hml, hown, hts⟩ hP hE hA hD hS (c_X3_put l D K _ _ 14 _ 80 _ n (nI s) rfl (by omega) (by omega)) (va_cnB (host := RX3) 3 hts gX2_enqueue_X3_put_n39 rfl rfl rfl hE.2.2.2.2.2.1 IniX3 hn_X3_put ⟨Nat.le_of_ble_eq_true rfl, Nat.le_of_ble_eq_true rfl⟩) Sta_X3_put rfl hl.1 rfl (Nat.le_of_ble_eq_true rfl) dX2_enqueue_18 ⟨Nat.le_of_ble_eq_true rfl, Nat.le_of_ble_eq_true rfl⟩ (fun H locs hP hD hS => ?_)
  rw [updNN qu n s] at hP hD
  have hP : va_P D vwCl (townW K a T ++ (waysW K b (va_up len s (some v)) (va_up qu n s) n ++ X)) H := hP
  have hD : va_D A (townW K a T ++ (waysW K b (va_up len s (some v)) (va_up qu n s) n ++ X)) := hD
  refine lv_aload_n hx hb dX2_enqueue_21 rfl (lv_at hl 0 rfl) ?_
  refine lv_dup hx hb dX2_enqueue_22 rfl ?_
  refine va_get (D := D) (ci := 2) (v := .int (nI n)) (C := RX2) (T := TX2) (N := 3) hx hb hts inX2 hown hE.1 hP 12 rfl rfl 2 (by decide) F87 (fun _ h9 => h9) rfl dX2_enqueue_23 ?_
  refine lv_iconst (v := nI 1) hx hb dX2_enqueue_26 (by decide) ?_
  refine nv_iadd (x := n) (y := 1) hx hb dX2_enqueue_27 ?_
  refine va_put (D := D) (ci := 2) (v := .int (nI (n + 1))) (ty := .int) (C := RX2) (T := TX2) (N := 3) hx hb hts inX2 tyX2 tyX2_ok nmX2 hown hE.1 hP hD hS 12 rfl rfl 2 (by decide) F87 (fun _ h9 => h9) rfl (by decide +kernel) rfl rfl (Nat.le_of_ble_eq_true rfl) dX2_enqueue_28 (fun H locs hP hD hS => ?_)
  have hP : va_P D vwCl (townW K a T ++ (waysW K b (va_up len s (some v)) (va_up qu n s) (n + 1) ++ X)) H := hP
  have hD : va_D A (townW K a T ++ (waysW K b (va_up len s (some v)) (va_up qu n s) (n + 1) ++ X)) := hD
  exact wr_vret hAe hP hD hS hx hb hr hk dX2_enqueue_31 ⟨Nat.le_of_ble_eq_true rfl, Nat.le_of_ble_eq_true rfl⟩
set_option maxHeartbeats 4000000 in
set_option maxRecDepth 100000 in
theorem c_X2_flood (l : Launch) (D : va_G) (K : Nat → ClassId) (sz : Nat) (a b : Nat → Nat) (T : TW) (X : va_W) (len : Nat → Option Nat) (qu : Nat → Nat) (n : Nat) (p : Nat) (hI : Inv T) (hp : p < 4) (hQ : QI (len, qu, n)) (hB : LB 0 len) : Wr l yX2_flood wsX2_flood ({ frames := 3, cells := 0, slots := 0, locals := 56 } : Room) D K (townW K a T ++ (waysW K b len qu n ++ X)) sz [.ref (b 0), .ref (a 0), .int (nI p)] (townW K a T ++ (waysW K b (floodS T p 80 0 (len, qu, n)).1 (floodS T p 80 0 (len, qu, n)).2.1 (floodS T p 80 0 (len, qu, n)).2.2 ++ X)) none 0 0 := by
  refine wr_intro (cc := cX2_flood) (maxL := 9) (ret := none) (by decide) rfl (Nat.le_of_ble_eq_true rfl) ?_
  intro pr en st md ar bl mt co A hx hb hml hr hts hown hk hsz hAe hP hE hD hS hA hin ls hl
  have hown : st.vm.findClass RX2 = some md.cls := hown
  have hl : lv_has ls 9 [(0, .ref (b 0)), (1, .ref (a 0)), (2, .int (nI p))] := hl
  obtain ⟨H, hH⟩ : ∃ z, z = st.heap := ⟨_, rfl⟩
  obtain ⟨locs, hlo⟩ : ∃ z : List Loc, z = [] := ⟨_, rfl⟩
  have hP : va_P D vwCl (townW K a T ++ (waysW K b len qu n ++ X)) H := by rw [hH]; exact hP
  have hS : va_S A st.heap H locs := by rw [hH, hlo]; exact hS
  suffices go : W pr l en (headSpec wsX2_flood ({ frames := 3, cells := 0, slots := 0, locals := 56 } : Room)).room st md ar bl mt co H locs 0 0 (MQ bl (wrQ D (townW K a T ++ (waysW K b len qu n ++ X)) (townW K a T ++ (waysW K b (floodS T p 80 0 (len, qu, n)).1 (floodS T p 80 0 (len, qu, n)).2.1 (floodS T p 80 0 (len, qu, n)).2.2 ++ X)) sz none) ar st 0 0 A) (F0 md 0 ls []) by rw [hH, hlo] at go; exact go
  clear hH hlo
  have F87 : (Cond.fieldLink RX2 87 "TramTolls$Ways" "queued" "I").before ar st = true := hts _ (List.mem_of_getElem? (i := 1) rfl)
  have inX2 : ∀ w ∈ u_ws RX2 TX2 3, w ∈ wsX2_flood := fun w h => List.mem_cons_of_mem _ (List.mem_append_left _ (List.mem_append_right _ h))
  have F15 : (Cond.fieldLink RX2 15 "TramTolls$Ways" "queue" "[I").before ar st = true := hts _ (List.mem_of_getElem? (i := 2) rfl)
  have IniX3 : (Cond.initialized RX3).before ar st = true := hts _ (List.mem_of_getElem? (i := 5) rfl)
  have Sta_X3_at : (Cond.static yX3_at).before ar st = true := hts _ (List.mem_of_getElem? (i := 4) rfl)
  have F9 : (Cond.fieldLink RX2 9 "TramTolls$Ways" "lengths" "[I").before ar st = true := hts _ (List.mem_of_getElem? (i := 3) rfl)
  have Sta_X3_neighbour : (Cond.static yX3_neighbour).before ar st = true := hts _ (List.mem_of_getElem? (i := 7) rfl)
  have Sta_X3_put : (Cond.static yX3_put).before ar st = true := hts _ (List.mem_of_getElem? (i := 29) rfl)
  refine lv_iconst (v := nI 0) hx hb dX2_flood_0 (by decide) ?_
  refine lv_istore_n (lv' := [(3, .int (nI 0)), (0, .ref (b 0)), (1, .ref (a 0)), (2, .int (nI p))]) hx hb dX2_flood_1 rfl hl (by decide) rfl (fun ls hl => ?_)
  have loop_1 : ∀ (n_2 : Nat) (i : Nat) (lx : Nat → Option Nat) (qx : Nat → Nat) (nx : Nat), (i ≤ 80) → (QI (lx, qx, nx)) → (LB i lx) → (floodS T p 80 0 (len, qu, n) = floodS T p (80 - i) i (lx, qx, nx)) → (80 - i) < n_2 → ∀ (H : Heap) (locs : List Loc), va_P D vwCl (townW K a T ++ (waysW K b lx qx nx ++ X)) H → va_D A (townW K a T ++ (waysW K b lx qx nx ++ X)) → va_S A st.heap H locs →  ∀ x_3 : Int32, x_3 = nI i → ∀ ls : Array Slot, lv_has ls 9 [(0, .ref (b 0)), (1, .ref (a 0)), (2, .int (nI p)), (3, .int x_3)] → W pr l en (headSpec wsX2_flood ({ frames := 3, cells := 0, slots := 0, locals := 56 } : Room)).room st md ar bl mt co H locs 0 0 (MQ bl (wrQ D (townW K a T ++ (waysW K b len qu n ++ X)) (townW K a T ++ (waysW K b (floodS T p 80 0 (len, qu, n)).1 (floodS T p 80 0 (len, qu, n)).2.1 (floodS T p 80 0 (len, qu, n)).2.2 ++ X)) sz none) ar st 0 0 A) (F0 md 2 ls []) := by
    intro n_2
    induction n_2 with
    | zero => intro i lx qx nx _ _ _ _ hn_2; exact absurd hn_2 (Nat.not_lt_zero _)
    | succ n_2 ih_2 =>
      intro i lx qx nx hi hQx hBx he hn_2 H locs hP hD hS x_3 ex_3 ls hl
      subst ex_3
      have hl : lv_has ls 9 [(0, .ref (b 0)), (1, .ref (a 0)), (2, .int (nI p)), (3, .int (nI i))] := hl
      have hnx : nx ≤ 80 := hQx.1
      refine lv_iload_n hx hb dX2_flood_2 rfl (lv_at hl 3 rfl) ?_
      refine lv_aload_n hx hb dX2_flood_3 rfl (lv_at hl 0 rfl) ?_
      refine va_get (D := D) (ci := 2) (v := .int (nI nx)) (C := RX2) (T := TX2) (N := 3) hx hb hts inX2 hown hE.1 hP 12 rfl rfl 2 (by decide) F87 (fun _ h9 => h9) rfl dX2_flood_4 ?_
      refine nv_icmp_ge (x := i) (y := nx) (tgt := 133) hx hb dX2_flood_7 (by decide) (by omega) (by omega) (fun c_2 => ?_) (fun c_2 => ?_)
      · have n_c_2 := Nat.not_lt.mpr c_2
        have ew : (townW K a T ++ (waysW K b lx qx nx ++ X)) = (townW K a T ++ (waysW K b (floodS T p 80 0 (len, qu, n)).1 (floodS T p 80 0 (len, qu, n)).2.1 (floodS T p 80 0 (len, qu, n)).2.2 ++ X)) := by rw [he, flood_done (by first | exact Or.inl c_2 | exact Or.inr c_2)]
        rw [ew] at hP hD
        exact wr_vret hAe hP hD hS hx hb hr hk dX2_flood_133 ⟨Nat.le_of_ble_eq_true rfl, Nat.le_of_ble_eq_true rfl⟩
      · have n_c_2 := Nat.not_le.mpr c_2
        refine lv_iload_n hx hb dX2_flood_10 rfl (lv_at hl 3 rfl) ?_
        refine lv_bipush (v := nI 80) hx hb dX2_flood_11 (by decide) ?_
        refine nv_icmp_ge (x := i) (y := 80) (tgt := 133) hx hb dX2_flood_13 (by decide) (by omega) (by decide) (fun c_3 => ?_) (fun c_3 => ?_)
        · have n_c_3 := Nat.not_lt.mpr c_3
          have ew : (townW K a T ++ (waysW K b lx qx nx ++ X)) = (townW K a T ++ (waysW K b (floodS T p 80 0 (len, qu, n)).1 (floodS T p 80 0 (len, qu, n)).2.1 (floodS T p 80 0 (len, qu, n)).2.2 ++ X)) := by rw [he, flood_done (by first | exact Or.inl c_3 | exact Or.inr c_3 | exact Or.inl c_2 | exact Or.inr c_2)]
          rw [ew] at hP hD
          exact wr_vret hAe hP hD hS hx hb hr hk dX2_flood_133 ⟨Nat.le_of_ble_eq_true rfl, Nat.le_of_ble_eq_true rfl⟩
        · have n_c_3 := Nat.not_le.mpr c_3
          refine lv_aload_n hx hb dX2_flood_16 rfl (lv_at hl 0 rfl) ?_
          refine va_get (D := D) (ci := 2) (v := .ref (b 2)) (C := RX2) (T := TX2) (N := 3) hx hb hts inX2 hown hE.1 hP 12 rfl rfl 1 (by decide) F15 (fun _ h9 => h9) rfl dX2_flood_17 ?_
          refine lv_iload_n hx hb dX2_flood_20 rfl (lv_at hl 3 rfl) ?_
          refine rd_SN (rest := []) ⟨hx, hb, hml, hown, hts⟩ hP hE (c_X3_at l D K _ 14 _ 80 _ i rfl (by omega) (by omega)) (va_cnB (host := RX3) 2 hts gX2_flood_X3_at_n35 rfl rfl rfl hE.2.2.2.2.2.2.1 IniX3 hn_X3_at ⟨Nat.le_of_ble_eq_true rfl, Nat.le_of_ble_eq_true rfl⟩) Sta_X3_at rfl hl.1 rfl (Nat.le_of_ble_eq_true rfl) dX2_flood_21 ⟨Nat.le_of_ble_eq_true rfl, Nat.le_of_ble_eq_true rfl⟩ ?_
          refine top_i (y := nI (qx i)) (rfl) ?_
          have hf := hQx.2.1 i (show i < nx by omega)
          have hf : qx i < 80 := hf
          obtain ⟨w_, hw_⟩ := hQx.2.2.1 i (show i < nx by omega)
          have hw_ : lx (qx i) = some w_ := hw_
          have hwb := hBx _ hf _ hw_
          refine lv_istore (lv' := [(4, .int (nI (qx i))), (0, .ref (b 0)), (1, .ref (a 0)), (2, .int (nI p)), (3, .int (nI i))]) hx hb dX2_flood_24 hl (by decide) rfl (fun ls hl => ?_)
          refine lv_aload_n hx hb dX2_flood_26 rfl (lv_at hl 1 rfl) ?_
          refine va_get (D := D) (ci := 2) (v := .ref (b 1)) (C := RX2) (T := TX2) (N := 3) hx hb hts inX2 hown hE.1 hP 12 rfl rfl 0 (by decide) F9 (fun _ h9 => h9) rfl dX2_flood_27 ?_
          refine lv_iload hx hb dX2_flood_30 (lv_at hl 0 rfl) ?_
          refine rd_SN (rest := []) ⟨hx, hb, hml, hown, hts⟩ hP hE (c_X3_at l D K _ 13 _ 80 _ (qx i) rfl (by omega) (by omega)) (va_cnB (host := RX3) 2 hts gX2_flood_X3_at_n35 rfl rfl rfl hE.2.2.2.2.2.2.1 IniX3 hn_X3_at ⟨Nat.le_of_ble_eq_true rfl, Nat.le_of_ble_eq_true rfl⟩) Sta_X3_at rfl hl.1 rfl (Nat.le_of_ble_eq_true rfl) dX2_flood_32 ⟨Nat.le_of_ble_eq_true rfl, Nat.le_of_ble_eq_true rfl⟩ ?_
          refine top_i (y := oI (lx (qx i))) (rfl) ?_
          refine top_i (y := nI w_) (by rw [hw_]; rfl) ?_
          refine lv_iconst (v := nI 1) hx hb dX2_flood_35 (by decide) ?_
          refine nv_iadd (x := w_) (y := 1) hx hb dX2_flood_36 ?_
          refine lv_istore (lv' := [(5, .int (nI (w_ + 1))), (4, .int (nI (qx i))), (0, .ref (b 0)), (1, .ref (a 0)), (2, .int (nI p)), (3, .int (nI i))]) hx hb dX2_flood_37 hl (by decide) rfl (fun ls hl => ?_)
          refine lv_iconst (v := nI 0) hx hb dX2_flood_39 (by decide) ?_
          refine lv_istore (lv' := [(6, .int (nI 0)), (5, .int (nI (w_ + 1))), (4, .int (nI (qx i))), (0, .ref (b 0)), (1, .ref (a 0)), (2, .int (nI p)), (3, .int (nI i))]) hx hb dX2_flood_40 hl (by decide) rfl (fun ls hl => ?_)
          have loop_4 : ∀ (n_42 : Nat) (d : Nat) (ly : Nat → Option Nat) (qy : Nat → Nat) (ny : Nat), (d ≤ 4) → (QI (ly, qy, ny)) → (LB (i + 1) ly) → (dirsS T p (qx i) (w_ + 1) d (lx, qx, nx) = (ly, qy, ny)) → (4 - d) < n_42 → ∀ (H : Heap) (locs : List Loc), va_P D vwCl (townW K a T ++ (waysW K b ly qy ny ++ X)) H → va_D A (townW K a T ++ (waysW K b ly qy ny ++ X)) → va_S A st.heap H locs →  ∀ x_6 : Int32, x_6 = nI d → ∀ ls : Array Slot, lv_has ls 9 [(0, .ref (b 0)), (1, .ref (a 0)), (2, .int (nI p)), (3, .int (nI i)), (4, .int (nI (qx i))), (5, .int (nI (w_ + 1))), (6, .int x_6)] → W pr l en (headSpec wsX2_flood ({ frames := 3, cells := 0, slots := 0, locals := 56 } : Room)).room st md ar bl mt co H locs 0 0 (MQ bl (wrQ D (townW K a T ++ (waysW K b len qu n ++ X)) (townW K a T ++ (waysW K b (floodS T p 80 0 (len, qu, n)).1 (floodS T p 80 0 (len, qu, n)).2.1 (floodS T p 80 0 (len, qu, n)).2.2 ++ X)) sz none) ar st 0 0 A) (F0 md 42 ls []) := by
            intro n_42
            induction n_42 with
            | zero => intro d ly qy ny _ _ _ _ hn_42; exact absurd hn_42 (Nat.not_lt_zero _)
            | succ n_42 ih_42 =>
              intro d ly qy ny hd hQy hBy hz hn_42 H locs hP hD hS x_6 ex_6 ls hl
              subst ex_6
              have hl : lv_has ls 9 [(0, .ref (b 0)), (1, .ref (a 0)), (2, .int (nI p)), (3, .int (nI i)), (4, .int (nI (qx i))), (5, .int (nI (w_ + 1))), (6, .int (nI d))] := hl
              have hny : ny ≤ 80 := hQy.1
              refine lv_iload hx hb dX2_flood_42 (lv_at hl 6 rfl) ?_
              refine lv_iconst (v := nI 4) hx hb dX2_flood_44 (by decide) ?_
              refine nv_icmp_ge (x := d) (y := 4) (tgt := 127) hx hb dX2_flood_45 (by decide) (by omega) (by decide) (fun c_5 => ?_) (fun c_5 => ?_)
              · have n_c_5 := Nat.not_lt.mpr c_5
                refine lv_iinc (v := nI (i + 1)) (lv' := [(3, .int (nI (i + 1))), (0, .ref (b 0)), (1, .ref (a 0)), (2, .int (nI p)), (4, .int (nI (qx i))), (5, .int (nI (w_ + 1))), (6, .int (nI d))]) hx hb dX2_flood_127 hl (k := 3) rfl (nI_add _ 1) (by decide) rfl (fun ls hl => ?_)
                refine lv_goto (tgt := 2) hx hb dX2_flood_130 (by decide) ?_
                have e4 : d = 4 := by omega
                rw [e4] at hz
                exact ih_2 (i + 1) ly qy ny (by omega) hQy hBy (he.trans (flood_step (w := w_) (show i < nx by omega) (by omega) hw_ hz)) (by omega) _ _ hP hD hS _ rfl ls (lv_sub hl [1, 2, 3, 0] rfl)
              · have n_c_5 := Nat.not_le.mpr c_5
                refine lv_iload hx hb dX2_flood_48 (lv_at hl 4 rfl) ?_
                refine lv_iload hx hb dX2_flood_50 (lv_at hl 6 rfl) ?_
                refine rd_SN (rest := []) ⟨hx, hb, hml, hown, hts⟩ hP hE (c_X3_neighbour l D K _ (qx i) d (by omega) (by omega)) (va_cnB (host := RX3) 2 hts gX2_flood_X3_neighbour_n51 rfl rfl rfl hE.2.2.2.2.2.2.2.1 IniX3 hn_X3_neighbour ⟨Nat.le_of_ble_eq_true rfl, Nat.le_of_ble_eq_true rfl⟩) Sta_X3_neighbour rfl hl.1 rfl (Nat.le_of_ble_eq_true rfl) dX2_flood_52 ⟨Nat.le_of_ble_eq_true rfl, Nat.le_of_ble_eq_true rfl⟩ ?_
                refine lv_istore (lv' := [(7, .int (oI (nbT (qx i) d))), (0, .ref (b 0)), (1, .ref (a 0)), (2, .int (nI p)), (3, .int (nI i)), (4, .int (nI (qx i))), (5, .int (nI (w_ + 1))), (6, .int (nI d))]) hx hb dX2_flood_55 hl (by decide) rfl (fun ls hl => ?_)
                refine lv_iload hx hb dX2_flood_57 (lv_at hl 0 rfl) ?_
                refine lv_iconst (v := -1) hx hb dX2_flood_59 (by decide) ?_
                refine ov_icmp_eq (tgt := 121) hx hb dX2_flood_60 (by decide) (lt31 (nb_lt (show (qx i) < 80 by omega)) (by decide)) (fun c_6 => ?_) (fun k_7 c_6 => ?_)
                · refine lv_iinc (v := nI (d + 1)) (lv' := [(6, .int (nI (d + 1))), (7, .int (oI (nbT (qx i) d))), (0, .ref (b 0)), (1, .ref (a 0)), (2, .int (nI p)), (3, .int (nI i)), (4, .int (nI (qx i))), (5, .int (nI (w_ + 1)))]) hx hb dX2_flood_121 hl (k := 7) rfl (nI_add _ 1) (by decide) rfl (fun ls hl => ?_)
                  refine lv_goto (tgt := 42) hx hb dX2_flood_124 (by decide) ?_
                  exact ih_42 (d + 1) ly qy ny (by omega) hQy hBy (by rw [dirsS, hz]; simp [dirS, enqS, c_2, n_c_2, c_3, n_c_3, c_5, n_c_5, c_6]) (by omega) _ _ hP hD hS _ rfl ls (lv_sub hl [2, 3, 4, 5, 6, 7, 0] rfl)
                · have hk_c_6 := (nb_lt (show (qx i) < 80 by omega)) k_7 c_6
                  refine lv_aload_n hx hb dX2_flood_63 rfl (lv_at hl 1 rfl) ?_
                  refine va_get (D := D) (ci := 2) (v := .ref (b 1)) (C := RX2) (T := TX2) (N := 3) hx hb hts inX2 hown hE.1 hP 12 rfl rfl 0 (by decide) F9 (fun _ h9 => h9) rfl dX2_flood_64 ?_
                  refine lv_iload hx hb dX2_flood_67 (lv_at hl 0 rfl) ?_
                  refine top_i (y := nI k_7) (by rw [c_6]; rfl) ?_
                  refine rd_SN (rest := []) ⟨hx, hb, hml, hown, hts⟩ hP hE (c_X3_at l D K _ 13 _ 80 _ k_7 rfl (by omega) (by omega)) (va_cnB (host := RX3) 2 hts gX2_flood_X3_at_n35 rfl rfl rfl hE.2.2.2.2.2.2.1 IniX3 hn_X3_at ⟨Nat.le_of_ble_eq_true rfl, Nat.le_of_ble_eq_true rfl⟩) Sta_X3_at rfl hl.1 rfl (Nat.le_of_ble_eq_true rfl) dX2_flood_69 ⟨Nat.le_of_ble_eq_true rfl, Nat.le_of_ble_eq_true rfl⟩ ?_
                  refine top_i (y := oI (ly k_7)) (rfl) ?_
                  refine lv_iconst (v := -1) hx hb dX2_flood_72 (by decide) ?_
                  refine ov_icmp_eq (tgt := 79) hx hb dX2_flood_73 (by decide) (hBy.lt (by omega) (by omega)) (fun c_8 => ?_) (fun k_9 c_8 => ?_)
                  · refine lv_aload_n hx hb dX2_flood_79 rfl (lv_at hl 2 rfl) ?_
                    refine lv_iload_n hx hb dX2_flood_80 rfl (lv_at hl 3 rfl) ?_
                    refine lv_iload hx hb dX2_flood_81 (lv_at hl 0 rfl) ?_
                    refine top_i (y := nI k_7) (by rw [c_6]; rfl) ?_
                    refine rd_V (rest := []) (ci := 1) (q0 := 0) ⟨hx, hb, hml, hown, hts⟩ hP hE (c_X1_obstacle l D K _ _ _ p k_7 hI (by omega) (by omega)) (cwV 2 hts gX2_flood_X1_obstacle rfl rfl rfl hd_X1_obstacle ⟨Nat.le_of_ble_eq_true rfl, Nat.le_of_ble_eq_true rfl⟩) rfl rfl rfl rfl hl.1 rfl (Nat.le_of_ble_eq_true rfl) dX2_flood_83 ⟨Nat.le_of_ble_eq_true rfl, Nat.le_of_ble_eq_true rfl⟩ ?_
                    have hb_10 := obs_lt T p k_7
                    refine lv_istore (lv' := [(8, .int (nI (obsT T p k_7))), (7, .int (oI (nbT (qx i) d))), (0, .ref (b 0)), (1, .ref (a 0)), (2, .int (nI p)), (3, .int (nI i)), (4, .int (nI (qx i))), (5, .int (nI (w_ + 1))), (6, .int (nI d))]) hx hb dX2_flood_86 hl (by decide) rfl (fun ls hl => ?_)
                    refine lv_iload hx hb dX2_flood_88 (lv_at hl 0 rfl) ?_
                    refine nv_if_ne (x := obsT T p k_7) (tgt := 104) hx hb dX2_flood_90 (by decide) (by omega) (fun c_11 => ?_) (fun c_11 => ?_)
                    · have n_c_11 : ¬ obsT T p k_7 = 0 := by omega
                      refine lv_iload hx hb dX2_flood_104 (lv_at hl 0 rfl) ?_
                      refine lv_iconst (v := nI 4) hx hb dX2_flood_106 (by decide) ?_
                      refine nv_icmp_ne (x := obsT T p k_7) (y := 4) (tgt := 121) hx hb dX2_flood_107 (by decide) (by omega) (by decide) (fun c_12 => ?_) (fun c_12 => ?_)
                      · refine lv_iinc (v := nI (d + 1)) (lv' := [(6, .int (nI (d + 1))), (8, .int (nI (obsT T p k_7))), (7, .int (oI (nbT (qx i) d))), (0, .ref (b 0)), (1, .ref (a 0)), (2, .int (nI p)), (3, .int (nI i)), (4, .int (nI (qx i))), (5, .int (nI (w_ + 1)))]) hx hb dX2_flood_121 hl (k := 8) rfl (nI_add _ 1) (by decide) rfl (fun ls hl => ?_)
                        refine lv_goto (tgt := 42) hx hb dX2_flood_124 (by decide) ?_
                        exact ih_42 (d + 1) ly qy ny (by omega) hQy hBy (by rw [dirsS, hz]; simp [dirS, enqS, c_2, n_c_2, c_3, n_c_3, c_5, n_c_5, c_6, c_8, c_11, n_c_11, c_12]) (by omega) _ _ hP hD hS _ rfl ls (lv_sub hl [3, 4, 5, 6, 7, 8, 0] rfl)
                      · refine lv_aload_n hx hb dX2_flood_110 rfl (lv_at hl 2 rfl) ?_
                        refine va_get (D := D) (ci := 2) (v := .ref (b 1)) (C := RX2) (T := TX2) (N := 3) hx hb hts inX2 hown hE.1 hP 12 rfl rfl 0 (by decide) F9 (fun _ h9 => h9) rfl dX2_flood_111 ?_
                        refine lv_iload hx hb dX2_flood_114 (lv_at hl 1 rfl) ?_
                        refine top_i (y := nI k_7) (by rw [c_6]; rfl) ?_
                        refine lv_iload hx hb dX2_flood_116 (lv_at hl 7 rfl) ?_
                        refine wr_SN (rest := []) ⟨hx, hb, hml, hown, hts⟩ hP hE hA hD hS (c_X3_put l D K _ _ 13 _ 80 _ k_7 (nI (w_ + 1)) rfl (by omega) (by omega)) (va_cnB (host := RX3) 3 hts gX2_flood_X3_put_n39 rfl rfl rfl hE.2.2.2.2.2.1 IniX3 hn_X3_put ⟨Nat.le_of_ble_eq_true rfl, Nat.le_of_ble_eq_true rfl⟩) Sta_X3_put rfl hl.1 rfl (Nat.le_of_ble_eq_true rfl) dX2_flood_118 ⟨Nat.le_of_ble_eq_true rfl, Nat.le_of_ble_eq_true rfl⟩ (fun H locs hP hD hS => ?_)
                        rw [updON ly k_7 (w_ + 1)] at hP hD
                        have hP : va_P D vwCl (townW K a T ++ (waysW K b (va_up ly k_7 (some (w_ + 1))) qy ny ++ X)) H := hP
                        have hD : va_D A (townW K a T ++ (waysW K b (va_up ly k_7 (some (w_ + 1))) qy ny ++ X)) := hD
                        refine lv_iinc (v := nI (d + 1)) (lv' := [(6, .int (nI (d + 1))), (8, .int (nI (obsT T p k_7))), (7, .int (oI (nbT (qx i) d))), (0, .ref (b 0)), (1, .ref (a 0)), (2, .int (nI p)), (3, .int (nI i)), (4, .int (nI (qx i))), (5, .int (nI (w_ + 1)))]) hx hb dX2_flood_121 hl (k := 8) rfl (nI_add _ 1) (by decide) rfl (fun ls hl => ?_)
                        refine lv_goto (tgt := 42) hx hb dX2_flood_124 (by decide) ?_
                        exact ih_42 (d + 1) (va_up ly k_7 (some (w_ + 1))) qy ny (by omega) hQy.mark (hBy.up (by omega)) (by rw [dirsS, hz]; simp [dirS, enqS, c_2, n_c_2, c_3, n_c_3, c_5, n_c_5, c_6, c_8, c_11, n_c_11, c_12]) (by omega) _ _ hP hD hS _ rfl ls (lv_sub hl [3, 4, 5, 6, 7, 8, 0] rfl)
                    · have n_c_11 : ¬ 0 < obsT T p k_7 := by omega
                      refine lv_aload_n hx hb dX2_flood_93 rfl (lv_at hl 2 rfl) ?_
                      refine lv_iload hx hb dX2_flood_94 (lv_at hl 1 rfl) ?_
                      refine top_i (y := nI k_7) (by rw [c_6]; rfl) ?_
                      refine lv_iload hx hb dX2_flood_96 (lv_at hl 7 rfl) ?_
                      refine wr_V (rest := []) (ci := 2) (q0 := 12) ⟨hx, hb, hml, hown, hts⟩ hP hE hA hD hS (c_X2_enqueue l D K _ _ _ _ _ _ _ _ k_7 (w_ + 1) (by omega) (show ny < 80 from hQy.room (t := k_7) (by omega) (by assumption))) (cwV 2 hts gX2_flood_X2_enqueue rfl rfl rfl hd_X2_enqueue ⟨Nat.le_of_ble_eq_true rfl, Nat.le_of_ble_eq_true rfl⟩) rfl rfl rfl rfl hl.1 rfl (Nat.le_of_ble_eq_true rfl) dX2_flood_98 ⟨Nat.le_of_ble_eq_true rfl, Nat.le_of_ble_eq_true rfl⟩ (fun H locs hP hD hS => ?_)
                      have hP : va_P D vwCl (townW K a T ++ (waysW K b (va_up ly k_7 (some (w_ + 1))) (va_up qy ny k_7) (ny + 1) ++ X)) H := hP
                      have hD : va_D A (townW K a T ++ (waysW K b (va_up ly k_7 (some (w_ + 1))) (va_up qy ny k_7) (ny + 1) ++ X)) := hD
                      refine lv_goto (tgt := 121) hx hb dX2_flood_101 (by decide) ?_
                      refine lv_iinc (v := nI (d + 1)) (lv' := [(6, .int (nI (d + 1))), (8, .int (nI (obsT T p k_7))), (7, .int (oI (nbT (qx i) d))), (0, .ref (b 0)), (1, .ref (a 0)), (2, .int (nI p)), (3, .int (nI i)), (4, .int (nI (qx i))), (5, .int (nI (w_ + 1)))]) hx hb dX2_flood_121 hl (k := 8) rfl (nI_add _ 1) (by decide) rfl (fun ls hl => ?_)
                      refine lv_goto (tgt := 42) hx hb dX2_flood_124 (by decide) ?_
                      exact ih_42 (d + 1) (va_up ly k_7 (some (w_ + 1))) (va_up qy ny k_7) (ny + 1) (by omega) (hQy.enq (t := k_7) (by omega) (by assumption)) (hBy.up (by omega)) (by rw [dirsS, hz]; simp [dirS, enqS, c_2, n_c_2, c_3, n_c_3, c_5, n_c_5, c_6, c_8, c_11, n_c_11]) (by omega) _ _ hP hD hS _ rfl ls (lv_sub hl [3, 4, 5, 6, 7, 8, 0] rfl)
                  · have hk_c_8 := (hBy.lt (by omega) (by omega)) k_9 c_8
                    refine lv_goto (tgt := 121) hx hb dX2_flood_76 (by decide) ?_
                    refine lv_iinc (v := nI (d + 1)) (lv' := [(6, .int (nI (d + 1))), (7, .int (oI (nbT (qx i) d))), (0, .ref (b 0)), (1, .ref (a 0)), (2, .int (nI p)), (3, .int (nI i)), (4, .int (nI (qx i))), (5, .int (nI (w_ + 1)))]) hx hb dX2_flood_121 hl (k := 7) rfl (nI_add _ 1) (by decide) rfl (fun ls hl => ?_)
                    refine lv_goto (tgt := 42) hx hb dX2_flood_124 (by decide) ?_
                    exact ih_42 (d + 1) ly qy ny (by omega) hQy hBy (by rw [dirsS, hz]; simp [dirS, enqS, c_2, n_c_2, c_3, n_c_3, c_5, n_c_5, c_6, c_8]) (by omega) _ _ hP hD hS _ rfl ls (lv_sub hl [2, 3, 4, 5, 6, 7, 0] rfl)
          exact loop_4 _ 0 lx qx nx (by decide) hQx (hBx.mono (by omega)) rfl (Nat.lt_succ_self _) _ _ hP hD hS _ rfl ls (lv_sub hl [3, 4, 5, 6, 2, 1, 0] rfl)
  exact loop_1 _ 0 len qu n (by decide) hQ hB rfl (Nat.lt_succ_self _) _ _ hP hD hS _ rfl ls (lv_sub hl [1, 2, 3, 0] rfl)
set_option maxHeartbeats 4000000 in
set_option maxRecDepth 100000 in
theorem c_X2_fewestPieces (l : Launch) (D : va_G) (K : Nat → ClassId) (sz : Nat) (a b : Nat → Nat) (T : TW) (X : va_W) (len : Nat → Option Nat) (qu : Nat → Nat) (n : Nat) (p g : Nat) (hI : Inv T) (hp : p < 4) (hg : g < 80) : Wr l yX2_fewestPieces wsX2_fewestPieces ({ frames := 4, cells := 0, slots := 0, locals := 84 } : Room) D K (townW K a T ++ (waysW K b len qu n ++ X)) sz [.ref (b 0), .ref (a 0), .int (nI p), .int (nI g)] (townW K a T ++ (waysW K b (fewS T p qu).1 (fewS T p qu).2.1 (fewS T p qu).2.2 ++ X)) (some (.int (oI ((fewS T p qu).1 g)))) 0 0 := by
  refine wr_intro (cc := cX2_fewestPieces) (maxL := 5) (ret := (some .int)) (by decide) rfl (Nat.le_of_ble_eq_true rfl) ?_
  intro pr en st md ar bl mt co A hx hb hml hr hts hown hk hsz hAe hP hE hD hS hA hin ls hl
  have hown : st.vm.findClass RX2 = some md.cls := hown
  have hl : lv_has ls 5 [(0, .ref (b 0)), (1, .ref (a 0)), (2, .int (nI p)), (3, .int (nI g))] := hl
  obtain ⟨H, hH⟩ : ∃ z, z = st.heap := ⟨_, rfl⟩
  obtain ⟨locs, hlo⟩ : ∃ z : List Loc, z = [] := ⟨_, rfl⟩
  have hP : va_P D vwCl (townW K a T ++ (waysW K b len qu n ++ X)) H := by rw [hH]; exact hP
  have hS : va_S A st.heap H locs := by rw [hH, hlo]; exact hS
  suffices go : W pr l en (headSpec wsX2_fewestPieces ({ frames := 4, cells := 0, slots := 0, locals := 84 } : Room)).room st md ar bl mt co H locs 0 0 (MQ bl (wrQ D (townW K a T ++ (waysW K b len qu n ++ X)) (townW K a T ++ (waysW K b (fewS T p qu).1 (fewS T p qu).2.1 (fewS T p qu).2.2 ++ X)) sz (some (.int (oI ((fewS T p qu).1 g))))) ar st 0 0 A) (F0 md 0 ls []) by rw [hH, hlo] at go; exact go
  clear hH hlo
  have F9 : (Cond.fieldLink RX2 9 "TramTolls$Ways" "lengths" "[I").before ar st = true := hts _ (List.mem_of_getElem? (i := 1) rfl)
  have inX2 : ∀ w ∈ u_ws RX2 TX2 3, w ∈ wsX2_fewestPieces := fun w h => List.mem_cons_of_mem _ (List.mem_append_left _ (List.mem_append_right _ h))
  have IniX3 : (Cond.initialized RX3).before ar st = true := hts _ (List.mem_of_getElem? (i := 19) rfl)
  have Sta_X3_at : (Cond.static yX3_at).before ar st = true := hts _ (List.mem_of_getElem? (i := 18) rfl)
  refine lv_aload_n hx hb dX2_fewestPieces_0 rfl (lv_at hl 0 rfl) ?_
  refine wr_V (rest := []) (ci := 2) (q0 := 12) ⟨hx, hb, hml, hown, hts⟩ hP hE hA hD hS (c_X2_clearLengths l D K _ _ _ _ _ _ _ _) (cwV 0 hts gX2_fewestPieces_X2_clearLengths rfl rfl rfl hd_X2_clearLengths ⟨Nat.le_of_ble_eq_true rfl, Nat.le_of_ble_eq_true rfl⟩) rfl rfl rfl rfl hl.1 rfl (Nat.le_of_ble_eq_true rfl) dX2_fewestPieces_1 ⟨Nat.le_of_ble_eq_true rfl, Nat.le_of_ble_eq_true rfl⟩ (fun H locs hP hD hS => ?_)
  have hP : va_P D vwCl (townW K a T ++ (waysW K b (fun _ => none) qu 0 ++ X)) H := hP
  have hD : va_D A (townW K a T ++ (waysW K b (fun _ => none) qu 0 ++ X)) := hD
  refine lv_iconst (v := nI 0) hx hb dX2_fewestPieces_4 (by decide) ?_
  refine lv_istore (lv' := [(4, .int (nI 0)), (0, .ref (b 0)), (1, .ref (a 0)), (2, .int (nI p)), (3, .int (nI g))]) hx hb dX2_fewestPieces_5 hl (by decide) rfl (fun ls hl => ?_)
  have loop_1 : ∀ (n_7 : Nat) (i : Nat) (lx : Nat → Option Nat) (qx : Nat → Nat) (nx : Nat), (i ≤ 80) → (QI (lx, qx, nx)) → (LB 0 lx) → (nx ≤ i) → (∀ j, i ≤ j → lx j = none) → (seedS T p i (fun _ => none, qu, 0) = (lx, qx, nx)) → (80 - i) < n_7 → ∀ (H : Heap) (locs : List Loc), va_P D vwCl (townW K a T ++ (waysW K b lx qx nx ++ X)) H → va_D A (townW K a T ++ (waysW K b lx qx nx ++ X)) → va_S A st.heap H locs →  ∀ x_4 : Int32, x_4 = nI i → ∀ ls : Array Slot, lv_has ls 5 [(0, .ref (b 0)), (1, .ref (a 0)), (2, .int (nI p)), (3, .int (nI g)), (4, .int x_4)] → W pr l en (headSpec wsX2_fewestPieces ({ frames := 4, cells := 0, slots := 0, locals := 84 } : Room)).room st md ar bl mt co H locs 0 0 (MQ bl (wrQ D (townW K a T ++ (waysW K b len qu n ++ X)) (townW K a T ++ (waysW K b (fewS T p qu).1 (fewS T p qu).2.1 (fewS T p qu).2.2 ++ X)) sz (some (.int (oI ((fewS T p qu).1 g))))) ar st 0 0 A) (F0 md 7 ls []) := by
    intro n_7
    induction n_7 with
    | zero => intro i lx qx nx _ _ _ _ _ _ hn_7; exact absurd hn_7 (Nat.not_lt_zero _)
    | succ n_7 ih_7 =>
      intro i lx qx nx hi hQx hBx hn hfr he hn_7 H locs hP hD hS x_4 ex_4 ls hl
      subst ex_4
      have hl : lv_has ls 5 [(0, .ref (b 0)), (1, .ref (a 0)), (2, .int (nI p)), (3, .int (nI g)), (4, .int (nI i))] := hl
      refine lv_iload hx hb dX2_fewestPieces_7 (lv_at hl 4 rfl) ?_
      refine lv_bipush (v := nI 80) hx hb dX2_fewestPieces_9 (by decide) ?_
      refine nv_icmp_ge (x := i) (y := 80) (tgt := 37) hx hb dX2_fewestPieces_11 (by decide) (by omega) (by decide) (fun c_2 => ?_) (fun c_2 => ?_)
      · have n_c_2 := Nat.not_lt.mpr c_2
        have e80 : i = 80 := by omega
        rw [e80] at he
        refine lv_aload_n hx hb dX2_fewestPieces_37 rfl (lv_at hl 0 rfl) ?_
        refine lv_aload_n hx hb dX2_fewestPieces_38 rfl (lv_at hl 1 rfl) ?_
        refine lv_iload_n hx hb dX2_fewestPieces_39 rfl (lv_at hl 2 rfl) ?_
        refine wr_V (rest := []) (ci := 2) (q0 := 12) ⟨hx, hb, hml, hown, hts⟩ hP hE hA hD hS (c_X2_flood l D K _ _ _ _ _ lx qx nx p hI (by omega) hQx hBx) (cwV 2 hts gX2_fewestPieces_X2_flood rfl rfl rfl hd_X2_flood ⟨Nat.le_of_ble_eq_true rfl, Nat.le_of_ble_eq_true rfl⟩) rfl rfl rfl rfl hl.1 rfl (Nat.le_of_ble_eq_true rfl) dX2_fewestPieces_40 ⟨Nat.le_of_ble_eq_true rfl, Nat.le_of_ble_eq_true rfl⟩ (fun H locs hP hD hS => ?_)
        rw [← he] at hP hD
        have hP : va_P D vwCl (townW K a T ++ (waysW K b (fewS T p qu).1 (fewS T p qu).2.1 (fewS T p qu).2.2 ++ X)) H := hP
        have hD : va_D A (townW K a T ++ (waysW K b (fewS T p qu).1 (fewS T p qu).2.1 (fewS T p qu).2.2 ++ X)) := hD
        refine lv_aload_n hx hb dX2_fewestPieces_43 rfl (lv_at hl 0 rfl) ?_
        refine va_get (D := D) (ci := 2) (v := .ref (b 1)) (C := RX2) (T := TX2) (N := 3) hx hb hts inX2 hown hE.1 hP 12 rfl rfl 0 (by decide) F9 (fun _ h9 => h9) rfl dX2_fewestPieces_44 ?_
        refine lv_iload_n hx hb dX2_fewestPieces_47 rfl (lv_at hl 3 rfl) ?_
        refine rd_SN (rest := []) ⟨hx, hb, hml, hown, hts⟩ hP hE (c_X3_at l D K _ 13 _ 80 _ g rfl (by omega) (by omega)) (va_cnB (host := RX3) 2 hts gX2_fewestPieces_X3_at_n35 rfl rfl rfl hE.2.2.2.2.2.2.1 IniX3 hn_X3_at ⟨Nat.le_of_ble_eq_true rfl, Nat.le_of_ble_eq_true rfl⟩) Sta_X3_at rfl hl.1 rfl (Nat.le_of_ble_eq_true rfl) dX2_fewestPieces_48 ⟨Nat.le_of_ble_eq_true rfl, Nat.le_of_ble_eq_true rfl⟩ ?_
        refine top_i (y := oI (((fewS T p qu).1) g)) (rfl) ?_
        exact wr_iret hAe hP hD hS hx hb hr hk dX2_fewestPieces_51 ⟨Nat.le_of_ble_eq_true rfl, Nat.le_of_ble_eq_true rfl⟩ (by simp [c_2, n_c_2])
      · have n_c_2 := Nat.not_le.mpr c_2
        refine lv_aload_n hx hb dX2_fewestPieces_14 rfl (lv_at hl 1 rfl) ?_
        refine lv_iload_n hx hb dX2_fewestPieces_15 rfl (lv_at hl 2 rfl) ?_
        refine lv_iload hx hb dX2_fewestPieces_16 (lv_at hl 4 rfl) ?_
        refine rd_V (rest := []) (ci := 1) (q0 := 0) ⟨hx, hb, hml, hown, hts⟩ hP hE (c_X1_hasTrack l D K _ _ _ p i hI (by omega) (by omega)) (cwV 2 hts gX2_fewestPieces_X1_hasTrack rfl rfl rfl hd_X1_hasTrack ⟨Nat.le_of_ble_eq_true rfl, Nat.le_of_ble_eq_true rfl⟩) rfl rfl rfl rfl hl.1 rfl (Nat.le_of_ble_eq_true rfl) dX2_fewestPieces_18 ⟨Nat.le_of_ble_eq_true rfl, Nat.le_of_ble_eq_true rfl⟩ ?_
        refine bv_if_eq (x := hasT T p i) (tgt := 31) hx hb dX2_fewestPieces_21 (by decide) (fun c_3 => ?_) (fun c_3 => ?_)
        · refine lv_iinc (v := nI (i + 1)) (lv' := [(4, .int (nI (i + 1))), (0, .ref (b 0)), (1, .ref (a 0)), (2, .int (nI p)), (3, .int (nI g))]) hx hb dX2_fewestPieces_31 hl (k := 4) rfl (nI_add _ 1) (by decide) rfl (fun ls hl => ?_)
          refine lv_goto (tgt := 7) hx hb dX2_fewestPieces_34 (by decide) ?_
          exact ih_7 (i + 1) lx qx nx (by omega) hQx hBx (by omega) (fun j hj => hfr j (by omega)) (by rw [seedS, he, if_neg (by simp [c_2, n_c_2, c_3])]) (by omega) _ _ hP hD hS _ rfl ls (lv_sub hl [1, 2, 3, 4, 0] rfl)
        · refine lv_aload_n hx hb dX2_fewestPieces_24 rfl (lv_at hl 0 rfl) ?_
          refine lv_iload hx hb dX2_fewestPieces_25 (lv_at hl 4 rfl) ?_
          refine lv_iconst (v := nI 0) hx hb dX2_fewestPieces_27 (by decide) ?_
          refine wr_V (rest := []) (ci := 2) (q0 := 12) ⟨hx, hb, hml, hown, hts⟩ hP hE hA hD hS (c_X2_enqueue l D K _ _ _ _ _ _ _ _ i 0 (by omega) (by omega)) (cwV 2 hts gX2_fewestPieces_X2_enqueue rfl rfl rfl hd_X2_enqueue ⟨Nat.le_of_ble_eq_true rfl, Nat.le_of_ble_eq_true rfl⟩) rfl rfl rfl rfl hl.1 rfl (Nat.le_of_ble_eq_true rfl) dX2_fewestPieces_28 ⟨Nat.le_of_ble_eq_true rfl, Nat.le_of_ble_eq_true rfl⟩ (fun H locs hP hD hS => ?_)
          have hP : va_P D vwCl (townW K a T ++ (waysW K b (va_up lx i (some 0)) (va_up qx nx i) (nx + 1) ++ X)) H := hP
          have hD : va_D A (townW K a T ++ (waysW K b (va_up lx i (some 0)) (va_up qx nx i) (nx + 1) ++ X)) := hD
          refine lv_iinc (v := nI (i + 1)) (lv' := [(4, .int (nI (i + 1))), (0, .ref (b 0)), (1, .ref (a 0)), (2, .int (nI p)), (3, .int (nI g))]) hx hb dX2_fewestPieces_31 hl (k := 4) rfl (nI_add _ 1) (by decide) rfl (fun ls hl => ?_)
          refine lv_goto (tgt := 7) hx hb dX2_fewestPieces_34 (by decide) ?_
          exact ih_7 (i + 1) (va_up lx i (some 0)) (va_up qx nx i) (nx + 1) (by omega) (hQx.enq (t := i) (by omega) (hfr i (by omega))) (hBx.up (by omega)) (by omega) (fun j hj => by rw [va_up_ne _ _ (by omega)]; exact hfr j (by omega)) (by rw [seedS, he, if_pos (by assumption)]; rfl) (by omega) _ _ hP hD hS _ rfl ls (lv_sub hl [1, 2, 3, 4, 0] rfl)
  exact loop_1 _ 0 (fun _ => none) qu 0 (by decide) (⟨Nat.zero_le _, fun j hj => absurd hj (Nat.not_lt_zero j), fun j hj => absurd hj (Nat.not_lt_zero j), fun i j _ hj => absurd hj (Nat.not_lt_zero j)⟩) LB.non (by decide) (fun _ _ => rfl) rfl (Nat.lt_succ_self _) _ _ hP hD hS _ rfl ls (lv_sub hl [1, 2, 3, 4, 0] rfl)
set_option maxHeartbeats 4000000 in
set_option maxRecDepth 100000 in
theorem c_X2_nearestOfLine (l : Launch) (D : va_G) (K : Nat → ClassId) (a b : Nat → Nat) (T : TW) (X : va_W) (len : Nat → Option Nat) (qu : Nat → Nat) (n : Nat) (p : Nat) (hI : Inv T) (hp : p < 4) (hB : LB 1000 len) : Rd l yX2_nearestOfLine wsX2_nearestOfLine ({ frames := 3, cells := 0, slots := 0, locals := 55 } : Room) D K (townW K a T ++ (waysW K b len qu n ++ X)) [.ref (b 0), .ref (a 0), .int (nI p)] (.int (oI (nolS T p len 80))) := by
  refine rd_intro (cc := cX2_nearestOfLine) (maxL := 5) (ret := (some .int)) (by decide) rfl (Nat.le_of_ble_eq_true rfl) ?_
  intro pr en st md ar bl mt co hx hb hml hr hts hown hk hP hE ls hl
  have hown : st.vm.findClass RX2 = some md.cls := hown
  have hl : lv_has ls 5 [(0, .ref (b 0)), (1, .ref (a 0)), (2, .int (nI p))] := hl
  have F9 : (Cond.fieldLink RX2 9 "TramTolls$Ways" "lengths" "[I").before ar st = true := hts _ (List.mem_of_getElem? (i := 1) rfl)
  have inX2 : ∀ w ∈ u_ws RX2 TX2 3, w ∈ wsX2_nearestOfLine := fun w h => List.mem_cons_of_mem _ (List.mem_append_left _ (List.mem_append_right _ h))
  have IniX3 : (Cond.initialized RX3).before ar st = true := hts _ (List.mem_of_getElem? (i := 9) rfl)
  have Sta_X3_at : (Cond.static yX3_at).before ar st = true := hts _ (List.mem_of_getElem? (i := 8) rfl)
  have Sta_X3_lesser : (Cond.static yX3_lesser).before ar st = true := hts _ (List.mem_of_getElem? (i := 11) rfl)
  refine lv_iconst (v := -1) hx hb dX2_nearestOfLine_0 (by decide) ?_
  refine lv_istore_n (lv' := [(3, .int (-1)), (0, .ref (b 0)), (1, .ref (a 0)), (2, .int (nI p))]) hx hb dX2_nearestOfLine_1 rfl hl (by decide) rfl (fun ls hl => ?_)
  refine lv_iconst (v := nI 0) hx hb dX2_nearestOfLine_2 (by decide) ?_
  refine lv_istore (lv' := [(4, .int (nI 0)), (3, .int (-1)), (0, .ref (b 0)), (1, .ref (a 0)), (2, .int (nI p))]) hx hb dX2_nearestOfLine_3 hl (by decide) rfl (fun ls hl => ?_)
  have loop_1 : ∀ (n_5 : Nat) (i : Nat), (i ≤ 80) → (80 - i) < n_5 →  ∀ x_3 : Int32, x_3 = oI (nolS T p len i) → ∀ x_4 : Int32, x_4 = nI i → ∀ ls : Array Slot, lv_has ls 5 [(0, .ref (b 0)), (1, .ref (a 0)), (2, .int (nI p)), (3, .int x_3), (4, .int x_4)] → W pr l en (headSpec wsX2_nearestOfLine ({ frames := 3, cells := 0, slots := 0, locals := 55 } : Room)).room st md ar bl mt co st.heap [] 0 0 (MQ bl (rdQ (.int (oI (nolS T p len 80)))) ar st 0 0 (fun _ => False)) (F0 md 5 ls []) := by
    intro n_5
    induction n_5 with
    | zero => intro i _ hn_5; exact absurd hn_5 (Nat.not_lt_zero _)
    | succ n_5 ih_5 =>
      intro i hi hn_5 x_3 ex_3 x_4 ex_4 ls hl
      subst ex_3
      subst ex_4
      have hl : lv_has ls 5 [(0, .ref (b 0)), (1, .ref (a 0)), (2, .int (nI p)), (3, .int (oI (nolS T p len i))), (4, .int (nI i))] := hl
      refine lv_iload hx hb dX2_nearestOfLine_5 (lv_at hl 4 rfl) ?_
      refine lv_bipush (v := nI 80) hx hb dX2_nearestOfLine_7 (by decide) ?_
      refine nv_icmp_ge (x := i) (y := 80) (tgt := 42) hx hb dX2_nearestOfLine_9 (by decide) (by omega) (by decide) (fun c_2 => ?_) (fun c_2 => ?_)
      · have n_c_2 := Nat.not_lt.mpr c_2
        refine lv_iload_n hx hb dX2_nearestOfLine_42 rfl (lv_at hl 3 rfl) ?_
        exact rd_iret hx hb hr hk dX2_nearestOfLine_43 (by rw [show i = 80 from by omega])
      · have n_c_2 := Nat.not_le.mpr c_2
        refine lv_aload_n hx hb dX2_nearestOfLine_12 rfl (lv_at hl 1 rfl) ?_
        refine lv_iload_n hx hb dX2_nearestOfLine_13 rfl (lv_at hl 2 rfl) ?_
        refine lv_iload hx hb dX2_nearestOfLine_14 (lv_at hl 4 rfl) ?_
        refine rd_V (rest := []) (ci := 1) (q0 := 0) ⟨hx, hb, hml, hown, hts⟩ hP hE (c_X1_hasTrack l D K _ _ _ p i hI (by omega) (by omega)) (cwV 2 hts gX2_nearestOfLine_X1_hasTrack rfl rfl rfl hd_X1_hasTrack ⟨Nat.le_of_ble_eq_true rfl, Nat.le_of_ble_eq_true rfl⟩) rfl rfl rfl rfl hl.1 rfl (Nat.le_of_ble_eq_true rfl) dX2_nearestOfLine_16 ⟨Nat.zero_le _, Nat.zero_le _⟩ ?_
        refine bv_if_eq (x := hasT T p i) (tgt := 36) hx hb dX2_nearestOfLine_19 (by decide) (fun c_3 => ?_) (fun c_3 => ?_)
        · refine lv_iinc (v := nI (i + 1)) (lv' := [(4, .int (nI (i + 1))), (0, .ref (b 0)), (1, .ref (a 0)), (2, .int (nI p)), (3, .int (oI (nolS T p len i)))]) hx hb dX2_nearestOfLine_36 hl (k := 4) rfl (nI_add _ 1) (by decide) rfl (fun ls hl => ?_)
          refine lv_goto (tgt := 5) hx hb dX2_nearestOfLine_39 (by decide) ?_
          exact ih_5 (i + 1) (by omega) (by omega) _ (by rw [nolS, if_neg (by simp [c_2, n_c_2, c_3])]) _ rfl ls (lv_sub hl [1, 2, 3, 4, 0] rfl)
        · refine lv_iload_n hx hb dX2_nearestOfLine_22 rfl (lv_at hl 3 rfl) ?_
          refine lv_aload_n hx hb dX2_nearestOfLine_23 rfl (lv_at hl 0 rfl) ?_
          refine va_get (D := D) (ci := 2) (v := .ref (b 1)) (C := RX2) (T := TX2) (N := 3) hx hb hts inX2 hown hE.1 hP 12 rfl rfl 0 (by decide) F9 (fun _ h9 => h9) rfl dX2_nearestOfLine_24 ?_
          refine lv_iload hx hb dX2_nearestOfLine_27 (lv_at hl 4 rfl) ?_
          refine rd_SN (rest := [.int (oI (nolS T p len i))]) ⟨hx, hb, hml, hown, hts⟩ hP hE (c_X3_at l D K _ 13 _ 80 _ i rfl (by omega) (by omega)) (va_cnB (host := RX3) 2 hts gX2_nearestOfLine_X3_at_n35 rfl rfl rfl hE.2.2.2.2.2.2.1 IniX3 hn_X3_at ⟨Nat.le_of_ble_eq_true rfl, Nat.le_of_ble_eq_true rfl⟩) Sta_X3_at rfl hl.1 rfl (Nat.le_of_ble_eq_true rfl) dX2_nearestOfLine_29 ⟨Nat.zero_le _, Nat.zero_le _⟩ ?_
          refine top_i (y := oI (len i)) (rfl) ?_
          refine rd_SN (rest := []) ⟨hx, hb, hml, hown, hts⟩ hP hE (c_X3_lesser l D K _ (nolS T p len i) (len i) (lt31 (nol_lt hB i hi) (by decide)) (hB.lt (by omega) (by omega))) (va_cnB (host := RX3) 2 hts gX2_nearestOfLine_X3_lesser_n54 rfl rfl rfl hE.2.2.2.2.2.2.2.2.1 IniX3 hn_X3_lesser ⟨Nat.le_of_ble_eq_true rfl, Nat.le_of_ble_eq_true rfl⟩) Sta_X3_lesser rfl hl.1 rfl (Nat.le_of_ble_eq_true rfl) dX2_nearestOfLine_32 ⟨Nat.zero_le _, Nat.zero_le _⟩ ?_
          refine lv_istore_n (lv' := [(3, .int (oI (lesO (nolS T p len i) (len i)))), (0, .ref (b 0)), (1, .ref (a 0)), (2, .int (nI p)), (4, .int (nI i))]) hx hb dX2_nearestOfLine_35 rfl hl (by decide) rfl (fun ls hl => ?_)
          refine lv_iinc (v := nI (i + 1)) (lv' := [(4, .int (nI (i + 1))), (3, .int (oI (lesO (nolS T p len i) (len i)))), (0, .ref (b 0)), (1, .ref (a 0)), (2, .int (nI p))]) hx hb dX2_nearestOfLine_36 hl (k := 4) rfl (nI_add _ 1) (by decide) rfl (fun ls hl => ?_)
          refine lv_goto (tgt := 5) hx hb dX2_nearestOfLine_39 (by decide) ?_
          exact ih_5 (i + 1) (by omega) (by omega) _ (by rw [nolS, if_pos (by assumption)]) _ rfl ls (lv_sub hl [2, 3, 4, 1, 0] rfl)
  exact loop_1 _ 0 (by decide) (Nat.lt_succ_self _) _ rfl _ rfl ls (lv_sub hl [2, 3, 4, 1, 0] rfl)
set_option maxHeartbeats 4000000 in
set_option maxRecDepth 100000 in
theorem c_X2_floodFromMissingStops (l : Launch) (D : va_G) (K : Nat → ClassId) (sz : Nat) (a b : Nat → Nat) (T : TW) (X : va_W) (len : Nat → Option Nat) (qu : Nat → Nat) (n : Nat) (p : Nat) (hI : Inv T) (hp : p < 4) : Wr l yX2_floodFromMissingStops wsX2_floodFromMissingStops ({ frames := 4, cells := 0, slots := 0, locals := 84 } : Room) D K (townW K a T ++ (waysW K b len qu n ++ X)) sz [.ref (b 0), .ref (a 0), .int (nI p)] (townW K a T ++ (waysW K b (mfS T p qu).1 (mfS T p qu).2.1 (mfS T p qu).2.2 ++ X)) none 0 0 := by
  refine wr_intro (cc := cX2_floodFromMissingStops) (maxL := 5) (ret := none) (by decide) rfl (Nat.le_of_ble_eq_true rfl) ?_
  intro pr en st md ar bl mt co A hx hb hml hr hts hown hk hsz hAe hP hE hD hS hA hin ls hl
  have hown : st.vm.findClass RX2 = some md.cls := hown
  have hl : lv_has ls 5 [(0, .ref (b 0)), (1, .ref (a 0)), (2, .int (nI p))] := hl
  obtain ⟨H, hH⟩ : ∃ z, z = st.heap := ⟨_, rfl⟩
  obtain ⟨locs, hlo⟩ : ∃ z : List Loc, z = [] := ⟨_, rfl⟩
  have hP : va_P D vwCl (townW K a T ++ (waysW K b len qu n ++ X)) H := by rw [hH]; exact hP
  have hS : va_S A st.heap H locs := by rw [hH, hlo]; exact hS
  suffices go : W pr l en (headSpec wsX2_floodFromMissingStops ({ frames := 4, cells := 0, slots := 0, locals := 84 } : Room)).room st md ar bl mt co H locs 0 0 (MQ bl (wrQ D (townW K a T ++ (waysW K b len qu n ++ X)) (townW K a T ++ (waysW K b (mfS T p qu).1 (mfS T p qu).2.1 (mfS T p qu).2.2 ++ X)) sz none) ar st 0 0 A) (F0 md 0 ls []) by rw [hH, hlo] at go; exact go
  clear hH hlo
  have F75 : (Cond.fieldLink RX2 75 "TramTolls$Town" "stopSquares" "[I").before ar st = true := hts _ (List.mem_of_getElem? (i := 1) rfl)
  have inX1 : ∀ w ∈ u_ws RX1 TX1 12, w ∈ wsX2_floodFromMissingStops := fun w h => List.mem_cons_of_mem _ (List.mem_append_left _ (List.mem_append_right _ h))
  have IniX3 : (Cond.initialized RX3).before ar st = true := hts _ (List.mem_of_getElem? (i := 14) rfl)
  have Sta_X3_at : (Cond.static yX3_at).before ar st = true := hts _ (List.mem_of_getElem? (i := 13) rfl)
  refine lv_aload_n hx hb dX2_floodFromMissingStops_0 rfl (lv_at hl 0 rfl) ?_
  refine wr_V (rest := []) (ci := 2) (q0 := 12) ⟨hx, hb, hml, hown, hts⟩ hP hE hA hD hS (c_X2_clearLengths l D K _ _ _ _ _ _ _ _) (cwV 0 hts gX2_floodFromMissingStops_X2_clearLengths rfl rfl rfl hd_X2_clearLengths ⟨Nat.le_of_ble_eq_true rfl, Nat.le_of_ble_eq_true rfl⟩) rfl rfl rfl rfl hl.1 rfl (Nat.le_of_ble_eq_true rfl) dX2_floodFromMissingStops_1 ⟨Nat.le_of_ble_eq_true rfl, Nat.le_of_ble_eq_true rfl⟩ (fun H locs hP hD hS => ?_)
  have hP : va_P D vwCl (townW K a T ++ (waysW K b (fun _ => none) qu 0 ++ X)) H := hP
  have hD : va_D A (townW K a T ++ (waysW K b (fun _ => none) qu 0 ++ X)) := hD
  refine lv_iconst (v := nI 0) hx hb dX2_floodFromMissingStops_4 (by decide) ?_
  refine lv_istore_n (lv' := [(3, .int (nI 0)), (0, .ref (b 0)), (1, .ref (a 0)), (2, .int (nI p))]) hx hb dX2_floodFromMissingStops_5 rfl hl (by decide) rfl (fun ls hl => ?_)
  have loop_1 : ∀ (n_6 : Nat) (i : Nat) (lx : Nat → Option Nat) (qx : Nat → Nat) (nx : Nat), (i ≤ 12) → (QI (lx, qx, nx)) → (LB 0 lx) → (nx ≤ i) → (∀ s, ¬ lx s = none → ∃ u, u < i ∧ missT T p u = true ∧ sqT T u = some s) → (misS T p i (fun _ => none, qu, 0) = (lx, qx, nx)) → (12 - i) < n_6 → ∀ (H : Heap) (locs : List Loc), va_P D vwCl (townW K a T ++ (waysW K b lx qx nx ++ X)) H → va_D A (townW K a T ++ (waysW K b lx qx nx ++ X)) → va_S A st.heap H locs →  ∀ x_3 : Int32, x_3 = nI i → ∀ ls : Array Slot, lv_has ls 5 [(0, .ref (b 0)), (1, .ref (a 0)), (2, .int (nI p)), (3, .int x_3)] → W pr l en (headSpec wsX2_floodFromMissingStops ({ frames := 4, cells := 0, slots := 0, locals := 84 } : Room)).room st md ar bl mt co H locs 0 0 (MQ bl (wrQ D (townW K a T ++ (waysW K b len qu n ++ X)) (townW K a T ++ (waysW K b (mfS T p qu).1 (mfS T p qu).2.1 (mfS T p qu).2.2 ++ X)) sz none) ar st 0 0 A) (F0 md 6 ls []) := by
    intro n_6
    induction n_6 with
    | zero => intro i lx qx nx _ _ _ _ _ _ hn_6; exact absurd hn_6 (Nat.not_lt_zero _)
    | succ n_6 ih_6 =>
      intro i lx qx nx hi hQx hBx hn hfr he hn_6 H locs hP hD hS x_3 ex_3 ls hl
      subst ex_3
      have hl : lv_has ls 5 [(0, .ref (b 0)), (1, .ref (a 0)), (2, .int (nI p)), (3, .int (nI i))] := hl
      refine lv_iload_n hx hb dX2_floodFromMissingStops_6 rfl (lv_at hl 3 rfl) ?_
      refine lv_bipush (v := nI 12) hx hb dX2_floodFromMissingStops_7 (by decide) ?_
      refine nv_icmp_ge (x := i) (y := 12) (tgt := 54) hx hb dX2_floodFromMissingStops_9 (by decide) (by omega) (by decide) (fun c_2 => ?_) (fun c_2 => ?_)
      · have n_c_2 := Nat.not_lt.mpr c_2
        have e12 : i = 12 := by omega
        rw [e12] at he
        refine lv_aload_n hx hb dX2_floodFromMissingStops_54 rfl (lv_at hl 0 rfl) ?_
        refine lv_aload_n hx hb dX2_floodFromMissingStops_55 rfl (lv_at hl 1 rfl) ?_
        refine lv_iload_n hx hb dX2_floodFromMissingStops_56 rfl (lv_at hl 2 rfl) ?_
        refine wr_V (rest := []) (ci := 2) (q0 := 12) ⟨hx, hb, hml, hown, hts⟩ hP hE hA hD hS (c_X2_flood l D K _ _ _ _ _ lx qx nx p hI (by omega) hQx hBx) (cwV 2 hts gX2_floodFromMissingStops_X2_flood rfl rfl rfl hd_X2_flood ⟨Nat.le_of_ble_eq_true rfl, Nat.le_of_ble_eq_true rfl⟩) rfl rfl rfl rfl hl.1 rfl (Nat.le_of_ble_eq_true rfl) dX2_floodFromMissingStops_57 ⟨Nat.le_of_ble_eq_true rfl, Nat.le_of_ble_eq_true rfl⟩ (fun H locs hP hD hS => ?_)
        rw [← he] at hP hD
        have hP : va_P D vwCl (townW K a T ++ (waysW K b (mfS T p qu).1 (mfS T p qu).2.1 (mfS T p qu).2.2 ++ X)) H := hP
        have hD : va_D A (townW K a T ++ (waysW K b (mfS T p qu).1 (mfS T p qu).2.1 (mfS T p qu).2.2 ++ X)) := hD
        exact wr_vret hAe hP hD hS hx hb hr hk dX2_floodFromMissingStops_60 ⟨Nat.le_of_ble_eq_true rfl, Nat.le_of_ble_eq_true rfl⟩
      · have n_c_2 := Nat.not_le.mpr c_2
        refine lv_aload_n hx hb dX2_floodFromMissingStops_12 rfl (lv_at hl 1 rfl) ?_
        refine va_get (D := D) (ci := 1) (v := .ref (a 4)) (C := RX1) (T := TX1) (N := 12) hx hb hts inX1 hown hE.1 hP 0 rfl rfl 3 (by decide) F75 (fun _ h9 => h9) rfl dX2_floodFromMissingStops_13 ?_
        refine lv_iload_n hx hb dX2_floodFromMissingStops_16 rfl (lv_at hl 3 rfl) ?_
        refine rd_SN (rest := []) ⟨hx, hb, hml, hown, hts⟩ hP hE (c_X3_at l D K _ 4 _ 12 _ i rfl (by omega) (by omega)) (va_cnB (host := RX3) 2 hts gX2_floodFromMissingStops_X3_at_n35 rfl rfl rfl hE.2.2.2.2.2.2.1 IniX3 hn_X3_at ⟨Nat.le_of_ble_eq_true rfl, Nat.le_of_ble_eq_true rfl⟩) Sta_X3_at rfl hl.1 rfl (Nat.le_of_ble_eq_true rfl) dX2_floodFromMissingStops_17 ⟨Nat.le_of_ble_eq_true rfl, Nat.le_of_ble_eq_true rfl⟩ ?_
        refine top_i (y := oI (sqT T i)) (show T 3 i = oI (sqT T i) from eq_sq hI (by omega)) ?_
        refine lv_istore (lv' := [(4, .int (oI (sqT T i))), (0, .ref (b 0)), (1, .ref (a 0)), (2, .int (nI p)), (3, .int (nI i))]) hx hb dX2_floodFromMissingStops_20 hl (by decide) rfl (fun ls hl => ?_)
        refine lv_aload_n hx hb dX2_floodFromMissingStops_22 rfl (lv_at hl 2 rfl) ?_
        refine lv_iload_n hx hb dX2_floodFromMissingStops_23 rfl (lv_at hl 4 rfl) ?_
        refine lv_iload_n hx hb dX2_floodFromMissingStops_24 rfl (lv_at hl 3 rfl) ?_
        refine rd_V (rest := []) (ci := 1) (q0 := 0) ⟨hx, hb, hml, hown, hts⟩ hP hE (c_X1_isMissing l D K _ _ _ i p hI (by omega) (by omega)) (cwV 2 hts gX2_floodFromMissingStops_X1_isMissing rfl rfl rfl hd_X1_isMissing ⟨Nat.le_of_ble_eq_true rfl, Nat.le_of_ble_eq_true rfl⟩) rfl rfl rfl rfl hl.1 rfl (Nat.le_of_ble_eq_true rfl) dX2_floodFromMissingStops_25 ⟨Nat.le_of_ble_eq_true rfl, Nat.le_of_ble_eq_true rfl⟩ ?_
        refine bv_if_eq (x := missT T p i) (tgt := 48) hx hb dX2_floodFromMissingStops_28 (by decide) (fun c_3 => ?_) (fun c_3 => ?_)
        · refine lv_iinc (v := nI (i + 1)) (lv' := [(3, .int (nI (i + 1))), (4, .int (oI (sqT T i))), (0, .ref (b 0)), (1, .ref (a 0)), (2, .int (nI p))]) hx hb dX2_floodFromMissingStops_48 hl (k := 4) rfl (nI_add _ 1) (by decide) rfl (fun ls hl => ?_)
          refine lv_goto (tgt := 6) hx hb dX2_floodFromMissingStops_51 (by decide) ?_
          exact ih_6 (i + 1) lx qx nx (by omega) hQx hBx (by omega) (mis_keep hfr) (mis_no he (by intro s_ hs_ hm_; simp_all)) (by omega) _ _ hP hD hS _ rfl ls (lv_sub hl [2, 3, 4, 0] rfl)
        · obtain ⟨ks_4, hks_4⟩ := miss_sq hI (by omega) c_3
          have hbks_4 := sq_lt hI (t := i) (by omega) ks_4 hks_4
          refine lv_aload_n hx hb dX2_floodFromMissingStops_31 rfl (lv_at hl 2 rfl) ?_
          refine lv_iload_n hx hb dX2_floodFromMissingStops_32 rfl (lv_at hl 3 rfl) ?_
          refine lv_iload hx hb dX2_floodFromMissingStops_33 (lv_at hl 0 rfl) ?_
          refine top_i (y := nI ks_4) (by rw [hks_4]; rfl) ?_
          refine rd_V (rest := []) (ci := 1) (q0 := 0) ⟨hx, hb, hml, hown, hts⟩ hP hE (c_X1_obstacle l D K _ _ _ p ks_4 hI (by omega) (by omega)) (cwV 2 hts gX2_floodFromMissingStops_X1_obstacle rfl rfl rfl hd_X1_obstacle ⟨Nat.le_of_ble_eq_true rfl, Nat.le_of_ble_eq_true rfl⟩) rfl rfl rfl rfl hl.1 rfl (Nat.le_of_ble_eq_true rfl) dX2_floodFromMissingStops_35 ⟨Nat.le_of_ble_eq_true rfl, Nat.le_of_ble_eq_true rfl⟩ ?_
          have hb_5 := obs_lt T p ks_4
          refine nv_if_ne (x := obsT T p ks_4) (tgt := 48) hx hb dX2_floodFromMissingStops_38 (by decide) (by omega) (fun c_6 => ?_) (fun c_6 => ?_)
          · have n_c_6 : ¬ obsT T p ks_4 = 0 := by omega
            refine lv_iinc (v := nI (i + 1)) (lv' := [(3, .int (nI (i + 1))), (4, .int (oI (sqT T i))), (0, .ref (b 0)), (1, .ref (a 0)), (2, .int (nI p))]) hx hb dX2_floodFromMissingStops_48 hl (k := 4) rfl (nI_add _ 1) (by decide) rfl (fun ls hl => ?_)
            refine lv_goto (tgt := 6) hx hb dX2_floodFromMissingStops_51 (by decide) ?_
            exact ih_6 (i + 1) lx qx nx (by omega) hQx hBx (by omega) (mis_keep hfr) (mis_no he (by intro s_ hs_ hm_; simp_all)) (by omega) _ _ hP hD hS _ rfl ls (lv_sub hl [2, 3, 4, 0] rfl)
          · have n_c_6 : ¬ 0 < obsT T p ks_4 := by omega
            refine lv_aload_n hx hb dX2_floodFromMissingStops_41 rfl (lv_at hl 1 rfl) ?_
            refine lv_iload hx hb dX2_floodFromMissingStops_42 (lv_at hl 0 rfl) ?_
            refine top_i (y := nI ks_4) (by rw [hks_4]; rfl) ?_
            refine lv_iconst (v := nI 0) hx hb dX2_floodFromMissingStops_44 (by decide) ?_
            refine wr_V (rest := []) (ci := 2) (q0 := 12) ⟨hx, hb, hml, hown, hts⟩ hP hE hA hD hS (c_X2_enqueue l D K _ _ _ _ _ _ _ _ ks_4 0 (by omega) (by omega)) (cwV 2 hts gX2_floodFromMissingStops_X2_enqueue rfl rfl rfl hd_X2_enqueue ⟨Nat.le_of_ble_eq_true rfl, Nat.le_of_ble_eq_true rfl⟩) rfl rfl rfl rfl hl.1 rfl (Nat.le_of_ble_eq_true rfl) dX2_floodFromMissingStops_45 ⟨Nat.le_of_ble_eq_true rfl, Nat.le_of_ble_eq_true rfl⟩ (fun H locs hP hD hS => ?_)
            have hP : va_P D vwCl (townW K a T ++ (waysW K b (va_up lx ks_4 (some 0)) (va_up qx nx ks_4) (nx + 1) ++ X)) H := hP
            have hD : va_D A (townW K a T ++ (waysW K b (va_up lx ks_4 (some 0)) (va_up qx nx ks_4) (nx + 1) ++ X)) := hD
            refine lv_iinc (v := nI (i + 1)) (lv' := [(3, .int (nI (i + 1))), (4, .int (oI (sqT T i))), (0, .ref (b 0)), (1, .ref (a 0)), (2, .int (nI p))]) hx hb dX2_floodFromMissingStops_48 hl (k := 4) rfl (nI_add _ 1) (by decide) rfl (fun ls hl => ?_)
            refine lv_goto (tgt := 6) hx hb dX2_floodFromMissingStops_51 (by decide) ?_
            exact ih_6 (i + 1) (va_up lx ks_4 (some 0)) (va_up qx nx ks_4) (nx + 1) (by omega) (hQx.enq (t := ks_4) (by omega) (mis_fresh hI (by omega) hfr (by assumption) (by assumption))) (hBx.up (by omega)) (by omega) (mis_enq hfr (by assumption) (by assumption)) (by rw [misS, he]; simp [c_2, n_c_2, c_3, hks_4, c_6, n_c_6, enqS]) (by omega) _ _ hP hD hS _ rfl ls (lv_sub hl [2, 3, 4, 0] rfl)
  exact loop_1 _ 0 (fun _ => none) qu 0 (by decide) (⟨Nat.zero_le _, fun j hj => absurd hj (Nat.not_lt_zero j), fun j hj => absurd hj (Nat.not_lt_zero j), fun i j _ hj => absurd hj (Nat.not_lt_zero j)⟩) LB.non (by decide) (fun s h => absurd rfl h) rfl (Nat.lt_succ_self _) _ _ hP hD hS _ rfl ls (lv_sub hl [1, 2, 3, 0] rfl)
set_option maxHeartbeats 4000000 in
set_option maxRecDepth 100000 in
theorem c_X2_improveCost (l : Launch) (D : va_G) (K : Nat → ClassId) (sz : Nat) (a b : Nat → Nat) (T : TW) (X : va_W) (len : Nat → Option Nat) (qu : Nat → Nat) (n : Nat) (p g B : Nat) (hI : Inv T) (hp : p < 4) (hg : g < 80) (hB : LB B len) (hBB : B ≤ 1000000) : Wr l yX2_improveCost wsX2_improveCost ({ frames := 4, cells := 0, slots := 0, locals := 75 } : Room) D K (townW K a T ++ (waysW K b len qu n ++ X)) sz [.ref (b 0), .ref (a 0), .int (nI p), .int (nI g)] (townW K a T ++ (waysW K b (impL T p len g) qu n ++ X)) (some (.int (bI ((impS T p len g).isSome)))) 0 0 := by
  refine wr_intro (cc := cX2_improveCost) (maxL := 7) (ret := (some .boolean)) (by decide) rfl (Nat.le_of_ble_eq_true rfl) ?_
  intro pr en st md ar bl mt co A hx hb hml hr hts hown hk hsz hAe hP hE hD hS hA hin ls hl
  have hown : st.vm.findClass RX2 = some md.cls := hown
  have hl : lv_has ls 7 [(0, .ref (b 0)), (1, .ref (a 0)), (2, .int (nI p)), (3, .int (nI g))] := hl
  obtain ⟨H, hH⟩ : ∃ z, z = st.heap := ⟨_, rfl⟩
  obtain ⟨locs, hlo⟩ : ∃ z : List Loc, z = [] := ⟨_, rfl⟩
  have hP : va_P D vwCl (townW K a T ++ (waysW K b len qu n ++ X)) H := by rw [hH]; exact hP
  have hS : va_S A st.heap H locs := by rw [hH, hlo]; exact hS
  suffices go : W pr l en (headSpec wsX2_improveCost ({ frames := 4, cells := 0, slots := 0, locals := 75 } : Room)).room st md ar bl mt co H locs 0 0 (MQ bl (wrQ D (townW K a T ++ (waysW K b len qu n ++ X)) (townW K a T ++ (waysW K b (impL T p len g) qu n ++ X)) sz (some (.int (bI ((impS T p len g).isSome))))) ar st 0 0 A) (F0 md 0 ls []) by rw [hH, hlo] at go; exact go
  clear hH hlo
  have F9 : (Cond.fieldLink RX2 9 "TramTolls$Ways" "lengths" "[I").before ar st = true := hts _ (List.mem_of_getElem? (i := 1) rfl)
  have inX2 : ∀ w ∈ u_ws RX2 TX2 3, w ∈ wsX2_improveCost := fun w h => List.mem_cons_of_mem _ (List.mem_append_left _ (List.mem_append_right _ h))
  have IniX3 : (Cond.initialized RX3).before ar st = true := hts _ (List.mem_of_getElem? (i := 11) rfl)
  have Sta_X3_at : (Cond.static yX3_at).before ar st = true := hts _ (List.mem_of_getElem? (i := 10) rfl)
  have Sta_X3_put : (Cond.static yX3_put).before ar st = true := hts _ (List.mem_of_getElem? (i := 37) rfl)
  have Sta_X3_neighbour : (Cond.static yX3_neighbour).before ar st = true := hts _ (List.mem_of_getElem? (i := 20) rfl)
  have Sta_X3_lesser : (Cond.static yX3_lesser).before ar st = true := hts _ (List.mem_of_getElem? (i := 22) rfl)
  refine lv_aload_n hx hb dX2_improveCost_0 rfl (lv_at hl 1 rfl) ?_
  refine lv_iload_n hx hb dX2_improveCost_1 rfl (lv_at hl 2 rfl) ?_
  refine lv_iload_n hx hb dX2_improveCost_2 rfl (lv_at hl 3 rfl) ?_
  refine rd_V (rest := []) (ci := 1) (q0 := 0) ⟨hx, hb, hml, hown, hts⟩ hP hE (c_X1_obstacle l D K _ _ _ p g hI (by omega) (by omega)) (cwV 2 hts gX2_improveCost_X1_obstacle rfl rfl rfl hd_X1_obstacle ⟨Nat.le_of_ble_eq_true rfl, Nat.le_of_ble_eq_true rfl⟩) rfl rfl rfl rfl hl.1 rfl (Nat.le_of_ble_eq_true rfl) dX2_improveCost_3 ⟨Nat.le_of_ble_eq_true rfl, Nat.le_of_ble_eq_true rfl⟩ ?_
  have hb_1 := obs_lt T p g
  refine nv_if_eq (x := obsT T p g) (tgt := 11) hx hb dX2_improveCost_6 (by decide) (by omega) (fun c_2 => ?_) (fun c_2 => ?_)
  · have n_c_2 : ¬ 0 < obsT T p g := by omega
    refine lv_iconst (v := -1) hx hb dX2_improveCost_11 (by decide) ?_
    refine lv_istore (lv' := [(4, .int (-1)), (0, .ref (b 0)), (1, .ref (a 0)), (2, .int (nI p)), (3, .int (nI g))]) hx hb dX2_improveCost_12 hl (by decide) rfl (fun ls hl => ?_)
    refine lv_iconst (v := nI 0) hx hb dX2_improveCost_14 (by decide) ?_
    refine lv_istore (lv' := [(5, .int (nI 0)), (4, .int (-1)), (0, .ref (b 0)), (1, .ref (a 0)), (2, .int (nI p)), (3, .int (nI g))]) hx hb dX2_improveCost_15 hl (by decide) rfl (fun ls hl => ?_)
    have loop_3 : ∀ (n_17 : Nat) (d : Nat), (d ≤ 4) → (4 - d) < n_17 → ∀ (H : Heap) (locs : List Loc), va_P D vwCl (townW K a T ++ (waysW K b len qu n ++ X)) H → va_D A (townW K a T ++ (waysW K b len qu n ++ X)) → va_S A st.heap H locs →  ∀ x_4 : Int32, x_4 = oI (befS len g d) → ∀ x_5 : Int32, x_5 = nI d → ∀ ls : Array Slot, lv_has ls 7 [(0, .ref (b 0)), (1, .ref (a 0)), (2, .int (nI p)), (3, .int (nI g)), (4, .int x_4), (5, .int x_5)] → W pr l en (headSpec wsX2_improveCost ({ frames := 4, cells := 0, slots := 0, locals := 75 } : Room)).room st md ar bl mt co H locs 0 0 (MQ bl (wrQ D (townW K a T ++ (waysW K b len qu n ++ X)) (townW K a T ++ (waysW K b (impL T p len g) qu n ++ X)) sz (some (.int (bI ((impS T p len g).isSome))))) ar st 0 0 A) (F0 md 17 ls []) := by
      intro n_17
      induction n_17 with
      | zero => intro d _ hn_17; exact absurd hn_17 (Nat.not_lt_zero _)
      | succ n_17 ih_17 =>
        intro d hd hn_17 H locs hP hD hS x_4 ex_4 x_5 ex_5 ls hl
        subst ex_4
        subst ex_5
        have hl : lv_has ls 7 [(0, .ref (b 0)), (1, .ref (a 0)), (2, .int (nI p)), (3, .int (nI g)), (4, .int (oI (befS len g d))), (5, .int (nI d))] := hl
        refine lv_iload hx hb dX2_improveCost_17 (lv_at hl 5 rfl) ?_
        refine lv_iconst (v := nI 4) hx hb dX2_improveCost_19 (by decide) ?_
        refine nv_icmp_ge (x := d) (y := 4) (tgt := 59) hx hb dX2_improveCost_20 (by decide) (by omega) (by decide) (fun c_4 => ?_) (fun c_4 => ?_)
        · have n_c_4 := Nat.not_lt.mpr c_4
          have e4 : d = 4 := by omega
          refine lv_iload hx hb dX2_improveCost_59 (lv_at hl 4 rfl) ?_
          refine lv_iconst (v := -1) hx hb dX2_improveCost_61 (by decide) ?_
          refine ov_icmp_ne (tgt := 67) hx hb dX2_improveCost_62 (by decide) (lt31 (bef_lt hB hg d) (by omega)) (fun k_6 c_5 => ?_) (fun c_5 => ?_)
          · have hk_c_5 := (bef_lt hB hg d) k_6 c_5
            refine lv_iload hx hb dX2_improveCost_67 (lv_at hl 4 rfl) ?_
            refine top_i (y := nI k_6) (by rw [c_5]; rfl) ?_
            refine lv_aload_n hx hb dX2_improveCost_69 rfl (lv_at hl 1 rfl) ?_
            refine lv_iload_n hx hb dX2_improveCost_70 rfl (lv_at hl 3 rfl) ?_
            refine rd_V (rest := [.int (nI k_6)]) (ci := 1) (q0 := 0) ⟨hx, hb, hml, hown, hts⟩ hP hE (c_X1_tollOn l D K _ _ _ g hI (by omega)) (cwV 1 hts gX2_improveCost_X1_tollOn rfl rfl rfl hd_X1_tollOn ⟨Nat.le_of_ble_eq_true rfl, Nat.le_of_ble_eq_true rfl⟩) rfl rfl rfl rfl hl.1 rfl (Nat.le_of_ble_eq_true rfl) dX2_improveCost_71 ⟨Nat.le_of_ble_eq_true rfl, Nat.le_of_ble_eq_true rfl⟩ ?_
            have hb_7 := toll_lt (s := g) hI
            refine nv_iadd (x := k_6) (y := tollT T g) hx hb dX2_improveCost_74 ?_
            refine lv_istore (lv' := [(5, .int (nI (k_6 + (tollT T g)))), (0, .ref (b 0)), (1, .ref (a 0)), (2, .int (nI p)), (3, .int (nI g)), (4, .int (oI (befS len g d)))]) hx hb dX2_improveCost_75 hl (by decide) rfl (fun ls hl => ?_)
            refine lv_aload_n hx hb dX2_improveCost_77 rfl (lv_at hl 1 rfl) ?_
            refine va_get (D := D) (ci := 2) (v := .ref (b 1)) (C := RX2) (T := TX2) (N := 3) hx hb hts inX2 hown hE.1 hP 12 rfl rfl 0 (by decide) F9 (fun _ h9 => h9) rfl dX2_improveCost_78 ?_
            refine lv_iload_n hx hb dX2_improveCost_81 rfl (lv_at hl 4 rfl) ?_
            refine rd_SN (rest := []) ⟨hx, hb, hml, hown, hts⟩ hP hE (c_X3_at l D K _ 13 _ 80 _ g rfl (by omega) (by omega)) (va_cnB (host := RX3) 2 hts gX2_improveCost_X3_at_n35 rfl rfl rfl hE.2.2.2.2.2.2.1 IniX3 hn_X3_at ⟨Nat.le_of_ble_eq_true rfl, Nat.le_of_ble_eq_true rfl⟩) Sta_X3_at rfl hl.1 rfl (Nat.le_of_ble_eq_true rfl) dX2_improveCost_82 ⟨Nat.le_of_ble_eq_true rfl, Nat.le_of_ble_eq_true rfl⟩ ?_
            refine top_i (y := oI (len g)) (rfl) ?_
            refine lv_istore (lv' := [(6, .int (oI (len g))), (5, .int (nI (k_6 + (tollT T g)))), (0, .ref (b 0)), (1, .ref (a 0)), (2, .int (nI p)), (3, .int (nI g)), (4, .int (oI (befS len g d)))]) hx hb dX2_improveCost_85 hl (by decide) rfl (fun ls hl => ?_)
            refine lv_iload hx hb dX2_improveCost_87 (lv_at hl 0 rfl) ?_
            refine lv_iconst (v := -1) hx hb dX2_improveCost_89 (by decide) ?_
            refine ov_icmp_eq (tgt := 102) hx hb dX2_improveCost_90 (by decide) (hB.lt (by omega) (by omega)) (fun c_8 => ?_) (fun k_9 c_8 => ?_)
            · refine lv_aload_n hx hb dX2_improveCost_102 rfl (lv_at hl 2 rfl) ?_
              refine va_get (D := D) (ci := 2) (v := .ref (b 1)) (C := RX2) (T := TX2) (N := 3) hx hb hts inX2 hown hE.1 hP 12 rfl rfl 0 (by decide) F9 (fun _ h9 => h9) rfl dX2_improveCost_103 ?_
              refine lv_iload_n hx hb dX2_improveCost_106 rfl (lv_at hl 5 rfl) ?_
              refine lv_iload hx hb dX2_improveCost_107 (lv_at hl 1 rfl) ?_
              refine wr_SN (rest := []) ⟨hx, hb, hml, hown, hts⟩ hP hE hA hD hS (c_X3_put l D K _ _ 13 _ 80 _ g (nI (k_6 + (tollT T g))) rfl (by omega) (by omega)) (va_cnB (host := RX3) 3 hts gX2_improveCost_X3_put_n39 rfl rfl rfl hE.2.2.2.2.2.1 IniX3 hn_X3_put ⟨Nat.le_of_ble_eq_true rfl, Nat.le_of_ble_eq_true rfl⟩) Sta_X3_put rfl hl.1 rfl (Nat.le_of_ble_eq_true rfl) dX2_improveCost_109 ⟨Nat.le_of_ble_eq_true rfl, Nat.le_of_ble_eq_true rfl⟩ (fun H locs hP hD hS => ?_)
              rw [updON len g (k_6 + (tollT T g))] at hP hD
              have hP : va_P D vwCl (townW K a T ++ (waysW K b (va_up len g (some (k_6 + (tollT T g)))) qu n ++ X)) H := hP
              have hD : va_D A (townW K a T ++ (waysW K b (va_up len g (some (k_6 + (tollT T g)))) qu n ++ X)) := hD
              refine lv_iconst (v := nI 1) hx hb dX2_improveCost_112 (by decide) ?_
              have ew : (townW K a T ++ (waysW K b (va_up len g (some (k_6 + (tollT T g)))) qu n ++ X)) = (townW K a T ++ (waysW K b (impL T p len g) qu n ++ X)) := by subst e4; simp [impS, impL, bI, nI_0, nI_one, c_2, n_c_2, c_4, n_c_4, c_5, c_8]
              rw [ew] at hP hD
              exact wr_zret hAe hP hD hS hx hb hr hk dX2_improveCost_113 ⟨Nat.le_of_ble_eq_true rfl, Nat.le_of_ble_eq_true rfl⟩ (by subst e4; simp [impS, impL, bI, nI_0, nI_one, c_2, n_c_2, c_4, n_c_4, c_5, c_8])
            · have hk_c_8 := (hB.le (by omega)) k_9 c_8
              refine lv_iload hx hb dX2_improveCost_93 (lv_at hl 0 rfl) ?_
              refine top_i (y := nI k_9) (by rw [c_8]; rfl) ?_
              refine lv_iload hx hb dX2_improveCost_95 (lv_at hl 1 rfl) ?_
              refine nv_icmp_gt (x := k_9) (y := k_6 + (tollT T g)) (tgt := 102) hx hb dX2_improveCost_97 (by decide) (by omega) (by omega) (fun c_10 => ?_) (fun c_10 => ?_)
              · have n_c_10 := Nat.not_le.mpr c_10
                refine lv_aload_n hx hb dX2_improveCost_102 rfl (lv_at hl 2 rfl) ?_
                refine va_get (D := D) (ci := 2) (v := .ref (b 1)) (C := RX2) (T := TX2) (N := 3) hx hb hts inX2 hown hE.1 hP 12 rfl rfl 0 (by decide) F9 (fun _ h9 => h9) rfl dX2_improveCost_103 ?_
                refine lv_iload_n hx hb dX2_improveCost_106 rfl (lv_at hl 5 rfl) ?_
                refine lv_iload hx hb dX2_improveCost_107 (lv_at hl 1 rfl) ?_
                refine wr_SN (rest := []) ⟨hx, hb, hml, hown, hts⟩ hP hE hA hD hS (c_X3_put l D K _ _ 13 _ 80 _ g (nI (k_6 + (tollT T g))) rfl (by omega) (by omega)) (va_cnB (host := RX3) 3 hts gX2_improveCost_X3_put_n39 rfl rfl rfl hE.2.2.2.2.2.1 IniX3 hn_X3_put ⟨Nat.le_of_ble_eq_true rfl, Nat.le_of_ble_eq_true rfl⟩) Sta_X3_put rfl hl.1 rfl (Nat.le_of_ble_eq_true rfl) dX2_improveCost_109 ⟨Nat.le_of_ble_eq_true rfl, Nat.le_of_ble_eq_true rfl⟩ (fun H locs hP hD hS => ?_)
                rw [updON len g (k_6 + (tollT T g))] at hP hD
                have hP : va_P D vwCl (townW K a T ++ (waysW K b (va_up len g (some (k_6 + (tollT T g)))) qu n ++ X)) H := hP
                have hD : va_D A (townW K a T ++ (waysW K b (va_up len g (some (k_6 + (tollT T g)))) qu n ++ X)) := hD
                refine lv_iconst (v := nI 1) hx hb dX2_improveCost_112 (by decide) ?_
                have ew : (townW K a T ++ (waysW K b (va_up len g (some (k_6 + (tollT T g)))) qu n ++ X)) = (townW K a T ++ (waysW K b (impL T p len g) qu n ++ X)) := by subst e4; simp [impS, impL, bI, nI_0, nI_one, c_2, n_c_2, c_4, n_c_4, c_5, c_8, c_10, n_c_10]
                rw [ew] at hP hD
                exact wr_zret hAe hP hD hS hx hb hr hk dX2_improveCost_113 ⟨Nat.le_of_ble_eq_true rfl, Nat.le_of_ble_eq_true rfl⟩ (by subst e4; simp [impS, impL, bI, nI_0, nI_one, c_2, n_c_2, c_4, n_c_4, c_5, c_8, c_10, n_c_10])
              · have n_c_10 := Nat.not_lt.mpr c_10
                refine lv_iconst (v := nI 0) hx hb dX2_improveCost_100 (by decide) ?_
                have ew : (townW K a T ++ (waysW K b len qu n ++ X)) = (townW K a T ++ (waysW K b (impL T p len g) qu n ++ X)) := by subst e4; simp [impS, impL, bI, nI_0, nI_one, c_2, n_c_2, c_4, n_c_4, c_5, c_8, c_10, n_c_10]
                rw [ew] at hP hD
                exact wr_zret hAe hP hD hS hx hb hr hk dX2_improveCost_101 ⟨Nat.le_of_ble_eq_true rfl, Nat.le_of_ble_eq_true rfl⟩ (by subst e4; simp [impS, impL, bI, nI_0, nI_one, c_2, n_c_2, c_4, n_c_4, c_5, c_8, c_10, n_c_10])
          · refine lv_iconst (v := nI 0) hx hb dX2_improveCost_65 (by decide) ?_
            have ew : (townW K a T ++ (waysW K b len qu n ++ X)) = (townW K a T ++ (waysW K b (impL T p len g) qu n ++ X)) := by subst e4; simp [impS, impL, bI, nI_0, nI_one, c_2, n_c_2, c_4, n_c_4, c_5]
            rw [ew] at hP hD
            exact wr_zret hAe hP hD hS hx hb hr hk dX2_improveCost_66 ⟨Nat.le_of_ble_eq_true rfl, Nat.le_of_ble_eq_true rfl⟩ (by subst e4; simp [impS, impL, bI, nI_0, nI_one, c_2, n_c_2, c_4, n_c_4, c_5])
        · have n_c_4 := Nat.not_le.mpr c_4
          refine lv_iload_n hx hb dX2_improveCost_23 rfl (lv_at hl 3 rfl) ?_
          refine lv_iload hx hb dX2_improveCost_24 (lv_at hl 5 rfl) ?_
          refine rd_SN (rest := []) ⟨hx, hb, hml, hown, hts⟩ hP hE (c_X3_neighbour l D K _ g d (by omega) (by omega)) (va_cnB (host := RX3) 2 hts gX2_improveCost_X3_neighbour_n51 rfl rfl rfl hE.2.2.2.2.2.2.2.1 IniX3 hn_X3_neighbour ⟨Nat.le_of_ble_eq_true rfl, Nat.le_of_ble_eq_true rfl⟩) Sta_X3_neighbour rfl hl.1 rfl (Nat.le_of_ble_eq_true rfl) dX2_improveCost_26 ⟨Nat.le_of_ble_eq_true rfl, Nat.le_of_ble_eq_true rfl⟩ ?_
          refine lv_istore (lv' := [(6, .int (oI (nbT g d))), (0, .ref (b 0)), (1, .ref (a 0)), (2, .int (nI p)), (3, .int (nI g)), (4, .int (oI (befS len g d))), (5, .int (nI d))]) hx hb dX2_improveCost_29 hl (by decide) rfl (fun ls hl => ?_)
          refine lv_iload hx hb dX2_improveCost_31 (lv_at hl 0 rfl) ?_
          refine lv_iconst (v := -1) hx hb dX2_improveCost_33 (by decide) ?_
          refine ov_icmp_eq (tgt := 53) hx hb dX2_improveCost_34 (by decide) (lt31 (nb_lt (show g < 80 by omega)) (by decide)) (fun c_11 => ?_) (fun k_12 c_11 => ?_)
          · refine lv_iinc (v := nI (d + 1)) (lv' := [(5, .int (nI (d + 1))), (6, .int (oI (nbT g d))), (0, .ref (b 0)), (1, .ref (a 0)), (2, .int (nI p)), (3, .int (nI g)), (4, .int (oI (befS len g d)))]) hx hb dX2_improveCost_53 hl (k := 6) rfl (nI_add _ 1) (by decide) rfl (fun ls hl => ?_)
            refine lv_goto (tgt := 17) hx hb dX2_improveCost_56 (by decide) ?_
            exact ih_17 (d + 1) (by omega) (by omega) _ _ hP hD hS _ (by simp [befS, c_2, n_c_2, c_4, n_c_4, c_11]) _ rfl ls (lv_sub hl [2, 3, 4, 5, 6, 0] rfl)
          · have hk_c_11 := (nb_lt (show g < 80 by omega)) k_12 c_11
            refine lv_iload hx hb dX2_improveCost_37 (lv_at hl 5 rfl) ?_
            refine lv_aload_n hx hb dX2_improveCost_39 rfl (lv_at hl 1 rfl) ?_
            refine va_get (D := D) (ci := 2) (v := .ref (b 1)) (C := RX2) (T := TX2) (N := 3) hx hb hts inX2 hown hE.1 hP 12 rfl rfl 0 (by decide) F9 (fun _ h9 => h9) rfl dX2_improveCost_40 ?_
            refine lv_iload hx hb dX2_improveCost_43 (lv_at hl 0 rfl) ?_
            refine top_i (y := nI k_12) (by rw [c_11]; rfl) ?_
            refine rd_SN (rest := [.int (oI (befS len g d))]) ⟨hx, hb, hml, hown, hts⟩ hP hE (c_X3_at l D K _ 13 _ 80 _ k_12 rfl (by omega) (by omega)) (va_cnB (host := RX3) 2 hts gX2_improveCost_X3_at_n35 rfl rfl rfl hE.2.2.2.2.2.2.1 IniX3 hn_X3_at ⟨Nat.le_of_ble_eq_true rfl, Nat.le_of_ble_eq_true rfl⟩) Sta_X3_at rfl hl.1 rfl (Nat.le_of_ble_eq_true rfl) dX2_improveCost_45 ⟨Nat.le_of_ble_eq_true rfl, Nat.le_of_ble_eq_true rfl⟩ ?_
            refine top_i (y := oI (len k_12)) (rfl) ?_
            refine rd_SN (rest := []) ⟨hx, hb, hml, hown, hts⟩ hP hE (c_X3_lesser l D K _ (befS len g d) (len k_12) (lt31 (bef_lt hB hg d) (by omega)) (hB.lt (by omega) (by omega))) (va_cnB (host := RX3) 2 hts gX2_improveCost_X3_lesser_n54 rfl rfl rfl hE.2.2.2.2.2.2.2.2.1 IniX3 hn_X3_lesser ⟨Nat.le_of_ble_eq_true rfl, Nat.le_of_ble_eq_true rfl⟩) Sta_X3_lesser rfl hl.1 rfl (Nat.le_of_ble_eq_true rfl) dX2_improveCost_48 ⟨Nat.le_of_ble_eq_true rfl, Nat.le_of_ble_eq_true rfl⟩ ?_
            refine lv_istore (lv' := [(4, .int (oI (lesO (befS len g d) (len k_12)))), (6, .int (oI (nbT g d))), (0, .ref (b 0)), (1, .ref (a 0)), (2, .int (nI p)), (3, .int (nI g)), (5, .int (nI d))]) hx hb dX2_improveCost_51 hl (by decide) rfl (fun ls hl => ?_)
            refine lv_iinc (v := nI (d + 1)) (lv' := [(5, .int (nI (d + 1))), (4, .int (oI (lesO (befS len g d) (len k_12)))), (6, .int (oI (nbT g d))), (0, .ref (b 0)), (1, .ref (a 0)), (2, .int (nI p)), (3, .int (nI g))]) hx hb dX2_improveCost_53 hl (k := 6) rfl (nI_add _ 1) (by decide) rfl (fun ls hl => ?_)
            refine lv_goto (tgt := 17) hx hb dX2_improveCost_56 (by decide) ?_
            exact ih_17 (d + 1) (by omega) (by omega) _ _ hP hD hS _ (by simp [befS, c_2, n_c_2, c_4, n_c_4, c_11]) _ rfl ls (lv_sub hl [3, 4, 5, 6, 1, 0] rfl)
    exact loop_3 _ 0 (by decide) (Nat.lt_succ_self _) _ _ hP hD hS _ rfl _ rfl ls (lv_sub hl [2, 3, 4, 5, 1, 0] rfl)
  · have n_c_2 : ¬ obsT T p g = 0 := by omega
    refine lv_iconst (v := nI 0) hx hb dX2_improveCost_9 (by decide) ?_
    have ew : (townW K a T ++ (waysW K b len qu n ++ X)) = (townW K a T ++ (waysW K b (impL T p len g) qu n ++ X)) := by simp [impS, impL, bI, nI_0, nI_one, c_2, n_c_2]
    rw [ew] at hP hD
    exact wr_zret hAe hP hD hS hx hb hr hk dX2_improveCost_10 ⟨Nat.le_of_ble_eq_true rfl, Nat.le_of_ble_eq_true rfl⟩ (by simp [impS, impL, bI, nI_0, nI_one, c_2, n_c_2])
set_option maxHeartbeats 4000000 in
set_option maxRecDepth 100000 in
theorem c_X2_leastTolls (l : Launch) (D : va_G) (K : Nat → ClassId) (sz : Nat) (a b : Nat → Nat) (T : TW) (X : va_W) (len : Nat → Option Nat) (qu : Nat → Nat) (n : Nat) (p g : Nat) (hI : Inv T) (hp : p < 4) (hg : g < 80) : Wr l yX2_leastTolls wsX2_leastTolls ({ frames := 5, cells := 0, slots := 0, locals := 101 } : Room) D K (townW K a T ++ (waysW K b len qu n ++ X)) sz [.ref (b 0), .ref (a 0), .int (nI p), .int (nI g)] (townW K a T ++ (waysW K b (cheS T p len) qu n ++ X)) (some (.int (oI (cheS T p len g)))) 0 0 := by
  refine wr_intro (cc := cX2_leastTolls) (maxL := 8) (ret := (some .int)) (by decide) rfl (Nat.le_of_ble_eq_true rfl) ?_
  intro pr en st md ar bl mt co A hx hb hml hr hts hown hk hsz hAe hP hE hD hS hA hin ls hl
  have hown : st.vm.findClass RX2 = some md.cls := hown
  have hl : lv_has ls 8 [(0, .ref (b 0)), (1, .ref (a 0)), (2, .int (nI p)), (3, .int (nI g))] := hl
  obtain ⟨H, hH⟩ : ∃ z, z = st.heap := ⟨_, rfl⟩
  obtain ⟨locs, hlo⟩ : ∃ z : List Loc, z = [] := ⟨_, rfl⟩
  have hP : va_P D vwCl (townW K a T ++ (waysW K b len qu n ++ X)) H := by rw [hH]; exact hP
  have hS : va_S A st.heap H locs := by rw [hH, hlo]; exact hS
  suffices go : W pr l en (headSpec wsX2_leastTolls ({ frames := 5, cells := 0, slots := 0, locals := 101 } : Room)).room st md ar bl mt co H locs 0 0 (MQ bl (wrQ D (townW K a T ++ (waysW K b len qu n ++ X)) (townW K a T ++ (waysW K b (cheS T p len) qu n ++ X)) sz (some (.int (oI (cheS T p len g))))) ar st 0 0 A) (F0 md 0 ls []) by rw [hH, hlo] at go; exact go
  clear hH hlo
  have F9 : (Cond.fieldLink RX2 9 "TramTolls$Ways" "lengths" "[I").before ar st = true := hts _ (List.mem_of_getElem? (i := 1) rfl)
  have inX2 : ∀ w ∈ u_ws RX2 TX2 3, w ∈ wsX2_leastTolls := fun w h => List.mem_cons_of_mem _ (List.mem_append_left _ (List.mem_append_right _ h))
  have IniX3 : (Cond.initialized RX3).before ar st = true := hts _ (List.mem_of_getElem? (i := 9) rfl)
  have Sta_X3_at : (Cond.static yX3_at).before ar st = true := hts _ (List.mem_of_getElem? (i := 8) rfl)
  have Sta_X3_put : (Cond.static yX3_put).before ar st = true := hts _ (List.mem_of_getElem? (i := 11) rfl)
  refine lv_iconst (v := nI 0) hx hb dX2_leastTolls_0 (by decide) ?_
  refine lv_istore (lv' := [(4, .int (nI 0)), (0, .ref (b 0)), (1, .ref (a 0)), (2, .int (nI p)), (3, .int (nI g))]) hx hb dX2_leastTolls_1 hl (by decide) rfl (fun ls hl => ?_)
  have loop_1 : ∀ (n_3 : Nat) (i : Nat) (lx : Nat → Option Nat), (i ≤ 80) → (iniS T p len i = lx) → (80 - i) < n_3 → ∀ (H : Heap) (locs : List Loc), va_P D vwCl (townW K a T ++ (waysW K b lx qu n ++ X)) H → va_D A (townW K a T ++ (waysW K b lx qu n ++ X)) → va_S A st.heap H locs →  ∀ x_4 : Int32, x_4 = nI i → ∀ ls : Array Slot, lv_has ls 8 [(0, .ref (b 0)), (1, .ref (a 0)), (2, .int (nI p)), (3, .int (nI g)), (4, .int x_4)] → W pr l en (headSpec wsX2_leastTolls ({ frames := 5, cells := 0, slots := 0, locals := 101 } : Room)).room st md ar bl mt co H locs 0 0 (MQ bl (wrQ D (townW K a T ++ (waysW K b len qu n ++ X)) (townW K a T ++ (waysW K b (cheS T p len) qu n ++ X)) sz (some (.int (oI (cheS T p len g))))) ar st 0 0 A) (F0 md 3 ls []) := by
    intro n_3
    induction n_3 with
    | zero => intro i lx _ _ hn_3; exact absurd hn_3 (Nat.not_lt_zero _)
    | succ n_3 ih_3 =>
      intro i lx hi he hn_3 H locs hP hD hS x_4 ex_4 ls hl
      subst ex_4
      have hl : lv_has ls 8 [(0, .ref (b 0)), (1, .ref (a 0)), (2, .int (nI p)), (3, .int (nI g)), (4, .int (nI i))] := hl
      refine lv_iload hx hb dX2_leastTolls_3 (lv_at hl 4 rfl) ?_
      refine lv_bipush (v := nI 80) hx hb dX2_leastTolls_5 (by decide) ?_
      refine nv_icmp_ge (x := i) (y := 80) (tgt := 40) hx hb dX2_leastTolls_7 (by decide) (by omega) (by decide) (fun c_2 => ?_) (fun c_2 => ?_)
      · have n_c_2 := Nat.not_lt.mpr c_2
        have e80 : i = 80 := by omega
        rw [e80] at he
        refine lv_iconst (v := nI 1) hx hb dX2_leastTolls_40 (by decide) ?_
        refine lv_istore (lv' := [(4, .int (nI 1)), (0, .ref (b 0)), (1, .ref (a 0)), (2, .int (nI p)), (3, .int (nI g))]) hx hb dX2_leastTolls_41 hl (by decide) rfl (fun ls hl => ?_)
        refine lv_iconst (v := nI 0) hx hb dX2_leastTolls_43 (by decide) ?_
        refine lv_istore (lv' := [(5, .int (nI 0)), (4, .int (nI 1)), (0, .ref (b 0)), (1, .ref (a 0)), (2, .int (nI p)), (3, .int (nI g))]) hx hb dX2_leastTolls_44 hl (by decide) rfl (fun ls hl => ?_)
        have loop_3 : ∀ (n_46 : Nat) (r : Nat) (lx : Nat → Option Nat) (ch : Bool), (r ≤ 80) → (LB (36 * (80 * r)) lx) → (rndS T p 80 0 (iniS T p len 80, true) = rndS T p (80 - r) r (lx, ch)) → (80 - r) < n_46 → ∀ (H : Heap) (locs : List Loc), va_P D vwCl (townW K a T ++ (waysW K b lx qu n ++ X)) H → va_D A (townW K a T ++ (waysW K b lx qu n ++ X)) → va_S A st.heap H locs →  ∀ x_4 : Int32, x_4 = bI ch → ∀ x_5 : Int32, x_5 = nI r → ∀ ls : Array Slot, lv_has ls 8 [(0, .ref (b 0)), (1, .ref (a 0)), (2, .int (nI p)), (3, .int (nI g)), (4, .int x_4), (5, .int x_5)] → W pr l en (headSpec wsX2_leastTolls ({ frames := 5, cells := 0, slots := 0, locals := 101 } : Room)).room st md ar bl mt co H locs 0 0 (MQ bl (wrQ D (townW K a T ++ (waysW K b len qu n ++ X)) (townW K a T ++ (waysW K b (cheS T p len) qu n ++ X)) sz (some (.int (oI (cheS T p len g))))) ar st 0 0 A) (F0 md 46 ls []) := by
          intro n_46
          induction n_46 with
          | zero => intro r lx ch _ _ _ hn_46; exact absurd hn_46 (Nat.not_lt_zero _)
          | succ n_46 ih_46 =>
            intro r lx ch hr80 hBx he hn_46 H locs hP hD hS x_4 ex_4 x_5 ex_5 ls hl
            subst ex_4
            subst ex_5
            have hl : lv_has ls 8 [(0, .ref (b 0)), (1, .ref (a 0)), (2, .int (nI p)), (3, .int (nI g)), (4, .int (bI ch)), (5, .int (nI r))] := hl
            refine lv_iload hx hb dX2_leastTolls_46 (lv_at hl 5 rfl) ?_
            refine lv_bipush (v := nI 80) hx hb dX2_leastTolls_48 (by decide) ?_
            refine nv_icmp_ge (x := r) (y := 80) (tgt := 116) hx hb dX2_leastTolls_50 (by decide) (by omega) (by decide) (fun c_4 => ?_) (fun c_4 => ?_)
            · have n_c_4 := Nat.not_lt.mpr c_4
              refine lv_aload_n hx hb dX2_leastTolls_116 rfl (lv_at hl 0 rfl) ?_
              refine va_get (D := D) (ci := 2) (v := .ref (b 1)) (C := RX2) (T := TX2) (N := 3) hx hb hts inX2 hown hE.1 hP 12 rfl rfl 0 (by decide) F9 (fun _ h9 => h9) rfl dX2_leastTolls_117 ?_
              refine lv_iload_n hx hb dX2_leastTolls_120 rfl (lv_at hl 3 rfl) ?_
              refine rd_SN (rest := []) ⟨hx, hb, hml, hown, hts⟩ hP hE (c_X3_at l D K _ 13 _ 80 _ g rfl (by omega) (by omega)) (va_cnB (host := RX3) 2 hts gX2_leastTolls_X3_at_n35 rfl rfl rfl hE.2.2.2.2.2.2.1 IniX3 hn_X3_at ⟨Nat.le_of_ble_eq_true rfl, Nat.le_of_ble_eq_true rfl⟩) Sta_X3_at rfl hl.1 rfl (Nat.le_of_ble_eq_true rfl) dX2_leastTolls_121 ⟨Nat.le_of_ble_eq_true rfl, Nat.le_of_ble_eq_true rfl⟩ ?_
              refine top_i (y := oI (lx g)) (rfl) ?_
              have ec : lx = cheS T p len := by rw [cheS, he, rnd_done (by first | exact Or.inl c_4 | exact Or.inr c_4 | exact Or.inl c_2 | exact Or.inr c_2)]
              rw [ec] at hP hD
              exact wr_iret hAe hP hD hS hx hb hr hk dX2_leastTolls_124 ⟨Nat.le_of_ble_eq_true rfl, Nat.le_of_ble_eq_true rfl⟩ (by rw [ec])
            · have n_c_4 := Nat.not_le.mpr c_4
              refine lv_iload hx hb dX2_leastTolls_53 (lv_at hl 4 rfl) ?_
              refine bv_if_eq (x := ch) (tgt := 116) hx hb dX2_leastTolls_55 (by decide) (fun c_5 => ?_) (fun c_5 => ?_)
              · refine lv_aload_n hx hb dX2_leastTolls_116 rfl (lv_at hl 0 rfl) ?_
                refine va_get (D := D) (ci := 2) (v := .ref (b 1)) (C := RX2) (T := TX2) (N := 3) hx hb hts inX2 hown hE.1 hP 12 rfl rfl 0 (by decide) F9 (fun _ h9 => h9) rfl dX2_leastTolls_117 ?_
                refine lv_iload_n hx hb dX2_leastTolls_120 rfl (lv_at hl 3 rfl) ?_
                refine rd_SN (rest := []) ⟨hx, hb, hml, hown, hts⟩ hP hE (c_X3_at l D K _ 13 _ 80 _ g rfl (by omega) (by omega)) (va_cnB (host := RX3) 2 hts gX2_leastTolls_X3_at_n35 rfl rfl rfl hE.2.2.2.2.2.2.1 IniX3 hn_X3_at ⟨Nat.le_of_ble_eq_true rfl, Nat.le_of_ble_eq_true rfl⟩) Sta_X3_at rfl hl.1 rfl (Nat.le_of_ble_eq_true rfl) dX2_leastTolls_121 ⟨Nat.le_of_ble_eq_true rfl, Nat.le_of_ble_eq_true rfl⟩ ?_
                refine top_i (y := oI (lx g)) (rfl) ?_
                have ec : lx = cheS T p len := by rw [cheS, he, rnd_done (by first | exact Or.inl c_5 | exact Or.inr c_5 | exact Or.inl c_4 | exact Or.inr c_4 | exact Or.inl c_2 | exact Or.inr c_2)]
                rw [ec] at hP hD
                exact wr_iret hAe hP hD hS hx hb hr hk dX2_leastTolls_124 ⟨Nat.le_of_ble_eq_true rfl, Nat.le_of_ble_eq_true rfl⟩ (by rw [ec])
              · rw [c_5] at he
                refine lv_iconst (v := nI 0) hx hb dX2_leastTolls_58 (by decide) ?_
                refine lv_istore (lv' := [(4, .int (nI 0)), (0, .ref (b 0)), (1, .ref (a 0)), (2, .int (nI p)), (3, .int (nI g)), (5, .int (nI r))]) hx hb dX2_leastTolls_59 hl (by decide) rfl (fun ls hl => ?_)
                refine lv_iconst (v := nI 0) hx hb dX2_leastTolls_61 (by decide) ?_
                refine lv_istore (lv' := [(6, .int (nI 0)), (4, .int (nI 0)), (0, .ref (b 0)), (1, .ref (a 0)), (2, .int (nI p)), (3, .int (nI g)), (5, .int (nI r))]) hx hb dX2_leastTolls_62 hl (by decide) rfl (fun ls hl => ?_)
                have loop_6 : ∀ (n_64 : Nat) (i : Nat) (l2 : Nat → Option Nat) (c2 : Bool), (i ≤ 80) → (LB (36 * (80 * r + i)) l2) → (swpS T p r i (lx, false) = (l2, c2)) → (80 - i) < n_64 → ∀ (H : Heap) (locs : List Loc), va_P D vwCl (townW K a T ++ (waysW K b l2 qu n ++ X)) H → va_D A (townW K a T ++ (waysW K b l2 qu n ++ X)) → va_S A st.heap H locs →  ∀ x_4 : Int32, x_4 = bI c2 → ∀ x_6 : Int32, x_6 = nI i → ∀ ls : Array Slot, lv_has ls 8 [(0, .ref (b 0)), (1, .ref (a 0)), (2, .int (nI p)), (3, .int (nI g)), (4, .int x_4), (5, .int (nI r)), (6, .int x_6)] → W pr l en (headSpec wsX2_leastTolls ({ frames := 5, cells := 0, slots := 0, locals := 101 } : Room)).room st md ar bl mt co H locs 0 0 (MQ bl (wrQ D (townW K a T ++ (waysW K b len qu n ++ X)) (townW K a T ++ (waysW K b (cheS T p len) qu n ++ X)) sz (some (.int (oI (cheS T p len g))))) ar st 0 0 A) (F0 md 64 ls []) := by
                  intro n_64
                  induction n_64 with
                  | zero => intro i l2 c2 _ _ _ hn_64; exact absurd hn_64 (Nat.not_lt_zero _)
                  | succ n_64 ih_64 =>
                    intro i l2 c2 hi2 hB2 he2 hn_64 H locs hP hD hS x_4 ex_4 x_6 ex_6 ls hl
                    subst ex_4
                    subst ex_6
                    have hl : lv_has ls 8 [(0, .ref (b 0)), (1, .ref (a 0)), (2, .int (nI p)), (3, .int (nI g)), (4, .int (bI c2)), (5, .int (nI r)), (6, .int (nI i))] := hl
                    refine lv_iload hx hb dX2_leastTolls_64 (lv_at hl 6 rfl) ?_
                    refine lv_bipush (v := nI 80) hx hb dX2_leastTolls_66 (by decide) ?_
                    refine nv_icmp_ge (x := i) (y := 80) (tgt := 110) hx hb dX2_leastTolls_68 (by decide) (by omega) (by decide) (fun c_7 => ?_) (fun c_7 => ?_)
                    · have n_c_7 := Nat.not_lt.mpr c_7
                      refine lv_iinc (v := nI (r + 1)) (lv' := [(5, .int (nI (r + 1))), (0, .ref (b 0)), (1, .ref (a 0)), (2, .int (nI p)), (3, .int (nI g)), (4, .int (bI c2)), (6, .int (nI i))]) hx hb dX2_leastTolls_110 hl (k := 5) rfl (nI_add _ 1) (by decide) rfl (fun ls hl => ?_)
                      refine lv_goto (tgt := 46) hx hb dX2_leastTolls_113 (by decide) ?_
                      have e80 : i = 80 := by omega
                      subst e80
                      exact ih_46 (r + 1) l2 c2 (by omega) (hB2.mono (by omega)) (he.trans (rnd_step (by omega) he2)) (by omega) _ _ hP hD hS _ rfl _ rfl ls (lv_sub hl [1, 2, 3, 4, 5, 0] rfl)
                    · have n_c_7 := Nat.not_le.mpr c_7
                      refine lv_iload hx hb dX2_leastTolls_71 (lv_at hl 5 rfl) ?_
                      refine lv_iconst (v := nI 2) hx hb dX2_leastTolls_73 (by decide) ?_
                      refine nv_irem (x := r) (y := 2) hx hb dX2_leastTolls_74 (by omega) (by omega) (by decide) ?_
                      refine nv_if_ne (x := r % 2) (tgt := 83) hx hb dX2_leastTolls_75 (by decide) (by omega) (fun c_8 => ?_) (fun c_8 => ?_)
                      · have n_c_8 : ¬ r % 2 = 0 := by omega
                        refine lv_bipush (v := nI 79) hx hb dX2_leastTolls_83 (by decide) ?_
                        refine lv_iload hx hb dX2_leastTolls_85 (lv_at hl 6 rfl) ?_
                        refine nv_isub (x := 79) (y := i) hx hb dX2_leastTolls_87 (by omega) ?_
                        refine lv_istore (lv' := [(7, .int (nI (79 - i))), (0, .ref (b 0)), (1, .ref (a 0)), (2, .int (nI p)), (3, .int (nI g)), (4, .int (bI c2)), (5, .int (nI r)), (6, .int (nI i))]) hx hb dX2_leastTolls_88 hl (by decide) rfl (fun ls hl => ?_)
                        refine lv_aload_n hx hb dX2_leastTolls_90 rfl (lv_at hl 1 rfl) ?_
                        refine lv_aload_n hx hb dX2_leastTolls_91 rfl (lv_at hl 2 rfl) ?_
                        refine lv_iload_n hx hb dX2_leastTolls_92 rfl (lv_at hl 3 rfl) ?_
                        refine lv_iload hx hb dX2_leastTolls_93 (lv_at hl 0 rfl) ?_
                        refine wr_V (rest := []) (ci := 2) (q0 := 12) ⟨hx, hb, hml, hown, hts⟩ hP hE hA hD hS (c_X2_improveCost l D K _ _ _ _ _ l2 _ _ p (79 - i) _ hI (by omega) (by omega) hB2 (by omega)) (cwV 3 hts gX2_leastTolls_X2_improveCost rfl rfl rfl hd_X2_improveCost ⟨Nat.le_of_ble_eq_true rfl, Nat.le_of_ble_eq_true rfl⟩) rfl rfl rfl rfl hl.1 rfl (Nat.le_of_ble_eq_true rfl) dX2_leastTolls_95 ⟨Nat.le_of_ble_eq_true rfl, Nat.le_of_ble_eq_true rfl⟩ (fun H locs hP hD hS => ?_)
                        have hP : va_P D vwCl (townW K a T ++ (waysW K b (impL T p l2 (79 - i)) qu n ++ X)) H := hP
                        have hD : va_D A (townW K a T ++ (waysW K b (impL T p l2 (79 - i)) qu n ++ X)) := hD
                        refine bv_if_eq (x := (impS T p l2 (79 - i)).isSome) (tgt := 104) hx hb dX2_leastTolls_98 (by decide) (fun c_9 => ?_) (fun c_9 => ?_)
                        · refine lv_iinc (v := nI (i + 1)) (lv' := [(6, .int (nI (i + 1))), (7, .int (nI (79 - i))), (0, .ref (b 0)), (1, .ref (a 0)), (2, .int (nI p)), (3, .int (nI g)), (4, .int (bI c2)), (5, .int (nI r))]) hx hb dX2_leastTolls_104 hl (k := 7) rfl (nI_add _ 1) (by decide) rfl (fun ls hl => ?_)
                          refine lv_goto (tgt := 64) hx hb dX2_leastTolls_107 (by decide) ?_
                          have esq : (impL T p l2 (79 - i)) = (impL T p l2 (sqo r i)) := by simp [sqo, c_2, n_c_2, c_4, n_c_4, c_5, c_7, n_c_7, c_8, n_c_8, c_9]
                          rw [esq] at hP hD
                          exact ih_64 (i + 1) (impL T p l2 (sqo r i)) (c2 || (impS T p l2 (sqo r i)).isSome) (by omega) ((imp_LB hI hB2 (by unfold sqo; split <;> omega)).mono (by omega)) (by rw [swpS, he2]) (by omega) _ _ hP hD hS _ (by simp [bI, nI_0, nI_one, sqo, c_2, n_c_2, c_4, n_c_4, c_5, c_7, n_c_7, c_8, n_c_8, c_9]) _ rfl ls (lv_sub hl [2, 3, 4, 5, 6, 7, 0] rfl)
                        · refine lv_iconst (v := nI 1) hx hb dX2_leastTolls_101 (by decide) ?_
                          refine lv_istore (lv' := [(4, .int (nI 1)), (7, .int (nI (79 - i))), (0, .ref (b 0)), (1, .ref (a 0)), (2, .int (nI p)), (3, .int (nI g)), (5, .int (nI r)), (6, .int (nI i))]) hx hb dX2_leastTolls_102 hl (by decide) rfl (fun ls hl => ?_)
                          refine lv_iinc (v := nI (i + 1)) (lv' := [(6, .int (nI (i + 1))), (4, .int (nI 1)), (7, .int (nI (79 - i))), (0, .ref (b 0)), (1, .ref (a 0)), (2, .int (nI p)), (3, .int (nI g)), (5, .int (nI r))]) hx hb dX2_leastTolls_104 hl (k := 7) rfl (nI_add _ 1) (by decide) rfl (fun ls hl => ?_)
                          refine lv_goto (tgt := 64) hx hb dX2_leastTolls_107 (by decide) ?_
                          have esq : (impL T p l2 (79 - i)) = (impL T p l2 (sqo r i)) := by simp [sqo, c_2, n_c_2, c_4, n_c_4, c_5, c_7, n_c_7, c_8, n_c_8, c_9]
                          rw [esq] at hP hD
                          exact ih_64 (i + 1) (impL T p l2 (sqo r i)) (c2 || (impS T p l2 (sqo r i)).isSome) (by omega) ((imp_LB hI hB2 (by unfold sqo; split <;> omega)).mono (by omega)) (by rw [swpS, he2]) (by omega) _ _ hP hD hS _ (by simp [bI, nI_0, nI_one, sqo, c_2, n_c_2, c_4, n_c_4, c_5, c_7, n_c_7, c_8, n_c_8, c_9]) _ rfl ls (lv_sub hl [3, 4, 5, 6, 1, 7, 0] rfl)
                      · have n_c_8 : ¬ 0 < r % 2 := by omega
                        refine lv_iload hx hb dX2_leastTolls_78 (lv_at hl 6 rfl) ?_
                        refine lv_goto (tgt := 88) hx hb dX2_leastTolls_80 (by decide) ?_
                        refine lv_istore (lv' := [(7, .int (nI i)), (0, .ref (b 0)), (1, .ref (a 0)), (2, .int (nI p)), (3, .int (nI g)), (4, .int (bI c2)), (5, .int (nI r)), (6, .int (nI i))]) hx hb dX2_leastTolls_88 hl (by decide) rfl (fun ls hl => ?_)
                        refine lv_aload_n hx hb dX2_leastTolls_90 rfl (lv_at hl 1 rfl) ?_
                        refine lv_aload_n hx hb dX2_leastTolls_91 rfl (lv_at hl 2 rfl) ?_
                        refine lv_iload_n hx hb dX2_leastTolls_92 rfl (lv_at hl 3 rfl) ?_
                        refine lv_iload hx hb dX2_leastTolls_93 (lv_at hl 0 rfl) ?_
                        refine wr_V (rest := []) (ci := 2) (q0 := 12) ⟨hx, hb, hml, hown, hts⟩ hP hE hA hD hS (c_X2_improveCost l D K _ _ _ _ _ l2 _ _ p i _ hI (by omega) (by omega) hB2 (by omega)) (cwV 3 hts gX2_leastTolls_X2_improveCost rfl rfl rfl hd_X2_improveCost ⟨Nat.le_of_ble_eq_true rfl, Nat.le_of_ble_eq_true rfl⟩) rfl rfl rfl rfl hl.1 rfl (Nat.le_of_ble_eq_true rfl) dX2_leastTolls_95 ⟨Nat.le_of_ble_eq_true rfl, Nat.le_of_ble_eq_true rfl⟩ (fun H locs hP hD hS => ?_)
                        have hP : va_P D vwCl (townW K a T ++ (waysW K b (impL T p l2 i) qu n ++ X)) H := hP
                        have hD : va_D A (townW K a T ++ (waysW K b (impL T p l2 i) qu n ++ X)) := hD
                        refine bv_if_eq (x := (impS T p l2 i).isSome) (tgt := 104) hx hb dX2_leastTolls_98 (by decide) (fun c_10 => ?_) (fun c_10 => ?_)
                        · refine lv_iinc (v := nI (i + 1)) (lv' := [(6, .int (nI (i + 1))), (7, .int (nI i)), (0, .ref (b 0)), (1, .ref (a 0)), (2, .int (nI p)), (3, .int (nI g)), (4, .int (bI c2)), (5, .int (nI r))]) hx hb dX2_leastTolls_104 hl (k := 7) rfl (nI_add _ 1) (by decide) rfl (fun ls hl => ?_)
                          refine lv_goto (tgt := 64) hx hb dX2_leastTolls_107 (by decide) ?_
                          have esq : (impL T p l2 i) = (impL T p l2 (sqo r i)) := by simp [sqo, c_2, n_c_2, c_4, n_c_4, c_5, c_7, n_c_7, c_8, n_c_8, c_10]
                          rw [esq] at hP hD
                          exact ih_64 (i + 1) (impL T p l2 (sqo r i)) (c2 || (impS T p l2 (sqo r i)).isSome) (by omega) ((imp_LB hI hB2 (by unfold sqo; split <;> omega)).mono (by omega)) (by rw [swpS, he2]) (by omega) _ _ hP hD hS _ (by simp [bI, nI_0, nI_one, sqo, c_2, n_c_2, c_4, n_c_4, c_5, c_7, n_c_7, c_8, n_c_8, c_10]) _ rfl ls (lv_sub hl [2, 3, 4, 5, 6, 7, 0] rfl)
                        · refine lv_iconst (v := nI 1) hx hb dX2_leastTolls_101 (by decide) ?_
                          refine lv_istore (lv' := [(4, .int (nI 1)), (7, .int (nI i)), (0, .ref (b 0)), (1, .ref (a 0)), (2, .int (nI p)), (3, .int (nI g)), (5, .int (nI r)), (6, .int (nI i))]) hx hb dX2_leastTolls_102 hl (by decide) rfl (fun ls hl => ?_)
                          refine lv_iinc (v := nI (i + 1)) (lv' := [(6, .int (nI (i + 1))), (4, .int (nI 1)), (7, .int (nI i)), (0, .ref (b 0)), (1, .ref (a 0)), (2, .int (nI p)), (3, .int (nI g)), (5, .int (nI r))]) hx hb dX2_leastTolls_104 hl (k := 7) rfl (nI_add _ 1) (by decide) rfl (fun ls hl => ?_)
                          refine lv_goto (tgt := 64) hx hb dX2_leastTolls_107 (by decide) ?_
                          have esq : (impL T p l2 i) = (impL T p l2 (sqo r i)) := by simp [sqo, c_2, n_c_2, c_4, n_c_4, c_5, c_7, n_c_7, c_8, n_c_8, c_10]
                          rw [esq] at hP hD
                          exact ih_64 (i + 1) (impL T p l2 (sqo r i)) (c2 || (impS T p l2 (sqo r i)).isSome) (by omega) ((imp_LB hI hB2 (by unfold sqo; split <;> omega)).mono (by omega)) (by rw [swpS, he2]) (by omega) _ _ hP hD hS _ (by simp [bI, nI_0, nI_one, sqo, c_2, n_c_2, c_4, n_c_4, c_5, c_7, n_c_7, c_8, n_c_8, c_10]) _ rfl ls (lv_sub hl [3, 4, 5, 6, 1, 7, 0] rfl)
                exact loop_6 _ 0 lx false (by decide) hBx rfl (Nat.lt_succ_self _) _ _ hP hD hS _ rfl _ rfl ls (lv_sub hl [2, 3, 4, 5, 1, 6, 0] rfl)
        exact loop_3 _ 0 lx true (by decide) (he ▸ ini_LB T p len) (by rw [he]) (Nat.lt_succ_self _) _ _ hP hD hS _ rfl _ rfl ls (lv_sub hl [2, 3, 4, 5, 1, 0] rfl)
      · have n_c_2 := Nat.not_le.mpr c_2
        refine lv_aload_n hx hb dX2_leastTolls_10 rfl (lv_at hl 0 rfl) ?_
        refine va_get (D := D) (ci := 2) (v := .ref (b 1)) (C := RX2) (T := TX2) (N := 3) hx hb hts inX2 hown hE.1 hP 12 rfl rfl 0 (by decide) F9 (fun _ h9 => h9) rfl dX2_leastTolls_11 ?_
        refine lv_iload hx hb dX2_leastTolls_14 (lv_at hl 4 rfl) ?_
        refine lv_aload_n hx hb dX2_leastTolls_16 rfl (lv_at hl 1 rfl) ?_
        refine lv_iload_n hx hb dX2_leastTolls_17 rfl (lv_at hl 2 rfl) ?_
        refine lv_iload hx hb dX2_leastTolls_18 (lv_at hl 4 rfl) ?_
        refine rd_V (rest := [.int (nI i), .ref (b 1)]) (ci := 1) (q0 := 0) ⟨hx, hb, hml, hown, hts⟩ hP hE (c_X1_hasTrack l D K _ _ _ p i hI (by omega) (by omega)) (cwV 2 hts gX2_leastTolls_X1_hasTrack rfl rfl rfl hd_X1_hasTrack ⟨Nat.le_of_ble_eq_true rfl, Nat.le_of_ble_eq_true rfl⟩) rfl rfl rfl rfl hl.1 rfl (Nat.le_of_ble_eq_true rfl) dX2_leastTolls_20 ⟨Nat.le_of_ble_eq_true rfl, Nat.le_of_ble_eq_true rfl⟩ ?_
        refine bv_if_eq (x := hasT T p i) (tgt := 30) hx hb dX2_leastTolls_23 (by decide) (fun c_11 => ?_) (fun c_11 => ?_)
        · refine lv_iconst (v := -1) hx hb dX2_leastTolls_30 (by decide) ?_
          refine wr_SN (rest := []) ⟨hx, hb, hml, hown, hts⟩ hP hE hA hD hS (c_X3_put l D K _ _ 13 _ 80 _ i (-1) rfl (by omega) (by omega)) (va_cnB (host := RX3) 3 hts gX2_leastTolls_X3_put_n39 rfl rfl rfl hE.2.2.2.2.2.1 IniX3 hn_X3_put ⟨Nat.le_of_ble_eq_true rfl, Nat.le_of_ble_eq_true rfl⟩) Sta_X3_put rfl hl.1 rfl (Nat.le_of_ble_eq_true rfl) dX2_leastTolls_31 ⟨Nat.le_of_ble_eq_true rfl, Nat.le_of_ble_eq_true rfl⟩ (fun H locs hP hD hS => ?_)
          rw [updOM lx i] at hP hD
          have hP : va_P D vwCl (townW K a T ++ (waysW K b (va_up lx i none) qu n ++ X)) H := hP
          have hD : va_D A (townW K a T ++ (waysW K b (va_up lx i none) qu n ++ X)) := hD
          refine lv_iinc (v := nI (i + 1)) (lv' := [(4, .int (nI (i + 1))), (0, .ref (b 0)), (1, .ref (a 0)), (2, .int (nI p)), (3, .int (nI g))]) hx hb dX2_leastTolls_34 hl (k := 4) rfl (nI_add _ 1) (by decide) rfl (fun ls hl => ?_)
          refine lv_goto (tgt := 3) hx hb dX2_leastTolls_37 (by decide) ?_
          exact ih_3 (i + 1) (va_up lx i none) (by omega) (by rw [iniS, he]; simp [c_2, n_c_2, c_11]) (by omega) _ _ hP hD hS _ rfl ls (lv_sub hl [1, 2, 3, 4, 0] rfl)
        · refine lv_iconst (v := nI 0) hx hb dX2_leastTolls_26 (by decide) ?_
          refine lv_goto (tgt := 31) hx hb dX2_leastTolls_27 (by decide) ?_
          refine wr_SN (rest := []) ⟨hx, hb, hml, hown, hts⟩ hP hE hA hD hS (c_X3_put l D K _ _ 13 _ 80 _ i (nI 0) rfl (by omega) (by omega)) (va_cnB (host := RX3) 3 hts gX2_leastTolls_X3_put_n39 rfl rfl rfl hE.2.2.2.2.2.1 IniX3 hn_X3_put ⟨Nat.le_of_ble_eq_true rfl, Nat.le_of_ble_eq_true rfl⟩) Sta_X3_put rfl hl.1 rfl (Nat.le_of_ble_eq_true rfl) dX2_leastTolls_31 ⟨Nat.le_of_ble_eq_true rfl, Nat.le_of_ble_eq_true rfl⟩ (fun H locs hP hD hS => ?_)
          rw [updON lx i 0] at hP hD
          have hP : va_P D vwCl (townW K a T ++ (waysW K b (va_up lx i (some 0)) qu n ++ X)) H := hP
          have hD : va_D A (townW K a T ++ (waysW K b (va_up lx i (some 0)) qu n ++ X)) := hD
          refine lv_iinc (v := nI (i + 1)) (lv' := [(4, .int (nI (i + 1))), (0, .ref (b 0)), (1, .ref (a 0)), (2, .int (nI p)), (3, .int (nI g))]) hx hb dX2_leastTolls_34 hl (k := 4) rfl (nI_add _ 1) (by decide) rfl (fun ls hl => ?_)
          refine lv_goto (tgt := 3) hx hb dX2_leastTolls_37 (by decide) ?_
          exact ih_3 (i + 1) (va_up lx i (some 0)) (by omega) (by rw [iniS, he]; simp [c_2, n_c_2, c_11]) (by omega) _ _ hP hD hS _ rfl ls (lv_sub hl [1, 2, 3, 4, 0] rfl)
  exact loop_1 _ 0 len (by decide) rfl (Nat.lt_succ_self _) _ _ hP hD hS _ rfl ls (lv_sub hl [1, 2, 3, 4, 0] rfl)
