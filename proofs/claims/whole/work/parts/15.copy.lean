theorem hd_X3_copyRow : yX3_copyRow.cls = RX3 ∧ yX3_copyRow.cls ≠ "java/lang/invoke/MethodHandle" ∧ yX3_copyRow.cls ≠ "java/lang/invoke/VarHandle" ∧ (parseMethodDescriptor yX3_copyRow.desc).map (fun d => d.parameters.length) = some 2 := by decide +kernel
theorem hn_X3_copyRow : yX3_copyRow.cls ≠ "java/lang/invoke/MethodHandle" ∧ yX3_copyRow.cls ≠ "java/lang/invoke/VarHandle" ∧ (parseMethodDescriptor yX3_copyRow.desc).map (fun d => d.parameters.length) = some 2 := hd_X3_copyRow.2
theorem hd_X1_copyFrom : yX1_copyFrom.cls = RX1 ∧ yX1_copyFrom.cls ≠ "java/lang/invoke/MethodHandle" ∧ yX1_copyFrom.cls ≠ "java/lang/invoke/VarHandle" ∧ (parseMethodDescriptor yX1_copyFrom.desc).map (fun d => d.parameters.length) = some 1 := by decide +kernel
theorem hn_X1_copyFrom : yX1_copyFrom.cls ≠ "java/lang/invoke/MethodHandle" ∧ yX1_copyFrom.cls ≠ "java/lang/invoke/VarHandle" ∧ (parseMethodDescriptor yX1_copyFrom.desc).map (fun d => d.parameters.length) = some 1 := hd_X1_copyFrom.2
set_option maxHeartbeats 4000000 in
set_option maxRecDepth 100000 in
theorem c_X3_copyRow (l : Launch) (D : va_G) (K : Nat → ClassId) (sz : Nat) (ws : va_W) (q0 q1 h0 h1 n : Nat) (f f1 : Nat → Int32) (hq0 : ws[q0]? = some (h0, .inl (K 0, n, .inl f))) (hq1 : ws[q1]? = some (h1, .inl (K 0, n, .inl f1))) (hn : n < 2 ^ 31) : Wr l yX3_copyRow wsX3_copyRow ({ frames := 2, cells := 0, slots := 0, locals := 40 } : Room) D K (ws) sz [.ref h0, .ref h1] (ws.set q1 (h1, .inl (K 0, n, .inl f))) none 0 0 := by
  refine wr_intro (cc := cX3_copyRow) (maxL := 2) (ret := none) (by decide) rfl (Nat.le_of_ble_eq_true rfl) ?_
  intro pr en st md ar bl mt co A hx hb hml hr hts hown hk hsz hAe hP hE hD hS hA hin ls hl
  have hown : st.vm.findClass RX3 = some md.cls := hown
  have hl : lv_has ls 2 [(0, .ref h0), (1, .ref h1)] := hl
  obtain ⟨H, hH⟩ : ∃ z, z = st.heap := ⟨_, rfl⟩
  obtain ⟨locs, hlo⟩ : ∃ z : List Loc, z = [] := ⟨_, rfl⟩
  have hP : va_P D vwCl (ws) H := by rw [hH]; exact hP
  have hS : va_S A st.heap H locs := by rw [hH, hlo]; exact hS
  suffices go : W pr l en (headSpec wsX3_copyRow ({ frames := 2, cells := 0, slots := 0, locals := 40 } : Room)).room st md ar bl mt co H locs 0 0 (MQ bl (wrQ D (ws) (ws.set q1 (h1, .inl (K 0, n, .inl f))) sz none) ar st 0 0 A) (F0 md 0 ls []) by rw [hH, hlo] at go; exact go
  clear hH hlo
  have ML314 : (Cond.methodLink RX3 314 Lib.Math.min.name).before ar st = true := hts _ (List.mem_of_getElem? (i := 1) rfl)
  have MMs : (Cond.static Lib.Math.min.name).before ar st = true := hts _ (List.mem_of_getElem? (i := 2) rfl)
  have MMi : (Cond.initialized "java/lang/Math").before ar st = true := hts _ (List.mem_of_getElem? (i := 3) rfl)
  have MMc : (Cond.code Lib.Math.min.name Lib.Math.min.code 2 (some .int)).before ar st = true := hts _ (List.mem_of_getElem? (i := 4) rfl)
  have ML319 : (Cond.methodLink RX3 319 arraycopyName).before ar st = true := hts _ (List.mem_of_getElem? (i := 5) rfl)
  have ACn : (Cond.native arraycopyName).before ar st = true := hts _ (List.mem_of_getElem? (i := 6) rfl)
  have ACs : (Cond.static arraycopyName).before ar st = true := hts _ (List.mem_of_getElem? (i := 7) rfl)
  have ACi : (Cond.initialized "java/lang/System").before ar st = true := hts _ (List.mem_of_getElem? (i := 8) rfl)
  refine lv_aload_n hx hb dX3_copyRow_0 rfl (lv_at hl 0 rfl) ?_
  refine lv_iconst (v := nI 0) hx hb dX3_copyRow_1 (by decide) ?_
  refine lv_aload_n hx hb dX3_copyRow_2 rfl (lv_at hl 1 rfl) ?_
  refine lv_iconst (v := nI 0) hx hb dX3_copyRow_3 (by decide) ?_
  refine lv_aload_n hx hb dX3_copyRow_4 rfl (lv_at hl 0 rfl) ?_
  refine va_alen (v := nI n) hx hb hE.1 hP q0 0 hq0 rfl rfl dX3_copyRow_5 ?_
  refine lv_aload_n hx hb dX3_copyRow_6 rfl (lv_at hl 1 rfl) ?_
  refine va_alen (v := nI n) hx hb hE.1 hP q1 0 hq1 rfl rfl dX3_copyRow_7 ?_
  refine va_mmin hx hb (hml.trans hl.1.symm) hown ML314 MMs MMi MMc (Nat.le_of_ble_eq_true rfl) (Nat.le_of_ble_eq_true rfl) (Nat.zero_le _) (Nat.zero_le _) dX3_copyRow_8 ?_
  refine top_i (y := nI n) ((min_nI (by omega) (by omega)).trans (by rw [show Nat.min n n = n from Nat.min_self _])) ?_
  refine va_copyi (rest := []) hx hb (hml.trans hl.1.symm) hown ML319 ACn ACs ACi hE.1 hP hD hS q0 q1 0 0 hq0 hq1 rfl rfl rfl (nI_pos (by decide)) (nI_pos (by decide)) (nI_pos (by omega)) (by rw [nI_clamp (by decide), nI_clamp (by omega)]; omega) (by rw [nI_clamp (by decide), nI_clamp (by omega)]; omega) (fun _ _ => rfl) (Nat.le_of_ble_eq_true rfl) (Nat.le_of_ble_eq_true rfl) dX3_copyRow_11 (fun H locs hP hD hS => ?_)
  have hP := va_P.cong hP (g := f) (fun j hj => by rw [nI_clamp (by decide), nI_clamp (by omega), sb_cpy0 hj])
  have hD := va_D.cong hD (e2 := .inl (K 0, n, .inl f))
  have hP : va_P D vwCl (ws.set q1 (h1, .inl (K 0, n, .inl f))) H := hP
  have hD : va_D A (ws.set q1 (h1, .inl (K 0, n, .inl f))) := hD
  exact wr_vret hAe hP hD hS hx hb hr hk dX3_copyRow_14 ⟨Nat.le_of_ble_eq_true rfl, Nat.le_of_ble_eq_true rfl⟩
set_option maxHeartbeats 4000000 in
set_option maxRecDepth 100000 in
theorem c_X1_copyFrom_s0 (l : Launch) (D : va_G) (K : Nat → ClassId) (sz : Nat) (a b t : Nat → Nat) (g : Nat → Nat → Nat) (T : TW) (X : va_W) (len : Nat → Option Nat) (qu : Nat → Nat) (n : Nat) (cs : Nat → Nat) (ln : Nat) (m0 m1 : Nat × va_E) (Sv : Nat → TW) : Wr l yX1_copyFrom wsX1_copyFrom ({ frames := 3, cells := 0, slots := 0, locals := 61 } : Room) D K (townW K a T ++ (waysW K b len qu n ++ (textW K t cs ln ++ (m0 :: m1 :: svW K g Sv X)))) sz [.ref ((g 0) 0), .ref (a 0)] (townW K a T ++ (waysW K b len qu n ++ (textW K t cs ln ++ (m0 :: m1 :: svW K g (va_up Sv 0 T) X)))) none 0 0 := by
  refine wr_intro (cc := cX1_copyFrom) (maxL := 2) (ret := none) (by decide) rfl (Nat.le_of_ble_eq_true rfl) ?_
  intro pr en st md ar bl mt co A hx hb hml hr hts hown hk hsz hAe hP hE hD hS hA hin ls hl
  have hown : st.vm.findClass RX1 = some md.cls := hown
  have hl : lv_has ls 2 [(0, .ref ((g 0) 0)), (1, .ref (a 0))] := hl
  obtain ⟨H, hH⟩ : ∃ z, z = st.heap := ⟨_, rfl⟩
  obtain ⟨locs, hlo⟩ : ∃ z : List Loc, z = [] := ⟨_, rfl⟩
  have hP : va_P D vwCl (townW K a T ++ (waysW K b len qu n ++ (textW K t cs ln ++ (m0 :: m1 :: svW K g Sv X)))) H := by rw [hH]; exact hP
  have hS : va_S A st.heap H locs := by rw [hH, hlo]; exact hS
  suffices go : W pr l en (headSpec wsX1_copyFrom ({ frames := 3, cells := 0, slots := 0, locals := 61 } : Room)).room st md ar bl mt co H locs 0 0 (MQ bl (wrQ D (townW K a T ++ (waysW K b len qu n ++ (textW K t cs ln ++ (m0 :: m1 :: svW K g Sv X)))) (townW K a T ++ (waysW K b len qu n ++ (textW K t cs ln ++ (m0 :: m1 :: svW K g (va_up Sv 0 T) X)))) sz none) ar st 0 0 A) (F0 md 0 ls []) by rw [hH, hlo] at go; exact go
  clear hH hlo
  have F9 : (Cond.fieldLink RX1 9 "TramTolls$Town" "houses" "[I").before ar st = true := hts _ (List.mem_of_getElem? (i := 1) rfl)
  have inX1 : ∀ w ∈ u_ws RX1 TX1 12, w ∈ wsX1_copyFrom := fun w h => List.mem_cons_of_mem _ (List.mem_append_right _ h)
  have IniX3 : (Cond.initialized RX3).before ar st = true := hts _ (List.mem_of_getElem? (i := 14) rfl)
  have Sta_X3_copyRow : (Cond.static yX3_copyRow).before ar st = true := hts _ (List.mem_of_getElem? (i := 13) rfl)
  have F15 : (Cond.fieldLink RX1 15 "TramTolls$Town" "trackMasks" "[I").before ar st = true := hts _ (List.mem_of_getElem? (i := 2) rfl)
  have F18 : (Cond.fieldLink RX1 18 "TramTolls$Town" "owners" "[I").before ar st = true := hts _ (List.mem_of_getElem? (i := 3) rfl)
  have F21 : (Cond.fieldLink RX1 21 "TramTolls$Town" "stopSquares" "[I").before ar st = true := hts _ (List.mem_of_getElem? (i := 4) rfl)
  have F24 : (Cond.fieldLink RX1 24 "TramTolls$Town" "stopPlayers" "[I").before ar st = true := hts _ (List.mem_of_getElem? (i := 5) rfl)
  have F27 : (Cond.fieldLink RX1 27 "TramTolls$Town" "coins" "[I").before ar st = true := hts _ (List.mem_of_getElem? (i := 6) rfl)
  have F38 : (Cond.fieldLink RX1 38 "TramTolls$Town" "heads" "[I").before ar st = true := hts _ (List.mem_of_getElem? (i := 7) rfl)
  have F41 : (Cond.fieldLink RX1 41 "TramTolls$Town" "lastDirections" "[I").before ar st = true := hts _ (List.mem_of_getElem? (i := 8) rfl)
  have F44 : (Cond.fieldLink RX1 44 "TramTolls$Town" "tollsPaid" "[I").before ar st = true := hts _ (List.mem_of_getElem? (i := 9) rfl)
  have F47 : (Cond.fieldLink RX1 47 "TramTolls$Town" "tollsGot" "[I").before ar st = true := hts _ (List.mem_of_getElem? (i := 10) rfl)
  have F53 : (Cond.fieldLink RX1 53 "TramTolls$Town" "settings" "[I").before ar st = true := hts _ (List.mem_of_getElem? (i := 11) rfl)
  have F66 : (Cond.fieldLink RX1 66 "TramTolls$Town" "piecesLaid" "I").before ar st = true := hts _ (List.mem_of_getElem? (i := 12) rfl)
  refine lv_aload_n hx hb dX1_copyFrom_0 rfl (lv_at hl 1 rfl) ?_
  refine va_get (D := D) (ci := 1) (v := .ref (a 1)) (C := RX1) (T := TX1) (N := 12) hx hb hts inX1 hown hE.1 hP 0 rfl rfl 0 (by decide) F9 (fun _ h9 => h9) rfl dX1_copyFrom_1 ?_
  refine lv_aload_n hx hb dX1_copyFrom_4 rfl (lv_at hl 0 rfl) ?_
  refine va_get (D := D) (ci := 1) (v := .ref ((g 0) 1)) (C := RX1) (T := TX1) (N := 12) hx hb hts inX1 hown hE.1 hP 19 rfl rfl 0 (by decide) F9 (fun _ h9 => h9) rfl dX1_copyFrom_5 ?_
  refine wr_SN (rest := []) ⟨hx, hb, hml, hown, hts⟩ hP hE hA hD hS (c_X3_copyRow l D K _ _ 1 20 _ _ 80 _ _ rfl rfl (by decide)) (va_cnB (host := RX3) 2 hts gX1_copyFrom_X3_copyRow_n62 rfl rfl rfl hE.2.2.2.2.2.2.2.2.2.2.2.1 IniX3 hn_X3_copyRow ⟨Nat.le_of_ble_eq_true rfl, Nat.le_of_ble_eq_true rfl⟩) Sta_X3_copyRow rfl hl.1 rfl (Nat.le_of_ble_eq_true rfl) dX1_copyFrom_8 ⟨Nat.le_of_ble_eq_true rfl, Nat.le_of_ble_eq_true rfl⟩ (fun H locs hP hD hS => ?_)
  have hP : va_P D vwCl (townW K a T ++ (waysW K b len qu n ++ (textW K t cs ln ++ (m0 :: m1 :: (townW K (g 0) (va_up (Sv 0) 0 (T 0)) ++ (townW K (g 1) (Sv 1) ++ (townW K (g 2) (Sv 2) ++ (townW K (g 3) (Sv 3) ++ (townW K (g 4) (Sv 4) ++ (townW K (g 5) (Sv 5) ++ X)))))))))) H := hP
  have hD : va_D A (townW K a T ++ (waysW K b len qu n ++ (textW K t cs ln ++ (m0 :: m1 :: (townW K (g 0) (va_up (Sv 0) 0 (T 0)) ++ (townW K (g 1) (Sv 1) ++ (townW K (g 2) (Sv 2) ++ (townW K (g 3) (Sv 3) ++ (townW K (g 4) (Sv 4) ++ (townW K (g 5) (Sv 5) ++ X)))))))))) := hD
  refine lv_aload_n hx hb dX1_copyFrom_11 rfl (lv_at hl 1 rfl) ?_
  refine va_get (D := D) (ci := 1) (v := .ref (a 2)) (C := RX1) (T := TX1) (N := 12) hx hb hts inX1 hown hE.1 hP 0 rfl rfl 1 (by decide) F15 (fun _ h9 => h9) rfl dX1_copyFrom_12 ?_
  refine lv_aload_n hx hb dX1_copyFrom_15 rfl (lv_at hl 0 rfl) ?_
  refine va_get (D := D) (ci := 1) (v := .ref ((g 0) 2)) (C := RX1) (T := TX1) (N := 12) hx hb hts inX1 hown hE.1 hP 19 rfl rfl 1 (by decide) F15 (fun _ h9 => h9) rfl dX1_copyFrom_16 ?_
  refine wr_SN (rest := []) ⟨hx, hb, hml, hown, hts⟩ hP hE hA hD hS (c_X3_copyRow l D K _ _ 2 21 _ _ 80 _ _ rfl rfl (by decide)) (va_cnB (host := RX3) 2 hts gX1_copyFrom_X3_copyRow_n62 rfl rfl rfl hE.2.2.2.2.2.2.2.2.2.2.2.1 IniX3 hn_X3_copyRow ⟨Nat.le_of_ble_eq_true rfl, Nat.le_of_ble_eq_true rfl⟩) Sta_X3_copyRow rfl hl.1 rfl (Nat.le_of_ble_eq_true rfl) dX1_copyFrom_19 ⟨Nat.le_of_ble_eq_true rfl, Nat.le_of_ble_eq_true rfl⟩ (fun H locs hP hD hS => ?_)
  have hP : va_P D vwCl (townW K a T ++ (waysW K b len qu n ++ (textW K t cs ln ++ (m0 :: m1 :: (townW K (g 0) (va_up (va_up (Sv 0) 0 (T 0)) 1 (T 1)) ++ (townW K (g 1) (Sv 1) ++ (townW K (g 2) (Sv 2) ++ (townW K (g 3) (Sv 3) ++ (townW K (g 4) (Sv 4) ++ (townW K (g 5) (Sv 5) ++ X)))))))))) H := hP
  have hD : va_D A (townW K a T ++ (waysW K b len qu n ++ (textW K t cs ln ++ (m0 :: m1 :: (townW K (g 0) (va_up (va_up (Sv 0) 0 (T 0)) 1 (T 1)) ++ (townW K (g 1) (Sv 1) ++ (townW K (g 2) (Sv 2) ++ (townW K (g 3) (Sv 3) ++ (townW K (g 4) (Sv 4) ++ (townW K (g 5) (Sv 5) ++ X)))))))))) := hD
  refine lv_aload_n hx hb dX1_copyFrom_22 rfl (lv_at hl 1 rfl) ?_
  refine va_get (D := D) (ci := 1) (v := .ref (a 3)) (C := RX1) (T := TX1) (N := 12) hx hb hts inX1 hown hE.1 hP 0 rfl rfl 2 (by decide) F18 (fun _ h9 => h9) rfl dX1_copyFrom_23 ?_
  refine lv_aload_n hx hb dX1_copyFrom_26 rfl (lv_at hl 0 rfl) ?_
  refine va_get (D := D) (ci := 1) (v := .ref ((g 0) 3)) (C := RX1) (T := TX1) (N := 12) hx hb hts inX1 hown hE.1 hP 19 rfl rfl 2 (by decide) F18 (fun _ h9 => h9) rfl dX1_copyFrom_27 ?_
  refine wr_SN (rest := []) ⟨hx, hb, hml, hown, hts⟩ hP hE hA hD hS (c_X3_copyRow l D K _ _ 3 22 _ _ 80 _ _ rfl rfl (by decide)) (va_cnB (host := RX3) 2 hts gX1_copyFrom_X3_copyRow_n62 rfl rfl rfl hE.2.2.2.2.2.2.2.2.2.2.2.1 IniX3 hn_X3_copyRow ⟨Nat.le_of_ble_eq_true rfl, Nat.le_of_ble_eq_true rfl⟩) Sta_X3_copyRow rfl hl.1 rfl (Nat.le_of_ble_eq_true rfl) dX1_copyFrom_30 ⟨Nat.le_of_ble_eq_true rfl, Nat.le_of_ble_eq_true rfl⟩ (fun H locs hP hD hS => ?_)
  have hP : va_P D vwCl (townW K a T ++ (waysW K b len qu n ++ (textW K t cs ln ++ (m0 :: m1 :: (townW K (g 0) (va_up (va_up (va_up (Sv 0) 0 (T 0)) 1 (T 1)) 2 (T 2)) ++ (townW K (g 1) (Sv 1) ++ (townW K (g 2) (Sv 2) ++ (townW K (g 3) (Sv 3) ++ (townW K (g 4) (Sv 4) ++ (townW K (g 5) (Sv 5) ++ X)))))))))) H := hP
  have hD : va_D A (townW K a T ++ (waysW K b len qu n ++ (textW K t cs ln ++ (m0 :: m1 :: (townW K (g 0) (va_up (va_up (va_up (Sv 0) 0 (T 0)) 1 (T 1)) 2 (T 2)) ++ (townW K (g 1) (Sv 1) ++ (townW K (g 2) (Sv 2) ++ (townW K (g 3) (Sv 3) ++ (townW K (g 4) (Sv 4) ++ (townW K (g 5) (Sv 5) ++ X)))))))))) := hD
  refine lv_aload_n hx hb dX1_copyFrom_33 rfl (lv_at hl 1 rfl) ?_
  refine va_get (D := D) (ci := 1) (v := .ref (a 4)) (C := RX1) (T := TX1) (N := 12) hx hb hts inX1 hown hE.1 hP 0 rfl rfl 3 (by decide) F21 (fun _ h9 => h9) rfl dX1_copyFrom_34 ?_
  refine lv_aload_n hx hb dX1_copyFrom_37 rfl (lv_at hl 0 rfl) ?_
  refine va_get (D := D) (ci := 1) (v := .ref ((g 0) 4)) (C := RX1) (T := TX1) (N := 12) hx hb hts inX1 hown hE.1 hP 19 rfl rfl 3 (by decide) F21 (fun _ h9 => h9) rfl dX1_copyFrom_38 ?_
  refine wr_SN (rest := []) ⟨hx, hb, hml, hown, hts⟩ hP hE hA hD hS (c_X3_copyRow l D K _ _ 4 23 _ _ 12 _ _ rfl rfl (by decide)) (va_cnB (host := RX3) 2 hts gX1_copyFrom_X3_copyRow_n62 rfl rfl rfl hE.2.2.2.2.2.2.2.2.2.2.2.1 IniX3 hn_X3_copyRow ⟨Nat.le_of_ble_eq_true rfl, Nat.le_of_ble_eq_true rfl⟩) Sta_X3_copyRow rfl hl.1 rfl (Nat.le_of_ble_eq_true rfl) dX1_copyFrom_41 ⟨Nat.le_of_ble_eq_true rfl, Nat.le_of_ble_eq_true rfl⟩ (fun H locs hP hD hS => ?_)
  have hP : va_P D vwCl (townW K a T ++ (waysW K b len qu n ++ (textW K t cs ln ++ (m0 :: m1 :: (townW K (g 0) (va_up (va_up (va_up (va_up (Sv 0) 0 (T 0)) 1 (T 1)) 2 (T 2)) 3 (T 3)) ++ (townW K (g 1) (Sv 1) ++ (townW K (g 2) (Sv 2) ++ (townW K (g 3) (Sv 3) ++ (townW K (g 4) (Sv 4) ++ (townW K (g 5) (Sv 5) ++ X)))))))))) H := hP
  have hD : va_D A (townW K a T ++ (waysW K b len qu n ++ (textW K t cs ln ++ (m0 :: m1 :: (townW K (g 0) (va_up (va_up (va_up (va_up (Sv 0) 0 (T 0)) 1 (T 1)) 2 (T 2)) 3 (T 3)) ++ (townW K (g 1) (Sv 1) ++ (townW K (g 2) (Sv 2) ++ (townW K (g 3) (Sv 3) ++ (townW K (g 4) (Sv 4) ++ (townW K (g 5) (Sv 5) ++ X)))))))))) := hD
  refine lv_aload_n hx hb dX1_copyFrom_44 rfl (lv_at hl 1 rfl) ?_
  refine va_get (D := D) (ci := 1) (v := .ref (a 5)) (C := RX1) (T := TX1) (N := 12) hx hb hts inX1 hown hE.1 hP 0 rfl rfl 4 (by decide) F24 (fun _ h9 => h9) rfl dX1_copyFrom_45 ?_
  refine lv_aload_n hx hb dX1_copyFrom_48 rfl (lv_at hl 0 rfl) ?_
  refine va_get (D := D) (ci := 1) (v := .ref ((g 0) 5)) (C := RX1) (T := TX1) (N := 12) hx hb hts inX1 hown hE.1 hP 19 rfl rfl 4 (by decide) F24 (fun _ h9 => h9) rfl dX1_copyFrom_49 ?_
  refine wr_SN (rest := []) ⟨hx, hb, hml, hown, hts⟩ hP hE hA hD hS (c_X3_copyRow l D K _ _ 5 24 _ _ 12 _ _ rfl rfl (by decide)) (va_cnB (host := RX3) 2 hts gX1_copyFrom_X3_copyRow_n62 rfl rfl rfl hE.2.2.2.2.2.2.2.2.2.2.2.1 IniX3 hn_X3_copyRow ⟨Nat.le_of_ble_eq_true rfl, Nat.le_of_ble_eq_true rfl⟩) Sta_X3_copyRow rfl hl.1 rfl (Nat.le_of_ble_eq_true rfl) dX1_copyFrom_52 ⟨Nat.le_of_ble_eq_true rfl, Nat.le_of_ble_eq_true rfl⟩ (fun H locs hP hD hS => ?_)
  have hP : va_P D vwCl (townW K a T ++ (waysW K b len qu n ++ (textW K t cs ln ++ (m0 :: m1 :: (townW K (g 0) (va_up (va_up (va_up (va_up (va_up (Sv 0) 0 (T 0)) 1 (T 1)) 2 (T 2)) 3 (T 3)) 4 (T 4)) ++ (townW K (g 1) (Sv 1) ++ (townW K (g 2) (Sv 2) ++ (townW K (g 3) (Sv 3) ++ (townW K (g 4) (Sv 4) ++ (townW K (g 5) (Sv 5) ++ X)))))))))) H := hP
  have hD : va_D A (townW K a T ++ (waysW K b len qu n ++ (textW K t cs ln ++ (m0 :: m1 :: (townW K (g 0) (va_up (va_up (va_up (va_up (va_up (Sv 0) 0 (T 0)) 1 (T 1)) 2 (T 2)) 3 (T 3)) 4 (T 4)) ++ (townW K (g 1) (Sv 1) ++ (townW K (g 2) (Sv 2) ++ (townW K (g 3) (Sv 3) ++ (townW K (g 4) (Sv 4) ++ (townW K (g 5) (Sv 5) ++ X)))))))))) := hD
  refine lv_aload_n hx hb dX1_copyFrom_55 rfl (lv_at hl 1 rfl) ?_
  refine va_get (D := D) (ci := 1) (v := .ref (a 6)) (C := RX1) (T := TX1) (N := 12) hx hb hts inX1 hown hE.1 hP 0 rfl rfl 5 (by decide) F27 (fun _ h9 => h9) rfl dX1_copyFrom_56 ?_
  refine lv_aload_n hx hb dX1_copyFrom_59 rfl (lv_at hl 0 rfl) ?_
  refine va_get (D := D) (ci := 1) (v := .ref ((g 0) 6)) (C := RX1) (T := TX1) (N := 12) hx hb hts inX1 hown hE.1 hP 19 rfl rfl 5 (by decide) F27 (fun _ h9 => h9) rfl dX1_copyFrom_60 ?_
  refine wr_SN (rest := []) ⟨hx, hb, hml, hown, hts⟩ hP hE hA hD hS (c_X3_copyRow l D K _ _ 6 25 _ _ 4 _ _ rfl rfl (by decide)) (va_cnB (host := RX3) 2 hts gX1_copyFrom_X3_copyRow_n62 rfl rfl rfl hE.2.2.2.2.2.2.2.2.2.2.2.1 IniX3 hn_X3_copyRow ⟨Nat.le_of_ble_eq_true rfl, Nat.le_of_ble_eq_true rfl⟩) Sta_X3_copyRow rfl hl.1 rfl (Nat.le_of_ble_eq_true rfl) dX1_copyFrom_63 ⟨Nat.le_of_ble_eq_true rfl, Nat.le_of_ble_eq_true rfl⟩ (fun H locs hP hD hS => ?_)
  have hP : va_P D vwCl (townW K a T ++ (waysW K b len qu n ++ (textW K t cs ln ++ (m0 :: m1 :: (townW K (g 0) (va_up (va_up (va_up (va_up (va_up (va_up (Sv 0) 0 (T 0)) 1 (T 1)) 2 (T 2)) 3 (T 3)) 4 (T 4)) 5 (T 5)) ++ (townW K (g 1) (Sv 1) ++ (townW K (g 2) (Sv 2) ++ (townW K (g 3) (Sv 3) ++ (townW K (g 4) (Sv 4) ++ (townW K (g 5) (Sv 5) ++ X)))))))))) H := hP
  have hD : va_D A (townW K a T ++ (waysW K b len qu n ++ (textW K t cs ln ++ (m0 :: m1 :: (townW K (g 0) (va_up (va_up (va_up (va_up (va_up (va_up (Sv 0) 0 (T 0)) 1 (T 1)) 2 (T 2)) 3 (T 3)) 4 (T 4)) 5 (T 5)) ++ (townW K (g 1) (Sv 1) ++ (townW K (g 2) (Sv 2) ++ (townW K (g 3) (Sv 3) ++ (townW K (g 4) (Sv 4) ++ (townW K (g 5) (Sv 5) ++ X)))))))))) := hD
  refine lv_aload_n hx hb dX1_copyFrom_66 rfl (lv_at hl 1 rfl) ?_
  refine va_get (D := D) (ci := 1) (v := .ref (a 7)) (C := RX1) (T := TX1) (N := 12) hx hb hts inX1 hown hE.1 hP 0 rfl rfl 6 (by decide) F38 (fun _ h9 => h9) rfl dX1_copyFrom_67 ?_
  refine lv_aload_n hx hb dX1_copyFrom_70 rfl (lv_at hl 0 rfl) ?_
  refine va_get (D := D) (ci := 1) (v := .ref ((g 0) 7)) (C := RX1) (T := TX1) (N := 12) hx hb hts inX1 hown hE.1 hP 19 rfl rfl 6 (by decide) F38 (fun _ h9 => h9) rfl dX1_copyFrom_71 ?_
  refine wr_SN (rest := []) ⟨hx, hb, hml, hown, hts⟩ hP hE hA hD hS (c_X3_copyRow l D K _ _ 7 26 _ _ 4 _ _ rfl rfl (by decide)) (va_cnB (host := RX3) 2 hts gX1_copyFrom_X3_copyRow_n62 rfl rfl rfl hE.2.2.2.2.2.2.2.2.2.2.2.1 IniX3 hn_X3_copyRow ⟨Nat.le_of_ble_eq_true rfl, Nat.le_of_ble_eq_true rfl⟩) Sta_X3_copyRow rfl hl.1 rfl (Nat.le_of_ble_eq_true rfl) dX1_copyFrom_74 ⟨Nat.le_of_ble_eq_true rfl, Nat.le_of_ble_eq_true rfl⟩ (fun H locs hP hD hS => ?_)
  have hP : va_P D vwCl (townW K a T ++ (waysW K b len qu n ++ (textW K t cs ln ++ (m0 :: m1 :: (townW K (g 0) (va_up (va_up (va_up (va_up (va_up (va_up (va_up (Sv 0) 0 (T 0)) 1 (T 1)) 2 (T 2)) 3 (T 3)) 4 (T 4)) 5 (T 5)) 6 (T 6)) ++ (townW K (g 1) (Sv 1) ++ (townW K (g 2) (Sv 2) ++ (townW K (g 3) (Sv 3) ++ (townW K (g 4) (Sv 4) ++ (townW K (g 5) (Sv 5) ++ X)))))))))) H := hP
  have hD : va_D A (townW K a T ++ (waysW K b len qu n ++ (textW K t cs ln ++ (m0 :: m1 :: (townW K (g 0) (va_up (va_up (va_up (va_up (va_up (va_up (va_up (Sv 0) 0 (T 0)) 1 (T 1)) 2 (T 2)) 3 (T 3)) 4 (T 4)) 5 (T 5)) 6 (T 6)) ++ (townW K (g 1) (Sv 1) ++ (townW K (g 2) (Sv 2) ++ (townW K (g 3) (Sv 3) ++ (townW K (g 4) (Sv 4) ++ (townW K (g 5) (Sv 5) ++ X)))))))))) := hD
  refine lv_aload_n hx hb dX1_copyFrom_77 rfl (lv_at hl 1 rfl) ?_
  refine va_get (D := D) (ci := 1) (v := .ref (a 8)) (C := RX1) (T := TX1) (N := 12) hx hb hts inX1 hown hE.1 hP 0 rfl rfl 7 (by decide) F41 (fun _ h9 => h9) rfl dX1_copyFrom_78 ?_
  refine lv_aload_n hx hb dX1_copyFrom_81 rfl (lv_at hl 0 rfl) ?_
  refine va_get (D := D) (ci := 1) (v := .ref ((g 0) 8)) (C := RX1) (T := TX1) (N := 12) hx hb hts inX1 hown hE.1 hP 19 rfl rfl 7 (by decide) F41 (fun _ h9 => h9) rfl dX1_copyFrom_82 ?_
  refine wr_SN (rest := []) ⟨hx, hb, hml, hown, hts⟩ hP hE hA hD hS (c_X3_copyRow l D K _ _ 8 27 _ _ 4 _ _ rfl rfl (by decide)) (va_cnB (host := RX3) 2 hts gX1_copyFrom_X3_copyRow_n62 rfl rfl rfl hE.2.2.2.2.2.2.2.2.2.2.2.1 IniX3 hn_X3_copyRow ⟨Nat.le_of_ble_eq_true rfl, Nat.le_of_ble_eq_true rfl⟩) Sta_X3_copyRow rfl hl.1 rfl (Nat.le_of_ble_eq_true rfl) dX1_copyFrom_85 ⟨Nat.le_of_ble_eq_true rfl, Nat.le_of_ble_eq_true rfl⟩ (fun H locs hP hD hS => ?_)
  have hP : va_P D vwCl (townW K a T ++ (waysW K b len qu n ++ (textW K t cs ln ++ (m0 :: m1 :: (townW K (g 0) (va_up (va_up (va_up (va_up (va_up (va_up (va_up (va_up (Sv 0) 0 (T 0)) 1 (T 1)) 2 (T 2)) 3 (T 3)) 4 (T 4)) 5 (T 5)) 6 (T 6)) 7 (T 7)) ++ (townW K (g 1) (Sv 1) ++ (townW K (g 2) (Sv 2) ++ (townW K (g 3) (Sv 3) ++ (townW K (g 4) (Sv 4) ++ (townW K (g 5) (Sv 5) ++ X)))))))))) H := hP
  have hD : va_D A (townW K a T ++ (waysW K b len qu n ++ (textW K t cs ln ++ (m0 :: m1 :: (townW K (g 0) (va_up (va_up (va_up (va_up (va_up (va_up (va_up (va_up (Sv 0) 0 (T 0)) 1 (T 1)) 2 (T 2)) 3 (T 3)) 4 (T 4)) 5 (T 5)) 6 (T 6)) 7 (T 7)) ++ (townW K (g 1) (Sv 1) ++ (townW K (g 2) (Sv 2) ++ (townW K (g 3) (Sv 3) ++ (townW K (g 4) (Sv 4) ++ (townW K (g 5) (Sv 5) ++ X)))))))))) := hD
  refine lv_aload_n hx hb dX1_copyFrom_88 rfl (lv_at hl 1 rfl) ?_
  refine va_get (D := D) (ci := 1) (v := .ref (a 9)) (C := RX1) (T := TX1) (N := 12) hx hb hts inX1 hown hE.1 hP 0 rfl rfl 8 (by decide) F44 (fun _ h9 => h9) rfl dX1_copyFrom_89 ?_
  refine lv_aload_n hx hb dX1_copyFrom_92 rfl (lv_at hl 0 rfl) ?_
  refine va_get (D := D) (ci := 1) (v := .ref ((g 0) 9)) (C := RX1) (T := TX1) (N := 12) hx hb hts inX1 hown hE.1 hP 19 rfl rfl 8 (by decide) F44 (fun _ h9 => h9) rfl dX1_copyFrom_93 ?_
  refine wr_SN (rest := []) ⟨hx, hb, hml, hown, hts⟩ hP hE hA hD hS (c_X3_copyRow l D K _ _ 9 28 _ _ 4 _ _ rfl rfl (by decide)) (va_cnB (host := RX3) 2 hts gX1_copyFrom_X3_copyRow_n62 rfl rfl rfl hE.2.2.2.2.2.2.2.2.2.2.2.1 IniX3 hn_X3_copyRow ⟨Nat.le_of_ble_eq_true rfl, Nat.le_of_ble_eq_true rfl⟩) Sta_X3_copyRow rfl hl.1 rfl (Nat.le_of_ble_eq_true rfl) dX1_copyFrom_96 ⟨Nat.le_of_ble_eq_true rfl, Nat.le_of_ble_eq_true rfl⟩ (fun H locs hP hD hS => ?_)
  have hP : va_P D vwCl (townW K a T ++ (waysW K b len qu n ++ (textW K t cs ln ++ (m0 :: m1 :: (townW K (g 0) (va_up (va_up (va_up (va_up (va_up (va_up (va_up (va_up (va_up (Sv 0) 0 (T 0)) 1 (T 1)) 2 (T 2)) 3 (T 3)) 4 (T 4)) 5 (T 5)) 6 (T 6)) 7 (T 7)) 8 (T 8)) ++ (townW K (g 1) (Sv 1) ++ (townW K (g 2) (Sv 2) ++ (townW K (g 3) (Sv 3) ++ (townW K (g 4) (Sv 4) ++ (townW K (g 5) (Sv 5) ++ X)))))))))) H := hP
  have hD : va_D A (townW K a T ++ (waysW K b len qu n ++ (textW K t cs ln ++ (m0 :: m1 :: (townW K (g 0) (va_up (va_up (va_up (va_up (va_up (va_up (va_up (va_up (va_up (Sv 0) 0 (T 0)) 1 (T 1)) 2 (T 2)) 3 (T 3)) 4 (T 4)) 5 (T 5)) 6 (T 6)) 7 (T 7)) 8 (T 8)) ++ (townW K (g 1) (Sv 1) ++ (townW K (g 2) (Sv 2) ++ (townW K (g 3) (Sv 3) ++ (townW K (g 4) (Sv 4) ++ (townW K (g 5) (Sv 5) ++ X)))))))))) := hD
  refine lv_aload_n hx hb dX1_copyFrom_99 rfl (lv_at hl 1 rfl) ?_
  refine va_get (D := D) (ci := 1) (v := .ref (a 10)) (C := RX1) (T := TX1) (N := 12) hx hb hts inX1 hown hE.1 hP 0 rfl rfl 9 (by decide) F47 (fun _ h9 => h9) rfl dX1_copyFrom_100 ?_
  refine lv_aload_n hx hb dX1_copyFrom_103 rfl (lv_at hl 0 rfl) ?_
  refine va_get (D := D) (ci := 1) (v := .ref ((g 0) 10)) (C := RX1) (T := TX1) (N := 12) hx hb hts inX1 hown hE.1 hP 19 rfl rfl 9 (by decide) F47 (fun _ h9 => h9) rfl dX1_copyFrom_104 ?_
  refine wr_SN (rest := []) ⟨hx, hb, hml, hown, hts⟩ hP hE hA hD hS (c_X3_copyRow l D K _ _ 10 29 _ _ 4 _ _ rfl rfl (by decide)) (va_cnB (host := RX3) 2 hts gX1_copyFrom_X3_copyRow_n62 rfl rfl rfl hE.2.2.2.2.2.2.2.2.2.2.2.1 IniX3 hn_X3_copyRow ⟨Nat.le_of_ble_eq_true rfl, Nat.le_of_ble_eq_true rfl⟩) Sta_X3_copyRow rfl hl.1 rfl (Nat.le_of_ble_eq_true rfl) dX1_copyFrom_107 ⟨Nat.le_of_ble_eq_true rfl, Nat.le_of_ble_eq_true rfl⟩ (fun H locs hP hD hS => ?_)
  have hP : va_P D vwCl (townW K a T ++ (waysW K b len qu n ++ (textW K t cs ln ++ (m0 :: m1 :: (townW K (g 0) (va_up (va_up (va_up (va_up (va_up (va_up (va_up (va_up (va_up (va_up (Sv 0) 0 (T 0)) 1 (T 1)) 2 (T 2)) 3 (T 3)) 4 (T 4)) 5 (T 5)) 6 (T 6)) 7 (T 7)) 8 (T 8)) 9 (T 9)) ++ (townW K (g 1) (Sv 1) ++ (townW K (g 2) (Sv 2) ++ (townW K (g 3) (Sv 3) ++ (townW K (g 4) (Sv 4) ++ (townW K (g 5) (Sv 5) ++ X)))))))))) H := hP
  have hD : va_D A (townW K a T ++ (waysW K b len qu n ++ (textW K t cs ln ++ (m0 :: m1 :: (townW K (g 0) (va_up (va_up (va_up (va_up (va_up (va_up (va_up (va_up (va_up (va_up (Sv 0) 0 (T 0)) 1 (T 1)) 2 (T 2)) 3 (T 3)) 4 (T 4)) 5 (T 5)) 6 (T 6)) 7 (T 7)) 8 (T 8)) 9 (T 9)) ++ (townW K (g 1) (Sv 1) ++ (townW K (g 2) (Sv 2) ++ (townW K (g 3) (Sv 3) ++ (townW K (g 4) (Sv 4) ++ (townW K (g 5) (Sv 5) ++ X)))))))))) := hD
  refine lv_aload_n hx hb dX1_copyFrom_110 rfl (lv_at hl 1 rfl) ?_
  refine va_get (D := D) (ci := 1) (v := .ref (a 11)) (C := RX1) (T := TX1) (N := 12) hx hb hts inX1 hown hE.1 hP 0 rfl rfl 10 (by decide) F53 (fun _ h9 => h9) rfl dX1_copyFrom_111 ?_
  refine lv_aload_n hx hb dX1_copyFrom_114 rfl (lv_at hl 0 rfl) ?_
  refine va_get (D := D) (ci := 1) (v := .ref ((g 0) 11)) (C := RX1) (T := TX1) (N := 12) hx hb hts inX1 hown hE.1 hP 19 rfl rfl 10 (by decide) F53 (fun _ h9 => h9) rfl dX1_copyFrom_115 ?_
  refine wr_SN (rest := []) ⟨hx, hb, hml, hown, hts⟩ hP hE hA hD hS (c_X3_copyRow l D K _ _ 11 30 _ _ 3 _ _ rfl rfl (by decide)) (va_cnB (host := RX3) 2 hts gX1_copyFrom_X3_copyRow_n62 rfl rfl rfl hE.2.2.2.2.2.2.2.2.2.2.2.1 IniX3 hn_X3_copyRow ⟨Nat.le_of_ble_eq_true rfl, Nat.le_of_ble_eq_true rfl⟩) Sta_X3_copyRow rfl hl.1 rfl (Nat.le_of_ble_eq_true rfl) dX1_copyFrom_118 ⟨Nat.le_of_ble_eq_true rfl, Nat.le_of_ble_eq_true rfl⟩ (fun H locs hP hD hS => ?_)
  have hP : va_P D vwCl (townW K a T ++ (waysW K b len qu n ++ (textW K t cs ln ++ (m0 :: m1 :: (townW K (g 0) (va_up (va_up (va_up (va_up (va_up (va_up (va_up (va_up (va_up (va_up (va_up (Sv 0) 0 (T 0)) 1 (T 1)) 2 (T 2)) 3 (T 3)) 4 (T 4)) 5 (T 5)) 6 (T 6)) 7 (T 7)) 8 (T 8)) 9 (T 9)) 10 (T 10)) ++ (townW K (g 1) (Sv 1) ++ (townW K (g 2) (Sv 2) ++ (townW K (g 3) (Sv 3) ++ (townW K (g 4) (Sv 4) ++ (townW K (g 5) (Sv 5) ++ X)))))))))) H := hP
  have hD : va_D A (townW K a T ++ (waysW K b len qu n ++ (textW K t cs ln ++ (m0 :: m1 :: (townW K (g 0) (va_up (va_up (va_up (va_up (va_up (va_up (va_up (va_up (va_up (va_up (va_up (Sv 0) 0 (T 0)) 1 (T 1)) 2 (T 2)) 3 (T 3)) 4 (T 4)) 5 (T 5)) 6 (T 6)) 7 (T 7)) 8 (T 8)) 9 (T 9)) 10 (T 10)) ++ (townW K (g 1) (Sv 1) ++ (townW K (g 2) (Sv 2) ++ (townW K (g 3) (Sv 3) ++ (townW K (g 4) (Sv 4) ++ (townW K (g 5) (Sv 5) ++ X)))))))))) := hD
  refine lv_aload_n hx hb dX1_copyFrom_121 rfl (lv_at hl 0 rfl) ?_
  refine lv_aload_n hx hb dX1_copyFrom_122 rfl (lv_at hl 1 rfl) ?_
  refine va_get (D := D) (ci := 1) (v := .int (T 11 0)) (C := RX1) (T := TX1) (N := 12) hx hb hts inX1 hown hE.1 hP 0 rfl rfl 11 (by decide) F66 (fun _ h9 => h9) rfl dX1_copyFrom_123 ?_
  refine va_put (D := D) (ci := 1) (v := .int (T 11 0)) (ty := .int) (C := RX1) (T := TX1) (N := 12) hx hb hts inX1 tyX1 tyX1_ok nmX1 hown hE.1 hP hD hS 19 rfl rfl 11 (by decide) F66 (fun _ h9 => h9) rfl (by decide +kernel) rfl rfl (Nat.le_of_ble_eq_true rfl) dX1_copyFrom_126 (fun H locs hP hD hS => ?_)
  have hP : va_P D vwCl (townW K a T ++ (waysW K b len qu n ++ (textW K t cs ln ++ (m0 :: m1 :: (townW K (g 0) (setT (va_up (va_up (va_up (va_up (va_up (va_up (va_up (va_up (va_up (va_up (va_up (Sv 0) 0 (T 0)) 1 (T 1)) 2 (T 2)) 3 (T 3)) 4 (T 4)) 5 (T 5)) 6 (T 6)) 7 (T 7)) 8 (T 8)) 9 (T 9)) 10 (T 10)) 11 0 (T 11 0)) ++ (townW K (g 1) (Sv 1) ++ (townW K (g 2) (Sv 2) ++ (townW K (g 3) (Sv 3) ++ (townW K (g 4) (Sv 4) ++ (townW K (g 5) (Sv 5) ++ X)))))))))) H := hP
  have hD : va_D A (townW K a T ++ (waysW K b len qu n ++ (textW K t cs ln ++ (m0 :: m1 :: (townW K (g 0) (setT (va_up (va_up (va_up (va_up (va_up (va_up (va_up (va_up (va_up (va_up (va_up (Sv 0) 0 (T 0)) 1 (T 1)) 2 (T 2)) 3 (T 3)) 4 (T 4)) 5 (T 5)) 6 (T 6)) 7 (T 7)) 8 (T 8)) 9 (T 9)) 10 (T 10)) 11 0 (T 11 0)) ++ (townW K (g 1) (Sv 1) ++ (townW K (g 2) (Sv 2) ++ (townW K (g 3) (Sv 3) ++ (townW K (g 4) (Sv 4) ++ (townW K (g 5) (Sv 5) ++ X)))))))))) := hD
  have hP : va_P D vwCl (townW K a T ++ (waysW K b len qu n ++ (textW K t cs ln ++ (m0 :: m1 :: svW K g (va_up Sv 0 T) X)))) H := hP
  have hD : va_D A (townW K a T ++ (waysW K b len qu n ++ (textW K t cs ln ++ (m0 :: m1 :: svW K g (va_up Sv 0 T) X)))) := hD
  exact wr_vret hAe hP hD hS hx hb hr hk dX1_copyFrom_129 ⟨Nat.le_of_ble_eq_true rfl, Nat.le_of_ble_eq_true rfl⟩
set_option maxHeartbeats 4000000 in
set_option maxRecDepth 100000 in
theorem c_X1_copyFrom_s1 (l : Launch) (D : va_G) (K : Nat → ClassId) (sz : Nat) (a b t : Nat → Nat) (g : Nat → Nat → Nat) (T : TW) (X : va_W) (len : Nat → Option Nat) (qu : Nat → Nat) (n : Nat) (cs : Nat → Nat) (ln : Nat) (m0 m1 : Nat × va_E) (Sv : Nat → TW) : Wr l yX1_copyFrom wsX1_copyFrom ({ frames := 3, cells := 0, slots := 0, locals := 61 } : Room) D K (townW K a T ++ (waysW K b len qu n ++ (textW K t cs ln ++ (m0 :: m1 :: svW K g Sv X)))) sz [.ref ((g 1) 0), .ref (a 0)] (townW K a T ++ (waysW K b len qu n ++ (textW K t cs ln ++ (m0 :: m1 :: svW K g (va_up Sv 1 T) X)))) none 0 0 := by
  refine wr_intro (cc := cX1_copyFrom) (maxL := 2) (ret := none) (by decide) rfl (Nat.le_of_ble_eq_true rfl) ?_
  intro pr en st md ar bl mt co A hx hb hml hr hts hown hk hsz hAe hP hE hD hS hA hin ls hl
  have hown : st.vm.findClass RX1 = some md.cls := hown
  have hl : lv_has ls 2 [(0, .ref ((g 1) 0)), (1, .ref (a 0))] := hl
  obtain ⟨H, hH⟩ : ∃ z, z = st.heap := ⟨_, rfl⟩
  obtain ⟨locs, hlo⟩ : ∃ z : List Loc, z = [] := ⟨_, rfl⟩
  have hP : va_P D vwCl (townW K a T ++ (waysW K b len qu n ++ (textW K t cs ln ++ (m0 :: m1 :: svW K g Sv X)))) H := by rw [hH]; exact hP
  have hS : va_S A st.heap H locs := by rw [hH, hlo]; exact hS
  suffices go : W pr l en (headSpec wsX1_copyFrom ({ frames := 3, cells := 0, slots := 0, locals := 61 } : Room)).room st md ar bl mt co H locs 0 0 (MQ bl (wrQ D (townW K a T ++ (waysW K b len qu n ++ (textW K t cs ln ++ (m0 :: m1 :: svW K g Sv X)))) (townW K a T ++ (waysW K b len qu n ++ (textW K t cs ln ++ (m0 :: m1 :: svW K g (va_up Sv 1 T) X)))) sz none) ar st 0 0 A) (F0 md 0 ls []) by rw [hH, hlo] at go; exact go
  clear hH hlo
  have F9 : (Cond.fieldLink RX1 9 "TramTolls$Town" "houses" "[I").before ar st = true := hts _ (List.mem_of_getElem? (i := 1) rfl)
  have inX1 : ∀ w ∈ u_ws RX1 TX1 12, w ∈ wsX1_copyFrom := fun w h => List.mem_cons_of_mem _ (List.mem_append_right _ h)
  have IniX3 : (Cond.initialized RX3).before ar st = true := hts _ (List.mem_of_getElem? (i := 14) rfl)
  have Sta_X3_copyRow : (Cond.static yX3_copyRow).before ar st = true := hts _ (List.mem_of_getElem? (i := 13) rfl)
  have F15 : (Cond.fieldLink RX1 15 "TramTolls$Town" "trackMasks" "[I").before ar st = true := hts _ (List.mem_of_getElem? (i := 2) rfl)
  have F18 : (Cond.fieldLink RX1 18 "TramTolls$Town" "owners" "[I").before ar st = true := hts _ (List.mem_of_getElem? (i := 3) rfl)
  have F21 : (Cond.fieldLink RX1 21 "TramTolls$Town" "stopSquares" "[I").before ar st = true := hts _ (List.mem_of_getElem? (i := 4) rfl)
  have F24 : (Cond.fieldLink RX1 24 "TramTolls$Town" "stopPlayers" "[I").before ar st = true := hts _ (List.mem_of_getElem? (i := 5) rfl)
  have F27 : (Cond.fieldLink RX1 27 "TramTolls$Town" "coins" "[I").before ar st = true := hts _ (List.mem_of_getElem? (i := 6) rfl)
  have F38 : (Cond.fieldLink RX1 38 "TramTolls$Town" "heads" "[I").before ar st = true := hts _ (List.mem_of_getElem? (i := 7) rfl)
  have F41 : (Cond.fieldLink RX1 41 "TramTolls$Town" "lastDirections" "[I").before ar st = true := hts _ (List.mem_of_getElem? (i := 8) rfl)
  have F44 : (Cond.fieldLink RX1 44 "TramTolls$Town" "tollsPaid" "[I").before ar st = true := hts _ (List.mem_of_getElem? (i := 9) rfl)
  have F47 : (Cond.fieldLink RX1 47 "TramTolls$Town" "tollsGot" "[I").before ar st = true := hts _ (List.mem_of_getElem? (i := 10) rfl)
  have F53 : (Cond.fieldLink RX1 53 "TramTolls$Town" "settings" "[I").before ar st = true := hts _ (List.mem_of_getElem? (i := 11) rfl)
  have F66 : (Cond.fieldLink RX1 66 "TramTolls$Town" "piecesLaid" "I").before ar st = true := hts _ (List.mem_of_getElem? (i := 12) rfl)
  refine lv_aload_n hx hb dX1_copyFrom_0 rfl (lv_at hl 1 rfl) ?_
  refine va_get (D := D) (ci := 1) (v := .ref (a 1)) (C := RX1) (T := TX1) (N := 12) hx hb hts inX1 hown hE.1 hP 0 rfl rfl 0 (by decide) F9 (fun _ h9 => h9) rfl dX1_copyFrom_1 ?_
  refine lv_aload_n hx hb dX1_copyFrom_4 rfl (lv_at hl 0 rfl) ?_
  refine va_get (D := D) (ci := 1) (v := .ref ((g 1) 1)) (C := RX1) (T := TX1) (N := 12) hx hb hts inX1 hown hE.1 hP 31 rfl rfl 0 (by decide) F9 (fun _ h9 => h9) rfl dX1_copyFrom_5 ?_
  refine wr_SN (rest := []) ⟨hx, hb, hml, hown, hts⟩ hP hE hA hD hS (c_X3_copyRow l D K _ _ 1 32 _ _ 80 _ _ rfl rfl (by decide)) (va_cnB (host := RX3) 2 hts gX1_copyFrom_X3_copyRow_n62 rfl rfl rfl hE.2.2.2.2.2.2.2.2.2.2.2.1 IniX3 hn_X3_copyRow ⟨Nat.le_of_ble_eq_true rfl, Nat.le_of_ble_eq_true rfl⟩) Sta_X3_copyRow rfl hl.1 rfl (Nat.le_of_ble_eq_true rfl) dX1_copyFrom_8 ⟨Nat.le_of_ble_eq_true rfl, Nat.le_of_ble_eq_true rfl⟩ (fun H locs hP hD hS => ?_)
  have hP : va_P D vwCl (townW K a T ++ (waysW K b len qu n ++ (textW K t cs ln ++ (m0 :: m1 :: (townW K (g 0) (Sv 0) ++ (townW K (g 1) (va_up (Sv 1) 0 (T 0)) ++ (townW K (g 2) (Sv 2) ++ (townW K (g 3) (Sv 3) ++ (townW K (g 4) (Sv 4) ++ (townW K (g 5) (Sv 5) ++ X)))))))))) H := hP
  have hD : va_D A (townW K a T ++ (waysW K b len qu n ++ (textW K t cs ln ++ (m0 :: m1 :: (townW K (g 0) (Sv 0) ++ (townW K (g 1) (va_up (Sv 1) 0 (T 0)) ++ (townW K (g 2) (Sv 2) ++ (townW K (g 3) (Sv 3) ++ (townW K (g 4) (Sv 4) ++ (townW K (g 5) (Sv 5) ++ X)))))))))) := hD
  refine lv_aload_n hx hb dX1_copyFrom_11 rfl (lv_at hl 1 rfl) ?_
  refine va_get (D := D) (ci := 1) (v := .ref (a 2)) (C := RX1) (T := TX1) (N := 12) hx hb hts inX1 hown hE.1 hP 0 rfl rfl 1 (by decide) F15 (fun _ h9 => h9) rfl dX1_copyFrom_12 ?_
  refine lv_aload_n hx hb dX1_copyFrom_15 rfl (lv_at hl 0 rfl) ?_
  refine va_get (D := D) (ci := 1) (v := .ref ((g 1) 2)) (C := RX1) (T := TX1) (N := 12) hx hb hts inX1 hown hE.1 hP 31 rfl rfl 1 (by decide) F15 (fun _ h9 => h9) rfl dX1_copyFrom_16 ?_
  refine wr_SN (rest := []) ⟨hx, hb, hml, hown, hts⟩ hP hE hA hD hS (c_X3_copyRow l D K _ _ 2 33 _ _ 80 _ _ rfl rfl (by decide)) (va_cnB (host := RX3) 2 hts gX1_copyFrom_X3_copyRow_n62 rfl rfl rfl hE.2.2.2.2.2.2.2.2.2.2.2.1 IniX3 hn_X3_copyRow ⟨Nat.le_of_ble_eq_true rfl, Nat.le_of_ble_eq_true rfl⟩) Sta_X3_copyRow rfl hl.1 rfl (Nat.le_of_ble_eq_true rfl) dX1_copyFrom_19 ⟨Nat.le_of_ble_eq_true rfl, Nat.le_of_ble_eq_true rfl⟩ (fun H locs hP hD hS => ?_)
  have hP : va_P D vwCl (townW K a T ++ (waysW K b len qu n ++ (textW K t cs ln ++ (m0 :: m1 :: (townW K (g 0) (Sv 0) ++ (townW K (g 1) (va_up (va_up (Sv 1) 0 (T 0)) 1 (T 1)) ++ (townW K (g 2) (Sv 2) ++ (townW K (g 3) (Sv 3) ++ (townW K (g 4) (Sv 4) ++ (townW K (g 5) (Sv 5) ++ X)))))))))) H := hP
  have hD : va_D A (townW K a T ++ (waysW K b len qu n ++ (textW K t cs ln ++ (m0 :: m1 :: (townW K (g 0) (Sv 0) ++ (townW K (g 1) (va_up (va_up (Sv 1) 0 (T 0)) 1 (T 1)) ++ (townW K (g 2) (Sv 2) ++ (townW K (g 3) (Sv 3) ++ (townW K (g 4) (Sv 4) ++ (townW K (g 5) (Sv 5) ++ X)))))))))) := hD
  refine lv_aload_n hx hb dX1_copyFrom_22 rfl (lv_at hl 1 rfl) ?_
  refine va_get (D := D) (ci := 1) (v := .ref (a 3)) (C := RX1) (T := TX1) (N := 12) hx hb hts inX1 hown hE.1 hP 0 rfl rfl 2 (by decide) F18 (fun _ h9 => h9) rfl dX1_copyFrom_23 ?_
  refine lv_aload_n hx hb dX1_copyFrom_26 rfl (lv_at hl 0 rfl) ?_
  refine va_get (D := D) (ci := 1) (v := .ref ((g 1) 3)) (C := RX1) (T := TX1) (N := 12) hx hb hts inX1 hown hE.1 hP 31 rfl rfl 2 (by decide) F18 (fun _ h9 => h9) rfl dX1_copyFrom_27 ?_
  refine wr_SN (rest := []) ⟨hx, hb, hml, hown, hts⟩ hP hE hA hD hS (c_X3_copyRow l D K _ _ 3 34 _ _ 80 _ _ rfl rfl (by decide)) (va_cnB (host := RX3) 2 hts gX1_copyFrom_X3_copyRow_n62 rfl rfl rfl hE.2.2.2.2.2.2.2.2.2.2.2.1 IniX3 hn_X3_copyRow ⟨Nat.le_of_ble_eq_true rfl, Nat.le_of_ble_eq_true rfl⟩) Sta_X3_copyRow rfl hl.1 rfl (Nat.le_of_ble_eq_true rfl) dX1_copyFrom_30 ⟨Nat.le_of_ble_eq_true rfl, Nat.le_of_ble_eq_true rfl⟩ (fun H locs hP hD hS => ?_)
  have hP : va_P D vwCl (townW K a T ++ (waysW K b len qu n ++ (textW K t cs ln ++ (m0 :: m1 :: (townW K (g 0) (Sv 0) ++ (townW K (g 1) (va_up (va_up (va_up (Sv 1) 0 (T 0)) 1 (T 1)) 2 (T 2)) ++ (townW K (g 2) (Sv 2) ++ (townW K (g 3) (Sv 3) ++ (townW K (g 4) (Sv 4) ++ (townW K (g 5) (Sv 5) ++ X)))))))))) H := hP
  have hD : va_D A (townW K a T ++ (waysW K b len qu n ++ (textW K t cs ln ++ (m0 :: m1 :: (townW K (g 0) (Sv 0) ++ (townW K (g 1) (va_up (va_up (va_up (Sv 1) 0 (T 0)) 1 (T 1)) 2 (T 2)) ++ (townW K (g 2) (Sv 2) ++ (townW K (g 3) (Sv 3) ++ (townW K (g 4) (Sv 4) ++ (townW K (g 5) (Sv 5) ++ X)))))))))) := hD
  refine lv_aload_n hx hb dX1_copyFrom_33 rfl (lv_at hl 1 rfl) ?_
  refine va_get (D := D) (ci := 1) (v := .ref (a 4)) (C := RX1) (T := TX1) (N := 12) hx hb hts inX1 hown hE.1 hP 0 rfl rfl 3 (by decide) F21 (fun _ h9 => h9) rfl dX1_copyFrom_34 ?_
  refine lv_aload_n hx hb dX1_copyFrom_37 rfl (lv_at hl 0 rfl) ?_
  refine va_get (D := D) (ci := 1) (v := .ref ((g 1) 4)) (C := RX1) (T := TX1) (N := 12) hx hb hts inX1 hown hE.1 hP 31 rfl rfl 3 (by decide) F21 (fun _ h9 => h9) rfl dX1_copyFrom_38 ?_
  refine wr_SN (rest := []) ⟨hx, hb, hml, hown, hts⟩ hP hE hA hD hS (c_X3_copyRow l D K _ _ 4 35 _ _ 12 _ _ rfl rfl (by decide)) (va_cnB (host := RX3) 2 hts gX1_copyFrom_X3_copyRow_n62 rfl rfl rfl hE.2.2.2.2.2.2.2.2.2.2.2.1 IniX3 hn_X3_copyRow ⟨Nat.le_of_ble_eq_true rfl, Nat.le_of_ble_eq_true rfl⟩) Sta_X3_copyRow rfl hl.1 rfl (Nat.le_of_ble_eq_true rfl) dX1_copyFrom_41 ⟨Nat.le_of_ble_eq_true rfl, Nat.le_of_ble_eq_true rfl⟩ (fun H locs hP hD hS => ?_)
  have hP : va_P D vwCl (townW K a T ++ (waysW K b len qu n ++ (textW K t cs ln ++ (m0 :: m1 :: (townW K (g 0) (Sv 0) ++ (townW K (g 1) (va_up (va_up (va_up (va_up (Sv 1) 0 (T 0)) 1 (T 1)) 2 (T 2)) 3 (T 3)) ++ (townW K (g 2) (Sv 2) ++ (townW K (g 3) (Sv 3) ++ (townW K (g 4) (Sv 4) ++ (townW K (g 5) (Sv 5) ++ X)))))))))) H := hP
  have hD : va_D A (townW K a T ++ (waysW K b len qu n ++ (textW K t cs ln ++ (m0 :: m1 :: (townW K (g 0) (Sv 0) ++ (townW K (g 1) (va_up (va_up (va_up (va_up (Sv 1) 0 (T 0)) 1 (T 1)) 2 (T 2)) 3 (T 3)) ++ (townW K (g 2) (Sv 2) ++ (townW K (g 3) (Sv 3) ++ (townW K (g 4) (Sv 4) ++ (townW K (g 5) (Sv 5) ++ X)))))))))) := hD
  refine lv_aload_n hx hb dX1_copyFrom_44 rfl (lv_at hl 1 rfl) ?_
  refine va_get (D := D) (ci := 1) (v := .ref (a 5)) (C := RX1) (T := TX1) (N := 12) hx hb hts inX1 hown hE.1 hP 0 rfl rfl 4 (by decide) F24 (fun _ h9 => h9) rfl dX1_copyFrom_45 ?_
  refine lv_aload_n hx hb dX1_copyFrom_48 rfl (lv_at hl 0 rfl) ?_
  refine va_get (D := D) (ci := 1) (v := .ref ((g 1) 5)) (C := RX1) (T := TX1) (N := 12) hx hb hts inX1 hown hE.1 hP 31 rfl rfl 4 (by decide) F24 (fun _ h9 => h9) rfl dX1_copyFrom_49 ?_
  refine wr_SN (rest := []) ⟨hx, hb, hml, hown, hts⟩ hP hE hA hD hS (c_X3_copyRow l D K _ _ 5 36 _ _ 12 _ _ rfl rfl (by decide)) (va_cnB (host := RX3) 2 hts gX1_copyFrom_X3_copyRow_n62 rfl rfl rfl hE.2.2.2.2.2.2.2.2.2.2.2.1 IniX3 hn_X3_copyRow ⟨Nat.le_of_ble_eq_true rfl, Nat.le_of_ble_eq_true rfl⟩) Sta_X3_copyRow rfl hl.1 rfl (Nat.le_of_ble_eq_true rfl) dX1_copyFrom_52 ⟨Nat.le_of_ble_eq_true rfl, Nat.le_of_ble_eq_true rfl⟩ (fun H locs hP hD hS => ?_)
  have hP : va_P D vwCl (townW K a T ++ (waysW K b len qu n ++ (textW K t cs ln ++ (m0 :: m1 :: (townW K (g 0) (Sv 0) ++ (townW K (g 1) (va_up (va_up (va_up (va_up (va_up (Sv 1) 0 (T 0)) 1 (T 1)) 2 (T 2)) 3 (T 3)) 4 (T 4)) ++ (townW K (g 2) (Sv 2) ++ (townW K (g 3) (Sv 3) ++ (townW K (g 4) (Sv 4) ++ (townW K (g 5) (Sv 5) ++ X)))))))))) H := hP
  have hD : va_D A (townW K a T ++ (waysW K b len qu n ++ (textW K t cs ln ++ (m0 :: m1 :: (townW K (g 0) (Sv 0) ++ (townW K (g 1) (va_up (va_up (va_up (va_up (va_up (Sv 1) 0 (T 0)) 1 (T 1)) 2 (T 2)) 3 (T 3)) 4 (T 4)) ++ (townW K (g 2) (Sv 2) ++ (townW K (g 3) (Sv 3) ++ (townW K (g 4) (Sv 4) ++ (townW K (g 5) (Sv 5) ++ X)))))))))) := hD
  refine lv_aload_n hx hb dX1_copyFrom_55 rfl (lv_at hl 1 rfl) ?_
  refine va_get (D := D) (ci := 1) (v := .ref (a 6)) (C := RX1) (T := TX1) (N := 12) hx hb hts inX1 hown hE.1 hP 0 rfl rfl 5 (by decide) F27 (fun _ h9 => h9) rfl dX1_copyFrom_56 ?_
  refine lv_aload_n hx hb dX1_copyFrom_59 rfl (lv_at hl 0 rfl) ?_
  refine va_get (D := D) (ci := 1) (v := .ref ((g 1) 6)) (C := RX1) (T := TX1) (N := 12) hx hb hts inX1 hown hE.1 hP 31 rfl rfl 5 (by decide) F27 (fun _ h9 => h9) rfl dX1_copyFrom_60 ?_
  refine wr_SN (rest := []) ⟨hx, hb, hml, hown, hts⟩ hP hE hA hD hS (c_X3_copyRow l D K _ _ 6 37 _ _ 4 _ _ rfl rfl (by decide)) (va_cnB (host := RX3) 2 hts gX1_copyFrom_X3_copyRow_n62 rfl rfl rfl hE.2.2.2.2.2.2.2.2.2.2.2.1 IniX3 hn_X3_copyRow ⟨Nat.le_of_ble_eq_true rfl, Nat.le_of_ble_eq_true rfl⟩) Sta_X3_copyRow rfl hl.1 rfl (Nat.le_of_ble_eq_true rfl) dX1_copyFrom_63 ⟨Nat.le_of_ble_eq_true rfl, Nat.le_of_ble_eq_true rfl⟩ (fun H locs hP hD hS => ?_)
  have hP : va_P D vwCl (townW K a T ++ (waysW K b len qu n ++ (textW K t cs ln ++ (m0 :: m1 :: (townW K (g 0) (Sv 0) ++ (townW K (g 1) (va_up (va_up (va_up (va_up (va_up (va_up (Sv 1) 0 (T 0)) 1 (T 1)) 2 (T 2)) 3 (T 3)) 4 (T 4)) 5 (T 5)) ++ (townW K (g 2) (Sv 2) ++ (townW K (g 3) (Sv 3) ++ (townW K (g 4) (Sv 4) ++ (townW K (g 5) (Sv 5) ++ X)))))))))) H := hP
  have hD : va_D A (townW K a T ++ (waysW K b len qu n ++ (textW K t cs ln ++ (m0 :: m1 :: (townW K (g 0) (Sv 0) ++ (townW K (g 1) (va_up (va_up (va_up (va_up (va_up (va_up (Sv 1) 0 (T 0)) 1 (T 1)) 2 (T 2)) 3 (T 3)) 4 (T 4)) 5 (T 5)) ++ (townW K (g 2) (Sv 2) ++ (townW K (g 3) (Sv 3) ++ (townW K (g 4) (Sv 4) ++ (townW K (g 5) (Sv 5) ++ X)))))))))) := hD
  refine lv_aload_n hx hb dX1_copyFrom_66 rfl (lv_at hl 1 rfl) ?_
  refine va_get (D := D) (ci := 1) (v := .ref (a 7)) (C := RX1) (T := TX1) (N := 12) hx hb hts inX1 hown hE.1 hP 0 rfl rfl 6 (by decide) F38 (fun _ h9 => h9) rfl dX1_copyFrom_67 ?_
  refine lv_aload_n hx hb dX1_copyFrom_70 rfl (lv_at hl 0 rfl) ?_
  refine va_get (D := D) (ci := 1) (v := .ref ((g 1) 7)) (C := RX1) (T := TX1) (N := 12) hx hb hts inX1 hown hE.1 hP 31 rfl rfl 6 (by decide) F38 (fun _ h9 => h9) rfl dX1_copyFrom_71 ?_
  refine wr_SN (rest := []) ⟨hx, hb, hml, hown, hts⟩ hP hE hA hD hS (c_X3_copyRow l D K _ _ 7 38 _ _ 4 _ _ rfl rfl (by decide)) (va_cnB (host := RX3) 2 hts gX1_copyFrom_X3_copyRow_n62 rfl rfl rfl hE.2.2.2.2.2.2.2.2.2.2.2.1 IniX3 hn_X3_copyRow ⟨Nat.le_of_ble_eq_true rfl, Nat.le_of_ble_eq_true rfl⟩) Sta_X3_copyRow rfl hl.1 rfl (Nat.le_of_ble_eq_true rfl) dX1_copyFrom_74 ⟨Nat.le_of_ble_eq_true rfl, Nat.le_of_ble_eq_true rfl⟩ (fun H locs hP hD hS => ?_)
  have hP : va_P D vwCl (townW K a T ++ (waysW K b len qu n ++ (textW K t cs ln ++ (m0 :: m1 :: (townW K (g 0) (Sv 0) ++ (townW K (g 1) (va_up (va_up (va_up (va_up (va_up (va_up (va_up (Sv 1) 0 (T 0)) 1 (T 1)) 2 (T 2)) 3 (T 3)) 4 (T 4)) 5 (T 5)) 6 (T 6)) ++ (townW K (g 2) (Sv 2) ++ (townW K (g 3) (Sv 3) ++ (townW K (g 4) (Sv 4) ++ (townW K (g 5) (Sv 5) ++ X)))))))))) H := hP
  have hD : va_D A (townW K a T ++ (waysW K b len qu n ++ (textW K t cs ln ++ (m0 :: m1 :: (townW K (g 0) (Sv 0) ++ (townW K (g 1) (va_up (va_up (va_up (va_up (va_up (va_up (va_up (Sv 1) 0 (T 0)) 1 (T 1)) 2 (T 2)) 3 (T 3)) 4 (T 4)) 5 (T 5)) 6 (T 6)) ++ (townW K (g 2) (Sv 2) ++ (townW K (g 3) (Sv 3) ++ (townW K (g 4) (Sv 4) ++ (townW K (g 5) (Sv 5) ++ X)))))))))) := hD
  refine lv_aload_n hx hb dX1_copyFrom_77 rfl (lv_at hl 1 rfl) ?_
  refine va_get (D := D) (ci := 1) (v := .ref (a 8)) (C := RX1) (T := TX1) (N := 12) hx hb hts inX1 hown hE.1 hP 0 rfl rfl 7 (by decide) F41 (fun _ h9 => h9) rfl dX1_copyFrom_78 ?_
  refine lv_aload_n hx hb dX1_copyFrom_81 rfl (lv_at hl 0 rfl) ?_
  refine va_get (D := D) (ci := 1) (v := .ref ((g 1) 8)) (C := RX1) (T := TX1) (N := 12) hx hb hts inX1 hown hE.1 hP 31 rfl rfl 7 (by decide) F41 (fun _ h9 => h9) rfl dX1_copyFrom_82 ?_
  refine wr_SN (rest := []) ⟨hx, hb, hml, hown, hts⟩ hP hE hA hD hS (c_X3_copyRow l D K _ _ 8 39 _ _ 4 _ _ rfl rfl (by decide)) (va_cnB (host := RX3) 2 hts gX1_copyFrom_X3_copyRow_n62 rfl rfl rfl hE.2.2.2.2.2.2.2.2.2.2.2.1 IniX3 hn_X3_copyRow ⟨Nat.le_of_ble_eq_true rfl, Nat.le_of_ble_eq_true rfl⟩) Sta_X3_copyRow rfl hl.1 rfl (Nat.le_of_ble_eq_true rfl) dX1_copyFrom_85 ⟨Nat.le_of_ble_eq_true rfl, Nat.le_of_ble_eq_true rfl⟩ (fun H locs hP hD hS => ?_)
  have hP : va_P D vwCl (townW K a T ++ (waysW K b len qu n ++ (textW K t cs ln ++ (m0 :: m1 :: (townW K (g 0) (Sv 0) ++ (townW K (g 1) (va_up (va_up (va_up (va_up (va_up (va_up (va_up (va_up (Sv 1) 0 (T 0)) 1 (T 1)) 2 (T 2)) 3 (T 3)) 4 (T 4)) 5 (T 5)) 6 (T 6)) 7 (T 7)) ++ (townW K (g 2) (Sv 2) ++ (townW K (g 3) (Sv 3) ++ (townW K (g 4) (Sv 4) ++ (townW K (g 5) (Sv 5) ++ X)))))))))) H := hP
  have hD : va_D A (townW K a T ++ (waysW K b len qu n ++ (textW K t cs ln ++ (m0 :: m1 :: (townW K (g 0) (Sv 0) ++ (townW K (g 1) (va_up (va_up (va_up (va_up (va_up (va_up (va_up (va_up (Sv 1) 0 (T 0)) 1 (T 1)) 2 (T 2)) 3 (T 3)) 4 (T 4)) 5 (T 5)) 6 (T 6)) 7 (T 7)) ++ (townW K (g 2) (Sv 2) ++ (townW K (g 3) (Sv 3) ++ (townW K (g 4) (Sv 4) ++ (townW K (g 5) (Sv 5) ++ X)))))))))) := hD
  refine lv_aload_n hx hb dX1_copyFrom_88 rfl (lv_at hl 1 rfl) ?_
  refine va_get (D := D) (ci := 1) (v := .ref (a 9)) (C := RX1) (T := TX1) (N := 12) hx hb hts inX1 hown hE.1 hP 0 rfl rfl 8 (by decide) F44 (fun _ h9 => h9) rfl dX1_copyFrom_89 ?_
  refine lv_aload_n hx hb dX1_copyFrom_92 rfl (lv_at hl 0 rfl) ?_
  refine va_get (D := D) (ci := 1) (v := .ref ((g 1) 9)) (C := RX1) (T := TX1) (N := 12) hx hb hts inX1 hown hE.1 hP 31 rfl rfl 8 (by decide) F44 (fun _ h9 => h9) rfl dX1_copyFrom_93 ?_
  refine wr_SN (rest := []) ⟨hx, hb, hml, hown, hts⟩ hP hE hA hD hS (c_X3_copyRow l D K _ _ 9 40 _ _ 4 _ _ rfl rfl (by decide)) (va_cnB (host := RX3) 2 hts gX1_copyFrom_X3_copyRow_n62 rfl rfl rfl hE.2.2.2.2.2.2.2.2.2.2.2.1 IniX3 hn_X3_copyRow ⟨Nat.le_of_ble_eq_true rfl, Nat.le_of_ble_eq_true rfl⟩) Sta_X3_copyRow rfl hl.1 rfl (Nat.le_of_ble_eq_true rfl) dX1_copyFrom_96 ⟨Nat.le_of_ble_eq_true rfl, Nat.le_of_ble_eq_true rfl⟩ (fun H locs hP hD hS => ?_)
  have hP : va_P D vwCl (townW K a T ++ (waysW K b len qu n ++ (textW K t cs ln ++ (m0 :: m1 :: (townW K (g 0) (Sv 0) ++ (townW K (g 1) (va_up (va_up (va_up (va_up (va_up (va_up (va_up (va_up (va_up (Sv 1) 0 (T 0)) 1 (T 1)) 2 (T 2)) 3 (T 3)) 4 (T 4)) 5 (T 5)) 6 (T 6)) 7 (T 7)) 8 (T 8)) ++ (townW K (g 2) (Sv 2) ++ (townW K (g 3) (Sv 3) ++ (townW K (g 4) (Sv 4) ++ (townW K (g 5) (Sv 5) ++ X)))))))))) H := hP
  have hD : va_D A (townW K a T ++ (waysW K b len qu n ++ (textW K t cs ln ++ (m0 :: m1 :: (townW K (g 0) (Sv 0) ++ (townW K (g 1) (va_up (va_up (va_up (va_up (va_up (va_up (va_up (va_up (va_up (Sv 1) 0 (T 0)) 1 (T 1)) 2 (T 2)) 3 (T 3)) 4 (T 4)) 5 (T 5)) 6 (T 6)) 7 (T 7)) 8 (T 8)) ++ (townW K (g 2) (Sv 2) ++ (townW K (g 3) (Sv 3) ++ (townW K (g 4) (Sv 4) ++ (townW K (g 5) (Sv 5) ++ X)))))))))) := hD
  refine lv_aload_n hx hb dX1_copyFrom_99 rfl (lv_at hl 1 rfl) ?_
  refine va_get (D := D) (ci := 1) (v := .ref (a 10)) (C := RX1) (T := TX1) (N := 12) hx hb hts inX1 hown hE.1 hP 0 rfl rfl 9 (by decide) F47 (fun _ h9 => h9) rfl dX1_copyFrom_100 ?_
  refine lv_aload_n hx hb dX1_copyFrom_103 rfl (lv_at hl 0 rfl) ?_
  refine va_get (D := D) (ci := 1) (v := .ref ((g 1) 10)) (C := RX1) (T := TX1) (N := 12) hx hb hts inX1 hown hE.1 hP 31 rfl rfl 9 (by decide) F47 (fun _ h9 => h9) rfl dX1_copyFrom_104 ?_
  refine wr_SN (rest := []) ⟨hx, hb, hml, hown, hts⟩ hP hE hA hD hS (c_X3_copyRow l D K _ _ 10 41 _ _ 4 _ _ rfl rfl (by decide)) (va_cnB (host := RX3) 2 hts gX1_copyFrom_X3_copyRow_n62 rfl rfl rfl hE.2.2.2.2.2.2.2.2.2.2.2.1 IniX3 hn_X3_copyRow ⟨Nat.le_of_ble_eq_true rfl, Nat.le_of_ble_eq_true rfl⟩) Sta_X3_copyRow rfl hl.1 rfl (Nat.le_of_ble_eq_true rfl) dX1_copyFrom_107 ⟨Nat.le_of_ble_eq_true rfl, Nat.le_of_ble_eq_true rfl⟩ (fun H locs hP hD hS => ?_)
  have hP : va_P D vwCl (townW K a T ++ (waysW K b len qu n ++ (textW K t cs ln ++ (m0 :: m1 :: (townW K (g 0) (Sv 0) ++ (townW K (g 1) (va_up (va_up (va_up (va_up (va_up (va_up (va_up (va_up (va_up (va_up (Sv 1) 0 (T 0)) 1 (T 1)) 2 (T 2)) 3 (T 3)) 4 (T 4)) 5 (T 5)) 6 (T 6)) 7 (T 7)) 8 (T 8)) 9 (T 9)) ++ (townW K (g 2) (Sv 2) ++ (townW K (g 3) (Sv 3) ++ (townW K (g 4) (Sv 4) ++ (townW K (g 5) (Sv 5) ++ X)))))))))) H := hP
  have hD : va_D A (townW K a T ++ (waysW K b len qu n ++ (textW K t cs ln ++ (m0 :: m1 :: (townW K (g 0) (Sv 0) ++ (townW K (g 1) (va_up (va_up (va_up (va_up (va_up (va_up (va_up (va_up (va_up (va_up (Sv 1) 0 (T 0)) 1 (T 1)) 2 (T 2)) 3 (T 3)) 4 (T 4)) 5 (T 5)) 6 (T 6)) 7 (T 7)) 8 (T 8)) 9 (T 9)) ++ (townW K (g 2) (Sv 2) ++ (townW K (g 3) (Sv 3) ++ (townW K (g 4) (Sv 4) ++ (townW K (g 5) (Sv 5) ++ X)))))))))) := hD
  refine lv_aload_n hx hb dX1_copyFrom_110 rfl (lv_at hl 1 rfl) ?_
  refine va_get (D := D) (ci := 1) (v := .ref (a 11)) (C := RX1) (T := TX1) (N := 12) hx hb hts inX1 hown hE.1 hP 0 rfl rfl 10 (by decide) F53 (fun _ h9 => h9) rfl dX1_copyFrom_111 ?_
  refine lv_aload_n hx hb dX1_copyFrom_114 rfl (lv_at hl 0 rfl) ?_
  refine va_get (D := D) (ci := 1) (v := .ref ((g 1) 11)) (C := RX1) (T := TX1) (N := 12) hx hb hts inX1 hown hE.1 hP 31 rfl rfl 10 (by decide) F53 (fun _ h9 => h9) rfl dX1_copyFrom_115 ?_
  refine wr_SN (rest := []) ⟨hx, hb, hml, hown, hts⟩ hP hE hA hD hS (c_X3_copyRow l D K _ _ 11 42 _ _ 3 _ _ rfl rfl (by decide)) (va_cnB (host := RX3) 2 hts gX1_copyFrom_X3_copyRow_n62 rfl rfl rfl hE.2.2.2.2.2.2.2.2.2.2.2.1 IniX3 hn_X3_copyRow ⟨Nat.le_of_ble_eq_true rfl, Nat.le_of_ble_eq_true rfl⟩) Sta_X3_copyRow rfl hl.1 rfl (Nat.le_of_ble_eq_true rfl) dX1_copyFrom_118 ⟨Nat.le_of_ble_eq_true rfl, Nat.le_of_ble_eq_true rfl⟩ (fun H locs hP hD hS => ?_)
  have hP : va_P D vwCl (townW K a T ++ (waysW K b len qu n ++ (textW K t cs ln ++ (m0 :: m1 :: (townW K (g 0) (Sv 0) ++ (townW K (g 1) (va_up (va_up (va_up (va_up (va_up (va_up (va_up (va_up (va_up (va_up (va_up (Sv 1) 0 (T 0)) 1 (T 1)) 2 (T 2)) 3 (T 3)) 4 (T 4)) 5 (T 5)) 6 (T 6)) 7 (T 7)) 8 (T 8)) 9 (T 9)) 10 (T 10)) ++ (townW K (g 2) (Sv 2) ++ (townW K (g 3) (Sv 3) ++ (townW K (g 4) (Sv 4) ++ (townW K (g 5) (Sv 5) ++ X)))))))))) H := hP
  have hD : va_D A (townW K a T ++ (waysW K b len qu n ++ (textW K t cs ln ++ (m0 :: m1 :: (townW K (g 0) (Sv 0) ++ (townW K (g 1) (va_up (va_up (va_up (va_up (va_up (va_up (va_up (va_up (va_up (va_up (va_up (Sv 1) 0 (T 0)) 1 (T 1)) 2 (T 2)) 3 (T 3)) 4 (T 4)) 5 (T 5)) 6 (T 6)) 7 (T 7)) 8 (T 8)) 9 (T 9)) 10 (T 10)) ++ (townW K (g 2) (Sv 2) ++ (townW K (g 3) (Sv 3) ++ (townW K (g 4) (Sv 4) ++ (townW K (g 5) (Sv 5) ++ X)))))))))) := hD
  refine lv_aload_n hx hb dX1_copyFrom_121 rfl (lv_at hl 0 rfl) ?_
  refine lv_aload_n hx hb dX1_copyFrom_122 rfl (lv_at hl 1 rfl) ?_
  refine va_get (D := D) (ci := 1) (v := .int (T 11 0)) (C := RX1) (T := TX1) (N := 12) hx hb hts inX1 hown hE.1 hP 0 rfl rfl 11 (by decide) F66 (fun _ h9 => h9) rfl dX1_copyFrom_123 ?_
  refine va_put (D := D) (ci := 1) (v := .int (T 11 0)) (ty := .int) (C := RX1) (T := TX1) (N := 12) hx hb hts inX1 tyX1 tyX1_ok nmX1 hown hE.1 hP hD hS 31 rfl rfl 11 (by decide) F66 (fun _ h9 => h9) rfl (by decide +kernel) rfl rfl (Nat.le_of_ble_eq_true rfl) dX1_copyFrom_126 (fun H locs hP hD hS => ?_)
  have hP : va_P D vwCl (townW K a T ++ (waysW K b len qu n ++ (textW K t cs ln ++ (m0 :: m1 :: (townW K (g 0) (Sv 0) ++ (townW K (g 1) (setT (va_up (va_up (va_up (va_up (va_up (va_up (va_up (va_up (va_up (va_up (va_up (Sv 1) 0 (T 0)) 1 (T 1)) 2 (T 2)) 3 (T 3)) 4 (T 4)) 5 (T 5)) 6 (T 6)) 7 (T 7)) 8 (T 8)) 9 (T 9)) 10 (T 10)) 11 0 (T 11 0)) ++ (townW K (g 2) (Sv 2) ++ (townW K (g 3) (Sv 3) ++ (townW K (g 4) (Sv 4) ++ (townW K (g 5) (Sv 5) ++ X)))))))))) H := hP
  have hD : va_D A (townW K a T ++ (waysW K b len qu n ++ (textW K t cs ln ++ (m0 :: m1 :: (townW K (g 0) (Sv 0) ++ (townW K (g 1) (setT (va_up (va_up (va_up (va_up (va_up (va_up (va_up (va_up (va_up (va_up (va_up (Sv 1) 0 (T 0)) 1 (T 1)) 2 (T 2)) 3 (T 3)) 4 (T 4)) 5 (T 5)) 6 (T 6)) 7 (T 7)) 8 (T 8)) 9 (T 9)) 10 (T 10)) 11 0 (T 11 0)) ++ (townW K (g 2) (Sv 2) ++ (townW K (g 3) (Sv 3) ++ (townW K (g 4) (Sv 4) ++ (townW K (g 5) (Sv 5) ++ X)))))))))) := hD
  have hP : va_P D vwCl (townW K a T ++ (waysW K b len qu n ++ (textW K t cs ln ++ (m0 :: m1 :: svW K g (va_up Sv 1 T) X)))) H := hP
  have hD : va_D A (townW K a T ++ (waysW K b len qu n ++ (textW K t cs ln ++ (m0 :: m1 :: svW K g (va_up Sv 1 T) X)))) := hD
  exact wr_vret hAe hP hD hS hx hb hr hk dX1_copyFrom_129 ⟨Nat.le_of_ble_eq_true rfl, Nat.le_of_ble_eq_true rfl⟩
set_option maxHeartbeats 4000000 in
set_option maxRecDepth 100000 in
theorem c_X1_copyFrom_s2 (l : Launch) (D : va_G) (K : Nat → ClassId) (sz : Nat) (a b t : Nat → Nat) (g : Nat → Nat → Nat) (T : TW) (X : va_W) (len : Nat → Option Nat) (qu : Nat → Nat) (n : Nat) (cs : Nat → Nat) (ln : Nat) (m0 m1 : Nat × va_E) (Sv : Nat → TW) : Wr l yX1_copyFrom wsX1_copyFrom ({ frames := 3, cells := 0, slots := 0, locals := 61 } : Room) D K (townW K a T ++ (waysW K b len qu n ++ (textW K t cs ln ++ (m0 :: m1 :: svW K g Sv X)))) sz [.ref ((g 2) 0), .ref (a 0)] (townW K a T ++ (waysW K b len qu n ++ (textW K t cs ln ++ (m0 :: m1 :: svW K g (va_up Sv 2 T) X)))) none 0 0 := by
  refine wr_intro (cc := cX1_copyFrom) (maxL := 2) (ret := none) (by decide) rfl (Nat.le_of_ble_eq_true rfl) ?_
  intro pr en st md ar bl mt co A hx hb hml hr hts hown hk hsz hAe hP hE hD hS hA hin ls hl
  have hown : st.vm.findClass RX1 = some md.cls := hown
  have hl : lv_has ls 2 [(0, .ref ((g 2) 0)), (1, .ref (a 0))] := hl
  obtain ⟨H, hH⟩ : ∃ z, z = st.heap := ⟨_, rfl⟩
  obtain ⟨locs, hlo⟩ : ∃ z : List Loc, z = [] := ⟨_, rfl⟩
  have hP : va_P D vwCl (townW K a T ++ (waysW K b len qu n ++ (textW K t cs ln ++ (m0 :: m1 :: svW K g Sv X)))) H := by rw [hH]; exact hP
  have hS : va_S A st.heap H locs := by rw [hH, hlo]; exact hS
  suffices go : W pr l en (headSpec wsX1_copyFrom ({ frames := 3, cells := 0, slots := 0, locals := 61 } : Room)).room st md ar bl mt co H locs 0 0 (MQ bl (wrQ D (townW K a T ++ (waysW K b len qu n ++ (textW K t cs ln ++ (m0 :: m1 :: svW K g Sv X)))) (townW K a T ++ (waysW K b len qu n ++ (textW K t cs ln ++ (m0 :: m1 :: svW K g (va_up Sv 2 T) X)))) sz none) ar st 0 0 A) (F0 md 0 ls []) by rw [hH, hlo] at go; exact go
  clear hH hlo
  have F9 : (Cond.fieldLink RX1 9 "TramTolls$Town" "houses" "[I").before ar st = true := hts _ (List.mem_of_getElem? (i := 1) rfl)
  have inX1 : ∀ w ∈ u_ws RX1 TX1 12, w ∈ wsX1_copyFrom := fun w h => List.mem_cons_of_mem _ (List.mem_append_right _ h)
  have IniX3 : (Cond.initialized RX3).before ar st = true := hts _ (List.mem_of_getElem? (i := 14) rfl)
  have Sta_X3_copyRow : (Cond.static yX3_copyRow).before ar st = true := hts _ (List.mem_of_getElem? (i := 13) rfl)
  have F15 : (Cond.fieldLink RX1 15 "TramTolls$Town" "trackMasks" "[I").before ar st = true := hts _ (List.mem_of_getElem? (i := 2) rfl)
  have F18 : (Cond.fieldLink RX1 18 "TramTolls$Town" "owners" "[I").before ar st = true := hts _ (List.mem_of_getElem? (i := 3) rfl)
  have F21 : (Cond.fieldLink RX1 21 "TramTolls$Town" "stopSquares" "[I").before ar st = true := hts _ (List.mem_of_getElem? (i := 4) rfl)
  have F24 : (Cond.fieldLink RX1 24 "TramTolls$Town" "stopPlayers" "[I").before ar st = true := hts _ (List.mem_of_getElem? (i := 5) rfl)
  have F27 : (Cond.fieldLink RX1 27 "TramTolls$Town" "coins" "[I").before ar st = true := hts _ (List.mem_of_getElem? (i := 6) rfl)
  have F38 : (Cond.fieldLink RX1 38 "TramTolls$Town" "heads" "[I").before ar st = true := hts _ (List.mem_of_getElem? (i := 7) rfl)
  have F41 : (Cond.fieldLink RX1 41 "TramTolls$Town" "lastDirections" "[I").before ar st = true := hts _ (List.mem_of_getElem? (i := 8) rfl)
  have F44 : (Cond.fieldLink RX1 44 "TramTolls$Town" "tollsPaid" "[I").before ar st = true := hts _ (List.mem_of_getElem? (i := 9) rfl)
  have F47 : (Cond.fieldLink RX1 47 "TramTolls$Town" "tollsGot" "[I").before ar st = true := hts _ (List.mem_of_getElem? (i := 10) rfl)
  have F53 : (Cond.fieldLink RX1 53 "TramTolls$Town" "settings" "[I").before ar st = true := hts _ (List.mem_of_getElem? (i := 11) rfl)
  have F66 : (Cond.fieldLink RX1 66 "TramTolls$Town" "piecesLaid" "I").before ar st = true := hts _ (List.mem_of_getElem? (i := 12) rfl)
  refine lv_aload_n hx hb dX1_copyFrom_0 rfl (lv_at hl 1 rfl) ?_
  refine va_get (D := D) (ci := 1) (v := .ref (a 1)) (C := RX1) (T := TX1) (N := 12) hx hb hts inX1 hown hE.1 hP 0 rfl rfl 0 (by decide) F9 (fun _ h9 => h9) rfl dX1_copyFrom_1 ?_
  refine lv_aload_n hx hb dX1_copyFrom_4 rfl (lv_at hl 0 rfl) ?_
  refine va_get (D := D) (ci := 1) (v := .ref ((g 2) 1)) (C := RX1) (T := TX1) (N := 12) hx hb hts inX1 hown hE.1 hP 43 rfl rfl 0 (by decide) F9 (fun _ h9 => h9) rfl dX1_copyFrom_5 ?_
  refine wr_SN (rest := []) ⟨hx, hb, hml, hown, hts⟩ hP hE hA hD hS (c_X3_copyRow l D K _ _ 1 44 _ _ 80 _ _ rfl rfl (by decide)) (va_cnB (host := RX3) 2 hts gX1_copyFrom_X3_copyRow_n62 rfl rfl rfl hE.2.2.2.2.2.2.2.2.2.2.2.1 IniX3 hn_X3_copyRow ⟨Nat.le_of_ble_eq_true rfl, Nat.le_of_ble_eq_true rfl⟩) Sta_X3_copyRow rfl hl.1 rfl (Nat.le_of_ble_eq_true rfl) dX1_copyFrom_8 ⟨Nat.le_of_ble_eq_true rfl, Nat.le_of_ble_eq_true rfl⟩ (fun H locs hP hD hS => ?_)
  have hP : va_P D vwCl (townW K a T ++ (waysW K b len qu n ++ (textW K t cs ln ++ (m0 :: m1 :: (townW K (g 0) (Sv 0) ++ (townW K (g 1) (Sv 1) ++ (townW K (g 2) (va_up (Sv 2) 0 (T 0)) ++ (townW K (g 3) (Sv 3) ++ (townW K (g 4) (Sv 4) ++ (townW K (g 5) (Sv 5) ++ X)))))))))) H := hP
  have hD : va_D A (townW K a T ++ (waysW K b len qu n ++ (textW K t cs ln ++ (m0 :: m1 :: (townW K (g 0) (Sv 0) ++ (townW K (g 1) (Sv 1) ++ (townW K (g 2) (va_up (Sv 2) 0 (T 0)) ++ (townW K (g 3) (Sv 3) ++ (townW K (g 4) (Sv 4) ++ (townW K (g 5) (Sv 5) ++ X)))))))))) := hD
  refine lv_aload_n hx hb dX1_copyFrom_11 rfl (lv_at hl 1 rfl) ?_
  refine va_get (D := D) (ci := 1) (v := .ref (a 2)) (C := RX1) (T := TX1) (N := 12) hx hb hts inX1 hown hE.1 hP 0 rfl rfl 1 (by decide) F15 (fun _ h9 => h9) rfl dX1_copyFrom_12 ?_
  refine lv_aload_n hx hb dX1_copyFrom_15 rfl (lv_at hl 0 rfl) ?_
  refine va_get (D := D) (ci := 1) (v := .ref ((g 2) 2)) (C := RX1) (T := TX1) (N := 12) hx hb hts inX1 hown hE.1 hP 43 rfl rfl 1 (by decide) F15 (fun _ h9 => h9) rfl dX1_copyFrom_16 ?_
  refine wr_SN (rest := []) ⟨hx, hb, hml, hown, hts⟩ hP hE hA hD hS (c_X3_copyRow l D K _ _ 2 45 _ _ 80 _ _ rfl rfl (by decide)) (va_cnB (host := RX3) 2 hts gX1_copyFrom_X3_copyRow_n62 rfl rfl rfl hE.2.2.2.2.2.2.2.2.2.2.2.1 IniX3 hn_X3_copyRow ⟨Nat.le_of_ble_eq_true rfl, Nat.le_of_ble_eq_true rfl⟩) Sta_X3_copyRow rfl hl.1 rfl (Nat.le_of_ble_eq_true rfl) dX1_copyFrom_19 ⟨Nat.le_of_ble_eq_true rfl, Nat.le_of_ble_eq_true rfl⟩ (fun H locs hP hD hS => ?_)
  have hP : va_P D vwCl (townW K a T ++ (waysW K b len qu n ++ (textW K t cs ln ++ (m0 :: m1 :: (townW K (g 0) (Sv 0) ++ (townW K (g 1) (Sv 1) ++ (townW K (g 2) (va_up (va_up (Sv 2) 0 (T 0)) 1 (T 1)) ++ (townW K (g 3) (Sv 3) ++ (townW K (g 4) (Sv 4) ++ (townW K (g 5) (Sv 5) ++ X)))))))))) H := hP
  have hD : va_D A (townW K a T ++ (waysW K b len qu n ++ (textW K t cs ln ++ (m0 :: m1 :: (townW K (g 0) (Sv 0) ++ (townW K (g 1) (Sv 1) ++ (townW K (g 2) (va_up (va_up (Sv 2) 0 (T 0)) 1 (T 1)) ++ (townW K (g 3) (Sv 3) ++ (townW K (g 4) (Sv 4) ++ (townW K (g 5) (Sv 5) ++ X)))))))))) := hD
  refine lv_aload_n hx hb dX1_copyFrom_22 rfl (lv_at hl 1 rfl) ?_
  refine va_get (D := D) (ci := 1) (v := .ref (a 3)) (C := RX1) (T := TX1) (N := 12) hx hb hts inX1 hown hE.1 hP 0 rfl rfl 2 (by decide) F18 (fun _ h9 => h9) rfl dX1_copyFrom_23 ?_
  refine lv_aload_n hx hb dX1_copyFrom_26 rfl (lv_at hl 0 rfl) ?_
  refine va_get (D := D) (ci := 1) (v := .ref ((g 2) 3)) (C := RX1) (T := TX1) (N := 12) hx hb hts inX1 hown hE.1 hP 43 rfl rfl 2 (by decide) F18 (fun _ h9 => h9) rfl dX1_copyFrom_27 ?_
  refine wr_SN (rest := []) ⟨hx, hb, hml, hown, hts⟩ hP hE hA hD hS (c_X3_copyRow l D K _ _ 3 46 _ _ 80 _ _ rfl rfl (by decide)) (va_cnB (host := RX3) 2 hts gX1_copyFrom_X3_copyRow_n62 rfl rfl rfl hE.2.2.2.2.2.2.2.2.2.2.2.1 IniX3 hn_X3_copyRow ⟨Nat.le_of_ble_eq_true rfl, Nat.le_of_ble_eq_true rfl⟩) Sta_X3_copyRow rfl hl.1 rfl (Nat.le_of_ble_eq_true rfl) dX1_copyFrom_30 ⟨Nat.le_of_ble_eq_true rfl, Nat.le_of_ble_eq_true rfl⟩ (fun H locs hP hD hS => ?_)
  have hP : va_P D vwCl (townW K a T ++ (waysW K b len qu n ++ (textW K t cs ln ++ (m0 :: m1 :: (townW K (g 0) (Sv 0) ++ (townW K (g 1) (Sv 1) ++ (townW K (g 2) (va_up (va_up (va_up (Sv 2) 0 (T 0)) 1 (T 1)) 2 (T 2)) ++ (townW K (g 3) (Sv 3) ++ (townW K (g 4) (Sv 4) ++ (townW K (g 5) (Sv 5) ++ X)))))))))) H := hP
  have hD : va_D A (townW K a T ++ (waysW K b len qu n ++ (textW K t cs ln ++ (m0 :: m1 :: (townW K (g 0) (Sv 0) ++ (townW K (g 1) (Sv 1) ++ (townW K (g 2) (va_up (va_up (va_up (Sv 2) 0 (T 0)) 1 (T 1)) 2 (T 2)) ++ (townW K (g 3) (Sv 3) ++ (townW K (g 4) (Sv 4) ++ (townW K (g 5) (Sv 5) ++ X)))))))))) := hD
  refine lv_aload_n hx hb dX1_copyFrom_33 rfl (lv_at hl 1 rfl) ?_
  refine va_get (D := D) (ci := 1) (v := .ref (a 4)) (C := RX1) (T := TX1) (N := 12) hx hb hts inX1 hown hE.1 hP 0 rfl rfl 3 (by decide) F21 (fun _ h9 => h9) rfl dX1_copyFrom_34 ?_
  refine lv_aload_n hx hb dX1_copyFrom_37 rfl (lv_at hl 0 rfl) ?_
  refine va_get (D := D) (ci := 1) (v := .ref ((g 2) 4)) (C := RX1) (T := TX1) (N := 12) hx hb hts inX1 hown hE.1 hP 43 rfl rfl 3 (by decide) F21 (fun _ h9 => h9) rfl dX1_copyFrom_38 ?_
  refine wr_SN (rest := []) ⟨hx, hb, hml, hown, hts⟩ hP hE hA hD hS (c_X3_copyRow l D K _ _ 4 47 _ _ 12 _ _ rfl rfl (by decide)) (va_cnB (host := RX3) 2 hts gX1_copyFrom_X3_copyRow_n62 rfl rfl rfl hE.2.2.2.2.2.2.2.2.2.2.2.1 IniX3 hn_X3_copyRow ⟨Nat.le_of_ble_eq_true rfl, Nat.le_of_ble_eq_true rfl⟩) Sta_X3_copyRow rfl hl.1 rfl (Nat.le_of_ble_eq_true rfl) dX1_copyFrom_41 ⟨Nat.le_of_ble_eq_true rfl, Nat.le_of_ble_eq_true rfl⟩ (fun H locs hP hD hS => ?_)
  have hP : va_P D vwCl (townW K a T ++ (waysW K b len qu n ++ (textW K t cs ln ++ (m0 :: m1 :: (townW K (g 0) (Sv 0) ++ (townW K (g 1) (Sv 1) ++ (townW K (g 2) (va_up (va_up (va_up (va_up (Sv 2) 0 (T 0)) 1 (T 1)) 2 (T 2)) 3 (T 3)) ++ (townW K (g 3) (Sv 3) ++ (townW K (g 4) (Sv 4) ++ (townW K (g 5) (Sv 5) ++ X)))))))))) H := hP
  have hD : va_D A (townW K a T ++ (waysW K b len qu n ++ (textW K t cs ln ++ (m0 :: m1 :: (townW K (g 0) (Sv 0) ++ (townW K (g 1) (Sv 1) ++ (townW K (g 2) (va_up (va_up (va_up (va_up (Sv 2) 0 (T 0)) 1 (T 1)) 2 (T 2)) 3 (T 3)) ++ (townW K (g 3) (Sv 3) ++ (townW K (g 4) (Sv 4) ++ (townW K (g 5) (Sv 5) ++ X)))))))))) := hD
  refine lv_aload_n hx hb dX1_copyFrom_44 rfl (lv_at hl 1 rfl) ?_
  refine va_get (D := D) (ci := 1) (v := .ref (a 5)) (C := RX1) (T := TX1) (N := 12) hx hb hts inX1 hown hE.1 hP 0 rfl rfl 4 (by decide) F24 (fun _ h9 => h9) rfl dX1_copyFrom_45 ?_
  refine lv_aload_n hx hb dX1_copyFrom_48 rfl (lv_at hl 0 rfl) ?_
  refine va_get (D := D) (ci := 1) (v := .ref ((g 2) 5)) (C := RX1) (T := TX1) (N := 12) hx hb hts inX1 hown hE.1 hP 43 rfl rfl 4 (by decide) F24 (fun _ h9 => h9) rfl dX1_copyFrom_49 ?_
  refine wr_SN (rest := []) ⟨hx, hb, hml, hown, hts⟩ hP hE hA hD hS (c_X3_copyRow l D K _ _ 5 48 _ _ 12 _ _ rfl rfl (by decide)) (va_cnB (host := RX3) 2 hts gX1_copyFrom_X3_copyRow_n62 rfl rfl rfl hE.2.2.2.2.2.2.2.2.2.2.2.1 IniX3 hn_X3_copyRow ⟨Nat.le_of_ble_eq_true rfl, Nat.le_of_ble_eq_true rfl⟩) Sta_X3_copyRow rfl hl.1 rfl (Nat.le_of_ble_eq_true rfl) dX1_copyFrom_52 ⟨Nat.le_of_ble_eq_true rfl, Nat.le_of_ble_eq_true rfl⟩ (fun H locs hP hD hS => ?_)
  have hP : va_P D vwCl (townW K a T ++ (waysW K b len qu n ++ (textW K t cs ln ++ (m0 :: m1 :: (townW K (g 0) (Sv 0) ++ (townW K (g 1) (Sv 1) ++ (townW K (g 2) (va_up (va_up (va_up (va_up (va_up (Sv 2) 0 (T 0)) 1 (T 1)) 2 (T 2)) 3 (T 3)) 4 (T 4)) ++ (townW K (g 3) (Sv 3) ++ (townW K (g 4) (Sv 4) ++ (townW K (g 5) (Sv 5) ++ X)))))))))) H := hP
  have hD : va_D A (townW K a T ++ (waysW K b len qu n ++ (textW K t cs ln ++ (m0 :: m1 :: (townW K (g 0) (Sv 0) ++ (townW K (g 1) (Sv 1) ++ (townW K (g 2) (va_up (va_up (va_up (va_up (va_up (Sv 2) 0 (T 0)) 1 (T 1)) 2 (T 2)) 3 (T 3)) 4 (T 4)) ++ (townW K (g 3) (Sv 3) ++ (townW K (g 4) (Sv 4) ++ (townW K (g 5) (Sv 5) ++ X)))))))))) := hD
  refine lv_aload_n hx hb dX1_copyFrom_55 rfl (lv_at hl 1 rfl) ?_
  refine va_get (D := D) (ci := 1) (v := .ref (a 6)) (C := RX1) (T := TX1) (N := 12) hx hb hts inX1 hown hE.1 hP 0 rfl rfl 5 (by decide) F27 (fun _ h9 => h9) rfl dX1_copyFrom_56 ?_
  refine lv_aload_n hx hb dX1_copyFrom_59 rfl (lv_at hl 0 rfl) ?_
  refine va_get (D := D) (ci := 1) (v := .ref ((g 2) 6)) (C := RX1) (T := TX1) (N := 12) hx hb hts inX1 hown hE.1 hP 43 rfl rfl 5 (by decide) F27 (fun _ h9 => h9) rfl dX1_copyFrom_60 ?_
  refine wr_SN (rest := []) ⟨hx, hb, hml, hown, hts⟩ hP hE hA hD hS (c_X3_copyRow l D K _ _ 6 49 _ _ 4 _ _ rfl rfl (by decide)) (va_cnB (host := RX3) 2 hts gX1_copyFrom_X3_copyRow_n62 rfl rfl rfl hE.2.2.2.2.2.2.2.2.2.2.2.1 IniX3 hn_X3_copyRow ⟨Nat.le_of_ble_eq_true rfl, Nat.le_of_ble_eq_true rfl⟩) Sta_X3_copyRow rfl hl.1 rfl (Nat.le_of_ble_eq_true rfl) dX1_copyFrom_63 ⟨Nat.le_of_ble_eq_true rfl, Nat.le_of_ble_eq_true rfl⟩ (fun H locs hP hD hS => ?_)
  have hP : va_P D vwCl (townW K a T ++ (waysW K b len qu n ++ (textW K t cs ln ++ (m0 :: m1 :: (townW K (g 0) (Sv 0) ++ (townW K (g 1) (Sv 1) ++ (townW K (g 2) (va_up (va_up (va_up (va_up (va_up (va_up (Sv 2) 0 (T 0)) 1 (T 1)) 2 (T 2)) 3 (T 3)) 4 (T 4)) 5 (T 5)) ++ (townW K (g 3) (Sv 3) ++ (townW K (g 4) (Sv 4) ++ (townW K (g 5) (Sv 5) ++ X)))))))))) H := hP
  have hD : va_D A (townW K a T ++ (waysW K b len qu n ++ (textW K t cs ln ++ (m0 :: m1 :: (townW K (g 0) (Sv 0) ++ (townW K (g 1) (Sv 1) ++ (townW K (g 2) (va_up (va_up (va_up (va_up (va_up (va_up (Sv 2) 0 (T 0)) 1 (T 1)) 2 (T 2)) 3 (T 3)) 4 (T 4)) 5 (T 5)) ++ (townW K (g 3) (Sv 3) ++ (townW K (g 4) (Sv 4) ++ (townW K (g 5) (Sv 5) ++ X)))))))))) := hD
  refine lv_aload_n hx hb dX1_copyFrom_66 rfl (lv_at hl 1 rfl) ?_
  refine va_get (D := D) (ci := 1) (v := .ref (a 7)) (C := RX1) (T := TX1) (N := 12) hx hb hts inX1 hown hE.1 hP 0 rfl rfl 6 (by decide) F38 (fun _ h9 => h9) rfl dX1_copyFrom_67 ?_
  refine lv_aload_n hx hb dX1_copyFrom_70 rfl (lv_at hl 0 rfl) ?_
  refine va_get (D := D) (ci := 1) (v := .ref ((g 2) 7)) (C := RX1) (T := TX1) (N := 12) hx hb hts inX1 hown hE.1 hP 43 rfl rfl 6 (by decide) F38 (fun _ h9 => h9) rfl dX1_copyFrom_71 ?_
  refine wr_SN (rest := []) ⟨hx, hb, hml, hown, hts⟩ hP hE hA hD hS (c_X3_copyRow l D K _ _ 7 50 _ _ 4 _ _ rfl rfl (by decide)) (va_cnB (host := RX3) 2 hts gX1_copyFrom_X3_copyRow_n62 rfl rfl rfl hE.2.2.2.2.2.2.2.2.2.2.2.1 IniX3 hn_X3_copyRow ⟨Nat.le_of_ble_eq_true rfl, Nat.le_of_ble_eq_true rfl⟩) Sta_X3_copyRow rfl hl.1 rfl (Nat.le_of_ble_eq_true rfl) dX1_copyFrom_74 ⟨Nat.le_of_ble_eq_true rfl, Nat.le_of_ble_eq_true rfl⟩ (fun H locs hP hD hS => ?_)
  have hP : va_P D vwCl (townW K a T ++ (waysW K b len qu n ++ (textW K t cs ln ++ (m0 :: m1 :: (townW K (g 0) (Sv 0) ++ (townW K (g 1) (Sv 1) ++ (townW K (g 2) (va_up (va_up (va_up (va_up (va_up (va_up (va_up (Sv 2) 0 (T 0)) 1 (T 1)) 2 (T 2)) 3 (T 3)) 4 (T 4)) 5 (T 5)) 6 (T 6)) ++ (townW K (g 3) (Sv 3) ++ (townW K (g 4) (Sv 4) ++ (townW K (g 5) (Sv 5) ++ X)))))))))) H := hP
  have hD : va_D A (townW K a T ++ (waysW K b len qu n ++ (textW K t cs ln ++ (m0 :: m1 :: (townW K (g 0) (Sv 0) ++ (townW K (g 1) (Sv 1) ++ (townW K (g 2) (va_up (va_up (va_up (va_up (va_up (va_up (va_up (Sv 2) 0 (T 0)) 1 (T 1)) 2 (T 2)) 3 (T 3)) 4 (T 4)) 5 (T 5)) 6 (T 6)) ++ (townW K (g 3) (Sv 3) ++ (townW K (g 4) (Sv 4) ++ (townW K (g 5) (Sv 5) ++ X)))))))))) := hD
  refine lv_aload_n hx hb dX1_copyFrom_77 rfl (lv_at hl 1 rfl) ?_
  refine va_get (D := D) (ci := 1) (v := .ref (a 8)) (C := RX1) (T := TX1) (N := 12) hx hb hts inX1 hown hE.1 hP 0 rfl rfl 7 (by decide) F41 (fun _ h9 => h9) rfl dX1_copyFrom_78 ?_
  refine lv_aload_n hx hb dX1_copyFrom_81 rfl (lv_at hl 0 rfl) ?_
  refine va_get (D := D) (ci := 1) (v := .ref ((g 2) 8)) (C := RX1) (T := TX1) (N := 12) hx hb hts inX1 hown hE.1 hP 43 rfl rfl 7 (by decide) F41 (fun _ h9 => h9) rfl dX1_copyFrom_82 ?_
  refine wr_SN (rest := []) ⟨hx, hb, hml, hown, hts⟩ hP hE hA hD hS (c_X3_copyRow l D K _ _ 8 51 _ _ 4 _ _ rfl rfl (by decide)) (va_cnB (host := RX3) 2 hts gX1_copyFrom_X3_copyRow_n62 rfl rfl rfl hE.2.2.2.2.2.2.2.2.2.2.2.1 IniX3 hn_X3_copyRow ⟨Nat.le_of_ble_eq_true rfl, Nat.le_of_ble_eq_true rfl⟩) Sta_X3_copyRow rfl hl.1 rfl (Nat.le_of_ble_eq_true rfl) dX1_copyFrom_85 ⟨Nat.le_of_ble_eq_true rfl, Nat.le_of_ble_eq_true rfl⟩ (fun H locs hP hD hS => ?_)
  have hP : va_P D vwCl (townW K a T ++ (waysW K b len qu n ++ (textW K t cs ln ++ (m0 :: m1 :: (townW K (g 0) (Sv 0) ++ (townW K (g 1) (Sv 1) ++ (townW K (g 2) (va_up (va_up (va_up (va_up (va_up (va_up (va_up (va_up (Sv 2) 0 (T 0)) 1 (T 1)) 2 (T 2)) 3 (T 3)) 4 (T 4)) 5 (T 5)) 6 (T 6)) 7 (T 7)) ++ (townW K (g 3) (Sv 3) ++ (townW K (g 4) (Sv 4) ++ (townW K (g 5) (Sv 5) ++ X)))))))))) H := hP
  have hD : va_D A (townW K a T ++ (waysW K b len qu n ++ (textW K t cs ln ++ (m0 :: m1 :: (townW K (g 0) (Sv 0) ++ (townW K (g 1) (Sv 1) ++ (townW K (g 2) (va_up (va_up (va_up (va_up (va_up (va_up (va_up (va_up (Sv 2) 0 (T 0)) 1 (T 1)) 2 (T 2)) 3 (T 3)) 4 (T 4)) 5 (T 5)) 6 (T 6)) 7 (T 7)) ++ (townW K (g 3) (Sv 3) ++ (townW K (g 4) (Sv 4) ++ (townW K (g 5) (Sv 5) ++ X)))))))))) := hD
  refine lv_aload_n hx hb dX1_copyFrom_88 rfl (lv_at hl 1 rfl) ?_
  refine va_get (D := D) (ci := 1) (v := .ref (a 9)) (C := RX1) (T := TX1) (N := 12) hx hb hts inX1 hown hE.1 hP 0 rfl rfl 8 (by decide) F44 (fun _ h9 => h9) rfl dX1_copyFrom_89 ?_
  refine lv_aload_n hx hb dX1_copyFrom_92 rfl (lv_at hl 0 rfl) ?_
  refine va_get (D := D) (ci := 1) (v := .ref ((g 2) 9)) (C := RX1) (T := TX1) (N := 12) hx hb hts inX1 hown hE.1 hP 43 rfl rfl 8 (by decide) F44 (fun _ h9 => h9) rfl dX1_copyFrom_93 ?_
  refine wr_SN (rest := []) ⟨hx, hb, hml, hown, hts⟩ hP hE hA hD hS (c_X3_copyRow l D K _ _ 9 52 _ _ 4 _ _ rfl rfl (by decide)) (va_cnB (host := RX3) 2 hts gX1_copyFrom_X3_copyRow_n62 rfl rfl rfl hE.2.2.2.2.2.2.2.2.2.2.2.1 IniX3 hn_X3_copyRow ⟨Nat.le_of_ble_eq_true rfl, Nat.le_of_ble_eq_true rfl⟩) Sta_X3_copyRow rfl hl.1 rfl (Nat.le_of_ble_eq_true rfl) dX1_copyFrom_96 ⟨Nat.le_of_ble_eq_true rfl, Nat.le_of_ble_eq_true rfl⟩ (fun H locs hP hD hS => ?_)
  have hP : va_P D vwCl (townW K a T ++ (waysW K b len qu n ++ (textW K t cs ln ++ (m0 :: m1 :: (townW K (g 0) (Sv 0) ++ (townW K (g 1) (Sv 1) ++ (townW K (g 2) (va_up (va_up (va_up (va_up (va_up (va_up (va_up (va_up (va_up (Sv 2) 0 (T 0)) 1 (T 1)) 2 (T 2)) 3 (T 3)) 4 (T 4)) 5 (T 5)) 6 (T 6)) 7 (T 7)) 8 (T 8)) ++ (townW K (g 3) (Sv 3) ++ (townW K (g 4) (Sv 4) ++ (townW K (g 5) (Sv 5) ++ X)))))))))) H := hP
  have hD : va_D A (townW K a T ++ (waysW K b len qu n ++ (textW K t cs ln ++ (m0 :: m1 :: (townW K (g 0) (Sv 0) ++ (townW K (g 1) (Sv 1) ++ (townW K (g 2) (va_up (va_up (va_up (va_up (va_up (va_up (va_up (va_up (va_up (Sv 2) 0 (T 0)) 1 (T 1)) 2 (T 2)) 3 (T 3)) 4 (T 4)) 5 (T 5)) 6 (T 6)) 7 (T 7)) 8 (T 8)) ++ (townW K (g 3) (Sv 3) ++ (townW K (g 4) (Sv 4) ++ (townW K (g 5) (Sv 5) ++ X)))))))))) := hD
  refine lv_aload_n hx hb dX1_copyFrom_99 rfl (lv_at hl 1 rfl) ?_
  refine va_get (D := D) (ci := 1) (v := .ref (a 10)) (C := RX1) (T := TX1) (N := 12) hx hb hts inX1 hown hE.1 hP 0 rfl rfl 9 (by decide) F47 (fun _ h9 => h9) rfl dX1_copyFrom_100 ?_
  refine lv_aload_n hx hb dX1_copyFrom_103 rfl (lv_at hl 0 rfl) ?_
  refine va_get (D := D) (ci := 1) (v := .ref ((g 2) 10)) (C := RX1) (T := TX1) (N := 12) hx hb hts inX1 hown hE.1 hP 43 rfl rfl 9 (by decide) F47 (fun _ h9 => h9) rfl dX1_copyFrom_104 ?_
  refine wr_SN (rest := []) ⟨hx, hb, hml, hown, hts⟩ hP hE hA hD hS (c_X3_copyRow l D K _ _ 10 53 _ _ 4 _ _ rfl rfl (by decide)) (va_cnB (host := RX3) 2 hts gX1_copyFrom_X3_copyRow_n62 rfl rfl rfl hE.2.2.2.2.2.2.2.2.2.2.2.1 IniX3 hn_X3_copyRow ⟨Nat.le_of_ble_eq_true rfl, Nat.le_of_ble_eq_true rfl⟩) Sta_X3_copyRow rfl hl.1 rfl (Nat.le_of_ble_eq_true rfl) dX1_copyFrom_107 ⟨Nat.le_of_ble_eq_true rfl, Nat.le_of_ble_eq_true rfl⟩ (fun H locs hP hD hS => ?_)
  have hP : va_P D vwCl (townW K a T ++ (waysW K b len qu n ++ (textW K t cs ln ++ (m0 :: m1 :: (townW K (g 0) (Sv 0) ++ (townW K (g 1) (Sv 1) ++ (townW K (g 2) (va_up (va_up (va_up (va_up (va_up (va_up (va_up (va_up (va_up (va_up (Sv 2) 0 (T 0)) 1 (T 1)) 2 (T 2)) 3 (T 3)) 4 (T 4)) 5 (T 5)) 6 (T 6)) 7 (T 7)) 8 (T 8)) 9 (T 9)) ++ (townW K (g 3) (Sv 3) ++ (townW K (g 4) (Sv 4) ++ (townW K (g 5) (Sv 5) ++ X)))))))))) H := hP
  have hD : va_D A (townW K a T ++ (waysW K b len qu n ++ (textW K t cs ln ++ (m0 :: m1 :: (townW K (g 0) (Sv 0) ++ (townW K (g 1) (Sv 1) ++ (townW K (g 2) (va_up (va_up (va_up (va_up (va_up (va_up (va_up (va_up (va_up (va_up (Sv 2) 0 (T 0)) 1 (T 1)) 2 (T 2)) 3 (T 3)) 4 (T 4)) 5 (T 5)) 6 (T 6)) 7 (T 7)) 8 (T 8)) 9 (T 9)) ++ (townW K (g 3) (Sv 3) ++ (townW K (g 4) (Sv 4) ++ (townW K (g 5) (Sv 5) ++ X)))))))))) := hD
  refine lv_aload_n hx hb dX1_copyFrom_110 rfl (lv_at hl 1 rfl) ?_
  refine va_get (D := D) (ci := 1) (v := .ref (a 11)) (C := RX1) (T := TX1) (N := 12) hx hb hts inX1 hown hE.1 hP 0 rfl rfl 10 (by decide) F53 (fun _ h9 => h9) rfl dX1_copyFrom_111 ?_
  refine lv_aload_n hx hb dX1_copyFrom_114 rfl (lv_at hl 0 rfl) ?_
  refine va_get (D := D) (ci := 1) (v := .ref ((g 2) 11)) (C := RX1) (T := TX1) (N := 12) hx hb hts inX1 hown hE.1 hP 43 rfl rfl 10 (by decide) F53 (fun _ h9 => h9) rfl dX1_copyFrom_115 ?_
  refine wr_SN (rest := []) ⟨hx, hb, hml, hown, hts⟩ hP hE hA hD hS (c_X3_copyRow l D K _ _ 11 54 _ _ 3 _ _ rfl rfl (by decide)) (va_cnB (host := RX3) 2 hts gX1_copyFrom_X3_copyRow_n62 rfl rfl rfl hE.2.2.2.2.2.2.2.2.2.2.2.1 IniX3 hn_X3_copyRow ⟨Nat.le_of_ble_eq_true rfl, Nat.le_of_ble_eq_true rfl⟩) Sta_X3_copyRow rfl hl.1 rfl (Nat.le_of_ble_eq_true rfl) dX1_copyFrom_118 ⟨Nat.le_of_ble_eq_true rfl, Nat.le_of_ble_eq_true rfl⟩ (fun H locs hP hD hS => ?_)
  have hP : va_P D vwCl (townW K a T ++ (waysW K b len qu n ++ (textW K t cs ln ++ (m0 :: m1 :: (townW K (g 0) (Sv 0) ++ (townW K (g 1) (Sv 1) ++ (townW K (g 2) (va_up (va_up (va_up (va_up (va_up (va_up (va_up (va_up (va_up (va_up (va_up (Sv 2) 0 (T 0)) 1 (T 1)) 2 (T 2)) 3 (T 3)) 4 (T 4)) 5 (T 5)) 6 (T 6)) 7 (T 7)) 8 (T 8)) 9 (T 9)) 10 (T 10)) ++ (townW K (g 3) (Sv 3) ++ (townW K (g 4) (Sv 4) ++ (townW K (g 5) (Sv 5) ++ X)))))))))) H := hP
  have hD : va_D A (townW K a T ++ (waysW K b len qu n ++ (textW K t cs ln ++ (m0 :: m1 :: (townW K (g 0) (Sv 0) ++ (townW K (g 1) (Sv 1) ++ (townW K (g 2) (va_up (va_up (va_up (va_up (va_up (va_up (va_up (va_up (va_up (va_up (va_up (Sv 2) 0 (T 0)) 1 (T 1)) 2 (T 2)) 3 (T 3)) 4 (T 4)) 5 (T 5)) 6 (T 6)) 7 (T 7)) 8 (T 8)) 9 (T 9)) 10 (T 10)) ++ (townW K (g 3) (Sv 3) ++ (townW K (g 4) (Sv 4) ++ (townW K (g 5) (Sv 5) ++ X)))))))))) := hD
  refine lv_aload_n hx hb dX1_copyFrom_121 rfl (lv_at hl 0 rfl) ?_
  refine lv_aload_n hx hb dX1_copyFrom_122 rfl (lv_at hl 1 rfl) ?_
  refine va_get (D := D) (ci := 1) (v := .int (T 11 0)) (C := RX1) (T := TX1) (N := 12) hx hb hts inX1 hown hE.1 hP 0 rfl rfl 11 (by decide) F66 (fun _ h9 => h9) rfl dX1_copyFrom_123 ?_
  refine va_put (D := D) (ci := 1) (v := .int (T 11 0)) (ty := .int) (C := RX1) (T := TX1) (N := 12) hx hb hts inX1 tyX1 tyX1_ok nmX1 hown hE.1 hP hD hS 43 rfl rfl 11 (by decide) F66 (fun _ h9 => h9) rfl (by decide +kernel) rfl rfl (Nat.le_of_ble_eq_true rfl) dX1_copyFrom_126 (fun H locs hP hD hS => ?_)
  have hP : va_P D vwCl (townW K a T ++ (waysW K b len qu n ++ (textW K t cs ln ++ (m0 :: m1 :: (townW K (g 0) (Sv 0) ++ (townW K (g 1) (Sv 1) ++ (townW K (g 2) (setT (va_up (va_up (va_up (va_up (va_up (va_up (va_up (va_up (va_up (va_up (va_up (Sv 2) 0 (T 0)) 1 (T 1)) 2 (T 2)) 3 (T 3)) 4 (T 4)) 5 (T 5)) 6 (T 6)) 7 (T 7)) 8 (T 8)) 9 (T 9)) 10 (T 10)) 11 0 (T 11 0)) ++ (townW K (g 3) (Sv 3) ++ (townW K (g 4) (Sv 4) ++ (townW K (g 5) (Sv 5) ++ X)))))))))) H := hP
  have hD : va_D A (townW K a T ++ (waysW K b len qu n ++ (textW K t cs ln ++ (m0 :: m1 :: (townW K (g 0) (Sv 0) ++ (townW K (g 1) (Sv 1) ++ (townW K (g 2) (setT (va_up (va_up (va_up (va_up (va_up (va_up (va_up (va_up (va_up (va_up (va_up (Sv 2) 0 (T 0)) 1 (T 1)) 2 (T 2)) 3 (T 3)) 4 (T 4)) 5 (T 5)) 6 (T 6)) 7 (T 7)) 8 (T 8)) 9 (T 9)) 10 (T 10)) 11 0 (T 11 0)) ++ (townW K (g 3) (Sv 3) ++ (townW K (g 4) (Sv 4) ++ (townW K (g 5) (Sv 5) ++ X)))))))))) := hD
  have hP : va_P D vwCl (townW K a T ++ (waysW K b len qu n ++ (textW K t cs ln ++ (m0 :: m1 :: svW K g (va_up Sv 2 T) X)))) H := hP
  have hD : va_D A (townW K a T ++ (waysW K b len qu n ++ (textW K t cs ln ++ (m0 :: m1 :: svW K g (va_up Sv 2 T) X)))) := hD
  exact wr_vret hAe hP hD hS hx hb hr hk dX1_copyFrom_129 ⟨Nat.le_of_ble_eq_true rfl, Nat.le_of_ble_eq_true rfl⟩
set_option maxHeartbeats 4000000 in
set_option maxRecDepth 100000 in
theorem c_X1_copyFrom_s3 (l : Launch) (D : va_G) (K : Nat → ClassId) (sz : Nat) (a b t : Nat → Nat) (g : Nat → Nat → Nat) (T : TW) (X : va_W) (len : Nat → Option Nat) (qu : Nat → Nat) (n : Nat) (cs : Nat → Nat) (ln : Nat) (m0 m1 : Nat × va_E) (Sv : Nat → TW) : Wr l yX1_copyFrom wsX1_copyFrom ({ frames := 3, cells := 0, slots := 0, locals := 61 } : Room) D K (townW K a T ++ (waysW K b len qu n ++ (textW K t cs ln ++ (m0 :: m1 :: svW K g Sv X)))) sz [.ref ((g 3) 0), .ref (a 0)] (townW K a T ++ (waysW K b len qu n ++ (textW K t cs ln ++ (m0 :: m1 :: svW K g (va_up Sv 3 T) X)))) none 0 0 := by
  refine wr_intro (cc := cX1_copyFrom) (maxL := 2) (ret := none) (by decide) rfl (Nat.le_of_ble_eq_true rfl) ?_
  intro pr en st md ar bl mt co A hx hb hml hr hts hown hk hsz hAe hP hE hD hS hA hin ls hl
  have hown : st.vm.findClass RX1 = some md.cls := hown
  have hl : lv_has ls 2 [(0, .ref ((g 3) 0)), (1, .ref (a 0))] := hl
  obtain ⟨H, hH⟩ : ∃ z, z = st.heap := ⟨_, rfl⟩
  obtain ⟨locs, hlo⟩ : ∃ z : List Loc, z = [] := ⟨_, rfl⟩
  have hP : va_P D vwCl (townW K a T ++ (waysW K b len qu n ++ (textW K t cs ln ++ (m0 :: m1 :: svW K g Sv X)))) H := by rw [hH]; exact hP
  have hS : va_S A st.heap H locs := by rw [hH, hlo]; exact hS
  suffices go : W pr l en (headSpec wsX1_copyFrom ({ frames := 3, cells := 0, slots := 0, locals := 61 } : Room)).room st md ar bl mt co H locs 0 0 (MQ bl (wrQ D (townW K a T ++ (waysW K b len qu n ++ (textW K t cs ln ++ (m0 :: m1 :: svW K g Sv X)))) (townW K a T ++ (waysW K b len qu n ++ (textW K t cs ln ++ (m0 :: m1 :: svW K g (va_up Sv 3 T) X)))) sz none) ar st 0 0 A) (F0 md 0 ls []) by rw [hH, hlo] at go; exact go
  clear hH hlo
  have F9 : (Cond.fieldLink RX1 9 "TramTolls$Town" "houses" "[I").before ar st = true := hts _ (List.mem_of_getElem? (i := 1) rfl)
  have inX1 : ∀ w ∈ u_ws RX1 TX1 12, w ∈ wsX1_copyFrom := fun w h => List.mem_cons_of_mem _ (List.mem_append_right _ h)
  have IniX3 : (Cond.initialized RX3).before ar st = true := hts _ (List.mem_of_getElem? (i := 14) rfl)
  have Sta_X3_copyRow : (Cond.static yX3_copyRow).before ar st = true := hts _ (List.mem_of_getElem? (i := 13) rfl)
  have F15 : (Cond.fieldLink RX1 15 "TramTolls$Town" "trackMasks" "[I").before ar st = true := hts _ (List.mem_of_getElem? (i := 2) rfl)
  have F18 : (Cond.fieldLink RX1 18 "TramTolls$Town" "owners" "[I").before ar st = true := hts _ (List.mem_of_getElem? (i := 3) rfl)
  have F21 : (Cond.fieldLink RX1 21 "TramTolls$Town" "stopSquares" "[I").before ar st = true := hts _ (List.mem_of_getElem? (i := 4) rfl)
  have F24 : (Cond.fieldLink RX1 24 "TramTolls$Town" "stopPlayers" "[I").before ar st = true := hts _ (List.mem_of_getElem? (i := 5) rfl)
  have F27 : (Cond.fieldLink RX1 27 "TramTolls$Town" "coins" "[I").before ar st = true := hts _ (List.mem_of_getElem? (i := 6) rfl)
  have F38 : (Cond.fieldLink RX1 38 "TramTolls$Town" "heads" "[I").before ar st = true := hts _ (List.mem_of_getElem? (i := 7) rfl)
  have F41 : (Cond.fieldLink RX1 41 "TramTolls$Town" "lastDirections" "[I").before ar st = true := hts _ (List.mem_of_getElem? (i := 8) rfl)
  have F44 : (Cond.fieldLink RX1 44 "TramTolls$Town" "tollsPaid" "[I").before ar st = true := hts _ (List.mem_of_getElem? (i := 9) rfl)
  have F47 : (Cond.fieldLink RX1 47 "TramTolls$Town" "tollsGot" "[I").before ar st = true := hts _ (List.mem_of_getElem? (i := 10) rfl)
  have F53 : (Cond.fieldLink RX1 53 "TramTolls$Town" "settings" "[I").before ar st = true := hts _ (List.mem_of_getElem? (i := 11) rfl)
  have F66 : (Cond.fieldLink RX1 66 "TramTolls$Town" "piecesLaid" "I").before ar st = true := hts _ (List.mem_of_getElem? (i := 12) rfl)
  refine lv_aload_n hx hb dX1_copyFrom_0 rfl (lv_at hl 1 rfl) ?_
  refine va_get (D := D) (ci := 1) (v := .ref (a 1)) (C := RX1) (T := TX1) (N := 12) hx hb hts inX1 hown hE.1 hP 0 rfl rfl 0 (by decide) F9 (fun _ h9 => h9) rfl dX1_copyFrom_1 ?_
  refine lv_aload_n hx hb dX1_copyFrom_4 rfl (lv_at hl 0 rfl) ?_
  refine va_get (D := D) (ci := 1) (v := .ref ((g 3) 1)) (C := RX1) (T := TX1) (N := 12) hx hb hts inX1 hown hE.1 hP 55 rfl rfl 0 (by decide) F9 (fun _ h9 => h9) rfl dX1_copyFrom_5 ?_
  refine wr_SN (rest := []) ⟨hx, hb, hml, hown, hts⟩ hP hE hA hD hS (c_X3_copyRow l D K _ _ 1 56 _ _ 80 _ _ rfl rfl (by decide)) (va_cnB (host := RX3) 2 hts gX1_copyFrom_X3_copyRow_n62 rfl rfl rfl hE.2.2.2.2.2.2.2.2.2.2.2.1 IniX3 hn_X3_copyRow ⟨Nat.le_of_ble_eq_true rfl, Nat.le_of_ble_eq_true rfl⟩) Sta_X3_copyRow rfl hl.1 rfl (Nat.le_of_ble_eq_true rfl) dX1_copyFrom_8 ⟨Nat.le_of_ble_eq_true rfl, Nat.le_of_ble_eq_true rfl⟩ (fun H locs hP hD hS => ?_)
  have hP : va_P D vwCl (townW K a T ++ (waysW K b len qu n ++ (textW K t cs ln ++ (m0 :: m1 :: (townW K (g 0) (Sv 0) ++ (townW K (g 1) (Sv 1) ++ (townW K (g 2) (Sv 2) ++ (townW K (g 3) (va_up (Sv 3) 0 (T 0)) ++ (townW K (g 4) (Sv 4) ++ (townW K (g 5) (Sv 5) ++ X)))))))))) H := hP
  have hD : va_D A (townW K a T ++ (waysW K b len qu n ++ (textW K t cs ln ++ (m0 :: m1 :: (townW K (g 0) (Sv 0) ++ (townW K (g 1) (Sv 1) ++ (townW K (g 2) (Sv 2) ++ (townW K (g 3) (va_up (Sv 3) 0 (T 0)) ++ (townW K (g 4) (Sv 4) ++ (townW K (g 5) (Sv 5) ++ X)))))))))) := hD
  refine lv_aload_n hx hb dX1_copyFrom_11 rfl (lv_at hl 1 rfl) ?_
  refine va_get (D := D) (ci := 1) (v := .ref (a 2)) (C := RX1) (T := TX1) (N := 12) hx hb hts inX1 hown hE.1 hP 0 rfl rfl 1 (by decide) F15 (fun _ h9 => h9) rfl dX1_copyFrom_12 ?_
  refine lv_aload_n hx hb dX1_copyFrom_15 rfl (lv_at hl 0 rfl) ?_
  refine va_get (D := D) (ci := 1) (v := .ref ((g 3) 2)) (C := RX1) (T := TX1) (N := 12) hx hb hts inX1 hown hE.1 hP 55 rfl rfl 1 (by decide) F15 (fun _ h9 => h9) rfl dX1_copyFrom_16 ?_
  refine wr_SN (rest := []) ⟨hx, hb, hml, hown, hts⟩ hP hE hA hD hS (c_X3_copyRow l D K _ _ 2 57 _ _ 80 _ _ rfl rfl (by decide)) (va_cnB (host := RX3) 2 hts gX1_copyFrom_X3_copyRow_n62 rfl rfl rfl hE.2.2.2.2.2.2.2.2.2.2.2.1 IniX3 hn_X3_copyRow ⟨Nat.le_of_ble_eq_true rfl, Nat.le_of_ble_eq_true rfl⟩) Sta_X3_copyRow rfl hl.1 rfl (Nat.le_of_ble_eq_true rfl) dX1_copyFrom_19 ⟨Nat.le_of_ble_eq_true rfl, Nat.le_of_ble_eq_true rfl⟩ (fun H locs hP hD hS => ?_)
  have hP : va_P D vwCl (townW K a T ++ (waysW K b len qu n ++ (textW K t cs ln ++ (m0 :: m1 :: (townW K (g 0) (Sv 0) ++ (townW K (g 1) (Sv 1) ++ (townW K (g 2) (Sv 2) ++ (townW K (g 3) (va_up (va_up (Sv 3) 0 (T 0)) 1 (T 1)) ++ (townW K (g 4) (Sv 4) ++ (townW K (g 5) (Sv 5) ++ X)))))))))) H := hP
  have hD : va_D A (townW K a T ++ (waysW K b len qu n ++ (textW K t cs ln ++ (m0 :: m1 :: (townW K (g 0) (Sv 0) ++ (townW K (g 1) (Sv 1) ++ (townW K (g 2) (Sv 2) ++ (townW K (g 3) (va_up (va_up (Sv 3) 0 (T 0)) 1 (T 1)) ++ (townW K (g 4) (Sv 4) ++ (townW K (g 5) (Sv 5) ++ X)))))))))) := hD
  refine lv_aload_n hx hb dX1_copyFrom_22 rfl (lv_at hl 1 rfl) ?_
  refine va_get (D := D) (ci := 1) (v := .ref (a 3)) (C := RX1) (T := TX1) (N := 12) hx hb hts inX1 hown hE.1 hP 0 rfl rfl 2 (by decide) F18 (fun _ h9 => h9) rfl dX1_copyFrom_23 ?_
  refine lv_aload_n hx hb dX1_copyFrom_26 rfl (lv_at hl 0 rfl) ?_
  refine va_get (D := D) (ci := 1) (v := .ref ((g 3) 3)) (C := RX1) (T := TX1) (N := 12) hx hb hts inX1 hown hE.1 hP 55 rfl rfl 2 (by decide) F18 (fun _ h9 => h9) rfl dX1_copyFrom_27 ?_
  refine wr_SN (rest := []) ⟨hx, hb, hml, hown, hts⟩ hP hE hA hD hS (c_X3_copyRow l D K _ _ 3 58 _ _ 80 _ _ rfl rfl (by decide)) (va_cnB (host := RX3) 2 hts gX1_copyFrom_X3_copyRow_n62 rfl rfl rfl hE.2.2.2.2.2.2.2.2.2.2.2.1 IniX3 hn_X3_copyRow ⟨Nat.le_of_ble_eq_true rfl, Nat.le_of_ble_eq_true rfl⟩) Sta_X3_copyRow rfl hl.1 rfl (Nat.le_of_ble_eq_true rfl) dX1_copyFrom_30 ⟨Nat.le_of_ble_eq_true rfl, Nat.le_of_ble_eq_true rfl⟩ (fun H locs hP hD hS => ?_)
  have hP : va_P D vwCl (townW K a T ++ (waysW K b len qu n ++ (textW K t cs ln ++ (m0 :: m1 :: (townW K (g 0) (Sv 0) ++ (townW K (g 1) (Sv 1) ++ (townW K (g 2) (Sv 2) ++ (townW K (g 3) (va_up (va_up (va_up (Sv 3) 0 (T 0)) 1 (T 1)) 2 (T 2)) ++ (townW K (g 4) (Sv 4) ++ (townW K (g 5) (Sv 5) ++ X)))))))))) H := hP
  have hD : va_D A (townW K a T ++ (waysW K b len qu n ++ (textW K t cs ln ++ (m0 :: m1 :: (townW K (g 0) (Sv 0) ++ (townW K (g 1) (Sv 1) ++ (townW K (g 2) (Sv 2) ++ (townW K (g 3) (va_up (va_up (va_up (Sv 3) 0 (T 0)) 1 (T 1)) 2 (T 2)) ++ (townW K (g 4) (Sv 4) ++ (townW K (g 5) (Sv 5) ++ X)))))))))) := hD
  refine lv_aload_n hx hb dX1_copyFrom_33 rfl (lv_at hl 1 rfl) ?_
  refine va_get (D := D) (ci := 1) (v := .ref (a 4)) (C := RX1) (T := TX1) (N := 12) hx hb hts inX1 hown hE.1 hP 0 rfl rfl 3 (by decide) F21 (fun _ h9 => h9) rfl dX1_copyFrom_34 ?_
  refine lv_aload_n hx hb dX1_copyFrom_37 rfl (lv_at hl 0 rfl) ?_
  refine va_get (D := D) (ci := 1) (v := .ref ((g 3) 4)) (C := RX1) (T := TX1) (N := 12) hx hb hts inX1 hown hE.1 hP 55 rfl rfl 3 (by decide) F21 (fun _ h9 => h9) rfl dX1_copyFrom_38 ?_
  refine wr_SN (rest := []) ⟨hx, hb, hml, hown, hts⟩ hP hE hA hD hS (c_X3_copyRow l D K _ _ 4 59 _ _ 12 _ _ rfl rfl (by decide)) (va_cnB (host := RX3) 2 hts gX1_copyFrom_X3_copyRow_n62 rfl rfl rfl hE.2.2.2.2.2.2.2.2.2.2.2.1 IniX3 hn_X3_copyRow ⟨Nat.le_of_ble_eq_true rfl, Nat.le_of_ble_eq_true rfl⟩) Sta_X3_copyRow rfl hl.1 rfl (Nat.le_of_ble_eq_true rfl) dX1_copyFrom_41 ⟨Nat.le_of_ble_eq_true rfl, Nat.le_of_ble_eq_true rfl⟩ (fun H locs hP hD hS => ?_)
  have hP : va_P D vwCl (townW K a T ++ (waysW K b len qu n ++ (textW K t cs ln ++ (m0 :: m1 :: (townW K (g 0) (Sv 0) ++ (townW K (g 1) (Sv 1) ++ (townW K (g 2) (Sv 2) ++ (townW K (g 3) (va_up (va_up (va_up (va_up (Sv 3) 0 (T 0)) 1 (T 1)) 2 (T 2)) 3 (T 3)) ++ (townW K (g 4) (Sv 4) ++ (townW K (g 5) (Sv 5) ++ X)))))))))) H := hP
  have hD : va_D A (townW K a T ++ (waysW K b len qu n ++ (textW K t cs ln ++ (m0 :: m1 :: (townW K (g 0) (Sv 0) ++ (townW K (g 1) (Sv 1) ++ (townW K (g 2) (Sv 2) ++ (townW K (g 3) (va_up (va_up (va_up (va_up (Sv 3) 0 (T 0)) 1 (T 1)) 2 (T 2)) 3 (T 3)) ++ (townW K (g 4) (Sv 4) ++ (townW K (g 5) (Sv 5) ++ X)))))))))) := hD
  refine lv_aload_n hx hb dX1_copyFrom_44 rfl (lv_at hl 1 rfl) ?_
  refine va_get (D := D) (ci := 1) (v := .ref (a 5)) (C := RX1) (T := TX1) (N := 12) hx hb hts inX1 hown hE.1 hP 0 rfl rfl 4 (by decide) F24 (fun _ h9 => h9) rfl dX1_copyFrom_45 ?_
  refine lv_aload_n hx hb dX1_copyFrom_48 rfl (lv_at hl 0 rfl) ?_
  refine va_get (D := D) (ci := 1) (v := .ref ((g 3) 5)) (C := RX1) (T := TX1) (N := 12) hx hb hts inX1 hown hE.1 hP 55 rfl rfl 4 (by decide) F24 (fun _ h9 => h9) rfl dX1_copyFrom_49 ?_
  refine wr_SN (rest := []) ⟨hx, hb, hml, hown, hts⟩ hP hE hA hD hS (c_X3_copyRow l D K _ _ 5 60 _ _ 12 _ _ rfl rfl (by decide)) (va_cnB (host := RX3) 2 hts gX1_copyFrom_X3_copyRow_n62 rfl rfl rfl hE.2.2.2.2.2.2.2.2.2.2.2.1 IniX3 hn_X3_copyRow ⟨Nat.le_of_ble_eq_true rfl, Nat.le_of_ble_eq_true rfl⟩) Sta_X3_copyRow rfl hl.1 rfl (Nat.le_of_ble_eq_true rfl) dX1_copyFrom_52 ⟨Nat.le_of_ble_eq_true rfl, Nat.le_of_ble_eq_true rfl⟩ (fun H locs hP hD hS => ?_)
  have hP : va_P D vwCl (townW K a T ++ (waysW K b len qu n ++ (textW K t cs ln ++ (m0 :: m1 :: (townW K (g 0) (Sv 0) ++ (townW K (g 1) (Sv 1) ++ (townW K (g 2) (Sv 2) ++ (townW K (g 3) (va_up (va_up (va_up (va_up (va_up (Sv 3) 0 (T 0)) 1 (T 1)) 2 (T 2)) 3 (T 3)) 4 (T 4)) ++ (townW K (g 4) (Sv 4) ++ (townW K (g 5) (Sv 5) ++ X)))))))))) H := hP
  have hD : va_D A (townW K a T ++ (waysW K b len qu n ++ (textW K t cs ln ++ (m0 :: m1 :: (townW K (g 0) (Sv 0) ++ (townW K (g 1) (Sv 1) ++ (townW K (g 2) (Sv 2) ++ (townW K (g 3) (va_up (va_up (va_up (va_up (va_up (Sv 3) 0 (T 0)) 1 (T 1)) 2 (T 2)) 3 (T 3)) 4 (T 4)) ++ (townW K (g 4) (Sv 4) ++ (townW K (g 5) (Sv 5) ++ X)))))))))) := hD
  refine lv_aload_n hx hb dX1_copyFrom_55 rfl (lv_at hl 1 rfl) ?_
  refine va_get (D := D) (ci := 1) (v := .ref (a 6)) (C := RX1) (T := TX1) (N := 12) hx hb hts inX1 hown hE.1 hP 0 rfl rfl 5 (by decide) F27 (fun _ h9 => h9) rfl dX1_copyFrom_56 ?_
  refine lv_aload_n hx hb dX1_copyFrom_59 rfl (lv_at hl 0 rfl) ?_
  refine va_get (D := D) (ci := 1) (v := .ref ((g 3) 6)) (C := RX1) (T := TX1) (N := 12) hx hb hts inX1 hown hE.1 hP 55 rfl rfl 5 (by decide) F27 (fun _ h9 => h9) rfl dX1_copyFrom_60 ?_
  refine wr_SN (rest := []) ⟨hx, hb, hml, hown, hts⟩ hP hE hA hD hS (c_X3_copyRow l D K _ _ 6 61 _ _ 4 _ _ rfl rfl (by decide)) (va_cnB (host := RX3) 2 hts gX1_copyFrom_X3_copyRow_n62 rfl rfl rfl hE.2.2.2.2.2.2.2.2.2.2.2.1 IniX3 hn_X3_copyRow ⟨Nat.le_of_ble_eq_true rfl, Nat.le_of_ble_eq_true rfl⟩) Sta_X3_copyRow rfl hl.1 rfl (Nat.le_of_ble_eq_true rfl) dX1_copyFrom_63 ⟨Nat.le_of_ble_eq_true rfl, Nat.le_of_ble_eq_true rfl⟩ (fun H locs hP hD hS => ?_)
  have hP : va_P D vwCl (townW K a T ++ (waysW K b len qu n ++ (textW K t cs ln ++ (m0 :: m1 :: (townW K (g 0) (Sv 0) ++ (townW K (g 1) (Sv 1) ++ (townW K (g 2) (Sv 2) ++ (townW K (g 3) (va_up (va_up (va_up (va_up (va_up (va_up (Sv 3) 0 (T 0)) 1 (T 1)) 2 (T 2)) 3 (T 3)) 4 (T 4)) 5 (T 5)) ++ (townW K (g 4) (Sv 4) ++ (townW K (g 5) (Sv 5) ++ X)))))))))) H := hP
  have hD : va_D A (townW K a T ++ (waysW K b len qu n ++ (textW K t cs ln ++ (m0 :: m1 :: (townW K (g 0) (Sv 0) ++ (townW K (g 1) (Sv 1) ++ (townW K (g 2) (Sv 2) ++ (townW K (g 3) (va_up (va_up (va_up (va_up (va_up (va_up (Sv 3) 0 (T 0)) 1 (T 1)) 2 (T 2)) 3 (T 3)) 4 (T 4)) 5 (T 5)) ++ (townW K (g 4) (Sv 4) ++ (townW K (g 5) (Sv 5) ++ X)))))))))) := hD
  refine lv_aload_n hx hb dX1_copyFrom_66 rfl (lv_at hl 1 rfl) ?_
  refine va_get (D := D) (ci := 1) (v := .ref (a 7)) (C := RX1) (T := TX1) (N := 12) hx hb hts inX1 hown hE.1 hP 0 rfl rfl 6 (by decide) F38 (fun _ h9 => h9) rfl dX1_copyFrom_67 ?_
  refine lv_aload_n hx hb dX1_copyFrom_70 rfl (lv_at hl 0 rfl) ?_
  refine va_get (D := D) (ci := 1) (v := .ref ((g 3) 7)) (C := RX1) (T := TX1) (N := 12) hx hb hts inX1 hown hE.1 hP 55 rfl rfl 6 (by decide) F38 (fun _ h9 => h9) rfl dX1_copyFrom_71 ?_
  refine wr_SN (rest := []) ⟨hx, hb, hml, hown, hts⟩ hP hE hA hD hS (c_X3_copyRow l D K _ _ 7 62 _ _ 4 _ _ rfl rfl (by decide)) (va_cnB (host := RX3) 2 hts gX1_copyFrom_X3_copyRow_n62 rfl rfl rfl hE.2.2.2.2.2.2.2.2.2.2.2.1 IniX3 hn_X3_copyRow ⟨Nat.le_of_ble_eq_true rfl, Nat.le_of_ble_eq_true rfl⟩) Sta_X3_copyRow rfl hl.1 rfl (Nat.le_of_ble_eq_true rfl) dX1_copyFrom_74 ⟨Nat.le_of_ble_eq_true rfl, Nat.le_of_ble_eq_true rfl⟩ (fun H locs hP hD hS => ?_)
  have hP : va_P D vwCl (townW K a T ++ (waysW K b len qu n ++ (textW K t cs ln ++ (m0 :: m1 :: (townW K (g 0) (Sv 0) ++ (townW K (g 1) (Sv 1) ++ (townW K (g 2) (Sv 2) ++ (townW K (g 3) (va_up (va_up (va_up (va_up (va_up (va_up (va_up (Sv 3) 0 (T 0)) 1 (T 1)) 2 (T 2)) 3 (T 3)) 4 (T 4)) 5 (T 5)) 6 (T 6)) ++ (townW K (g 4) (Sv 4) ++ (townW K (g 5) (Sv 5) ++ X)))))))))) H := hP
  have hD : va_D A (townW K a T ++ (waysW K b len qu n ++ (textW K t cs ln ++ (m0 :: m1 :: (townW K (g 0) (Sv 0) ++ (townW K (g 1) (Sv 1) ++ (townW K (g 2) (Sv 2) ++ (townW K (g 3) (va_up (va_up (va_up (va_up (va_up (va_up (va_up (Sv 3) 0 (T 0)) 1 (T 1)) 2 (T 2)) 3 (T 3)) 4 (T 4)) 5 (T 5)) 6 (T 6)) ++ (townW K (g 4) (Sv 4) ++ (townW K (g 5) (Sv 5) ++ X)))))))))) := hD
  refine lv_aload_n hx hb dX1_copyFrom_77 rfl (lv_at hl 1 rfl) ?_
  refine va_get (D := D) (ci := 1) (v := .ref (a 8)) (C := RX1) (T := TX1) (N := 12) hx hb hts inX1 hown hE.1 hP 0 rfl rfl 7 (by decide) F41 (fun _ h9 => h9) rfl dX1_copyFrom_78 ?_
  refine lv_aload_n hx hb dX1_copyFrom_81 rfl (lv_at hl 0 rfl) ?_
  refine va_get (D := D) (ci := 1) (v := .ref ((g 3) 8)) (C := RX1) (T := TX1) (N := 12) hx hb hts inX1 hown hE.1 hP 55 rfl rfl 7 (by decide) F41 (fun _ h9 => h9) rfl dX1_copyFrom_82 ?_
  refine wr_SN (rest := []) ⟨hx, hb, hml, hown, hts⟩ hP hE hA hD hS (c_X3_copyRow l D K _ _ 8 63 _ _ 4 _ _ rfl rfl (by decide)) (va_cnB (host := RX3) 2 hts gX1_copyFrom_X3_copyRow_n62 rfl rfl rfl hE.2.2.2.2.2.2.2.2.2.2.2.1 IniX3 hn_X3_copyRow ⟨Nat.le_of_ble_eq_true rfl, Nat.le_of_ble_eq_true rfl⟩) Sta_X3_copyRow rfl hl.1 rfl (Nat.le_of_ble_eq_true rfl) dX1_copyFrom_85 ⟨Nat.le_of_ble_eq_true rfl, Nat.le_of_ble_eq_true rfl⟩ (fun H locs hP hD hS => ?_)
  have hP : va_P D vwCl (townW K a T ++ (waysW K b len qu n ++ (textW K t cs ln ++ (m0 :: m1 :: (townW K (g 0) (Sv 0) ++ (townW K (g 1) (Sv 1) ++ (townW K (g 2) (Sv 2) ++ (townW K (g 3) (va_up (va_up (va_up (va_up (va_up (va_up (va_up (va_up (Sv 3) 0 (T 0)) 1 (T 1)) 2 (T 2)) 3 (T 3)) 4 (T 4)) 5 (T 5)) 6 (T 6)) 7 (T 7)) ++ (townW K (g 4) (Sv 4) ++ (townW K (g 5) (Sv 5) ++ X)))))))))) H := hP
  have hD : va_D A (townW K a T ++ (waysW K b len qu n ++ (textW K t cs ln ++ (m0 :: m1 :: (townW K (g 0) (Sv 0) ++ (townW K (g 1) (Sv 1) ++ (townW K (g 2) (Sv 2) ++ (townW K (g 3) (va_up (va_up (va_up (va_up (va_up (va_up (va_up (va_up (Sv 3) 0 (T 0)) 1 (T 1)) 2 (T 2)) 3 (T 3)) 4 (T 4)) 5 (T 5)) 6 (T 6)) 7 (T 7)) ++ (townW K (g 4) (Sv 4) ++ (townW K (g 5) (Sv 5) ++ X)))))))))) := hD
  refine lv_aload_n hx hb dX1_copyFrom_88 rfl (lv_at hl 1 rfl) ?_
  refine va_get (D := D) (ci := 1) (v := .ref (a 9)) (C := RX1) (T := TX1) (N := 12) hx hb hts inX1 hown hE.1 hP 0 rfl rfl 8 (by decide) F44 (fun _ h9 => h9) rfl dX1_copyFrom_89 ?_
  refine lv_aload_n hx hb dX1_copyFrom_92 rfl (lv_at hl 0 rfl) ?_
  refine va_get (D := D) (ci := 1) (v := .ref ((g 3) 9)) (C := RX1) (T := TX1) (N := 12) hx hb hts inX1 hown hE.1 hP 55 rfl rfl 8 (by decide) F44 (fun _ h9 => h9) rfl dX1_copyFrom_93 ?_
  refine wr_SN (rest := []) ⟨hx, hb, hml, hown, hts⟩ hP hE hA hD hS (c_X3_copyRow l D K _ _ 9 64 _ _ 4 _ _ rfl rfl (by decide)) (va_cnB (host := RX3) 2 hts gX1_copyFrom_X3_copyRow_n62 rfl rfl rfl hE.2.2.2.2.2.2.2.2.2.2.2.1 IniX3 hn_X3_copyRow ⟨Nat.le_of_ble_eq_true rfl, Nat.le_of_ble_eq_true rfl⟩) Sta_X3_copyRow rfl hl.1 rfl (Nat.le_of_ble_eq_true rfl) dX1_copyFrom_96 ⟨Nat.le_of_ble_eq_true rfl, Nat.le_of_ble_eq_true rfl⟩ (fun H locs hP hD hS => ?_)
  have hP : va_P D vwCl (townW K a T ++ (waysW K b len qu n ++ (textW K t cs ln ++ (m0 :: m1 :: (townW K (g 0) (Sv 0) ++ (townW K (g 1) (Sv 1) ++ (townW K (g 2) (Sv 2) ++ (townW K (g 3) (va_up (va_up (va_up (va_up (va_up (va_up (va_up (va_up (va_up (Sv 3) 0 (T 0)) 1 (T 1)) 2 (T 2)) 3 (T 3)) 4 (T 4)) 5 (T 5)) 6 (T 6)) 7 (T 7)) 8 (T 8)) ++ (townW K (g 4) (Sv 4) ++ (townW K (g 5) (Sv 5) ++ X)))))))))) H := hP
  have hD : va_D A (townW K a T ++ (waysW K b len qu n ++ (textW K t cs ln ++ (m0 :: m1 :: (townW K (g 0) (Sv 0) ++ (townW K (g 1) (Sv 1) ++ (townW K (g 2) (Sv 2) ++ (townW K (g 3) (va_up (va_up (va_up (va_up (va_up (va_up (va_up (va_up (va_up (Sv 3) 0 (T 0)) 1 (T 1)) 2 (T 2)) 3 (T 3)) 4 (T 4)) 5 (T 5)) 6 (T 6)) 7 (T 7)) 8 (T 8)) ++ (townW K (g 4) (Sv 4) ++ (townW K (g 5) (Sv 5) ++ X)))))))))) := hD
  refine lv_aload_n hx hb dX1_copyFrom_99 rfl (lv_at hl 1 rfl) ?_
  refine va_get (D := D) (ci := 1) (v := .ref (a 10)) (C := RX1) (T := TX1) (N := 12) hx hb hts inX1 hown hE.1 hP 0 rfl rfl 9 (by decide) F47 (fun _ h9 => h9) rfl dX1_copyFrom_100 ?_
  refine lv_aload_n hx hb dX1_copyFrom_103 rfl (lv_at hl 0 rfl) ?_
  refine va_get (D := D) (ci := 1) (v := .ref ((g 3) 10)) (C := RX1) (T := TX1) (N := 12) hx hb hts inX1 hown hE.1 hP 55 rfl rfl 9 (by decide) F47 (fun _ h9 => h9) rfl dX1_copyFrom_104 ?_
  refine wr_SN (rest := []) ⟨hx, hb, hml, hown, hts⟩ hP hE hA hD hS (c_X3_copyRow l D K _ _ 10 65 _ _ 4 _ _ rfl rfl (by decide)) (va_cnB (host := RX3) 2 hts gX1_copyFrom_X3_copyRow_n62 rfl rfl rfl hE.2.2.2.2.2.2.2.2.2.2.2.1 IniX3 hn_X3_copyRow ⟨Nat.le_of_ble_eq_true rfl, Nat.le_of_ble_eq_true rfl⟩) Sta_X3_copyRow rfl hl.1 rfl (Nat.le_of_ble_eq_true rfl) dX1_copyFrom_107 ⟨Nat.le_of_ble_eq_true rfl, Nat.le_of_ble_eq_true rfl⟩ (fun H locs hP hD hS => ?_)
  have hP : va_P D vwCl (townW K a T ++ (waysW K b len qu n ++ (textW K t cs ln ++ (m0 :: m1 :: (townW K (g 0) (Sv 0) ++ (townW K (g 1) (Sv 1) ++ (townW K (g 2) (Sv 2) ++ (townW K (g 3) (va_up (va_up (va_up (va_up (va_up (va_up (va_up (va_up (va_up (va_up (Sv 3) 0 (T 0)) 1 (T 1)) 2 (T 2)) 3 (T 3)) 4 (T 4)) 5 (T 5)) 6 (T 6)) 7 (T 7)) 8 (T 8)) 9 (T 9)) ++ (townW K (g 4) (Sv 4) ++ (townW K (g 5) (Sv 5) ++ X)))))))))) H := hP
  have hD : va_D A (townW K a T ++ (waysW K b len qu n ++ (textW K t cs ln ++ (m0 :: m1 :: (townW K (g 0) (Sv 0) ++ (townW K (g 1) (Sv 1) ++ (townW K (g 2) (Sv 2) ++ (townW K (g 3) (va_up (va_up (va_up (va_up (va_up (va_up (va_up (va_up (va_up (va_up (Sv 3) 0 (T 0)) 1 (T 1)) 2 (T 2)) 3 (T 3)) 4 (T 4)) 5 (T 5)) 6 (T 6)) 7 (T 7)) 8 (T 8)) 9 (T 9)) ++ (townW K (g 4) (Sv 4) ++ (townW K (g 5) (Sv 5) ++ X)))))))))) := hD
  refine lv_aload_n hx hb dX1_copyFrom_110 rfl (lv_at hl 1 rfl) ?_
  refine va_get (D := D) (ci := 1) (v := .ref (a 11)) (C := RX1) (T := TX1) (N := 12) hx hb hts inX1 hown hE.1 hP 0 rfl rfl 10 (by decide) F53 (fun _ h9 => h9) rfl dX1_copyFrom_111 ?_
  refine lv_aload_n hx hb dX1_copyFrom_114 rfl (lv_at hl 0 rfl) ?_
  refine va_get (D := D) (ci := 1) (v := .ref ((g 3) 11)) (C := RX1) (T := TX1) (N := 12) hx hb hts inX1 hown hE.1 hP 55 rfl rfl 10 (by decide) F53 (fun _ h9 => h9) rfl dX1_copyFrom_115 ?_
  refine wr_SN (rest := []) ⟨hx, hb, hml, hown, hts⟩ hP hE hA hD hS (c_X3_copyRow l D K _ _ 11 66 _ _ 3 _ _ rfl rfl (by decide)) (va_cnB (host := RX3) 2 hts gX1_copyFrom_X3_copyRow_n62 rfl rfl rfl hE.2.2.2.2.2.2.2.2.2.2.2.1 IniX3 hn_X3_copyRow ⟨Nat.le_of_ble_eq_true rfl, Nat.le_of_ble_eq_true rfl⟩) Sta_X3_copyRow rfl hl.1 rfl (Nat.le_of_ble_eq_true rfl) dX1_copyFrom_118 ⟨Nat.le_of_ble_eq_true rfl, Nat.le_of_ble_eq_true rfl⟩ (fun H locs hP hD hS => ?_)
  have hP : va_P D vwCl (townW K a T ++ (waysW K b len qu n ++ (textW K t cs ln ++ (m0 :: m1 :: (townW K (g 0) (Sv 0) ++ (townW K (g 1) (Sv 1) ++ (townW K (g 2) (Sv 2) ++ (townW K (g 3) (va_up (va_up (va_up (va_up (va_up (va_up (va_up (va_up (va_up (va_up (va_up (Sv 3) 0 (T 0)) 1 (T 1)) 2 (T 2)) 3 (T 3)) 4 (T 4)) 5 (T 5)) 6 (T 6)) 7 (T 7)) 8 (T 8)) 9 (T 9)) 10 (T 10)) ++ (townW K (g 4) (Sv 4) ++ (townW K (g 5) (Sv 5) ++ X)))))))))) H := hP
  have hD : va_D A (townW K a T ++ (waysW K b len qu n ++ (textW K t cs ln ++ (m0 :: m1 :: (townW K (g 0) (Sv 0) ++ (townW K (g 1) (Sv 1) ++ (townW K (g 2) (Sv 2) ++ (townW K (g 3) (va_up (va_up (va_up (va_up (va_up (va_up (va_up (va_up (va_up (va_up (va_up (Sv 3) 0 (T 0)) 1 (T 1)) 2 (T 2)) 3 (T 3)) 4 (T 4)) 5 (T 5)) 6 (T 6)) 7 (T 7)) 8 (T 8)) 9 (T 9)) 10 (T 10)) ++ (townW K (g 4) (Sv 4) ++ (townW K (g 5) (Sv 5) ++ X)))))))))) := hD
  refine lv_aload_n hx hb dX1_copyFrom_121 rfl (lv_at hl 0 rfl) ?_
  refine lv_aload_n hx hb dX1_copyFrom_122 rfl (lv_at hl 1 rfl) ?_
  refine va_get (D := D) (ci := 1) (v := .int (T 11 0)) (C := RX1) (T := TX1) (N := 12) hx hb hts inX1 hown hE.1 hP 0 rfl rfl 11 (by decide) F66 (fun _ h9 => h9) rfl dX1_copyFrom_123 ?_
  refine va_put (D := D) (ci := 1) (v := .int (T 11 0)) (ty := .int) (C := RX1) (T := TX1) (N := 12) hx hb hts inX1 tyX1 tyX1_ok nmX1 hown hE.1 hP hD hS 55 rfl rfl 11 (by decide) F66 (fun _ h9 => h9) rfl (by decide +kernel) rfl rfl (Nat.le_of_ble_eq_true rfl) dX1_copyFrom_126 (fun H locs hP hD hS => ?_)
  have hP : va_P D vwCl (townW K a T ++ (waysW K b len qu n ++ (textW K t cs ln ++ (m0 :: m1 :: (townW K (g 0) (Sv 0) ++ (townW K (g 1) (Sv 1) ++ (townW K (g 2) (Sv 2) ++ (townW K (g 3) (setT (va_up (va_up (va_up (va_up (va_up (va_up (va_up (va_up (va_up (va_up (va_up (Sv 3) 0 (T 0)) 1 (T 1)) 2 (T 2)) 3 (T 3)) 4 (T 4)) 5 (T 5)) 6 (T 6)) 7 (T 7)) 8 (T 8)) 9 (T 9)) 10 (T 10)) 11 0 (T 11 0)) ++ (townW K (g 4) (Sv 4) ++ (townW K (g 5) (Sv 5) ++ X)))))))))) H := hP
  have hD : va_D A (townW K a T ++ (waysW K b len qu n ++ (textW K t cs ln ++ (m0 :: m1 :: (townW K (g 0) (Sv 0) ++ (townW K (g 1) (Sv 1) ++ (townW K (g 2) (Sv 2) ++ (townW K (g 3) (setT (va_up (va_up (va_up (va_up (va_up (va_up (va_up (va_up (va_up (va_up (va_up (Sv 3) 0 (T 0)) 1 (T 1)) 2 (T 2)) 3 (T 3)) 4 (T 4)) 5 (T 5)) 6 (T 6)) 7 (T 7)) 8 (T 8)) 9 (T 9)) 10 (T 10)) 11 0 (T 11 0)) ++ (townW K (g 4) (Sv 4) ++ (townW K (g 5) (Sv 5) ++ X)))))))))) := hD
  have hP : va_P D vwCl (townW K a T ++ (waysW K b len qu n ++ (textW K t cs ln ++ (m0 :: m1 :: svW K g (va_up Sv 3 T) X)))) H := hP
  have hD : va_D A (townW K a T ++ (waysW K b len qu n ++ (textW K t cs ln ++ (m0 :: m1 :: svW K g (va_up Sv 3 T) X)))) := hD
  exact wr_vret hAe hP hD hS hx hb hr hk dX1_copyFrom_129 ⟨Nat.le_of_ble_eq_true rfl, Nat.le_of_ble_eq_true rfl⟩
set_option maxHeartbeats 4000000 in
set_option maxRecDepth 100000 in
theorem c_X1_copyFrom_s4 (l : Launch) (D : va_G) (K : Nat → ClassId) (sz : Nat) (a b t : Nat → Nat) (g : Nat → Nat → Nat) (T : TW) (X : va_W) (len : Nat → Option Nat) (qu : Nat → Nat) (n : Nat) (cs : Nat → Nat) (ln : Nat) (m0 m1 : Nat × va_E) (Sv : Nat → TW) : Wr l yX1_copyFrom wsX1_copyFrom ({ frames := 3, cells := 0, slots := 0, locals := 61 } : Room) D K (townW K a T ++ (waysW K b len qu n ++ (textW K t cs ln ++ (m0 :: m1 :: svW K g Sv X)))) sz [.ref ((g 4) 0), .ref (a 0)] (townW K a T ++ (waysW K b len qu n ++ (textW K t cs ln ++ (m0 :: m1 :: svW K g (va_up Sv 4 T) X)))) none 0 0 := by
  refine wr_intro (cc := cX1_copyFrom) (maxL := 2) (ret := none) (by decide) rfl (Nat.le_of_ble_eq_true rfl) ?_
  intro pr en st md ar bl mt co A hx hb hml hr hts hown hk hsz hAe hP hE hD hS hA hin ls hl
  have hown : st.vm.findClass RX1 = some md.cls := hown
  have hl : lv_has ls 2 [(0, .ref ((g 4) 0)), (1, .ref (a 0))] := hl
  obtain ⟨H, hH⟩ : ∃ z, z = st.heap := ⟨_, rfl⟩
  obtain ⟨locs, hlo⟩ : ∃ z : List Loc, z = [] := ⟨_, rfl⟩
  have hP : va_P D vwCl (townW K a T ++ (waysW K b len qu n ++ (textW K t cs ln ++ (m0 :: m1 :: svW K g Sv X)))) H := by rw [hH]; exact hP
  have hS : va_S A st.heap H locs := by rw [hH, hlo]; exact hS
  suffices go : W pr l en (headSpec wsX1_copyFrom ({ frames := 3, cells := 0, slots := 0, locals := 61 } : Room)).room st md ar bl mt co H locs 0 0 (MQ bl (wrQ D (townW K a T ++ (waysW K b len qu n ++ (textW K t cs ln ++ (m0 :: m1 :: svW K g Sv X)))) (townW K a T ++ (waysW K b len qu n ++ (textW K t cs ln ++ (m0 :: m1 :: svW K g (va_up Sv 4 T) X)))) sz none) ar st 0 0 A) (F0 md 0 ls []) by rw [hH, hlo] at go; exact go
  clear hH hlo
  have F9 : (Cond.fieldLink RX1 9 "TramTolls$Town" "houses" "[I").before ar st = true := hts _ (List.mem_of_getElem? (i := 1) rfl)
  have inX1 : ∀ w ∈ u_ws RX1 TX1 12, w ∈ wsX1_copyFrom := fun w h => List.mem_cons_of_mem _ (List.mem_append_right _ h)
  have IniX3 : (Cond.initialized RX3).before ar st = true := hts _ (List.mem_of_getElem? (i := 14) rfl)
  have Sta_X3_copyRow : (Cond.static yX3_copyRow).before ar st = true := hts _ (List.mem_of_getElem? (i := 13) rfl)
  have F15 : (Cond.fieldLink RX1 15 "TramTolls$Town" "trackMasks" "[I").before ar st = true := hts _ (List.mem_of_getElem? (i := 2) rfl)
  have F18 : (Cond.fieldLink RX1 18 "TramTolls$Town" "owners" "[I").before ar st = true := hts _ (List.mem_of_getElem? (i := 3) rfl)
  have F21 : (Cond.fieldLink RX1 21 "TramTolls$Town" "stopSquares" "[I").before ar st = true := hts _ (List.mem_of_getElem? (i := 4) rfl)
  have F24 : (Cond.fieldLink RX1 24 "TramTolls$Town" "stopPlayers" "[I").before ar st = true := hts _ (List.mem_of_getElem? (i := 5) rfl)
  have F27 : (Cond.fieldLink RX1 27 "TramTolls$Town" "coins" "[I").before ar st = true := hts _ (List.mem_of_getElem? (i := 6) rfl)
  have F38 : (Cond.fieldLink RX1 38 "TramTolls$Town" "heads" "[I").before ar st = true := hts _ (List.mem_of_getElem? (i := 7) rfl)
  have F41 : (Cond.fieldLink RX1 41 "TramTolls$Town" "lastDirections" "[I").before ar st = true := hts _ (List.mem_of_getElem? (i := 8) rfl)
  have F44 : (Cond.fieldLink RX1 44 "TramTolls$Town" "tollsPaid" "[I").before ar st = true := hts _ (List.mem_of_getElem? (i := 9) rfl)
  have F47 : (Cond.fieldLink RX1 47 "TramTolls$Town" "tollsGot" "[I").before ar st = true := hts _ (List.mem_of_getElem? (i := 10) rfl)
  have F53 : (Cond.fieldLink RX1 53 "TramTolls$Town" "settings" "[I").before ar st = true := hts _ (List.mem_of_getElem? (i := 11) rfl)
  have F66 : (Cond.fieldLink RX1 66 "TramTolls$Town" "piecesLaid" "I").before ar st = true := hts _ (List.mem_of_getElem? (i := 12) rfl)
  refine lv_aload_n hx hb dX1_copyFrom_0 rfl (lv_at hl 1 rfl) ?_
  refine va_get (D := D) (ci := 1) (v := .ref (a 1)) (C := RX1) (T := TX1) (N := 12) hx hb hts inX1 hown hE.1 hP 0 rfl rfl 0 (by decide) F9 (fun _ h9 => h9) rfl dX1_copyFrom_1 ?_
  refine lv_aload_n hx hb dX1_copyFrom_4 rfl (lv_at hl 0 rfl) ?_
  refine va_get (D := D) (ci := 1) (v := .ref ((g 4) 1)) (C := RX1) (T := TX1) (N := 12) hx hb hts inX1 hown hE.1 hP 67 rfl rfl 0 (by decide) F9 (fun _ h9 => h9) rfl dX1_copyFrom_5 ?_
  refine wr_SN (rest := []) ⟨hx, hb, hml, hown, hts⟩ hP hE hA hD hS (c_X3_copyRow l D K _ _ 1 68 _ _ 80 _ _ rfl rfl (by decide)) (va_cnB (host := RX3) 2 hts gX1_copyFrom_X3_copyRow_n62 rfl rfl rfl hE.2.2.2.2.2.2.2.2.2.2.2.1 IniX3 hn_X3_copyRow ⟨Nat.le_of_ble_eq_true rfl, Nat.le_of_ble_eq_true rfl⟩) Sta_X3_copyRow rfl hl.1 rfl (Nat.le_of_ble_eq_true rfl) dX1_copyFrom_8 ⟨Nat.le_of_ble_eq_true rfl, Nat.le_of_ble_eq_true rfl⟩ (fun H locs hP hD hS => ?_)
  have hP : va_P D vwCl (townW K a T ++ (waysW K b len qu n ++ (textW K t cs ln ++ (m0 :: m1 :: (townW K (g 0) (Sv 0) ++ (townW K (g 1) (Sv 1) ++ (townW K (g 2) (Sv 2) ++ (townW K (g 3) (Sv 3) ++ (townW K (g 4) (va_up (Sv 4) 0 (T 0)) ++ (townW K (g 5) (Sv 5) ++ X)))))))))) H := hP
  have hD : va_D A (townW K a T ++ (waysW K b len qu n ++ (textW K t cs ln ++ (m0 :: m1 :: (townW K (g 0) (Sv 0) ++ (townW K (g 1) (Sv 1) ++ (townW K (g 2) (Sv 2) ++ (townW K (g 3) (Sv 3) ++ (townW K (g 4) (va_up (Sv 4) 0 (T 0)) ++ (townW K (g 5) (Sv 5) ++ X)))))))))) := hD
  refine lv_aload_n hx hb dX1_copyFrom_11 rfl (lv_at hl 1 rfl) ?_
  refine va_get (D := D) (ci := 1) (v := .ref (a 2)) (C := RX1) (T := TX1) (N := 12) hx hb hts inX1 hown hE.1 hP 0 rfl rfl 1 (by decide) F15 (fun _ h9 => h9) rfl dX1_copyFrom_12 ?_
  refine lv_aload_n hx hb dX1_copyFrom_15 rfl (lv_at hl 0 rfl) ?_
  refine va_get (D := D) (ci := 1) (v := .ref ((g 4) 2)) (C := RX1) (T := TX1) (N := 12) hx hb hts inX1 hown hE.1 hP 67 rfl rfl 1 (by decide) F15 (fun _ h9 => h9) rfl dX1_copyFrom_16 ?_
  refine wr_SN (rest := []) ⟨hx, hb, hml, hown, hts⟩ hP hE hA hD hS (c_X3_copyRow l D K _ _ 2 69 _ _ 80 _ _ rfl rfl (by decide)) (va_cnB (host := RX3) 2 hts gX1_copyFrom_X3_copyRow_n62 rfl rfl rfl hE.2.2.2.2.2.2.2.2.2.2.2.1 IniX3 hn_X3_copyRow ⟨Nat.le_of_ble_eq_true rfl, Nat.le_of_ble_eq_true rfl⟩) Sta_X3_copyRow rfl hl.1 rfl (Nat.le_of_ble_eq_true rfl) dX1_copyFrom_19 ⟨Nat.le_of_ble_eq_true rfl, Nat.le_of_ble_eq_true rfl⟩ (fun H locs hP hD hS => ?_)
  have hP : va_P D vwCl (townW K a T ++ (waysW K b len qu n ++ (textW K t cs ln ++ (m0 :: m1 :: (townW K (g 0) (Sv 0) ++ (townW K (g 1) (Sv 1) ++ (townW K (g 2) (Sv 2) ++ (townW K (g 3) (Sv 3) ++ (townW K (g 4) (va_up (va_up (Sv 4) 0 (T 0)) 1 (T 1)) ++ (townW K (g 5) (Sv 5) ++ X)))))))))) H := hP
  have hD : va_D A (townW K a T ++ (waysW K b len qu n ++ (textW K t cs ln ++ (m0 :: m1 :: (townW K (g 0) (Sv 0) ++ (townW K (g 1) (Sv 1) ++ (townW K (g 2) (Sv 2) ++ (townW K (g 3) (Sv 3) ++ (townW K (g 4) (va_up (va_up (Sv 4) 0 (T 0)) 1 (T 1)) ++ (townW K (g 5) (Sv 5) ++ X)))))))))) := hD
  refine lv_aload_n hx hb dX1_copyFrom_22 rfl (lv_at hl 1 rfl) ?_
  refine va_get (D := D) (ci := 1) (v := .ref (a 3)) (C := RX1) (T := TX1) (N := 12) hx hb hts inX1 hown hE.1 hP 0 rfl rfl 2 (by decide) F18 (fun _ h9 => h9) rfl dX1_copyFrom_23 ?_
  refine lv_aload_n hx hb dX1_copyFrom_26 rfl (lv_at hl 0 rfl) ?_
  refine va_get (D := D) (ci := 1) (v := .ref ((g 4) 3)) (C := RX1) (T := TX1) (N := 12) hx hb hts inX1 hown hE.1 hP 67 rfl rfl 2 (by decide) F18 (fun _ h9 => h9) rfl dX1_copyFrom_27 ?_
  refine wr_SN (rest := []) ⟨hx, hb, hml, hown, hts⟩ hP hE hA hD hS (c_X3_copyRow l D K _ _ 3 70 _ _ 80 _ _ rfl rfl (by decide)) (va_cnB (host := RX3) 2 hts gX1_copyFrom_X3_copyRow_n62 rfl rfl rfl hE.2.2.2.2.2.2.2.2.2.2.2.1 IniX3 hn_X3_copyRow ⟨Nat.le_of_ble_eq_true rfl, Nat.le_of_ble_eq_true rfl⟩) Sta_X3_copyRow rfl hl.1 rfl (Nat.le_of_ble_eq_true rfl) dX1_copyFrom_30 ⟨Nat.le_of_ble_eq_true rfl, Nat.le_of_ble_eq_true rfl⟩ (fun H locs hP hD hS => ?_)
  have hP : va_P D vwCl (townW K a T ++ (waysW K b len qu n ++ (textW K t cs ln ++ (m0 :: m1 :: (townW K (g 0) (Sv 0) ++ (townW K (g 1) (Sv 1) ++ (townW K (g 2) (Sv 2) ++ (townW K (g 3) (Sv 3) ++ (townW K (g 4) (va_up (va_up (va_up (Sv 4) 0 (T 0)) 1 (T 1)) 2 (T 2)) ++ (townW K (g 5) (Sv 5) ++ X)))))))))) H := hP
  have hD : va_D A (townW K a T ++ (waysW K b len qu n ++ (textW K t cs ln ++ (m0 :: m1 :: (townW K (g 0) (Sv 0) ++ (townW K (g 1) (Sv 1) ++ (townW K (g 2) (Sv 2) ++ (townW K (g 3) (Sv 3) ++ (townW K (g 4) (va_up (va_up (va_up (Sv 4) 0 (T 0)) 1 (T 1)) 2 (T 2)) ++ (townW K (g 5) (Sv 5) ++ X)))))))))) := hD
  refine lv_aload_n hx hb dX1_copyFrom_33 rfl (lv_at hl 1 rfl) ?_
  refine va_get (D := D) (ci := 1) (v := .ref (a 4)) (C := RX1) (T := TX1) (N := 12) hx hb hts inX1 hown hE.1 hP 0 rfl rfl 3 (by decide) F21 (fun _ h9 => h9) rfl dX1_copyFrom_34 ?_
  refine lv_aload_n hx hb dX1_copyFrom_37 rfl (lv_at hl 0 rfl) ?_
  refine va_get (D := D) (ci := 1) (v := .ref ((g 4) 4)) (C := RX1) (T := TX1) (N := 12) hx hb hts inX1 hown hE.1 hP 67 rfl rfl 3 (by decide) F21 (fun _ h9 => h9) rfl dX1_copyFrom_38 ?_
  refine wr_SN (rest := []) ⟨hx, hb, hml, hown, hts⟩ hP hE hA hD hS (c_X3_copyRow l D K _ _ 4 71 _ _ 12 _ _ rfl rfl (by decide)) (va_cnB (host := RX3) 2 hts gX1_copyFrom_X3_copyRow_n62 rfl rfl rfl hE.2.2.2.2.2.2.2.2.2.2.2.1 IniX3 hn_X3_copyRow ⟨Nat.le_of_ble_eq_true rfl, Nat.le_of_ble_eq_true rfl⟩) Sta_X3_copyRow rfl hl.1 rfl (Nat.le_of_ble_eq_true rfl) dX1_copyFrom_41 ⟨Nat.le_of_ble_eq_true rfl, Nat.le_of_ble_eq_true rfl⟩ (fun H locs hP hD hS => ?_)
  have hP : va_P D vwCl (townW K a T ++ (waysW K b len qu n ++ (textW K t cs ln ++ (m0 :: m1 :: (townW K (g 0) (Sv 0) ++ (townW K (g 1) (Sv 1) ++ (townW K (g 2) (Sv 2) ++ (townW K (g 3) (Sv 3) ++ (townW K (g 4) (va_up (va_up (va_up (va_up (Sv 4) 0 (T 0)) 1 (T 1)) 2 (T 2)) 3 (T 3)) ++ (townW K (g 5) (Sv 5) ++ X)))))))))) H := hP
  have hD : va_D A (townW K a T ++ (waysW K b len qu n ++ (textW K t cs ln ++ (m0 :: m1 :: (townW K (g 0) (Sv 0) ++ (townW K (g 1) (Sv 1) ++ (townW K (g 2) (Sv 2) ++ (townW K (g 3) (Sv 3) ++ (townW K (g 4) (va_up (va_up (va_up (va_up (Sv 4) 0 (T 0)) 1 (T 1)) 2 (T 2)) 3 (T 3)) ++ (townW K (g 5) (Sv 5) ++ X)))))))))) := hD
  refine lv_aload_n hx hb dX1_copyFrom_44 rfl (lv_at hl 1 rfl) ?_
  refine va_get (D := D) (ci := 1) (v := .ref (a 5)) (C := RX1) (T := TX1) (N := 12) hx hb hts inX1 hown hE.1 hP 0 rfl rfl 4 (by decide) F24 (fun _ h9 => h9) rfl dX1_copyFrom_45 ?_
  refine lv_aload_n hx hb dX1_copyFrom_48 rfl (lv_at hl 0 rfl) ?_
  refine va_get (D := D) (ci := 1) (v := .ref ((g 4) 5)) (C := RX1) (T := TX1) (N := 12) hx hb hts inX1 hown hE.1 hP 67 rfl rfl 4 (by decide) F24 (fun _ h9 => h9) rfl dX1_copyFrom_49 ?_
  refine wr_SN (rest := []) ⟨hx, hb, hml, hown, hts⟩ hP hE hA hD hS (c_X3_copyRow l D K _ _ 5 72 _ _ 12 _ _ rfl rfl (by decide)) (va_cnB (host := RX3) 2 hts gX1_copyFrom_X3_copyRow_n62 rfl rfl rfl hE.2.2.2.2.2.2.2.2.2.2.2.1 IniX3 hn_X3_copyRow ⟨Nat.le_of_ble_eq_true rfl, Nat.le_of_ble_eq_true rfl⟩) Sta_X3_copyRow rfl hl.1 rfl (Nat.le_of_ble_eq_true rfl) dX1_copyFrom_52 ⟨Nat.le_of_ble_eq_true rfl, Nat.le_of_ble_eq_true rfl⟩ (fun H locs hP hD hS => ?_)
  have hP : va_P D vwCl (townW K a T ++ (waysW K b len qu n ++ (textW K t cs ln ++ (m0 :: m1 :: (townW K (g 0) (Sv 0) ++ (townW K (g 1) (Sv 1) ++ (townW K (g 2) (Sv 2) ++ (townW K (g 3) (Sv 3) ++ (townW K (g 4) (va_up (va_up (va_up (va_up (va_up (Sv 4) 0 (T 0)) 1 (T 1)) 2 (T 2)) 3 (T 3)) 4 (T 4)) ++ (townW K (g 5) (Sv 5) ++ X)))))))))) H := hP
  have hD : va_D A (townW K a T ++ (waysW K b len qu n ++ (textW K t cs ln ++ (m0 :: m1 :: (townW K (g 0) (Sv 0) ++ (townW K (g 1) (Sv 1) ++ (townW K (g 2) (Sv 2) ++ (townW K (g 3) (Sv 3) ++ (townW K (g 4) (va_up (va_up (va_up (va_up (va_up (Sv 4) 0 (T 0)) 1 (T 1)) 2 (T 2)) 3 (T 3)) 4 (T 4)) ++ (townW K (g 5) (Sv 5) ++ X)))))))))) := hD
  refine lv_aload_n hx hb dX1_copyFrom_55 rfl (lv_at hl 1 rfl) ?_
  refine va_get (D := D) (ci := 1) (v := .ref (a 6)) (C := RX1) (T := TX1) (N := 12) hx hb hts inX1 hown hE.1 hP 0 rfl rfl 5 (by decide) F27 (fun _ h9 => h9) rfl dX1_copyFrom_56 ?_
  refine lv_aload_n hx hb dX1_copyFrom_59 rfl (lv_at hl 0 rfl) ?_
  refine va_get (D := D) (ci := 1) (v := .ref ((g 4) 6)) (C := RX1) (T := TX1) (N := 12) hx hb hts inX1 hown hE.1 hP 67 rfl rfl 5 (by decide) F27 (fun _ h9 => h9) rfl dX1_copyFrom_60 ?_
  refine wr_SN (rest := []) ⟨hx, hb, hml, hown, hts⟩ hP hE hA hD hS (c_X3_copyRow l D K _ _ 6 73 _ _ 4 _ _ rfl rfl (by decide)) (va_cnB (host := RX3) 2 hts gX1_copyFrom_X3_copyRow_n62 rfl rfl rfl hE.2.2.2.2.2.2.2.2.2.2.2.1 IniX3 hn_X3_copyRow ⟨Nat.le_of_ble_eq_true rfl, Nat.le_of_ble_eq_true rfl⟩) Sta_X3_copyRow rfl hl.1 rfl (Nat.le_of_ble_eq_true rfl) dX1_copyFrom_63 ⟨Nat.le_of_ble_eq_true rfl, Nat.le_of_ble_eq_true rfl⟩ (fun H locs hP hD hS => ?_)
  have hP : va_P D vwCl (townW K a T ++ (waysW K b len qu n ++ (textW K t cs ln ++ (m0 :: m1 :: (townW K (g 0) (Sv 0) ++ (townW K (g 1) (Sv 1) ++ (townW K (g 2) (Sv 2) ++ (townW K (g 3) (Sv 3) ++ (townW K (g 4) (va_up (va_up (va_up (va_up (va_up (va_up (Sv 4) 0 (T 0)) 1 (T 1)) 2 (T 2)) 3 (T 3)) 4 (T 4)) 5 (T 5)) ++ (townW K (g 5) (Sv 5) ++ X)))))))))) H := hP
  have hD : va_D A (townW K a T ++ (waysW K b len qu n ++ (textW K t cs ln ++ (m0 :: m1 :: (townW K (g 0) (Sv 0) ++ (townW K (g 1) (Sv 1) ++ (townW K (g 2) (Sv 2) ++ (townW K (g 3) (Sv 3) ++ (townW K (g 4) (va_up (va_up (va_up (va_up (va_up (va_up (Sv 4) 0 (T 0)) 1 (T 1)) 2 (T 2)) 3 (T 3)) 4 (T 4)) 5 (T 5)) ++ (townW K (g 5) (Sv 5) ++ X)))))))))) := hD
  refine lv_aload_n hx hb dX1_copyFrom_66 rfl (lv_at hl 1 rfl) ?_
  refine va_get (D := D) (ci := 1) (v := .ref (a 7)) (C := RX1) (T := TX1) (N := 12) hx hb hts inX1 hown hE.1 hP 0 rfl rfl 6 (by decide) F38 (fun _ h9 => h9) rfl dX1_copyFrom_67 ?_
  refine lv_aload_n hx hb dX1_copyFrom_70 rfl (lv_at hl 0 rfl) ?_
  refine va_get (D := D) (ci := 1) (v := .ref ((g 4) 7)) (C := RX1) (T := TX1) (N := 12) hx hb hts inX1 hown hE.1 hP 67 rfl rfl 6 (by decide) F38 (fun _ h9 => h9) rfl dX1_copyFrom_71 ?_
  refine wr_SN (rest := []) ⟨hx, hb, hml, hown, hts⟩ hP hE hA hD hS (c_X3_copyRow l D K _ _ 7 74 _ _ 4 _ _ rfl rfl (by decide)) (va_cnB (host := RX3) 2 hts gX1_copyFrom_X3_copyRow_n62 rfl rfl rfl hE.2.2.2.2.2.2.2.2.2.2.2.1 IniX3 hn_X3_copyRow ⟨Nat.le_of_ble_eq_true rfl, Nat.le_of_ble_eq_true rfl⟩) Sta_X3_copyRow rfl hl.1 rfl (Nat.le_of_ble_eq_true rfl) dX1_copyFrom_74 ⟨Nat.le_of_ble_eq_true rfl, Nat.le_of_ble_eq_true rfl⟩ (fun H locs hP hD hS => ?_)
  have hP : va_P D vwCl (townW K a T ++ (waysW K b len qu n ++ (textW K t cs ln ++ (m0 :: m1 :: (townW K (g 0) (Sv 0) ++ (townW K (g 1) (Sv 1) ++ (townW K (g 2) (Sv 2) ++ (townW K (g 3) (Sv 3) ++ (townW K (g 4) (va_up (va_up (va_up (va_up (va_up (va_up (va_up (Sv 4) 0 (T 0)) 1 (T 1)) 2 (T 2)) 3 (T 3)) 4 (T 4)) 5 (T 5)) 6 (T 6)) ++ (townW K (g 5) (Sv 5) ++ X)))))))))) H := hP
  have hD : va_D A (townW K a T ++ (waysW K b len qu n ++ (textW K t cs ln ++ (m0 :: m1 :: (townW K (g 0) (Sv 0) ++ (townW K (g 1) (Sv 1) ++ (townW K (g 2) (Sv 2) ++ (townW K (g 3) (Sv 3) ++ (townW K (g 4) (va_up (va_up (va_up (va_up (va_up (va_up (va_up (Sv 4) 0 (T 0)) 1 (T 1)) 2 (T 2)) 3 (T 3)) 4 (T 4)) 5 (T 5)) 6 (T 6)) ++ (townW K (g 5) (Sv 5) ++ X)))))))))) := hD
  refine lv_aload_n hx hb dX1_copyFrom_77 rfl (lv_at hl 1 rfl) ?_
  refine va_get (D := D) (ci := 1) (v := .ref (a 8)) (C := RX1) (T := TX1) (N := 12) hx hb hts inX1 hown hE.1 hP 0 rfl rfl 7 (by decide) F41 (fun _ h9 => h9) rfl dX1_copyFrom_78 ?_
  refine lv_aload_n hx hb dX1_copyFrom_81 rfl (lv_at hl 0 rfl) ?_
  refine va_get (D := D) (ci := 1) (v := .ref ((g 4) 8)) (C := RX1) (T := TX1) (N := 12) hx hb hts inX1 hown hE.1 hP 67 rfl rfl 7 (by decide) F41 (fun _ h9 => h9) rfl dX1_copyFrom_82 ?_
  refine wr_SN (rest := []) ⟨hx, hb, hml, hown, hts⟩ hP hE hA hD hS (c_X3_copyRow l D K _ _ 8 75 _ _ 4 _ _ rfl rfl (by decide)) (va_cnB (host := RX3) 2 hts gX1_copyFrom_X3_copyRow_n62 rfl rfl rfl hE.2.2.2.2.2.2.2.2.2.2.2.1 IniX3 hn_X3_copyRow ⟨Nat.le_of_ble_eq_true rfl, Nat.le_of_ble_eq_true rfl⟩) Sta_X3_copyRow rfl hl.1 rfl (Nat.le_of_ble_eq_true rfl) dX1_copyFrom_85 ⟨Nat.le_of_ble_eq_true rfl, Nat.le_of_ble_eq_true rfl⟩ (fun H locs hP hD hS => ?_)
  have hP : va_P D vwCl (townW K a T ++ (waysW K b len qu n ++ (textW K t cs ln ++ (m0 :: m1 :: (townW K (g 0) (Sv 0) ++ (townW K (g 1) (Sv 1) ++ (townW K (g 2) (Sv 2) ++ (townW K (g 3) (Sv 3) ++ (townW K (g 4) (va_up (va_up (va_up (va_up (va_up (va_up (va_up (va_up (Sv 4) 0 (T 0)) 1 (T 1)) 2 (T 2)) 3 (T 3)) 4 (T 4)) 5 (T 5)) 6 (T 6)) 7 (T 7)) ++ (townW K (g 5) (Sv 5) ++ X)))))))))) H := hP
  have hD : va_D A (townW K a T ++ (waysW K b len qu n ++ (textW K t cs ln ++ (m0 :: m1 :: (townW K (g 0) (Sv 0) ++ (townW K (g 1) (Sv 1) ++ (townW K (g 2) (Sv 2) ++ (townW K (g 3) (Sv 3) ++ (townW K (g 4) (va_up (va_up (va_up (va_up (va_up (va_up (va_up (va_up (Sv 4) 0 (T 0)) 1 (T 1)) 2 (T 2)) 3 (T 3)) 4 (T 4)) 5 (T 5)) 6 (T 6)) 7 (T 7)) ++ (townW K (g 5) (Sv 5) ++ X)))))))))) := hD
  refine lv_aload_n hx hb dX1_copyFrom_88 rfl (lv_at hl 1 rfl) ?_
  refine va_get (D := D) (ci := 1) (v := .ref (a 9)) (C := RX1) (T := TX1) (N := 12) hx hb hts inX1 hown hE.1 hP 0 rfl rfl 8 (by decide) F44 (fun _ h9 => h9) rfl dX1_copyFrom_89 ?_
  refine lv_aload_n hx hb dX1_copyFrom_92 rfl (lv_at hl 0 rfl) ?_
  refine va_get (D := D) (ci := 1) (v := .ref ((g 4) 9)) (C := RX1) (T := TX1) (N := 12) hx hb hts inX1 hown hE.1 hP 67 rfl rfl 8 (by decide) F44 (fun _ h9 => h9) rfl dX1_copyFrom_93 ?_
  refine wr_SN (rest := []) ⟨hx, hb, hml, hown, hts⟩ hP hE hA hD hS (c_X3_copyRow l D K _ _ 9 76 _ _ 4 _ _ rfl rfl (by decide)) (va_cnB (host := RX3) 2 hts gX1_copyFrom_X3_copyRow_n62 rfl rfl rfl hE.2.2.2.2.2.2.2.2.2.2.2.1 IniX3 hn_X3_copyRow ⟨Nat.le_of_ble_eq_true rfl, Nat.le_of_ble_eq_true rfl⟩) Sta_X3_copyRow rfl hl.1 rfl (Nat.le_of_ble_eq_true rfl) dX1_copyFrom_96 ⟨Nat.le_of_ble_eq_true rfl, Nat.le_of_ble_eq_true rfl⟩ (fun H locs hP hD hS => ?_)
  have hP : va_P D vwCl (townW K a T ++ (waysW K b len qu n ++ (textW K t cs ln ++ (m0 :: m1 :: (townW K (g 0) (Sv 0) ++ (townW K (g 1) (Sv 1) ++ (townW K (g 2) (Sv 2) ++ (townW K (g 3) (Sv 3) ++ (townW K (g 4) (va_up (va_up (va_up (va_up (va_up (va_up (va_up (va_up (va_up (Sv 4) 0 (T 0)) 1 (T 1)) 2 (T 2)) 3 (T 3)) 4 (T 4)) 5 (T 5)) 6 (T 6)) 7 (T 7)) 8 (T 8)) ++ (townW K (g 5) (Sv 5) ++ X)))))))))) H := hP
  have hD : va_D A (townW K a T ++ (waysW K b len qu n ++ (textW K t cs ln ++ (m0 :: m1 :: (townW K (g 0) (Sv 0) ++ (townW K (g 1) (Sv 1) ++ (townW K (g 2) (Sv 2) ++ (townW K (g 3) (Sv 3) ++ (townW K (g 4) (va_up (va_up (va_up (va_up (va_up (va_up (va_up (va_up (va_up (Sv 4) 0 (T 0)) 1 (T 1)) 2 (T 2)) 3 (T 3)) 4 (T 4)) 5 (T 5)) 6 (T 6)) 7 (T 7)) 8 (T 8)) ++ (townW K (g 5) (Sv 5) ++ X)))))))))) := hD
  refine lv_aload_n hx hb dX1_copyFrom_99 rfl (lv_at hl 1 rfl) ?_
  refine va_get (D := D) (ci := 1) (v := .ref (a 10)) (C := RX1) (T := TX1) (N := 12) hx hb hts inX1 hown hE.1 hP 0 rfl rfl 9 (by decide) F47 (fun _ h9 => h9) rfl dX1_copyFrom_100 ?_
  refine lv_aload_n hx hb dX1_copyFrom_103 rfl (lv_at hl 0 rfl) ?_
  refine va_get (D := D) (ci := 1) (v := .ref ((g 4) 10)) (C := RX1) (T := TX1) (N := 12) hx hb hts inX1 hown hE.1 hP 67 rfl rfl 9 (by decide) F47 (fun _ h9 => h9) rfl dX1_copyFrom_104 ?_
  refine wr_SN (rest := []) ⟨hx, hb, hml, hown, hts⟩ hP hE hA hD hS (c_X3_copyRow l D K _ _ 10 77 _ _ 4 _ _ rfl rfl (by decide)) (va_cnB (host := RX3) 2 hts gX1_copyFrom_X3_copyRow_n62 rfl rfl rfl hE.2.2.2.2.2.2.2.2.2.2.2.1 IniX3 hn_X3_copyRow ⟨Nat.le_of_ble_eq_true rfl, Nat.le_of_ble_eq_true rfl⟩) Sta_X3_copyRow rfl hl.1 rfl (Nat.le_of_ble_eq_true rfl) dX1_copyFrom_107 ⟨Nat.le_of_ble_eq_true rfl, Nat.le_of_ble_eq_true rfl⟩ (fun H locs hP hD hS => ?_)
  have hP : va_P D vwCl (townW K a T ++ (waysW K b len qu n ++ (textW K t cs ln ++ (m0 :: m1 :: (townW K (g 0) (Sv 0) ++ (townW K (g 1) (Sv 1) ++ (townW K (g 2) (Sv 2) ++ (townW K (g 3) (Sv 3) ++ (townW K (g 4) (va_up (va_up (va_up (va_up (va_up (va_up (va_up (va_up (va_up (va_up (Sv 4) 0 (T 0)) 1 (T 1)) 2 (T 2)) 3 (T 3)) 4 (T 4)) 5 (T 5)) 6 (T 6)) 7 (T 7)) 8 (T 8)) 9 (T 9)) ++ (townW K (g 5) (Sv 5) ++ X)))))))))) H := hP
  have hD : va_D A (townW K a T ++ (waysW K b len qu n ++ (textW K t cs ln ++ (m0 :: m1 :: (townW K (g 0) (Sv 0) ++ (townW K (g 1) (Sv 1) ++ (townW K (g 2) (Sv 2) ++ (townW K (g 3) (Sv 3) ++ (townW K (g 4) (va_up (va_up (va_up (va_up (va_up (va_up (va_up (va_up (va_up (va_up (Sv 4) 0 (T 0)) 1 (T 1)) 2 (T 2)) 3 (T 3)) 4 (T 4)) 5 (T 5)) 6 (T 6)) 7 (T 7)) 8 (T 8)) 9 (T 9)) ++ (townW K (g 5) (Sv 5) ++ X)))))))))) := hD
  refine lv_aload_n hx hb dX1_copyFrom_110 rfl (lv_at hl 1 rfl) ?_
  refine va_get (D := D) (ci := 1) (v := .ref (a 11)) (C := RX1) (T := TX1) (N := 12) hx hb hts inX1 hown hE.1 hP 0 rfl rfl 10 (by decide) F53 (fun _ h9 => h9) rfl dX1_copyFrom_111 ?_
  refine lv_aload_n hx hb dX1_copyFrom_114 rfl (lv_at hl 0 rfl) ?_
  refine va_get (D := D) (ci := 1) (v := .ref ((g 4) 11)) (C := RX1) (T := TX1) (N := 12) hx hb hts inX1 hown hE.1 hP 67 rfl rfl 10 (by decide) F53 (fun _ h9 => h9) rfl dX1_copyFrom_115 ?_
  refine wr_SN (rest := []) ⟨hx, hb, hml, hown, hts⟩ hP hE hA hD hS (c_X3_copyRow l D K _ _ 11 78 _ _ 3 _ _ rfl rfl (by decide)) (va_cnB (host := RX3) 2 hts gX1_copyFrom_X3_copyRow_n62 rfl rfl rfl hE.2.2.2.2.2.2.2.2.2.2.2.1 IniX3 hn_X3_copyRow ⟨Nat.le_of_ble_eq_true rfl, Nat.le_of_ble_eq_true rfl⟩) Sta_X3_copyRow rfl hl.1 rfl (Nat.le_of_ble_eq_true rfl) dX1_copyFrom_118 ⟨Nat.le_of_ble_eq_true rfl, Nat.le_of_ble_eq_true rfl⟩ (fun H locs hP hD hS => ?_)
  have hP : va_P D vwCl (townW K a T ++ (waysW K b len qu n ++ (textW K t cs ln ++ (m0 :: m1 :: (townW K (g 0) (Sv 0) ++ (townW K (g 1) (Sv 1) ++ (townW K (g 2) (Sv 2) ++ (townW K (g 3) (Sv 3) ++ (townW K (g 4) (va_up (va_up (va_up (va_up (va_up (va_up (va_up (va_up (va_up (va_up (va_up (Sv 4) 0 (T 0)) 1 (T 1)) 2 (T 2)) 3 (T 3)) 4 (T 4)) 5 (T 5)) 6 (T 6)) 7 (T 7)) 8 (T 8)) 9 (T 9)) 10 (T 10)) ++ (townW K (g 5) (Sv 5) ++ X)))))))))) H := hP
  have hD : va_D A (townW K a T ++ (waysW K b len qu n ++ (textW K t cs ln ++ (m0 :: m1 :: (townW K (g 0) (Sv 0) ++ (townW K (g 1) (Sv 1) ++ (townW K (g 2) (Sv 2) ++ (townW K (g 3) (Sv 3) ++ (townW K (g 4) (va_up (va_up (va_up (va_up (va_up (va_up (va_up (va_up (va_up (va_up (va_up (Sv 4) 0 (T 0)) 1 (T 1)) 2 (T 2)) 3 (T 3)) 4 (T 4)) 5 (T 5)) 6 (T 6)) 7 (T 7)) 8 (T 8)) 9 (T 9)) 10 (T 10)) ++ (townW K (g 5) (Sv 5) ++ X)))))))))) := hD
  refine lv_aload_n hx hb dX1_copyFrom_121 rfl (lv_at hl 0 rfl) ?_
  refine lv_aload_n hx hb dX1_copyFrom_122 rfl (lv_at hl 1 rfl) ?_
  refine va_get (D := D) (ci := 1) (v := .int (T 11 0)) (C := RX1) (T := TX1) (N := 12) hx hb hts inX1 hown hE.1 hP 0 rfl rfl 11 (by decide) F66 (fun _ h9 => h9) rfl dX1_copyFrom_123 ?_
  refine va_put (D := D) (ci := 1) (v := .int (T 11 0)) (ty := .int) (C := RX1) (T := TX1) (N := 12) hx hb hts inX1 tyX1 tyX1_ok nmX1 hown hE.1 hP hD hS 67 rfl rfl 11 (by decide) F66 (fun _ h9 => h9) rfl (by decide +kernel) rfl rfl (Nat.le_of_ble_eq_true rfl) dX1_copyFrom_126 (fun H locs hP hD hS => ?_)
  have hP : va_P D vwCl (townW K a T ++ (waysW K b len qu n ++ (textW K t cs ln ++ (m0 :: m1 :: (townW K (g 0) (Sv 0) ++ (townW K (g 1) (Sv 1) ++ (townW K (g 2) (Sv 2) ++ (townW K (g 3) (Sv 3) ++ (townW K (g 4) (setT (va_up (va_up (va_up (va_up (va_up (va_up (va_up (va_up (va_up (va_up (va_up (Sv 4) 0 (T 0)) 1 (T 1)) 2 (T 2)) 3 (T 3)) 4 (T 4)) 5 (T 5)) 6 (T 6)) 7 (T 7)) 8 (T 8)) 9 (T 9)) 10 (T 10)) 11 0 (T 11 0)) ++ (townW K (g 5) (Sv 5) ++ X)))))))))) H := hP
  have hD : va_D A (townW K a T ++ (waysW K b len qu n ++ (textW K t cs ln ++ (m0 :: m1 :: (townW K (g 0) (Sv 0) ++ (townW K (g 1) (Sv 1) ++ (townW K (g 2) (Sv 2) ++ (townW K (g 3) (Sv 3) ++ (townW K (g 4) (setT (va_up (va_up (va_up (va_up (va_up (va_up (va_up (va_up (va_up (va_up (va_up (Sv 4) 0 (T 0)) 1 (T 1)) 2 (T 2)) 3 (T 3)) 4 (T 4)) 5 (T 5)) 6 (T 6)) 7 (T 7)) 8 (T 8)) 9 (T 9)) 10 (T 10)) 11 0 (T 11 0)) ++ (townW K (g 5) (Sv 5) ++ X)))))))))) := hD
  have hP : va_P D vwCl (townW K a T ++ (waysW K b len qu n ++ (textW K t cs ln ++ (m0 :: m1 :: svW K g (va_up Sv 4 T) X)))) H := hP
  have hD : va_D A (townW K a T ++ (waysW K b len qu n ++ (textW K t cs ln ++ (m0 :: m1 :: svW K g (va_up Sv 4 T) X)))) := hD
  exact wr_vret hAe hP hD hS hx hb hr hk dX1_copyFrom_129 ⟨Nat.le_of_ble_eq_true rfl, Nat.le_of_ble_eq_true rfl⟩
set_option maxHeartbeats 4000000 in
set_option maxRecDepth 100000 in
theorem c_X1_copyFrom_s5 (l : Launch) (D : va_G) (K : Nat → ClassId) (sz : Nat) (a b t : Nat → Nat) (g : Nat → Nat → Nat) (T : TW) (X : va_W) (len : Nat → Option Nat) (qu : Nat → Nat) (n : Nat) (cs : Nat → Nat) (ln : Nat) (m0 m1 : Nat × va_E) (Sv : Nat → TW) : Wr l yX1_copyFrom wsX1_copyFrom ({ frames := 3, cells := 0, slots := 0, locals := 61 } : Room) D K (townW K a T ++ (waysW K b len qu n ++ (textW K t cs ln ++ (m0 :: m1 :: svW K g Sv X)))) sz [.ref ((g 5) 0), .ref (a 0)] (townW K a T ++ (waysW K b len qu n ++ (textW K t cs ln ++ (m0 :: m1 :: svW K g (va_up Sv 5 T) X)))) none 0 0 := by
  refine wr_intro (cc := cX1_copyFrom) (maxL := 2) (ret := none) (by decide) rfl (Nat.le_of_ble_eq_true rfl) ?_
  intro pr en st md ar bl mt co A hx hb hml hr hts hown hk hsz hAe hP hE hD hS hA hin ls hl
  have hown : st.vm.findClass RX1 = some md.cls := hown
  have hl : lv_has ls 2 [(0, .ref ((g 5) 0)), (1, .ref (a 0))] := hl
  obtain ⟨H, hH⟩ : ∃ z, z = st.heap := ⟨_, rfl⟩
  obtain ⟨locs, hlo⟩ : ∃ z : List Loc, z = [] := ⟨_, rfl⟩
  have hP : va_P D vwCl (townW K a T ++ (waysW K b len qu n ++ (textW K t cs ln ++ (m0 :: m1 :: svW K g Sv X)))) H := by rw [hH]; exact hP
  have hS : va_S A st.heap H locs := by rw [hH, hlo]; exact hS
  suffices go : W pr l en (headSpec wsX1_copyFrom ({ frames := 3, cells := 0, slots := 0, locals := 61 } : Room)).room st md ar bl mt co H locs 0 0 (MQ bl (wrQ D (townW K a T ++ (waysW K b len qu n ++ (textW K t cs ln ++ (m0 :: m1 :: svW K g Sv X)))) (townW K a T ++ (waysW K b len qu n ++ (textW K t cs ln ++ (m0 :: m1 :: svW K g (va_up Sv 5 T) X)))) sz none) ar st 0 0 A) (F0 md 0 ls []) by rw [hH, hlo] at go; exact go
  clear hH hlo
  have F9 : (Cond.fieldLink RX1 9 "TramTolls$Town" "houses" "[I").before ar st = true := hts _ (List.mem_of_getElem? (i := 1) rfl)
  have inX1 : ∀ w ∈ u_ws RX1 TX1 12, w ∈ wsX1_copyFrom := fun w h => List.mem_cons_of_mem _ (List.mem_append_right _ h)
  have IniX3 : (Cond.initialized RX3).before ar st = true := hts _ (List.mem_of_getElem? (i := 14) rfl)
  have Sta_X3_copyRow : (Cond.static yX3_copyRow).before ar st = true := hts _ (List.mem_of_getElem? (i := 13) rfl)
  have F15 : (Cond.fieldLink RX1 15 "TramTolls$Town" "trackMasks" "[I").before ar st = true := hts _ (List.mem_of_getElem? (i := 2) rfl)
  have F18 : (Cond.fieldLink RX1 18 "TramTolls$Town" "owners" "[I").before ar st = true := hts _ (List.mem_of_getElem? (i := 3) rfl)
  have F21 : (Cond.fieldLink RX1 21 "TramTolls$Town" "stopSquares" "[I").before ar st = true := hts _ (List.mem_of_getElem? (i := 4) rfl)
  have F24 : (Cond.fieldLink RX1 24 "TramTolls$Town" "stopPlayers" "[I").before ar st = true := hts _ (List.mem_of_getElem? (i := 5) rfl)
  have F27 : (Cond.fieldLink RX1 27 "TramTolls$Town" "coins" "[I").before ar st = true := hts _ (List.mem_of_getElem? (i := 6) rfl)
  have F38 : (Cond.fieldLink RX1 38 "TramTolls$Town" "heads" "[I").before ar st = true := hts _ (List.mem_of_getElem? (i := 7) rfl)
  have F41 : (Cond.fieldLink RX1 41 "TramTolls$Town" "lastDirections" "[I").before ar st = true := hts _ (List.mem_of_getElem? (i := 8) rfl)
  have F44 : (Cond.fieldLink RX1 44 "TramTolls$Town" "tollsPaid" "[I").before ar st = true := hts _ (List.mem_of_getElem? (i := 9) rfl)
  have F47 : (Cond.fieldLink RX1 47 "TramTolls$Town" "tollsGot" "[I").before ar st = true := hts _ (List.mem_of_getElem? (i := 10) rfl)
  have F53 : (Cond.fieldLink RX1 53 "TramTolls$Town" "settings" "[I").before ar st = true := hts _ (List.mem_of_getElem? (i := 11) rfl)
  have F66 : (Cond.fieldLink RX1 66 "TramTolls$Town" "piecesLaid" "I").before ar st = true := hts _ (List.mem_of_getElem? (i := 12) rfl)
  refine lv_aload_n hx hb dX1_copyFrom_0 rfl (lv_at hl 1 rfl) ?_
  refine va_get (D := D) (ci := 1) (v := .ref (a 1)) (C := RX1) (T := TX1) (N := 12) hx hb hts inX1 hown hE.1 hP 0 rfl rfl 0 (by decide) F9 (fun _ h9 => h9) rfl dX1_copyFrom_1 ?_
  refine lv_aload_n hx hb dX1_copyFrom_4 rfl (lv_at hl 0 rfl) ?_
  refine va_get (D := D) (ci := 1) (v := .ref ((g 5) 1)) (C := RX1) (T := TX1) (N := 12) hx hb hts inX1 hown hE.1 hP 79 rfl rfl 0 (by decide) F9 (fun _ h9 => h9) rfl dX1_copyFrom_5 ?_
  refine wr_SN (rest := []) ⟨hx, hb, hml, hown, hts⟩ hP hE hA hD hS (c_X3_copyRow l D K _ _ 1 80 _ _ 80 _ _ rfl rfl (by decide)) (va_cnB (host := RX3) 2 hts gX1_copyFrom_X3_copyRow_n62 rfl rfl rfl hE.2.2.2.2.2.2.2.2.2.2.2.1 IniX3 hn_X3_copyRow ⟨Nat.le_of_ble_eq_true rfl, Nat.le_of_ble_eq_true rfl⟩) Sta_X3_copyRow rfl hl.1 rfl (Nat.le_of_ble_eq_true rfl) dX1_copyFrom_8 ⟨Nat.le_of_ble_eq_true rfl, Nat.le_of_ble_eq_true rfl⟩ (fun H locs hP hD hS => ?_)
  have hP : va_P D vwCl (townW K a T ++ (waysW K b len qu n ++ (textW K t cs ln ++ (m0 :: m1 :: (townW K (g 0) (Sv 0) ++ (townW K (g 1) (Sv 1) ++ (townW K (g 2) (Sv 2) ++ (townW K (g 3) (Sv 3) ++ (townW K (g 4) (Sv 4) ++ (townW K (g 5) (va_up (Sv 5) 0 (T 0)) ++ X)))))))))) H := hP
  have hD : va_D A (townW K a T ++ (waysW K b len qu n ++ (textW K t cs ln ++ (m0 :: m1 :: (townW K (g 0) (Sv 0) ++ (townW K (g 1) (Sv 1) ++ (townW K (g 2) (Sv 2) ++ (townW K (g 3) (Sv 3) ++ (townW K (g 4) (Sv 4) ++ (townW K (g 5) (va_up (Sv 5) 0 (T 0)) ++ X)))))))))) := hD
  refine lv_aload_n hx hb dX1_copyFrom_11 rfl (lv_at hl 1 rfl) ?_
  refine va_get (D := D) (ci := 1) (v := .ref (a 2)) (C := RX1) (T := TX1) (N := 12) hx hb hts inX1 hown hE.1 hP 0 rfl rfl 1 (by decide) F15 (fun _ h9 => h9) rfl dX1_copyFrom_12 ?_
  refine lv_aload_n hx hb dX1_copyFrom_15 rfl (lv_at hl 0 rfl) ?_
  refine va_get (D := D) (ci := 1) (v := .ref ((g 5) 2)) (C := RX1) (T := TX1) (N := 12) hx hb hts inX1 hown hE.1 hP 79 rfl rfl 1 (by decide) F15 (fun _ h9 => h9) rfl dX1_copyFrom_16 ?_
  refine wr_SN (rest := []) ⟨hx, hb, hml, hown, hts⟩ hP hE hA hD hS (c_X3_copyRow l D K _ _ 2 81 _ _ 80 _ _ rfl rfl (by decide)) (va_cnB (host := RX3) 2 hts gX1_copyFrom_X3_copyRow_n62 rfl rfl rfl hE.2.2.2.2.2.2.2.2.2.2.2.1 IniX3 hn_X3_copyRow ⟨Nat.le_of_ble_eq_true rfl, Nat.le_of_ble_eq_true rfl⟩) Sta_X3_copyRow rfl hl.1 rfl (Nat.le_of_ble_eq_true rfl) dX1_copyFrom_19 ⟨Nat.le_of_ble_eq_true rfl, Nat.le_of_ble_eq_true rfl⟩ (fun H locs hP hD hS => ?_)
  have hP : va_P D vwCl (townW K a T ++ (waysW K b len qu n ++ (textW K t cs ln ++ (m0 :: m1 :: (townW K (g 0) (Sv 0) ++ (townW K (g 1) (Sv 1) ++ (townW K (g 2) (Sv 2) ++ (townW K (g 3) (Sv 3) ++ (townW K (g 4) (Sv 4) ++ (townW K (g 5) (va_up (va_up (Sv 5) 0 (T 0)) 1 (T 1)) ++ X)))))))))) H := hP
  have hD : va_D A (townW K a T ++ (waysW K b len qu n ++ (textW K t cs ln ++ (m0 :: m1 :: (townW K (g 0) (Sv 0) ++ (townW K (g 1) (Sv 1) ++ (townW K (g 2) (Sv 2) ++ (townW K (g 3) (Sv 3) ++ (townW K (g 4) (Sv 4) ++ (townW K (g 5) (va_up (va_up (Sv 5) 0 (T 0)) 1 (T 1)) ++ X)))))))))) := hD
  refine lv_aload_n hx hb dX1_copyFrom_22 rfl (lv_at hl 1 rfl) ?_
  refine va_get (D := D) (ci := 1) (v := .ref (a 3)) (C := RX1) (T := TX1) (N := 12) hx hb hts inX1 hown hE.1 hP 0 rfl rfl 2 (by decide) F18 (fun _ h9 => h9) rfl dX1_copyFrom_23 ?_
  refine lv_aload_n hx hb dX1_copyFrom_26 rfl (lv_at hl 0 rfl) ?_
  refine va_get (D := D) (ci := 1) (v := .ref ((g 5) 3)) (C := RX1) (T := TX1) (N := 12) hx hb hts inX1 hown hE.1 hP 79 rfl rfl 2 (by decide) F18 (fun _ h9 => h9) rfl dX1_copyFrom_27 ?_
  refine wr_SN (rest := []) ⟨hx, hb, hml, hown, hts⟩ hP hE hA hD hS (c_X3_copyRow l D K _ _ 3 82 _ _ 80 _ _ rfl rfl (by decide)) (va_cnB (host := RX3) 2 hts gX1_copyFrom_X3_copyRow_n62 rfl rfl rfl hE.2.2.2.2.2.2.2.2.2.2.2.1 IniX3 hn_X3_copyRow ⟨Nat.le_of_ble_eq_true rfl, Nat.le_of_ble_eq_true rfl⟩) Sta_X3_copyRow rfl hl.1 rfl (Nat.le_of_ble_eq_true rfl) dX1_copyFrom_30 ⟨Nat.le_of_ble_eq_true rfl, Nat.le_of_ble_eq_true rfl⟩ (fun H locs hP hD hS => ?_)
  have hP : va_P D vwCl (townW K a T ++ (waysW K b len qu n ++ (textW K t cs ln ++ (m0 :: m1 :: (townW K (g 0) (Sv 0) ++ (townW K (g 1) (Sv 1) ++ (townW K (g 2) (Sv 2) ++ (townW K (g 3) (Sv 3) ++ (townW K (g 4) (Sv 4) ++ (townW K (g 5) (va_up (va_up (va_up (Sv 5) 0 (T 0)) 1 (T 1)) 2 (T 2)) ++ X)))))))))) H := hP
  have hD : va_D A (townW K a T ++ (waysW K b len qu n ++ (textW K t cs ln ++ (m0 :: m1 :: (townW K (g 0) (Sv 0) ++ (townW K (g 1) (Sv 1) ++ (townW K (g 2) (Sv 2) ++ (townW K (g 3) (Sv 3) ++ (townW K (g 4) (Sv 4) ++ (townW K (g 5) (va_up (va_up (va_up (Sv 5) 0 (T 0)) 1 (T 1)) 2 (T 2)) ++ X)))))))))) := hD
  refine lv_aload_n hx hb dX1_copyFrom_33 rfl (lv_at hl 1 rfl) ?_
  refine va_get (D := D) (ci := 1) (v := .ref (a 4)) (C := RX1) (T := TX1) (N := 12) hx hb hts inX1 hown hE.1 hP 0 rfl rfl 3 (by decide) F21 (fun _ h9 => h9) rfl dX1_copyFrom_34 ?_
  refine lv_aload_n hx hb dX1_copyFrom_37 rfl (lv_at hl 0 rfl) ?_
  refine va_get (D := D) (ci := 1) (v := .ref ((g 5) 4)) (C := RX1) (T := TX1) (N := 12) hx hb hts inX1 hown hE.1 hP 79 rfl rfl 3 (by decide) F21 (fun _ h9 => h9) rfl dX1_copyFrom_38 ?_
  refine wr_SN (rest := []) ⟨hx, hb, hml, hown, hts⟩ hP hE hA hD hS (c_X3_copyRow l D K _ _ 4 83 _ _ 12 _ _ rfl rfl (by decide)) (va_cnB (host := RX3) 2 hts gX1_copyFrom_X3_copyRow_n62 rfl rfl rfl hE.2.2.2.2.2.2.2.2.2.2.2.1 IniX3 hn_X3_copyRow ⟨Nat.le_of_ble_eq_true rfl, Nat.le_of_ble_eq_true rfl⟩) Sta_X3_copyRow rfl hl.1 rfl (Nat.le_of_ble_eq_true rfl) dX1_copyFrom_41 ⟨Nat.le_of_ble_eq_true rfl, Nat.le_of_ble_eq_true rfl⟩ (fun H locs hP hD hS => ?_)
  have hP : va_P D vwCl (townW K a T ++ (waysW K b len qu n ++ (textW K t cs ln ++ (m0 :: m1 :: (townW K (g 0) (Sv 0) ++ (townW K (g 1) (Sv 1) ++ (townW K (g 2) (Sv 2) ++ (townW K (g 3) (Sv 3) ++ (townW K (g 4) (Sv 4) ++ (townW K (g 5) (va_up (va_up (va_up (va_up (Sv 5) 0 (T 0)) 1 (T 1)) 2 (T 2)) 3 (T 3)) ++ X)))))))))) H := hP
  have hD : va_D A (townW K a T ++ (waysW K b len qu n ++ (textW K t cs ln ++ (m0 :: m1 :: (townW K (g 0) (Sv 0) ++ (townW K (g 1) (Sv 1) ++ (townW K (g 2) (Sv 2) ++ (townW K (g 3) (Sv 3) ++ (townW K (g 4) (Sv 4) ++ (townW K (g 5) (va_up (va_up (va_up (va_up (Sv 5) 0 (T 0)) 1 (T 1)) 2 (T 2)) 3 (T 3)) ++ X)))))))))) := hD
  refine lv_aload_n hx hb dX1_copyFrom_44 rfl (lv_at hl 1 rfl) ?_
  refine va_get (D := D) (ci := 1) (v := .ref (a 5)) (C := RX1) (T := TX1) (N := 12) hx hb hts inX1 hown hE.1 hP 0 rfl rfl 4 (by decide) F24 (fun _ h9 => h9) rfl dX1_copyFrom_45 ?_
  refine lv_aload_n hx hb dX1_copyFrom_48 rfl (lv_at hl 0 rfl) ?_
  refine va_get (D := D) (ci := 1) (v := .ref ((g 5) 5)) (C := RX1) (T := TX1) (N := 12) hx hb hts inX1 hown hE.1 hP 79 rfl rfl 4 (by decide) F24 (fun _ h9 => h9) rfl dX1_copyFrom_49 ?_
  refine wr_SN (rest := []) ⟨hx, hb, hml, hown, hts⟩ hP hE hA hD hS (c_X3_copyRow l D K _ _ 5 84 _ _ 12 _ _ rfl rfl (by decide)) (va_cnB (host := RX3) 2 hts gX1_copyFrom_X3_copyRow_n62 rfl rfl rfl hE.2.2.2.2.2.2.2.2.2.2.2.1 IniX3 hn_X3_copyRow ⟨Nat.le_of_ble_eq_true rfl, Nat.le_of_ble_eq_true rfl⟩) Sta_X3_copyRow rfl hl.1 rfl (Nat.le_of_ble_eq_true rfl) dX1_copyFrom_52 ⟨Nat.le_of_ble_eq_true rfl, Nat.le_of_ble_eq_true rfl⟩ (fun H locs hP hD hS => ?_)
  have hP : va_P D vwCl (townW K a T ++ (waysW K b len qu n ++ (textW K t cs ln ++ (m0 :: m1 :: (townW K (g 0) (Sv 0) ++ (townW K (g 1) (Sv 1) ++ (townW K (g 2) (Sv 2) ++ (townW K (g 3) (Sv 3) ++ (townW K (g 4) (Sv 4) ++ (townW K (g 5) (va_up (va_up (va_up (va_up (va_up (Sv 5) 0 (T 0)) 1 (T 1)) 2 (T 2)) 3 (T 3)) 4 (T 4)) ++ X)))))))))) H := hP
  have hD : va_D A (townW K a T ++ (waysW K b len qu n ++ (textW K t cs ln ++ (m0 :: m1 :: (townW K (g 0) (Sv 0) ++ (townW K (g 1) (Sv 1) ++ (townW K (g 2) (Sv 2) ++ (townW K (g 3) (Sv 3) ++ (townW K (g 4) (Sv 4) ++ (townW K (g 5) (va_up (va_up (va_up (va_up (va_up (Sv 5) 0 (T 0)) 1 (T 1)) 2 (T 2)) 3 (T 3)) 4 (T 4)) ++ X)))))))))) := hD
  refine lv_aload_n hx hb dX1_copyFrom_55 rfl (lv_at hl 1 rfl) ?_
  refine va_get (D := D) (ci := 1) (v := .ref (a 6)) (C := RX1) (T := TX1) (N := 12) hx hb hts inX1 hown hE.1 hP 0 rfl rfl 5 (by decide) F27 (fun _ h9 => h9) rfl dX1_copyFrom_56 ?_
  refine lv_aload_n hx hb dX1_copyFrom_59 rfl (lv_at hl 0 rfl) ?_
  refine va_get (D := D) (ci := 1) (v := .ref ((g 5) 6)) (C := RX1) (T := TX1) (N := 12) hx hb hts inX1 hown hE.1 hP 79 rfl rfl 5 (by decide) F27 (fun _ h9 => h9) rfl dX1_copyFrom_60 ?_
  refine wr_SN (rest := []) ⟨hx, hb, hml, hown, hts⟩ hP hE hA hD hS (c_X3_copyRow l D K _ _ 6 85 _ _ 4 _ _ rfl rfl (by decide)) (va_cnB (host := RX3) 2 hts gX1_copyFrom_X3_copyRow_n62 rfl rfl rfl hE.2.2.2.2.2.2.2.2.2.2.2.1 IniX3 hn_X3_copyRow ⟨Nat.le_of_ble_eq_true rfl, Nat.le_of_ble_eq_true rfl⟩) Sta_X3_copyRow rfl hl.1 rfl (Nat.le_of_ble_eq_true rfl) dX1_copyFrom_63 ⟨Nat.le_of_ble_eq_true rfl, Nat.le_of_ble_eq_true rfl⟩ (fun H locs hP hD hS => ?_)
  have hP : va_P D vwCl (townW K a T ++ (waysW K b len qu n ++ (textW K t cs ln ++ (m0 :: m1 :: (townW K (g 0) (Sv 0) ++ (townW K (g 1) (Sv 1) ++ (townW K (g 2) (Sv 2) ++ (townW K (g 3) (Sv 3) ++ (townW K (g 4) (Sv 4) ++ (townW K (g 5) (va_up (va_up (va_up (va_up (va_up (va_up (Sv 5) 0 (T 0)) 1 (T 1)) 2 (T 2)) 3 (T 3)) 4 (T 4)) 5 (T 5)) ++ X)))))))))) H := hP
  have hD : va_D A (townW K a T ++ (waysW K b len qu n ++ (textW K t cs ln ++ (m0 :: m1 :: (townW K (g 0) (Sv 0) ++ (townW K (g 1) (Sv 1) ++ (townW K (g 2) (Sv 2) ++ (townW K (g 3) (Sv 3) ++ (townW K (g 4) (Sv 4) ++ (townW K (g 5) (va_up (va_up (va_up (va_up (va_up (va_up (Sv 5) 0 (T 0)) 1 (T 1)) 2 (T 2)) 3 (T 3)) 4 (T 4)) 5 (T 5)) ++ X)))))))))) := hD
  refine lv_aload_n hx hb dX1_copyFrom_66 rfl (lv_at hl 1 rfl) ?_
  refine va_get (D := D) (ci := 1) (v := .ref (a 7)) (C := RX1) (T := TX1) (N := 12) hx hb hts inX1 hown hE.1 hP 0 rfl rfl 6 (by decide) F38 (fun _ h9 => h9) rfl dX1_copyFrom_67 ?_
  refine lv_aload_n hx hb dX1_copyFrom_70 rfl (lv_at hl 0 rfl) ?_
  refine va_get (D := D) (ci := 1) (v := .ref ((g 5) 7)) (C := RX1) (T := TX1) (N := 12) hx hb hts inX1 hown hE.1 hP 79 rfl rfl 6 (by decide) F38 (fun _ h9 => h9) rfl dX1_copyFrom_71 ?_
  refine wr_SN (rest := []) ⟨hx, hb, hml, hown, hts⟩ hP hE hA hD hS (c_X3_copyRow l D K _ _ 7 86 _ _ 4 _ _ rfl rfl (by decide)) (va_cnB (host := RX3) 2 hts gX1_copyFrom_X3_copyRow_n62 rfl rfl rfl hE.2.2.2.2.2.2.2.2.2.2.2.1 IniX3 hn_X3_copyRow ⟨Nat.le_of_ble_eq_true rfl, Nat.le_of_ble_eq_true rfl⟩) Sta_X3_copyRow rfl hl.1 rfl (Nat.le_of_ble_eq_true rfl) dX1_copyFrom_74 ⟨Nat.le_of_ble_eq_true rfl, Nat.le_of_ble_eq_true rfl⟩ (fun H locs hP hD hS => ?_)
  have hP : va_P D vwCl (townW K a T ++ (waysW K b len qu n ++ (textW K t cs ln ++ (m0 :: m1 :: (townW K (g 0) (Sv 0) ++ (townW K (g 1) (Sv 1) ++ (townW K (g 2) (Sv 2) ++ (townW K (g 3) (Sv 3) ++ (townW K (g 4) (Sv 4) ++ (townW K (g 5) (va_up (va_up (va_up (va_up (va_up (va_up (va_up (Sv 5) 0 (T 0)) 1 (T 1)) 2 (T 2)) 3 (T 3)) 4 (T 4)) 5 (T 5)) 6 (T 6)) ++ X)))))))))) H := hP
  have hD : va_D A (townW K a T ++ (waysW K b len qu n ++ (textW K t cs ln ++ (m0 :: m1 :: (townW K (g 0) (Sv 0) ++ (townW K (g 1) (Sv 1) ++ (townW K (g 2) (Sv 2) ++ (townW K (g 3) (Sv 3) ++ (townW K (g 4) (Sv 4) ++ (townW K (g 5) (va_up (va_up (va_up (va_up (va_up (va_up (va_up (Sv 5) 0 (T 0)) 1 (T 1)) 2 (T 2)) 3 (T 3)) 4 (T 4)) 5 (T 5)) 6 (T 6)) ++ X)))))))))) := hD
  refine lv_aload_n hx hb dX1_copyFrom_77 rfl (lv_at hl 1 rfl) ?_
  refine va_get (D := D) (ci := 1) (v := .ref (a 8)) (C := RX1) (T := TX1) (N := 12) hx hb hts inX1 hown hE.1 hP 0 rfl rfl 7 (by decide) F41 (fun _ h9 => h9) rfl dX1_copyFrom_78 ?_
  refine lv_aload_n hx hb dX1_copyFrom_81 rfl (lv_at hl 0 rfl) ?_
  refine va_get (D := D) (ci := 1) (v := .ref ((g 5) 8)) (C := RX1) (T := TX1) (N := 12) hx hb hts inX1 hown hE.1 hP 79 rfl rfl 7 (by decide) F41 (fun _ h9 => h9) rfl dX1_copyFrom_82 ?_
  refine wr_SN (rest := []) ⟨hx, hb, hml, hown, hts⟩ hP hE hA hD hS (c_X3_copyRow l D K _ _ 8 87 _ _ 4 _ _ rfl rfl (by decide)) (va_cnB (host := RX3) 2 hts gX1_copyFrom_X3_copyRow_n62 rfl rfl rfl hE.2.2.2.2.2.2.2.2.2.2.2.1 IniX3 hn_X3_copyRow ⟨Nat.le_of_ble_eq_true rfl, Nat.le_of_ble_eq_true rfl⟩) Sta_X3_copyRow rfl hl.1 rfl (Nat.le_of_ble_eq_true rfl) dX1_copyFrom_85 ⟨Nat.le_of_ble_eq_true rfl, Nat.le_of_ble_eq_true rfl⟩ (fun H locs hP hD hS => ?_)
  have hP : va_P D vwCl (townW K a T ++ (waysW K b len qu n ++ (textW K t cs ln ++ (m0 :: m1 :: (townW K (g 0) (Sv 0) ++ (townW K (g 1) (Sv 1) ++ (townW K (g 2) (Sv 2) ++ (townW K (g 3) (Sv 3) ++ (townW K (g 4) (Sv 4) ++ (townW K (g 5) (va_up (va_up (va_up (va_up (va_up (va_up (va_up (va_up (Sv 5) 0 (T 0)) 1 (T 1)) 2 (T 2)) 3 (T 3)) 4 (T 4)) 5 (T 5)) 6 (T 6)) 7 (T 7)) ++ X)))))))))) H := hP
  have hD : va_D A (townW K a T ++ (waysW K b len qu n ++ (textW K t cs ln ++ (m0 :: m1 :: (townW K (g 0) (Sv 0) ++ (townW K (g 1) (Sv 1) ++ (townW K (g 2) (Sv 2) ++ (townW K (g 3) (Sv 3) ++ (townW K (g 4) (Sv 4) ++ (townW K (g 5) (va_up (va_up (va_up (va_up (va_up (va_up (va_up (va_up (Sv 5) 0 (T 0)) 1 (T 1)) 2 (T 2)) 3 (T 3)) 4 (T 4)) 5 (T 5)) 6 (T 6)) 7 (T 7)) ++ X)))))))))) := hD
  refine lv_aload_n hx hb dX1_copyFrom_88 rfl (lv_at hl 1 rfl) ?_
  refine va_get (D := D) (ci := 1) (v := .ref (a 9)) (C := RX1) (T := TX1) (N := 12) hx hb hts inX1 hown hE.1 hP 0 rfl rfl 8 (by decide) F44 (fun _ h9 => h9) rfl dX1_copyFrom_89 ?_
  refine lv_aload_n hx hb dX1_copyFrom_92 rfl (lv_at hl 0 rfl) ?_
  refine va_get (D := D) (ci := 1) (v := .ref ((g 5) 9)) (C := RX1) (T := TX1) (N := 12) hx hb hts inX1 hown hE.1 hP 79 rfl rfl 8 (by decide) F44 (fun _ h9 => h9) rfl dX1_copyFrom_93 ?_
  refine wr_SN (rest := []) ⟨hx, hb, hml, hown, hts⟩ hP hE hA hD hS (c_X3_copyRow l D K _ _ 9 88 _ _ 4 _ _ rfl rfl (by decide)) (va_cnB (host := RX3) 2 hts gX1_copyFrom_X3_copyRow_n62 rfl rfl rfl hE.2.2.2.2.2.2.2.2.2.2.2.1 IniX3 hn_X3_copyRow ⟨Nat.le_of_ble_eq_true rfl, Nat.le_of_ble_eq_true rfl⟩) Sta_X3_copyRow rfl hl.1 rfl (Nat.le_of_ble_eq_true rfl) dX1_copyFrom_96 ⟨Nat.le_of_ble_eq_true rfl, Nat.le_of_ble_eq_true rfl⟩ (fun H locs hP hD hS => ?_)
  have hP : va_P D vwCl (townW K a T ++ (waysW K b len qu n ++ (textW K t cs ln ++ (m0 :: m1 :: (townW K (g 0) (Sv 0) ++ (townW K (g 1) (Sv 1) ++ (townW K (g 2) (Sv 2) ++ (townW K (g 3) (Sv 3) ++ (townW K (g 4) (Sv 4) ++ (townW K (g 5) (va_up (va_up (va_up (va_up (va_up (va_up (va_up (va_up (va_up (Sv 5) 0 (T 0)) 1 (T 1)) 2 (T 2)) 3 (T 3)) 4 (T 4)) 5 (T 5)) 6 (T 6)) 7 (T 7)) 8 (T 8)) ++ X)))))))))) H := hP
  have hD : va_D A (townW K a T ++ (waysW K b len qu n ++ (textW K t cs ln ++ (m0 :: m1 :: (townW K (g 0) (Sv 0) ++ (townW K (g 1) (Sv 1) ++ (townW K (g 2) (Sv 2) ++ (townW K (g 3) (Sv 3) ++ (townW K (g 4) (Sv 4) ++ (townW K (g 5) (va_up (va_up (va_up (va_up (va_up (va_up (va_up (va_up (va_up (Sv 5) 0 (T 0)) 1 (T 1)) 2 (T 2)) 3 (T 3)) 4 (T 4)) 5 (T 5)) 6 (T 6)) 7 (T 7)) 8 (T 8)) ++ X)))))))))) := hD
  refine lv_aload_n hx hb dX1_copyFrom_99 rfl (lv_at hl 1 rfl) ?_
  refine va_get (D := D) (ci := 1) (v := .ref (a 10)) (C := RX1) (T := TX1) (N := 12) hx hb hts inX1 hown hE.1 hP 0 rfl rfl 9 (by decide) F47 (fun _ h9 => h9) rfl dX1_copyFrom_100 ?_
  refine lv_aload_n hx hb dX1_copyFrom_103 rfl (lv_at hl 0 rfl) ?_
  refine va_get (D := D) (ci := 1) (v := .ref ((g 5) 10)) (C := RX1) (T := TX1) (N := 12) hx hb hts inX1 hown hE.1 hP 79 rfl rfl 9 (by decide) F47 (fun _ h9 => h9) rfl dX1_copyFrom_104 ?_
  refine wr_SN (rest := []) ⟨hx, hb, hml, hown, hts⟩ hP hE hA hD hS (c_X3_copyRow l D K _ _ 10 89 _ _ 4 _ _ rfl rfl (by decide)) (va_cnB (host := RX3) 2 hts gX1_copyFrom_X3_copyRow_n62 rfl rfl rfl hE.2.2.2.2.2.2.2.2.2.2.2.1 IniX3 hn_X3_copyRow ⟨Nat.le_of_ble_eq_true rfl, Nat.le_of_ble_eq_true rfl⟩) Sta_X3_copyRow rfl hl.1 rfl (Nat.le_of_ble_eq_true rfl) dX1_copyFrom_107 ⟨Nat.le_of_ble_eq_true rfl, Nat.le_of_ble_eq_true rfl⟩ (fun H locs hP hD hS => ?_)
  have hP : va_P D vwCl (townW K a T ++ (waysW K b len qu n ++ (textW K t cs ln ++ (m0 :: m1 :: (townW K (g 0) (Sv 0) ++ (townW K (g 1) (Sv 1) ++ (townW K (g 2) (Sv 2) ++ (townW K (g 3) (Sv 3) ++ (townW K (g 4) (Sv 4) ++ (townW K (g 5) (va_up (va_up (va_up (va_up (va_up (va_up (va_up (va_up (va_up (va_up (Sv 5) 0 (T 0)) 1 (T 1)) 2 (T 2)) 3 (T 3)) 4 (T 4)) 5 (T 5)) 6 (T 6)) 7 (T 7)) 8 (T 8)) 9 (T 9)) ++ X)))))))))) H := hP
  have hD : va_D A (townW K a T ++ (waysW K b len qu n ++ (textW K t cs ln ++ (m0 :: m1 :: (townW K (g 0) (Sv 0) ++ (townW K (g 1) (Sv 1) ++ (townW K (g 2) (Sv 2) ++ (townW K (g 3) (Sv 3) ++ (townW K (g 4) (Sv 4) ++ (townW K (g 5) (va_up (va_up (va_up (va_up (va_up (va_up (va_up (va_up (va_up (va_up (Sv 5) 0 (T 0)) 1 (T 1)) 2 (T 2)) 3 (T 3)) 4 (T 4)) 5 (T 5)) 6 (T 6)) 7 (T 7)) 8 (T 8)) 9 (T 9)) ++ X)))))))))) := hD
  refine lv_aload_n hx hb dX1_copyFrom_110 rfl (lv_at hl 1 rfl) ?_
  refine va_get (D := D) (ci := 1) (v := .ref (a 11)) (C := RX1) (T := TX1) (N := 12) hx hb hts inX1 hown hE.1 hP 0 rfl rfl 10 (by decide) F53 (fun _ h9 => h9) rfl dX1_copyFrom_111 ?_
  refine lv_aload_n hx hb dX1_copyFrom_114 rfl (lv_at hl 0 rfl) ?_
  refine va_get (D := D) (ci := 1) (v := .ref ((g 5) 11)) (C := RX1) (T := TX1) (N := 12) hx hb hts inX1 hown hE.1 hP 79 rfl rfl 10 (by decide) F53 (fun _ h9 => h9) rfl dX1_copyFrom_115 ?_
  refine wr_SN (rest := []) ⟨hx, hb, hml, hown, hts⟩ hP hE hA hD hS (c_X3_copyRow l D K _ _ 11 90 _ _ 3 _ _ rfl rfl (by decide)) (va_cnB (host := RX3) 2 hts gX1_copyFrom_X3_copyRow_n62 rfl rfl rfl hE.2.2.2.2.2.2.2.2.2.2.2.1 IniX3 hn_X3_copyRow ⟨Nat.le_of_ble_eq_true rfl, Nat.le_of_ble_eq_true rfl⟩) Sta_X3_copyRow rfl hl.1 rfl (Nat.le_of_ble_eq_true rfl) dX1_copyFrom_118 ⟨Nat.le_of_ble_eq_true rfl, Nat.le_of_ble_eq_true rfl⟩ (fun H locs hP hD hS => ?_)
  have hP : va_P D vwCl (townW K a T ++ (waysW K b len qu n ++ (textW K t cs ln ++ (m0 :: m1 :: (townW K (g 0) (Sv 0) ++ (townW K (g 1) (Sv 1) ++ (townW K (g 2) (Sv 2) ++ (townW K (g 3) (Sv 3) ++ (townW K (g 4) (Sv 4) ++ (townW K (g 5) (va_up (va_up (va_up (va_up (va_up (va_up (va_up (va_up (va_up (va_up (va_up (Sv 5) 0 (T 0)) 1 (T 1)) 2 (T 2)) 3 (T 3)) 4 (T 4)) 5 (T 5)) 6 (T 6)) 7 (T 7)) 8 (T 8)) 9 (T 9)) 10 (T 10)) ++ X)))))))))) H := hP
  have hD : va_D A (townW K a T ++ (waysW K b len qu n ++ (textW K t cs ln ++ (m0 :: m1 :: (townW K (g 0) (Sv 0) ++ (townW K (g 1) (Sv 1) ++ (townW K (g 2) (Sv 2) ++ (townW K (g 3) (Sv 3) ++ (townW K (g 4) (Sv 4) ++ (townW K (g 5) (va_up (va_up (va_up (va_up (va_up (va_up (va_up (va_up (va_up (va_up (va_up (Sv 5) 0 (T 0)) 1 (T 1)) 2 (T 2)) 3 (T 3)) 4 (T 4)) 5 (T 5)) 6 (T 6)) 7 (T 7)) 8 (T 8)) 9 (T 9)) 10 (T 10)) ++ X)))))))))) := hD
  refine lv_aload_n hx hb dX1_copyFrom_121 rfl (lv_at hl 0 rfl) ?_
  refine lv_aload_n hx hb dX1_copyFrom_122 rfl (lv_at hl 1 rfl) ?_
  refine va_get (D := D) (ci := 1) (v := .int (T 11 0)) (C := RX1) (T := TX1) (N := 12) hx hb hts inX1 hown hE.1 hP 0 rfl rfl 11 (by decide) F66 (fun _ h9 => h9) rfl dX1_copyFrom_123 ?_
  refine va_put (D := D) (ci := 1) (v := .int (T 11 0)) (ty := .int) (C := RX1) (T := TX1) (N := 12) hx hb hts inX1 tyX1 tyX1_ok nmX1 hown hE.1 hP hD hS 79 rfl rfl 11 (by decide) F66 (fun _ h9 => h9) rfl (by decide +kernel) rfl rfl (Nat.le_of_ble_eq_true rfl) dX1_copyFrom_126 (fun H locs hP hD hS => ?_)
  have hP : va_P D vwCl (townW K a T ++ (waysW K b len qu n ++ (textW K t cs ln ++ (m0 :: m1 :: (townW K (g 0) (Sv 0) ++ (townW K (g 1) (Sv 1) ++ (townW K (g 2) (Sv 2) ++ (townW K (g 3) (Sv 3) ++ (townW K (g 4) (Sv 4) ++ (townW K (g 5) (setT (va_up (va_up (va_up (va_up (va_up (va_up (va_up (va_up (va_up (va_up (va_up (Sv 5) 0 (T 0)) 1 (T 1)) 2 (T 2)) 3 (T 3)) 4 (T 4)) 5 (T 5)) 6 (T 6)) 7 (T 7)) 8 (T 8)) 9 (T 9)) 10 (T 10)) 11 0 (T 11 0)) ++ X)))))))))) H := hP
  have hD : va_D A (townW K a T ++ (waysW K b len qu n ++ (textW K t cs ln ++ (m0 :: m1 :: (townW K (g 0) (Sv 0) ++ (townW K (g 1) (Sv 1) ++ (townW K (g 2) (Sv 2) ++ (townW K (g 3) (Sv 3) ++ (townW K (g 4) (Sv 4) ++ (townW K (g 5) (setT (va_up (va_up (va_up (va_up (va_up (va_up (va_up (va_up (va_up (va_up (va_up (Sv 5) 0 (T 0)) 1 (T 1)) 2 (T 2)) 3 (T 3)) 4 (T 4)) 5 (T 5)) 6 (T 6)) 7 (T 7)) 8 (T 8)) 9 (T 9)) 10 (T 10)) 11 0 (T 11 0)) ++ X)))))))))) := hD
  have hP : va_P D vwCl (townW K a T ++ (waysW K b len qu n ++ (textW K t cs ln ++ (m0 :: m1 :: svW K g (va_up Sv 5 T) X)))) H := hP
  have hD : va_D A (townW K a T ++ (waysW K b len qu n ++ (textW K t cs ln ++ (m0 :: m1 :: svW K g (va_up Sv 5 T) X)))) := hD
  exact wr_vret hAe hP hD hS hx hb hr hk dX1_copyFrom_129 ⟨Nat.le_of_ble_eq_true rfl, Nat.le_of_ble_eq_true rfl⟩
set_option maxHeartbeats 4000000 in
set_option maxRecDepth 100000 in
theorem c_X1_copyFrom_u0 (l : Launch) (D : va_G) (K : Nat → ClassId) (sz : Nat) (a b t : Nat → Nat) (g : Nat → Nat → Nat) (T : TW) (X : va_W) (len : Nat → Option Nat) (qu : Nat → Nat) (n : Nat) (cs : Nat → Nat) (ln : Nat) (m0 m1 : Nat × va_E) (Sv : Nat → TW) : Wr l yX1_copyFrom wsX1_copyFrom ({ frames := 3, cells := 0, slots := 0, locals := 61 } : Room) D K (townW K a T ++ (waysW K b len qu n ++ (textW K t cs ln ++ (m0 :: m1 :: svW K g Sv X)))) sz [.ref (a 0), .ref ((g 0) 0)] (townW K a (Sv 0) ++ (waysW K b len qu n ++ (textW K t cs ln ++ (m0 :: m1 :: svW K g Sv X)))) none 0 0 := by
  refine wr_intro (cc := cX1_copyFrom) (maxL := 2) (ret := none) (by decide) rfl (Nat.le_of_ble_eq_true rfl) ?_
  intro pr en st md ar bl mt co A hx hb hml hr hts hown hk hsz hAe hP hE hD hS hA hin ls hl
  have hown : st.vm.findClass RX1 = some md.cls := hown
  have hl : lv_has ls 2 [(0, .ref (a 0)), (1, .ref ((g 0) 0))] := hl
  obtain ⟨H, hH⟩ : ∃ z, z = st.heap := ⟨_, rfl⟩
  obtain ⟨locs, hlo⟩ : ∃ z : List Loc, z = [] := ⟨_, rfl⟩
  have hP : va_P D vwCl (townW K a T ++ (waysW K b len qu n ++ (textW K t cs ln ++ (m0 :: m1 :: svW K g Sv X)))) H := by rw [hH]; exact hP
  have hS : va_S A st.heap H locs := by rw [hH, hlo]; exact hS
  suffices go : W pr l en (headSpec wsX1_copyFrom ({ frames := 3, cells := 0, slots := 0, locals := 61 } : Room)).room st md ar bl mt co H locs 0 0 (MQ bl (wrQ D (townW K a T ++ (waysW K b len qu n ++ (textW K t cs ln ++ (m0 :: m1 :: svW K g Sv X)))) (townW K a (Sv 0) ++ (waysW K b len qu n ++ (textW K t cs ln ++ (m0 :: m1 :: svW K g Sv X)))) sz none) ar st 0 0 A) (F0 md 0 ls []) by rw [hH, hlo] at go; exact go
  clear hH hlo
  have F9 : (Cond.fieldLink RX1 9 "TramTolls$Town" "houses" "[I").before ar st = true := hts _ (List.mem_of_getElem? (i := 1) rfl)
  have inX1 : ∀ w ∈ u_ws RX1 TX1 12, w ∈ wsX1_copyFrom := fun w h => List.mem_cons_of_mem _ (List.mem_append_right _ h)
  have IniX3 : (Cond.initialized RX3).before ar st = true := hts _ (List.mem_of_getElem? (i := 14) rfl)
  have Sta_X3_copyRow : (Cond.static yX3_copyRow).before ar st = true := hts _ (List.mem_of_getElem? (i := 13) rfl)
  have F15 : (Cond.fieldLink RX1 15 "TramTolls$Town" "trackMasks" "[I").before ar st = true := hts _ (List.mem_of_getElem? (i := 2) rfl)
  have F18 : (Cond.fieldLink RX1 18 "TramTolls$Town" "owners" "[I").before ar st = true := hts _ (List.mem_of_getElem? (i := 3) rfl)
  have F21 : (Cond.fieldLink RX1 21 "TramTolls$Town" "stopSquares" "[I").before ar st = true := hts _ (List.mem_of_getElem? (i := 4) rfl)
  have F24 : (Cond.fieldLink RX1 24 "TramTolls$Town" "stopPlayers" "[I").before ar st = true := hts _ (List.mem_of_getElem? (i := 5) rfl)
  have F27 : (Cond.fieldLink RX1 27 "TramTolls$Town" "coins" "[I").before ar st = true := hts _ (List.mem_of_getElem? (i := 6) rfl)
  have F38 : (Cond.fieldLink RX1 38 "TramTolls$Town" "heads" "[I").before ar st = true := hts _ (List.mem_of_getElem? (i := 7) rfl)
  have F41 : (Cond.fieldLink RX1 41 "TramTolls$Town" "lastDirections" "[I").before ar st = true := hts _ (List.mem_of_getElem? (i := 8) rfl)
  have F44 : (Cond.fieldLink RX1 44 "TramTolls$Town" "tollsPaid" "[I").before ar st = true := hts _ (List.mem_of_getElem? (i := 9) rfl)
  have F47 : (Cond.fieldLink RX1 47 "TramTolls$Town" "tollsGot" "[I").before ar st = true := hts _ (List.mem_of_getElem? (i := 10) rfl)
  have F53 : (Cond.fieldLink RX1 53 "TramTolls$Town" "settings" "[I").before ar st = true := hts _ (List.mem_of_getElem? (i := 11) rfl)
  have F66 : (Cond.fieldLink RX1 66 "TramTolls$Town" "piecesLaid" "I").before ar st = true := hts _ (List.mem_of_getElem? (i := 12) rfl)
  refine lv_aload_n hx hb dX1_copyFrom_0 rfl (lv_at hl 1 rfl) ?_
  refine va_get (D := D) (ci := 1) (v := .ref ((g 0) 1)) (C := RX1) (T := TX1) (N := 12) hx hb hts inX1 hown hE.1 hP 19 rfl rfl 0 (by decide) F9 (fun _ h9 => h9) rfl dX1_copyFrom_1 ?_
  refine lv_aload_n hx hb dX1_copyFrom_4 rfl (lv_at hl 0 rfl) ?_
  refine va_get (D := D) (ci := 1) (v := .ref (a 1)) (C := RX1) (T := TX1) (N := 12) hx hb hts inX1 hown hE.1 hP 0 rfl rfl 0 (by decide) F9 (fun _ h9 => h9) rfl dX1_copyFrom_5 ?_
  refine wr_SN (rest := []) ⟨hx, hb, hml, hown, hts⟩ hP hE hA hD hS (c_X3_copyRow l D K _ _ 20 1 _ _ 80 _ _ rfl rfl (by decide)) (va_cnB (host := RX3) 2 hts gX1_copyFrom_X3_copyRow_n62 rfl rfl rfl hE.2.2.2.2.2.2.2.2.2.2.2.1 IniX3 hn_X3_copyRow ⟨Nat.le_of_ble_eq_true rfl, Nat.le_of_ble_eq_true rfl⟩) Sta_X3_copyRow rfl hl.1 rfl (Nat.le_of_ble_eq_true rfl) dX1_copyFrom_8 ⟨Nat.le_of_ble_eq_true rfl, Nat.le_of_ble_eq_true rfl⟩ (fun H locs hP hD hS => ?_)
  have hP : va_P D vwCl (townW K a (va_up T 0 ((Sv 0) 0)) ++ (waysW K b len qu n ++ (textW K t cs ln ++ (m0 :: m1 :: svW K g Sv X)))) H := hP
  have hD : va_D A (townW K a (va_up T 0 ((Sv 0) 0)) ++ (waysW K b len qu n ++ (textW K t cs ln ++ (m0 :: m1 :: svW K g Sv X)))) := hD
  refine lv_aload_n hx hb dX1_copyFrom_11 rfl (lv_at hl 1 rfl) ?_
  refine va_get (D := D) (ci := 1) (v := .ref ((g 0) 2)) (C := RX1) (T := TX1) (N := 12) hx hb hts inX1 hown hE.1 hP 19 rfl rfl 1 (by decide) F15 (fun _ h9 => h9) rfl dX1_copyFrom_12 ?_
  refine lv_aload_n hx hb dX1_copyFrom_15 rfl (lv_at hl 0 rfl) ?_
  refine va_get (D := D) (ci := 1) (v := .ref (a 2)) (C := RX1) (T := TX1) (N := 12) hx hb hts inX1 hown hE.1 hP 0 rfl rfl 1 (by decide) F15 (fun _ h9 => h9) rfl dX1_copyFrom_16 ?_
  refine wr_SN (rest := []) ⟨hx, hb, hml, hown, hts⟩ hP hE hA hD hS (c_X3_copyRow l D K _ _ 21 2 _ _ 80 _ _ rfl rfl (by decide)) (va_cnB (host := RX3) 2 hts gX1_copyFrom_X3_copyRow_n62 rfl rfl rfl hE.2.2.2.2.2.2.2.2.2.2.2.1 IniX3 hn_X3_copyRow ⟨Nat.le_of_ble_eq_true rfl, Nat.le_of_ble_eq_true rfl⟩) Sta_X3_copyRow rfl hl.1 rfl (Nat.le_of_ble_eq_true rfl) dX1_copyFrom_19 ⟨Nat.le_of_ble_eq_true rfl, Nat.le_of_ble_eq_true rfl⟩ (fun H locs hP hD hS => ?_)
  have hP : va_P D vwCl (townW K a (va_up (va_up T 0 ((Sv 0) 0)) 1 ((Sv 0) 1)) ++ (waysW K b len qu n ++ (textW K t cs ln ++ (m0 :: m1 :: svW K g Sv X)))) H := hP
  have hD : va_D A (townW K a (va_up (va_up T 0 ((Sv 0) 0)) 1 ((Sv 0) 1)) ++ (waysW K b len qu n ++ (textW K t cs ln ++ (m0 :: m1 :: svW K g Sv X)))) := hD
  refine lv_aload_n hx hb dX1_copyFrom_22 rfl (lv_at hl 1 rfl) ?_
  refine va_get (D := D) (ci := 1) (v := .ref ((g 0) 3)) (C := RX1) (T := TX1) (N := 12) hx hb hts inX1 hown hE.1 hP 19 rfl rfl 2 (by decide) F18 (fun _ h9 => h9) rfl dX1_copyFrom_23 ?_
  refine lv_aload_n hx hb dX1_copyFrom_26 rfl (lv_at hl 0 rfl) ?_
  refine va_get (D := D) (ci := 1) (v := .ref (a 3)) (C := RX1) (T := TX1) (N := 12) hx hb hts inX1 hown hE.1 hP 0 rfl rfl 2 (by decide) F18 (fun _ h9 => h9) rfl dX1_copyFrom_27 ?_
  refine wr_SN (rest := []) ⟨hx, hb, hml, hown, hts⟩ hP hE hA hD hS (c_X3_copyRow l D K _ _ 22 3 _ _ 80 _ _ rfl rfl (by decide)) (va_cnB (host := RX3) 2 hts gX1_copyFrom_X3_copyRow_n62 rfl rfl rfl hE.2.2.2.2.2.2.2.2.2.2.2.1 IniX3 hn_X3_copyRow ⟨Nat.le_of_ble_eq_true rfl, Nat.le_of_ble_eq_true rfl⟩) Sta_X3_copyRow rfl hl.1 rfl (Nat.le_of_ble_eq_true rfl) dX1_copyFrom_30 ⟨Nat.le_of_ble_eq_true rfl, Nat.le_of_ble_eq_true rfl⟩ (fun H locs hP hD hS => ?_)
  have hP : va_P D vwCl (townW K a (va_up (va_up (va_up T 0 ((Sv 0) 0)) 1 ((Sv 0) 1)) 2 ((Sv 0) 2)) ++ (waysW K b len qu n ++ (textW K t cs ln ++ (m0 :: m1 :: svW K g Sv X)))) H := hP
  have hD : va_D A (townW K a (va_up (va_up (va_up T 0 ((Sv 0) 0)) 1 ((Sv 0) 1)) 2 ((Sv 0) 2)) ++ (waysW K b len qu n ++ (textW K t cs ln ++ (m0 :: m1 :: svW K g Sv X)))) := hD
  refine lv_aload_n hx hb dX1_copyFrom_33 rfl (lv_at hl 1 rfl) ?_
  refine va_get (D := D) (ci := 1) (v := .ref ((g 0) 4)) (C := RX1) (T := TX1) (N := 12) hx hb hts inX1 hown hE.1 hP 19 rfl rfl 3 (by decide) F21 (fun _ h9 => h9) rfl dX1_copyFrom_34 ?_
  refine lv_aload_n hx hb dX1_copyFrom_37 rfl (lv_at hl 0 rfl) ?_
  refine va_get (D := D) (ci := 1) (v := .ref (a 4)) (C := RX1) (T := TX1) (N := 12) hx hb hts inX1 hown hE.1 hP 0 rfl rfl 3 (by decide) F21 (fun _ h9 => h9) rfl dX1_copyFrom_38 ?_
  refine wr_SN (rest := []) ⟨hx, hb, hml, hown, hts⟩ hP hE hA hD hS (c_X3_copyRow l D K _ _ 23 4 _ _ 12 _ _ rfl rfl (by decide)) (va_cnB (host := RX3) 2 hts gX1_copyFrom_X3_copyRow_n62 rfl rfl rfl hE.2.2.2.2.2.2.2.2.2.2.2.1 IniX3 hn_X3_copyRow ⟨Nat.le_of_ble_eq_true rfl, Nat.le_of_ble_eq_true rfl⟩) Sta_X3_copyRow rfl hl.1 rfl (Nat.le_of_ble_eq_true rfl) dX1_copyFrom_41 ⟨Nat.le_of_ble_eq_true rfl, Nat.le_of_ble_eq_true rfl⟩ (fun H locs hP hD hS => ?_)
  have hP : va_P D vwCl (townW K a (va_up (va_up (va_up (va_up T 0 ((Sv 0) 0)) 1 ((Sv 0) 1)) 2 ((Sv 0) 2)) 3 ((Sv 0) 3)) ++ (waysW K b len qu n ++ (textW K t cs ln ++ (m0 :: m1 :: svW K g Sv X)))) H := hP
  have hD : va_D A (townW K a (va_up (va_up (va_up (va_up T 0 ((Sv 0) 0)) 1 ((Sv 0) 1)) 2 ((Sv 0) 2)) 3 ((Sv 0) 3)) ++ (waysW K b len qu n ++ (textW K t cs ln ++ (m0 :: m1 :: svW K g Sv X)))) := hD
  refine lv_aload_n hx hb dX1_copyFrom_44 rfl (lv_at hl 1 rfl) ?_
  refine va_get (D := D) (ci := 1) (v := .ref ((g 0) 5)) (C := RX1) (T := TX1) (N := 12) hx hb hts inX1 hown hE.1 hP 19 rfl rfl 4 (by decide) F24 (fun _ h9 => h9) rfl dX1_copyFrom_45 ?_
  refine lv_aload_n hx hb dX1_copyFrom_48 rfl (lv_at hl 0 rfl) ?_
  refine va_get (D := D) (ci := 1) (v := .ref (a 5)) (C := RX1) (T := TX1) (N := 12) hx hb hts inX1 hown hE.1 hP 0 rfl rfl 4 (by decide) F24 (fun _ h9 => h9) rfl dX1_copyFrom_49 ?_
  refine wr_SN (rest := []) ⟨hx, hb, hml, hown, hts⟩ hP hE hA hD hS (c_X3_copyRow l D K _ _ 24 5 _ _ 12 _ _ rfl rfl (by decide)) (va_cnB (host := RX3) 2 hts gX1_copyFrom_X3_copyRow_n62 rfl rfl rfl hE.2.2.2.2.2.2.2.2.2.2.2.1 IniX3 hn_X3_copyRow ⟨Nat.le_of_ble_eq_true rfl, Nat.le_of_ble_eq_true rfl⟩) Sta_X3_copyRow rfl hl.1 rfl (Nat.le_of_ble_eq_true rfl) dX1_copyFrom_52 ⟨Nat.le_of_ble_eq_true rfl, Nat.le_of_ble_eq_true rfl⟩ (fun H locs hP hD hS => ?_)
  have hP : va_P D vwCl (townW K a (va_up (va_up (va_up (va_up (va_up T 0 ((Sv 0) 0)) 1 ((Sv 0) 1)) 2 ((Sv 0) 2)) 3 ((Sv 0) 3)) 4 ((Sv 0) 4)) ++ (waysW K b len qu n ++ (textW K t cs ln ++ (m0 :: m1 :: svW K g Sv X)))) H := hP
  have hD : va_D A (townW K a (va_up (va_up (va_up (va_up (va_up T 0 ((Sv 0) 0)) 1 ((Sv 0) 1)) 2 ((Sv 0) 2)) 3 ((Sv 0) 3)) 4 ((Sv 0) 4)) ++ (waysW K b len qu n ++ (textW K t cs ln ++ (m0 :: m1 :: svW K g Sv X)))) := hD
  refine lv_aload_n hx hb dX1_copyFrom_55 rfl (lv_at hl 1 rfl) ?_
  refine va_get (D := D) (ci := 1) (v := .ref ((g 0) 6)) (C := RX1) (T := TX1) (N := 12) hx hb hts inX1 hown hE.1 hP 19 rfl rfl 5 (by decide) F27 (fun _ h9 => h9) rfl dX1_copyFrom_56 ?_
  refine lv_aload_n hx hb dX1_copyFrom_59 rfl (lv_at hl 0 rfl) ?_
  refine va_get (D := D) (ci := 1) (v := .ref (a 6)) (C := RX1) (T := TX1) (N := 12) hx hb hts inX1 hown hE.1 hP 0 rfl rfl 5 (by decide) F27 (fun _ h9 => h9) rfl dX1_copyFrom_60 ?_
  refine wr_SN (rest := []) ⟨hx, hb, hml, hown, hts⟩ hP hE hA hD hS (c_X3_copyRow l D K _ _ 25 6 _ _ 4 _ _ rfl rfl (by decide)) (va_cnB (host := RX3) 2 hts gX1_copyFrom_X3_copyRow_n62 rfl rfl rfl hE.2.2.2.2.2.2.2.2.2.2.2.1 IniX3 hn_X3_copyRow ⟨Nat.le_of_ble_eq_true rfl, Nat.le_of_ble_eq_true rfl⟩) Sta_X3_copyRow rfl hl.1 rfl (Nat.le_of_ble_eq_true rfl) dX1_copyFrom_63 ⟨Nat.le_of_ble_eq_true rfl, Nat.le_of_ble_eq_true rfl⟩ (fun H locs hP hD hS => ?_)
  have hP : va_P D vwCl (townW K a (va_up (va_up (va_up (va_up (va_up (va_up T 0 ((Sv 0) 0)) 1 ((Sv 0) 1)) 2 ((Sv 0) 2)) 3 ((Sv 0) 3)) 4 ((Sv 0) 4)) 5 ((Sv 0) 5)) ++ (waysW K b len qu n ++ (textW K t cs ln ++ (m0 :: m1 :: svW K g Sv X)))) H := hP
  have hD : va_D A (townW K a (va_up (va_up (va_up (va_up (va_up (va_up T 0 ((Sv 0) 0)) 1 ((Sv 0) 1)) 2 ((Sv 0) 2)) 3 ((Sv 0) 3)) 4 ((Sv 0) 4)) 5 ((Sv 0) 5)) ++ (waysW K b len qu n ++ (textW K t cs ln ++ (m0 :: m1 :: svW K g Sv X)))) := hD
  refine lv_aload_n hx hb dX1_copyFrom_66 rfl (lv_at hl 1 rfl) ?_
  refine va_get (D := D) (ci := 1) (v := .ref ((g 0) 7)) (C := RX1) (T := TX1) (N := 12) hx hb hts inX1 hown hE.1 hP 19 rfl rfl 6 (by decide) F38 (fun _ h9 => h9) rfl dX1_copyFrom_67 ?_
  refine lv_aload_n hx hb dX1_copyFrom_70 rfl (lv_at hl 0 rfl) ?_
  refine va_get (D := D) (ci := 1) (v := .ref (a 7)) (C := RX1) (T := TX1) (N := 12) hx hb hts inX1 hown hE.1 hP 0 rfl rfl 6 (by decide) F38 (fun _ h9 => h9) rfl dX1_copyFrom_71 ?_
  refine wr_SN (rest := []) ⟨hx, hb, hml, hown, hts⟩ hP hE hA hD hS (c_X3_copyRow l D K _ _ 26 7 _ _ 4 _ _ rfl rfl (by decide)) (va_cnB (host := RX3) 2 hts gX1_copyFrom_X3_copyRow_n62 rfl rfl rfl hE.2.2.2.2.2.2.2.2.2.2.2.1 IniX3 hn_X3_copyRow ⟨Nat.le_of_ble_eq_true rfl, Nat.le_of_ble_eq_true rfl⟩) Sta_X3_copyRow rfl hl.1 rfl (Nat.le_of_ble_eq_true rfl) dX1_copyFrom_74 ⟨Nat.le_of_ble_eq_true rfl, Nat.le_of_ble_eq_true rfl⟩ (fun H locs hP hD hS => ?_)
  have hP : va_P D vwCl (townW K a (va_up (va_up (va_up (va_up (va_up (va_up (va_up T 0 ((Sv 0) 0)) 1 ((Sv 0) 1)) 2 ((Sv 0) 2)) 3 ((Sv 0) 3)) 4 ((Sv 0) 4)) 5 ((Sv 0) 5)) 6 ((Sv 0) 6)) ++ (waysW K b len qu n ++ (textW K t cs ln ++ (m0 :: m1 :: svW K g Sv X)))) H := hP
  have hD : va_D A (townW K a (va_up (va_up (va_up (va_up (va_up (va_up (va_up T 0 ((Sv 0) 0)) 1 ((Sv 0) 1)) 2 ((Sv 0) 2)) 3 ((Sv 0) 3)) 4 ((Sv 0) 4)) 5 ((Sv 0) 5)) 6 ((Sv 0) 6)) ++ (waysW K b len qu n ++ (textW K t cs ln ++ (m0 :: m1 :: svW K g Sv X)))) := hD
  refine lv_aload_n hx hb dX1_copyFrom_77 rfl (lv_at hl 1 rfl) ?_
  refine va_get (D := D) (ci := 1) (v := .ref ((g 0) 8)) (C := RX1) (T := TX1) (N := 12) hx hb hts inX1 hown hE.1 hP 19 rfl rfl 7 (by decide) F41 (fun _ h9 => h9) rfl dX1_copyFrom_78 ?_
  refine lv_aload_n hx hb dX1_copyFrom_81 rfl (lv_at hl 0 rfl) ?_
  refine va_get (D := D) (ci := 1) (v := .ref (a 8)) (C := RX1) (T := TX1) (N := 12) hx hb hts inX1 hown hE.1 hP 0 rfl rfl 7 (by decide) F41 (fun _ h9 => h9) rfl dX1_copyFrom_82 ?_
  refine wr_SN (rest := []) ⟨hx, hb, hml, hown, hts⟩ hP hE hA hD hS (c_X3_copyRow l D K _ _ 27 8 _ _ 4 _ _ rfl rfl (by decide)) (va_cnB (host := RX3) 2 hts gX1_copyFrom_X3_copyRow_n62 rfl rfl rfl hE.2.2.2.2.2.2.2.2.2.2.2.1 IniX3 hn_X3_copyRow ⟨Nat.le_of_ble_eq_true rfl, Nat.le_of_ble_eq_true rfl⟩) Sta_X3_copyRow rfl hl.1 rfl (Nat.le_of_ble_eq_true rfl) dX1_copyFrom_85 ⟨Nat.le_of_ble_eq_true rfl, Nat.le_of_ble_eq_true rfl⟩ (fun H locs hP hD hS => ?_)
  have hP : va_P D vwCl (townW K a (va_up (va_up (va_up (va_up (va_up (va_up (va_up (va_up T 0 ((Sv 0) 0)) 1 ((Sv 0) 1)) 2 ((Sv 0) 2)) 3 ((Sv 0) 3)) 4 ((Sv 0) 4)) 5 ((Sv 0) 5)) 6 ((Sv 0) 6)) 7 ((Sv 0) 7)) ++ (waysW K b len qu n ++ (textW K t cs ln ++ (m0 :: m1 :: svW K g Sv X)))) H := hP
  have hD : va_D A (townW K a (va_up (va_up (va_up (va_up (va_up (va_up (va_up (va_up T 0 ((Sv 0) 0)) 1 ((Sv 0) 1)) 2 ((Sv 0) 2)) 3 ((Sv 0) 3)) 4 ((Sv 0) 4)) 5 ((Sv 0) 5)) 6 ((Sv 0) 6)) 7 ((Sv 0) 7)) ++ (waysW K b len qu n ++ (textW K t cs ln ++ (m0 :: m1 :: svW K g Sv X)))) := hD
  refine lv_aload_n hx hb dX1_copyFrom_88 rfl (lv_at hl 1 rfl) ?_
  refine va_get (D := D) (ci := 1) (v := .ref ((g 0) 9)) (C := RX1) (T := TX1) (N := 12) hx hb hts inX1 hown hE.1 hP 19 rfl rfl 8 (by decide) F44 (fun _ h9 => h9) rfl dX1_copyFrom_89 ?_
  refine lv_aload_n hx hb dX1_copyFrom_92 rfl (lv_at hl 0 rfl) ?_
  refine va_get (D := D) (ci := 1) (v := .ref (a 9)) (C := RX1) (T := TX1) (N := 12) hx hb hts inX1 hown hE.1 hP 0 rfl rfl 8 (by decide) F44 (fun _ h9 => h9) rfl dX1_copyFrom_93 ?_
  refine wr_SN (rest := []) ⟨hx, hb, hml, hown, hts⟩ hP hE hA hD hS (c_X3_copyRow l D K _ _ 28 9 _ _ 4 _ _ rfl rfl (by decide)) (va_cnB (host := RX3) 2 hts gX1_copyFrom_X3_copyRow_n62 rfl rfl rfl hE.2.2.2.2.2.2.2.2.2.2.2.1 IniX3 hn_X3_copyRow ⟨Nat.le_of_ble_eq_true rfl, Nat.le_of_ble_eq_true rfl⟩) Sta_X3_copyRow rfl hl.1 rfl (Nat.le_of_ble_eq_true rfl) dX1_copyFrom_96 ⟨Nat.le_of_ble_eq_true rfl, Nat.le_of_ble_eq_true rfl⟩ (fun H locs hP hD hS => ?_)
  have hP : va_P D vwCl (townW K a (va_up (va_up (va_up (va_up (va_up (va_up (va_up (va_up (va_up T 0 ((Sv 0) 0)) 1 ((Sv 0) 1)) 2 ((Sv 0) 2)) 3 ((Sv 0) 3)) 4 ((Sv 0) 4)) 5 ((Sv 0) 5)) 6 ((Sv 0) 6)) 7 ((Sv 0) 7)) 8 ((Sv 0) 8)) ++ (waysW K b len qu n ++ (textW K t cs ln ++ (m0 :: m1 :: svW K g Sv X)))) H := hP
  have hD : va_D A (townW K a (va_up (va_up (va_up (va_up (va_up (va_up (va_up (va_up (va_up T 0 ((Sv 0) 0)) 1 ((Sv 0) 1)) 2 ((Sv 0) 2)) 3 ((Sv 0) 3)) 4 ((Sv 0) 4)) 5 ((Sv 0) 5)) 6 ((Sv 0) 6)) 7 ((Sv 0) 7)) 8 ((Sv 0) 8)) ++ (waysW K b len qu n ++ (textW K t cs ln ++ (m0 :: m1 :: svW K g Sv X)))) := hD
  refine lv_aload_n hx hb dX1_copyFrom_99 rfl (lv_at hl 1 rfl) ?_
  refine va_get (D := D) (ci := 1) (v := .ref ((g 0) 10)) (C := RX1) (T := TX1) (N := 12) hx hb hts inX1 hown hE.1 hP 19 rfl rfl 9 (by decide) F47 (fun _ h9 => h9) rfl dX1_copyFrom_100 ?_
  refine lv_aload_n hx hb dX1_copyFrom_103 rfl (lv_at hl 0 rfl) ?_
  refine va_get (D := D) (ci := 1) (v := .ref (a 10)) (C := RX1) (T := TX1) (N := 12) hx hb hts inX1 hown hE.1 hP 0 rfl rfl 9 (by decide) F47 (fun _ h9 => h9) rfl dX1_copyFrom_104 ?_
  refine wr_SN (rest := []) ⟨hx, hb, hml, hown, hts⟩ hP hE hA hD hS (c_X3_copyRow l D K _ _ 29 10 _ _ 4 _ _ rfl rfl (by decide)) (va_cnB (host := RX3) 2 hts gX1_copyFrom_X3_copyRow_n62 rfl rfl rfl hE.2.2.2.2.2.2.2.2.2.2.2.1 IniX3 hn_X3_copyRow ⟨Nat.le_of_ble_eq_true rfl, Nat.le_of_ble_eq_true rfl⟩) Sta_X3_copyRow rfl hl.1 rfl (Nat.le_of_ble_eq_true rfl) dX1_copyFrom_107 ⟨Nat.le_of_ble_eq_true rfl, Nat.le_of_ble_eq_true rfl⟩ (fun H locs hP hD hS => ?_)
  have hP : va_P D vwCl (townW K a (va_up (va_up (va_up (va_up (va_up (va_up (va_up (va_up (va_up (va_up T 0 ((Sv 0) 0)) 1 ((Sv 0) 1)) 2 ((Sv 0) 2)) 3 ((Sv 0) 3)) 4 ((Sv 0) 4)) 5 ((Sv 0) 5)) 6 ((Sv 0) 6)) 7 ((Sv 0) 7)) 8 ((Sv 0) 8)) 9 ((Sv 0) 9)) ++ (waysW K b len qu n ++ (textW K t cs ln ++ (m0 :: m1 :: svW K g Sv X)))) H := hP
  have hD : va_D A (townW K a (va_up (va_up (va_up (va_up (va_up (va_up (va_up (va_up (va_up (va_up T 0 ((Sv 0) 0)) 1 ((Sv 0) 1)) 2 ((Sv 0) 2)) 3 ((Sv 0) 3)) 4 ((Sv 0) 4)) 5 ((Sv 0) 5)) 6 ((Sv 0) 6)) 7 ((Sv 0) 7)) 8 ((Sv 0) 8)) 9 ((Sv 0) 9)) ++ (waysW K b len qu n ++ (textW K t cs ln ++ (m0 :: m1 :: svW K g Sv X)))) := hD
  refine lv_aload_n hx hb dX1_copyFrom_110 rfl (lv_at hl 1 rfl) ?_
  refine va_get (D := D) (ci := 1) (v := .ref ((g 0) 11)) (C := RX1) (T := TX1) (N := 12) hx hb hts inX1 hown hE.1 hP 19 rfl rfl 10 (by decide) F53 (fun _ h9 => h9) rfl dX1_copyFrom_111 ?_
  refine lv_aload_n hx hb dX1_copyFrom_114 rfl (lv_at hl 0 rfl) ?_
  refine va_get (D := D) (ci := 1) (v := .ref (a 11)) (C := RX1) (T := TX1) (N := 12) hx hb hts inX1 hown hE.1 hP 0 rfl rfl 10 (by decide) F53 (fun _ h9 => h9) rfl dX1_copyFrom_115 ?_
  refine wr_SN (rest := []) ⟨hx, hb, hml, hown, hts⟩ hP hE hA hD hS (c_X3_copyRow l D K _ _ 30 11 _ _ 3 _ _ rfl rfl (by decide)) (va_cnB (host := RX3) 2 hts gX1_copyFrom_X3_copyRow_n62 rfl rfl rfl hE.2.2.2.2.2.2.2.2.2.2.2.1 IniX3 hn_X3_copyRow ⟨Nat.le_of_ble_eq_true rfl, Nat.le_of_ble_eq_true rfl⟩) Sta_X3_copyRow rfl hl.1 rfl (Nat.le_of_ble_eq_true rfl) dX1_copyFrom_118 ⟨Nat.le_of_ble_eq_true rfl, Nat.le_of_ble_eq_true rfl⟩ (fun H locs hP hD hS => ?_)
  have hP : va_P D vwCl (townW K a (va_up (va_up (va_up (va_up (va_up (va_up (va_up (va_up (va_up (va_up (va_up T 0 ((Sv 0) 0)) 1 ((Sv 0) 1)) 2 ((Sv 0) 2)) 3 ((Sv 0) 3)) 4 ((Sv 0) 4)) 5 ((Sv 0) 5)) 6 ((Sv 0) 6)) 7 ((Sv 0) 7)) 8 ((Sv 0) 8)) 9 ((Sv 0) 9)) 10 ((Sv 0) 10)) ++ (waysW K b len qu n ++ (textW K t cs ln ++ (m0 :: m1 :: svW K g Sv X)))) H := hP
  have hD : va_D A (townW K a (va_up (va_up (va_up (va_up (va_up (va_up (va_up (va_up (va_up (va_up (va_up T 0 ((Sv 0) 0)) 1 ((Sv 0) 1)) 2 ((Sv 0) 2)) 3 ((Sv 0) 3)) 4 ((Sv 0) 4)) 5 ((Sv 0) 5)) 6 ((Sv 0) 6)) 7 ((Sv 0) 7)) 8 ((Sv 0) 8)) 9 ((Sv 0) 9)) 10 ((Sv 0) 10)) ++ (waysW K b len qu n ++ (textW K t cs ln ++ (m0 :: m1 :: svW K g Sv X)))) := hD
  refine lv_aload_n hx hb dX1_copyFrom_121 rfl (lv_at hl 0 rfl) ?_
  refine lv_aload_n hx hb dX1_copyFrom_122 rfl (lv_at hl 1 rfl) ?_
  refine va_get (D := D) (ci := 1) (v := .int ((Sv 0) 11 0)) (C := RX1) (T := TX1) (N := 12) hx hb hts inX1 hown hE.1 hP 19 rfl rfl 11 (by decide) F66 (fun _ h9 => h9) rfl dX1_copyFrom_123 ?_
  refine va_put (D := D) (ci := 1) (v := .int ((Sv 0) 11 0)) (ty := .int) (C := RX1) (T := TX1) (N := 12) hx hb hts inX1 tyX1 tyX1_ok nmX1 hown hE.1 hP hD hS 0 rfl rfl 11 (by decide) F66 (fun _ h9 => h9) rfl (by decide +kernel) rfl rfl (Nat.le_of_ble_eq_true rfl) dX1_copyFrom_126 (fun H locs hP hD hS => ?_)
  have hP : va_P D vwCl (townW K a (setT (va_up (va_up (va_up (va_up (va_up (va_up (va_up (va_up (va_up (va_up (va_up T 0 ((Sv 0) 0)) 1 ((Sv 0) 1)) 2 ((Sv 0) 2)) 3 ((Sv 0) 3)) 4 ((Sv 0) 4)) 5 ((Sv 0) 5)) 6 ((Sv 0) 6)) 7 ((Sv 0) 7)) 8 ((Sv 0) 8)) 9 ((Sv 0) 9)) 10 ((Sv 0) 10)) 11 0 ((Sv 0) 11 0)) ++ (waysW K b len qu n ++ (textW K t cs ln ++ (m0 :: m1 :: svW K g Sv X)))) H := hP
  have hD : va_D A (townW K a (setT (va_up (va_up (va_up (va_up (va_up (va_up (va_up (va_up (va_up (va_up (va_up T 0 ((Sv 0) 0)) 1 ((Sv 0) 1)) 2 ((Sv 0) 2)) 3 ((Sv 0) 3)) 4 ((Sv 0) 4)) 5 ((Sv 0) 5)) 6 ((Sv 0) 6)) 7 ((Sv 0) 7)) 8 ((Sv 0) 8)) 9 ((Sv 0) 9)) 10 ((Sv 0) 10)) 11 0 ((Sv 0) 11 0)) ++ (waysW K b len qu n ++ (textW K t cs ln ++ (m0 :: m1 :: svW K g Sv X)))) := hD
  have hP : va_P D vwCl (townW K a (Sv 0) ++ (waysW K b len qu n ++ (textW K t cs ln ++ (m0 :: m1 :: svW K g Sv X)))) H := hP
  have hD : va_D A (townW K a (Sv 0) ++ (waysW K b len qu n ++ (textW K t cs ln ++ (m0 :: m1 :: svW K g Sv X)))) := hD
  exact wr_vret hAe hP hD hS hx hb hr hk dX1_copyFrom_129 ⟨Nat.le_of_ble_eq_true rfl, Nat.le_of_ble_eq_true rfl⟩
set_option maxHeartbeats 4000000 in
set_option maxRecDepth 100000 in
theorem c_X1_copyFrom_u1 (l : Launch) (D : va_G) (K : Nat → ClassId) (sz : Nat) (a b t : Nat → Nat) (g : Nat → Nat → Nat) (T : TW) (X : va_W) (len : Nat → Option Nat) (qu : Nat → Nat) (n : Nat) (cs : Nat → Nat) (ln : Nat) (m0 m1 : Nat × va_E) (Sv : Nat → TW) : Wr l yX1_copyFrom wsX1_copyFrom ({ frames := 3, cells := 0, slots := 0, locals := 61 } : Room) D K (townW K a T ++ (waysW K b len qu n ++ (textW K t cs ln ++ (m0 :: m1 :: svW K g Sv X)))) sz [.ref (a 0), .ref ((g 1) 0)] (townW K a (Sv 1) ++ (waysW K b len qu n ++ (textW K t cs ln ++ (m0 :: m1 :: svW K g Sv X)))) none 0 0 := by
  refine wr_intro (cc := cX1_copyFrom) (maxL := 2) (ret := none) (by decide) rfl (Nat.le_of_ble_eq_true rfl) ?_
  intro pr en st md ar bl mt co A hx hb hml hr hts hown hk hsz hAe hP hE hD hS hA hin ls hl
  have hown : st.vm.findClass RX1 = some md.cls := hown
  have hl : lv_has ls 2 [(0, .ref (a 0)), (1, .ref ((g 1) 0))] := hl
  obtain ⟨H, hH⟩ : ∃ z, z = st.heap := ⟨_, rfl⟩
  obtain ⟨locs, hlo⟩ : ∃ z : List Loc, z = [] := ⟨_, rfl⟩
  have hP : va_P D vwCl (townW K a T ++ (waysW K b len qu n ++ (textW K t cs ln ++ (m0 :: m1 :: svW K g Sv X)))) H := by rw [hH]; exact hP
  have hS : va_S A st.heap H locs := by rw [hH, hlo]; exact hS
  suffices go : W pr l en (headSpec wsX1_copyFrom ({ frames := 3, cells := 0, slots := 0, locals := 61 } : Room)).room st md ar bl mt co H locs 0 0 (MQ bl (wrQ D (townW K a T ++ (waysW K b len qu n ++ (textW K t cs ln ++ (m0 :: m1 :: svW K g Sv X)))) (townW K a (Sv 1) ++ (waysW K b len qu n ++ (textW K t cs ln ++ (m0 :: m1 :: svW K g Sv X)))) sz none) ar st 0 0 A) (F0 md 0 ls []) by rw [hH, hlo] at go; exact go
  clear hH hlo
  have F9 : (Cond.fieldLink RX1 9 "TramTolls$Town" "houses" "[I").before ar st = true := hts _ (List.mem_of_getElem? (i := 1) rfl)
  have inX1 : ∀ w ∈ u_ws RX1 TX1 12, w ∈ wsX1_copyFrom := fun w h => List.mem_cons_of_mem _ (List.mem_append_right _ h)
  have IniX3 : (Cond.initialized RX3).before ar st = true := hts _ (List.mem_of_getElem? (i := 14) rfl)
  have Sta_X3_copyRow : (Cond.static yX3_copyRow).before ar st = true := hts _ (List.mem_of_getElem? (i := 13) rfl)
  have F15 : (Cond.fieldLink RX1 15 "TramTolls$Town" "trackMasks" "[I").before ar st = true := hts _ (List.mem_of_getElem? (i := 2) rfl)
  have F18 : (Cond.fieldLink RX1 18 "TramTolls$Town" "owners" "[I").before ar st = true := hts _ (List.mem_of_getElem? (i := 3) rfl)
  have F21 : (Cond.fieldLink RX1 21 "TramTolls$Town" "stopSquares" "[I").before ar st = true := hts _ (List.mem_of_getElem? (i := 4) rfl)
  have F24 : (Cond.fieldLink RX1 24 "TramTolls$Town" "stopPlayers" "[I").before ar st = true := hts _ (List.mem_of_getElem? (i := 5) rfl)
  have F27 : (Cond.fieldLink RX1 27 "TramTolls$Town" "coins" "[I").before ar st = true := hts _ (List.mem_of_getElem? (i := 6) rfl)
  have F38 : (Cond.fieldLink RX1 38 "TramTolls$Town" "heads" "[I").before ar st = true := hts _ (List.mem_of_getElem? (i := 7) rfl)
  have F41 : (Cond.fieldLink RX1 41 "TramTolls$Town" "lastDirections" "[I").before ar st = true := hts _ (List.mem_of_getElem? (i := 8) rfl)
  have F44 : (Cond.fieldLink RX1 44 "TramTolls$Town" "tollsPaid" "[I").before ar st = true := hts _ (List.mem_of_getElem? (i := 9) rfl)
  have F47 : (Cond.fieldLink RX1 47 "TramTolls$Town" "tollsGot" "[I").before ar st = true := hts _ (List.mem_of_getElem? (i := 10) rfl)
  have F53 : (Cond.fieldLink RX1 53 "TramTolls$Town" "settings" "[I").before ar st = true := hts _ (List.mem_of_getElem? (i := 11) rfl)
  have F66 : (Cond.fieldLink RX1 66 "TramTolls$Town" "piecesLaid" "I").before ar st = true := hts _ (List.mem_of_getElem? (i := 12) rfl)
  refine lv_aload_n hx hb dX1_copyFrom_0 rfl (lv_at hl 1 rfl) ?_
  refine va_get (D := D) (ci := 1) (v := .ref ((g 1) 1)) (C := RX1) (T := TX1) (N := 12) hx hb hts inX1 hown hE.1 hP 31 rfl rfl 0 (by decide) F9 (fun _ h9 => h9) rfl dX1_copyFrom_1 ?_
  refine lv_aload_n hx hb dX1_copyFrom_4 rfl (lv_at hl 0 rfl) ?_
  refine va_get (D := D) (ci := 1) (v := .ref (a 1)) (C := RX1) (T := TX1) (N := 12) hx hb hts inX1 hown hE.1 hP 0 rfl rfl 0 (by decide) F9 (fun _ h9 => h9) rfl dX1_copyFrom_5 ?_
  refine wr_SN (rest := []) ⟨hx, hb, hml, hown, hts⟩ hP hE hA hD hS (c_X3_copyRow l D K _ _ 32 1 _ _ 80 _ _ rfl rfl (by decide)) (va_cnB (host := RX3) 2 hts gX1_copyFrom_X3_copyRow_n62 rfl rfl rfl hE.2.2.2.2.2.2.2.2.2.2.2.1 IniX3 hn_X3_copyRow ⟨Nat.le_of_ble_eq_true rfl, Nat.le_of_ble_eq_true rfl⟩) Sta_X3_copyRow rfl hl.1 rfl (Nat.le_of_ble_eq_true rfl) dX1_copyFrom_8 ⟨Nat.le_of_ble_eq_true rfl, Nat.le_of_ble_eq_true rfl⟩ (fun H locs hP hD hS => ?_)
  have hP : va_P D vwCl (townW K a (va_up T 0 ((Sv 1) 0)) ++ (waysW K b len qu n ++ (textW K t cs ln ++ (m0 :: m1 :: svW K g Sv X)))) H := hP
  have hD : va_D A (townW K a (va_up T 0 ((Sv 1) 0)) ++ (waysW K b len qu n ++ (textW K t cs ln ++ (m0 :: m1 :: svW K g Sv X)))) := hD
  refine lv_aload_n hx hb dX1_copyFrom_11 rfl (lv_at hl 1 rfl) ?_
  refine va_get (D := D) (ci := 1) (v := .ref ((g 1) 2)) (C := RX1) (T := TX1) (N := 12) hx hb hts inX1 hown hE.1 hP 31 rfl rfl 1 (by decide) F15 (fun _ h9 => h9) rfl dX1_copyFrom_12 ?_
  refine lv_aload_n hx hb dX1_copyFrom_15 rfl (lv_at hl 0 rfl) ?_
  refine va_get (D := D) (ci := 1) (v := .ref (a 2)) (C := RX1) (T := TX1) (N := 12) hx hb hts inX1 hown hE.1 hP 0 rfl rfl 1 (by decide) F15 (fun _ h9 => h9) rfl dX1_copyFrom_16 ?_
  refine wr_SN (rest := []) ⟨hx, hb, hml, hown, hts⟩ hP hE hA hD hS (c_X3_copyRow l D K _ _ 33 2 _ _ 80 _ _ rfl rfl (by decide)) (va_cnB (host := RX3) 2 hts gX1_copyFrom_X3_copyRow_n62 rfl rfl rfl hE.2.2.2.2.2.2.2.2.2.2.2.1 IniX3 hn_X3_copyRow ⟨Nat.le_of_ble_eq_true rfl, Nat.le_of_ble_eq_true rfl⟩) Sta_X3_copyRow rfl hl.1 rfl (Nat.le_of_ble_eq_true rfl) dX1_copyFrom_19 ⟨Nat.le_of_ble_eq_true rfl, Nat.le_of_ble_eq_true rfl⟩ (fun H locs hP hD hS => ?_)
  have hP : va_P D vwCl (townW K a (va_up (va_up T 0 ((Sv 1) 0)) 1 ((Sv 1) 1)) ++ (waysW K b len qu n ++ (textW K t cs ln ++ (m0 :: m1 :: svW K g Sv X)))) H := hP
  have hD : va_D A (townW K a (va_up (va_up T 0 ((Sv 1) 0)) 1 ((Sv 1) 1)) ++ (waysW K b len qu n ++ (textW K t cs ln ++ (m0 :: m1 :: svW K g Sv X)))) := hD
  refine lv_aload_n hx hb dX1_copyFrom_22 rfl (lv_at hl 1 rfl) ?_
  refine va_get (D := D) (ci := 1) (v := .ref ((g 1) 3)) (C := RX1) (T := TX1) (N := 12) hx hb hts inX1 hown hE.1 hP 31 rfl rfl 2 (by decide) F18 (fun _ h9 => h9) rfl dX1_copyFrom_23 ?_
  refine lv_aload_n hx hb dX1_copyFrom_26 rfl (lv_at hl 0 rfl) ?_
  refine va_get (D := D) (ci := 1) (v := .ref (a 3)) (C := RX1) (T := TX1) (N := 12) hx hb hts inX1 hown hE.1 hP 0 rfl rfl 2 (by decide) F18 (fun _ h9 => h9) rfl dX1_copyFrom_27 ?_
  refine wr_SN (rest := []) ⟨hx, hb, hml, hown, hts⟩ hP hE hA hD hS (c_X3_copyRow l D K _ _ 34 3 _ _ 80 _ _ rfl rfl (by decide)) (va_cnB (host := RX3) 2 hts gX1_copyFrom_X3_copyRow_n62 rfl rfl rfl hE.2.2.2.2.2.2.2.2.2.2.2.1 IniX3 hn_X3_copyRow ⟨Nat.le_of_ble_eq_true rfl, Nat.le_of_ble_eq_true rfl⟩) Sta_X3_copyRow rfl hl.1 rfl (Nat.le_of_ble_eq_true rfl) dX1_copyFrom_30 ⟨Nat.le_of_ble_eq_true rfl, Nat.le_of_ble_eq_true rfl⟩ (fun H locs hP hD hS => ?_)
  have hP : va_P D vwCl (townW K a (va_up (va_up (va_up T 0 ((Sv 1) 0)) 1 ((Sv 1) 1)) 2 ((Sv 1) 2)) ++ (waysW K b len qu n ++ (textW K t cs ln ++ (m0 :: m1 :: svW K g Sv X)))) H := hP
  have hD : va_D A (townW K a (va_up (va_up (va_up T 0 ((Sv 1) 0)) 1 ((Sv 1) 1)) 2 ((Sv 1) 2)) ++ (waysW K b len qu n ++ (textW K t cs ln ++ (m0 :: m1 :: svW K g Sv X)))) := hD
  refine lv_aload_n hx hb dX1_copyFrom_33 rfl (lv_at hl 1 rfl) ?_
  refine va_get (D := D) (ci := 1) (v := .ref ((g 1) 4)) (C := RX1) (T := TX1) (N := 12) hx hb hts inX1 hown hE.1 hP 31 rfl rfl 3 (by decide) F21 (fun _ h9 => h9) rfl dX1_copyFrom_34 ?_
  refine lv_aload_n hx hb dX1_copyFrom_37 rfl (lv_at hl 0 rfl) ?_
  refine va_get (D := D) (ci := 1) (v := .ref (a 4)) (C := RX1) (T := TX1) (N := 12) hx hb hts inX1 hown hE.1 hP 0 rfl rfl 3 (by decide) F21 (fun _ h9 => h9) rfl dX1_copyFrom_38 ?_
  refine wr_SN (rest := []) ⟨hx, hb, hml, hown, hts⟩ hP hE hA hD hS (c_X3_copyRow l D K _ _ 35 4 _ _ 12 _ _ rfl rfl (by decide)) (va_cnB (host := RX3) 2 hts gX1_copyFrom_X3_copyRow_n62 rfl rfl rfl hE.2.2.2.2.2.2.2.2.2.2.2.1 IniX3 hn_X3_copyRow ⟨Nat.le_of_ble_eq_true rfl, Nat.le_of_ble_eq_true rfl⟩) Sta_X3_copyRow rfl hl.1 rfl (Nat.le_of_ble_eq_true rfl) dX1_copyFrom_41 ⟨Nat.le_of_ble_eq_true rfl, Nat.le_of_ble_eq_true rfl⟩ (fun H locs hP hD hS => ?_)
  have hP : va_P D vwCl (townW K a (va_up (va_up (va_up (va_up T 0 ((Sv 1) 0)) 1 ((Sv 1) 1)) 2 ((Sv 1) 2)) 3 ((Sv 1) 3)) ++ (waysW K b len qu n ++ (textW K t cs ln ++ (m0 :: m1 :: svW K g Sv X)))) H := hP
  have hD : va_D A (townW K a (va_up (va_up (va_up (va_up T 0 ((Sv 1) 0)) 1 ((Sv 1) 1)) 2 ((Sv 1) 2)) 3 ((Sv 1) 3)) ++ (waysW K b len qu n ++ (textW K t cs ln ++ (m0 :: m1 :: svW K g Sv X)))) := hD
  refine lv_aload_n hx hb dX1_copyFrom_44 rfl (lv_at hl 1 rfl) ?_
  refine va_get (D := D) (ci := 1) (v := .ref ((g 1) 5)) (C := RX1) (T := TX1) (N := 12) hx hb hts inX1 hown hE.1 hP 31 rfl rfl 4 (by decide) F24 (fun _ h9 => h9) rfl dX1_copyFrom_45 ?_
  refine lv_aload_n hx hb dX1_copyFrom_48 rfl (lv_at hl 0 rfl) ?_
  refine va_get (D := D) (ci := 1) (v := .ref (a 5)) (C := RX1) (T := TX1) (N := 12) hx hb hts inX1 hown hE.1 hP 0 rfl rfl 4 (by decide) F24 (fun _ h9 => h9) rfl dX1_copyFrom_49 ?_
  refine wr_SN (rest := []) ⟨hx, hb, hml, hown, hts⟩ hP hE hA hD hS (c_X3_copyRow l D K _ _ 36 5 _ _ 12 _ _ rfl rfl (by decide)) (va_cnB (host := RX3) 2 hts gX1_copyFrom_X3_copyRow_n62 rfl rfl rfl hE.2.2.2.2.2.2.2.2.2.2.2.1 IniX3 hn_X3_copyRow ⟨Nat.le_of_ble_eq_true rfl, Nat.le_of_ble_eq_true rfl⟩) Sta_X3_copyRow rfl hl.1 rfl (Nat.le_of_ble_eq_true rfl) dX1_copyFrom_52 ⟨Nat.le_of_ble_eq_true rfl, Nat.le_of_ble_eq_true rfl⟩ (fun H locs hP hD hS => ?_)
  have hP : va_P D vwCl (townW K a (va_up (va_up (va_up (va_up (va_up T 0 ((Sv 1) 0)) 1 ((Sv 1) 1)) 2 ((Sv 1) 2)) 3 ((Sv 1) 3)) 4 ((Sv 1) 4)) ++ (waysW K b len qu n ++ (textW K t cs ln ++ (m0 :: m1 :: svW K g Sv X)))) H := hP
  have hD : va_D A (townW K a (va_up (va_up (va_up (va_up (va_up T 0 ((Sv 1) 0)) 1 ((Sv 1) 1)) 2 ((Sv 1) 2)) 3 ((Sv 1) 3)) 4 ((Sv 1) 4)) ++ (waysW K b len qu n ++ (textW K t cs ln ++ (m0 :: m1 :: svW K g Sv X)))) := hD
  refine lv_aload_n hx hb dX1_copyFrom_55 rfl (lv_at hl 1 rfl) ?_
  refine va_get (D := D) (ci := 1) (v := .ref ((g 1) 6)) (C := RX1) (T := TX1) (N := 12) hx hb hts inX1 hown hE.1 hP 31 rfl rfl 5 (by decide) F27 (fun _ h9 => h9) rfl dX1_copyFrom_56 ?_
  refine lv_aload_n hx hb dX1_copyFrom_59 rfl (lv_at hl 0 rfl) ?_
  refine va_get (D := D) (ci := 1) (v := .ref (a 6)) (C := RX1) (T := TX1) (N := 12) hx hb hts inX1 hown hE.1 hP 0 rfl rfl 5 (by decide) F27 (fun _ h9 => h9) rfl dX1_copyFrom_60 ?_
  refine wr_SN (rest := []) ⟨hx, hb, hml, hown, hts⟩ hP hE hA hD hS (c_X3_copyRow l D K _ _ 37 6 _ _ 4 _ _ rfl rfl (by decide)) (va_cnB (host := RX3) 2 hts gX1_copyFrom_X3_copyRow_n62 rfl rfl rfl hE.2.2.2.2.2.2.2.2.2.2.2.1 IniX3 hn_X3_copyRow ⟨Nat.le_of_ble_eq_true rfl, Nat.le_of_ble_eq_true rfl⟩) Sta_X3_copyRow rfl hl.1 rfl (Nat.le_of_ble_eq_true rfl) dX1_copyFrom_63 ⟨Nat.le_of_ble_eq_true rfl, Nat.le_of_ble_eq_true rfl⟩ (fun H locs hP hD hS => ?_)
  have hP : va_P D vwCl (townW K a (va_up (va_up (va_up (va_up (va_up (va_up T 0 ((Sv 1) 0)) 1 ((Sv 1) 1)) 2 ((Sv 1) 2)) 3 ((Sv 1) 3)) 4 ((Sv 1) 4)) 5 ((Sv 1) 5)) ++ (waysW K b len qu n ++ (textW K t cs ln ++ (m0 :: m1 :: svW K g Sv X)))) H := hP
  have hD : va_D A (townW K a (va_up (va_up (va_up (va_up (va_up (va_up T 0 ((Sv 1) 0)) 1 ((Sv 1) 1)) 2 ((Sv 1) 2)) 3 ((Sv 1) 3)) 4 ((Sv 1) 4)) 5 ((Sv 1) 5)) ++ (waysW K b len qu n ++ (textW K t cs ln ++ (m0 :: m1 :: svW K g Sv X)))) := hD
  refine lv_aload_n hx hb dX1_copyFrom_66 rfl (lv_at hl 1 rfl) ?_
  refine va_get (D := D) (ci := 1) (v := .ref ((g 1) 7)) (C := RX1) (T := TX1) (N := 12) hx hb hts inX1 hown hE.1 hP 31 rfl rfl 6 (by decide) F38 (fun _ h9 => h9) rfl dX1_copyFrom_67 ?_
  refine lv_aload_n hx hb dX1_copyFrom_70 rfl (lv_at hl 0 rfl) ?_
  refine va_get (D := D) (ci := 1) (v := .ref (a 7)) (C := RX1) (T := TX1) (N := 12) hx hb hts inX1 hown hE.1 hP 0 rfl rfl 6 (by decide) F38 (fun _ h9 => h9) rfl dX1_copyFrom_71 ?_
  refine wr_SN (rest := []) ⟨hx, hb, hml, hown, hts⟩ hP hE hA hD hS (c_X3_copyRow l D K _ _ 38 7 _ _ 4 _ _ rfl rfl (by decide)) (va_cnB (host := RX3) 2 hts gX1_copyFrom_X3_copyRow_n62 rfl rfl rfl hE.2.2.2.2.2.2.2.2.2.2.2.1 IniX3 hn_X3_copyRow ⟨Nat.le_of_ble_eq_true rfl, Nat.le_of_ble_eq_true rfl⟩) Sta_X3_copyRow rfl hl.1 rfl (Nat.le_of_ble_eq_true rfl) dX1_copyFrom_74 ⟨Nat.le_of_ble_eq_true rfl, Nat.le_of_ble_eq_true rfl⟩ (fun H locs hP hD hS => ?_)
  have hP : va_P D vwCl (townW K a (va_up (va_up (va_up (va_up (va_up (va_up (va_up T 0 ((Sv 1) 0)) 1 ((Sv 1) 1)) 2 ((Sv 1) 2)) 3 ((Sv 1) 3)) 4 ((Sv 1) 4)) 5 ((Sv 1) 5)) 6 ((Sv 1) 6)) ++ (waysW K b len qu n ++ (textW K t cs ln ++ (m0 :: m1 :: svW K g Sv X)))) H := hP
  have hD : va_D A (townW K a (va_up (va_up (va_up (va_up (va_up (va_up (va_up T 0 ((Sv 1) 0)) 1 ((Sv 1) 1)) 2 ((Sv 1) 2)) 3 ((Sv 1) 3)) 4 ((Sv 1) 4)) 5 ((Sv 1) 5)) 6 ((Sv 1) 6)) ++ (waysW K b len qu n ++ (textW K t cs ln ++ (m0 :: m1 :: svW K g Sv X)))) := hD
  refine lv_aload_n hx hb dX1_copyFrom_77 rfl (lv_at hl 1 rfl) ?_
  refine va_get (D := D) (ci := 1) (v := .ref ((g 1) 8)) (C := RX1) (T := TX1) (N := 12) hx hb hts inX1 hown hE.1 hP 31 rfl rfl 7 (by decide) F41 (fun _ h9 => h9) rfl dX1_copyFrom_78 ?_
  refine lv_aload_n hx hb dX1_copyFrom_81 rfl (lv_at hl 0 rfl) ?_
  refine va_get (D := D) (ci := 1) (v := .ref (a 8)) (C := RX1) (T := TX1) (N := 12) hx hb hts inX1 hown hE.1 hP 0 rfl rfl 7 (by decide) F41 (fun _ h9 => h9) rfl dX1_copyFrom_82 ?_
  refine wr_SN (rest := []) ⟨hx, hb, hml, hown, hts⟩ hP hE hA hD hS (c_X3_copyRow l D K _ _ 39 8 _ _ 4 _ _ rfl rfl (by decide)) (va_cnB (host := RX3) 2 hts gX1_copyFrom_X3_copyRow_n62 rfl rfl rfl hE.2.2.2.2.2.2.2.2.2.2.2.1 IniX3 hn_X3_copyRow ⟨Nat.le_of_ble_eq_true rfl, Nat.le_of_ble_eq_true rfl⟩) Sta_X3_copyRow rfl hl.1 rfl (Nat.le_of_ble_eq_true rfl) dX1_copyFrom_85 ⟨Nat.le_of_ble_eq_true rfl, Nat.le_of_ble_eq_true rfl⟩ (fun H locs hP hD hS => ?_)
  have hP : va_P D vwCl (townW K a (va_up (va_up (va_up (va_up (va_up (va_up (va_up (va_up T 0 ((Sv 1) 0)) 1 ((Sv 1) 1)) 2 ((Sv 1) 2)) 3 ((Sv 1) 3)) 4 ((Sv 1) 4)) 5 ((Sv 1) 5)) 6 ((Sv 1) 6)) 7 ((Sv 1) 7)) ++ (waysW K b len qu n ++ (textW K t cs ln ++ (m0 :: m1 :: svW K g Sv X)))) H := hP
  have hD : va_D A (townW K a (va_up (va_up (va_up (va_up (va_up (va_up (va_up (va_up T 0 ((Sv 1) 0)) 1 ((Sv 1) 1)) 2 ((Sv 1) 2)) 3 ((Sv 1) 3)) 4 ((Sv 1) 4)) 5 ((Sv 1) 5)) 6 ((Sv 1) 6)) 7 ((Sv 1) 7)) ++ (waysW K b len qu n ++ (textW K t cs ln ++ (m0 :: m1 :: svW K g Sv X)))) := hD
  refine lv_aload_n hx hb dX1_copyFrom_88 rfl (lv_at hl 1 rfl) ?_
  refine va_get (D := D) (ci := 1) (v := .ref ((g 1) 9)) (C := RX1) (T := TX1) (N := 12) hx hb hts inX1 hown hE.1 hP 31 rfl rfl 8 (by decide) F44 (fun _ h9 => h9) rfl dX1_copyFrom_89 ?_
  refine lv_aload_n hx hb dX1_copyFrom_92 rfl (lv_at hl 0 rfl) ?_
  refine va_get (D := D) (ci := 1) (v := .ref (a 9)) (C := RX1) (T := TX1) (N := 12) hx hb hts inX1 hown hE.1 hP 0 rfl rfl 8 (by decide) F44 (fun _ h9 => h9) rfl dX1_copyFrom_93 ?_
  refine wr_SN (rest := []) ⟨hx, hb, hml, hown, hts⟩ hP hE hA hD hS (c_X3_copyRow l D K _ _ 40 9 _ _ 4 _ _ rfl rfl (by decide)) (va_cnB (host := RX3) 2 hts gX1_copyFrom_X3_copyRow_n62 rfl rfl rfl hE.2.2.2.2.2.2.2.2.2.2.2.1 IniX3 hn_X3_copyRow ⟨Nat.le_of_ble_eq_true rfl, Nat.le_of_ble_eq_true rfl⟩) Sta_X3_copyRow rfl hl.1 rfl (Nat.le_of_ble_eq_true rfl) dX1_copyFrom_96 ⟨Nat.le_of_ble_eq_true rfl, Nat.le_of_ble_eq_true rfl⟩ (fun H locs hP hD hS => ?_)
  have hP : va_P D vwCl (townW K a (va_up (va_up (va_up (va_up (va_up (va_up (va_up (va_up (va_up T 0 ((Sv 1) 0)) 1 ((Sv 1) 1)) 2 ((Sv 1) 2)) 3 ((Sv 1) 3)) 4 ((Sv 1) 4)) 5 ((Sv 1) 5)) 6 ((Sv 1) 6)) 7 ((Sv 1) 7)) 8 ((Sv 1) 8)) ++ (waysW K b len qu n ++ (textW K t cs ln ++ (m0 :: m1 :: svW K g Sv X)))) H := hP
  have hD : va_D A (townW K a (va_up (va_up (va_up (va_up (va_up (va_up (va_up (va_up (va_up T 0 ((Sv 1) 0)) 1 ((Sv 1) 1)) 2 ((Sv 1) 2)) 3 ((Sv 1) 3)) 4 ((Sv 1) 4)) 5 ((Sv 1) 5)) 6 ((Sv 1) 6)) 7 ((Sv 1) 7)) 8 ((Sv 1) 8)) ++ (waysW K b len qu n ++ (textW K t cs ln ++ (m0 :: m1 :: svW K g Sv X)))) := hD
  refine lv_aload_n hx hb dX1_copyFrom_99 rfl (lv_at hl 1 rfl) ?_
  refine va_get (D := D) (ci := 1) (v := .ref ((g 1) 10)) (C := RX1) (T := TX1) (N := 12) hx hb hts inX1 hown hE.1 hP 31 rfl rfl 9 (by decide) F47 (fun _ h9 => h9) rfl dX1_copyFrom_100 ?_
  refine lv_aload_n hx hb dX1_copyFrom_103 rfl (lv_at hl 0 rfl) ?_
  refine va_get (D := D) (ci := 1) (v := .ref (a 10)) (C := RX1) (T := TX1) (N := 12) hx hb hts inX1 hown hE.1 hP 0 rfl rfl 9 (by decide) F47 (fun _ h9 => h9) rfl dX1_copyFrom_104 ?_
  refine wr_SN (rest := []) ⟨hx, hb, hml, hown, hts⟩ hP hE hA hD hS (c_X3_copyRow l D K _ _ 41 10 _ _ 4 _ _ rfl rfl (by decide)) (va_cnB (host := RX3) 2 hts gX1_copyFrom_X3_copyRow_n62 rfl rfl rfl hE.2.2.2.2.2.2.2.2.2.2.2.1 IniX3 hn_X3_copyRow ⟨Nat.le_of_ble_eq_true rfl, Nat.le_of_ble_eq_true rfl⟩) Sta_X3_copyRow rfl hl.1 rfl (Nat.le_of_ble_eq_true rfl) dX1_copyFrom_107 ⟨Nat.le_of_ble_eq_true rfl, Nat.le_of_ble_eq_true rfl⟩ (fun H locs hP hD hS => ?_)
  have hP : va_P D vwCl (townW K a (va_up (va_up (va_up (va_up (va_up (va_up (va_up (va_up (va_up (va_up T 0 ((Sv 1) 0)) 1 ((Sv 1) 1)) 2 ((Sv 1) 2)) 3 ((Sv 1) 3)) 4 ((Sv 1) 4)) 5 ((Sv 1) 5)) 6 ((Sv 1) 6)) 7 ((Sv 1) 7)) 8 ((Sv 1) 8)) 9 ((Sv 1) 9)) ++ (waysW K b len qu n ++ (textW K t cs ln ++ (m0 :: m1 :: svW K g Sv X)))) H := hP
  have hD : va_D A (townW K a (va_up (va_up (va_up (va_up (va_up (va_up (va_up (va_up (va_up (va_up T 0 ((Sv 1) 0)) 1 ((Sv 1) 1)) 2 ((Sv 1) 2)) 3 ((Sv 1) 3)) 4 ((Sv 1) 4)) 5 ((Sv 1) 5)) 6 ((Sv 1) 6)) 7 ((Sv 1) 7)) 8 ((Sv 1) 8)) 9 ((Sv 1) 9)) ++ (waysW K b len qu n ++ (textW K t cs ln ++ (m0 :: m1 :: svW K g Sv X)))) := hD
  refine lv_aload_n hx hb dX1_copyFrom_110 rfl (lv_at hl 1 rfl) ?_
  refine va_get (D := D) (ci := 1) (v := .ref ((g 1) 11)) (C := RX1) (T := TX1) (N := 12) hx hb hts inX1 hown hE.1 hP 31 rfl rfl 10 (by decide) F53 (fun _ h9 => h9) rfl dX1_copyFrom_111 ?_
  refine lv_aload_n hx hb dX1_copyFrom_114 rfl (lv_at hl 0 rfl) ?_
  refine va_get (D := D) (ci := 1) (v := .ref (a 11)) (C := RX1) (T := TX1) (N := 12) hx hb hts inX1 hown hE.1 hP 0 rfl rfl 10 (by decide) F53 (fun _ h9 => h9) rfl dX1_copyFrom_115 ?_
  refine wr_SN (rest := []) ⟨hx, hb, hml, hown, hts⟩ hP hE hA hD hS (c_X3_copyRow l D K _ _ 42 11 _ _ 3 _ _ rfl rfl (by decide)) (va_cnB (host := RX3) 2 hts gX1_copyFrom_X3_copyRow_n62 rfl rfl rfl hE.2.2.2.2.2.2.2.2.2.2.2.1 IniX3 hn_X3_copyRow ⟨Nat.le_of_ble_eq_true rfl, Nat.le_of_ble_eq_true rfl⟩) Sta_X3_copyRow rfl hl.1 rfl (Nat.le_of_ble_eq_true rfl) dX1_copyFrom_118 ⟨Nat.le_of_ble_eq_true rfl, Nat.le_of_ble_eq_true rfl⟩ (fun H locs hP hD hS => ?_)
  have hP : va_P D vwCl (townW K a (va_up (va_up (va_up (va_up (va_up (va_up (va_up (va_up (va_up (va_up (va_up T 0 ((Sv 1) 0)) 1 ((Sv 1) 1)) 2 ((Sv 1) 2)) 3 ((Sv 1) 3)) 4 ((Sv 1) 4)) 5 ((Sv 1) 5)) 6 ((Sv 1) 6)) 7 ((Sv 1) 7)) 8 ((Sv 1) 8)) 9 ((Sv 1) 9)) 10 ((Sv 1) 10)) ++ (waysW K b len qu n ++ (textW K t cs ln ++ (m0 :: m1 :: svW K g Sv X)))) H := hP
  have hD : va_D A (townW K a (va_up (va_up (va_up (va_up (va_up (va_up (va_up (va_up (va_up (va_up (va_up T 0 ((Sv 1) 0)) 1 ((Sv 1) 1)) 2 ((Sv 1) 2)) 3 ((Sv 1) 3)) 4 ((Sv 1) 4)) 5 ((Sv 1) 5)) 6 ((Sv 1) 6)) 7 ((Sv 1) 7)) 8 ((Sv 1) 8)) 9 ((Sv 1) 9)) 10 ((Sv 1) 10)) ++ (waysW K b len qu n ++ (textW K t cs ln ++ (m0 :: m1 :: svW K g Sv X)))) := hD
  refine lv_aload_n hx hb dX1_copyFrom_121 rfl (lv_at hl 0 rfl) ?_
  refine lv_aload_n hx hb dX1_copyFrom_122 rfl (lv_at hl 1 rfl) ?_
  refine va_get (D := D) (ci := 1) (v := .int ((Sv 1) 11 0)) (C := RX1) (T := TX1) (N := 12) hx hb hts inX1 hown hE.1 hP 31 rfl rfl 11 (by decide) F66 (fun _ h9 => h9) rfl dX1_copyFrom_123 ?_
  refine va_put (D := D) (ci := 1) (v := .int ((Sv 1) 11 0)) (ty := .int) (C := RX1) (T := TX1) (N := 12) hx hb hts inX1 tyX1 tyX1_ok nmX1 hown hE.1 hP hD hS 0 rfl rfl 11 (by decide) F66 (fun _ h9 => h9) rfl (by decide +kernel) rfl rfl (Nat.le_of_ble_eq_true rfl) dX1_copyFrom_126 (fun H locs hP hD hS => ?_)
  have hP : va_P D vwCl (townW K a (setT (va_up (va_up (va_up (va_up (va_up (va_up (va_up (va_up (va_up (va_up (va_up T 0 ((Sv 1) 0)) 1 ((Sv 1) 1)) 2 ((Sv 1) 2)) 3 ((Sv 1) 3)) 4 ((Sv 1) 4)) 5 ((Sv 1) 5)) 6 ((Sv 1) 6)) 7 ((Sv 1) 7)) 8 ((Sv 1) 8)) 9 ((Sv 1) 9)) 10 ((Sv 1) 10)) 11 0 ((Sv 1) 11 0)) ++ (waysW K b len qu n ++ (textW K t cs ln ++ (m0 :: m1 :: svW K g Sv X)))) H := hP
  have hD : va_D A (townW K a (setT (va_up (va_up (va_up (va_up (va_up (va_up (va_up (va_up (va_up (va_up (va_up T 0 ((Sv 1) 0)) 1 ((Sv 1) 1)) 2 ((Sv 1) 2)) 3 ((Sv 1) 3)) 4 ((Sv 1) 4)) 5 ((Sv 1) 5)) 6 ((Sv 1) 6)) 7 ((Sv 1) 7)) 8 ((Sv 1) 8)) 9 ((Sv 1) 9)) 10 ((Sv 1) 10)) 11 0 ((Sv 1) 11 0)) ++ (waysW K b len qu n ++ (textW K t cs ln ++ (m0 :: m1 :: svW K g Sv X)))) := hD
  have hP : va_P D vwCl (townW K a (Sv 1) ++ (waysW K b len qu n ++ (textW K t cs ln ++ (m0 :: m1 :: svW K g Sv X)))) H := hP
  have hD : va_D A (townW K a (Sv 1) ++ (waysW K b len qu n ++ (textW K t cs ln ++ (m0 :: m1 :: svW K g Sv X)))) := hD
  exact wr_vret hAe hP hD hS hx hb hr hk dX1_copyFrom_129 ⟨Nat.le_of_ble_eq_true rfl, Nat.le_of_ble_eq_true rfl⟩
set_option maxHeartbeats 4000000 in
set_option maxRecDepth 100000 in
theorem c_X1_copyFrom_u2 (l : Launch) (D : va_G) (K : Nat → ClassId) (sz : Nat) (a b t : Nat → Nat) (g : Nat → Nat → Nat) (T : TW) (X : va_W) (len : Nat → Option Nat) (qu : Nat → Nat) (n : Nat) (cs : Nat → Nat) (ln : Nat) (m0 m1 : Nat × va_E) (Sv : Nat → TW) : Wr l yX1_copyFrom wsX1_copyFrom ({ frames := 3, cells := 0, slots := 0, locals := 61 } : Room) D K (townW K a T ++ (waysW K b len qu n ++ (textW K t cs ln ++ (m0 :: m1 :: svW K g Sv X)))) sz [.ref (a 0), .ref ((g 2) 0)] (townW K a (Sv 2) ++ (waysW K b len qu n ++ (textW K t cs ln ++ (m0 :: m1 :: svW K g Sv X)))) none 0 0 := by
  refine wr_intro (cc := cX1_copyFrom) (maxL := 2) (ret := none) (by decide) rfl (Nat.le_of_ble_eq_true rfl) ?_
  intro pr en st md ar bl mt co A hx hb hml hr hts hown hk hsz hAe hP hE hD hS hA hin ls hl
  have hown : st.vm.findClass RX1 = some md.cls := hown
  have hl : lv_has ls 2 [(0, .ref (a 0)), (1, .ref ((g 2) 0))] := hl
  obtain ⟨H, hH⟩ : ∃ z, z = st.heap := ⟨_, rfl⟩
  obtain ⟨locs, hlo⟩ : ∃ z : List Loc, z = [] := ⟨_, rfl⟩
  have hP : va_P D vwCl (townW K a T ++ (waysW K b len qu n ++ (textW K t cs ln ++ (m0 :: m1 :: svW K g Sv X)))) H := by rw [hH]; exact hP
  have hS : va_S A st.heap H locs := by rw [hH, hlo]; exact hS
  suffices go : W pr l en (headSpec wsX1_copyFrom ({ frames := 3, cells := 0, slots := 0, locals := 61 } : Room)).room st md ar bl mt co H locs 0 0 (MQ bl (wrQ D (townW K a T ++ (waysW K b len qu n ++ (textW K t cs ln ++ (m0 :: m1 :: svW K g Sv X)))) (townW K a (Sv 2) ++ (waysW K b len qu n ++ (textW K t cs ln ++ (m0 :: m1 :: svW K g Sv X)))) sz none) ar st 0 0 A) (F0 md 0 ls []) by rw [hH, hlo] at go; exact go
  clear hH hlo
  have F9 : (Cond.fieldLink RX1 9 "TramTolls$Town" "houses" "[I").before ar st = true := hts _ (List.mem_of_getElem? (i := 1) rfl)
  have inX1 : ∀ w ∈ u_ws RX1 TX1 12, w ∈ wsX1_copyFrom := fun w h => List.mem_cons_of_mem _ (List.mem_append_right _ h)
  have IniX3 : (Cond.initialized RX3).before ar st = true := hts _ (List.mem_of_getElem? (i := 14) rfl)
  have Sta_X3_copyRow : (Cond.static yX3_copyRow).before ar st = true := hts _ (List.mem_of_getElem? (i := 13) rfl)
  have F15 : (Cond.fieldLink RX1 15 "TramTolls$Town" "trackMasks" "[I").before ar st = true := hts _ (List.mem_of_getElem? (i := 2) rfl)
  have F18 : (Cond.fieldLink RX1 18 "TramTolls$Town" "owners" "[I").before ar st = true := hts _ (List.mem_of_getElem? (i := 3) rfl)
  have F21 : (Cond.fieldLink RX1 21 "TramTolls$Town" "stopSquares" "[I").before ar st = true := hts _ (List.mem_of_getElem? (i := 4) rfl)
  have F24 : (Cond.fieldLink RX1 24 "TramTolls$Town" "stopPlayers" "[I").before ar st = true := hts _ (List.mem_of_getElem? (i := 5) rfl)
  have F27 : (Cond.fieldLink RX1 27 "TramTolls$Town" "coins" "[I").before ar st = true := hts _ (List.mem_of_getElem? (i := 6) rfl)
  have F38 : (Cond.fieldLink RX1 38 "TramTolls$Town" "heads" "[I").before ar st = true := hts _ (List.mem_of_getElem? (i := 7) rfl)
  have F41 : (Cond.fieldLink RX1 41 "TramTolls$Town" "lastDirections" "[I").before ar st = true := hts _ (List.mem_of_getElem? (i := 8) rfl)
  have F44 : (Cond.fieldLink RX1 44 "TramTolls$Town" "tollsPaid" "[I").before ar st = true := hts _ (List.mem_of_getElem? (i := 9) rfl)
  have F47 : (Cond.fieldLink RX1 47 "TramTolls$Town" "tollsGot" "[I").before ar st = true := hts _ (List.mem_of_getElem? (i := 10) rfl)
  have F53 : (Cond.fieldLink RX1 53 "TramTolls$Town" "settings" "[I").before ar st = true := hts _ (List.mem_of_getElem? (i := 11) rfl)
  have F66 : (Cond.fieldLink RX1 66 "TramTolls$Town" "piecesLaid" "I").before ar st = true := hts _ (List.mem_of_getElem? (i := 12) rfl)
  refine lv_aload_n hx hb dX1_copyFrom_0 rfl (lv_at hl 1 rfl) ?_
  refine va_get (D := D) (ci := 1) (v := .ref ((g 2) 1)) (C := RX1) (T := TX1) (N := 12) hx hb hts inX1 hown hE.1 hP 43 rfl rfl 0 (by decide) F9 (fun _ h9 => h9) rfl dX1_copyFrom_1 ?_
  refine lv_aload_n hx hb dX1_copyFrom_4 rfl (lv_at hl 0 rfl) ?_
  refine va_get (D := D) (ci := 1) (v := .ref (a 1)) (C := RX1) (T := TX1) (N := 12) hx hb hts inX1 hown hE.1 hP 0 rfl rfl 0 (by decide) F9 (fun _ h9 => h9) rfl dX1_copyFrom_5 ?_
  refine wr_SN (rest := []) ⟨hx, hb, hml, hown, hts⟩ hP hE hA hD hS (c_X3_copyRow l D K _ _ 44 1 _ _ 80 _ _ rfl rfl (by decide)) (va_cnB (host := RX3) 2 hts gX1_copyFrom_X3_copyRow_n62 rfl rfl rfl hE.2.2.2.2.2.2.2.2.2.2.2.1 IniX3 hn_X3_copyRow ⟨Nat.le_of_ble_eq_true rfl, Nat.le_of_ble_eq_true rfl⟩) Sta_X3_copyRow rfl hl.1 rfl (Nat.le_of_ble_eq_true rfl) dX1_copyFrom_8 ⟨Nat.le_of_ble_eq_true rfl, Nat.le_of_ble_eq_true rfl⟩ (fun H locs hP hD hS => ?_)
  have hP : va_P D vwCl (townW K a (va_up T 0 ((Sv 2) 0)) ++ (waysW K b len qu n ++ (textW K t cs ln ++ (m0 :: m1 :: svW K g Sv X)))) H := hP
  have hD : va_D A (townW K a (va_up T 0 ((Sv 2) 0)) ++ (waysW K b len qu n ++ (textW K t cs ln ++ (m0 :: m1 :: svW K g Sv X)))) := hD
  refine lv_aload_n hx hb dX1_copyFrom_11 rfl (lv_at hl 1 rfl) ?_
  refine va_get (D := D) (ci := 1) (v := .ref ((g 2) 2)) (C := RX1) (T := TX1) (N := 12) hx hb hts inX1 hown hE.1 hP 43 rfl rfl 1 (by decide) F15 (fun _ h9 => h9) rfl dX1_copyFrom_12 ?_
  refine lv_aload_n hx hb dX1_copyFrom_15 rfl (lv_at hl 0 rfl) ?_
  refine va_get (D := D) (ci := 1) (v := .ref (a 2)) (C := RX1) (T := TX1) (N := 12) hx hb hts inX1 hown hE.1 hP 0 rfl rfl 1 (by decide) F15 (fun _ h9 => h9) rfl dX1_copyFrom_16 ?_
  refine wr_SN (rest := []) ⟨hx, hb, hml, hown, hts⟩ hP hE hA hD hS (c_X3_copyRow l D K _ _ 45 2 _ _ 80 _ _ rfl rfl (by decide)) (va_cnB (host := RX3) 2 hts gX1_copyFrom_X3_copyRow_n62 rfl rfl rfl hE.2.2.2.2.2.2.2.2.2.2.2.1 IniX3 hn_X3_copyRow ⟨Nat.le_of_ble_eq_true rfl, Nat.le_of_ble_eq_true rfl⟩) Sta_X3_copyRow rfl hl.1 rfl (Nat.le_of_ble_eq_true rfl) dX1_copyFrom_19 ⟨Nat.le_of_ble_eq_true rfl, Nat.le_of_ble_eq_true rfl⟩ (fun H locs hP hD hS => ?_)
  have hP : va_P D vwCl (townW K a (va_up (va_up T 0 ((Sv 2) 0)) 1 ((Sv 2) 1)) ++ (waysW K b len qu n ++ (textW K t cs ln ++ (m0 :: m1 :: svW K g Sv X)))) H := hP
  have hD : va_D A (townW K a (va_up (va_up T 0 ((Sv 2) 0)) 1 ((Sv 2) 1)) ++ (waysW K b len qu n ++ (textW K t cs ln ++ (m0 :: m1 :: svW K g Sv X)))) := hD
  refine lv_aload_n hx hb dX1_copyFrom_22 rfl (lv_at hl 1 rfl) ?_
  refine va_get (D := D) (ci := 1) (v := .ref ((g 2) 3)) (C := RX1) (T := TX1) (N := 12) hx hb hts inX1 hown hE.1 hP 43 rfl rfl 2 (by decide) F18 (fun _ h9 => h9) rfl dX1_copyFrom_23 ?_
  refine lv_aload_n hx hb dX1_copyFrom_26 rfl (lv_at hl 0 rfl) ?_
  refine va_get (D := D) (ci := 1) (v := .ref (a 3)) (C := RX1) (T := TX1) (N := 12) hx hb hts inX1 hown hE.1 hP 0 rfl rfl 2 (by decide) F18 (fun _ h9 => h9) rfl dX1_copyFrom_27 ?_
  refine wr_SN (rest := []) ⟨hx, hb, hml, hown, hts⟩ hP hE hA hD hS (c_X3_copyRow l D K _ _ 46 3 _ _ 80 _ _ rfl rfl (by decide)) (va_cnB (host := RX3) 2 hts gX1_copyFrom_X3_copyRow_n62 rfl rfl rfl hE.2.2.2.2.2.2.2.2.2.2.2.1 IniX3 hn_X3_copyRow ⟨Nat.le_of_ble_eq_true rfl, Nat.le_of_ble_eq_true rfl⟩) Sta_X3_copyRow rfl hl.1 rfl (Nat.le_of_ble_eq_true rfl) dX1_copyFrom_30 ⟨Nat.le_of_ble_eq_true rfl, Nat.le_of_ble_eq_true rfl⟩ (fun H locs hP hD hS => ?_)
  have hP : va_P D vwCl (townW K a (va_up (va_up (va_up T 0 ((Sv 2) 0)) 1 ((Sv 2) 1)) 2 ((Sv 2) 2)) ++ (waysW K b len qu n ++ (textW K t cs ln ++ (m0 :: m1 :: svW K g Sv X)))) H := hP
  have hD : va_D A (townW K a (va_up (va_up (va_up T 0 ((Sv 2) 0)) 1 ((Sv 2) 1)) 2 ((Sv 2) 2)) ++ (waysW K b len qu n ++ (textW K t cs ln ++ (m0 :: m1 :: svW K g Sv X)))) := hD
  refine lv_aload_n hx hb dX1_copyFrom_33 rfl (lv_at hl 1 rfl) ?_
  refine va_get (D := D) (ci := 1) (v := .ref ((g 2) 4)) (C := RX1) (T := TX1) (N := 12) hx hb hts inX1 hown hE.1 hP 43 rfl rfl 3 (by decide) F21 (fun _ h9 => h9) rfl dX1_copyFrom_34 ?_
  refine lv_aload_n hx hb dX1_copyFrom_37 rfl (lv_at hl 0 rfl) ?_
  refine va_get (D := D) (ci := 1) (v := .ref (a 4)) (C := RX1) (T := TX1) (N := 12) hx hb hts inX1 hown hE.1 hP 0 rfl rfl 3 (by decide) F21 (fun _ h9 => h9) rfl dX1_copyFrom_38 ?_
  refine wr_SN (rest := []) ⟨hx, hb, hml, hown, hts⟩ hP hE hA hD hS (c_X3_copyRow l D K _ _ 47 4 _ _ 12 _ _ rfl rfl (by decide)) (va_cnB (host := RX3) 2 hts gX1_copyFrom_X3_copyRow_n62 rfl rfl rfl hE.2.2.2.2.2.2.2.2.2.2.2.1 IniX3 hn_X3_copyRow ⟨Nat.le_of_ble_eq_true rfl, Nat.le_of_ble_eq_true rfl⟩) Sta_X3_copyRow rfl hl.1 rfl (Nat.le_of_ble_eq_true rfl) dX1_copyFrom_41 ⟨Nat.le_of_ble_eq_true rfl, Nat.le_of_ble_eq_true rfl⟩ (fun H locs hP hD hS => ?_)
  have hP : va_P D vwCl (townW K a (va_up (va_up (va_up (va_up T 0 ((Sv 2) 0)) 1 ((Sv 2) 1)) 2 ((Sv 2) 2)) 3 ((Sv 2) 3)) ++ (waysW K b len qu n ++ (textW K t cs ln ++ (m0 :: m1 :: svW K g Sv X)))) H := hP
  have hD : va_D A (townW K a (va_up (va_up (va_up (va_up T 0 ((Sv 2) 0)) 1 ((Sv 2) 1)) 2 ((Sv 2) 2)) 3 ((Sv 2) 3)) ++ (waysW K b len qu n ++ (textW K t cs ln ++ (m0 :: m1 :: svW K g Sv X)))) := hD
  refine lv_aload_n hx hb dX1_copyFrom_44 rfl (lv_at hl 1 rfl) ?_
  refine va_get (D := D) (ci := 1) (v := .ref ((g 2) 5)) (C := RX1) (T := TX1) (N := 12) hx hb hts inX1 hown hE.1 hP 43 rfl rfl 4 (by decide) F24 (fun _ h9 => h9) rfl dX1_copyFrom_45 ?_
  refine lv_aload_n hx hb dX1_copyFrom_48 rfl (lv_at hl 0 rfl) ?_
  refine va_get (D := D) (ci := 1) (v := .ref (a 5)) (C := RX1) (T := TX1) (N := 12) hx hb hts inX1 hown hE.1 hP 0 rfl rfl 4 (by decide) F24 (fun _ h9 => h9) rfl dX1_copyFrom_49 ?_
  refine wr_SN (rest := []) ⟨hx, hb, hml, hown, hts⟩ hP hE hA hD hS (c_X3_copyRow l D K _ _ 48 5 _ _ 12 _ _ rfl rfl (by decide)) (va_cnB (host := RX3) 2 hts gX1_copyFrom_X3_copyRow_n62 rfl rfl rfl hE.2.2.2.2.2.2.2.2.2.2.2.1 IniX3 hn_X3_copyRow ⟨Nat.le_of_ble_eq_true rfl, Nat.le_of_ble_eq_true rfl⟩) Sta_X3_copyRow rfl hl.1 rfl (Nat.le_of_ble_eq_true rfl) dX1_copyFrom_52 ⟨Nat.le_of_ble_eq_true rfl, Nat.le_of_ble_eq_true rfl⟩ (fun H locs hP hD hS => ?_)
  have hP : va_P D vwCl (townW K a (va_up (va_up (va_up (va_up (va_up T 0 ((Sv 2) 0)) 1 ((Sv 2) 1)) 2 ((Sv 2) 2)) 3 ((Sv 2) 3)) 4 ((Sv 2) 4)) ++ (waysW K b len qu n ++ (textW K t cs ln ++ (m0 :: m1 :: svW K g Sv X)))) H := hP
  have hD : va_D A (townW K a (va_up (va_up (va_up (va_up (va_up T 0 ((Sv 2) 0)) 1 ((Sv 2) 1)) 2 ((Sv 2) 2)) 3 ((Sv 2) 3)) 4 ((Sv 2) 4)) ++ (waysW K b len qu n ++ (textW K t cs ln ++ (m0 :: m1 :: svW K g Sv X)))) := hD
  refine lv_aload_n hx hb dX1_copyFrom_55 rfl (lv_at hl 1 rfl) ?_
  refine va_get (D := D) (ci := 1) (v := .ref ((g 2) 6)) (C := RX1) (T := TX1) (N := 12) hx hb hts inX1 hown hE.1 hP 43 rfl rfl 5 (by decide) F27 (fun _ h9 => h9) rfl dX1_copyFrom_56 ?_
  refine lv_aload_n hx hb dX1_copyFrom_59 rfl (lv_at hl 0 rfl) ?_
  refine va_get (D := D) (ci := 1) (v := .ref (a 6)) (C := RX1) (T := TX1) (N := 12) hx hb hts inX1 hown hE.1 hP 0 rfl rfl 5 (by decide) F27 (fun _ h9 => h9) rfl dX1_copyFrom_60 ?_
  refine wr_SN (rest := []) ⟨hx, hb, hml, hown, hts⟩ hP hE hA hD hS (c_X3_copyRow l D K _ _ 49 6 _ _ 4 _ _ rfl rfl (by decide)) (va_cnB (host := RX3) 2 hts gX1_copyFrom_X3_copyRow_n62 rfl rfl rfl hE.2.2.2.2.2.2.2.2.2.2.2.1 IniX3 hn_X3_copyRow ⟨Nat.le_of_ble_eq_true rfl, Nat.le_of_ble_eq_true rfl⟩) Sta_X3_copyRow rfl hl.1 rfl (Nat.le_of_ble_eq_true rfl) dX1_copyFrom_63 ⟨Nat.le_of_ble_eq_true rfl, Nat.le_of_ble_eq_true rfl⟩ (fun H locs hP hD hS => ?_)
  have hP : va_P D vwCl (townW K a (va_up (va_up (va_up (va_up (va_up (va_up T 0 ((Sv 2) 0)) 1 ((Sv 2) 1)) 2 ((Sv 2) 2)) 3 ((Sv 2) 3)) 4 ((Sv 2) 4)) 5 ((Sv 2) 5)) ++ (waysW K b len qu n ++ (textW K t cs ln ++ (m0 :: m1 :: svW K g Sv X)))) H := hP
  have hD : va_D A (townW K a (va_up (va_up (va_up (va_up (va_up (va_up T 0 ((Sv 2) 0)) 1 ((Sv 2) 1)) 2 ((Sv 2) 2)) 3 ((Sv 2) 3)) 4 ((Sv 2) 4)) 5 ((Sv 2) 5)) ++ (waysW K b len qu n ++ (textW K t cs ln ++ (m0 :: m1 :: svW K g Sv X)))) := hD
  refine lv_aload_n hx hb dX1_copyFrom_66 rfl (lv_at hl 1 rfl) ?_
  refine va_get (D := D) (ci := 1) (v := .ref ((g 2) 7)) (C := RX1) (T := TX1) (N := 12) hx hb hts inX1 hown hE.1 hP 43 rfl rfl 6 (by decide) F38 (fun _ h9 => h9) rfl dX1_copyFrom_67 ?_
  refine lv_aload_n hx hb dX1_copyFrom_70 rfl (lv_at hl 0 rfl) ?_
  refine va_get (D := D) (ci := 1) (v := .ref (a 7)) (C := RX1) (T := TX1) (N := 12) hx hb hts inX1 hown hE.1 hP 0 rfl rfl 6 (by decide) F38 (fun _ h9 => h9) rfl dX1_copyFrom_71 ?_
  refine wr_SN (rest := []) ⟨hx, hb, hml, hown, hts⟩ hP hE hA hD hS (c_X3_copyRow l D K _ _ 50 7 _ _ 4 _ _ rfl rfl (by decide)) (va_cnB (host := RX3) 2 hts gX1_copyFrom_X3_copyRow_n62 rfl rfl rfl hE.2.2.2.2.2.2.2.2.2.2.2.1 IniX3 hn_X3_copyRow ⟨Nat.le_of_ble_eq_true rfl, Nat.le_of_ble_eq_true rfl⟩) Sta_X3_copyRow rfl hl.1 rfl (Nat.le_of_ble_eq_true rfl) dX1_copyFrom_74 ⟨Nat.le_of_ble_eq_true rfl, Nat.le_of_ble_eq_true rfl⟩ (fun H locs hP hD hS => ?_)
  have hP : va_P D vwCl (townW K a (va_up (va_up (va_up (va_up (va_up (va_up (va_up T 0 ((Sv 2) 0)) 1 ((Sv 2) 1)) 2 ((Sv 2) 2)) 3 ((Sv 2) 3)) 4 ((Sv 2) 4)) 5 ((Sv 2) 5)) 6 ((Sv 2) 6)) ++ (waysW K b len qu n ++ (textW K t cs ln ++ (m0 :: m1 :: svW K g Sv X)))) H := hP
  have hD : va_D A (townW K a (va_up (va_up (va_up (va_up (va_up (va_up (va_up T 0 ((Sv 2) 0)) 1 ((Sv 2) 1)) 2 ((Sv 2) 2)) 3 ((Sv 2) 3)) 4 ((Sv 2) 4)) 5 ((Sv 2) 5)) 6 ((Sv 2) 6)) ++ (waysW K b len qu n ++ (textW K t cs ln ++ (m0 :: m1 :: svW K g Sv X)))) := hD
  refine lv_aload_n hx hb dX1_copyFrom_77 rfl (lv_at hl 1 rfl) ?_
  refine va_get (D := D) (ci := 1) (v := .ref ((g 2) 8)) (C := RX1) (T := TX1) (N := 12) hx hb hts inX1 hown hE.1 hP 43 rfl rfl 7 (by decide) F41 (fun _ h9 => h9) rfl dX1_copyFrom_78 ?_
  refine lv_aload_n hx hb dX1_copyFrom_81 rfl (lv_at hl 0 rfl) ?_
  refine va_get (D := D) (ci := 1) (v := .ref (a 8)) (C := RX1) (T := TX1) (N := 12) hx hb hts inX1 hown hE.1 hP 0 rfl rfl 7 (by decide) F41 (fun _ h9 => h9) rfl dX1_copyFrom_82 ?_
  refine wr_SN (rest := []) ⟨hx, hb, hml, hown, hts⟩ hP hE hA hD hS (c_X3_copyRow l D K _ _ 51 8 _ _ 4 _ _ rfl rfl (by decide)) (va_cnB (host := RX3) 2 hts gX1_copyFrom_X3_copyRow_n62 rfl rfl rfl hE.2.2.2.2.2.2.2.2.2.2.2.1 IniX3 hn_X3_copyRow ⟨Nat.le_of_ble_eq_true rfl, Nat.le_of_ble_eq_true rfl⟩) Sta_X3_copyRow rfl hl.1 rfl (Nat.le_of_ble_eq_true rfl) dX1_copyFrom_85 ⟨Nat.le_of_ble_eq_true rfl, Nat.le_of_ble_eq_true rfl⟩ (fun H locs hP hD hS => ?_)
  have hP : va_P D vwCl (townW K a (va_up (va_up (va_up (va_up (va_up (va_up (va_up (va_up T 0 ((Sv 2) 0)) 1 ((Sv 2) 1)) 2 ((Sv 2) 2)) 3 ((Sv 2) 3)) 4 ((Sv 2) 4)) 5 ((Sv 2) 5)) 6 ((Sv 2) 6)) 7 ((Sv 2) 7)) ++ (waysW K b len qu n ++ (textW K t cs ln ++ (m0 :: m1 :: svW K g Sv X)))) H := hP
  have hD : va_D A (townW K a (va_up (va_up (va_up (va_up (va_up (va_up (va_up (va_up T 0 ((Sv 2) 0)) 1 ((Sv 2) 1)) 2 ((Sv 2) 2)) 3 ((Sv 2) 3)) 4 ((Sv 2) 4)) 5 ((Sv 2) 5)) 6 ((Sv 2) 6)) 7 ((Sv 2) 7)) ++ (waysW K b len qu n ++ (textW K t cs ln ++ (m0 :: m1 :: svW K g Sv X)))) := hD
  refine lv_aload_n hx hb dX1_copyFrom_88 rfl (lv_at hl 1 rfl) ?_
  refine va_get (D := D) (ci := 1) (v := .ref ((g 2) 9)) (C := RX1) (T := TX1) (N := 12) hx hb hts inX1 hown hE.1 hP 43 rfl rfl 8 (by decide) F44 (fun _ h9 => h9) rfl dX1_copyFrom_89 ?_
  refine lv_aload_n hx hb dX1_copyFrom_92 rfl (lv_at hl 0 rfl) ?_
  refine va_get (D := D) (ci := 1) (v := .ref (a 9)) (C := RX1) (T := TX1) (N := 12) hx hb hts inX1 hown hE.1 hP 0 rfl rfl 8 (by decide) F44 (fun _ h9 => h9) rfl dX1_copyFrom_93 ?_
  refine wr_SN (rest := []) ⟨hx, hb, hml, hown, hts⟩ hP hE hA hD hS (c_X3_copyRow l D K _ _ 52 9 _ _ 4 _ _ rfl rfl (by decide)) (va_cnB (host := RX3) 2 hts gX1_copyFrom_X3_copyRow_n62 rfl rfl rfl hE.2.2.2.2.2.2.2.2.2.2.2.1 IniX3 hn_X3_copyRow ⟨Nat.le_of_ble_eq_true rfl, Nat.le_of_ble_eq_true rfl⟩) Sta_X3_copyRow rfl hl.1 rfl (Nat.le_of_ble_eq_true rfl) dX1_copyFrom_96 ⟨Nat.le_of_ble_eq_true rfl, Nat.le_of_ble_eq_true rfl⟩ (fun H locs hP hD hS => ?_)
  have hP : va_P D vwCl (townW K a (va_up (va_up (va_up (va_up (va_up (va_up (va_up (va_up (va_up T 0 ((Sv 2) 0)) 1 ((Sv 2) 1)) 2 ((Sv 2) 2)) 3 ((Sv 2) 3)) 4 ((Sv 2) 4)) 5 ((Sv 2) 5)) 6 ((Sv 2) 6)) 7 ((Sv 2) 7)) 8 ((Sv 2) 8)) ++ (waysW K b len qu n ++ (textW K t cs ln ++ (m0 :: m1 :: svW K g Sv X)))) H := hP
  have hD : va_D A (townW K a (va_up (va_up (va_up (va_up (va_up (va_up (va_up (va_up (va_up T 0 ((Sv 2) 0)) 1 ((Sv 2) 1)) 2 ((Sv 2) 2)) 3 ((Sv 2) 3)) 4 ((Sv 2) 4)) 5 ((Sv 2) 5)) 6 ((Sv 2) 6)) 7 ((Sv 2) 7)) 8 ((Sv 2) 8)) ++ (waysW K b len qu n ++ (textW K t cs ln ++ (m0 :: m1 :: svW K g Sv X)))) := hD
  refine lv_aload_n hx hb dX1_copyFrom_99 rfl (lv_at hl 1 rfl) ?_
  refine va_get (D := D) (ci := 1) (v := .ref ((g 2) 10)) (C := RX1) (T := TX1) (N := 12) hx hb hts inX1 hown hE.1 hP 43 rfl rfl 9 (by decide) F47 (fun _ h9 => h9) rfl dX1_copyFrom_100 ?_
  refine lv_aload_n hx hb dX1_copyFrom_103 rfl (lv_at hl 0 rfl) ?_
  refine va_get (D := D) (ci := 1) (v := .ref (a 10)) (C := RX1) (T := TX1) (N := 12) hx hb hts inX1 hown hE.1 hP 0 rfl rfl 9 (by decide) F47 (fun _ h9 => h9) rfl dX1_copyFrom_104 ?_
  refine wr_SN (rest := []) ⟨hx, hb, hml, hown, hts⟩ hP hE hA hD hS (c_X3_copyRow l D K _ _ 53 10 _ _ 4 _ _ rfl rfl (by decide)) (va_cnB (host := RX3) 2 hts gX1_copyFrom_X3_copyRow_n62 rfl rfl rfl hE.2.2.2.2.2.2.2.2.2.2.2.1 IniX3 hn_X3_copyRow ⟨Nat.le_of_ble_eq_true rfl, Nat.le_of_ble_eq_true rfl⟩) Sta_X3_copyRow rfl hl.1 rfl (Nat.le_of_ble_eq_true rfl) dX1_copyFrom_107 ⟨Nat.le_of_ble_eq_true rfl, Nat.le_of_ble_eq_true rfl⟩ (fun H locs hP hD hS => ?_)
  have hP : va_P D vwCl (townW K a (va_up (va_up (va_up (va_up (va_up (va_up (va_up (va_up (va_up (va_up T 0 ((Sv 2) 0)) 1 ((Sv 2) 1)) 2 ((Sv 2) 2)) 3 ((Sv 2) 3)) 4 ((Sv 2) 4)) 5 ((Sv 2) 5)) 6 ((Sv 2) 6)) 7 ((Sv 2) 7)) 8 ((Sv 2) 8)) 9 ((Sv 2) 9)) ++ (waysW K b len qu n ++ (textW K t cs ln ++ (m0 :: m1 :: svW K g Sv X)))) H := hP
  have hD : va_D A (townW K a (va_up (va_up (va_up (va_up (va_up (va_up (va_up (va_up (va_up (va_up T 0 ((Sv 2) 0)) 1 ((Sv 2) 1)) 2 ((Sv 2) 2)) 3 ((Sv 2) 3)) 4 ((Sv 2) 4)) 5 ((Sv 2) 5)) 6 ((Sv 2) 6)) 7 ((Sv 2) 7)) 8 ((Sv 2) 8)) 9 ((Sv 2) 9)) ++ (waysW K b len qu n ++ (textW K t cs ln ++ (m0 :: m1 :: svW K g Sv X)))) := hD
  refine lv_aload_n hx hb dX1_copyFrom_110 rfl (lv_at hl 1 rfl) ?_
  refine va_get (D := D) (ci := 1) (v := .ref ((g 2) 11)) (C := RX1) (T := TX1) (N := 12) hx hb hts inX1 hown hE.1 hP 43 rfl rfl 10 (by decide) F53 (fun _ h9 => h9) rfl dX1_copyFrom_111 ?_
  refine lv_aload_n hx hb dX1_copyFrom_114 rfl (lv_at hl 0 rfl) ?_
  refine va_get (D := D) (ci := 1) (v := .ref (a 11)) (C := RX1) (T := TX1) (N := 12) hx hb hts inX1 hown hE.1 hP 0 rfl rfl 10 (by decide) F53 (fun _ h9 => h9) rfl dX1_copyFrom_115 ?_
  refine wr_SN (rest := []) ⟨hx, hb, hml, hown, hts⟩ hP hE hA hD hS (c_X3_copyRow l D K _ _ 54 11 _ _ 3 _ _ rfl rfl (by decide)) (va_cnB (host := RX3) 2 hts gX1_copyFrom_X3_copyRow_n62 rfl rfl rfl hE.2.2.2.2.2.2.2.2.2.2.2.1 IniX3 hn_X3_copyRow ⟨Nat.le_of_ble_eq_true rfl, Nat.le_of_ble_eq_true rfl⟩) Sta_X3_copyRow rfl hl.1 rfl (Nat.le_of_ble_eq_true rfl) dX1_copyFrom_118 ⟨Nat.le_of_ble_eq_true rfl, Nat.le_of_ble_eq_true rfl⟩ (fun H locs hP hD hS => ?_)
  have hP : va_P D vwCl (townW K a (va_up (va_up (va_up (va_up (va_up (va_up (va_up (va_up (va_up (va_up (va_up T 0 ((Sv 2) 0)) 1 ((Sv 2) 1)) 2 ((Sv 2) 2)) 3 ((Sv 2) 3)) 4 ((Sv 2) 4)) 5 ((Sv 2) 5)) 6 ((Sv 2) 6)) 7 ((Sv 2) 7)) 8 ((Sv 2) 8)) 9 ((Sv 2) 9)) 10 ((Sv 2) 10)) ++ (waysW K b len qu n ++ (textW K t cs ln ++ (m0 :: m1 :: svW K g Sv X)))) H := hP
  have hD : va_D A (townW K a (va_up (va_up (va_up (va_up (va_up (va_up (va_up (va_up (va_up (va_up (va_up T 0 ((Sv 2) 0)) 1 ((Sv 2) 1)) 2 ((Sv 2) 2)) 3 ((Sv 2) 3)) 4 ((Sv 2) 4)) 5 ((Sv 2) 5)) 6 ((Sv 2) 6)) 7 ((Sv 2) 7)) 8 ((Sv 2) 8)) 9 ((Sv 2) 9)) 10 ((Sv 2) 10)) ++ (waysW K b len qu n ++ (textW K t cs ln ++ (m0 :: m1 :: svW K g Sv X)))) := hD
  refine lv_aload_n hx hb dX1_copyFrom_121 rfl (lv_at hl 0 rfl) ?_
  refine lv_aload_n hx hb dX1_copyFrom_122 rfl (lv_at hl 1 rfl) ?_
  refine va_get (D := D) (ci := 1) (v := .int ((Sv 2) 11 0)) (C := RX1) (T := TX1) (N := 12) hx hb hts inX1 hown hE.1 hP 43 rfl rfl 11 (by decide) F66 (fun _ h9 => h9) rfl dX1_copyFrom_123 ?_
  refine va_put (D := D) (ci := 1) (v := .int ((Sv 2) 11 0)) (ty := .int) (C := RX1) (T := TX1) (N := 12) hx hb hts inX1 tyX1 tyX1_ok nmX1 hown hE.1 hP hD hS 0 rfl rfl 11 (by decide) F66 (fun _ h9 => h9) rfl (by decide +kernel) rfl rfl (Nat.le_of_ble_eq_true rfl) dX1_copyFrom_126 (fun H locs hP hD hS => ?_)
  have hP : va_P D vwCl (townW K a (setT (va_up (va_up (va_up (va_up (va_up (va_up (va_up (va_up (va_up (va_up (va_up T 0 ((Sv 2) 0)) 1 ((Sv 2) 1)) 2 ((Sv 2) 2)) 3 ((Sv 2) 3)) 4 ((Sv 2) 4)) 5 ((Sv 2) 5)) 6 ((Sv 2) 6)) 7 ((Sv 2) 7)) 8 ((Sv 2) 8)) 9 ((Sv 2) 9)) 10 ((Sv 2) 10)) 11 0 ((Sv 2) 11 0)) ++ (waysW K b len qu n ++ (textW K t cs ln ++ (m0 :: m1 :: svW K g Sv X)))) H := hP
  have hD : va_D A (townW K a (setT (va_up (va_up (va_up (va_up (va_up (va_up (va_up (va_up (va_up (va_up (va_up T 0 ((Sv 2) 0)) 1 ((Sv 2) 1)) 2 ((Sv 2) 2)) 3 ((Sv 2) 3)) 4 ((Sv 2) 4)) 5 ((Sv 2) 5)) 6 ((Sv 2) 6)) 7 ((Sv 2) 7)) 8 ((Sv 2) 8)) 9 ((Sv 2) 9)) 10 ((Sv 2) 10)) 11 0 ((Sv 2) 11 0)) ++ (waysW K b len qu n ++ (textW K t cs ln ++ (m0 :: m1 :: svW K g Sv X)))) := hD
  have hP : va_P D vwCl (townW K a (Sv 2) ++ (waysW K b len qu n ++ (textW K t cs ln ++ (m0 :: m1 :: svW K g Sv X)))) H := hP
  have hD : va_D A (townW K a (Sv 2) ++ (waysW K b len qu n ++ (textW K t cs ln ++ (m0 :: m1 :: svW K g Sv X)))) := hD
  exact wr_vret hAe hP hD hS hx hb hr hk dX1_copyFrom_129 ⟨Nat.le_of_ble_eq_true rfl, Nat.le_of_ble_eq_true rfl⟩
set_option maxHeartbeats 4000000 in
set_option maxRecDepth 100000 in
theorem c_X1_copyFrom_u3 (l : Launch) (D : va_G) (K : Nat → ClassId) (sz : Nat) (a b t : Nat → Nat) (g : Nat → Nat → Nat) (T : TW) (X : va_W) (len : Nat → Option Nat) (qu : Nat → Nat) (n : Nat) (cs : Nat → Nat) (ln : Nat) (m0 m1 : Nat × va_E) (Sv : Nat → TW) : Wr l yX1_copyFrom wsX1_copyFrom ({ frames := 3, cells := 0, slots := 0, locals := 61 } : Room) D K (townW K a T ++ (waysW K b len qu n ++ (textW K t cs ln ++ (m0 :: m1 :: svW K g Sv X)))) sz [.ref (a 0), .ref ((g 3) 0)] (townW K a (Sv 3) ++ (waysW K b len qu n ++ (textW K t cs ln ++ (m0 :: m1 :: svW K g Sv X)))) none 0 0 := by
  refine wr_intro (cc := cX1_copyFrom) (maxL := 2) (ret := none) (by decide) rfl (Nat.le_of_ble_eq_true rfl) ?_
  intro pr en st md ar bl mt co A hx hb hml hr hts hown hk hsz hAe hP hE hD hS hA hin ls hl
  have hown : st.vm.findClass RX1 = some md.cls := hown
  have hl : lv_has ls 2 [(0, .ref (a 0)), (1, .ref ((g 3) 0))] := hl
  obtain ⟨H, hH⟩ : ∃ z, z = st.heap := ⟨_, rfl⟩
  obtain ⟨locs, hlo⟩ : ∃ z : List Loc, z = [] := ⟨_, rfl⟩
  have hP : va_P D vwCl (townW K a T ++ (waysW K b len qu n ++ (textW K t cs ln ++ (m0 :: m1 :: svW K g Sv X)))) H := by rw [hH]; exact hP
  have hS : va_S A st.heap H locs := by rw [hH, hlo]; exact hS
  suffices go : W pr l en (headSpec wsX1_copyFrom ({ frames := 3, cells := 0, slots := 0, locals := 61 } : Room)).room st md ar bl mt co H locs 0 0 (MQ bl (wrQ D (townW K a T ++ (waysW K b len qu n ++ (textW K t cs ln ++ (m0 :: m1 :: svW K g Sv X)))) (townW K a (Sv 3) ++ (waysW K b len qu n ++ (textW K t cs ln ++ (m0 :: m1 :: svW K g Sv X)))) sz none) ar st 0 0 A) (F0 md 0 ls []) by rw [hH, hlo] at go; exact go
  clear hH hlo
  have F9 : (Cond.fieldLink RX1 9 "TramTolls$Town" "houses" "[I").before ar st = true := hts _ (List.mem_of_getElem? (i := 1) rfl)
  have inX1 : ∀ w ∈ u_ws RX1 TX1 12, w ∈ wsX1_copyFrom := fun w h => List.mem_cons_of_mem _ (List.mem_append_right _ h)
  have IniX3 : (Cond.initialized RX3).before ar st = true := hts _ (List.mem_of_getElem? (i := 14) rfl)
  have Sta_X3_copyRow : (Cond.static yX3_copyRow).before ar st = true := hts _ (List.mem_of_getElem? (i := 13) rfl)
  have F15 : (Cond.fieldLink RX1 15 "TramTolls$Town" "trackMasks" "[I").before ar st = true := hts _ (List.mem_of_getElem? (i := 2) rfl)
  have F18 : (Cond.fieldLink RX1 18 "TramTolls$Town" "owners" "[I").before ar st = true := hts _ (List.mem_of_getElem? (i := 3) rfl)
  have F21 : (Cond.fieldLink RX1 21 "TramTolls$Town" "stopSquares" "[I").before ar st = true := hts _ (List.mem_of_getElem? (i := 4) rfl)
  have F24 : (Cond.fieldLink RX1 24 "TramTolls$Town" "stopPlayers" "[I").before ar st = true := hts _ (List.mem_of_getElem? (i := 5) rfl)
  have F27 : (Cond.fieldLink RX1 27 "TramTolls$Town" "coins" "[I").before ar st = true := hts _ (List.mem_of_getElem? (i := 6) rfl)
  have F38 : (Cond.fieldLink RX1 38 "TramTolls$Town" "heads" "[I").before ar st = true := hts _ (List.mem_of_getElem? (i := 7) rfl)
  have F41 : (Cond.fieldLink RX1 41 "TramTolls$Town" "lastDirections" "[I").before ar st = true := hts _ (List.mem_of_getElem? (i := 8) rfl)
  have F44 : (Cond.fieldLink RX1 44 "TramTolls$Town" "tollsPaid" "[I").before ar st = true := hts _ (List.mem_of_getElem? (i := 9) rfl)
  have F47 : (Cond.fieldLink RX1 47 "TramTolls$Town" "tollsGot" "[I").before ar st = true := hts _ (List.mem_of_getElem? (i := 10) rfl)
  have F53 : (Cond.fieldLink RX1 53 "TramTolls$Town" "settings" "[I").before ar st = true := hts _ (List.mem_of_getElem? (i := 11) rfl)
  have F66 : (Cond.fieldLink RX1 66 "TramTolls$Town" "piecesLaid" "I").before ar st = true := hts _ (List.mem_of_getElem? (i := 12) rfl)
  refine lv_aload_n hx hb dX1_copyFrom_0 rfl (lv_at hl 1 rfl) ?_
  refine va_get (D := D) (ci := 1) (v := .ref ((g 3) 1)) (C := RX1) (T := TX1) (N := 12) hx hb hts inX1 hown hE.1 hP 55 rfl rfl 0 (by decide) F9 (fun _ h9 => h9) rfl dX1_copyFrom_1 ?_
  refine lv_aload_n hx hb dX1_copyFrom_4 rfl (lv_at hl 0 rfl) ?_
  refine va_get (D := D) (ci := 1) (v := .ref (a 1)) (C := RX1) (T := TX1) (N := 12) hx hb hts inX1 hown hE.1 hP 0 rfl rfl 0 (by decide) F9 (fun _ h9 => h9) rfl dX1_copyFrom_5 ?_
  refine wr_SN (rest := []) ⟨hx, hb, hml, hown, hts⟩ hP hE hA hD hS (c_X3_copyRow l D K _ _ 56 1 _ _ 80 _ _ rfl rfl (by decide)) (va_cnB (host := RX3) 2 hts gX1_copyFrom_X3_copyRow_n62 rfl rfl rfl hE.2.2.2.2.2.2.2.2.2.2.2.1 IniX3 hn_X3_copyRow ⟨Nat.le_of_ble_eq_true rfl, Nat.le_of_ble_eq_true rfl⟩) Sta_X3_copyRow rfl hl.1 rfl (Nat.le_of_ble_eq_true rfl) dX1_copyFrom_8 ⟨Nat.le_of_ble_eq_true rfl, Nat.le_of_ble_eq_true rfl⟩ (fun H locs hP hD hS => ?_)
  have hP : va_P D vwCl (townW K a (va_up T 0 ((Sv 3) 0)) ++ (waysW K b len qu n ++ (textW K t cs ln ++ (m0 :: m1 :: svW K g Sv X)))) H := hP
  have hD : va_D A (townW K a (va_up T 0 ((Sv 3) 0)) ++ (waysW K b len qu n ++ (textW K t cs ln ++ (m0 :: m1 :: svW K g Sv X)))) := hD
  refine lv_aload_n hx hb dX1_copyFrom_11 rfl (lv_at hl 1 rfl) ?_
  refine va_get (D := D) (ci := 1) (v := .ref ((g 3) 2)) (C := RX1) (T := TX1) (N := 12) hx hb hts inX1 hown hE.1 hP 55 rfl rfl 1 (by decide) F15 (fun _ h9 => h9) rfl dX1_copyFrom_12 ?_
  refine lv_aload_n hx hb dX1_copyFrom_15 rfl (lv_at hl 0 rfl) ?_
  refine va_get (D := D) (ci := 1) (v := .ref (a 2)) (C := RX1) (T := TX1) (N := 12) hx hb hts inX1 hown hE.1 hP 0 rfl rfl 1 (by decide) F15 (fun _ h9 => h9) rfl dX1_copyFrom_16 ?_
  refine wr_SN (rest := []) ⟨hx, hb, hml, hown, hts⟩ hP hE hA hD hS (c_X3_copyRow l D K _ _ 57 2 _ _ 80 _ _ rfl rfl (by decide)) (va_cnB (host := RX3) 2 hts gX1_copyFrom_X3_copyRow_n62 rfl rfl rfl hE.2.2.2.2.2.2.2.2.2.2.2.1 IniX3 hn_X3_copyRow ⟨Nat.le_of_ble_eq_true rfl, Nat.le_of_ble_eq_true rfl⟩) Sta_X3_copyRow rfl hl.1 rfl (Nat.le_of_ble_eq_true rfl) dX1_copyFrom_19 ⟨Nat.le_of_ble_eq_true rfl, Nat.le_of_ble_eq_true rfl⟩ (fun H locs hP hD hS => ?_)
  have hP : va_P D vwCl (townW K a (va_up (va_up T 0 ((Sv 3) 0)) 1 ((Sv 3) 1)) ++ (waysW K b len qu n ++ (textW K t cs ln ++ (m0 :: m1 :: svW K g Sv X)))) H := hP
  have hD : va_D A (townW K a (va_up (va_up T 0 ((Sv 3) 0)) 1 ((Sv 3) 1)) ++ (waysW K b len qu n ++ (textW K t cs ln ++ (m0 :: m1 :: svW K g Sv X)))) := hD
  refine lv_aload_n hx hb dX1_copyFrom_22 rfl (lv_at hl 1 rfl) ?_
  refine va_get (D := D) (ci := 1) (v := .ref ((g 3) 3)) (C := RX1) (T := TX1) (N := 12) hx hb hts inX1 hown hE.1 hP 55 rfl rfl 2 (by decide) F18 (fun _ h9 => h9) rfl dX1_copyFrom_23 ?_
  refine lv_aload_n hx hb dX1_copyFrom_26 rfl (lv_at hl 0 rfl) ?_
  refine va_get (D := D) (ci := 1) (v := .ref (a 3)) (C := RX1) (T := TX1) (N := 12) hx hb hts inX1 hown hE.1 hP 0 rfl rfl 2 (by decide) F18 (fun _ h9 => h9) rfl dX1_copyFrom_27 ?_
  refine wr_SN (rest := []) ⟨hx, hb, hml, hown, hts⟩ hP hE hA hD hS (c_X3_copyRow l D K _ _ 58 3 _ _ 80 _ _ rfl rfl (by decide)) (va_cnB (host := RX3) 2 hts gX1_copyFrom_X3_copyRow_n62 rfl rfl rfl hE.2.2.2.2.2.2.2.2.2.2.2.1 IniX3 hn_X3_copyRow ⟨Nat.le_of_ble_eq_true rfl, Nat.le_of_ble_eq_true rfl⟩) Sta_X3_copyRow rfl hl.1 rfl (Nat.le_of_ble_eq_true rfl) dX1_copyFrom_30 ⟨Nat.le_of_ble_eq_true rfl, Nat.le_of_ble_eq_true rfl⟩ (fun H locs hP hD hS => ?_)
  have hP : va_P D vwCl (townW K a (va_up (va_up (va_up T 0 ((Sv 3) 0)) 1 ((Sv 3) 1)) 2 ((Sv 3) 2)) ++ (waysW K b len qu n ++ (textW K t cs ln ++ (m0 :: m1 :: svW K g Sv X)))) H := hP
  have hD : va_D A (townW K a (va_up (va_up (va_up T 0 ((Sv 3) 0)) 1 ((Sv 3) 1)) 2 ((Sv 3) 2)) ++ (waysW K b len qu n ++ (textW K t cs ln ++ (m0 :: m1 :: svW K g Sv X)))) := hD
  refine lv_aload_n hx hb dX1_copyFrom_33 rfl (lv_at hl 1 rfl) ?_
  refine va_get (D := D) (ci := 1) (v := .ref ((g 3) 4)) (C := RX1) (T := TX1) (N := 12) hx hb hts inX1 hown hE.1 hP 55 rfl rfl 3 (by decide) F21 (fun _ h9 => h9) rfl dX1_copyFrom_34 ?_
  refine lv_aload_n hx hb dX1_copyFrom_37 rfl (lv_at hl 0 rfl) ?_
  refine va_get (D := D) (ci := 1) (v := .ref (a 4)) (C := RX1) (T := TX1) (N := 12) hx hb hts inX1 hown hE.1 hP 0 rfl rfl 3 (by decide) F21 (fun _ h9 => h9) rfl dX1_copyFrom_38 ?_
  refine wr_SN (rest := []) ⟨hx, hb, hml, hown, hts⟩ hP hE hA hD hS (c_X3_copyRow l D K _ _ 59 4 _ _ 12 _ _ rfl rfl (by decide)) (va_cnB (host := RX3) 2 hts gX1_copyFrom_X3_copyRow_n62 rfl rfl rfl hE.2.2.2.2.2.2.2.2.2.2.2.1 IniX3 hn_X3_copyRow ⟨Nat.le_of_ble_eq_true rfl, Nat.le_of_ble_eq_true rfl⟩) Sta_X3_copyRow rfl hl.1 rfl (Nat.le_of_ble_eq_true rfl) dX1_copyFrom_41 ⟨Nat.le_of_ble_eq_true rfl, Nat.le_of_ble_eq_true rfl⟩ (fun H locs hP hD hS => ?_)
  have hP : va_P D vwCl (townW K a (va_up (va_up (va_up (va_up T 0 ((Sv 3) 0)) 1 ((Sv 3) 1)) 2 ((Sv 3) 2)) 3 ((Sv 3) 3)) ++ (waysW K b len qu n ++ (textW K t cs ln ++ (m0 :: m1 :: svW K g Sv X)))) H := hP
  have hD : va_D A (townW K a (va_up (va_up (va_up (va_up T 0 ((Sv 3) 0)) 1 ((Sv 3) 1)) 2 ((Sv 3) 2)) 3 ((Sv 3) 3)) ++ (waysW K b len qu n ++ (textW K t cs ln ++ (m0 :: m1 :: svW K g Sv X)))) := hD
  refine lv_aload_n hx hb dX1_copyFrom_44 rfl (lv_at hl 1 rfl) ?_
  refine va_get (D := D) (ci := 1) (v := .ref ((g 3) 5)) (C := RX1) (T := TX1) (N := 12) hx hb hts inX1 hown hE.1 hP 55 rfl rfl 4 (by decide) F24 (fun _ h9 => h9) rfl dX1_copyFrom_45 ?_
  refine lv_aload_n hx hb dX1_copyFrom_48 rfl (lv_at hl 0 rfl) ?_
  refine va_get (D := D) (ci := 1) (v := .ref (a 5)) (C := RX1) (T := TX1) (N := 12) hx hb hts inX1 hown hE.1 hP 0 rfl rfl 4 (by decide) F24 (fun _ h9 => h9) rfl dX1_copyFrom_49 ?_
  refine wr_SN (rest := []) ⟨hx, hb, hml, hown, hts⟩ hP hE hA hD hS (c_X3_copyRow l D K _ _ 60 5 _ _ 12 _ _ rfl rfl (by decide)) (va_cnB (host := RX3) 2 hts gX1_copyFrom_X3_copyRow_n62 rfl rfl rfl hE.2.2.2.2.2.2.2.2.2.2.2.1 IniX3 hn_X3_copyRow ⟨Nat.le_of_ble_eq_true rfl, Nat.le_of_ble_eq_true rfl⟩) Sta_X3_copyRow rfl hl.1 rfl (Nat.le_of_ble_eq_true rfl) dX1_copyFrom_52 ⟨Nat.le_of_ble_eq_true rfl, Nat.le_of_ble_eq_true rfl⟩ (fun H locs hP hD hS => ?_)
  have hP : va_P D vwCl (townW K a (va_up (va_up (va_up (va_up (va_up T 0 ((Sv 3) 0)) 1 ((Sv 3) 1)) 2 ((Sv 3) 2)) 3 ((Sv 3) 3)) 4 ((Sv 3) 4)) ++ (waysW K b len qu n ++ (textW K t cs ln ++ (m0 :: m1 :: svW K g Sv X)))) H := hP
  have hD : va_D A (townW K a (va_up (va_up (va_up (va_up (va_up T 0 ((Sv 3) 0)) 1 ((Sv 3) 1)) 2 ((Sv 3) 2)) 3 ((Sv 3) 3)) 4 ((Sv 3) 4)) ++ (waysW K b len qu n ++ (textW K t cs ln ++ (m0 :: m1 :: svW K g Sv X)))) := hD
  refine lv_aload_n hx hb dX1_copyFrom_55 rfl (lv_at hl 1 rfl) ?_
  refine va_get (D := D) (ci := 1) (v := .ref ((g 3) 6)) (C := RX1) (T := TX1) (N := 12) hx hb hts inX1 hown hE.1 hP 55 rfl rfl 5 (by decide) F27 (fun _ h9 => h9) rfl dX1_copyFrom_56 ?_
  refine lv_aload_n hx hb dX1_copyFrom_59 rfl (lv_at hl 0 rfl) ?_
  refine va_get (D := D) (ci := 1) (v := .ref (a 6)) (C := RX1) (T := TX1) (N := 12) hx hb hts inX1 hown hE.1 hP 0 rfl rfl 5 (by decide) F27 (fun _ h9 => h9) rfl dX1_copyFrom_60 ?_
  refine wr_SN (rest := []) ⟨hx, hb, hml, hown, hts⟩ hP hE hA hD hS (c_X3_copyRow l D K _ _ 61 6 _ _ 4 _ _ rfl rfl (by decide)) (va_cnB (host := RX3) 2 hts gX1_copyFrom_X3_copyRow_n62 rfl rfl rfl hE.2.2.2.2.2.2.2.2.2.2.2.1 IniX3 hn_X3_copyRow ⟨Nat.le_of_ble_eq_true rfl, Nat.le_of_ble_eq_true rfl⟩) Sta_X3_copyRow rfl hl.1 rfl (Nat.le_of_ble_eq_true rfl) dX1_copyFrom_63 ⟨Nat.le_of_ble_eq_true rfl, Nat.le_of_ble_eq_true rfl⟩ (fun H locs hP hD hS => ?_)
  have hP : va_P D vwCl (townW K a (va_up (va_up (va_up (va_up (va_up (va_up T 0 ((Sv 3) 0)) 1 ((Sv 3) 1)) 2 ((Sv 3) 2)) 3 ((Sv 3) 3)) 4 ((Sv 3) 4)) 5 ((Sv 3) 5)) ++ (waysW K b len qu n ++ (textW K t cs ln ++ (m0 :: m1 :: svW K g Sv X)))) H := hP
  have hD : va_D A (townW K a (va_up (va_up (va_up (va_up (va_up (va_up T 0 ((Sv 3) 0)) 1 ((Sv 3) 1)) 2 ((Sv 3) 2)) 3 ((Sv 3) 3)) 4 ((Sv 3) 4)) 5 ((Sv 3) 5)) ++ (waysW K b len qu n ++ (textW K t cs ln ++ (m0 :: m1 :: svW K g Sv X)))) := hD
  refine lv_aload_n hx hb dX1_copyFrom_66 rfl (lv_at hl 1 rfl) ?_
  refine va_get (D := D) (ci := 1) (v := .ref ((g 3) 7)) (C := RX1) (T := TX1) (N := 12) hx hb hts inX1 hown hE.1 hP 55 rfl rfl 6 (by decide) F38 (fun _ h9 => h9) rfl dX1_copyFrom_67 ?_
  refine lv_aload_n hx hb dX1_copyFrom_70 rfl (lv_at hl 0 rfl) ?_
  refine va_get (D := D) (ci := 1) (v := .ref (a 7)) (C := RX1) (T := TX1) (N := 12) hx hb hts inX1 hown hE.1 hP 0 rfl rfl 6 (by decide) F38 (fun _ h9 => h9) rfl dX1_copyFrom_71 ?_
  refine wr_SN (rest := []) ⟨hx, hb, hml, hown, hts⟩ hP hE hA hD hS (c_X3_copyRow l D K _ _ 62 7 _ _ 4 _ _ rfl rfl (by decide)) (va_cnB (host := RX3) 2 hts gX1_copyFrom_X3_copyRow_n62 rfl rfl rfl hE.2.2.2.2.2.2.2.2.2.2.2.1 IniX3 hn_X3_copyRow ⟨Nat.le_of_ble_eq_true rfl, Nat.le_of_ble_eq_true rfl⟩) Sta_X3_copyRow rfl hl.1 rfl (Nat.le_of_ble_eq_true rfl) dX1_copyFrom_74 ⟨Nat.le_of_ble_eq_true rfl, Nat.le_of_ble_eq_true rfl⟩ (fun H locs hP hD hS => ?_)
  have hP : va_P D vwCl (townW K a (va_up (va_up (va_up (va_up (va_up (va_up (va_up T 0 ((Sv 3) 0)) 1 ((Sv 3) 1)) 2 ((Sv 3) 2)) 3 ((Sv 3) 3)) 4 ((Sv 3) 4)) 5 ((Sv 3) 5)) 6 ((Sv 3) 6)) ++ (waysW K b len qu n ++ (textW K t cs ln ++ (m0 :: m1 :: svW K g Sv X)))) H := hP
  have hD : va_D A (townW K a (va_up (va_up (va_up (va_up (va_up (va_up (va_up T 0 ((Sv 3) 0)) 1 ((Sv 3) 1)) 2 ((Sv 3) 2)) 3 ((Sv 3) 3)) 4 ((Sv 3) 4)) 5 ((Sv 3) 5)) 6 ((Sv 3) 6)) ++ (waysW K b len qu n ++ (textW K t cs ln ++ (m0 :: m1 :: svW K g Sv X)))) := hD
  refine lv_aload_n hx hb dX1_copyFrom_77 rfl (lv_at hl 1 rfl) ?_
  refine va_get (D := D) (ci := 1) (v := .ref ((g 3) 8)) (C := RX1) (T := TX1) (N := 12) hx hb hts inX1 hown hE.1 hP 55 rfl rfl 7 (by decide) F41 (fun _ h9 => h9) rfl dX1_copyFrom_78 ?_
  refine lv_aload_n hx hb dX1_copyFrom_81 rfl (lv_at hl 0 rfl) ?_
  refine va_get (D := D) (ci := 1) (v := .ref (a 8)) (C := RX1) (T := TX1) (N := 12) hx hb hts inX1 hown hE.1 hP 0 rfl rfl 7 (by decide) F41 (fun _ h9 => h9) rfl dX1_copyFrom_82 ?_
  refine wr_SN (rest := []) ⟨hx, hb, hml, hown, hts⟩ hP hE hA hD hS (c_X3_copyRow l D K _ _ 63 8 _ _ 4 _ _ rfl rfl (by decide)) (va_cnB (host := RX3) 2 hts gX1_copyFrom_X3_copyRow_n62 rfl rfl rfl hE.2.2.2.2.2.2.2.2.2.2.2.1 IniX3 hn_X3_copyRow ⟨Nat.le_of_ble_eq_true rfl, Nat.le_of_ble_eq_true rfl⟩) Sta_X3_copyRow rfl hl.1 rfl (Nat.le_of_ble_eq_true rfl) dX1_copyFrom_85 ⟨Nat.le_of_ble_eq_true rfl, Nat.le_of_ble_eq_true rfl⟩ (fun H locs hP hD hS => ?_)
  have hP : va_P D vwCl (townW K a (va_up (va_up (va_up (va_up (va_up (va_up (va_up (va_up T 0 ((Sv 3) 0)) 1 ((Sv 3) 1)) 2 ((Sv 3) 2)) 3 ((Sv 3) 3)) 4 ((Sv 3) 4)) 5 ((Sv 3) 5)) 6 ((Sv 3) 6)) 7 ((Sv 3) 7)) ++ (waysW K b len qu n ++ (textW K t cs ln ++ (m0 :: m1 :: svW K g Sv X)))) H := hP
  have hD : va_D A (townW K a (va_up (va_up (va_up (va_up (va_up (va_up (va_up (va_up T 0 ((Sv 3) 0)) 1 ((Sv 3) 1)) 2 ((Sv 3) 2)) 3 ((Sv 3) 3)) 4 ((Sv 3) 4)) 5 ((Sv 3) 5)) 6 ((Sv 3) 6)) 7 ((Sv 3) 7)) ++ (waysW K b len qu n ++ (textW K t cs ln ++ (m0 :: m1 :: svW K g Sv X)))) := hD
  refine lv_aload_n hx hb dX1_copyFrom_88 rfl (lv_at hl 1 rfl) ?_
  refine va_get (D := D) (ci := 1) (v := .ref ((g 3) 9)) (C := RX1) (T := TX1) (N := 12) hx hb hts inX1 hown hE.1 hP 55 rfl rfl 8 (by decide) F44 (fun _ h9 => h9) rfl dX1_copyFrom_89 ?_
  refine lv_aload_n hx hb dX1_copyFrom_92 rfl (lv_at hl 0 rfl) ?_
  refine va_get (D := D) (ci := 1) (v := .ref (a 9)) (C := RX1) (T := TX1) (N := 12) hx hb hts inX1 hown hE.1 hP 0 rfl rfl 8 (by decide) F44 (fun _ h9 => h9) rfl dX1_copyFrom_93 ?_
  refine wr_SN (rest := []) ⟨hx, hb, hml, hown, hts⟩ hP hE hA hD hS (c_X3_copyRow l D K _ _ 64 9 _ _ 4 _ _ rfl rfl (by decide)) (va_cnB (host := RX3) 2 hts gX1_copyFrom_X3_copyRow_n62 rfl rfl rfl hE.2.2.2.2.2.2.2.2.2.2.2.1 IniX3 hn_X3_copyRow ⟨Nat.le_of_ble_eq_true rfl, Nat.le_of_ble_eq_true rfl⟩) Sta_X3_copyRow rfl hl.1 rfl (Nat.le_of_ble_eq_true rfl) dX1_copyFrom_96 ⟨Nat.le_of_ble_eq_true rfl, Nat.le_of_ble_eq_true rfl⟩ (fun H locs hP hD hS => ?_)
  have hP : va_P D vwCl (townW K a (va_up (va_up (va_up (va_up (va_up (va_up (va_up (va_up (va_up T 0 ((Sv 3) 0)) 1 ((Sv 3) 1)) 2 ((Sv 3) 2)) 3 ((Sv 3) 3)) 4 ((Sv 3) 4)) 5 ((Sv 3) 5)) 6 ((Sv 3) 6)) 7 ((Sv 3) 7)) 8 ((Sv 3) 8)) ++ (waysW K b len qu n ++ (textW K t cs ln ++ (m0 :: m1 :: svW K g Sv X)))) H := hP
  have hD : va_D A (townW K a (va_up (va_up (va_up (va_up (va_up (va_up (va_up (va_up (va_up T 0 ((Sv 3) 0)) 1 ((Sv 3) 1)) 2 ((Sv 3) 2)) 3 ((Sv 3) 3)) 4 ((Sv 3) 4)) 5 ((Sv 3) 5)) 6 ((Sv 3) 6)) 7 ((Sv 3) 7)) 8 ((Sv 3) 8)) ++ (waysW K b len qu n ++ (textW K t cs ln ++ (m0 :: m1 :: svW K g Sv X)))) := hD
  refine lv_aload_n hx hb dX1_copyFrom_99 rfl (lv_at hl 1 rfl) ?_
  refine va_get (D := D) (ci := 1) (v := .ref ((g 3) 10)) (C := RX1) (T := TX1) (N := 12) hx hb hts inX1 hown hE.1 hP 55 rfl rfl 9 (by decide) F47 (fun _ h9 => h9) rfl dX1_copyFrom_100 ?_
  refine lv_aload_n hx hb dX1_copyFrom_103 rfl (lv_at hl 0 rfl) ?_
  refine va_get (D := D) (ci := 1) (v := .ref (a 10)) (C := RX1) (T := TX1) (N := 12) hx hb hts inX1 hown hE.1 hP 0 rfl rfl 9 (by decide) F47 (fun _ h9 => h9) rfl dX1_copyFrom_104 ?_
  refine wr_SN (rest := []) ⟨hx, hb, hml, hown, hts⟩ hP hE hA hD hS (c_X3_copyRow l D K _ _ 65 10 _ _ 4 _ _ rfl rfl (by decide)) (va_cnB (host := RX3) 2 hts gX1_copyFrom_X3_copyRow_n62 rfl rfl rfl hE.2.2.2.2.2.2.2.2.2.2.2.1 IniX3 hn_X3_copyRow ⟨Nat.le_of_ble_eq_true rfl, Nat.le_of_ble_eq_true rfl⟩) Sta_X3_copyRow rfl hl.1 rfl (Nat.le_of_ble_eq_true rfl) dX1_copyFrom_107 ⟨Nat.le_of_ble_eq_true rfl, Nat.le_of_ble_eq_true rfl⟩ (fun H locs hP hD hS => ?_)
  have hP : va_P D vwCl (townW K a (va_up (va_up (va_up (va_up (va_up (va_up (va_up (va_up (va_up (va_up T 0 ((Sv 3) 0)) 1 ((Sv 3) 1)) 2 ((Sv 3) 2)) 3 ((Sv 3) 3)) 4 ((Sv 3) 4)) 5 ((Sv 3) 5)) 6 ((Sv 3) 6)) 7 ((Sv 3) 7)) 8 ((Sv 3) 8)) 9 ((Sv 3) 9)) ++ (waysW K b len qu n ++ (textW K t cs ln ++ (m0 :: m1 :: svW K g Sv X)))) H := hP
  have hD : va_D A (townW K a (va_up (va_up (va_up (va_up (va_up (va_up (va_up (va_up (va_up (va_up T 0 ((Sv 3) 0)) 1 ((Sv 3) 1)) 2 ((Sv 3) 2)) 3 ((Sv 3) 3)) 4 ((Sv 3) 4)) 5 ((Sv 3) 5)) 6 ((Sv 3) 6)) 7 ((Sv 3) 7)) 8 ((Sv 3) 8)) 9 ((Sv 3) 9)) ++ (waysW K b len qu n ++ (textW K t cs ln ++ (m0 :: m1 :: svW K g Sv X)))) := hD
  refine lv_aload_n hx hb dX1_copyFrom_110 rfl (lv_at hl 1 rfl) ?_
  refine va_get (D := D) (ci := 1) (v := .ref ((g 3) 11)) (C := RX1) (T := TX1) (N := 12) hx hb hts inX1 hown hE.1 hP 55 rfl rfl 10 (by decide) F53 (fun _ h9 => h9) rfl dX1_copyFrom_111 ?_
  refine lv_aload_n hx hb dX1_copyFrom_114 rfl (lv_at hl 0 rfl) ?_
  refine va_get (D := D) (ci := 1) (v := .ref (a 11)) (C := RX1) (T := TX1) (N := 12) hx hb hts inX1 hown hE.1 hP 0 rfl rfl 10 (by decide) F53 (fun _ h9 => h9) rfl dX1_copyFrom_115 ?_
  refine wr_SN (rest := []) ⟨hx, hb, hml, hown, hts⟩ hP hE hA hD hS (c_X3_copyRow l D K _ _ 66 11 _ _ 3 _ _ rfl rfl (by decide)) (va_cnB (host := RX3) 2 hts gX1_copyFrom_X3_copyRow_n62 rfl rfl rfl hE.2.2.2.2.2.2.2.2.2.2.2.1 IniX3 hn_X3_copyRow ⟨Nat.le_of_ble_eq_true rfl, Nat.le_of_ble_eq_true rfl⟩) Sta_X3_copyRow rfl hl.1 rfl (Nat.le_of_ble_eq_true rfl) dX1_copyFrom_118 ⟨Nat.le_of_ble_eq_true rfl, Nat.le_of_ble_eq_true rfl⟩ (fun H locs hP hD hS => ?_)
  have hP : va_P D vwCl (townW K a (va_up (va_up (va_up (va_up (va_up (va_up (va_up (va_up (va_up (va_up (va_up T 0 ((Sv 3) 0)) 1 ((Sv 3) 1)) 2 ((Sv 3) 2)) 3 ((Sv 3) 3)) 4 ((Sv 3) 4)) 5 ((Sv 3) 5)) 6 ((Sv 3) 6)) 7 ((Sv 3) 7)) 8 ((Sv 3) 8)) 9 ((Sv 3) 9)) 10 ((Sv 3) 10)) ++ (waysW K b len qu n ++ (textW K t cs ln ++ (m0 :: m1 :: svW K g Sv X)))) H := hP
  have hD : va_D A (townW K a (va_up (va_up (va_up (va_up (va_up (va_up (va_up (va_up (va_up (va_up (va_up T 0 ((Sv 3) 0)) 1 ((Sv 3) 1)) 2 ((Sv 3) 2)) 3 ((Sv 3) 3)) 4 ((Sv 3) 4)) 5 ((Sv 3) 5)) 6 ((Sv 3) 6)) 7 ((Sv 3) 7)) 8 ((Sv 3) 8)) 9 ((Sv 3) 9)) 10 ((Sv 3) 10)) ++ (waysW K b len qu n ++ (textW K t cs ln ++ (m0 :: m1 :: svW K g Sv X)))) := hD
  refine lv_aload_n hx hb dX1_copyFrom_121 rfl (lv_at hl 0 rfl) ?_
  refine lv_aload_n hx hb dX1_copyFrom_122 rfl (lv_at hl 1 rfl) ?_
  refine va_get (D := D) (ci := 1) (v := .int ((Sv 3) 11 0)) (C := RX1) (T := TX1) (N := 12) hx hb hts inX1 hown hE.1 hP 55 rfl rfl 11 (by decide) F66 (fun _ h9 => h9) rfl dX1_copyFrom_123 ?_
  refine va_put (D := D) (ci := 1) (v := .int ((Sv 3) 11 0)) (ty := .int) (C := RX1) (T := TX1) (N := 12) hx hb hts inX1 tyX1 tyX1_ok nmX1 hown hE.1 hP hD hS 0 rfl rfl 11 (by decide) F66 (fun _ h9 => h9) rfl (by decide +kernel) rfl rfl (Nat.le_of_ble_eq_true rfl) dX1_copyFrom_126 (fun H locs hP hD hS => ?_)
  have hP : va_P D vwCl (townW K a (setT (va_up (va_up (va_up (va_up (va_up (va_up (va_up (va_up (va_up (va_up (va_up T 0 ((Sv 3) 0)) 1 ((Sv 3) 1)) 2 ((Sv 3) 2)) 3 ((Sv 3) 3)) 4 ((Sv 3) 4)) 5 ((Sv 3) 5)) 6 ((Sv 3) 6)) 7 ((Sv 3) 7)) 8 ((Sv 3) 8)) 9 ((Sv 3) 9)) 10 ((Sv 3) 10)) 11 0 ((Sv 3) 11 0)) ++ (waysW K b len qu n ++ (textW K t cs ln ++ (m0 :: m1 :: svW K g Sv X)))) H := hP
  have hD : va_D A (townW K a (setT (va_up (va_up (va_up (va_up (va_up (va_up (va_up (va_up (va_up (va_up (va_up T 0 ((Sv 3) 0)) 1 ((Sv 3) 1)) 2 ((Sv 3) 2)) 3 ((Sv 3) 3)) 4 ((Sv 3) 4)) 5 ((Sv 3) 5)) 6 ((Sv 3) 6)) 7 ((Sv 3) 7)) 8 ((Sv 3) 8)) 9 ((Sv 3) 9)) 10 ((Sv 3) 10)) 11 0 ((Sv 3) 11 0)) ++ (waysW K b len qu n ++ (textW K t cs ln ++ (m0 :: m1 :: svW K g Sv X)))) := hD
  have hP : va_P D vwCl (townW K a (Sv 3) ++ (waysW K b len qu n ++ (textW K t cs ln ++ (m0 :: m1 :: svW K g Sv X)))) H := hP
  have hD : va_D A (townW K a (Sv 3) ++ (waysW K b len qu n ++ (textW K t cs ln ++ (m0 :: m1 :: svW K g Sv X)))) := hD
  exact wr_vret hAe hP hD hS hx hb hr hk dX1_copyFrom_129 ⟨Nat.le_of_ble_eq_true rfl, Nat.le_of_ble_eq_true rfl⟩
set_option maxHeartbeats 4000000 in
set_option maxRecDepth 100000 in
theorem c_X1_copyFrom_u4 (l : Launch) (D : va_G) (K : Nat → ClassId) (sz : Nat) (a b t : Nat → Nat) (g : Nat → Nat → Nat) (T : TW) (X : va_W) (len : Nat → Option Nat) (qu : Nat → Nat) (n : Nat) (cs : Nat → Nat) (ln : Nat) (m0 m1 : Nat × va_E) (Sv : Nat → TW) : Wr l yX1_copyFrom wsX1_copyFrom ({ frames := 3, cells := 0, slots := 0, locals := 61 } : Room) D K (townW K a T ++ (waysW K b len qu n ++ (textW K t cs ln ++ (m0 :: m1 :: svW K g Sv X)))) sz [.ref (a 0), .ref ((g 4) 0)] (townW K a (Sv 4) ++ (waysW K b len qu n ++ (textW K t cs ln ++ (m0 :: m1 :: svW K g Sv X)))) none 0 0 := by
  refine wr_intro (cc := cX1_copyFrom) (maxL := 2) (ret := none) (by decide) rfl (Nat.le_of_ble_eq_true rfl) ?_
  intro pr en st md ar bl mt co A hx hb hml hr hts hown hk hsz hAe hP hE hD hS hA hin ls hl
  have hown : st.vm.findClass RX1 = some md.cls := hown
  have hl : lv_has ls 2 [(0, .ref (a 0)), (1, .ref ((g 4) 0))] := hl
  obtain ⟨H, hH⟩ : ∃ z, z = st.heap := ⟨_, rfl⟩
  obtain ⟨locs, hlo⟩ : ∃ z : List Loc, z = [] := ⟨_, rfl⟩
  have hP : va_P D vwCl (townW K a T ++ (waysW K b len qu n ++ (textW K t cs ln ++ (m0 :: m1 :: svW K g Sv X)))) H := by rw [hH]; exact hP
  have hS : va_S A st.heap H locs := by rw [hH, hlo]; exact hS
  suffices go : W pr l en (headSpec wsX1_copyFrom ({ frames := 3, cells := 0, slots := 0, locals := 61 } : Room)).room st md ar bl mt co H locs 0 0 (MQ bl (wrQ D (townW K a T ++ (waysW K b len qu n ++ (textW K t cs ln ++ (m0 :: m1 :: svW K g Sv X)))) (townW K a (Sv 4) ++ (waysW K b len qu n ++ (textW K t cs ln ++ (m0 :: m1 :: svW K g Sv X)))) sz none) ar st 0 0 A) (F0 md 0 ls []) by rw [hH, hlo] at go; exact go
  clear hH hlo
  have F9 : (Cond.fieldLink RX1 9 "TramTolls$Town" "houses" "[I").before ar st = true := hts _ (List.mem_of_getElem? (i := 1) rfl)
  have inX1 : ∀ w ∈ u_ws RX1 TX1 12, w ∈ wsX1_copyFrom := fun w h => List.mem_cons_of_mem _ (List.mem_append_right _ h)
  have IniX3 : (Cond.initialized RX3).before ar st = true := hts _ (List.mem_of_getElem? (i := 14) rfl)
  have Sta_X3_copyRow : (Cond.static yX3_copyRow).before ar st = true := hts _ (List.mem_of_getElem? (i := 13) rfl)
  have F15 : (Cond.fieldLink RX1 15 "TramTolls$Town" "trackMasks" "[I").before ar st = true := hts _ (List.mem_of_getElem? (i := 2) rfl)
  have F18 : (Cond.fieldLink RX1 18 "TramTolls$Town" "owners" "[I").before ar st = true := hts _ (List.mem_of_getElem? (i := 3) rfl)
  have F21 : (Cond.fieldLink RX1 21 "TramTolls$Town" "stopSquares" "[I").before ar st = true := hts _ (List.mem_of_getElem? (i := 4) rfl)
  have F24 : (Cond.fieldLink RX1 24 "TramTolls$Town" "stopPlayers" "[I").before ar st = true := hts _ (List.mem_of_getElem? (i := 5) rfl)
  have F27 : (Cond.fieldLink RX1 27 "TramTolls$Town" "coins" "[I").before ar st = true := hts _ (List.mem_of_getElem? (i := 6) rfl)
  have F38 : (Cond.fieldLink RX1 38 "TramTolls$Town" "heads" "[I").before ar st = true := hts _ (List.mem_of_getElem? (i := 7) rfl)
  have F41 : (Cond.fieldLink RX1 41 "TramTolls$Town" "lastDirections" "[I").before ar st = true := hts _ (List.mem_of_getElem? (i := 8) rfl)
  have F44 : (Cond.fieldLink RX1 44 "TramTolls$Town" "tollsPaid" "[I").before ar st = true := hts _ (List.mem_of_getElem? (i := 9) rfl)
  have F47 : (Cond.fieldLink RX1 47 "TramTolls$Town" "tollsGot" "[I").before ar st = true := hts _ (List.mem_of_getElem? (i := 10) rfl)
  have F53 : (Cond.fieldLink RX1 53 "TramTolls$Town" "settings" "[I").before ar st = true := hts _ (List.mem_of_getElem? (i := 11) rfl)
  have F66 : (Cond.fieldLink RX1 66 "TramTolls$Town" "piecesLaid" "I").before ar st = true := hts _ (List.mem_of_getElem? (i := 12) rfl)
  refine lv_aload_n hx hb dX1_copyFrom_0 rfl (lv_at hl 1 rfl) ?_
  refine va_get (D := D) (ci := 1) (v := .ref ((g 4) 1)) (C := RX1) (T := TX1) (N := 12) hx hb hts inX1 hown hE.1 hP 67 rfl rfl 0 (by decide) F9 (fun _ h9 => h9) rfl dX1_copyFrom_1 ?_
  refine lv_aload_n hx hb dX1_copyFrom_4 rfl (lv_at hl 0 rfl) ?_
  refine va_get (D := D) (ci := 1) (v := .ref (a 1)) (C := RX1) (T := TX1) (N := 12) hx hb hts inX1 hown hE.1 hP 0 rfl rfl 0 (by decide) F9 (fun _ h9 => h9) rfl dX1_copyFrom_5 ?_
  refine wr_SN (rest := []) ⟨hx, hb, hml, hown, hts⟩ hP hE hA hD hS (c_X3_copyRow l D K _ _ 68 1 _ _ 80 _ _ rfl rfl (by decide)) (va_cnB (host := RX3) 2 hts gX1_copyFrom_X3_copyRow_n62 rfl rfl rfl hE.2.2.2.2.2.2.2.2.2.2.2.1 IniX3 hn_X3_copyRow ⟨Nat.le_of_ble_eq_true rfl, Nat.le_of_ble_eq_true rfl⟩) Sta_X3_copyRow rfl hl.1 rfl (Nat.le_of_ble_eq_true rfl) dX1_copyFrom_8 ⟨Nat.le_of_ble_eq_true rfl, Nat.le_of_ble_eq_true rfl⟩ (fun H locs hP hD hS => ?_)
  have hP : va_P D vwCl (townW K a (va_up T 0 ((Sv 4) 0)) ++ (waysW K b len qu n ++ (textW K t cs ln ++ (m0 :: m1 :: svW K g Sv X)))) H := hP
  have hD : va_D A (townW K a (va_up T 0 ((Sv 4) 0)) ++ (waysW K b len qu n ++ (textW K t cs ln ++ (m0 :: m1 :: svW K g Sv X)))) := hD
  refine lv_aload_n hx hb dX1_copyFrom_11 rfl (lv_at hl 1 rfl) ?_
  refine va_get (D := D) (ci := 1) (v := .ref ((g 4) 2)) (C := RX1) (T := TX1) (N := 12) hx hb hts inX1 hown hE.1 hP 67 rfl rfl 1 (by decide) F15 (fun _ h9 => h9) rfl dX1_copyFrom_12 ?_
  refine lv_aload_n hx hb dX1_copyFrom_15 rfl (lv_at hl 0 rfl) ?_
  refine va_get (D := D) (ci := 1) (v := .ref (a 2)) (C := RX1) (T := TX1) (N := 12) hx hb hts inX1 hown hE.1 hP 0 rfl rfl 1 (by decide) F15 (fun _ h9 => h9) rfl dX1_copyFrom_16 ?_
  refine wr_SN (rest := []) ⟨hx, hb, hml, hown, hts⟩ hP hE hA hD hS (c_X3_copyRow l D K _ _ 69 2 _ _ 80 _ _ rfl rfl (by decide)) (va_cnB (host := RX3) 2 hts gX1_copyFrom_X3_copyRow_n62 rfl rfl rfl hE.2.2.2.2.2.2.2.2.2.2.2.1 IniX3 hn_X3_copyRow ⟨Nat.le_of_ble_eq_true rfl, Nat.le_of_ble_eq_true rfl⟩) Sta_X3_copyRow rfl hl.1 rfl (Nat.le_of_ble_eq_true rfl) dX1_copyFrom_19 ⟨Nat.le_of_ble_eq_true rfl, Nat.le_of_ble_eq_true rfl⟩ (fun H locs hP hD hS => ?_)
  have hP : va_P D vwCl (townW K a (va_up (va_up T 0 ((Sv 4) 0)) 1 ((Sv 4) 1)) ++ (waysW K b len qu n ++ (textW K t cs ln ++ (m0 :: m1 :: svW K g Sv X)))) H := hP
  have hD : va_D A (townW K a (va_up (va_up T 0 ((Sv 4) 0)) 1 ((Sv 4) 1)) ++ (waysW K b len qu n ++ (textW K t cs ln ++ (m0 :: m1 :: svW K g Sv X)))) := hD
  refine lv_aload_n hx hb dX1_copyFrom_22 rfl (lv_at hl 1 rfl) ?_
  refine va_get (D := D) (ci := 1) (v := .ref ((g 4) 3)) (C := RX1) (T := TX1) (N := 12) hx hb hts inX1 hown hE.1 hP 67 rfl rfl 2 (by decide) F18 (fun _ h9 => h9) rfl dX1_copyFrom_23 ?_
  refine lv_aload_n hx hb dX1_copyFrom_26 rfl (lv_at hl 0 rfl) ?_
  refine va_get (D := D) (ci := 1) (v := .ref (a 3)) (C := RX1) (T := TX1) (N := 12) hx hb hts inX1 hown hE.1 hP 0 rfl rfl 2 (by decide) F18 (fun _ h9 => h9) rfl dX1_copyFrom_27 ?_
  refine wr_SN (rest := []) ⟨hx, hb, hml, hown, hts⟩ hP hE hA hD hS (c_X3_copyRow l D K _ _ 70 3 _ _ 80 _ _ rfl rfl (by decide)) (va_cnB (host := RX3) 2 hts gX1_copyFrom_X3_copyRow_n62 rfl rfl rfl hE.2.2.2.2.2.2.2.2.2.2.2.1 IniX3 hn_X3_copyRow ⟨Nat.le_of_ble_eq_true rfl, Nat.le_of_ble_eq_true rfl⟩) Sta_X3_copyRow rfl hl.1 rfl (Nat.le_of_ble_eq_true rfl) dX1_copyFrom_30 ⟨Nat.le_of_ble_eq_true rfl, Nat.le_of_ble_eq_true rfl⟩ (fun H locs hP hD hS => ?_)
  have hP : va_P D vwCl (townW K a (va_up (va_up (va_up T 0 ((Sv 4) 0)) 1 ((Sv 4) 1)) 2 ((Sv 4) 2)) ++ (waysW K b len qu n ++ (textW K t cs ln ++ (m0 :: m1 :: svW K g Sv X)))) H := hP
  have hD : va_D A (townW K a (va_up (va_up (va_up T 0 ((Sv 4) 0)) 1 ((Sv 4) 1)) 2 ((Sv 4) 2)) ++ (waysW K b len qu n ++ (textW K t cs ln ++ (m0 :: m1 :: svW K g Sv X)))) := hD
  refine lv_aload_n hx hb dX1_copyFrom_33 rfl (lv_at hl 1 rfl) ?_
  refine va_get (D := D) (ci := 1) (v := .ref ((g 4) 4)) (C := RX1) (T := TX1) (N := 12) hx hb hts inX1 hown hE.1 hP 67 rfl rfl 3 (by decide) F21 (fun _ h9 => h9) rfl dX1_copyFrom_34 ?_
  refine lv_aload_n hx hb dX1_copyFrom_37 rfl (lv_at hl 0 rfl) ?_
  refine va_get (D := D) (ci := 1) (v := .ref (a 4)) (C := RX1) (T := TX1) (N := 12) hx hb hts inX1 hown hE.1 hP 0 rfl rfl 3 (by decide) F21 (fun _ h9 => h9) rfl dX1_copyFrom_38 ?_
  refine wr_SN (rest := []) ⟨hx, hb, hml, hown, hts⟩ hP hE hA hD hS (c_X3_copyRow l D K _ _ 71 4 _ _ 12 _ _ rfl rfl (by decide)) (va_cnB (host := RX3) 2 hts gX1_copyFrom_X3_copyRow_n62 rfl rfl rfl hE.2.2.2.2.2.2.2.2.2.2.2.1 IniX3 hn_X3_copyRow ⟨Nat.le_of_ble_eq_true rfl, Nat.le_of_ble_eq_true rfl⟩) Sta_X3_copyRow rfl hl.1 rfl (Nat.le_of_ble_eq_true rfl) dX1_copyFrom_41 ⟨Nat.le_of_ble_eq_true rfl, Nat.le_of_ble_eq_true rfl⟩ (fun H locs hP hD hS => ?_)
  have hP : va_P D vwCl (townW K a (va_up (va_up (va_up (va_up T 0 ((Sv 4) 0)) 1 ((Sv 4) 1)) 2 ((Sv 4) 2)) 3 ((Sv 4) 3)) ++ (waysW K b len qu n ++ (textW K t cs ln ++ (m0 :: m1 :: svW K g Sv X)))) H := hP
  have hD : va_D A (townW K a (va_up (va_up (va_up (va_up T 0 ((Sv 4) 0)) 1 ((Sv 4) 1)) 2 ((Sv 4) 2)) 3 ((Sv 4) 3)) ++ (waysW K b len qu n ++ (textW K t cs ln ++ (m0 :: m1 :: svW K g Sv X)))) := hD
  refine lv_aload_n hx hb dX1_copyFrom_44 rfl (lv_at hl 1 rfl) ?_
  refine va_get (D := D) (ci := 1) (v := .ref ((g 4) 5)) (C := RX1) (T := TX1) (N := 12) hx hb hts inX1 hown hE.1 hP 67 rfl rfl 4 (by decide) F24 (fun _ h9 => h9) rfl dX1_copyFrom_45 ?_
  refine lv_aload_n hx hb dX1_copyFrom_48 rfl (lv_at hl 0 rfl) ?_
  refine va_get (D := D) (ci := 1) (v := .ref (a 5)) (C := RX1) (T := TX1) (N := 12) hx hb hts inX1 hown hE.1 hP 0 rfl rfl 4 (by decide) F24 (fun _ h9 => h9) rfl dX1_copyFrom_49 ?_
  refine wr_SN (rest := []) ⟨hx, hb, hml, hown, hts⟩ hP hE hA hD hS (c_X3_copyRow l D K _ _ 72 5 _ _ 12 _ _ rfl rfl (by decide)) (va_cnB (host := RX3) 2 hts gX1_copyFrom_X3_copyRow_n62 rfl rfl rfl hE.2.2.2.2.2.2.2.2.2.2.2.1 IniX3 hn_X3_copyRow ⟨Nat.le_of_ble_eq_true rfl, Nat.le_of_ble_eq_true rfl⟩) Sta_X3_copyRow rfl hl.1 rfl (Nat.le_of_ble_eq_true rfl) dX1_copyFrom_52 ⟨Nat.le_of_ble_eq_true rfl, Nat.le_of_ble_eq_true rfl⟩ (fun H locs hP hD hS => ?_)
  have hP : va_P D vwCl (townW K a (va_up (va_up (va_up (va_up (va_up T 0 ((Sv 4) 0)) 1 ((Sv 4) 1)) 2 ((Sv 4) 2)) 3 ((Sv 4) 3)) 4 ((Sv 4) 4)) ++ (waysW K b len qu n ++ (textW K t cs ln ++ (m0 :: m1 :: svW K g Sv X)))) H := hP
  have hD : va_D A (townW K a (va_up (va_up (va_up (va_up (va_up T 0 ((Sv 4) 0)) 1 ((Sv 4) 1)) 2 ((Sv 4) 2)) 3 ((Sv 4) 3)) 4 ((Sv 4) 4)) ++ (waysW K b len qu n ++ (textW K t cs ln ++ (m0 :: m1 :: svW K g Sv X)))) := hD
  refine lv_aload_n hx hb dX1_copyFrom_55 rfl (lv_at hl 1 rfl) ?_
  refine va_get (D := D) (ci := 1) (v := .ref ((g 4) 6)) (C := RX1) (T := TX1) (N := 12) hx hb hts inX1 hown hE.1 hP 67 rfl rfl 5 (by decide) F27 (fun _ h9 => h9) rfl dX1_copyFrom_56 ?_
  refine lv_aload_n hx hb dX1_copyFrom_59 rfl (lv_at hl 0 rfl) ?_
  refine va_get (D := D) (ci := 1) (v := .ref (a 6)) (C := RX1) (T := TX1) (N := 12) hx hb hts inX1 hown hE.1 hP 0 rfl rfl 5 (by decide) F27 (fun _ h9 => h9) rfl dX1_copyFrom_60 ?_
  refine wr_SN (rest := []) ⟨hx, hb, hml, hown, hts⟩ hP hE hA hD hS (c_X3_copyRow l D K _ _ 73 6 _ _ 4 _ _ rfl rfl (by decide)) (va_cnB (host := RX3) 2 hts gX1_copyFrom_X3_copyRow_n62 rfl rfl rfl hE.2.2.2.2.2.2.2.2.2.2.2.1 IniX3 hn_X3_copyRow ⟨Nat.le_of_ble_eq_true rfl, Nat.le_of_ble_eq_true rfl⟩) Sta_X3_copyRow rfl hl.1 rfl (Nat.le_of_ble_eq_true rfl) dX1_copyFrom_63 ⟨Nat.le_of_ble_eq_true rfl, Nat.le_of_ble_eq_true rfl⟩ (fun H locs hP hD hS => ?_)
  have hP : va_P D vwCl (townW K a (va_up (va_up (va_up (va_up (va_up (va_up T 0 ((Sv 4) 0)) 1 ((Sv 4) 1)) 2 ((Sv 4) 2)) 3 ((Sv 4) 3)) 4 ((Sv 4) 4)) 5 ((Sv 4) 5)) ++ (waysW K b len qu n ++ (textW K t cs ln ++ (m0 :: m1 :: svW K g Sv X)))) H := hP
  have hD : va_D A (townW K a (va_up (va_up (va_up (va_up (va_up (va_up T 0 ((Sv 4) 0)) 1 ((Sv 4) 1)) 2 ((Sv 4) 2)) 3 ((Sv 4) 3)) 4 ((Sv 4) 4)) 5 ((Sv 4) 5)) ++ (waysW K b len qu n ++ (textW K t cs ln ++ (m0 :: m1 :: svW K g Sv X)))) := hD
  refine lv_aload_n hx hb dX1_copyFrom_66 rfl (lv_at hl 1 rfl) ?_
  refine va_get (D := D) (ci := 1) (v := .ref ((g 4) 7)) (C := RX1) (T := TX1) (N := 12) hx hb hts inX1 hown hE.1 hP 67 rfl rfl 6 (by decide) F38 (fun _ h9 => h9) rfl dX1_copyFrom_67 ?_
  refine lv_aload_n hx hb dX1_copyFrom_70 rfl (lv_at hl 0 rfl) ?_
  refine va_get (D := D) (ci := 1) (v := .ref (a 7)) (C := RX1) (T := TX1) (N := 12) hx hb hts inX1 hown hE.1 hP 0 rfl rfl 6 (by decide) F38 (fun _ h9 => h9) rfl dX1_copyFrom_71 ?_
  refine wr_SN (rest := []) ⟨hx, hb, hml, hown, hts⟩ hP hE hA hD hS (c_X3_copyRow l D K _ _ 74 7 _ _ 4 _ _ rfl rfl (by decide)) (va_cnB (host := RX3) 2 hts gX1_copyFrom_X3_copyRow_n62 rfl rfl rfl hE.2.2.2.2.2.2.2.2.2.2.2.1 IniX3 hn_X3_copyRow ⟨Nat.le_of_ble_eq_true rfl, Nat.le_of_ble_eq_true rfl⟩) Sta_X3_copyRow rfl hl.1 rfl (Nat.le_of_ble_eq_true rfl) dX1_copyFrom_74 ⟨Nat.le_of_ble_eq_true rfl, Nat.le_of_ble_eq_true rfl⟩ (fun H locs hP hD hS => ?_)
  have hP : va_P D vwCl (townW K a (va_up (va_up (va_up (va_up (va_up (va_up (va_up T 0 ((Sv 4) 0)) 1 ((Sv 4) 1)) 2 ((Sv 4) 2)) 3 ((Sv 4) 3)) 4 ((Sv 4) 4)) 5 ((Sv 4) 5)) 6 ((Sv 4) 6)) ++ (waysW K b len qu n ++ (textW K t cs ln ++ (m0 :: m1 :: svW K g Sv X)))) H := hP
  have hD : va_D A (townW K a (va_up (va_up (va_up (va_up (va_up (va_up (va_up T 0 ((Sv 4) 0)) 1 ((Sv 4) 1)) 2 ((Sv 4) 2)) 3 ((Sv 4) 3)) 4 ((Sv 4) 4)) 5 ((Sv 4) 5)) 6 ((Sv 4) 6)) ++ (waysW K b len qu n ++ (textW K t cs ln ++ (m0 :: m1 :: svW K g Sv X)))) := hD
  refine lv_aload_n hx hb dX1_copyFrom_77 rfl (lv_at hl 1 rfl) ?_
  refine va_get (D := D) (ci := 1) (v := .ref ((g 4) 8)) (C := RX1) (T := TX1) (N := 12) hx hb hts inX1 hown hE.1 hP 67 rfl rfl 7 (by decide) F41 (fun _ h9 => h9) rfl dX1_copyFrom_78 ?_
  refine lv_aload_n hx hb dX1_copyFrom_81 rfl (lv_at hl 0 rfl) ?_
  refine va_get (D := D) (ci := 1) (v := .ref (a 8)) (C := RX1) (T := TX1) (N := 12) hx hb hts inX1 hown hE.1 hP 0 rfl rfl 7 (by decide) F41 (fun _ h9 => h9) rfl dX1_copyFrom_82 ?_
  refine wr_SN (rest := []) ⟨hx, hb, hml, hown, hts⟩ hP hE hA hD hS (c_X3_copyRow l D K _ _ 75 8 _ _ 4 _ _ rfl rfl (by decide)) (va_cnB (host := RX3) 2 hts gX1_copyFrom_X3_copyRow_n62 rfl rfl rfl hE.2.2.2.2.2.2.2.2.2.2.2.1 IniX3 hn_X3_copyRow ⟨Nat.le_of_ble_eq_true rfl, Nat.le_of_ble_eq_true rfl⟩) Sta_X3_copyRow rfl hl.1 rfl (Nat.le_of_ble_eq_true rfl) dX1_copyFrom_85 ⟨Nat.le_of_ble_eq_true rfl, Nat.le_of_ble_eq_true rfl⟩ (fun H locs hP hD hS => ?_)
  have hP : va_P D vwCl (townW K a (va_up (va_up (va_up (va_up (va_up (va_up (va_up (va_up T 0 ((Sv 4) 0)) 1 ((Sv 4) 1)) 2 ((Sv 4) 2)) 3 ((Sv 4) 3)) 4 ((Sv 4) 4)) 5 ((Sv 4) 5)) 6 ((Sv 4) 6)) 7 ((Sv 4) 7)) ++ (waysW K b len qu n ++ (textW K t cs ln ++ (m0 :: m1 :: svW K g Sv X)))) H := hP
  have hD : va_D A (townW K a (va_up (va_up (va_up (va_up (va_up (va_up (va_up (va_up T 0 ((Sv 4) 0)) 1 ((Sv 4) 1)) 2 ((Sv 4) 2)) 3 ((Sv 4) 3)) 4 ((Sv 4) 4)) 5 ((Sv 4) 5)) 6 ((Sv 4) 6)) 7 ((Sv 4) 7)) ++ (waysW K b len qu n ++ (textW K t cs ln ++ (m0 :: m1 :: svW K g Sv X)))) := hD
  refine lv_aload_n hx hb dX1_copyFrom_88 rfl (lv_at hl 1 rfl) ?_
  refine va_get (D := D) (ci := 1) (v := .ref ((g 4) 9)) (C := RX1) (T := TX1) (N := 12) hx hb hts inX1 hown hE.1 hP 67 rfl rfl 8 (by decide) F44 (fun _ h9 => h9) rfl dX1_copyFrom_89 ?_
  refine lv_aload_n hx hb dX1_copyFrom_92 rfl (lv_at hl 0 rfl) ?_
  refine va_get (D := D) (ci := 1) (v := .ref (a 9)) (C := RX1) (T := TX1) (N := 12) hx hb hts inX1 hown hE.1 hP 0 rfl rfl 8 (by decide) F44 (fun _ h9 => h9) rfl dX1_copyFrom_93 ?_
  refine wr_SN (rest := []) ⟨hx, hb, hml, hown, hts⟩ hP hE hA hD hS (c_X3_copyRow l D K _ _ 76 9 _ _ 4 _ _ rfl rfl (by decide)) (va_cnB (host := RX3) 2 hts gX1_copyFrom_X3_copyRow_n62 rfl rfl rfl hE.2.2.2.2.2.2.2.2.2.2.2.1 IniX3 hn_X3_copyRow ⟨Nat.le_of_ble_eq_true rfl, Nat.le_of_ble_eq_true rfl⟩) Sta_X3_copyRow rfl hl.1 rfl (Nat.le_of_ble_eq_true rfl) dX1_copyFrom_96 ⟨Nat.le_of_ble_eq_true rfl, Nat.le_of_ble_eq_true rfl⟩ (fun H locs hP hD hS => ?_)
  have hP : va_P D vwCl (townW K a (va_up (va_up (va_up (va_up (va_up (va_up (va_up (va_up (va_up T 0 ((Sv 4) 0)) 1 ((Sv 4) 1)) 2 ((Sv 4) 2)) 3 ((Sv 4) 3)) 4 ((Sv 4) 4)) 5 ((Sv 4) 5)) 6 ((Sv 4) 6)) 7 ((Sv 4) 7)) 8 ((Sv 4) 8)) ++ (waysW K b len qu n ++ (textW K t cs ln ++ (m0 :: m1 :: svW K g Sv X)))) H := hP
  have hD : va_D A (townW K a (va_up (va_up (va_up (va_up (va_up (va_up (va_up (va_up (va_up T 0 ((Sv 4) 0)) 1 ((Sv 4) 1)) 2 ((Sv 4) 2)) 3 ((Sv 4) 3)) 4 ((Sv 4) 4)) 5 ((Sv 4) 5)) 6 ((Sv 4) 6)) 7 ((Sv 4) 7)) 8 ((Sv 4) 8)) ++ (waysW K b len qu n ++ (textW K t cs ln ++ (m0 :: m1 :: svW K g Sv X)))) := hD
  refine lv_aload_n hx hb dX1_copyFrom_99 rfl (lv_at hl 1 rfl) ?_
  refine va_get (D := D) (ci := 1) (v := .ref ((g 4) 10)) (C := RX1) (T := TX1) (N := 12) hx hb hts inX1 hown hE.1 hP 67 rfl rfl 9 (by decide) F47 (fun _ h9 => h9) rfl dX1_copyFrom_100 ?_
  refine lv_aload_n hx hb dX1_copyFrom_103 rfl (lv_at hl 0 rfl) ?_
  refine va_get (D := D) (ci := 1) (v := .ref (a 10)) (C := RX1) (T := TX1) (N := 12) hx hb hts inX1 hown hE.1 hP 0 rfl rfl 9 (by decide) F47 (fun _ h9 => h9) rfl dX1_copyFrom_104 ?_
  refine wr_SN (rest := []) ⟨hx, hb, hml, hown, hts⟩ hP hE hA hD hS (c_X3_copyRow l D K _ _ 77 10 _ _ 4 _ _ rfl rfl (by decide)) (va_cnB (host := RX3) 2 hts gX1_copyFrom_X3_copyRow_n62 rfl rfl rfl hE.2.2.2.2.2.2.2.2.2.2.2.1 IniX3 hn_X3_copyRow ⟨Nat.le_of_ble_eq_true rfl, Nat.le_of_ble_eq_true rfl⟩) Sta_X3_copyRow rfl hl.1 rfl (Nat.le_of_ble_eq_true rfl) dX1_copyFrom_107 ⟨Nat.le_of_ble_eq_true rfl, Nat.le_of_ble_eq_true rfl⟩ (fun H locs hP hD hS => ?_)
  have hP : va_P D vwCl (townW K a (va_up (va_up (va_up (va_up (va_up (va_up (va_up (va_up (va_up (va_up T 0 ((Sv 4) 0)) 1 ((Sv 4) 1)) 2 ((Sv 4) 2)) 3 ((Sv 4) 3)) 4 ((Sv 4) 4)) 5 ((Sv 4) 5)) 6 ((Sv 4) 6)) 7 ((Sv 4) 7)) 8 ((Sv 4) 8)) 9 ((Sv 4) 9)) ++ (waysW K b len qu n ++ (textW K t cs ln ++ (m0 :: m1 :: svW K g Sv X)))) H := hP
  have hD : va_D A (townW K a (va_up (va_up (va_up (va_up (va_up (va_up (va_up (va_up (va_up (va_up T 0 ((Sv 4) 0)) 1 ((Sv 4) 1)) 2 ((Sv 4) 2)) 3 ((Sv 4) 3)) 4 ((Sv 4) 4)) 5 ((Sv 4) 5)) 6 ((Sv 4) 6)) 7 ((Sv 4) 7)) 8 ((Sv 4) 8)) 9 ((Sv 4) 9)) ++ (waysW K b len qu n ++ (textW K t cs ln ++ (m0 :: m1 :: svW K g Sv X)))) := hD
  refine lv_aload_n hx hb dX1_copyFrom_110 rfl (lv_at hl 1 rfl) ?_
  refine va_get (D := D) (ci := 1) (v := .ref ((g 4) 11)) (C := RX1) (T := TX1) (N := 12) hx hb hts inX1 hown hE.1 hP 67 rfl rfl 10 (by decide) F53 (fun _ h9 => h9) rfl dX1_copyFrom_111 ?_
  refine lv_aload_n hx hb dX1_copyFrom_114 rfl (lv_at hl 0 rfl) ?_
  refine va_get (D := D) (ci := 1) (v := .ref (a 11)) (C := RX1) (T := TX1) (N := 12) hx hb hts inX1 hown hE.1 hP 0 rfl rfl 10 (by decide) F53 (fun _ h9 => h9) rfl dX1_copyFrom_115 ?_
  refine wr_SN (rest := []) ⟨hx, hb, hml, hown, hts⟩ hP hE hA hD hS (c_X3_copyRow l D K _ _ 78 11 _ _ 3 _ _ rfl rfl (by decide)) (va_cnB (host := RX3) 2 hts gX1_copyFrom_X3_copyRow_n62 rfl rfl rfl hE.2.2.2.2.2.2.2.2.2.2.2.1 IniX3 hn_X3_copyRow ⟨Nat.le_of_ble_eq_true rfl, Nat.le_of_ble_eq_true rfl⟩) Sta_X3_copyRow rfl hl.1 rfl (Nat.le_of_ble_eq_true rfl) dX1_copyFrom_118 ⟨Nat.le_of_ble_eq_true rfl, Nat.le_of_ble_eq_true rfl⟩ (fun H locs hP hD hS => ?_)
  have hP : va_P D vwCl (townW K a (va_up (va_up (va_up (va_up (va_up (va_up (va_up (va_up (va_up (va_up (va_up T 0 ((Sv 4) 0)) 1 ((Sv 4) 1)) 2 ((Sv 4) 2)) 3 ((Sv 4) 3)) 4 ((Sv 4) 4)) 5 ((Sv 4) 5)) 6 ((Sv 4) 6)) 7 ((Sv 4) 7)) 8 ((Sv 4) 8)) 9 ((Sv 4) 9)) 10 ((Sv 4) 10)) ++ (waysW K b len qu n ++ (textW K t cs ln ++ (m0 :: m1 :: svW K g Sv X)))) H := hP
  have hD : va_D A (townW K a (va_up (va_up (va_up (va_up (va_up (va_up (va_up (va_up (va_up (va_up (va_up T 0 ((Sv 4) 0)) 1 ((Sv 4) 1)) 2 ((Sv 4) 2)) 3 ((Sv 4) 3)) 4 ((Sv 4) 4)) 5 ((Sv 4) 5)) 6 ((Sv 4) 6)) 7 ((Sv 4) 7)) 8 ((Sv 4) 8)) 9 ((Sv 4) 9)) 10 ((Sv 4) 10)) ++ (waysW K b len qu n ++ (textW K t cs ln ++ (m0 :: m1 :: svW K g Sv X)))) := hD
  refine lv_aload_n hx hb dX1_copyFrom_121 rfl (lv_at hl 0 rfl) ?_
  refine lv_aload_n hx hb dX1_copyFrom_122 rfl (lv_at hl 1 rfl) ?_
  refine va_get (D := D) (ci := 1) (v := .int ((Sv 4) 11 0)) (C := RX1) (T := TX1) (N := 12) hx hb hts inX1 hown hE.1 hP 67 rfl rfl 11 (by decide) F66 (fun _ h9 => h9) rfl dX1_copyFrom_123 ?_
  refine va_put (D := D) (ci := 1) (v := .int ((Sv 4) 11 0)) (ty := .int) (C := RX1) (T := TX1) (N := 12) hx hb hts inX1 tyX1 tyX1_ok nmX1 hown hE.1 hP hD hS 0 rfl rfl 11 (by decide) F66 (fun _ h9 => h9) rfl (by decide +kernel) rfl rfl (Nat.le_of_ble_eq_true rfl) dX1_copyFrom_126 (fun H locs hP hD hS => ?_)
  have hP : va_P D vwCl (townW K a (setT (va_up (va_up (va_up (va_up (va_up (va_up (va_up (va_up (va_up (va_up (va_up T 0 ((Sv 4) 0)) 1 ((Sv 4) 1)) 2 ((Sv 4) 2)) 3 ((Sv 4) 3)) 4 ((Sv 4) 4)) 5 ((Sv 4) 5)) 6 ((Sv 4) 6)) 7 ((Sv 4) 7)) 8 ((Sv 4) 8)) 9 ((Sv 4) 9)) 10 ((Sv 4) 10)) 11 0 ((Sv 4) 11 0)) ++ (waysW K b len qu n ++ (textW K t cs ln ++ (m0 :: m1 :: svW K g Sv X)))) H := hP
  have hD : va_D A (townW K a (setT (va_up (va_up (va_up (va_up (va_up (va_up (va_up (va_up (va_up (va_up (va_up T 0 ((Sv 4) 0)) 1 ((Sv 4) 1)) 2 ((Sv 4) 2)) 3 ((Sv 4) 3)) 4 ((Sv 4) 4)) 5 ((Sv 4) 5)) 6 ((Sv 4) 6)) 7 ((Sv 4) 7)) 8 ((Sv 4) 8)) 9 ((Sv 4) 9)) 10 ((Sv 4) 10)) 11 0 ((Sv 4) 11 0)) ++ (waysW K b len qu n ++ (textW K t cs ln ++ (m0 :: m1 :: svW K g Sv X)))) := hD
  have hP : va_P D vwCl (townW K a (Sv 4) ++ (waysW K b len qu n ++ (textW K t cs ln ++ (m0 :: m1 :: svW K g Sv X)))) H := hP
  have hD : va_D A (townW K a (Sv 4) ++ (waysW K b len qu n ++ (textW K t cs ln ++ (m0 :: m1 :: svW K g Sv X)))) := hD
  exact wr_vret hAe hP hD hS hx hb hr hk dX1_copyFrom_129 ⟨Nat.le_of_ble_eq_true rfl, Nat.le_of_ble_eq_true rfl⟩
set_option maxHeartbeats 4000000 in
set_option maxRecDepth 100000 in
theorem c_X1_copyFrom_u5 (l : Launch) (D : va_G) (K : Nat → ClassId) (sz : Nat) (a b t : Nat → Nat) (g : Nat → Nat → Nat) (T : TW) (X : va_W) (len : Nat → Option Nat) (qu : Nat → Nat) (n : Nat) (cs : Nat → Nat) (ln : Nat) (m0 m1 : Nat × va_E) (Sv : Nat → TW) : Wr l yX1_copyFrom wsX1_copyFrom ({ frames := 3, cells := 0, slots := 0, locals := 61 } : Room) D K (townW K a T ++ (waysW K b len qu n ++ (textW K t cs ln ++ (m0 :: m1 :: svW K g Sv X)))) sz [.ref (a 0), .ref ((g 5) 0)] (townW K a (Sv 5) ++ (waysW K b len qu n ++ (textW K t cs ln ++ (m0 :: m1 :: svW K g Sv X)))) none 0 0 := by
  refine wr_intro (cc := cX1_copyFrom) (maxL := 2) (ret := none) (by decide) rfl (Nat.le_of_ble_eq_true rfl) ?_
  intro pr en st md ar bl mt co A hx hb hml hr hts hown hk hsz hAe hP hE hD hS hA hin ls hl
  have hown : st.vm.findClass RX1 = some md.cls := hown
  have hl : lv_has ls 2 [(0, .ref (a 0)), (1, .ref ((g 5) 0))] := hl
  obtain ⟨H, hH⟩ : ∃ z, z = st.heap := ⟨_, rfl⟩
  obtain ⟨locs, hlo⟩ : ∃ z : List Loc, z = [] := ⟨_, rfl⟩
  have hP : va_P D vwCl (townW K a T ++ (waysW K b len qu n ++ (textW K t cs ln ++ (m0 :: m1 :: svW K g Sv X)))) H := by rw [hH]; exact hP
  have hS : va_S A st.heap H locs := by rw [hH, hlo]; exact hS
  suffices go : W pr l en (headSpec wsX1_copyFrom ({ frames := 3, cells := 0, slots := 0, locals := 61 } : Room)).room st md ar bl mt co H locs 0 0 (MQ bl (wrQ D (townW K a T ++ (waysW K b len qu n ++ (textW K t cs ln ++ (m0 :: m1 :: svW K g Sv X)))) (townW K a (Sv 5) ++ (waysW K b len qu n ++ (textW K t cs ln ++ (m0 :: m1 :: svW K g Sv X)))) sz none) ar st 0 0 A) (F0 md 0 ls []) by rw [hH, hlo] at go; exact go
  clear hH hlo
  have F9 : (Cond.fieldLink RX1 9 "TramTolls$Town" "houses" "[I").before ar st = true := hts _ (List.mem_of_getElem? (i := 1) rfl)
  have inX1 : ∀ w ∈ u_ws RX1 TX1 12, w ∈ wsX1_copyFrom := fun w h => List.mem_cons_of_mem _ (List.mem_append_right _ h)
  have IniX3 : (Cond.initialized RX3).before ar st = true := hts _ (List.mem_of_getElem? (i := 14) rfl)
  have Sta_X3_copyRow : (Cond.static yX3_copyRow).before ar st = true := hts _ (List.mem_of_getElem? (i := 13) rfl)
  have F15 : (Cond.fieldLink RX1 15 "TramTolls$Town" "trackMasks" "[I").before ar st = true := hts _ (List.mem_of_getElem? (i := 2) rfl)
  have F18 : (Cond.fieldLink RX1 18 "TramTolls$Town" "owners" "[I").before ar st = true := hts _ (List.mem_of_getElem? (i := 3) rfl)
  have F21 : (Cond.fieldLink RX1 21 "TramTolls$Town" "stopSquares" "[I").before ar st = true := hts _ (List.mem_of_getElem? (i := 4) rfl)
  have F24 : (Cond.fieldLink RX1 24 "TramTolls$Town" "stopPlayers" "[I").before ar st = true := hts _ (List.mem_of_getElem? (i := 5) rfl)
  have F27 : (Cond.fieldLink RX1 27 "TramTolls$Town" "coins" "[I").before ar st = true := hts _ (List.mem_of_getElem? (i := 6) rfl)
  have F38 : (Cond.fieldLink RX1 38 "TramTolls$Town" "heads" "[I").before ar st = true := hts _ (List.mem_of_getElem? (i := 7) rfl)
  have F41 : (Cond.fieldLink RX1 41 "TramTolls$Town" "lastDirections" "[I").before ar st = true := hts _ (List.mem_of_getElem? (i := 8) rfl)
  have F44 : (Cond.fieldLink RX1 44 "TramTolls$Town" "tollsPaid" "[I").before ar st = true := hts _ (List.mem_of_getElem? (i := 9) rfl)
  have F47 : (Cond.fieldLink RX1 47 "TramTolls$Town" "tollsGot" "[I").before ar st = true := hts _ (List.mem_of_getElem? (i := 10) rfl)
  have F53 : (Cond.fieldLink RX1 53 "TramTolls$Town" "settings" "[I").before ar st = true := hts _ (List.mem_of_getElem? (i := 11) rfl)
  have F66 : (Cond.fieldLink RX1 66 "TramTolls$Town" "piecesLaid" "I").before ar st = true := hts _ (List.mem_of_getElem? (i := 12) rfl)
  refine lv_aload_n hx hb dX1_copyFrom_0 rfl (lv_at hl 1 rfl) ?_
  refine va_get (D := D) (ci := 1) (v := .ref ((g 5) 1)) (C := RX1) (T := TX1) (N := 12) hx hb hts inX1 hown hE.1 hP 79 rfl rfl 0 (by decide) F9 (fun _ h9 => h9) rfl dX1_copyFrom_1 ?_
  refine lv_aload_n hx hb dX1_copyFrom_4 rfl (lv_at hl 0 rfl) ?_
  refine va_get (D := D) (ci := 1) (v := .ref (a 1)) (C := RX1) (T := TX1) (N := 12) hx hb hts inX1 hown hE.1 hP 0 rfl rfl 0 (by decide) F9 (fun _ h9 => h9) rfl dX1_copyFrom_5 ?_
  refine wr_SN (rest := []) ⟨hx, hb, hml, hown, hts⟩ hP hE hA hD hS (c_X3_copyRow l D K _ _ 80 1 _ _ 80 _ _ rfl rfl (by decide)) (va_cnB (host := RX3) 2 hts gX1_copyFrom_X3_copyRow_n62 rfl rfl rfl hE.2.2.2.2.2.2.2.2.2.2.2.1 IniX3 hn_X3_copyRow ⟨Nat.le_of_ble_eq_true rfl, Nat.le_of_ble_eq_true rfl⟩) Sta_X3_copyRow rfl hl.1 rfl (Nat.le_of_ble_eq_true rfl) dX1_copyFrom_8 ⟨Nat.le_of_ble_eq_true rfl, Nat.le_of_ble_eq_true rfl⟩ (fun H locs hP hD hS => ?_)
  have hP : va_P D vwCl (townW K a (va_up T 0 ((Sv 5) 0)) ++ (waysW K b len qu n ++ (textW K t cs ln ++ (m0 :: m1 :: svW K g Sv X)))) H := hP
  have hD : va_D A (townW K a (va_up T 0 ((Sv 5) 0)) ++ (waysW K b len qu n ++ (textW K t cs ln ++ (m0 :: m1 :: svW K g Sv X)))) := hD
  refine lv_aload_n hx hb dX1_copyFrom_11 rfl (lv_at hl 1 rfl) ?_
  refine va_get (D := D) (ci := 1) (v := .ref ((g 5) 2)) (C := RX1) (T := TX1) (N := 12) hx hb hts inX1 hown hE.1 hP 79 rfl rfl 1 (by decide) F15 (fun _ h9 => h9) rfl dX1_copyFrom_12 ?_
  refine lv_aload_n hx hb dX1_copyFrom_15 rfl (lv_at hl 0 rfl) ?_
  refine va_get (D := D) (ci := 1) (v := .ref (a 2)) (C := RX1) (T := TX1) (N := 12) hx hb hts inX1 hown hE.1 hP 0 rfl rfl 1 (by decide) F15 (fun _ h9 => h9) rfl dX1_copyFrom_16 ?_
  refine wr_SN (rest := []) ⟨hx, hb, hml, hown, hts⟩ hP hE hA hD hS (c_X3_copyRow l D K _ _ 81 2 _ _ 80 _ _ rfl rfl (by decide)) (va_cnB (host := RX3) 2 hts gX1_copyFrom_X3_copyRow_n62 rfl rfl rfl hE.2.2.2.2.2.2.2.2.2.2.2.1 IniX3 hn_X3_copyRow ⟨Nat.le_of_ble_eq_true rfl, Nat.le_of_ble_eq_true rfl⟩) Sta_X3_copyRow rfl hl.1 rfl (Nat.le_of_ble_eq_true rfl) dX1_copyFrom_19 ⟨Nat.le_of_ble_eq_true rfl, Nat.le_of_ble_eq_true rfl⟩ (fun H locs hP hD hS => ?_)
  have hP : va_P D vwCl (townW K a (va_up (va_up T 0 ((Sv 5) 0)) 1 ((Sv 5) 1)) ++ (waysW K b len qu n ++ (textW K t cs ln ++ (m0 :: m1 :: svW K g Sv X)))) H := hP
  have hD : va_D A (townW K a (va_up (va_up T 0 ((Sv 5) 0)) 1 ((Sv 5) 1)) ++ (waysW K b len qu n ++ (textW K t cs ln ++ (m0 :: m1 :: svW K g Sv X)))) := hD
  refine lv_aload_n hx hb dX1_copyFrom_22 rfl (lv_at hl 1 rfl) ?_
  refine va_get (D := D) (ci := 1) (v := .ref ((g 5) 3)) (C := RX1) (T := TX1) (N := 12) hx hb hts inX1 hown hE.1 hP 79 rfl rfl 2 (by decide) F18 (fun _ h9 => h9) rfl dX1_copyFrom_23 ?_
  refine lv_aload_n hx hb dX1_copyFrom_26 rfl (lv_at hl 0 rfl) ?_
  refine va_get (D := D) (ci := 1) (v := .ref (a 3)) (C := RX1) (T := TX1) (N := 12) hx hb hts inX1 hown hE.1 hP 0 rfl rfl 2 (by decide) F18 (fun _ h9 => h9) rfl dX1_copyFrom_27 ?_
  refine wr_SN (rest := []) ⟨hx, hb, hml, hown, hts⟩ hP hE hA hD hS (c_X3_copyRow l D K _ _ 82 3 _ _ 80 _ _ rfl rfl (by decide)) (va_cnB (host := RX3) 2 hts gX1_copyFrom_X3_copyRow_n62 rfl rfl rfl hE.2.2.2.2.2.2.2.2.2.2.2.1 IniX3 hn_X3_copyRow ⟨Nat.le_of_ble_eq_true rfl, Nat.le_of_ble_eq_true rfl⟩) Sta_X3_copyRow rfl hl.1 rfl (Nat.le_of_ble_eq_true rfl) dX1_copyFrom_30 ⟨Nat.le_of_ble_eq_true rfl, Nat.le_of_ble_eq_true rfl⟩ (fun H locs hP hD hS => ?_)
  have hP : va_P D vwCl (townW K a (va_up (va_up (va_up T 0 ((Sv 5) 0)) 1 ((Sv 5) 1)) 2 ((Sv 5) 2)) ++ (waysW K b len qu n ++ (textW K t cs ln ++ (m0 :: m1 :: svW K g Sv X)))) H := hP
  have hD : va_D A (townW K a (va_up (va_up (va_up T 0 ((Sv 5) 0)) 1 ((Sv 5) 1)) 2 ((Sv 5) 2)) ++ (waysW K b len qu n ++ (textW K t cs ln ++ (m0 :: m1 :: svW K g Sv X)))) := hD
  refine lv_aload_n hx hb dX1_copyFrom_33 rfl (lv_at hl 1 rfl) ?_
  refine va_get (D := D) (ci := 1) (v := .ref ((g 5) 4)) (C := RX1) (T := TX1) (N := 12) hx hb hts inX1 hown hE.1 hP 79 rfl rfl 3 (by decide) F21 (fun _ h9 => h9) rfl dX1_copyFrom_34 ?_
  refine lv_aload_n hx hb dX1_copyFrom_37 rfl (lv_at hl 0 rfl) ?_
  refine va_get (D := D) (ci := 1) (v := .ref (a 4)) (C := RX1) (T := TX1) (N := 12) hx hb hts inX1 hown hE.1 hP 0 rfl rfl 3 (by decide) F21 (fun _ h9 => h9) rfl dX1_copyFrom_38 ?_
  refine wr_SN (rest := []) ⟨hx, hb, hml, hown, hts⟩ hP hE hA hD hS (c_X3_copyRow l D K _ _ 83 4 _ _ 12 _ _ rfl rfl (by decide)) (va_cnB (host := RX3) 2 hts gX1_copyFrom_X3_copyRow_n62 rfl rfl rfl hE.2.2.2.2.2.2.2.2.2.2.2.1 IniX3 hn_X3_copyRow ⟨Nat.le_of_ble_eq_true rfl, Nat.le_of_ble_eq_true rfl⟩) Sta_X3_copyRow rfl hl.1 rfl (Nat.le_of_ble_eq_true rfl) dX1_copyFrom_41 ⟨Nat.le_of_ble_eq_true rfl, Nat.le_of_ble_eq_true rfl⟩ (fun H locs hP hD hS => ?_)
  have hP : va_P D vwCl (townW K a (va_up (va_up (va_up (va_up T 0 ((Sv 5) 0)) 1 ((Sv 5) 1)) 2 ((Sv 5) 2)) 3 ((Sv 5) 3)) ++ (waysW K b len qu n ++ (textW K t cs ln ++ (m0 :: m1 :: svW K g Sv X)))) H := hP
  have hD : va_D A (townW K a (va_up (va_up (va_up (va_up T 0 ((Sv 5) 0)) 1 ((Sv 5) 1)) 2 ((Sv 5) 2)) 3 ((Sv 5) 3)) ++ (waysW K b len qu n ++ (textW K t cs ln ++ (m0 :: m1 :: svW K g Sv X)))) := hD
  refine lv_aload_n hx hb dX1_copyFrom_44 rfl (lv_at hl 1 rfl) ?_
  refine va_get (D := D) (ci := 1) (v := .ref ((g 5) 5)) (C := RX1) (T := TX1) (N := 12) hx hb hts inX1 hown hE.1 hP 79 rfl rfl 4 (by decide) F24 (fun _ h9 => h9) rfl dX1_copyFrom_45 ?_
  refine lv_aload_n hx hb dX1_copyFrom_48 rfl (lv_at hl 0 rfl) ?_
  refine va_get (D := D) (ci := 1) (v := .ref (a 5)) (C := RX1) (T := TX1) (N := 12) hx hb hts inX1 hown hE.1 hP 0 rfl rfl 4 (by decide) F24 (fun _ h9 => h9) rfl dX1_copyFrom_49 ?_
  refine wr_SN (rest := []) ⟨hx, hb, hml, hown, hts⟩ hP hE hA hD hS (c_X3_copyRow l D K _ _ 84 5 _ _ 12 _ _ rfl rfl (by decide)) (va_cnB (host := RX3) 2 hts gX1_copyFrom_X3_copyRow_n62 rfl rfl rfl hE.2.2.2.2.2.2.2.2.2.2.2.1 IniX3 hn_X3_copyRow ⟨Nat.le_of_ble_eq_true rfl, Nat.le_of_ble_eq_true rfl⟩) Sta_X3_copyRow rfl hl.1 rfl (Nat.le_of_ble_eq_true rfl) dX1_copyFrom_52 ⟨Nat.le_of_ble_eq_true rfl, Nat.le_of_ble_eq_true rfl⟩ (fun H locs hP hD hS => ?_)
  have hP : va_P D vwCl (townW K a (va_up (va_up (va_up (va_up (va_up T 0 ((Sv 5) 0)) 1 ((Sv 5) 1)) 2 ((Sv 5) 2)) 3 ((Sv 5) 3)) 4 ((Sv 5) 4)) ++ (waysW K b len qu n ++ (textW K t cs ln ++ (m0 :: m1 :: svW K g Sv X)))) H := hP
  have hD : va_D A (townW K a (va_up (va_up (va_up (va_up (va_up T 0 ((Sv 5) 0)) 1 ((Sv 5) 1)) 2 ((Sv 5) 2)) 3 ((Sv 5) 3)) 4 ((Sv 5) 4)) ++ (waysW K b len qu n ++ (textW K t cs ln ++ (m0 :: m1 :: svW K g Sv X)))) := hD
  refine lv_aload_n hx hb dX1_copyFrom_55 rfl (lv_at hl 1 rfl) ?_
  refine va_get (D := D) (ci := 1) (v := .ref ((g 5) 6)) (C := RX1) (T := TX1) (N := 12) hx hb hts inX1 hown hE.1 hP 79 rfl rfl 5 (by decide) F27 (fun _ h9 => h9) rfl dX1_copyFrom_56 ?_
  refine lv_aload_n hx hb dX1_copyFrom_59 rfl (lv_at hl 0 rfl) ?_
  refine va_get (D := D) (ci := 1) (v := .ref (a 6)) (C := RX1) (T := TX1) (N := 12) hx hb hts inX1 hown hE.1 hP 0 rfl rfl 5 (by decide) F27 (fun _ h9 => h9) rfl dX1_copyFrom_60 ?_
  refine wr_SN (rest := []) ⟨hx, hb, hml, hown, hts⟩ hP hE hA hD hS (c_X3_copyRow l D K _ _ 85 6 _ _ 4 _ _ rfl rfl (by decide)) (va_cnB (host := RX3) 2 hts gX1_copyFrom_X3_copyRow_n62 rfl rfl rfl hE.2.2.2.2.2.2.2.2.2.2.2.1 IniX3 hn_X3_copyRow ⟨Nat.le_of_ble_eq_true rfl, Nat.le_of_ble_eq_true rfl⟩) Sta_X3_copyRow rfl hl.1 rfl (Nat.le_of_ble_eq_true rfl) dX1_copyFrom_63 ⟨Nat.le_of_ble_eq_true rfl, Nat.le_of_ble_eq_true rfl⟩ (fun H locs hP hD hS => ?_)
  have hP : va_P D vwCl (townW K a (va_up (va_up (va_up (va_up (va_up (va_up T 0 ((Sv 5) 0)) 1 ((Sv 5) 1)) 2 ((Sv 5) 2)) 3 ((Sv 5) 3)) 4 ((Sv 5) 4)) 5 ((Sv 5) 5)) ++ (waysW K b len qu n ++ (textW K t cs ln ++ (m0 :: m1 :: svW K g Sv X)))) H := hP
  have hD : va_D A (townW K a (va_up (va_up (va_up (va_up (va_up (va_up T 0 ((Sv 5) 0)) 1 ((Sv 5) 1)) 2 ((Sv 5) 2)) 3 ((Sv 5) 3)) 4 ((Sv 5) 4)) 5 ((Sv 5) 5)) ++ (waysW K b len qu n ++ (textW K t cs ln ++ (m0 :: m1 :: svW K g Sv X)))) := hD
  refine lv_aload_n hx hb dX1_copyFrom_66 rfl (lv_at hl 1 rfl) ?_
  refine va_get (D := D) (ci := 1) (v := .ref ((g 5) 7)) (C := RX1) (T := TX1) (N := 12) hx hb hts inX1 hown hE.1 hP 79 rfl rfl 6 (by decide) F38 (fun _ h9 => h9) rfl dX1_copyFrom_67 ?_
  refine lv_aload_n hx hb dX1_copyFrom_70 rfl (lv_at hl 0 rfl) ?_
  refine va_get (D := D) (ci := 1) (v := .ref (a 7)) (C := RX1) (T := TX1) (N := 12) hx hb hts inX1 hown hE.1 hP 0 rfl rfl 6 (by decide) F38 (fun _ h9 => h9) rfl dX1_copyFrom_71 ?_
  refine wr_SN (rest := []) ⟨hx, hb, hml, hown, hts⟩ hP hE hA hD hS (c_X3_copyRow l D K _ _ 86 7 _ _ 4 _ _ rfl rfl (by decide)) (va_cnB (host := RX3) 2 hts gX1_copyFrom_X3_copyRow_n62 rfl rfl rfl hE.2.2.2.2.2.2.2.2.2.2.2.1 IniX3 hn_X3_copyRow ⟨Nat.le_of_ble_eq_true rfl, Nat.le_of_ble_eq_true rfl⟩) Sta_X3_copyRow rfl hl.1 rfl (Nat.le_of_ble_eq_true rfl) dX1_copyFrom_74 ⟨Nat.le_of_ble_eq_true rfl, Nat.le_of_ble_eq_true rfl⟩ (fun H locs hP hD hS => ?_)
  have hP : va_P D vwCl (townW K a (va_up (va_up (va_up (va_up (va_up (va_up (va_up T 0 ((Sv 5) 0)) 1 ((Sv 5) 1)) 2 ((Sv 5) 2)) 3 ((Sv 5) 3)) 4 ((Sv 5) 4)) 5 ((Sv 5) 5)) 6 ((Sv 5) 6)) ++ (waysW K b len qu n ++ (textW K t cs ln ++ (m0 :: m1 :: svW K g Sv X)))) H := hP
  have hD : va_D A (townW K a (va_up (va_up (va_up (va_up (va_up (va_up (va_up T 0 ((Sv 5) 0)) 1 ((Sv 5) 1)) 2 ((Sv 5) 2)) 3 ((Sv 5) 3)) 4 ((Sv 5) 4)) 5 ((Sv 5) 5)) 6 ((Sv 5) 6)) ++ (waysW K b len qu n ++ (textW K t cs ln ++ (m0 :: m1 :: svW K g Sv X)))) := hD
  refine lv_aload_n hx hb dX1_copyFrom_77 rfl (lv_at hl 1 rfl) ?_
  refine va_get (D := D) (ci := 1) (v := .ref ((g 5) 8)) (C := RX1) (T := TX1) (N := 12) hx hb hts inX1 hown hE.1 hP 79 rfl rfl 7 (by decide) F41 (fun _ h9 => h9) rfl dX1_copyFrom_78 ?_
  refine lv_aload_n hx hb dX1_copyFrom_81 rfl (lv_at hl 0 rfl) ?_
  refine va_get (D := D) (ci := 1) (v := .ref (a 8)) (C := RX1) (T := TX1) (N := 12) hx hb hts inX1 hown hE.1 hP 0 rfl rfl 7 (by decide) F41 (fun _ h9 => h9) rfl dX1_copyFrom_82 ?_
  refine wr_SN (rest := []) ⟨hx, hb, hml, hown, hts⟩ hP hE hA hD hS (c_X3_copyRow l D K _ _ 87 8 _ _ 4 _ _ rfl rfl (by decide)) (va_cnB (host := RX3) 2 hts gX1_copyFrom_X3_copyRow_n62 rfl rfl rfl hE.2.2.2.2.2.2.2.2.2.2.2.1 IniX3 hn_X3_copyRow ⟨Nat.le_of_ble_eq_true rfl, Nat.le_of_ble_eq_true rfl⟩) Sta_X3_copyRow rfl hl.1 rfl (Nat.le_of_ble_eq_true rfl) dX1_copyFrom_85 ⟨Nat.le_of_ble_eq_true rfl, Nat.le_of_ble_eq_true rfl⟩ (fun H locs hP hD hS => ?_)
  have hP : va_P D vwCl (townW K a (va_up (va_up (va_up (va_up (va_up (va_up (va_up (va_up T 0 ((Sv 5) 0)) 1 ((Sv 5) 1)) 2 ((Sv 5) 2)) 3 ((Sv 5) 3)) 4 ((Sv 5) 4)) 5 ((Sv 5) 5)) 6 ((Sv 5) 6)) 7 ((Sv 5) 7)) ++ (waysW K b len qu n ++ (textW K t cs ln ++ (m0 :: m1 :: svW K g Sv X)))) H := hP
  have hD : va_D A (townW K a (va_up (va_up (va_up (va_up (va_up (va_up (va_up (va_up T 0 ((Sv 5) 0)) 1 ((Sv 5) 1)) 2 ((Sv 5) 2)) 3 ((Sv 5) 3)) 4 ((Sv 5) 4)) 5 ((Sv 5) 5)) 6 ((Sv 5) 6)) 7 ((Sv 5) 7)) ++ (waysW K b len qu n ++ (textW K t cs ln ++ (m0 :: m1 :: svW K g Sv X)))) := hD
  refine lv_aload_n hx hb dX1_copyFrom_88 rfl (lv_at hl 1 rfl) ?_
  refine va_get (D := D) (ci := 1) (v := .ref ((g 5) 9)) (C := RX1) (T := TX1) (N := 12) hx hb hts inX1 hown hE.1 hP 79 rfl rfl 8 (by decide) F44 (fun _ h9 => h9) rfl dX1_copyFrom_89 ?_
  refine lv_aload_n hx hb dX1_copyFrom_92 rfl (lv_at hl 0 rfl) ?_
  refine va_get (D := D) (ci := 1) (v := .ref (a 9)) (C := RX1) (T := TX1) (N := 12) hx hb hts inX1 hown hE.1 hP 0 rfl rfl 8 (by decide) F44 (fun _ h9 => h9) rfl dX1_copyFrom_93 ?_
  refine wr_SN (rest := []) ⟨hx, hb, hml, hown, hts⟩ hP hE hA hD hS (c_X3_copyRow l D K _ _ 88 9 _ _ 4 _ _ rfl rfl (by decide)) (va_cnB (host := RX3) 2 hts gX1_copyFrom_X3_copyRow_n62 rfl rfl rfl hE.2.2.2.2.2.2.2.2.2.2.2.1 IniX3 hn_X3_copyRow ⟨Nat.le_of_ble_eq_true rfl, Nat.le_of_ble_eq_true rfl⟩) Sta_X3_copyRow rfl hl.1 rfl (Nat.le_of_ble_eq_true rfl) dX1_copyFrom_96 ⟨Nat.le_of_ble_eq_true rfl, Nat.le_of_ble_eq_true rfl⟩ (fun H locs hP hD hS => ?_)
  have hP : va_P D vwCl (townW K a (va_up (va_up (va_up (va_up (va_up (va_up (va_up (va_up (va_up T 0 ((Sv 5) 0)) 1 ((Sv 5) 1)) 2 ((Sv 5) 2)) 3 ((Sv 5) 3)) 4 ((Sv 5) 4)) 5 ((Sv 5) 5)) 6 ((Sv 5) 6)) 7 ((Sv 5) 7)) 8 ((Sv 5) 8)) ++ (waysW K b len qu n ++ (textW K t cs ln ++ (m0 :: m1 :: svW K g Sv X)))) H := hP
  have hD : va_D A (townW K a (va_up (va_up (va_up (va_up (va_up (va_up (va_up (va_up (va_up T 0 ((Sv 5) 0)) 1 ((Sv 5) 1)) 2 ((Sv 5) 2)) 3 ((Sv 5) 3)) 4 ((Sv 5) 4)) 5 ((Sv 5) 5)) 6 ((Sv 5) 6)) 7 ((Sv 5) 7)) 8 ((Sv 5) 8)) ++ (waysW K b len qu n ++ (textW K t cs ln ++ (m0 :: m1 :: svW K g Sv X)))) := hD
  refine lv_aload_n hx hb dX1_copyFrom_99 rfl (lv_at hl 1 rfl) ?_
  refine va_get (D := D) (ci := 1) (v := .ref ((g 5) 10)) (C := RX1) (T := TX1) (N := 12) hx hb hts inX1 hown hE.1 hP 79 rfl rfl 9 (by decide) F47 (fun _ h9 => h9) rfl dX1_copyFrom_100 ?_
  refine lv_aload_n hx hb dX1_copyFrom_103 rfl (lv_at hl 0 rfl) ?_
  refine va_get (D := D) (ci := 1) (v := .ref (a 10)) (C := RX1) (T := TX1) (N := 12) hx hb hts inX1 hown hE.1 hP 0 rfl rfl 9 (by decide) F47 (fun _ h9 => h9) rfl dX1_copyFrom_104 ?_
  refine wr_SN (rest := []) ⟨hx, hb, hml, hown, hts⟩ hP hE hA hD hS (c_X3_copyRow l D K _ _ 89 10 _ _ 4 _ _ rfl rfl (by decide)) (va_cnB (host := RX3) 2 hts gX1_copyFrom_X3_copyRow_n62 rfl rfl rfl hE.2.2.2.2.2.2.2.2.2.2.2.1 IniX3 hn_X3_copyRow ⟨Nat.le_of_ble_eq_true rfl, Nat.le_of_ble_eq_true rfl⟩) Sta_X3_copyRow rfl hl.1 rfl (Nat.le_of_ble_eq_true rfl) dX1_copyFrom_107 ⟨Nat.le_of_ble_eq_true rfl, Nat.le_of_ble_eq_true rfl⟩ (fun H locs hP hD hS => ?_)
  have hP : va_P D vwCl (townW K a (va_up (va_up (va_up (va_up (va_up (va_up (va_up (va_up (va_up (va_up T 0 ((Sv 5) 0)) 1 ((Sv 5) 1)) 2 ((Sv 5) 2)) 3 ((Sv 5) 3)) 4 ((Sv 5) 4)) 5 ((Sv 5) 5)) 6 ((Sv 5) 6)) 7 ((Sv 5) 7)) 8 ((Sv 5) 8)) 9 ((Sv 5) 9)) ++ (waysW K b len qu n ++ (textW K t cs ln ++ (m0 :: m1 :: svW K g Sv X)))) H := hP
  have hD : va_D A (townW K a (va_up (va_up (va_up (va_up (va_up (va_up (va_up (va_up (va_up (va_up T 0 ((Sv 5) 0)) 1 ((Sv 5) 1)) 2 ((Sv 5) 2)) 3 ((Sv 5) 3)) 4 ((Sv 5) 4)) 5 ((Sv 5) 5)) 6 ((Sv 5) 6)) 7 ((Sv 5) 7)) 8 ((Sv 5) 8)) 9 ((Sv 5) 9)) ++ (waysW K b len qu n ++ (textW K t cs ln ++ (m0 :: m1 :: svW K g Sv X)))) := hD
  refine lv_aload_n hx hb dX1_copyFrom_110 rfl (lv_at hl 1 rfl) ?_
  refine va_get (D := D) (ci := 1) (v := .ref ((g 5) 11)) (C := RX1) (T := TX1) (N := 12) hx hb hts inX1 hown hE.1 hP 79 rfl rfl 10 (by decide) F53 (fun _ h9 => h9) rfl dX1_copyFrom_111 ?_
  refine lv_aload_n hx hb dX1_copyFrom_114 rfl (lv_at hl 0 rfl) ?_
  refine va_get (D := D) (ci := 1) (v := .ref (a 11)) (C := RX1) (T := TX1) (N := 12) hx hb hts inX1 hown hE.1 hP 0 rfl rfl 10 (by decide) F53 (fun _ h9 => h9) rfl dX1_copyFrom_115 ?_
  refine wr_SN (rest := []) ⟨hx, hb, hml, hown, hts⟩ hP hE hA hD hS (c_X3_copyRow l D K _ _ 90 11 _ _ 3 _ _ rfl rfl (by decide)) (va_cnB (host := RX3) 2 hts gX1_copyFrom_X3_copyRow_n62 rfl rfl rfl hE.2.2.2.2.2.2.2.2.2.2.2.1 IniX3 hn_X3_copyRow ⟨Nat.le_of_ble_eq_true rfl, Nat.le_of_ble_eq_true rfl⟩) Sta_X3_copyRow rfl hl.1 rfl (Nat.le_of_ble_eq_true rfl) dX1_copyFrom_118 ⟨Nat.le_of_ble_eq_true rfl, Nat.le_of_ble_eq_true rfl⟩ (fun H locs hP hD hS => ?_)
  have hP : va_P D vwCl (townW K a (va_up (va_up (va_up (va_up (va_up (va_up (va_up (va_up (va_up (va_up (va_up T 0 ((Sv 5) 0)) 1 ((Sv 5) 1)) 2 ((Sv 5) 2)) 3 ((Sv 5) 3)) 4 ((Sv 5) 4)) 5 ((Sv 5) 5)) 6 ((Sv 5) 6)) 7 ((Sv 5) 7)) 8 ((Sv 5) 8)) 9 ((Sv 5) 9)) 10 ((Sv 5) 10)) ++ (waysW K b len qu n ++ (textW K t cs ln ++ (m0 :: m1 :: svW K g Sv X)))) H := hP
  have hD : va_D A (townW K a (va_up (va_up (va_up (va_up (va_up (va_up (va_up (va_up (va_up (va_up (va_up T 0 ((Sv 5) 0)) 1 ((Sv 5) 1)) 2 ((Sv 5) 2)) 3 ((Sv 5) 3)) 4 ((Sv 5) 4)) 5 ((Sv 5) 5)) 6 ((Sv 5) 6)) 7 ((Sv 5) 7)) 8 ((Sv 5) 8)) 9 ((Sv 5) 9)) 10 ((Sv 5) 10)) ++ (waysW K b len qu n ++ (textW K t cs ln ++ (m0 :: m1 :: svW K g Sv X)))) := hD
  refine lv_aload_n hx hb dX1_copyFrom_121 rfl (lv_at hl 0 rfl) ?_
  refine lv_aload_n hx hb dX1_copyFrom_122 rfl (lv_at hl 1 rfl) ?_
  refine va_get (D := D) (ci := 1) (v := .int ((Sv 5) 11 0)) (C := RX1) (T := TX1) (N := 12) hx hb hts inX1 hown hE.1 hP 79 rfl rfl 11 (by decide) F66 (fun _ h9 => h9) rfl dX1_copyFrom_123 ?_
  refine va_put (D := D) (ci := 1) (v := .int ((Sv 5) 11 0)) (ty := .int) (C := RX1) (T := TX1) (N := 12) hx hb hts inX1 tyX1 tyX1_ok nmX1 hown hE.1 hP hD hS 0 rfl rfl 11 (by decide) F66 (fun _ h9 => h9) rfl (by decide +kernel) rfl rfl (Nat.le_of_ble_eq_true rfl) dX1_copyFrom_126 (fun H locs hP hD hS => ?_)
  have hP : va_P D vwCl (townW K a (setT (va_up (va_up (va_up (va_up (va_up (va_up (va_up (va_up (va_up (va_up (va_up T 0 ((Sv 5) 0)) 1 ((Sv 5) 1)) 2 ((Sv 5) 2)) 3 ((Sv 5) 3)) 4 ((Sv 5) 4)) 5 ((Sv 5) 5)) 6 ((Sv 5) 6)) 7 ((Sv 5) 7)) 8 ((Sv 5) 8)) 9 ((Sv 5) 9)) 10 ((Sv 5) 10)) 11 0 ((Sv 5) 11 0)) ++ (waysW K b len qu n ++ (textW K t cs ln ++ (m0 :: m1 :: svW K g Sv X)))) H := hP
  have hD : va_D A (townW K a (setT (va_up (va_up (va_up (va_up (va_up (va_up (va_up (va_up (va_up (va_up (va_up T 0 ((Sv 5) 0)) 1 ((Sv 5) 1)) 2 ((Sv 5) 2)) 3 ((Sv 5) 3)) 4 ((Sv 5) 4)) 5 ((Sv 5) 5)) 6 ((Sv 5) 6)) 7 ((Sv 5) 7)) 8 ((Sv 5) 8)) 9 ((Sv 5) 9)) 10 ((Sv 5) 10)) 11 0 ((Sv 5) 11 0)) ++ (waysW K b len qu n ++ (textW K t cs ln ++ (m0 :: m1 :: svW K g Sv X)))) := hD
  have hP : va_P D vwCl (townW K a (Sv 5) ++ (waysW K b len qu n ++ (textW K t cs ln ++ (m0 :: m1 :: svW K g Sv X)))) H := hP
  have hD : va_D A (townW K a (Sv 5) ++ (waysW K b len qu n ++ (textW K t cs ln ++ (m0 :: m1 :: svW K g Sv X)))) := hD
  exact wr_vret hAe hP hD hS hx hb hr hk dX1_copyFrom_129 ⟨Nat.le_of_ble_eq_true rfl, Nat.le_of_ble_eq_true rfl⟩
