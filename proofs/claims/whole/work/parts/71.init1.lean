set_option maxHeartbeats 4000000 in
set_option maxRecDepth 100000 in
theorem c_X1_init (l : Launch) (D : va_G) (K : Nat → ClassId) (dp fs : Nat) (sz : Nat) (h0 : Nat) : Ix dp fs l yX1_init wsX1_init ({ frames := 2, cells := 11, slots := 287, locals := 40 } : Room) D K ([(h0, .inr (1, [.null, .null, .null, .null, .null, .null, .null, .null, .null, .null, .null, .int 0]))]) sz [.ref h0] (fun a => townW K (at0 h0 a) T0) 11 287 := by
  refine ix_intro (cc := cX1_init) (maxL := 3) (ret := none) (by decide) rfl (Nat.le_of_ble_eq_true rfl) ?_
  intro pr en st md ar bl mt co A hx hb hml hr hts hown hk hsz hAe hP hE hD hS hA hin hXw hZ ls hl
  have hown : st.vm.findClass RX1 = some md.cls := hown
  have hl : lv_has ls 3 [(0, .ref h0)] := hl
  obtain ⟨H, hH⟩ : ∃ z, z = st.heap := ⟨_, rfl⟩
  obtain ⟨locs, hlo⟩ : ∃ z : List Loc, z = [] := ⟨_, rfl⟩
  have hP : va_P D vwCl ([(h0, .inr (1, [.null, .null, .null, .null, .null, .null, .null, .null, .null, .null, .null, .int 0]))]) H := by rw [hH]; exact hP
  have hS : va_S A st.heap H locs := by rw [hH, hlo]; exact hS
  suffices go : W pr l en (headSpec wsX1_init ({ frames := 2, cells := 11, slots := 287, locals := 40 } : Room)).room st md ar bl mt co H locs 0 0 (MQ bl (ixQ D ([(h0, .inr (1, [.null, .null, .null, .null, .null, .null, .null, .null, .null, .null, .null, .int 0]))]) sz (fun a => townW K (at0 h0 a) T0)) ar st 11 287 A) (F0 md 0 ls []) by rw [hH, hlo] at go; exact go
  clear hH hlo
  have OI1 : (Cond.methodLink RX1 3 objectInit).before ar st = true := hts _ (List.mem_of_getElem? (i := 1) rfl)
  have OI2 : (Cond.instanceMethod objectInit).before ar st = true := hts _ (List.mem_of_getElem? (i := 2) rfl)
  have OI3 : (Cond.code objectInit ⟨#[0xb1]⟩ 1 none).before ar st = true := hts _ (List.mem_of_getElem? (i := 3) rfl)
  have ArrI : (Cond.arrayClass .int).before ar st = true := hts _ (List.mem_of_getElem? (i := 4) rfl)
  have F9 : (Cond.fieldLink RX1 9 "TramTolls$Town" "houses" "[I").before ar st = true := hts _ (List.mem_of_getElem? (i := 5) rfl)
  have inX1 : ∀ w ∈ u_ws RX1 TX1 12, w ∈ wsX1_init := fun w h => List.mem_cons_of_mem _ (List.mem_append_right _ h)
  have F15 : (Cond.fieldLink RX1 15 "TramTolls$Town" "trackMasks" "[I").before ar st = true := hts _ (List.mem_of_getElem? (i := 6) rfl)
  have F18 : (Cond.fieldLink RX1 18 "TramTolls$Town" "owners" "[I").before ar st = true := hts _ (List.mem_of_getElem? (i := 7) rfl)
  have F21 : (Cond.fieldLink RX1 21 "TramTolls$Town" "stopSquares" "[I").before ar st = true := hts _ (List.mem_of_getElem? (i := 8) rfl)
  have F24 : (Cond.fieldLink RX1 24 "TramTolls$Town" "stopPlayers" "[I").before ar st = true := hts _ (List.mem_of_getElem? (i := 9) rfl)
  have F27 : (Cond.fieldLink RX1 27 "TramTolls$Town" "coins" "[I").before ar st = true := hts _ (List.mem_of_getElem? (i := 10) rfl)
  have CL1 : (Cond.methodLink RX1 33 ⟨"[I", "clone", "()Ljava/lang/Object;"⟩).before ar st = true := hts _ (List.mem_of_getElem? (i := 11) rfl)
  have CL2 : (Cond.sameMethod "[I" "java/lang/Object" "clone" "()Ljava/lang/Object;").before ar st = true := hts _ (List.mem_of_getElem? (i := 12) rfl)
  have CL3 : (Cond.native ⟨"java/lang/Object", "clone", "()Ljava/lang/Object;"⟩).before ar st = true := hts _ (List.mem_of_getElem? (i := 13) rfl)
  have CL4 : (Cond.instanceMethod ⟨"java/lang/Object", "clone", "()Ljava/lang/Object;"⟩).before ar st = true := hts _ (List.mem_of_getElem? (i := 14) rfl)
  have CL5 : (Cond.selects "[I" ⟨"[I", "clone", "()Ljava/lang/Object;"⟩ ⟨"java/lang/Object", "clone", "()Ljava/lang/Object;"⟩).before ar st = true := hts _ (List.mem_of_getElem? (i := 15) rfl)
  have CC34 : (Cond.classLink RX1 34 "[I").before ar st = true := hts _ (List.mem_of_getElem? (i := 16) rfl)
  have F38 : (Cond.fieldLink RX1 38 "TramTolls$Town" "heads" "[I").before ar st = true := hts _ (List.mem_of_getElem? (i := 17) rfl)
  have F41 : (Cond.fieldLink RX1 41 "TramTolls$Town" "lastDirections" "[I").before ar st = true := hts _ (List.mem_of_getElem? (i := 18) rfl)
  have F44 : (Cond.fieldLink RX1 44 "TramTolls$Town" "tollsPaid" "[I").before ar st = true := hts _ (List.mem_of_getElem? (i := 19) rfl)
  have F47 : (Cond.fieldLink RX1 47 "TramTolls$Town" "tollsGot" "[I").before ar st = true := hts _ (List.mem_of_getElem? (i := 20) rfl)
  have F53 : (Cond.fieldLink RX1 53 "TramTolls$Town" "settings" "[I").before ar st = true := hts _ (List.mem_of_getElem? (i := 21) rfl)
  refine lv_aload_n hx hb dX1_init_0 rfl (lv_at hl 0 rfl) ?_
  refine W.objInit hx hb hown OI1 OI2 OI3 rfl (by rw [hml]; exact hl.1) rfl dX1_init_1 (Nat.le_of_ble_eq_true rfl) (Nat.le_of_ble_eq_true rfl) ?_
  refine W.eq (g2 := F0 md 4 ls []) rfl ?_
  refine lv_aload_n hx hb dX1_init_4 rfl (lv_at hl 0 rfl) ?_
  refine lv_bipush (v := nI 80) hx hb dX1_init_5 (by decide) ?_
  refine nv_newa (n := 80) hx hb ArrI hE hP hD hS hA (by decide) ⟨Nat.le_of_ble_eq_true rfl, Nat.le_of_ble_eq_true rfl⟩ dX1_init_7 (fun q7_1 H hP hD hS => ?_)
  have hP : va_P D vwCl ([(h0, .inr (1, [.null, .null, .null, .null, .null, .null, .null, .null, .null, .null, .null, .int 0])), (q7_1, .inl (K 0, 80, .inl (fun _ => 0)))]) H := hP
  have hD : va_D A ([(h0, .inr (1, [.null, .null, .null, .null, .null, .null, .null, .null, .null, .null, .null, .int 0])), (q7_1, .inl (K 0, 80, .inl (fun _ => 0)))]) := hD
  refine va_putF (D := D) (ci := 1) (v := .ref q7_1) (ty := .array .int) (C := RX1) (T := TX1) (N := 12) hx hb hts inX1 tyX1 tyX1_ok nmX1 hown hE.1 hP hD hS 0 rfl rfl 0 (by decide) F9 (fun _ h9 => h9) rfl (hin rfl) rfl (by decide +kernel) rfl rfl (Nat.le_of_ble_eq_true rfl) dX1_init_9 (fun H locs hP hD hS => ?_)
  have hP : va_P D vwCl ([(h0, .inr (1, [.ref q7_1, .null, .null, .null, .null, .null, .null, .null, .null, .null, .null, .int 0])), (q7_1, .inl (K 0, 80, .inl (fun _ => 0)))]) H := hP
  have hD : va_D A ([(h0, .inr (1, [.ref q7_1, .null, .null, .null, .null, .null, .null, .null, .null, .null, .null, .int 0])), (q7_1, .inl (K 0, 80, .inl (fun _ => 0)))]) := hD
  refine lv_aload_n hx hb dX1_init_12 rfl (lv_at hl 0 rfl) ?_
  refine lv_bipush (v := nI 80) hx hb dX1_init_13 (by decide) ?_
  refine nv_newa (n := 80) hx hb ArrI hE hP hD hS hA (by decide) ⟨Nat.le_of_ble_eq_true rfl, Nat.le_of_ble_eq_true rfl⟩ dX1_init_15 (fun q15_2 H hP hD hS => ?_)
  have hP : va_P D vwCl ([(h0, .inr (1, [.ref q7_1, .null, .null, .null, .null, .null, .null, .null, .null, .null, .null, .int 0])), (q7_1, .inl (K 0, 80, .inl (fun _ => 0))), (q15_2, .inl (K 0, 80, .inl (fun _ => 0)))]) H := hP
  have hD : va_D A ([(h0, .inr (1, [.ref q7_1, .null, .null, .null, .null, .null, .null, .null, .null, .null, .null, .int 0])), (q7_1, .inl (K 0, 80, .inl (fun _ => 0))), (q15_2, .inl (K 0, 80, .inl (fun _ => 0)))]) := hD
  refine va_putF (D := D) (ci := 1) (v := .ref q15_2) (ty := .array .int) (C := RX1) (T := TX1) (N := 12) hx hb hts inX1 tyX1 tyX1_ok nmX1 hown hE.1 hP hD hS 0 rfl rfl 1 (by decide) F15 (fun _ h9 => h9) rfl (hin rfl) rfl (by decide +kernel) rfl rfl (Nat.le_of_ble_eq_true rfl) dX1_init_17 (fun H locs hP hD hS => ?_)
  have hP : va_P D vwCl ([(h0, .inr (1, [.ref q7_1, .ref q15_2, .null, .null, .null, .null, .null, .null, .null, .null, .null, .int 0])), (q7_1, .inl (K 0, 80, .inl (fun _ => 0))), (q15_2, .inl (K 0, 80, .inl (fun _ => 0)))]) H := hP
  have hD : va_D A ([(h0, .inr (1, [.ref q7_1, .ref q15_2, .null, .null, .null, .null, .null, .null, .null, .null, .null, .int 0])), (q7_1, .inl (K 0, 80, .inl (fun _ => 0))), (q15_2, .inl (K 0, 80, .inl (fun _ => 0)))]) := hD
  refine lv_aload_n hx hb dX1_init_20 rfl (lv_at hl 0 rfl) ?_
  refine lv_bipush (v := nI 80) hx hb dX1_init_21 (by decide) ?_
  refine nv_newa (n := 80) hx hb ArrI hE hP hD hS hA (by decide) ⟨Nat.le_of_ble_eq_true rfl, Nat.le_of_ble_eq_true rfl⟩ dX1_init_23 (fun q23_3 H hP hD hS => ?_)
  have hP : va_P D vwCl ([(h0, .inr (1, [.ref q7_1, .ref q15_2, .null, .null, .null, .null, .null, .null, .null, .null, .null, .int 0])), (q7_1, .inl (K 0, 80, .inl (fun _ => 0))), (q15_2, .inl (K 0, 80, .inl (fun _ => 0))), (q23_3, .inl (K 0, 80, .inl (fun _ => 0)))]) H := hP
  have hD : va_D A ([(h0, .inr (1, [.ref q7_1, .ref q15_2, .null, .null, .null, .null, .null, .null, .null, .null, .null, .int 0])), (q7_1, .inl (K 0, 80, .inl (fun _ => 0))), (q15_2, .inl (K 0, 80, .inl (fun _ => 0))), (q23_3, .inl (K 0, 80, .inl (fun _ => 0)))]) := hD
  refine va_putF (D := D) (ci := 1) (v := .ref q23_3) (ty := .array .int) (C := RX1) (T := TX1) (N := 12) hx hb hts inX1 tyX1 tyX1_ok nmX1 hown hE.1 hP hD hS 0 rfl rfl 2 (by decide) F18 (fun _ h9 => h9) rfl (hin rfl) rfl (by decide +kernel) rfl rfl (Nat.le_of_ble_eq_true rfl) dX1_init_25 (fun H locs hP hD hS => ?_)
  have hP : va_P D vwCl ([(h0, .inr (1, [.ref q7_1, .ref q15_2, .ref q23_3, .null, .null, .null, .null, .null, .null, .null, .null, .int 0])), (q7_1, .inl (K 0, 80, .inl (fun _ => 0))), (q15_2, .inl (K 0, 80, .inl (fun _ => 0))), (q23_3, .inl (K 0, 80, .inl (fun _ => 0)))]) H := hP
  have hD : va_D A ([(h0, .inr (1, [.ref q7_1, .ref q15_2, .ref q23_3, .null, .null, .null, .null, .null, .null, .null, .null, .int 0])), (q7_1, .inl (K 0, 80, .inl (fun _ => 0))), (q15_2, .inl (K 0, 80, .inl (fun _ => 0))), (q23_3, .inl (K 0, 80, .inl (fun _ => 0)))]) := hD
  refine lv_aload_n hx hb dX1_init_28 rfl (lv_at hl 0 rfl) ?_
  refine lv_bipush (v := nI 12) hx hb dX1_init_29 (by decide) ?_
  refine nv_newa (n := 12) hx hb ArrI hE hP hD hS hA (by decide) ⟨Nat.le_of_ble_eq_true rfl, Nat.le_of_ble_eq_true rfl⟩ dX1_init_31 (fun q31_4 H hP hD hS => ?_)
  have hP : va_P D vwCl ([(h0, .inr (1, [.ref q7_1, .ref q15_2, .ref q23_3, .null, .null, .null, .null, .null, .null, .null, .null, .int 0])), (q7_1, .inl (K 0, 80, .inl (fun _ => 0))), (q15_2, .inl (K 0, 80, .inl (fun _ => 0))), (q23_3, .inl (K 0, 80, .inl (fun _ => 0))), (q31_4, .inl (K 0, 12, .inl (fun _ => 0)))]) H := hP
  have hD : va_D A ([(h0, .inr (1, [.ref q7_1, .ref q15_2, .ref q23_3, .null, .null, .null, .null, .null, .null, .null, .null, .int 0])), (q7_1, .inl (K 0, 80, .inl (fun _ => 0))), (q15_2, .inl (K 0, 80, .inl (fun _ => 0))), (q23_3, .inl (K 0, 80, .inl (fun _ => 0))), (q31_4, .inl (K 0, 12, .inl (fun _ => 0)))]) := hD
  refine va_putF (D := D) (ci := 1) (v := .ref q31_4) (ty := .array .int) (C := RX1) (T := TX1) (N := 12) hx hb hts inX1 tyX1 tyX1_ok nmX1 hown hE.1 hP hD hS 0 rfl rfl 3 (by decide) F21 (fun _ h9 => h9) rfl (hin rfl) rfl (by decide +kernel) rfl rfl (Nat.le_of_ble_eq_true rfl) dX1_init_33 (fun H locs hP hD hS => ?_)
  have hP : va_P D vwCl ([(h0, .inr (1, [.ref q7_1, .ref q15_2, .ref q23_3, .ref q31_4, .null, .null, .null, .null, .null, .null, .null, .int 0])), (q7_1, .inl (K 0, 80, .inl (fun _ => 0))), (q15_2, .inl (K 0, 80, .inl (fun _ => 0))), (q23_3, .inl (K 0, 80, .inl (fun _ => 0))), (q31_4, .inl (K 0, 12, .inl (fun _ => 0)))]) H := hP
  have hD : va_D A ([(h0, .inr (1, [.ref q7_1, .ref q15_2, .ref q23_3, .ref q31_4, .null, .null, .null, .null, .null, .null, .null, .int 0])), (q7_1, .inl (K 0, 80, .inl (fun _ => 0))), (q15_2, .inl (K 0, 80, .inl (fun _ => 0))), (q23_3, .inl (K 0, 80, .inl (fun _ => 0))), (q31_4, .inl (K 0, 12, .inl (fun _ => 0)))]) := hD
  refine lv_aload_n hx hb dX1_init_36 rfl (lv_at hl 0 rfl) ?_
  refine lv_bipush (v := nI 12) hx hb dX1_init_37 (by decide) ?_
  refine nv_newa (n := 12) hx hb ArrI hE hP hD hS hA (by decide) ⟨Nat.le_of_ble_eq_true rfl, Nat.le_of_ble_eq_true rfl⟩ dX1_init_39 (fun q39_5 H hP hD hS => ?_)
  have hP : va_P D vwCl ([(h0, .inr (1, [.ref q7_1, .ref q15_2, .ref q23_3, .ref q31_4, .null, .null, .null, .null, .null, .null, .null, .int 0])), (q7_1, .inl (K 0, 80, .inl (fun _ => 0))), (q15_2, .inl (K 0, 80, .inl (fun _ => 0))), (q23_3, .inl (K 0, 80, .inl (fun _ => 0))), (q31_4, .inl (K 0, 12, .inl (fun _ => 0))), (q39_5, .inl (K 0, 12, .inl (fun _ => 0)))]) H := hP
  have hD : va_D A ([(h0, .inr (1, [.ref q7_1, .ref q15_2, .ref q23_3, .ref q31_4, .null, .null, .null, .null, .null, .null, .null, .int 0])), (q7_1, .inl (K 0, 80, .inl (fun _ => 0))), (q15_2, .inl (K 0, 80, .inl (fun _ => 0))), (q23_3, .inl (K 0, 80, .inl (fun _ => 0))), (q31_4, .inl (K 0, 12, .inl (fun _ => 0))), (q39_5, .inl (K 0, 12, .inl (fun _ => 0)))]) := hD
  refine va_putF (D := D) (ci := 1) (v := .ref q39_5) (ty := .array .int) (C := RX1) (T := TX1) (N := 12) hx hb hts inX1 tyX1 tyX1_ok nmX1 hown hE.1 hP hD hS 0 rfl rfl 4 (by decide) F24 (fun _ h9 => h9) rfl (hin rfl) rfl (by decide +kernel) rfl rfl (Nat.le_of_ble_eq_true rfl) dX1_init_41 (fun H locs hP hD hS => ?_)
  have hP : va_P D vwCl ([(h0, .inr (1, [.ref q7_1, .ref q15_2, .ref q23_3, .ref q31_4, .ref q39_5, .null, .null, .null, .null, .null, .null, .int 0])), (q7_1, .inl (K 0, 80, .inl (fun _ => 0))), (q15_2, .inl (K 0, 80, .inl (fun _ => 0))), (q23_3, .inl (K 0, 80, .inl (fun _ => 0))), (q31_4, .inl (K 0, 12, .inl (fun _ => 0))), (q39_5, .inl (K 0, 12, .inl (fun _ => 0)))]) H := hP
  have hD : va_D A ([(h0, .inr (1, [.ref q7_1, .ref q15_2, .ref q23_3, .ref q31_4, .ref q39_5, .null, .null, .null, .null, .null, .null, .int 0])), (q7_1, .inl (K 0, 80, .inl (fun _ => 0))), (q15_2, .inl (K 0, 80, .inl (fun _ => 0))), (q23_3, .inl (K 0, 80, .inl (fun _ => 0))), (q31_4, .inl (K 0, 12, .inl (fun _ => 0))), (q39_5, .inl (K 0, 12, .inl (fun _ => 0)))]) := hD
  refine lv_aload_n hx hb dX1_init_44 rfl (lv_at hl 0 rfl) ?_
  refine lv_iconst (v := nI 4) hx hb dX1_init_45 (by decide) ?_
  refine nv_newa (n := 4) hx hb ArrI hE hP hD hS hA (by decide) ⟨Nat.le_of_ble_eq_true rfl, Nat.le_of_ble_eq_true rfl⟩ dX1_init_46 (fun q46_6 H hP hD hS => ?_)
  have hP : va_P D vwCl ([(h0, .inr (1, [.ref q7_1, .ref q15_2, .ref q23_3, .ref q31_4, .ref q39_5, .null, .null, .null, .null, .null, .null, .int 0])), (q7_1, .inl (K 0, 80, .inl (fun _ => 0))), (q15_2, .inl (K 0, 80, .inl (fun _ => 0))), (q23_3, .inl (K 0, 80, .inl (fun _ => 0))), (q31_4, .inl (K 0, 12, .inl (fun _ => 0))), (q39_5, .inl (K 0, 12, .inl (fun _ => 0))), (q46_6, .inl (K 0, 4, .inl (fun _ => 0)))]) H := hP
  have hD : va_D A ([(h0, .inr (1, [.ref q7_1, .ref q15_2, .ref q23_3, .ref q31_4, .ref q39_5, .null, .null, .null, .null, .null, .null, .int 0])), (q7_1, .inl (K 0, 80, .inl (fun _ => 0))), (q15_2, .inl (K 0, 80, .inl (fun _ => 0))), (q23_3, .inl (K 0, 80, .inl (fun _ => 0))), (q31_4, .inl (K 0, 12, .inl (fun _ => 0))), (q39_5, .inl (K 0, 12, .inl (fun _ => 0))), (q46_6, .inl (K 0, 4, .inl (fun _ => 0)))]) := hD
  refine va_putF (D := D) (ci := 1) (v := .ref q46_6) (ty := .array .int) (C := RX1) (T := TX1) (N := 12) hx hb hts inX1 tyX1 tyX1_ok nmX1 hown hE.1 hP hD hS 0 rfl rfl 5 (by decide) F27 (fun _ h9 => h9) rfl (hin rfl) rfl (by decide +kernel) rfl rfl (Nat.le_of_ble_eq_true rfl) dX1_init_48 (fun H locs hP hD hS => ?_)
  have hP : va_P D vwCl ([(h0, .inr (1, [.ref q7_1, .ref q15_2, .ref q23_3, .ref q31_4, .ref q39_5, .ref q46_6, .null, .null, .null, .null, .null, .int 0])), (q7_1, .inl (K 0, 80, .inl (fun _ => 0))), (q15_2, .inl (K 0, 80, .inl (fun _ => 0))), (q23_3, .inl (K 0, 80, .inl (fun _ => 0))), (q31_4, .inl (K 0, 12, .inl (fun _ => 0))), (q39_5, .inl (K 0, 12, .inl (fun _ => 0))), (q46_6, .inl (K 0, 4, .inl (fun _ => 0)))]) H := hP
  have hD : va_D A ([(h0, .inr (1, [.ref q7_1, .ref q15_2, .ref q23_3, .ref q31_4, .ref q39_5, .ref q46_6, .null, .null, .null, .null, .null, .int 0])), (q7_1, .inl (K 0, 80, .inl (fun _ => 0))), (q15_2, .inl (K 0, 80, .inl (fun _ => 0))), (q23_3, .inl (K 0, 80, .inl (fun _ => 0))), (q31_4, .inl (K 0, 12, .inl (fun _ => 0))), (q39_5, .inl (K 0, 12, .inl (fun _ => 0))), (q46_6, .inl (K 0, 4, .inl (fun _ => 0)))]) := hD
  refine lv_aload_n hx hb dX1_init_51 rfl (lv_at hl 0 rfl) ?_
  refine va_getsN hx hb hZ.2.2.1.1 hS hown (va_Nw.use rfl hXw.2.2.2.2.2.2.2.1) (fun _ h9 => h9) dX1_init_52 ?_
  refine nv_clone hx hb (hml.trans hl.1.symm) hown CL1 CL2 CL3 CL4 CL5 (hXw.2.2.2.2.2.2.2.2.2.1) hE hP hD hS hA hZ.2.2.1.2 (Nat.le_of_ble_eq_true rfl) (Nat.le_of_ble_eq_true rfl) ⟨Nat.le_of_ble_eq_true rfl, Nat.le_of_ble_eq_true rfl⟩ dX1_init_55 (fun q55_7 H hP hD hS => ?_)
  have hP : va_P D vwCl ([(h0, .inr (1, [.ref q7_1, .ref q15_2, .ref q23_3, .ref q31_4, .ref q39_5, .ref q46_6, .null, .null, .null, .null, .null, .int 0])), (q7_1, .inl (K 0, 80, .inl (fun _ => 0))), (q15_2, .inl (K 0, 80, .inl (fun _ => 0))), (q23_3, .inl (K 0, 80, .inl (fun _ => 0))), (q31_4, .inl (K 0, 12, .inl (fun _ => 0))), (q39_5, .inl (K 0, 12, .inl (fun _ => 0))), (q46_6, .inl (K 0, 4, .inl (fun _ => 0))), (q55_7, .inl (K 0, 4, .inl (depF)))]) H := hP
  have hD : va_D A ([(h0, .inr (1, [.ref q7_1, .ref q15_2, .ref q23_3, .ref q31_4, .ref q39_5, .ref q46_6, .null, .null, .null, .null, .null, .int 0])), (q7_1, .inl (K 0, 80, .inl (fun _ => 0))), (q15_2, .inl (K 0, 80, .inl (fun _ => 0))), (q23_3, .inl (K 0, 80, .inl (fun _ => 0))), (q31_4, .inl (K 0, 12, .inl (fun _ => 0))), (q39_5, .inl (K 0, 12, .inl (fun _ => 0))), (q46_6, .inl (K 0, 4, .inl (fun _ => 0))), (q55_7, .inl (K 0, 4, .inl (depF)))]) := hD
  refine va_castA hx hb hown CC34 hP 7 rfl (K0_is hE) dX1_init_58 ?_
  refine va_putF (D := D) (ci := 1) (v := .ref q55_7) (ty := .array .int) (C := RX1) (T := TX1) (N := 12) hx hb hts inX1 tyX1 tyX1_ok nmX1 hown hE.1 hP hD hS 0 rfl rfl 6 (by decide) F38 (fun _ h9 => h9) rfl (hin rfl) rfl (by decide +kernel) rfl rfl (Nat.le_of_ble_eq_true rfl) dX1_init_61 (fun H locs hP hD hS => ?_)
  have hP : va_P D vwCl ([(h0, .inr (1, [.ref q7_1, .ref q15_2, .ref q23_3, .ref q31_4, .ref q39_5, .ref q46_6, .ref q55_7, .null, .null, .null, .null, .int 0])), (q7_1, .inl (K 0, 80, .inl (fun _ => 0))), (q15_2, .inl (K 0, 80, .inl (fun _ => 0))), (q23_3, .inl (K 0, 80, .inl (fun _ => 0))), (q31_4, .inl (K 0, 12, .inl (fun _ => 0))), (q39_5, .inl (K 0, 12, .inl (fun _ => 0))), (q46_6, .inl (K 0, 4, .inl (fun _ => 0))), (q55_7, .inl (K 0, 4, .inl (depF)))]) H := hP
  have hD : va_D A ([(h0, .inr (1, [.ref q7_1, .ref q15_2, .ref q23_3, .ref q31_4, .ref q39_5, .ref q46_6, .ref q55_7, .null, .null, .null, .null, .int 0])), (q7_1, .inl (K 0, 80, .inl (fun _ => 0))), (q15_2, .inl (K 0, 80, .inl (fun _ => 0))), (q23_3, .inl (K 0, 80, .inl (fun _ => 0))), (q31_4, .inl (K 0, 12, .inl (fun _ => 0))), (q39_5, .inl (K 0, 12, .inl (fun _ => 0))), (q46_6, .inl (K 0, 4, .inl (fun _ => 0))), (q55_7, .inl (K 0, 4, .inl (depF)))]) := hD
  refine lv_aload_n hx hb dX1_init_64 rfl (lv_at hl 0 rfl) ?_
  refine lv_iconst (v := nI 4) hx hb dX1_init_65 (by decide) ?_
  refine nv_newa (n := 4) hx hb ArrI hE hP hD hS hA (by decide) ⟨Nat.le_of_ble_eq_true rfl, Nat.le_of_ble_eq_true rfl⟩ dX1_init_66 (fun q66_8 H hP hD hS => ?_)
  have hP : va_P D vwCl ([(h0, .inr (1, [.ref q7_1, .ref q15_2, .ref q23_3, .ref q31_4, .ref q39_5, .ref q46_6, .ref q55_7, .null, .null, .null, .null, .int 0])), (q7_1, .inl (K 0, 80, .inl (fun _ => 0))), (q15_2, .inl (K 0, 80, .inl (fun _ => 0))), (q23_3, .inl (K 0, 80, .inl (fun _ => 0))), (q31_4, .inl (K 0, 12, .inl (fun _ => 0))), (q39_5, .inl (K 0, 12, .inl (fun _ => 0))), (q46_6, .inl (K 0, 4, .inl (fun _ => 0))), (q55_7, .inl (K 0, 4, .inl (depF))), (q66_8, .inl (K 0, 4, .inl (fun _ => 0)))]) H := hP
  have hD : va_D A ([(h0, .inr (1, [.ref q7_1, .ref q15_2, .ref q23_3, .ref q31_4, .ref q39_5, .ref q46_6, .ref q55_7, .null, .null, .null, .null, .int 0])), (q7_1, .inl (K 0, 80, .inl (fun _ => 0))), (q15_2, .inl (K 0, 80, .inl (fun _ => 0))), (q23_3, .inl (K 0, 80, .inl (fun _ => 0))), (q31_4, .inl (K 0, 12, .inl (fun _ => 0))), (q39_5, .inl (K 0, 12, .inl (fun _ => 0))), (q46_6, .inl (K 0, 4, .inl (fun _ => 0))), (q55_7, .inl (K 0, 4, .inl (depF))), (q66_8, .inl (K 0, 4, .inl (fun _ => 0)))]) := hD
  refine va_putF (D := D) (ci := 1) (v := .ref q66_8) (ty := .array .int) (C := RX1) (T := TX1) (N := 12) hx hb hts inX1 tyX1 tyX1_ok nmX1 hown hE.1 hP hD hS 0 rfl rfl 7 (by decide) F41 (fun _ h9 => h9) rfl (hin rfl) rfl (by decide +kernel) rfl rfl (Nat.le_of_ble_eq_true rfl) dX1_init_68 (fun H locs hP hD hS => ?_)
  have hP : va_P D vwCl ([(h0, .inr (1, [.ref q7_1, .ref q15_2, .ref q23_3, .ref q31_4, .ref q39_5, .ref q46_6, .ref q55_7, .ref q66_8, .null, .null, .null, .int 0])), (q7_1, .inl (K 0, 80, .inl (fun _ => 0))), (q15_2, .inl (K 0, 80, .inl (fun _ => 0))), (q23_3, .inl (K 0, 80, .inl (fun _ => 0))), (q31_4, .inl (K 0, 12, .inl (fun _ => 0))), (q39_5, .inl (K 0, 12, .inl (fun _ => 0))), (q46_6, .inl (K 0, 4, .inl (fun _ => 0))), (q55_7, .inl (K 0, 4, .inl (depF))), (q66_8, .inl (K 0, 4, .inl (fun _ => 0)))]) H := hP
  have hD : va_D A ([(h0, .inr (1, [.ref q7_1, .ref q15_2, .ref q23_3, .ref q31_4, .ref q39_5, .ref q46_6, .ref q55_7, .ref q66_8, .null, .null, .null, .int 0])), (q7_1, .inl (K 0, 80, .inl (fun _ => 0))), (q15_2, .inl (K 0, 80, .inl (fun _ => 0))), (q23_3, .inl (K 0, 80, .inl (fun _ => 0))), (q31_4, .inl (K 0, 12, .inl (fun _ => 0))), (q39_5, .inl (K 0, 12, .inl (fun _ => 0))), (q46_6, .inl (K 0, 4, .inl (fun _ => 0))), (q55_7, .inl (K 0, 4, .inl (depF))), (q66_8, .inl (K 0, 4, .inl (fun _ => 0)))]) := hD
  refine lv_aload_n hx hb dX1_init_71 rfl (lv_at hl 0 rfl) ?_
  refine lv_iconst (v := nI 4) hx hb dX1_init_72 (by decide) ?_
  refine nv_newa (n := 4) hx hb ArrI hE hP hD hS hA (by decide) ⟨Nat.le_of_ble_eq_true rfl, Nat.le_of_ble_eq_true rfl⟩ dX1_init_73 (fun q73_9 H hP hD hS => ?_)
  have hP : va_P D vwCl ([(h0, .inr (1, [.ref q7_1, .ref q15_2, .ref q23_3, .ref q31_4, .ref q39_5, .ref q46_6, .ref q55_7, .ref q66_8, .null, .null, .null, .int 0])), (q7_1, .inl (K 0, 80, .inl (fun _ => 0))), (q15_2, .inl (K 0, 80, .inl (fun _ => 0))), (q23_3, .inl (K 0, 80, .inl (fun _ => 0))), (q31_4, .inl (K 0, 12, .inl (fun _ => 0))), (q39_5, .inl (K 0, 12, .inl (fun _ => 0))), (q46_6, .inl (K 0, 4, .inl (fun _ => 0))), (q55_7, .inl (K 0, 4, .inl (depF))), (q66_8, .inl (K 0, 4, .inl (fun _ => 0))), (q73_9, .inl (K 0, 4, .inl (fun _ => 0)))]) H := hP
  have hD : va_D A ([(h0, .inr (1, [.ref q7_1, .ref q15_2, .ref q23_3, .ref q31_4, .ref q39_5, .ref q46_6, .ref q55_7, .ref q66_8, .null, .null, .null, .int 0])), (q7_1, .inl (K 0, 80, .inl (fun _ => 0))), (q15_2, .inl (K 0, 80, .inl (fun _ => 0))), (q23_3, .inl (K 0, 80, .inl (fun _ => 0))), (q31_4, .inl (K 0, 12, .inl (fun _ => 0))), (q39_5, .inl (K 0, 12, .inl (fun _ => 0))), (q46_6, .inl (K 0, 4, .inl (fun _ => 0))), (q55_7, .inl (K 0, 4, .inl (depF))), (q66_8, .inl (K 0, 4, .inl (fun _ => 0))), (q73_9, .inl (K 0, 4, .inl (fun _ => 0)))]) := hD
  refine va_putF (D := D) (ci := 1) (v := .ref q73_9) (ty := .array .int) (C := RX1) (T := TX1) (N := 12) hx hb hts inX1 tyX1 tyX1_ok nmX1 hown hE.1 hP hD hS 0 rfl rfl 8 (by decide) F44 (fun _ h9 => h9) rfl (hin rfl) rfl (by decide +kernel) rfl rfl (Nat.le_of_ble_eq_true rfl) dX1_init_75 (fun H locs hP hD hS => ?_)
  have hP : va_P D vwCl ([(h0, .inr (1, [.ref q7_1, .ref q15_2, .ref q23_3, .ref q31_4, .ref q39_5, .ref q46_6, .ref q55_7, .ref q66_8, .ref q73_9, .null, .null, .int 0])), (q7_1, .inl (K 0, 80, .inl (fun _ => 0))), (q15_2, .inl (K 0, 80, .inl (fun _ => 0))), (q23_3, .inl (K 0, 80, .inl (fun _ => 0))), (q31_4, .inl (K 0, 12, .inl (fun _ => 0))), (q39_5, .inl (K 0, 12, .inl (fun _ => 0))), (q46_6, .inl (K 0, 4, .inl (fun _ => 0))), (q55_7, .inl (K 0, 4, .inl (depF))), (q66_8, .inl (K 0, 4, .inl (fun _ => 0))), (q73_9, .inl (K 0, 4, .inl (fun _ => 0)))]) H := hP
  have hD : va_D A ([(h0, .inr (1, [.ref q7_1, .ref q15_2, .ref q23_3, .ref q31_4, .ref q39_5, .ref q46_6, .ref q55_7, .ref q66_8, .ref q73_9, .null, .null, .int 0])), (q7_1, .inl (K 0, 80, .inl (fun _ => 0))), (q15_2, .inl (K 0, 80, .inl (fun _ => 0))), (q23_3, .inl (K 0, 80, .inl (fun _ => 0))), (q31_4, .inl (K 0, 12, .inl (fun _ => 0))), (q39_5, .inl (K 0, 12, .inl (fun _ => 0))), (q46_6, .inl (K 0, 4, .inl (fun _ => 0))), (q55_7, .inl (K 0, 4, .inl (depF))), (q66_8, .inl (K 0, 4, .inl (fun _ => 0))), (q73_9, .inl (K 0, 4, .inl (fun _ => 0)))]) := hD
  refine lv_aload_n hx hb dX1_init_78 rfl (lv_at hl 0 rfl) ?_
  refine lv_iconst (v := nI 4) hx hb dX1_init_79 (by decide) ?_
  refine nv_newa (n := 4) hx hb ArrI hE hP hD hS hA (by decide) ⟨Nat.le_of_ble_eq_true rfl, Nat.le_of_ble_eq_true rfl⟩ dX1_init_80 (fun q80_10 H hP hD hS => ?_)
  have hP : va_P D vwCl ([(h0, .inr (1, [.ref q7_1, .ref q15_2, .ref q23_3, .ref q31_4, .ref q39_5, .ref q46_6, .ref q55_7, .ref q66_8, .ref q73_9, .null, .null, .int 0])), (q7_1, .inl (K 0, 80, .inl (fun _ => 0))), (q15_2, .inl (K 0, 80, .inl (fun _ => 0))), (q23_3, .inl (K 0, 80, .inl (fun _ => 0))), (q31_4, .inl (K 0, 12, .inl (fun _ => 0))), (q39_5, .inl (K 0, 12, .inl (fun _ => 0))), (q46_6, .inl (K 0, 4, .inl (fun _ => 0))), (q55_7, .inl (K 0, 4, .inl (depF))), (q66_8, .inl (K 0, 4, .inl (fun _ => 0))), (q73_9, .inl (K 0, 4, .inl (fun _ => 0))), (q80_10, .inl (K 0, 4, .inl (fun _ => 0)))]) H := hP
  have hD : va_D A ([(h0, .inr (1, [.ref q7_1, .ref q15_2, .ref q23_3, .ref q31_4, .ref q39_5, .ref q46_6, .ref q55_7, .ref q66_8, .ref q73_9, .null, .null, .int 0])), (q7_1, .inl (K 0, 80, .inl (fun _ => 0))), (q15_2, .inl (K 0, 80, .inl (fun _ => 0))), (q23_3, .inl (K 0, 80, .inl (fun _ => 0))), (q31_4, .inl (K 0, 12, .inl (fun _ => 0))), (q39_5, .inl (K 0, 12, .inl (fun _ => 0))), (q46_6, .inl (K 0, 4, .inl (fun _ => 0))), (q55_7, .inl (K 0, 4, .inl (depF))), (q66_8, .inl (K 0, 4, .inl (fun _ => 0))), (q73_9, .inl (K 0, 4, .inl (fun _ => 0))), (q80_10, .inl (K 0, 4, .inl (fun _ => 0)))]) := hD
  refine va_putF (D := D) (ci := 1) (v := .ref q80_10) (ty := .array .int) (C := RX1) (T := TX1) (N := 12) hx hb hts inX1 tyX1 tyX1_ok nmX1 hown hE.1 hP hD hS 0 rfl rfl 9 (by decide) F47 (fun _ h9 => h9) rfl (hin rfl) rfl (by decide +kernel) rfl rfl (Nat.le_of_ble_eq_true rfl) dX1_init_82 (fun H locs hP hD hS => ?_)
  have hP : va_P D vwCl ([(h0, .inr (1, [.ref q7_1, .ref q15_2, .ref q23_3, .ref q31_4, .ref q39_5, .ref q46_6, .ref q55_7, .ref q66_8, .ref q73_9, .ref q80_10, .null, .int 0])), (q7_1, .inl (K 0, 80, .inl (fun _ => 0))), (q15_2, .inl (K 0, 80, .inl (fun _ => 0))), (q23_3, .inl (K 0, 80, .inl (fun _ => 0))), (q31_4, .inl (K 0, 12, .inl (fun _ => 0))), (q39_5, .inl (K 0, 12, .inl (fun _ => 0))), (q46_6, .inl (K 0, 4, .inl (fun _ => 0))), (q55_7, .inl (K 0, 4, .inl (depF))), (q66_8, .inl (K 0, 4, .inl (fun _ => 0))), (q73_9, .inl (K 0, 4, .inl (fun _ => 0))), (q80_10, .inl (K 0, 4, .inl (fun _ => 0)))]) H := hP
  have hD : va_D A ([(h0, .inr (1, [.ref q7_1, .ref q15_2, .ref q23_3, .ref q31_4, .ref q39_5, .ref q46_6, .ref q55_7, .ref q66_8, .ref q73_9, .ref q80_10, .null, .int 0])), (q7_1, .inl (K 0, 80, .inl (fun _ => 0))), (q15_2, .inl (K 0, 80, .inl (fun _ => 0))), (q23_3, .inl (K 0, 80, .inl (fun _ => 0))), (q31_4, .inl (K 0, 12, .inl (fun _ => 0))), (q39_5, .inl (K 0, 12, .inl (fun _ => 0))), (q46_6, .inl (K 0, 4, .inl (fun _ => 0))), (q55_7, .inl (K 0, 4, .inl (depF))), (q66_8, .inl (K 0, 4, .inl (fun _ => 0))), (q73_9, .inl (K 0, 4, .inl (fun _ => 0))), (q80_10, .inl (K 0, 4, .inl (fun _ => 0)))]) := hD
  refine lv_aload_n hx hb dX1_init_85 rfl (lv_at hl 0 rfl) ?_
  refine va_getsN hx hb hZ.2.2.2.1 hS hown (va_Nw.use rfl hXw.2.2.2.2.2.2.2.2.1) (fun _ h9 => h9) dX1_init_86 ?_
  refine nv_clone hx hb (hml.trans hl.1.symm) hown CL1 CL2 CL3 CL4 CL5 (hXw.2.2.2.2.2.2.2.2.2.1) hE hP hD hS hA hZ.2.2.2.2 (Nat.le_of_ble_eq_true rfl) (Nat.le_of_ble_eq_true rfl) ⟨Nat.le_of_ble_eq_true rfl, Nat.le_of_ble_eq_true rfl⟩ dX1_init_89 (fun q89_11 H hP hD hS => ?_)
  have hP : va_P D vwCl ([(h0, .inr (1, [.ref q7_1, .ref q15_2, .ref q23_3, .ref q31_4, .ref q39_5, .ref q46_6, .ref q55_7, .ref q66_8, .ref q73_9, .ref q80_10, .null, .int 0])), (q7_1, .inl (K 0, 80, .inl (fun _ => 0))), (q15_2, .inl (K 0, 80, .inl (fun _ => 0))), (q23_3, .inl (K 0, 80, .inl (fun _ => 0))), (q31_4, .inl (K 0, 12, .inl (fun _ => 0))), (q39_5, .inl (K 0, 12, .inl (fun _ => 0))), (q46_6, .inl (K 0, 4, .inl (fun _ => 0))), (q55_7, .inl (K 0, 4, .inl (depF))), (q66_8, .inl (K 0, 4, .inl (fun _ => 0))), (q73_9, .inl (K 0, 4, .inl (fun _ => 0))), (q80_10, .inl (K 0, 4, .inl (fun _ => 0))), (q89_11, .inl (K 0, 3, .inl (fseF)))]) H := hP
  have hD : va_D A ([(h0, .inr (1, [.ref q7_1, .ref q15_2, .ref q23_3, .ref q31_4, .ref q39_5, .ref q46_6, .ref q55_7, .ref q66_8, .ref q73_9, .ref q80_10, .null, .int 0])), (q7_1, .inl (K 0, 80, .inl (fun _ => 0))), (q15_2, .inl (K 0, 80, .inl (fun _ => 0))), (q23_3, .inl (K 0, 80, .inl (fun _ => 0))), (q31_4, .inl (K 0, 12, .inl (fun _ => 0))), (q39_5, .inl (K 0, 12, .inl (fun _ => 0))), (q46_6, .inl (K 0, 4, .inl (fun _ => 0))), (q55_7, .inl (K 0, 4, .inl (depF))), (q66_8, .inl (K 0, 4, .inl (fun _ => 0))), (q73_9, .inl (K 0, 4, .inl (fun _ => 0))), (q80_10, .inl (K 0, 4, .inl (fun _ => 0))), (q89_11, .inl (K 0, 3, .inl (fseF)))]) := hD
  refine va_castA hx hb hown CC34 hP 11 rfl (K0_is hE) dX1_init_92 ?_
  refine va_putF (D := D) (ci := 1) (v := .ref q89_11) (ty := .array .int) (C := RX1) (T := TX1) (N := 12) hx hb hts inX1 tyX1 tyX1_ok nmX1 hown hE.1 hP hD hS 0 rfl rfl 10 (by decide) F53 (fun _ h9 => h9) rfl (hin rfl) rfl (by decide +kernel) rfl rfl (Nat.le_of_ble_eq_true rfl) dX1_init_95 (fun H locs hP hD hS => ?_)
  have hP : va_P D vwCl ([(h0, .inr (1, [.ref q7_1, .ref q15_2, .ref q23_3, .ref q31_4, .ref q39_5, .ref q46_6, .ref q55_7, .ref q66_8, .ref q73_9, .ref q80_10, .ref q89_11, .int 0])), (q7_1, .inl (K 0, 80, .inl (fun _ => 0))), (q15_2, .inl (K 0, 80, .inl (fun _ => 0))), (q23_3, .inl (K 0, 80, .inl (fun _ => 0))), (q31_4, .inl (K 0, 12, .inl (fun _ => 0))), (q39_5, .inl (K 0, 12, .inl (fun _ => 0))), (q46_6, .inl (K 0, 4, .inl (fun _ => 0))), (q55_7, .inl (K 0, 4, .inl (depF))), (q66_8, .inl (K 0, 4, .inl (fun _ => 0))), (q73_9, .inl (K 0, 4, .inl (fun _ => 0))), (q80_10, .inl (K 0, 4, .inl (fun _ => 0))), (q89_11, .inl (K 0, 3, .inl (fseF)))]) H := hP
  have hD : va_D A ([(h0, .inr (1, [.ref q7_1, .ref q15_2, .ref q23_3, .ref q31_4, .ref q39_5, .ref q46_6, .ref q55_7, .ref q66_8, .ref q73_9, .ref q80_10, .ref q89_11, .int 0])), (q7_1, .inl (K 0, 80, .inl (fun _ => 0))), (q15_2, .inl (K 0, 80, .inl (fun _ => 0))), (q23_3, .inl (K 0, 80, .inl (fun _ => 0))), (q31_4, .inl (K 0, 12, .inl (fun _ => 0))), (q39_5, .inl (K 0, 12, .inl (fun _ => 0))), (q46_6, .inl (K 0, 4, .inl (fun _ => 0))), (q55_7, .inl (K 0, 4, .inl (depF))), (q66_8, .inl (K 0, 4, .inl (fun _ => 0))), (q73_9, .inl (K 0, 4, .inl (fun _ => 0))), (q80_10, .inl (K 0, 4, .inl (fun _ => 0))), (q89_11, .inl (K 0, 3, .inl (fseF)))]) := hD
  refine lv_aload_n hx hb dX1_init_98 rfl (lv_at hl 0 rfl) ?_
  refine va_get (D := D) (ci := 1) (v := .ref q23_3) (C := RX1) (T := TX1) (N := 12) hx hb hts inX1 hown hE.1 hP 0 rfl rfl 2 (by decide) F18 (fun _ h9 => h9) rfl dX1_init_99 ?_
  refine lv_iconst (v := -1) hx hb dX1_init_102 (by decide) ?_
  refine wr_S (rest := []) ⟨hx, hb, hml, hown, hts⟩ hP hE hA hD hS (c_J7_fill_53178 l D K _ _ 3 _ 80 _ (-1) rfl (by decide)) (va_cwS 2 hts gX1_init_J7_fill_53178 rfl rfl rfl hn_J7_fill_53178 ⟨Nat.le_of_ble_eq_true rfl, Nat.le_of_ble_eq_true rfl⟩) rfl hl.1 rfl (Nat.le_of_ble_eq_true rfl) dX1_init_103 ⟨Nat.le_of_ble_eq_true rfl, Nat.le_of_ble_eq_true rfl⟩ (fun H locs hP hD hS => ?_)
  have hP : va_P D vwCl ([(h0, .inr (1, [.ref q7_1, .ref q15_2, .ref q23_3, .ref q31_4, .ref q39_5, .ref q46_6, .ref q55_7, .ref q66_8, .ref q73_9, .ref q80_10, .ref q89_11, .int 0])), (q7_1, .inl (K 0, 80, .inl (fun _ => 0))), (q15_2, .inl (K 0, 80, .inl (fun _ => 0))), (q23_3, .inl (K 0, 80, .inl (fun _ => -1))), (q31_4, .inl (K 0, 12, .inl (fun _ => 0))), (q39_5, .inl (K 0, 12, .inl (fun _ => 0))), (q46_6, .inl (K 0, 4, .inl (fun _ => 0))), (q55_7, .inl (K 0, 4, .inl (depF))), (q66_8, .inl (K 0, 4, .inl (fun _ => 0))), (q73_9, .inl (K 0, 4, .inl (fun _ => 0))), (q80_10, .inl (K 0, 4, .inl (fun _ => 0))), (q89_11, .inl (K 0, 3, .inl (fseF)))]) H := hP
  have hD : va_D A ([(h0, .inr (1, [.ref q7_1, .ref q15_2, .ref q23_3, .ref q31_4, .ref q39_5, .ref q46_6, .ref q55_7, .ref q66_8, .ref q73_9, .ref q80_10, .ref q89_11, .int 0])), (q7_1, .inl (K 0, 80, .inl (fun _ => 0))), (q15_2, .inl (K 0, 80, .inl (fun _ => 0))), (q23_3, .inl (K 0, 80, .inl (fun _ => -1))), (q31_4, .inl (K 0, 12, .inl (fun _ => 0))), (q39_5, .inl (K 0, 12, .inl (fun _ => 0))), (q46_6, .inl (K 0, 4, .inl (fun _ => 0))), (q55_7, .inl (K 0, 4, .inl (depF))), (q66_8, .inl (K 0, 4, .inl (fun _ => 0))), (q73_9, .inl (K 0, 4, .inl (fun _ => 0))), (q80_10, .inl (K 0, 4, .inl (fun _ => 0))), (q89_11, .inl (K 0, 3, .inl (fseF)))]) := hD
  refine lv_aload_n hx hb dX1_init_106 rfl (lv_at hl 0 rfl) ?_
  refine va_get (D := D) (ci := 1) (v := .ref q31_4) (C := RX1) (T := TX1) (N := 12) hx hb hts inX1 hown hE.1 hP 0 rfl rfl 3 (by decide) F21 (fun _ h9 => h9) rfl dX1_init_107 ?_
  refine lv_iconst (v := -1) hx hb dX1_init_110 (by decide) ?_
  refine wr_S (rest := []) ⟨hx, hb, hml, hown, hts⟩ hP hE hA hD hS (c_J7_fill_53178 l D K _ _ 4 _ 12 _ (-1) rfl (by decide)) (va_cwS 2 hts gX1_init_J7_fill_53178 rfl rfl rfl hn_J7_fill_53178 ⟨Nat.le_of_ble_eq_true rfl, Nat.le_of_ble_eq_true rfl⟩) rfl hl.1 rfl (Nat.le_of_ble_eq_true rfl) dX1_init_111 ⟨Nat.le_of_ble_eq_true rfl, Nat.le_of_ble_eq_true rfl⟩ (fun H locs hP hD hS => ?_)
  have hP : va_P D vwCl ([(h0, .inr (1, [.ref q7_1, .ref q15_2, .ref q23_3, .ref q31_4, .ref q39_5, .ref q46_6, .ref q55_7, .ref q66_8, .ref q73_9, .ref q80_10, .ref q89_11, .int 0])), (q7_1, .inl (K 0, 80, .inl (fun _ => 0))), (q15_2, .inl (K 0, 80, .inl (fun _ => 0))), (q23_3, .inl (K 0, 80, .inl (fun _ => -1))), (q31_4, .inl (K 0, 12, .inl (fun _ => -1))), (q39_5, .inl (K 0, 12, .inl (fun _ => 0))), (q46_6, .inl (K 0, 4, .inl (fun _ => 0))), (q55_7, .inl (K 0, 4, .inl (depF))), (q66_8, .inl (K 0, 4, .inl (fun _ => 0))), (q73_9, .inl (K 0, 4, .inl (fun _ => 0))), (q80_10, .inl (K 0, 4, .inl (fun _ => 0))), (q89_11, .inl (K 0, 3, .inl (fseF)))]) H := hP
  have hD : va_D A ([(h0, .inr (1, [.ref q7_1, .ref q15_2, .ref q23_3, .ref q31_4, .ref q39_5, .ref q46_6, .ref q55_7, .ref q66_8, .ref q73_9, .ref q80_10, .ref q89_11, .int 0])), (q7_1, .inl (K 0, 80, .inl (fun _ => 0))), (q15_2, .inl (K 0, 80, .inl (fun _ => 0))), (q23_3, .inl (K 0, 80, .inl (fun _ => -1))), (q31_4, .inl (K 0, 12, .inl (fun _ => -1))), (q39_5, .inl (K 0, 12, .inl (fun _ => 0))), (q46_6, .inl (K 0, 4, .inl (fun _ => 0))), (q55_7, .inl (K 0, 4, .inl (depF))), (q66_8, .inl (K 0, 4, .inl (fun _ => 0))), (q73_9, .inl (K 0, 4, .inl (fun _ => 0))), (q80_10, .inl (K 0, 4, .inl (fun _ => 0))), (q89_11, .inl (K 0, 3, .inl (fseF)))]) := hD
  refine lv_aload_n hx hb dX1_init_114 rfl (lv_at hl 0 rfl) ?_
  refine va_get (D := D) (ci := 1) (v := .ref q39_5) (C := RX1) (T := TX1) (N := 12) hx hb hts inX1 hown hE.1 hP 0 rfl rfl 4 (by decide) F24 (fun _ h9 => h9) rfl dX1_init_115 ?_
  refine lv_iconst (v := -1) hx hb dX1_init_118 (by decide) ?_
  refine wr_S (rest := []) ⟨hx, hb, hml, hown, hts⟩ hP hE hA hD hS (c_J7_fill_53178 l D K _ _ 5 _ 12 _ (-1) rfl (by decide)) (va_cwS 2 hts gX1_init_J7_fill_53178 rfl rfl rfl hn_J7_fill_53178 ⟨Nat.le_of_ble_eq_true rfl, Nat.le_of_ble_eq_true rfl⟩) rfl hl.1 rfl (Nat.le_of_ble_eq_true rfl) dX1_init_119 ⟨Nat.le_of_ble_eq_true rfl, Nat.le_of_ble_eq_true rfl⟩ (fun H locs hP hD hS => ?_)
  have hP : va_P D vwCl ([(h0, .inr (1, [.ref q7_1, .ref q15_2, .ref q23_3, .ref q31_4, .ref q39_5, .ref q46_6, .ref q55_7, .ref q66_8, .ref q73_9, .ref q80_10, .ref q89_11, .int 0])), (q7_1, .inl (K 0, 80, .inl (fun _ => 0))), (q15_2, .inl (K 0, 80, .inl (fun _ => 0))), (q23_3, .inl (K 0, 80, .inl (fun _ => -1))), (q31_4, .inl (K 0, 12, .inl (fun _ => -1))), (q39_5, .inl (K 0, 12, .inl (fun _ => -1))), (q46_6, .inl (K 0, 4, .inl (fun _ => 0))), (q55_7, .inl (K 0, 4, .inl (depF))), (q66_8, .inl (K 0, 4, .inl (fun _ => 0))), (q73_9, .inl (K 0, 4, .inl (fun _ => 0))), (q80_10, .inl (K 0, 4, .inl (fun _ => 0))), (q89_11, .inl (K 0, 3, .inl (fseF)))]) H := hP
  have hD : va_D A ([(h0, .inr (1, [.ref q7_1, .ref q15_2, .ref q23_3, .ref q31_4, .ref q39_5, .ref q46_6, .ref q55_7, .ref q66_8, .ref q73_9, .ref q80_10, .ref q89_11, .int 0])), (q7_1, .inl (K 0, 80, .inl (fun _ => 0))), (q15_2, .inl (K 0, 80, .inl (fun _ => 0))), (q23_3, .inl (K 0, 80, .inl (fun _ => -1))), (q31_4, .inl (K 0, 12, .inl (fun _ => -1))), (q39_5, .inl (K 0, 12, .inl (fun _ => -1))), (q46_6, .inl (K 0, 4, .inl (fun _ => 0))), (q55_7, .inl (K 0, 4, .inl (depF))), (q66_8, .inl (K 0, 4, .inl (fun _ => 0))), (q73_9, .inl (K 0, 4, .inl (fun _ => 0))), (q80_10, .inl (K 0, 4, .inl (fun _ => 0))), (q89_11, .inl (K 0, 3, .inl (fseF)))]) := hD
  refine lv_aload_n hx hb dX1_init_122 rfl (lv_at hl 0 rfl) ?_
  refine va_get (D := D) (ci := 1) (v := .ref q46_6) (C := RX1) (T := TX1) (N := 12) hx hb hts inX1 hown hE.1 hP 0 rfl rfl 5 (by decide) F27 (fun _ h9 => h9) rfl dX1_init_123 ?_
  refine lv_bipush (v := nI 20) hx hb dX1_init_126 (by decide) ?_
  refine wr_S (rest := []) ⟨hx, hb, hml, hown, hts⟩ hP hE hA hD hS (c_J7_fill_53178 l D K _ _ 6 _ 4 _ (nI 20) rfl (by decide)) (va_cwS 2 hts gX1_init_J7_fill_53178 rfl rfl rfl hn_J7_fill_53178 ⟨Nat.le_of_ble_eq_true rfl, Nat.le_of_ble_eq_true rfl⟩) rfl hl.1 rfl (Nat.le_of_ble_eq_true rfl) dX1_init_128 ⟨Nat.le_of_ble_eq_true rfl, Nat.le_of_ble_eq_true rfl⟩ (fun H locs hP hD hS => ?_)
  have hP : va_P D vwCl ([(h0, .inr (1, [.ref q7_1, .ref q15_2, .ref q23_3, .ref q31_4, .ref q39_5, .ref q46_6, .ref q55_7, .ref q66_8, .ref q73_9, .ref q80_10, .ref q89_11, .int 0])), (q7_1, .inl (K 0, 80, .inl (fun _ => 0))), (q15_2, .inl (K 0, 80, .inl (fun _ => 0))), (q23_3, .inl (K 0, 80, .inl (fun _ => -1))), (q31_4, .inl (K 0, 12, .inl (fun _ => -1))), (q39_5, .inl (K 0, 12, .inl (fun _ => -1))), (q46_6, .inl (K 0, 4, .inl (fun _ => nI 20))), (q55_7, .inl (K 0, 4, .inl (depF))), (q66_8, .inl (K 0, 4, .inl (fun _ => 0))), (q73_9, .inl (K 0, 4, .inl (fun _ => 0))), (q80_10, .inl (K 0, 4, .inl (fun _ => 0))), (q89_11, .inl (K 0, 3, .inl (fseF)))]) H := hP
  have hD : va_D A ([(h0, .inr (1, [.ref q7_1, .ref q15_2, .ref q23_3, .ref q31_4, .ref q39_5, .ref q46_6, .ref q55_7, .ref q66_8, .ref q73_9, .ref q80_10, .ref q89_11, .int 0])), (q7_1, .inl (K 0, 80, .inl (fun _ => 0))), (q15_2, .inl (K 0, 80, .inl (fun _ => 0))), (q23_3, .inl (K 0, 80, .inl (fun _ => -1))), (q31_4, .inl (K 0, 12, .inl (fun _ => -1))), (q39_5, .inl (K 0, 12, .inl (fun _ => -1))), (q46_6, .inl (K 0, 4, .inl (fun _ => nI 20))), (q55_7, .inl (K 0, 4, .inl (depF))), (q66_8, .inl (K 0, 4, .inl (fun _ => 0))), (q73_9, .inl (K 0, 4, .inl (fun _ => 0))), (q80_10, .inl (K 0, 4, .inl (fun _ => 0))), (q89_11, .inl (K 0, 3, .inl (fseF)))]) := hD
  refine lv_aload_n hx hb dX1_init_131 rfl (lv_at hl 0 rfl) ?_
  refine va_get (D := D) (ci := 1) (v := .ref q66_8) (C := RX1) (T := TX1) (N := 12) hx hb hts inX1 hown hE.1 hP 0 rfl rfl 7 (by decide) F41 (fun _ h9 => h9) rfl dX1_init_132 ?_
  refine lv_iconst (v := -1) hx hb dX1_init_135 (by decide) ?_
  refine wr_S (rest := []) ⟨hx, hb, hml, hown, hts⟩ hP hE hA hD hS (c_J7_fill_53178 l D K _ _ 8 _ 4 _ (-1) rfl (by decide)) (va_cwS 2 hts gX1_init_J7_fill_53178 rfl rfl rfl hn_J7_fill_53178 ⟨Nat.le_of_ble_eq_true rfl, Nat.le_of_ble_eq_true rfl⟩) rfl hl.1 rfl (Nat.le_of_ble_eq_true rfl) dX1_init_136 ⟨Nat.le_of_ble_eq_true rfl, Nat.le_of_ble_eq_true rfl⟩ (fun H locs hP hD hS => ?_)
  have hP : va_P D vwCl ([(h0, .inr (1, [.ref q7_1, .ref q15_2, .ref q23_3, .ref q31_4, .ref q39_5, .ref q46_6, .ref q55_7, .ref q66_8, .ref q73_9, .ref q80_10, .ref q89_11, .int 0])), (q7_1, .inl (K 0, 80, .inl (fun _ => 0))), (q15_2, .inl (K 0, 80, .inl (fun _ => 0))), (q23_3, .inl (K 0, 80, .inl (fun _ => -1))), (q31_4, .inl (K 0, 12, .inl (fun _ => -1))), (q39_5, .inl (K 0, 12, .inl (fun _ => -1))), (q46_6, .inl (K 0, 4, .inl (fun _ => nI 20))), (q55_7, .inl (K 0, 4, .inl (depF))), (q66_8, .inl (K 0, 4, .inl (fun _ => -1))), (q73_9, .inl (K 0, 4, .inl (fun _ => 0))), (q80_10, .inl (K 0, 4, .inl (fun _ => 0))), (q89_11, .inl (K 0, 3, .inl (fseF)))]) H := hP
  have hD : va_D A ([(h0, .inr (1, [.ref q7_1, .ref q15_2, .ref q23_3, .ref q31_4, .ref q39_5, .ref q46_6, .ref q55_7, .ref q66_8, .ref q73_9, .ref q80_10, .ref q89_11, .int 0])), (q7_1, .inl (K 0, 80, .inl (fun _ => 0))), (q15_2, .inl (K 0, 80, .inl (fun _ => 0))), (q23_3, .inl (K 0, 80, .inl (fun _ => -1))), (q31_4, .inl (K 0, 12, .inl (fun _ => -1))), (q39_5, .inl (K 0, 12, .inl (fun _ => -1))), (q46_6, .inl (K 0, 4, .inl (fun _ => nI 20))), (q55_7, .inl (K 0, 4, .inl (depF))), (q66_8, .inl (K 0, 4, .inl (fun _ => -1))), (q73_9, .inl (K 0, 4, .inl (fun _ => 0))), (q80_10, .inl (K 0, 4, .inl (fun _ => 0))), (q89_11, .inl (K 0, 3, .inl (fseF)))]) := hD
  refine lv_iconst (v := nI 0) hx hb dX1_init_139 (by decide) ?_
  refine lv_istore_n (lv' := [(1, .int (nI 0)), (0, .ref h0)]) hx hb dX1_init_140 rfl hl (by decide) rfl (fun ls hl => ?_)
  refine lv_iload_n hx hb dX1_init_141 rfl (lv_at hl 0 rfl) ?_
  refine va_getsN hx hb hZ.2.2.1.1 hS hown (va_Nw.use rfl hXw.2.2.2.2.2.2.2.1) (fun _ h9 => h9) dX1_init_142 ?_
  refine va_tlen hx hb hZ.2.2.1.2.va hS (v := nI 4) rfl dX1_init_145 ?_
  refine nv_icmp_ge (x := 0) (y := 4) (tgt := 187) hx hb dX1_init_146 (by decide) (by decide) (by decide) (fun c_1 => ?_) (fun c_1 => ?_)
  · exact absurd c_1 (by decide)
  have n_c_1 := Nat.not_le.mpr c_1
  refine va_getsN hx hb hZ.2.2.1.1 hS hown (va_Nw.use rfl hXw.2.2.2.2.2.2.2.1) (fun _ h9 => h9) dX1_init_149 ?_
  refine lv_iload_n hx hb dX1_init_152 rfl (lv_at hl 0 rfl) ?_
  refine va_ti hx hb hZ.2.2.1.2.va hS (pk_in 0 4 (by omega)) (v := .int (depF 0)) (by rw [pk_cl 0]) dX1_init_153 ?_
  refine top_i (y := nI 0) (rfl) ?_
  refine lv_istore_n (lv' := [(2, .int (nI 0)), (1, .int (nI 0)), (0, .ref h0)]) hx hb dX1_init_154 rfl hl (by decide) rfl (fun ls hl => ?_)
  refine lv_iload_n hx hb dX1_init_155 rfl (lv_at hl 0 rfl) ?_
  refine nv_if_lt (x := 0) (tgt := 181) hx hb dX1_init_156 (by decide) (by decide) ?_
  refine lv_iload_n hx hb dX1_init_159 rfl (lv_at hl 0 rfl) ?_
  refine lv_bipush (v := nI 80) hx hb dX1_init_160 (by decide) ?_
  refine nv_icmp_ge (x := 0) (y := 80) (tgt := 181) hx hb dX1_init_162 (by decide) (by decide) (by decide) (fun c_3 => ?_) (fun c_3 => ?_)
  · exact absurd c_3 (by decide)
  have n_c_3 := Nat.not_le.mpr c_3
  refine lv_aload_n hx hb dX1_init_165 rfl (lv_at hl 2 rfl) ?_
  refine va_get (D := D) (ci := 1) (v := .ref q15_2) (C := RX1) (T := TX1) (N := 12) hx hb hts inX1 hown hE.1 hP 0 rfl rfl 1 (by decide) F15 (fun _ h9 => h9) rfl dX1_init_166 ?_
  refine lv_iload_n hx hb dX1_init_169 rfl (lv_at hl 0 rfl) ?_
  refine lv_iconst (v := nI 1) hx hb dX1_init_170 (by decide) ?_
  refine lv_iload_n hx hb dX1_init_171 rfl (lv_at hl 1 rfl) ?_
  refine nv_ishl1 (y := 0) hx hb dX1_init_172 (by omega) ?_
  refine va_iast hx hb hE.1 hP hD hS 2 0 rfl rfl (pk_in 0 80 (by omega)) dX1_init_173 (fun H locs hP hD hS => ?_)
  rw [pk_cl 0] at hP hD
  have hP : va_P D vwCl ([(h0, .inr (1, [.ref q7_1, .ref q15_2, .ref q23_3, .ref q31_4, .ref q39_5, .ref q46_6, .ref q55_7, .ref q66_8, .ref q73_9, .ref q80_10, .ref q89_11, .int 0])), (q7_1, .inl (K 0, 80, .inl (fun _ => 0))), (q15_2, .inl (K 0, 80, .inl (upd (fun _ => 0) 0 (nI (2 ^ 0))))), (q23_3, .inl (K 0, 80, .inl (fun _ => -1))), (q31_4, .inl (K 0, 12, .inl (fun _ => -1))), (q39_5, .inl (K 0, 12, .inl (fun _ => -1))), (q46_6, .inl (K 0, 4, .inl (fun _ => nI 20))), (q55_7, .inl (K 0, 4, .inl (depF))), (q66_8, .inl (K 0, 4, .inl (fun _ => -1))), (q73_9, .inl (K 0, 4, .inl (fun _ => 0))), (q80_10, .inl (K 0, 4, .inl (fun _ => 0))), (q89_11, .inl (K 0, 3, .inl (fseF)))]) H := hP
  have hD : va_D A ([(h0, .inr (1, [.ref q7_1, .ref q15_2, .ref q23_3, .ref q31_4, .ref q39_5, .ref q46_6, .ref q55_7, .ref q66_8, .ref q73_9, .ref q80_10, .ref q89_11, .int 0])), (q7_1, .inl (K 0, 80, .inl (fun _ => 0))), (q15_2, .inl (K 0, 80, .inl (upd (fun _ => 0) 0 (nI (2 ^ 0))))), (q23_3, .inl (K 0, 80, .inl (fun _ => -1))), (q31_4, .inl (K 0, 12, .inl (fun _ => -1))), (q39_5, .inl (K 0, 12, .inl (fun _ => -1))), (q46_6, .inl (K 0, 4, .inl (fun _ => nI 20))), (q55_7, .inl (K 0, 4, .inl (depF))), (q66_8, .inl (K 0, 4, .inl (fun _ => -1))), (q73_9, .inl (K 0, 4, .inl (fun _ => 0))), (q80_10, .inl (K 0, 4, .inl (fun _ => 0))), (q89_11, .inl (K 0, 3, .inl (fseF)))]) := hD
  refine lv_aload_n hx hb dX1_init_174 rfl (lv_at hl 2 rfl) ?_
  refine va_get (D := D) (ci := 1) (v := .ref q23_3) (C := RX1) (T := TX1) (N := 12) hx hb hts inX1 hown hE.1 hP 0 rfl rfl 2 (by decide) F18 (fun _ h9 => h9) rfl dX1_init_175 ?_
  refine lv_iload_n hx hb dX1_init_178 rfl (lv_at hl 0 rfl) ?_
  refine lv_iload_n hx hb dX1_init_179 rfl (lv_at hl 1 rfl) ?_
  refine va_iast hx hb hE.1 hP hD hS 3 0 rfl rfl (pk_in 0 80 (by omega)) dX1_init_180 (fun H locs hP hD hS => ?_)
  rw [pk_cl 0] at hP hD
  have hP : va_P D vwCl ([(h0, .inr (1, [.ref q7_1, .ref q15_2, .ref q23_3, .ref q31_4, .ref q39_5, .ref q46_6, .ref q55_7, .ref q66_8, .ref q73_9, .ref q80_10, .ref q89_11, .int 0])), (q7_1, .inl (K 0, 80, .inl (fun _ => 0))), (q15_2, .inl (K 0, 80, .inl (upd (fun _ => 0) 0 (nI (2 ^ 0))))), (q23_3, .inl (K 0, 80, .inl (upd (fun _ => -1) 0 (nI 0)))), (q31_4, .inl (K 0, 12, .inl (fun _ => -1))), (q39_5, .inl (K 0, 12, .inl (fun _ => -1))), (q46_6, .inl (K 0, 4, .inl (fun _ => nI 20))), (q55_7, .inl (K 0, 4, .inl (depF))), (q66_8, .inl (K 0, 4, .inl (fun _ => -1))), (q73_9, .inl (K 0, 4, .inl (fun _ => 0))), (q80_10, .inl (K 0, 4, .inl (fun _ => 0))), (q89_11, .inl (K 0, 3, .inl (fseF)))]) H := hP
  have hD : va_D A ([(h0, .inr (1, [.ref q7_1, .ref q15_2, .ref q23_3, .ref q31_4, .ref q39_5, .ref q46_6, .ref q55_7, .ref q66_8, .ref q73_9, .ref q80_10, .ref q89_11, .int 0])), (q7_1, .inl (K 0, 80, .inl (fun _ => 0))), (q15_2, .inl (K 0, 80, .inl (upd (fun _ => 0) 0 (nI (2 ^ 0))))), (q23_3, .inl (K 0, 80, .inl (upd (fun _ => -1) 0 (nI 0)))), (q31_4, .inl (K 0, 12, .inl (fun _ => -1))), (q39_5, .inl (K 0, 12, .inl (fun _ => -1))), (q46_6, .inl (K 0, 4, .inl (fun _ => nI 20))), (q55_7, .inl (K 0, 4, .inl (depF))), (q66_8, .inl (K 0, 4, .inl (fun _ => -1))), (q73_9, .inl (K 0, 4, .inl (fun _ => 0))), (q80_10, .inl (K 0, 4, .inl (fun _ => 0))), (q89_11, .inl (K 0, 3, .inl (fseF)))]) := hD
  refine lv_iinc (v := nI 1) (lv' := [(1, .int (nI 1)), (2, .int (nI 0)), (0, .ref h0)]) hx hb dX1_init_181 hl (k := 1) rfl (nI_add _ 1) (by decide) rfl (fun ls hl => ?_)
  refine lv_goto (tgt := 141) hx hb dX1_init_184 (by decide) ?_
  refine lv_iload_n hx hb dX1_init_141 rfl (lv_at hl 0 rfl) ?_
  refine va_getsN hx hb hZ.2.2.1.1 hS hown (va_Nw.use rfl hXw.2.2.2.2.2.2.2.1) (fun _ h9 => h9) dX1_init_142 ?_
  refine va_tlen hx hb hZ.2.2.1.2.va hS (v := nI 4) rfl dX1_init_145 ?_
  refine nv_icmp_ge (x := 1) (y := 4) (tgt := 187) hx hb dX1_init_146 (by decide) (by decide) (by decide) (fun c_4 => ?_) (fun c_4 => ?_)
  · exact absurd c_4 (by decide)
  have n_c_4 := Nat.not_le.mpr c_4
  refine va_getsN hx hb hZ.2.2.1.1 hS hown (va_Nw.use rfl hXw.2.2.2.2.2.2.2.1) (fun _ h9 => h9) dX1_init_149 ?_
  refine lv_iload_n hx hb dX1_init_152 rfl (lv_at hl 0 rfl) ?_
  refine va_ti hx hb hZ.2.2.1.2.va hS (pk_in 1 4 (by omega)) (v := .int (depF 1)) (by rw [pk_cl 1]) dX1_init_153 ?_
  refine top_i (y := nI 9) (rfl) ?_
  refine lv_istore_n (lv' := [(2, .int (nI 9)), (1, .int (nI 1)), (0, .ref h0)]) hx hb dX1_init_154 rfl hl (by decide) rfl (fun ls hl => ?_)
  refine lv_iload_n hx hb dX1_init_155 rfl (lv_at hl 0 rfl) ?_
  refine nv_if_lt (x := 9) (tgt := 181) hx hb dX1_init_156 (by decide) (by decide) ?_
  refine lv_iload_n hx hb dX1_init_159 rfl (lv_at hl 0 rfl) ?_
  refine lv_bipush (v := nI 80) hx hb dX1_init_160 (by decide) ?_
  refine nv_icmp_ge (x := 9) (y := 80) (tgt := 181) hx hb dX1_init_162 (by decide) (by decide) (by decide) (fun c_6 => ?_) (fun c_6 => ?_)
  · exact absurd c_6 (by decide)
  have n_c_6 := Nat.not_le.mpr c_6
  refine lv_aload_n hx hb dX1_init_165 rfl (lv_at hl 2 rfl) ?_
  refine va_get (D := D) (ci := 1) (v := .ref q15_2) (C := RX1) (T := TX1) (N := 12) hx hb hts inX1 hown hE.1 hP 0 rfl rfl 1 (by decide) F15 (fun _ h9 => h9) rfl dX1_init_166 ?_
  refine lv_iload_n hx hb dX1_init_169 rfl (lv_at hl 0 rfl) ?_
  refine lv_iconst (v := nI 1) hx hb dX1_init_170 (by decide) ?_
  refine lv_iload_n hx hb dX1_init_171 rfl (lv_at hl 1 rfl) ?_
  refine nv_ishl1 (y := 1) hx hb dX1_init_172 (by omega) ?_
  refine va_iast hx hb hE.1 hP hD hS 2 0 rfl rfl (pk_in 9 80 (by omega)) dX1_init_173 (fun H locs hP hD hS => ?_)
  rw [pk_cl 9] at hP hD
  have hP : va_P D vwCl ([(h0, .inr (1, [.ref q7_1, .ref q15_2, .ref q23_3, .ref q31_4, .ref q39_5, .ref q46_6, .ref q55_7, .ref q66_8, .ref q73_9, .ref q80_10, .ref q89_11, .int 0])), (q7_1, .inl (K 0, 80, .inl (fun _ => 0))), (q15_2, .inl (K 0, 80, .inl (upd (upd (fun _ => 0) 0 (nI (2 ^ 0))) 9 (nI (2 ^ 1))))), (q23_3, .inl (K 0, 80, .inl (upd (fun _ => -1) 0 (nI 0)))), (q31_4, .inl (K 0, 12, .inl (fun _ => -1))), (q39_5, .inl (K 0, 12, .inl (fun _ => -1))), (q46_6, .inl (K 0, 4, .inl (fun _ => nI 20))), (q55_7, .inl (K 0, 4, .inl (depF))), (q66_8, .inl (K 0, 4, .inl (fun _ => -1))), (q73_9, .inl (K 0, 4, .inl (fun _ => 0))), (q80_10, .inl (K 0, 4, .inl (fun _ => 0))), (q89_11, .inl (K 0, 3, .inl (fseF)))]) H := hP
  have hD : va_D A ([(h0, .inr (1, [.ref q7_1, .ref q15_2, .ref q23_3, .ref q31_4, .ref q39_5, .ref q46_6, .ref q55_7, .ref q66_8, .ref q73_9, .ref q80_10, .ref q89_11, .int 0])), (q7_1, .inl (K 0, 80, .inl (fun _ => 0))), (q15_2, .inl (K 0, 80, .inl (upd (upd (fun _ => 0) 0 (nI (2 ^ 0))) 9 (nI (2 ^ 1))))), (q23_3, .inl (K 0, 80, .inl (upd (fun _ => -1) 0 (nI 0)))), (q31_4, .inl (K 0, 12, .inl (fun _ => -1))), (q39_5, .inl (K 0, 12, .inl (fun _ => -1))), (q46_6, .inl (K 0, 4, .inl (fun _ => nI 20))), (q55_7, .inl (K 0, 4, .inl (depF))), (q66_8, .inl (K 0, 4, .inl (fun _ => -1))), (q73_9, .inl (K 0, 4, .inl (fun _ => 0))), (q80_10, .inl (K 0, 4, .inl (fun _ => 0))), (q89_11, .inl (K 0, 3, .inl (fseF)))]) := hD
  refine lv_aload_n hx hb dX1_init_174 rfl (lv_at hl 2 rfl) ?_
  refine va_get (D := D) (ci := 1) (v := .ref q23_3) (C := RX1) (T := TX1) (N := 12) hx hb hts inX1 hown hE.1 hP 0 rfl rfl 2 (by decide) F18 (fun _ h9 => h9) rfl dX1_init_175 ?_
  refine lv_iload_n hx hb dX1_init_178 rfl (lv_at hl 0 rfl) ?_
  refine lv_iload_n hx hb dX1_init_179 rfl (lv_at hl 1 rfl) ?_
  refine va_iast hx hb hE.1 hP hD hS 3 0 rfl rfl (pk_in 9 80 (by omega)) dX1_init_180 (fun H locs hP hD hS => ?_)
  rw [pk_cl 9] at hP hD
  have hP : va_P D vwCl ([(h0, .inr (1, [.ref q7_1, .ref q15_2, .ref q23_3, .ref q31_4, .ref q39_5, .ref q46_6, .ref q55_7, .ref q66_8, .ref q73_9, .ref q80_10, .ref q89_11, .int 0])), (q7_1, .inl (K 0, 80, .inl (fun _ => 0))), (q15_2, .inl (K 0, 80, .inl (upd (upd (fun _ => 0) 0 (nI (2 ^ 0))) 9 (nI (2 ^ 1))))), (q23_3, .inl (K 0, 80, .inl (upd (upd (fun _ => -1) 0 (nI 0)) 9 (nI 1)))), (q31_4, .inl (K 0, 12, .inl (fun _ => -1))), (q39_5, .inl (K 0, 12, .inl (fun _ => -1))), (q46_6, .inl (K 0, 4, .inl (fun _ => nI 20))), (q55_7, .inl (K 0, 4, .inl (depF))), (q66_8, .inl (K 0, 4, .inl (fun _ => -1))), (q73_9, .inl (K 0, 4, .inl (fun _ => 0))), (q80_10, .inl (K 0, 4, .inl (fun _ => 0))), (q89_11, .inl (K 0, 3, .inl (fseF)))]) H := hP
  have hD : va_D A ([(h0, .inr (1, [.ref q7_1, .ref q15_2, .ref q23_3, .ref q31_4, .ref q39_5, .ref q46_6, .ref q55_7, .ref q66_8, .ref q73_9, .ref q80_10, .ref q89_11, .int 0])), (q7_1, .inl (K 0, 80, .inl (fun _ => 0))), (q15_2, .inl (K 0, 80, .inl (upd (upd (fun _ => 0) 0 (nI (2 ^ 0))) 9 (nI (2 ^ 1))))), (q23_3, .inl (K 0, 80, .inl (upd (upd (fun _ => -1) 0 (nI 0)) 9 (nI 1)))), (q31_4, .inl (K 0, 12, .inl (fun _ => -1))), (q39_5, .inl (K 0, 12, .inl (fun _ => -1))), (q46_6, .inl (K 0, 4, .inl (fun _ => nI 20))), (q55_7, .inl (K 0, 4, .inl (depF))), (q66_8, .inl (K 0, 4, .inl (fun _ => -1))), (q73_9, .inl (K 0, 4, .inl (fun _ => 0))), (q80_10, .inl (K 0, 4, .inl (fun _ => 0))), (q89_11, .inl (K 0, 3, .inl (fseF)))]) := hD
  refine lv_iinc (v := nI 2) (lv' := [(1, .int (nI 2)), (2, .int (nI 9)), (0, .ref h0)]) hx hb dX1_init_181 hl (k := 1) rfl (nI_add _ 1) (by decide) rfl (fun ls hl => ?_)
  refine lv_goto (tgt := 141) hx hb dX1_init_184 (by decide) ?_
  refine lv_iload_n hx hb dX1_init_141 rfl (lv_at hl 0 rfl) ?_
  refine va_getsN hx hb hZ.2.2.1.1 hS hown (va_Nw.use rfl hXw.2.2.2.2.2.2.2.1) (fun _ h9 => h9) dX1_init_142 ?_
  refine va_tlen hx hb hZ.2.2.1.2.va hS (v := nI 4) rfl dX1_init_145 ?_
  refine nv_icmp_ge (x := 2) (y := 4) (tgt := 187) hx hb dX1_init_146 (by decide) (by decide) (by decide) (fun c_7 => ?_) (fun c_7 => ?_)
  · exact absurd c_7 (by decide)
  have n_c_7 := Nat.not_le.mpr c_7
  refine va_getsN hx hb hZ.2.2.1.1 hS hown (va_Nw.use rfl hXw.2.2.2.2.2.2.2.1) (fun _ h9 => h9) dX1_init_149 ?_
  refine lv_iload_n hx hb dX1_init_152 rfl (lv_at hl 0 rfl) ?_
  refine va_ti hx hb hZ.2.2.1.2.va hS (pk_in 2 4 (by omega)) (v := .int (depF 2)) (by rw [pk_cl 2]) dX1_init_153 ?_
  refine top_i (y := nI 79) (rfl) ?_
  refine lv_istore_n (lv' := [(2, .int (nI 79)), (1, .int (nI 2)), (0, .ref h0)]) hx hb dX1_init_154 rfl hl (by decide) rfl (fun ls hl => ?_)
  refine lv_iload_n hx hb dX1_init_155 rfl (lv_at hl 0 rfl) ?_
  refine nv_if_lt (x := 79) (tgt := 181) hx hb dX1_init_156 (by decide) (by decide) ?_
  refine lv_iload_n hx hb dX1_init_159 rfl (lv_at hl 0 rfl) ?_
  refine lv_bipush (v := nI 80) hx hb dX1_init_160 (by decide) ?_
  refine nv_icmp_ge (x := 79) (y := 80) (tgt := 181) hx hb dX1_init_162 (by decide) (by decide) (by decide) (fun c_9 => ?_) (fun c_9 => ?_)
  · exact absurd c_9 (by decide)
  have n_c_9 := Nat.not_le.mpr c_9
  refine lv_aload_n hx hb dX1_init_165 rfl (lv_at hl 2 rfl) ?_
  refine va_get (D := D) (ci := 1) (v := .ref q15_2) (C := RX1) (T := TX1) (N := 12) hx hb hts inX1 hown hE.1 hP 0 rfl rfl 1 (by decide) F15 (fun _ h9 => h9) rfl dX1_init_166 ?_
  refine lv_iload_n hx hb dX1_init_169 rfl (lv_at hl 0 rfl) ?_
  refine lv_iconst (v := nI 1) hx hb dX1_init_170 (by decide) ?_
  refine lv_iload_n hx hb dX1_init_171 rfl (lv_at hl 1 rfl) ?_
  refine nv_ishl1 (y := 2) hx hb dX1_init_172 (by omega) ?_
  refine va_iast hx hb hE.1 hP hD hS 2 0 rfl rfl (pk_in 79 80 (by omega)) dX1_init_173 (fun H locs hP hD hS => ?_)
  rw [pk_cl 79] at hP hD
  have hP : va_P D vwCl ([(h0, .inr (1, [.ref q7_1, .ref q15_2, .ref q23_3, .ref q31_4, .ref q39_5, .ref q46_6, .ref q55_7, .ref q66_8, .ref q73_9, .ref q80_10, .ref q89_11, .int 0])), (q7_1, .inl (K 0, 80, .inl (fun _ => 0))), (q15_2, .inl (K 0, 80, .inl (upd (upd (upd (fun _ => 0) 0 (nI (2 ^ 0))) 9 (nI (2 ^ 1))) 79 (nI (2 ^ 2))))), (q23_3, .inl (K 0, 80, .inl (upd (upd (fun _ => -1) 0 (nI 0)) 9 (nI 1)))), (q31_4, .inl (K 0, 12, .inl (fun _ => -1))), (q39_5, .inl (K 0, 12, .inl (fun _ => -1))), (q46_6, .inl (K 0, 4, .inl (fun _ => nI 20))), (q55_7, .inl (K 0, 4, .inl (depF))), (q66_8, .inl (K 0, 4, .inl (fun _ => -1))), (q73_9, .inl (K 0, 4, .inl (fun _ => 0))), (q80_10, .inl (K 0, 4, .inl (fun _ => 0))), (q89_11, .inl (K 0, 3, .inl (fseF)))]) H := hP
  have hD : va_D A ([(h0, .inr (1, [.ref q7_1, .ref q15_2, .ref q23_3, .ref q31_4, .ref q39_5, .ref q46_6, .ref q55_7, .ref q66_8, .ref q73_9, .ref q80_10, .ref q89_11, .int 0])), (q7_1, .inl (K 0, 80, .inl (fun _ => 0))), (q15_2, .inl (K 0, 80, .inl (upd (upd (upd (fun _ => 0) 0 (nI (2 ^ 0))) 9 (nI (2 ^ 1))) 79 (nI (2 ^ 2))))), (q23_3, .inl (K 0, 80, .inl (upd (upd (fun _ => -1) 0 (nI 0)) 9 (nI 1)))), (q31_4, .inl (K 0, 12, .inl (fun _ => -1))), (q39_5, .inl (K 0, 12, .inl (fun _ => -1))), (q46_6, .inl (K 0, 4, .inl (fun _ => nI 20))), (q55_7, .inl (K 0, 4, .inl (depF))), (q66_8, .inl (K 0, 4, .inl (fun _ => -1))), (q73_9, .inl (K 0, 4, .inl (fun _ => 0))), (q80_10, .inl (K 0, 4, .inl (fun _ => 0))), (q89_11, .inl (K 0, 3, .inl (fseF)))]) := hD
  refine lv_aload_n hx hb dX1_init_174 rfl (lv_at hl 2 rfl) ?_
  refine va_get (D := D) (ci := 1) (v := .ref q23_3) (C := RX1) (T := TX1) (N := 12) hx hb hts inX1 hown hE.1 hP 0 rfl rfl 2 (by decide) F18 (fun _ h9 => h9) rfl dX1_init_175 ?_
  refine lv_iload_n hx hb dX1_init_178 rfl (lv_at hl 0 rfl) ?_
  refine lv_iload_n hx hb dX1_init_179 rfl (lv_at hl 1 rfl) ?_
  refine va_iast hx hb hE.1 hP hD hS 3 0 rfl rfl (pk_in 79 80 (by omega)) dX1_init_180 (fun H locs hP hD hS => ?_)
  rw [pk_cl 79] at hP hD
  have hP : va_P D vwCl ([(h0, .inr (1, [.ref q7_1, .ref q15_2, .ref q23_3, .ref q31_4, .ref q39_5, .ref q46_6, .ref q55_7, .ref q66_8, .ref q73_9, .ref q80_10, .ref q89_11, .int 0])), (q7_1, .inl (K 0, 80, .inl (fun _ => 0))), (q15_2, .inl (K 0, 80, .inl (upd (upd (upd (fun _ => 0) 0 (nI (2 ^ 0))) 9 (nI (2 ^ 1))) 79 (nI (2 ^ 2))))), (q23_3, .inl (K 0, 80, .inl (upd (upd (upd (fun _ => -1) 0 (nI 0)) 9 (nI 1)) 79 (nI 2)))), (q31_4, .inl (K 0, 12, .inl (fun _ => -1))), (q39_5, .inl (K 0, 12, .inl (fun _ => -1))), (q46_6, .inl (K 0, 4, .inl (fun _ => nI 20))), (q55_7, .inl (K 0, 4, .inl (depF))), (q66_8, .inl (K 0, 4, .inl (fun _ => -1))), (q73_9, .inl (K 0, 4, .inl (fun _ => 0))), (q80_10, .inl (K 0, 4, .inl (fun _ => 0))), (q89_11, .inl (K 0, 3, .inl (fseF)))]) H := hP
  have hD : va_D A ([(h0, .inr (1, [.ref q7_1, .ref q15_2, .ref q23_3, .ref q31_4, .ref q39_5, .ref q46_6, .ref q55_7, .ref q66_8, .ref q73_9, .ref q80_10, .ref q89_11, .int 0])), (q7_1, .inl (K 0, 80, .inl (fun _ => 0))), (q15_2, .inl (K 0, 80, .inl (upd (upd (upd (fun _ => 0) 0 (nI (2 ^ 0))) 9 (nI (2 ^ 1))) 79 (nI (2 ^ 2))))), (q23_3, .inl (K 0, 80, .inl (upd (upd (upd (fun _ => -1) 0 (nI 0)) 9 (nI 1)) 79 (nI 2)))), (q31_4, .inl (K 0, 12, .inl (fun _ => -1))), (q39_5, .inl (K 0, 12, .inl (fun _ => -1))), (q46_6, .inl (K 0, 4, .inl (fun _ => nI 20))), (q55_7, .inl (K 0, 4, .inl (depF))), (q66_8, .inl (K 0, 4, .inl (fun _ => -1))), (q73_9, .inl (K 0, 4, .inl (fun _ => 0))), (q80_10, .inl (K 0, 4, .inl (fun _ => 0))), (q89_11, .inl (K 0, 3, .inl (fseF)))]) := hD
  refine lv_iinc (v := nI 3) (lv' := [(1, .int (nI 3)), (2, .int (nI 79)), (0, .ref h0)]) hx hb dX1_init_181 hl (k := 1) rfl (nI_add _ 1) (by decide) rfl (fun ls hl => ?_)
  refine lv_goto (tgt := 141) hx hb dX1_init_184 (by decide) ?_
  refine lv_iload_n hx hb dX1_init_141 rfl (lv_at hl 0 rfl) ?_
  refine va_getsN hx hb hZ.2.2.1.1 hS hown (va_Nw.use rfl hXw.2.2.2.2.2.2.2.1) (fun _ h9 => h9) dX1_init_142 ?_
  refine va_tlen hx hb hZ.2.2.1.2.va hS (v := nI 4) rfl dX1_init_145 ?_
  refine nv_icmp_ge (x := 3) (y := 4) (tgt := 187) hx hb dX1_init_146 (by decide) (by decide) (by decide) (fun c_10 => ?_) (fun c_10 => ?_)
  · exact absurd c_10 (by decide)
  have n_c_10 := Nat.not_le.mpr c_10
  refine va_getsN hx hb hZ.2.2.1.1 hS hown (va_Nw.use rfl hXw.2.2.2.2.2.2.2.1) (fun _ h9 => h9) dX1_init_149 ?_
  refine lv_iload_n hx hb dX1_init_152 rfl (lv_at hl 0 rfl) ?_
  refine va_ti hx hb hZ.2.2.1.2.va hS (pk_in 3 4 (by omega)) (v := .int (depF 3)) (by rw [pk_cl 3]) dX1_init_153 ?_
  refine top_i (y := nI 70) (rfl) ?_
  refine lv_istore_n (lv' := [(2, .int (nI 70)), (1, .int (nI 3)), (0, .ref h0)]) hx hb dX1_init_154 rfl hl (by decide) rfl (fun ls hl => ?_)
  refine lv_iload_n hx hb dX1_init_155 rfl (lv_at hl 0 rfl) ?_
  refine nv_if_lt (x := 70) (tgt := 181) hx hb dX1_init_156 (by decide) (by decide) ?_
  refine lv_iload_n hx hb dX1_init_159 rfl (lv_at hl 0 rfl) ?_
  refine lv_bipush (v := nI 80) hx hb dX1_init_160 (by decide) ?_
  refine nv_icmp_ge (x := 70) (y := 80) (tgt := 181) hx hb dX1_init_162 (by decide) (by decide) (by decide) (fun c_12 => ?_) (fun c_12 => ?_)
  · exact absurd c_12 (by decide)
  have n_c_12 := Nat.not_le.mpr c_12
  refine lv_aload_n hx hb dX1_init_165 rfl (lv_at hl 2 rfl) ?_
  refine va_get (D := D) (ci := 1) (v := .ref q15_2) (C := RX1) (T := TX1) (N := 12) hx hb hts inX1 hown hE.1 hP 0 rfl rfl 1 (by decide) F15 (fun _ h9 => h9) rfl dX1_init_166 ?_
  refine lv_iload_n hx hb dX1_init_169 rfl (lv_at hl 0 rfl) ?_
  refine lv_iconst (v := nI 1) hx hb dX1_init_170 (by decide) ?_
  refine lv_iload_n hx hb dX1_init_171 rfl (lv_at hl 1 rfl) ?_
  refine nv_ishl1 (y := 3) hx hb dX1_init_172 (by omega) ?_
  refine va_iast hx hb hE.1 hP hD hS 2 0 rfl rfl (pk_in 70 80 (by omega)) dX1_init_173 (fun H locs hP hD hS => ?_)
  rw [pk_cl 70] at hP hD
  have hP : va_P D vwCl ([(h0, .inr (1, [.ref q7_1, .ref q15_2, .ref q23_3, .ref q31_4, .ref q39_5, .ref q46_6, .ref q55_7, .ref q66_8, .ref q73_9, .ref q80_10, .ref q89_11, .int 0])), (q7_1, .inl (K 0, 80, .inl (fun _ => 0))), (q15_2, .inl (K 0, 80, .inl (upd (upd (upd (upd (fun _ => 0) 0 (nI (2 ^ 0))) 9 (nI (2 ^ 1))) 79 (nI (2 ^ 2))) 70 (nI (2 ^ 3))))), (q23_3, .inl (K 0, 80, .inl (upd (upd (upd (fun _ => -1) 0 (nI 0)) 9 (nI 1)) 79 (nI 2)))), (q31_4, .inl (K 0, 12, .inl (fun _ => -1))), (q39_5, .inl (K 0, 12, .inl (fun _ => -1))), (q46_6, .inl (K 0, 4, .inl (fun _ => nI 20))), (q55_7, .inl (K 0, 4, .inl (depF))), (q66_8, .inl (K 0, 4, .inl (fun _ => -1))), (q73_9, .inl (K 0, 4, .inl (fun _ => 0))), (q80_10, .inl (K 0, 4, .inl (fun _ => 0))), (q89_11, .inl (K 0, 3, .inl (fseF)))]) H := hP
  have hD : va_D A ([(h0, .inr (1, [.ref q7_1, .ref q15_2, .ref q23_3, .ref q31_4, .ref q39_5, .ref q46_6, .ref q55_7, .ref q66_8, .ref q73_9, .ref q80_10, .ref q89_11, .int 0])), (q7_1, .inl (K 0, 80, .inl (fun _ => 0))), (q15_2, .inl (K 0, 80, .inl (upd (upd (upd (upd (fun _ => 0) 0 (nI (2 ^ 0))) 9 (nI (2 ^ 1))) 79 (nI (2 ^ 2))) 70 (nI (2 ^ 3))))), (q23_3, .inl (K 0, 80, .inl (upd (upd (upd (fun _ => -1) 0 (nI 0)) 9 (nI 1)) 79 (nI 2)))), (q31_4, .inl (K 0, 12, .inl (fun _ => -1))), (q39_5, .inl (K 0, 12, .inl (fun _ => -1))), (q46_6, .inl (K 0, 4, .inl (fun _ => nI 20))), (q55_7, .inl (K 0, 4, .inl (depF))), (q66_8, .inl (K 0, 4, .inl (fun _ => -1))), (q73_9, .inl (K 0, 4, .inl (fun _ => 0))), (q80_10, .inl (K 0, 4, .inl (fun _ => 0))), (q89_11, .inl (K 0, 3, .inl (fseF)))]) := hD
  refine lv_aload_n hx hb dX1_init_174 rfl (lv_at hl 2 rfl) ?_
  refine va_get (D := D) (ci := 1) (v := .ref q23_3) (C := RX1) (T := TX1) (N := 12) hx hb hts inX1 hown hE.1 hP 0 rfl rfl 2 (by decide) F18 (fun _ h9 => h9) rfl dX1_init_175 ?_
  refine lv_iload_n hx hb dX1_init_178 rfl (lv_at hl 0 rfl) ?_
  refine lv_iload_n hx hb dX1_init_179 rfl (lv_at hl 1 rfl) ?_
  refine va_iast hx hb hE.1 hP hD hS 3 0 rfl rfl (pk_in 70 80 (by omega)) dX1_init_180 (fun H locs hP hD hS => ?_)
  rw [pk_cl 70] at hP hD
  have hP : va_P D vwCl ([(h0, .inr (1, [.ref q7_1, .ref q15_2, .ref q23_3, .ref q31_4, .ref q39_5, .ref q46_6, .ref q55_7, .ref q66_8, .ref q73_9, .ref q80_10, .ref q89_11, .int 0])), (q7_1, .inl (K 0, 80, .inl (fun _ => 0))), (q15_2, .inl (K 0, 80, .inl (upd (upd (upd (upd (fun _ => 0) 0 (nI (2 ^ 0))) 9 (nI (2 ^ 1))) 79 (nI (2 ^ 2))) 70 (nI (2 ^ 3))))), (q23_3, .inl (K 0, 80, .inl (upd (upd (upd (upd (fun _ => -1) 0 (nI 0)) 9 (nI 1)) 79 (nI 2)) 70 (nI 3)))), (q31_4, .inl (K 0, 12, .inl (fun _ => -1))), (q39_5, .inl (K 0, 12, .inl (fun _ => -1))), (q46_6, .inl (K 0, 4, .inl (fun _ => nI 20))), (q55_7, .inl (K 0, 4, .inl (depF))), (q66_8, .inl (K 0, 4, .inl (fun _ => -1))), (q73_9, .inl (K 0, 4, .inl (fun _ => 0))), (q80_10, .inl (K 0, 4, .inl (fun _ => 0))), (q89_11, .inl (K 0, 3, .inl (fseF)))]) H := hP
  have hD : va_D A ([(h0, .inr (1, [.ref q7_1, .ref q15_2, .ref q23_3, .ref q31_4, .ref q39_5, .ref q46_6, .ref q55_7, .ref q66_8, .ref q73_9, .ref q80_10, .ref q89_11, .int 0])), (q7_1, .inl (K 0, 80, .inl (fun _ => 0))), (q15_2, .inl (K 0, 80, .inl (upd (upd (upd (upd (fun _ => 0) 0 (nI (2 ^ 0))) 9 (nI (2 ^ 1))) 79 (nI (2 ^ 2))) 70 (nI (2 ^ 3))))), (q23_3, .inl (K 0, 80, .inl (upd (upd (upd (upd (fun _ => -1) 0 (nI 0)) 9 (nI 1)) 79 (nI 2)) 70 (nI 3)))), (q31_4, .inl (K 0, 12, .inl (fun _ => -1))), (q39_5, .inl (K 0, 12, .inl (fun _ => -1))), (q46_6, .inl (K 0, 4, .inl (fun _ => nI 20))), (q55_7, .inl (K 0, 4, .inl (depF))), (q66_8, .inl (K 0, 4, .inl (fun _ => -1))), (q73_9, .inl (K 0, 4, .inl (fun _ => 0))), (q80_10, .inl (K 0, 4, .inl (fun _ => 0))), (q89_11, .inl (K 0, 3, .inl (fseF)))]) := hD
  refine lv_iinc (v := nI 4) (lv' := [(1, .int (nI 4)), (2, .int (nI 70)), (0, .ref h0)]) hx hb dX1_init_181 hl (k := 1) rfl (nI_add _ 1) (by decide) rfl (fun ls hl => ?_)
  refine lv_goto (tgt := 141) hx hb dX1_init_184 (by decide) ?_
  refine lv_iload_n hx hb dX1_init_141 rfl (lv_at hl 0 rfl) ?_
  refine va_getsN hx hb hZ.2.2.1.1 hS hown (va_Nw.use rfl hXw.2.2.2.2.2.2.2.1) (fun _ h9 => h9) dX1_init_142 ?_
  refine va_tlen hx hb hZ.2.2.1.2.va hS (v := nI 4) rfl dX1_init_145 ?_
  refine nv_icmp_ge (x := 4) (y := 4) (tgt := 187) hx hb dX1_init_146 (by decide) (by decide) (by decide) (fun c_13 => ?_) (fun c_13 => ?_)
  · have n_c_13 := Nat.not_lt.mpr c_13
    have hP : va_P D vwCl (townW K (at0 h0 (fun i => [h0, q7_1, q15_2, q23_3, q31_4, q39_5, q46_6, q55_7, q66_8, q73_9, q80_10, q89_11].getD i 0)) T0) H := hP
    have hD : va_D A (townW K (at0 h0 (fun i => [h0, q7_1, q15_2, q23_3, q31_4, q39_5, q46_6, q55_7, q66_8, q73_9, q80_10, q89_11].getD i 0)) T0) := hD
    exact ix_vret (fun i => [h0, q7_1, q15_2, q23_3, q31_4, q39_5, q46_6, q55_7, q66_8, q73_9, q80_10, q89_11].getD i 0) hAe hP hD hS hx hb hr hk dX1_init_187 ⟨Nat.le_of_ble_eq_true rfl, Nat.le_of_ble_eq_true rfl⟩
  exact absurd c_13 (by decide)
set_option maxHeartbeats 4000000 in
set_option maxRecDepth 100000 in
theorem c_X0_init (l : Launch) (D : va_G) (K : Nat → ClassId) (dp fs : Nat) (sz : Nat) (h0 : Nat) : Ix dp fs l yX0_init wsX0_init ({ frames := 2, cells := 1, slots := 60, locals := 33 } : Room) D K ([(h0, .inr (0, [.null, .int 0]))]) sz [.ref h0] (fun t => textW K (at0 h0 t) (fun _ => 0) 0) 1 60 := by
  refine ix_intro (cc := cX0_init) (maxL := 1) (ret := none) (by decide) rfl (Nat.le_of_ble_eq_true rfl) ?_
  intro pr en st md ar bl mt co A hx hb hml hr hts hown hk hsz hAe hP hE hD hS hA hin hXw hZ ls hl
  have hown : st.vm.findClass RX0 = some md.cls := hown
  have hl : lv_has ls 1 [(0, .ref h0)] := hl
  obtain ⟨H, hH⟩ : ∃ z, z = st.heap := ⟨_, rfl⟩
  obtain ⟨locs, hlo⟩ : ∃ z : List Loc, z = [] := ⟨_, rfl⟩
  have hP : va_P D vwCl ([(h0, .inr (0, [.null, .int 0]))]) H := by rw [hH]; exact hP
  have hS : va_S A st.heap H locs := by rw [hH, hlo]; exact hS
  suffices go : W pr l en (headSpec wsX0_init ({ frames := 2, cells := 1, slots := 60, locals := 33 } : Room)).room st md ar bl mt co H locs 0 0 (MQ bl (ixQ D ([(h0, .inr (0, [.null, .int 0]))]) sz (fun t => textW K (at0 h0 t) (fun _ => 0) 0)) ar st 1 60 A) (F0 md 0 ls []) by rw [hH, hlo] at go; exact go
  clear hH hlo
  have OI1 : (Cond.methodLink RX0 3 objectInit).before ar st = true := hts _ (List.mem_of_getElem? (i := 1) rfl)
  have OI2 : (Cond.instanceMethod objectInit).before ar st = true := hts _ (List.mem_of_getElem? (i := 2) rfl)
  have OI3 : (Cond.code objectInit ⟨#[0xb1]⟩ 1 none).before ar st = true := hts _ (List.mem_of_getElem? (i := 3) rfl)
  have ArrI : (Cond.arrayClass .int).before ar st = true := hts _ (List.mem_of_getElem? (i := 4) rfl)
  have F9 : (Cond.fieldLink RX0 9 "TramTolls$Text" "codes" "[I").before ar st = true := hts _ (List.mem_of_getElem? (i := 5) rfl)
  have inX0 : ∀ w ∈ u_ws RX0 TX0 2, w ∈ wsX0_init := fun w h => List.mem_cons_of_mem _ (List.mem_append_right _ h)
  refine lv_aload_n hx hb dX0_init_0 rfl (lv_at hl 0 rfl) ?_
  refine W.objInit hx hb hown OI1 OI2 OI3 rfl (by rw [hml]; exact hl.1) rfl dX0_init_1 (Nat.le_of_ble_eq_true rfl) (Nat.le_of_ble_eq_true rfl) ?_
  refine W.eq (g2 := F0 md 4 ls []) rfl ?_
  refine lv_aload_n hx hb dX0_init_4 rfl (lv_at hl 0 rfl) ?_
  refine lv_bipush (v := nI 60) hx hb dX0_init_5 (by decide) ?_
  refine nv_newa (n := 60) hx hb ArrI hE hP hD hS hA (by decide) ⟨Nat.le_of_ble_eq_true rfl, Nat.le_of_ble_eq_true rfl⟩ dX0_init_7 (fun q7_1 H hP hD hS => ?_)
  have hP : va_P D vwCl ([(h0, .inr (0, [.null, .int 0])), (q7_1, .inl (K 0, 60, .inl (fun _ => 0)))]) H := hP
  have hD : va_D A ([(h0, .inr (0, [.null, .int 0])), (q7_1, .inl (K 0, 60, .inl (fun _ => 0)))]) := hD
  refine va_putF (D := D) (ci := 0) (v := .ref q7_1) (ty := .array .int) (C := RX0) (T := TX0) (N := 2) hx hb hts inX0 tyX0 tyX0_ok nmX0 hown hE.1 hP hD hS 0 rfl rfl 0 (by decide) F9 (fun _ h9 => h9) rfl (hin rfl) rfl (by decide +kernel) rfl rfl (Nat.le_of_ble_eq_true rfl) dX0_init_9 (fun H locs hP hD hS => ?_)
  have hP : va_P D vwCl ([(h0, .inr (0, [.ref q7_1, .int 0])), (q7_1, .inl (K 0, 60, .inl (fun _ => 0)))]) H := hP
  have hD : va_D A ([(h0, .inr (0, [.ref q7_1, .int 0])), (q7_1, .inl (K 0, 60, .inl (fun _ => 0)))]) := hD
  have hP : va_P D vwCl (textW K (at0 h0 (fun i => [h0, q7_1].getD i 0)) (fun _ => 0) 0) H := hP
  have hD : va_D A (textW K (at0 h0 (fun i => [h0, q7_1].getD i 0)) (fun _ => 0) 0) := hD
  exact ix_vret (fun i => [h0, q7_1].getD i 0) hAe hP hD hS hx hb hr hk dX0_init_12 ⟨Nat.le_of_ble_eq_true rfl, Nat.le_of_ble_eq_true rfl⟩
set_option maxHeartbeats 4000000 in
set_option maxRecDepth 100000 in
theorem c_X2_init (l : Launch) (D : va_G) (K : Nat → ClassId) (dp fs : Nat) (sz : Nat) (h0 : Nat) : Ix dp fs l yX2_init wsX2_init ({ frames := 2, cells := 2, slots := 160, locals := 33 } : Room) D K ([(h0, .inr (2, [.null, .null, .int 0]))]) sz [.ref h0] (fun b => waysW K (at0 h0 b) (fun _ => some 0) (fun _ => 0) 0) 2 160 := by
  refine ix_intro (cc := cX2_init) (maxL := 1) (ret := none) (by decide) rfl (Nat.le_of_ble_eq_true rfl) ?_
  intro pr en st md ar bl mt co A hx hb hml hr hts hown hk hsz hAe hP hE hD hS hA hin hXw hZ ls hl
  have hown : st.vm.findClass RX2 = some md.cls := hown
  have hl : lv_has ls 1 [(0, .ref h0)] := hl
  obtain ⟨H, hH⟩ : ∃ z, z = st.heap := ⟨_, rfl⟩
  obtain ⟨locs, hlo⟩ : ∃ z : List Loc, z = [] := ⟨_, rfl⟩
  have hP : va_P D vwCl ([(h0, .inr (2, [.null, .null, .int 0]))]) H := by rw [hH]; exact hP
  have hS : va_S A st.heap H locs := by rw [hH, hlo]; exact hS
  suffices go : W pr l en (headSpec wsX2_init ({ frames := 2, cells := 2, slots := 160, locals := 33 } : Room)).room st md ar bl mt co H locs 0 0 (MQ bl (ixQ D ([(h0, .inr (2, [.null, .null, .int 0]))]) sz (fun b => waysW K (at0 h0 b) (fun _ => some 0) (fun _ => 0) 0)) ar st 2 160 A) (F0 md 0 ls []) by rw [hH, hlo] at go; exact go
  clear hH hlo
  have OI1 : (Cond.methodLink RX2 3 objectInit).before ar st = true := hts _ (List.mem_of_getElem? (i := 1) rfl)
  have OI2 : (Cond.instanceMethod objectInit).before ar st = true := hts _ (List.mem_of_getElem? (i := 2) rfl)
  have OI3 : (Cond.code objectInit ⟨#[0xb1]⟩ 1 none).before ar st = true := hts _ (List.mem_of_getElem? (i := 3) rfl)
  have ArrI : (Cond.arrayClass .int).before ar st = true := hts _ (List.mem_of_getElem? (i := 4) rfl)
  have F9 : (Cond.fieldLink RX2 9 "TramTolls$Ways" "lengths" "[I").before ar st = true := hts _ (List.mem_of_getElem? (i := 5) rfl)
  have inX2 : ∀ w ∈ u_ws RX2 TX2 3, w ∈ wsX2_init := fun w h => List.mem_cons_of_mem _ (List.mem_append_right _ h)
  have F15 : (Cond.fieldLink RX2 15 "TramTolls$Ways" "queue" "[I").before ar st = true := hts _ (List.mem_of_getElem? (i := 6) rfl)
  refine lv_aload_n hx hb dX2_init_0 rfl (lv_at hl 0 rfl) ?_
  refine W.objInit hx hb hown OI1 OI2 OI3 rfl (by rw [hml]; exact hl.1) rfl dX2_init_1 (Nat.le_of_ble_eq_true rfl) (Nat.le_of_ble_eq_true rfl) ?_
  refine W.eq (g2 := F0 md 4 ls []) rfl ?_
  refine lv_aload_n hx hb dX2_init_4 rfl (lv_at hl 0 rfl) ?_
  refine lv_bipush (v := nI 80) hx hb dX2_init_5 (by decide) ?_
  refine nv_newa (n := 80) hx hb ArrI hE hP hD hS hA (by decide) ⟨Nat.le_of_ble_eq_true rfl, Nat.le_of_ble_eq_true rfl⟩ dX2_init_7 (fun q7_1 H hP hD hS => ?_)
  have hP : va_P D vwCl ([(h0, .inr (2, [.null, .null, .int 0])), (q7_1, .inl (K 0, 80, .inl (fun _ => 0)))]) H := hP
  have hD : va_D A ([(h0, .inr (2, [.null, .null, .int 0])), (q7_1, .inl (K 0, 80, .inl (fun _ => 0)))]) := hD
  refine va_putF (D := D) (ci := 2) (v := .ref q7_1) (ty := .array .int) (C := RX2) (T := TX2) (N := 3) hx hb hts inX2 tyX2 tyX2_ok nmX2 hown hE.1 hP hD hS 0 rfl rfl 0 (by decide) F9 (fun _ h9 => h9) rfl (hin rfl) rfl (by decide +kernel) rfl rfl (Nat.le_of_ble_eq_true rfl) dX2_init_9 (fun H locs hP hD hS => ?_)
  have hP : va_P D vwCl ([(h0, .inr (2, [.ref q7_1, .null, .int 0])), (q7_1, .inl (K 0, 80, .inl (fun _ => 0)))]) H := hP
  have hD : va_D A ([(h0, .inr (2, [.ref q7_1, .null, .int 0])), (q7_1, .inl (K 0, 80, .inl (fun _ => 0)))]) := hD
  refine lv_aload_n hx hb dX2_init_12 rfl (lv_at hl 0 rfl) ?_
  refine lv_bipush (v := nI 80) hx hb dX2_init_13 (by decide) ?_
  refine nv_newa (n := 80) hx hb ArrI hE hP hD hS hA (by decide) ⟨Nat.le_of_ble_eq_true rfl, Nat.le_of_ble_eq_true rfl⟩ dX2_init_15 (fun q15_2 H hP hD hS => ?_)
  have hP : va_P D vwCl ([(h0, .inr (2, [.ref q7_1, .null, .int 0])), (q7_1, .inl (K 0, 80, .inl (fun _ => 0))), (q15_2, .inl (K 0, 80, .inl (fun _ => 0)))]) H := hP
  have hD : va_D A ([(h0, .inr (2, [.ref q7_1, .null, .int 0])), (q7_1, .inl (K 0, 80, .inl (fun _ => 0))), (q15_2, .inl (K 0, 80, .inl (fun _ => 0)))]) := hD
  refine va_putF (D := D) (ci := 2) (v := .ref q15_2) (ty := .array .int) (C := RX2) (T := TX2) (N := 3) hx hb hts inX2 tyX2 tyX2_ok nmX2 hown hE.1 hP hD hS 0 rfl rfl 1 (by decide) F15 (fun _ h9 => h9) rfl (hin rfl) rfl (by decide +kernel) rfl rfl (Nat.le_of_ble_eq_true rfl) dX2_init_17 (fun H locs hP hD hS => ?_)
  have hP : va_P D vwCl ([(h0, .inr (2, [.ref q7_1, .ref q15_2, .int 0])), (q7_1, .inl (K 0, 80, .inl (fun _ => 0))), (q15_2, .inl (K 0, 80, .inl (fun _ => 0)))]) H := hP
  have hD : va_D A ([(h0, .inr (2, [.ref q7_1, .ref q15_2, .int 0])), (q7_1, .inl (K 0, 80, .inl (fun _ => 0))), (q15_2, .inl (K 0, 80, .inl (fun _ => 0)))]) := hD
  have hP : va_P D vwCl (waysW K (at0 h0 (fun i => [h0, q7_1, q15_2].getD i 0)) (fun _ => some 0) (fun _ => 0) 0) H := hP
  have hD : va_D A (waysW K (at0 h0 (fun i => [h0, q7_1, q15_2].getD i 0)) (fun _ => some 0) (fun _ => 0) 0) := hD
  exact ix_vret (fun i => [h0, q7_1, q15_2].getD i 0) hAe hP hD hS hx hb hr hk dX2_init_20 ⟨Nat.le_of_ble_eq_true rfl, Nat.le_of_ble_eq_true rfl⟩
