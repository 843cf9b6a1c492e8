set_option maxHeartbeats 4000000 in
set_option maxRecDepth 100000 in
theorem c_X4_init (l : Launch) (D : va_G) (K : Nat → ClassId) (dp fs : Nat) (sz : Nat) (h0 : Nat) : Ix dp fs l yX4_init wsX4_init ({ frames := 2, cells := 5, slots := 2252, locals := 33 } : Room) D K ([(h0, .inr (4, [.int 0, .null, .null, .int 0, .null, .int 0, .null, .int 0, .int 0, .int 0, .null, .int 0, .long 0]))]) sz [.ref h0] (fun r => refO (at0 h0 r) (nI 0) (nI 0) (nI 0) (nI 0) (nI 0) (nI 0) (nI 0) 0 :: zC K (at0 h0 r) T0 :: sC K (at0 h0 r) (fun _ => 0) :: bC K (at0 h0 r) (fun _ => 0) :: pC K (at0 h0 r) (fun _ => 0) :: fC K (at0 h0 r) (fun _ => 0) :: []) 5 2252 := by
  refine ix_intro (cc := cX4_init) (maxL := 2) (ret := none) (by decide) rfl (Nat.le_of_ble_eq_true rfl) ?_
  intro pr en st md ar bl mt co A hx hb hml hr hts hown hk hsz hAe hP hE hD hS hA hin hXw hZ ls hl
  have hown : st.vm.findClass RX4 = some md.cls := hown
  have hl : lv_has ls 2 [(0, .ref h0)] := hl
  obtain ⟨H, hH⟩ : ∃ z, z = st.heap := ⟨_, rfl⟩
  obtain ⟨locs, hlo⟩ : ∃ z : List Loc, z = [] := ⟨_, rfl⟩
  have hP : va_P D vwCl ([(h0, .inr (4, [.int 0, .null, .null, .int 0, .null, .int 0, .null, .int 0, .int 0, .int 0, .null, .int 0, .long 0]))]) H := by rw [hH]; exact hP
  have hS : va_S A st.heap H locs := by rw [hH, hlo]; exact hS
  suffices go : W pr l en (headSpec wsX4_init ({ frames := 2, cells := 5, slots := 2252, locals := 33 } : Room)).room st md ar bl mt co H locs 0 0 (MQ bl (ixQ D ([(h0, .inr (4, [.int 0, .null, .null, .int 0, .null, .int 0, .null, .int 0, .int 0, .int 0, .null, .int 0, .long 0]))]) sz (fun r => refO (at0 h0 r) (nI 0) (nI 0) (nI 0) (nI 0) (nI 0) (nI 0) (nI 0) 0 :: zC K (at0 h0 r) T0 :: sC K (at0 h0 r) (fun _ => 0) :: bC K (at0 h0 r) (fun _ => 0) :: pC K (at0 h0 r) (fun _ => 0) :: fC K (at0 h0 r) (fun _ => 0) :: [])) ar st 5 2252 A) (F0 md 0 ls []) by rw [hH, hlo] at go; exact go
  clear hH hlo
  have OI1 : (Cond.methodLink RX4 1 objectInit).before ar st = true := hts _ (List.mem_of_getElem? (i := 1) rfl)
  have OI2 : (Cond.instanceMethod objectInit).before ar st = true := hts _ (List.mem_of_getElem? (i := 2) rfl)
  have OI3 : (Cond.code objectInit ⟨#[0xb1]⟩ 1 none).before ar st = true := hts _ (List.mem_of_getElem? (i := 3) rfl)
  have ArrI : (Cond.arrayClass .int).before ar st = true := hts _ (List.mem_of_getElem? (i := 4) rfl)
  have F7 : (Cond.fieldLink RX4 7 "TramTollsModel" "z" "[I").before ar st = true := hts _ (List.mem_of_getElem? (i := 5) rfl)
  have inX4 : ∀ w ∈ u_ws RX4 TX4 13, w ∈ wsX4_init := fun w h => List.mem_cons_of_mem _ (List.mem_append_right _ h)
  have F13 : (Cond.fieldLink RX4 13 "TramTollsModel" "saved" "[I").before ar st = true := hts _ (List.mem_of_getElem? (i := 6) rfl)
  have F16 : (Cond.fieldLink RX4 16 "TramTollsModel" "buffer" "[I").before ar st = true := hts _ (List.mem_of_getElem? (i := 7) rfl)
  have F19 : (Cond.fieldLink RX4 19 "TramTollsModel" "pieces" "[I").before ar st = true := hts _ (List.mem_of_getElem? (i := 8) rfl)
  have F22 : (Cond.fieldLink RX4 22 "TramTollsModel" "far" "[I").before ar st = true := hts _ (List.mem_of_getElem? (i := 9) rfl)
  refine lv_aload_n hx hb dX4_init_0 rfl (lv_at hl 0 rfl) ?_
  refine W.objInit hx hb hown OI1 OI2 OI3 rfl (by rw [hml]; exact hl.1) rfl dX4_init_1 (Nat.le_of_ble_eq_true rfl) (Nat.le_of_ble_eq_true rfl) ?_
  refine W.eq (g2 := F0 md 4 ls []) rfl ?_
  refine lv_aload_n hx hb dX4_init_4 rfl (lv_at hl 0 rfl) ?_
  refine lv_sipush (v := nI 288) hx hb dX4_init_5 (by decide) ?_
  refine nv_newa (n := 288) hx hb ArrI hE hP hD hS hA (by decide) ⟨Nat.le_of_ble_eq_true rfl, Nat.le_of_ble_eq_true rfl⟩ dX4_init_8 (fun q8_1 H hP hD hS => ?_)
  have hP : va_P D vwCl ([(h0, .inr (4, [.int 0, .null, .null, .int 0, .null, .int 0, .null, .int 0, .int 0, .int 0, .null, .int 0, .long 0])), (q8_1, .inl (K 0, 288, .inl (fun _ => 0)))]) H := hP
  have hD : va_D A ([(h0, .inr (4, [.int 0, .null, .null, .int 0, .null, .int 0, .null, .int 0, .int 0, .int 0, .null, .int 0, .long 0])), (q8_1, .inl (K 0, 288, .inl (fun _ => 0)))]) := hD
  refine va_putF (D := D) (ci := 4) (v := .ref q8_1) (ty := .array .int) (C := RX4) (T := TX4) (N := 13) hx hb hts inX4 tyX4 tyX4_ok nmX4 hown hE.1 hP hD hS 0 rfl rfl 1 (by decide) F7 (fun _ h9 => h9) rfl (hin rfl) rfl (by decide +kernel) rfl rfl (Nat.le_of_ble_eq_true rfl) dX4_init_10 (fun H locs hP hD hS => ?_)
  have hP : va_P D vwCl ([(h0, .inr (4, [.int 0, .ref q8_1, .null, .int 0, .null, .int 0, .null, .int 0, .int 0, .int 0, .null, .int 0, .long 0])), (q8_1, .inl (K 0, 288, .inl (fun _ => 0)))]) H := hP
  have hD : va_D A ([(h0, .inr (4, [.int 0, .ref q8_1, .null, .int 0, .null, .int 0, .null, .int 0, .int 0, .int 0, .null, .int 0, .long 0])), (q8_1, .inl (K 0, 288, .inl (fun _ => 0)))]) := hD
  refine lv_aload_n hx hb dX4_init_13 rfl (lv_at hl 0 rfl) ?_
  refine lv_sipush (v := nI 1728) hx hb dX4_init_14 (by decide) ?_
  refine nv_newa (n := 1728) hx hb ArrI hE hP hD hS hA (by decide) ⟨Nat.le_of_ble_eq_true rfl, Nat.le_of_ble_eq_true rfl⟩ dX4_init_17 (fun q17_2 H hP hD hS => ?_)
  have hP : va_P D vwCl ([(h0, .inr (4, [.int 0, .ref q8_1, .null, .int 0, .null, .int 0, .null, .int 0, .int 0, .int 0, .null, .int 0, .long 0])), (q8_1, .inl (K 0, 288, .inl (fun _ => 0))), (q17_2, .inl (K 0, 1728, .inl (fun _ => 0)))]) H := hP
  have hD : va_D A ([(h0, .inr (4, [.int 0, .ref q8_1, .null, .int 0, .null, .int 0, .null, .int 0, .int 0, .int 0, .null, .int 0, .long 0])), (q8_1, .inl (K 0, 288, .inl (fun _ => 0))), (q17_2, .inl (K 0, 1728, .inl (fun _ => 0)))]) := hD
  refine va_putF (D := D) (ci := 4) (v := .ref q17_2) (ty := .array .int) (C := RX4) (T := TX4) (N := 13) hx hb hts inX4 tyX4 tyX4_ok nmX4 hown hE.1 hP hD hS 0 rfl rfl 2 (by decide) F13 (fun _ h9 => h9) rfl (hin rfl) rfl (by decide +kernel) rfl rfl (Nat.le_of_ble_eq_true rfl) dX4_init_19 (fun H locs hP hD hS => ?_)
  have hP : va_P D vwCl ([(h0, .inr (4, [.int 0, .ref q8_1, .ref q17_2, .int 0, .null, .int 0, .null, .int 0, .int 0, .int 0, .null, .int 0, .long 0])), (q8_1, .inl (K 0, 288, .inl (fun _ => 0))), (q17_2, .inl (K 0, 1728, .inl (fun _ => 0)))]) H := hP
  have hD : va_D A ([(h0, .inr (4, [.int 0, .ref q8_1, .ref q17_2, .int 0, .null, .int 0, .null, .int 0, .int 0, .int 0, .null, .int 0, .long 0])), (q8_1, .inl (K 0, 288, .inl (fun _ => 0))), (q17_2, .inl (K 0, 1728, .inl (fun _ => 0)))]) := hD
  refine lv_aload_n hx hb dX4_init_22 rfl (lv_at hl 0 rfl) ?_
  refine lv_bipush (v := nI 60) hx hb dX4_init_23 (by decide) ?_
  refine nv_newa (n := 60) hx hb ArrI hE hP hD hS hA (by decide) ⟨Nat.le_of_ble_eq_true rfl, Nat.le_of_ble_eq_true rfl⟩ dX4_init_25 (fun q25_3 H hP hD hS => ?_)
  have hP : va_P D vwCl ([(h0, .inr (4, [.int 0, .ref q8_1, .ref q17_2, .int 0, .null, .int 0, .null, .int 0, .int 0, .int 0, .null, .int 0, .long 0])), (q8_1, .inl (K 0, 288, .inl (fun _ => 0))), (q17_2, .inl (K 0, 1728, .inl (fun _ => 0))), (q25_3, .inl (K 0, 60, .inl (fun _ => 0)))]) H := hP
  have hD : va_D A ([(h0, .inr (4, [.int 0, .ref q8_1, .ref q17_2, .int 0, .null, .int 0, .null, .int 0, .int 0, .int 0, .null, .int 0, .long 0])), (q8_1, .inl (K 0, 288, .inl (fun _ => 0))), (q17_2, .inl (K 0, 1728, .inl (fun _ => 0))), (q25_3, .inl (K 0, 60, .inl (fun _ => 0)))]) := hD
  refine va_putF (D := D) (ci := 4) (v := .ref q25_3) (ty := .array .int) (C := RX4) (T := TX4) (N := 13) hx hb hts inX4 tyX4 tyX4_ok nmX4 hown hE.1 hP hD hS 0 rfl rfl 4 (by decide) F16 (fun _ h9 => h9) rfl (hin rfl) rfl (by decide +kernel) rfl rfl (Nat.le_of_ble_eq_true rfl) dX4_init_27 (fun H locs hP hD hS => ?_)
  have hP : va_P D vwCl ([(h0, .inr (4, [.int 0, .ref q8_1, .ref q17_2, .int 0, .ref q25_3, .int 0, .null, .int 0, .int 0, .int 0, .null, .int 0, .long 0])), (q8_1, .inl (K 0, 288, .inl (fun _ => 0))), (q17_2, .inl (K 0, 1728, .inl (fun _ => 0))), (q25_3, .inl (K 0, 60, .inl (fun _ => 0)))]) H := hP
  have hD : va_D A ([(h0, .inr (4, [.int 0, .ref q8_1, .ref q17_2, .int 0, .ref q25_3, .int 0, .null, .int 0, .int 0, .int 0, .null, .int 0, .long 0])), (q8_1, .inl (K 0, 288, .inl (fun _ => 0))), (q17_2, .inl (K 0, 1728, .inl (fun _ => 0))), (q25_3, .inl (K 0, 60, .inl (fun _ => 0)))]) := hD
  refine lv_aload_n hx hb dX4_init_30 rfl (lv_at hl 0 rfl) ?_
  refine lv_bipush (v := nI 96) hx hb dX4_init_31 (by decide) ?_
  refine nv_newa (n := 96) hx hb ArrI hE hP hD hS hA (by decide) ⟨Nat.le_of_ble_eq_true rfl, Nat.le_of_ble_eq_true rfl⟩ dX4_init_33 (fun q33_4 H hP hD hS => ?_)
  have hP : va_P D vwCl ([(h0, .inr (4, [.int 0, .ref q8_1, .ref q17_2, .int 0, .ref q25_3, .int 0, .null, .int 0, .int 0, .int 0, .null, .int 0, .long 0])), (q8_1, .inl (K 0, 288, .inl (fun _ => 0))), (q17_2, .inl (K 0, 1728, .inl (fun _ => 0))), (q25_3, .inl (K 0, 60, .inl (fun _ => 0))), (q33_4, .inl (K 0, 96, .inl (fun _ => 0)))]) H := hP
  have hD : va_D A ([(h0, .inr (4, [.int 0, .ref q8_1, .ref q17_2, .int 0, .ref q25_3, .int 0, .null, .int 0, .int 0, .int 0, .null, .int 0, .long 0])), (q8_1, .inl (K 0, 288, .inl (fun _ => 0))), (q17_2, .inl (K 0, 1728, .inl (fun _ => 0))), (q25_3, .inl (K 0, 60, .inl (fun _ => 0))), (q33_4, .inl (K 0, 96, .inl (fun _ => 0)))]) := hD
  refine va_putF (D := D) (ci := 4) (v := .ref q33_4) (ty := .array .int) (C := RX4) (T := TX4) (N := 13) hx hb hts inX4 tyX4 tyX4_ok nmX4 hown hE.1 hP hD hS 0 rfl rfl 6 (by decide) F19 (fun _ h9 => h9) rfl (hin rfl) rfl (by decide +kernel) rfl rfl (Nat.le_of_ble_eq_true rfl) dX4_init_35 (fun H locs hP hD hS => ?_)
  have hP : va_P D vwCl ([(h0, .inr (4, [.int 0, .ref q8_1, .ref q17_2, .int 0, .ref q25_3, .int 0, .ref q33_4, .int 0, .int 0, .int 0, .null, .int 0, .long 0])), (q8_1, .inl (K 0, 288, .inl (fun _ => 0))), (q17_2, .inl (K 0, 1728, .inl (fun _ => 0))), (q25_3, .inl (K 0, 60, .inl (fun _ => 0))), (q33_4, .inl (K 0, 96, .inl (fun _ => 0)))]) H := hP
  have hD : va_D A ([(h0, .inr (4, [.int 0, .ref q8_1, .ref q17_2, .int 0, .ref q25_3, .int 0, .ref q33_4, .int 0, .int 0, .int 0, .null, .int 0, .long 0])), (q8_1, .inl (K 0, 288, .inl (fun _ => 0))), (q17_2, .inl (K 0, 1728, .inl (fun _ => 0))), (q25_3, .inl (K 0, 60, .inl (fun _ => 0))), (q33_4, .inl (K 0, 96, .inl (fun _ => 0)))]) := hD
  refine lv_aload_n hx hb dX4_init_38 rfl (lv_at hl 0 rfl) ?_
  refine lv_bipush (v := nI 80) hx hb dX4_init_39 (by decide) ?_
  refine nv_newa (n := 80) hx hb ArrI hE hP hD hS hA (by decide) ⟨Nat.le_of_ble_eq_true rfl, Nat.le_of_ble_eq_true rfl⟩ dX4_init_41 (fun q41_5 H hP hD hS => ?_)
  have hP : va_P D vwCl ([(h0, .inr (4, [.int 0, .ref q8_1, .ref q17_2, .int 0, .ref q25_3, .int 0, .ref q33_4, .int 0, .int 0, .int 0, .null, .int 0, .long 0])), (q8_1, .inl (K 0, 288, .inl (fun _ => 0))), (q17_2, .inl (K 0, 1728, .inl (fun _ => 0))), (q25_3, .inl (K 0, 60, .inl (fun _ => 0))), (q33_4, .inl (K 0, 96, .inl (fun _ => 0))), (q41_5, .inl (K 0, 80, .inl (fun _ => 0)))]) H := hP
  have hD : va_D A ([(h0, .inr (4, [.int 0, .ref q8_1, .ref q17_2, .int 0, .ref q25_3, .int 0, .ref q33_4, .int 0, .int 0, .int 0, .null, .int 0, .long 0])), (q8_1, .inl (K 0, 288, .inl (fun _ => 0))), (q17_2, .inl (K 0, 1728, .inl (fun _ => 0))), (q25_3, .inl (K 0, 60, .inl (fun _ => 0))), (q33_4, .inl (K 0, 96, .inl (fun _ => 0))), (q41_5, .inl (K 0, 80, .inl (fun _ => 0)))]) := hD
  refine va_putF (D := D) (ci := 4) (v := .ref q41_5) (ty := .array .int) (C := RX4) (T := TX4) (N := 13) hx hb hts inX4 tyX4 tyX4_ok nmX4 hown hE.1 hP hD hS 0 rfl rfl 10 (by decide) F22 (fun _ h9 => h9) rfl (hin rfl) rfl (by decide +kernel) rfl rfl (Nat.le_of_ble_eq_true rfl) dX4_init_43 (fun H locs hP hD hS => ?_)
  have hP : va_P D vwCl ([(h0, .inr (4, [.int 0, .ref q8_1, .ref q17_2, .int 0, .ref q25_3, .int 0, .ref q33_4, .int 0, .int 0, .int 0, .ref q41_5, .int 0, .long 0])), (q8_1, .inl (K 0, 288, .inl (fun _ => 0))), (q17_2, .inl (K 0, 1728, .inl (fun _ => 0))), (q25_3, .inl (K 0, 60, .inl (fun _ => 0))), (q33_4, .inl (K 0, 96, .inl (fun _ => 0))), (q41_5, .inl (K 0, 80, .inl (fun _ => 0)))]) H := hP
  have hD : va_D A ([(h0, .inr (4, [.int 0, .ref q8_1, .ref q17_2, .int 0, .ref q25_3, .int 0, .ref q33_4, .int 0, .int 0, .int 0, .ref q41_5, .int 0, .long 0])), (q8_1, .inl (K 0, 288, .inl (fun _ => 0))), (q17_2, .inl (K 0, 1728, .inl (fun _ => 0))), (q25_3, .inl (K 0, 60, .inl (fun _ => 0))), (q33_4, .inl (K 0, 96, .inl (fun _ => 0))), (q41_5, .inl (K 0, 80, .inl (fun _ => 0)))]) := hD
  refine lv_aload_n hx hb dX4_init_46 rfl (lv_at hl 0 rfl) ?_
  refine va_get (D := D) (ci := 4) (v := .ref q8_1) (C := RX4) (T := TX4) (N := 13) hx hb hts inX4 hown hE.1 hP 0 rfl rfl 1 (by decide) F7 (fun _ h9 => h9) rfl dX4_init_47 ?_
  refine lv_iconst (v := nI 0) hx hb dX4_init_50 (by decide) ?_
  refine lv_iconst (v := nI 2) hx hb dX4_init_51 (by decide) ?_
  refine va_iast hx hb hE.1 hP hD hS 1 0 rfl rfl (pk_in 0 288 (by omega)) dX4_init_52 (fun H locs hP hD hS => ?_)
  rw [pk_cl 0] at hP hD
  have hP : va_P D vwCl ([(h0, .inr (4, [.int 0, .ref q8_1, .ref q17_2, .int 0, .ref q25_3, .int 0, .ref q33_4, .int 0, .int 0, .int 0, .ref q41_5, .int 0, .long 0])), (q8_1, .inl (K 0, 288, .inl (upd (fun _ => 0) 0 (nI 2)))), (q17_2, .inl (K 0, 1728, .inl (fun _ => 0))), (q25_3, .inl (K 0, 60, .inl (fun _ => 0))), (q33_4, .inl (K 0, 96, .inl (fun _ => 0))), (q41_5, .inl (K 0, 80, .inl (fun _ => 0)))]) H := hP
  have hD : va_D A ([(h0, .inr (4, [.int 0, .ref q8_1, .ref q17_2, .int 0, .ref q25_3, .int 0, .ref q33_4, .int 0, .int 0, .int 0, .ref q41_5, .int 0, .long 0])), (q8_1, .inl (K 0, 288, .inl (upd (fun _ => 0) 0 (nI 2)))), (q17_2, .inl (K 0, 1728, .inl (fun _ => 0))), (q25_3, .inl (K 0, 60, .inl (fun _ => 0))), (q33_4, .inl (K 0, 96, .inl (fun _ => 0))), (q41_5, .inl (K 0, 80, .inl (fun _ => 0)))]) := hD
  refine lv_aload_n hx hb dX4_init_53 rfl (lv_at hl 0 rfl) ?_
  refine va_get (D := D) (ci := 4) (v := .ref q8_1) (C := RX4) (T := TX4) (N := 13) hx hb hts inX4 hown hE.1 hP 0 rfl rfl 1 (by decide) F7 (fun _ h9 => h9) rfl dX4_init_54 ?_
  refine lv_iconst (v := nI 1) hx hb dX4_init_57 (by decide) ?_
  refine lv_iconst (v := nI 2) hx hb dX4_init_58 (by decide) ?_
  refine va_iast hx hb hE.1 hP hD hS 1 0 rfl rfl (pk_in 1 288 (by omega)) dX4_init_59 (fun H locs hP hD hS => ?_)
  rw [pk_cl 1] at hP hD
  have hP : va_P D vwCl ([(h0, .inr (4, [.int 0, .ref q8_1, .ref q17_2, .int 0, .ref q25_3, .int 0, .ref q33_4, .int 0, .int 0, .int 0, .ref q41_5, .int 0, .long 0])), (q8_1, .inl (K 0, 288, .inl (upd (upd (fun _ => 0) 0 (nI 2)) 1 (nI 2)))), (q17_2, .inl (K 0, 1728, .inl (fun _ => 0))), (q25_3, .inl (K 0, 60, .inl (fun _ => 0))), (q33_4, .inl (K 0, 96, .inl (fun _ => 0))), (q41_5, .inl (K 0, 80, .inl (fun _ => 0)))]) H := hP
  have hD : va_D A ([(h0, .inr (4, [.int 0, .ref q8_1, .ref q17_2, .int 0, .ref q25_3, .int 0, .ref q33_4, .int 0, .int 0, .int 0, .ref q41_5, .int 0, .long 0])), (q8_1, .inl (K 0, 288, .inl (upd (upd (fun _ => 0) 0 (nI 2)) 1 (nI 2)))), (q17_2, .inl (K 0, 1728, .inl (fun _ => 0))), (q25_3, .inl (K 0, 60, .inl (fun _ => 0))), (q33_4, .inl (K 0, 96, .inl (fun _ => 0))), (q41_5, .inl (K 0, 80, .inl (fun _ => 0)))]) := hD
  refine lv_aload_n hx hb dX4_init_60 rfl (lv_at hl 0 rfl) ?_
  refine va_get (D := D) (ci := 4) (v := .ref q8_1) (C := RX4) (T := TX4) (N := 13) hx hb hts inX4 hown hE.1 hP 0 rfl rfl 1 (by decide) F7 (fun _ h9 => h9) rfl dX4_init_61 ?_
  refine lv_iconst (v := nI 2) hx hb dX4_init_64 (by decide) ?_
  refine lv_iconst (v := nI 1) hx hb dX4_init_65 (by decide) ?_
  refine va_iast hx hb hE.1 hP hD hS 1 0 rfl rfl (pk_in 2 288 (by omega)) dX4_init_66 (fun H locs hP hD hS => ?_)
  rw [pk_cl 2] at hP hD
  have hP : va_P D vwCl ([(h0, .inr (4, [.int 0, .ref q8_1, .ref q17_2, .int 0, .ref q25_3, .int 0, .ref q33_4, .int 0, .int 0, .int 0, .ref q41_5, .int 0, .long 0])), (q8_1, .inl (K 0, 288, .inl (upd (upd (upd (fun _ => 0) 0 (nI 2)) 1 (nI 2)) 2 (nI 1)))), (q17_2, .inl (K 0, 1728, .inl (fun _ => 0))), (q25_3, .inl (K 0, 60, .inl (fun _ => 0))), (q33_4, .inl (K 0, 96, .inl (fun _ => 0))), (q41_5, .inl (K 0, 80, .inl (fun _ => 0)))]) H := hP
  have hD : va_D A ([(h0, .inr (4, [.int 0, .ref q8_1, .ref q17_2, .int 0, .ref q25_3, .int 0, .ref q33_4, .int 0, .int 0, .int 0, .ref q41_5, .int 0, .long 0])), (q8_1, .inl (K 0, 288, .inl (upd (upd (upd (fun _ => 0) 0 (nI 2)) 1 (nI 2)) 2 (nI 1)))), (q17_2, .inl (K 0, 1728, .inl (fun _ => 0))), (q25_3, .inl (K 0, 60, .inl (fun _ => 0))), (q33_4, .inl (K 0, 96, .inl (fun _ => 0))), (q41_5, .inl (K 0, 80, .inl (fun _ => 0)))]) := hD
  refine lv_iconst (v := nI 0) hx hb dX4_init_67 (by decide) ?_
  refine lv_istore_n (lv' := [(1, .int (nI 0)), (0, .ref h0)]) hx hb dX4_init_68 rfl hl (by decide) rfl (fun ls hl => ?_)
  have loop_1 : ∀ (n_69 : Nat) (i : Nat), (i ≤ 80) → (80 - i) < n_69 → ∀ (H : Heap) (locs : List Loc), va_P D vwCl ([(h0, .inr (4, [.int 0, .ref q8_1, .ref q17_2, .int 0, .ref q25_3, .int 0, .ref q33_4, .int 0, .int 0, .int 0, .ref q41_5, .int 0, .long 0])), (q8_1, .inl (K 0, 288, .inl (flN 164 i (-1) (upd (upd (upd (fun _ => 0) 0 (nI 2)) 1 (nI 2)) 2 (nI 1))))), (q17_2, .inl (K 0, 1728, .inl (fun _ => 0))), (q25_3, .inl (K 0, 60, .inl (fun _ => 0))), (q33_4, .inl (K 0, 96, .inl (fun _ => 0))), (q41_5, .inl (K 0, 80, .inl (fun _ => 0)))]) H → va_D A ([(h0, .inr (4, [.int 0, .ref q8_1, .ref q17_2, .int 0, .ref q25_3, .int 0, .ref q33_4, .int 0, .int 0, .int 0, .ref q41_5, .int 0, .long 0])), (q8_1, .inl (K 0, 288, .inl (flN 164 i (-1) (upd (upd (upd (fun _ => 0) 0 (nI 2)) 1 (nI 2)) 2 (nI 1))))), (q17_2, .inl (K 0, 1728, .inl (fun _ => 0))), (q25_3, .inl (K 0, 60, .inl (fun _ => 0))), (q33_4, .inl (K 0, 96, .inl (fun _ => 0))), (q41_5, .inl (K 0, 80, .inl (fun _ => 0)))]) → va_S A st.heap H locs →  ∀ x_1 : Int32, x_1 = nI i → ∀ ls : Array Slot, lv_has ls 2 [(0, .ref h0), (1, .int x_1)] → W pr l en (headSpec wsX4_init ({ frames := 2, cells := 5, slots := 2252, locals := 33 } : Room)).room st md ar bl mt co H locs 5 2252 (MQ bl (ixQ D ([(h0, .inr (4, [.int 0, .null, .null, .int 0, .null, .int 0, .null, .int 0, .int 0, .int 0, .null, .int 0, .long 0]))]) sz (fun r => refO (at0 h0 r) (nI 0) (nI 0) (nI 0) (nI 0) (nI 0) (nI 0) (nI 0) 0 :: zC K (at0 h0 r) T0 :: sC K (at0 h0 r) (fun _ => 0) :: bC K (at0 h0 r) (fun _ => 0) :: pC K (at0 h0 r) (fun _ => 0) :: fC K (at0 h0 r) (fun _ => 0) :: [])) ar st 5 2252 A) (F0 md 69 ls []) := by
    intro n_69
    induction n_69 with
    | zero => intro i _ hn_69; exact absurd hn_69 (Nat.not_lt_zero _)
    | succ n_69 ih_69 =>
      intro i hi hn_69 H locs hP hD hS x_1 ex_1 ls hl
      subst ex_1
      have hl : lv_has ls 2 [(0, .ref h0), (1, .int (nI i))] := hl
      refine lv_iload_n hx hb dX4_init_69 rfl (lv_at hl 1 rfl) ?_
      refine lv_bipush (v := nI 80) hx hb dX4_init_70 (by decide) ?_
      refine nv_icmp_ge (x := i) (y := 80) (tgt := 92) hx hb dX4_init_72 (by decide) (by omega) (by decide) (fun c_2 => ?_) (fun c_2 => ?_)
      · have n_c_2 := Nat.not_lt.mpr c_2
        have e9c_2 : i = 80 := by omega
        subst e9c_2
        refine lv_iconst (v := nI 0) hx hb dX4_init_92 (by decide) ?_
        refine lv_istore_n (lv' := [(1, .int (nI 0)), (0, .ref h0)]) hx hb dX4_init_93 rfl hl (by decide) rfl (fun ls hl => ?_)
        have loop_3 : ∀ (n_94 : Nat) (i : Nat), (i ≤ 24) → (24 - i) < n_94 → ∀ (H : Heap) (locs : List Loc), va_P D vwCl ([(h0, .inr (4, [.int 0, .ref q8_1, .ref q17_2, .int 0, .ref q25_3, .int 0, .ref q33_4, .int 0, .int 0, .int 0, .ref q41_5, .int 0, .long 0])), (q8_1, .inl (K 0, 288, .inl (flN 244 i (-1) (flN 164 80 (-1) (upd (upd (upd (fun _ => 0) 0 (nI 2)) 1 (nI 2)) 2 (nI 1)))))), (q17_2, .inl (K 0, 1728, .inl (fun _ => 0))), (q25_3, .inl (K 0, 60, .inl (fun _ => 0))), (q33_4, .inl (K 0, 96, .inl (fun _ => 0))), (q41_5, .inl (K 0, 80, .inl (fun _ => 0)))]) H → va_D A ([(h0, .inr (4, [.int 0, .ref q8_1, .ref q17_2, .int 0, .ref q25_3, .int 0, .ref q33_4, .int 0, .int 0, .int 0, .ref q41_5, .int 0, .long 0])), (q8_1, .inl (K 0, 288, .inl (flN 244 i (-1) (flN 164 80 (-1) (upd (upd (upd (fun _ => 0) 0 (nI 2)) 1 (nI 2)) 2 (nI 1)))))), (q17_2, .inl (K 0, 1728, .inl (fun _ => 0))), (q25_3, .inl (K 0, 60, .inl (fun _ => 0))), (q33_4, .inl (K 0, 96, .inl (fun _ => 0))), (q41_5, .inl (K 0, 80, .inl (fun _ => 0)))]) → va_S A st.heap H locs →  ∀ x_1 : Int32, x_1 = nI i → ∀ ls : Array Slot, lv_has ls 2 [(0, .ref h0), (1, .int x_1)] → W pr l en (headSpec wsX4_init ({ frames := 2, cells := 5, slots := 2252, locals := 33 } : Room)).room st md ar bl mt co H locs 5 2252 (MQ bl (ixQ D ([(h0, .inr (4, [.int 0, .null, .null, .int 0, .null, .int 0, .null, .int 0, .int 0, .int 0, .null, .int 0, .long 0]))]) sz (fun r => refO (at0 h0 r) (nI 0) (nI 0) (nI 0) (nI 0) (nI 0) (nI 0) (nI 0) 0 :: zC K (at0 h0 r) T0 :: sC K (at0 h0 r) (fun _ => 0) :: bC K (at0 h0 r) (fun _ => 0) :: pC K (at0 h0 r) (fun _ => 0) :: fC K (at0 h0 r) (fun _ => 0) :: [])) ar st 5 2252 A) (F0 md 94 ls []) := by
          intro n_94
          induction n_94 with
          | zero => intro i _ hn_94; exact absurd hn_94 (Nat.not_lt_zero _)
          | succ n_94 ih_94 =>
            intro i hi hn_94 H locs hP hD hS x_1 ex_1 ls hl
            subst ex_1
            have hl : lv_has ls 2 [(0, .ref h0), (1, .int (nI i))] := hl
            refine lv_iload_n hx hb dX4_init_94 rfl (lv_at hl 1 rfl) ?_
            refine lv_bipush (v := nI 24) hx hb dX4_init_95 (by decide) ?_
            refine nv_icmp_ge (x := i) (y := 24) (tgt := 117) hx hb dX4_init_97 (by decide) (by omega) (by decide) (fun c_4 => ?_) (fun c_4 => ?_)
            · have n_c_4 := Nat.not_lt.mpr c_4
              have e9c_4 : i = 24 := by omega
              subst e9c_4
              refine lv_iconst (v := nI 0) hx hb dX4_init_117 (by decide) ?_
              refine lv_istore_n (lv' := [(1, .int (nI 0)), (0, .ref h0)]) hx hb dX4_init_118 rfl hl (by decide) rfl (fun ls hl => ?_)
              refine lv_iload_n hx hb dX4_init_119 rfl (lv_at hl 0 rfl) ?_
              refine lv_iconst (v := nI 4) hx hb dX4_init_120 (by decide) ?_
              refine nv_icmp_ge (x := 0) (y := 4) (tgt := 208) hx hb dX4_init_121 (by decide) (by decide) (by decide) (fun c_5 => ?_) (fun c_5 => ?_)
              · exact absurd c_5 (by decide)
              have n_c_5 := Nat.not_le.mpr c_5
              refine lv_aload_n hx hb dX4_init_124 rfl (lv_at hl 1 rfl) ?_
              refine va_get (D := D) (ci := 4) (v := .ref q8_1) (C := RX4) (T := TX4) (N := 13) hx hb hts inX4 hown hE.1 hP 0 rfl rfl 1 (by decide) F7 (fun _ h9 => h9) rfl dX4_init_125 ?_
              refine lv_bipush (v := nI 84) hx hb dX4_init_128 (by decide) ?_
              refine lv_iload_n hx hb dX4_init_130 rfl (lv_at hl 0 rfl) ?_
              refine rd_S (rest := [.int (nI 84), .ref q8_1]) ⟨hx, hb, hml, hown, hts⟩ hP hE (c_X4_depot l D K _ 0 (by omega)) (va_cwS 1 hts gX4_init_X4_depot rfl rfl rfl hn_X4_depot ⟨Nat.le_of_ble_eq_true rfl, Nat.le_of_ble_eq_true rfl⟩) rfl hl.1 rfl (Nat.le_of_ble_eq_true rfl) dX4_init_131 ⟨Nat.le_of_ble_eq_true rfl, Nat.le_of_ble_eq_true rfl⟩ ?_
              refine top_i (y := nI 0) (rfl) ?_
              have hb_6 := dep_lt 0
              refine nv_iadd (x := 84) (y := 0) hx hb dX4_init_134 ?_
              refine lv_iconst (v := nI 1) hx hb dX4_init_135 (by decide) ?_
              refine lv_iload_n hx hb dX4_init_136 rfl (lv_at hl 0 rfl) ?_
              refine nv_ishl1 (y := 0) hx hb dX4_init_137 (by omega) ?_
              refine va_iast hx hb hE.1 hP hD hS 1 0 rfl rfl (pk_in 84 288 (by omega)) dX4_init_138 (fun H locs hP hD hS => ?_)
              rw [pk_cl 84] at hP hD
              have hP : va_P D vwCl ([(h0, .inr (4, [.int 0, .ref q8_1, .ref q17_2, .int 0, .ref q25_3, .int 0, .ref q33_4, .int 0, .int 0, .int 0, .ref q41_5, .int 0, .long 0])), (q8_1, .inl (K 0, 288, .inl (upd (flN 244 24 (-1) (flN 164 80 (-1) (upd (upd (upd (fun _ => 0) 0 (nI 2)) 1 (nI 2)) 2 (nI 1)))) 84 (nI (2 ^ 0))))), (q17_2, .inl (K 0, 1728, .inl (fun _ => 0))), (q25_3, .inl (K 0, 60, .inl (fun _ => 0))), (q33_4, .inl (K 0, 96, .inl (fun _ => 0))), (q41_5, .inl (K 0, 80, .inl (fun _ => 0)))]) H := hP
              have hD : va_D A ([(h0, .inr (4, [.int 0, .ref q8_1, .ref q17_2, .int 0, .ref q25_3, .int 0, .ref q33_4, .int 0, .int 0, .int 0, .ref q41_5, .int 0, .long 0])), (q8_1, .inl (K 0, 288, .inl (upd (flN 244 24 (-1) (flN 164 80 (-1) (upd (upd (upd (fun _ => 0) 0 (nI 2)) 1 (nI 2)) 2 (nI 1)))) 84 (nI (2 ^ 0))))), (q17_2, .inl (K 0, 1728, .inl (fun _ => 0))), (q25_3, .inl (K 0, 60, .inl (fun _ => 0))), (q33_4, .inl (K 0, 96, .inl (fun _ => 0))), (q41_5, .inl (K 0, 80, .inl (fun _ => 0)))]) := hD
              refine lv_aload_n hx hb dX4_init_139 rfl (lv_at hl 1 rfl) ?_
              refine va_get (D := D) (ci := 4) (v := .ref q8_1) (C := RX4) (T := TX4) (N := 13) hx hb hts inX4 hown hE.1 hP 0 rfl rfl 1 (by decide) F7 (fun _ h9 => h9) rfl dX4_init_140 ?_
              refine lv_sipush (v := nI 164) hx hb dX4_init_143 (by decide) ?_
              refine lv_iload_n hx hb dX4_init_146 rfl (lv_at hl 0 rfl) ?_
              refine rd_S (rest := [.int (nI 164), .ref q8_1]) ⟨hx, hb, hml, hown, hts⟩ hP hE (c_X4_depot l D K _ 0 (by omega)) (va_cwS 1 hts gX4_init_X4_depot rfl rfl rfl hn_X4_depot ⟨Nat.le_of_ble_eq_true rfl, Nat.le_of_ble_eq_true rfl⟩) rfl hl.1 rfl (Nat.le_of_ble_eq_true rfl) dX4_init_147 ⟨Nat.le_of_ble_eq_true rfl, Nat.le_of_ble_eq_true rfl⟩ ?_
              refine top_i (y := nI 0) (rfl) ?_
              have hb_7 := dep_lt 0
              refine nv_iadd (x := 164) (y := 0) hx hb dX4_init_150 ?_
              refine lv_iload_n hx hb dX4_init_151 rfl (lv_at hl 0 rfl) ?_
              refine va_iast hx hb hE.1 hP hD hS 1 0 rfl rfl (pk_in 164 288 (by omega)) dX4_init_152 (fun H locs hP hD hS => ?_)
              rw [pk_cl 164] at hP hD
              have hP : va_P D vwCl ([(h0, .inr (4, [.int 0, .ref q8_1, .ref q17_2, .int 0, .ref q25_3, .int 0, .ref q33_4, .int 0, .int 0, .int 0, .ref q41_5, .int 0, .long 0])), (q8_1, .inl (K 0, 288, .inl (upd (upd (flN 244 24 (-1) (flN 164 80 (-1) (upd (upd (upd (fun _ => 0) 0 (nI 2)) 1 (nI 2)) 2 (nI 1)))) 84 (nI (2 ^ 0))) 164 (nI 0)))), (q17_2, .inl (K 0, 1728, .inl (fun _ => 0))), (q25_3, .inl (K 0, 60, .inl (fun _ => 0))), (q33_4, .inl (K 0, 96, .inl (fun _ => 0))), (q41_5, .inl (K 0, 80, .inl (fun _ => 0)))]) H := hP
              have hD : va_D A ([(h0, .inr (4, [.int 0, .ref q8_1, .ref q17_2, .int 0, .ref q25_3, .int 0, .ref q33_4, .int 0, .int 0, .int 0, .ref q41_5, .int 0, .long 0])), (q8_1, .inl (K 0, 288, .inl (upd (upd (flN 244 24 (-1) (flN 164 80 (-1) (upd (upd (upd (fun _ => 0) 0 (nI 2)) 1 (nI 2)) 2 (nI 1)))) 84 (nI (2 ^ 0))) 164 (nI 0)))), (q17_2, .inl (K 0, 1728, .inl (fun _ => 0))), (q25_3, .inl (K 0, 60, .inl (fun _ => 0))), (q33_4, .inl (K 0, 96, .inl (fun _ => 0))), (q41_5, .inl (K 0, 80, .inl (fun _ => 0)))]) := hD
              refine lv_aload_n hx hb dX4_init_153 rfl (lv_at hl 1 rfl) ?_
              refine va_get (D := D) (ci := 4) (v := .ref q8_1) (C := RX4) (T := TX4) (N := 13) hx hb hts inX4 hown hE.1 hP 0 rfl rfl 1 (by decide) F7 (fun _ h9 => h9) rfl dX4_init_154 ?_
              refine lv_sipush (v := nI 268) hx hb dX4_init_157 (by decide) ?_
              refine lv_iconst (v := nI 5) hx hb dX4_init_160 (by decide) ?_
              refine lv_iload_n hx hb dX4_init_161 rfl (lv_at hl 0 rfl) ?_
              refine nv_imul (x := 5) (y := 0) hx hb dX4_init_162 ?_
              refine nv_iadd (x := 268) (y := 0) hx hb dX4_init_163 ?_
              refine lv_iconst (v := nI 0) hx hb dX4_init_164 (by decide) ?_
              refine nv_iadd (x := 268) (y := 0) hx hb dX4_init_165 ?_
              refine lv_bipush (v := nI 20) hx hb dX4_init_166 (by decide) ?_
              refine va_iast hx hb hE.1 hP hD hS 1 0 rfl rfl (pk_in 268 288 (by omega)) dX4_init_168 (fun H locs hP hD hS => ?_)
              rw [pk_cl 268] at hP hD
              have hP : va_P D vwCl ([(h0, .inr (4, [.int 0, .ref q8_1, .ref q17_2, .int 0, .ref q25_3, .int 0, .ref q33_4, .int 0, .int 0, .int 0, .ref q41_5, .int 0, .long 0])), (q8_1, .inl (K 0, 288, .inl (upd (upd (upd (flN 244 24 (-1) (flN 164 80 (-1) (upd (upd (upd (fun _ => 0) 0 (nI 2)) 1 (nI 2)) 2 (nI 1)))) 84 (nI (2 ^ 0))) 164 (nI 0)) 268 (nI 20)))), (q17_2, .inl (K 0, 1728, .inl (fun _ => 0))), (q25_3, .inl (K 0, 60, .inl (fun _ => 0))), (q33_4, .inl (K 0, 96, .inl (fun _ => 0))), (q41_5, .inl (K 0, 80, .inl (fun _ => 0)))]) H := hP
              have hD : va_D A ([(h0, .inr (4, [.int 0, .ref q8_1, .ref q17_2, .int 0, .ref q25_3, .int 0, .ref q33_4, .int 0, .int 0, .int 0, .ref q41_5, .int 0, .long 0])), (q8_1, .inl (K 0, 288, .inl (upd (upd (upd (flN 244 24 (-1) (flN 164 80 (-1) (upd (upd (upd (fun _ => 0) 0 (nI 2)) 1 (nI 2)) 2 (nI 1)))) 84 (nI (2 ^ 0))) 164 (nI 0)) 268 (nI 20)))), (q17_2, .inl (K 0, 1728, .inl (fun _ => 0))), (q25_3, .inl (K 0, 60, .inl (fun _ => 0))), (q33_4, .inl (K 0, 96, .inl (fun _ => 0))), (q41_5, .inl (K 0, 80, .inl (fun _ => 0)))]) := hD
              refine lv_aload_n hx hb dX4_init_169 rfl (lv_at hl 1 rfl) ?_
              refine va_get (D := D) (ci := 4) (v := .ref q8_1) (C := RX4) (T := TX4) (N := 13) hx hb hts inX4 hown hE.1 hP 0 rfl rfl 1 (by decide) F7 (fun _ h9 => h9) rfl dX4_init_170 ?_
              refine lv_sipush (v := nI 268) hx hb dX4_init_173 (by decide) ?_
              refine lv_iconst (v := nI 5) hx hb dX4_init_176 (by decide) ?_
              refine lv_iload_n hx hb dX4_init_177 rfl (lv_at hl 0 rfl) ?_
              refine nv_imul (x := 5) (y := 0) hx hb dX4_init_178 ?_
              refine nv_iadd (x := 268) (y := 0) hx hb dX4_init_179 ?_
              refine lv_iconst (v := nI 1) hx hb dX4_init_180 (by decide) ?_
              refine nv_iadd (x := 268) (y := 1) hx hb dX4_init_181 ?_
              refine lv_iload_n hx hb dX4_init_182 rfl (lv_at hl 0 rfl) ?_
              refine rd_S (rest := [.int (nI 269), .ref q8_1]) ⟨hx, hb, hml, hown, hts⟩ hP hE (c_X4_depot l D K _ 0 (by omega)) (va_cwS 1 hts gX4_init_X4_depot rfl rfl rfl hn_X4_depot ⟨Nat.le_of_ble_eq_true rfl, Nat.le_of_ble_eq_true rfl⟩) rfl hl.1 rfl (Nat.le_of_ble_eq_true rfl) dX4_init_183 ⟨Nat.le_of_ble_eq_true rfl, Nat.le_of_ble_eq_true rfl⟩ ?_
              refine top_i (y := nI 0) (rfl) ?_
              have hb_8 := dep_lt 0
              refine va_iast hx hb hE.1 hP hD hS 1 0 rfl rfl (pk_in 269 288 (by omega)) dX4_init_186 (fun H locs hP hD hS => ?_)
              rw [pk_cl 269] at hP hD
              have hP : va_P D vwCl ([(h0, .inr (4, [.int 0, .ref q8_1, .ref q17_2, .int 0, .ref q25_3, .int 0, .ref q33_4, .int 0, .int 0, .int 0, .ref q41_5, .int 0, .long 0])), (q8_1, .inl (K 0, 288, .inl (upd (upd (upd (upd (flN 244 24 (-1) (flN 164 80 (-1) (upd (upd (upd (fun _ => 0) 0 (nI 2)) 1 (nI 2)) 2 (nI 1)))) 84 (nI (2 ^ 0))) 164 (nI 0)) 268 (nI 20)) 269 (nI 0)))), (q17_2, .inl (K 0, 1728, .inl (fun _ => 0))), (q25_3, .inl (K 0, 60, .inl (fun _ => 0))), (q33_4, .inl (K 0, 96, .inl (fun _ => 0))), (q41_5, .inl (K 0, 80, .inl (fun _ => 0)))]) H := hP
              have hD : va_D A ([(h0, .inr (4, [.int 0, .ref q8_1, .ref q17_2, .int 0, .ref q25_3, .int 0, .ref q33_4, .int 0, .int 0, .int 0, .ref q41_5, .int 0, .long 0])), (q8_1, .inl (K 0, 288, .inl (upd (upd (upd (upd (flN 244 24 (-1) (flN 164 80 (-1) (upd (upd (upd (fun _ => 0) 0 (nI 2)) 1 (nI 2)) 2 (nI 1)))) 84 (nI (2 ^ 0))) 164 (nI 0)) 268 (nI 20)) 269 (nI 0)))), (q17_2, .inl (K 0, 1728, .inl (fun _ => 0))), (q25_3, .inl (K 0, 60, .inl (fun _ => 0))), (q33_4, .inl (K 0, 96, .inl (fun _ => 0))), (q41_5, .inl (K 0, 80, .inl (fun _ => 0)))]) := hD
              refine lv_aload_n hx hb dX4_init_187 rfl (lv_at hl 1 rfl) ?_
              refine va_get (D := D) (ci := 4) (v := .ref q8_1) (C := RX4) (T := TX4) (N := 13) hx hb hts inX4 hown hE.1 hP 0 rfl rfl 1 (by decide) F7 (fun _ h9 => h9) rfl dX4_init_188 ?_
              refine lv_sipush (v := nI 268) hx hb dX4_init_191 (by decide) ?_
              refine lv_iconst (v := nI 5) hx hb dX4_init_194 (by decide) ?_
              refine lv_iload_n hx hb dX4_init_195 rfl (lv_at hl 0 rfl) ?_
              refine nv_imul (x := 5) (y := 0) hx hb dX4_init_196 ?_
              refine nv_iadd (x := 268) (y := 0) hx hb dX4_init_197 ?_
              refine lv_iconst (v := nI 2) hx hb dX4_init_198 (by decide) ?_
              refine nv_iadd (x := 268) (y := 2) hx hb dX4_init_199 ?_
              refine lv_iconst (v := -1) hx hb dX4_init_200 (by decide) ?_
              refine va_iast hx hb hE.1 hP hD hS 1 0 rfl rfl (pk_in 270 288 (by omega)) dX4_init_201 (fun H locs hP hD hS => ?_)
              rw [pk_cl 270] at hP hD
              have hP : va_P D vwCl ([(h0, .inr (4, [.int 0, .ref q8_1, .ref q17_2, .int 0, .ref q25_3, .int 0, .ref q33_4, .int 0, .int 0, .int 0, .ref q41_5, .int 0, .long 0])), (q8_1, .inl (K 0, 288, .inl (upd (upd (upd (upd (upd (flN 244 24 (-1) (flN 164 80 (-1) (upd (upd (upd (fun _ => 0) 0 (nI 2)) 1 (nI 2)) 2 (nI 1)))) 84 (nI (2 ^ 0))) 164 (nI 0)) 268 (nI 20)) 269 (nI 0)) 270 (-1)))), (q17_2, .inl (K 0, 1728, .inl (fun _ => 0))), (q25_3, .inl (K 0, 60, .inl (fun _ => 0))), (q33_4, .inl (K 0, 96, .inl (fun _ => 0))), (q41_5, .inl (K 0, 80, .inl (fun _ => 0)))]) H := hP
              have hD : va_D A ([(h0, .inr (4, [.int 0, .ref q8_1, .ref q17_2, .int 0, .ref q25_3, .int 0, .ref q33_4, .int 0, .int 0, .int 0, .ref q41_5, .int 0, .long 0])), (q8_1, .inl (K 0, 288, .inl (upd (upd (upd (upd (upd (flN 244 24 (-1) (flN 164 80 (-1) (upd (upd (upd (fun _ => 0) 0 (nI 2)) 1 (nI 2)) 2 (nI 1)))) 84 (nI (2 ^ 0))) 164 (nI 0)) 268 (nI 20)) 269 (nI 0)) 270 (-1)))), (q17_2, .inl (K 0, 1728, .inl (fun _ => 0))), (q25_3, .inl (K 0, 60, .inl (fun _ => 0))), (q33_4, .inl (K 0, 96, .inl (fun _ => 0))), (q41_5, .inl (K 0, 80, .inl (fun _ => 0)))]) := hD
              refine lv_iinc (v := nI 1) (lv' := [(1, .int (nI 1)), (0, .ref h0)]) hx hb dX4_init_202 hl (k := 0) rfl (nI_add _ 1) (by decide) rfl (fun ls hl => ?_)
              refine lv_goto (tgt := 119) hx hb dX4_init_205 (by decide) ?_
              refine lv_iload_n hx hb dX4_init_119 rfl (lv_at hl 0 rfl) ?_
              refine lv_iconst (v := nI 4) hx hb dX4_init_120 (by decide) ?_
              refine nv_icmp_ge (x := 1) (y := 4) (tgt := 208) hx hb dX4_init_121 (by decide) (by decide) (by decide) (fun c_9 => ?_) (fun c_9 => ?_)
              · exact absurd c_9 (by decide)
              have n_c_9 := Nat.not_le.mpr c_9
              refine lv_aload_n hx hb dX4_init_124 rfl (lv_at hl 1 rfl) ?_
              refine va_get (D := D) (ci := 4) (v := .ref q8_1) (C := RX4) (T := TX4) (N := 13) hx hb hts inX4 hown hE.1 hP 0 rfl rfl 1 (by decide) F7 (fun _ h9 => h9) rfl dX4_init_125 ?_
              refine lv_bipush (v := nI 84) hx hb dX4_init_128 (by decide) ?_
              refine lv_iload_n hx hb dX4_init_130 rfl (lv_at hl 0 rfl) ?_
              refine rd_S (rest := [.int (nI 84), .ref q8_1]) ⟨hx, hb, hml, hown, hts⟩ hP hE (c_X4_depot l D K _ 1 (by omega)) (va_cwS 1 hts gX4_init_X4_depot rfl rfl rfl hn_X4_depot ⟨Nat.le_of_ble_eq_true rfl, Nat.le_of_ble_eq_true rfl⟩) rfl hl.1 rfl (Nat.le_of_ble_eq_true rfl) dX4_init_131 ⟨Nat.le_of_ble_eq_true rfl, Nat.le_of_ble_eq_true rfl⟩ ?_
              refine top_i (y := nI 9) (rfl) ?_
              have hb_10 := dep_lt 1
              refine nv_iadd (x := 84) (y := 9) hx hb dX4_init_134 ?_
              refine lv_iconst (v := nI 1) hx hb dX4_init_135 (by decide) ?_
              refine lv_iload_n hx hb dX4_init_136 rfl (lv_at hl 0 rfl) ?_
              refine nv_ishl1 (y := 1) hx hb dX4_init_137 (by omega) ?_
              refine va_iast hx hb hE.1 hP hD hS 1 0 rfl rfl (pk_in 93 288 (by omega)) dX4_init_138 (fun H locs hP hD hS => ?_)
              rw [pk_cl 93] at hP hD
              have hP : va_P D vwCl ([(h0, .inr (4, [.int 0, .ref q8_1, .ref q17_2, .int 0, .ref q25_3, .int 0, .ref q33_4, .int 0, .int 0, .int 0, .ref q41_5, .int 0, .long 0])), (q8_1, .inl (K 0, 288, .inl (upd (upd (upd (upd (upd (upd (flN 244 24 (-1) (flN 164 80 (-1) (upd (upd (upd (fun _ => 0) 0 (nI 2)) 1 (nI 2)) 2 (nI 1)))) 84 (nI (2 ^ 0))) 164 (nI 0)) 268 (nI 20)) 269 (nI 0)) 270 (-1)) 93 (nI (2 ^ 1))))), (q17_2, .inl (K 0, 1728, .inl (fun _ => 0))), (q25_3, .inl (K 0, 60, .inl (fun _ => 0))), (q33_4, .inl (K 0, 96, .inl (fun _ => 0))), (q41_5, .inl (K 0, 80, .inl (fun _ => 0)))]) H := hP
              have hD : va_D A ([(h0, .inr (4, [.int 0, .ref q8_1, .ref q17_2, .int 0, .ref q25_3, .int 0, .ref q33_4, .int 0, .int 0, .int 0, .ref q41_5, .int 0, .long 0])), (q8_1, .inl (K 0, 288, .inl (upd (upd (upd (upd (upd (upd (flN 244 24 (-1) (flN 164 80 (-1) (upd (upd (upd (fun _ => 0) 0 (nI 2)) 1 (nI 2)) 2 (nI 1)))) 84 (nI (2 ^ 0))) 164 (nI 0)) 268 (nI 20)) 269 (nI 0)) 270 (-1)) 93 (nI (2 ^ 1))))), (q17_2, .inl (K 0, 1728, .inl (fun _ => 0))), (q25_3, .inl (K 0, 60, .inl (fun _ => 0))), (q33_4, .inl (K 0, 96, .inl (fun _ => 0))), (q41_5, .inl (K 0, 80, .inl (fun _ => 0)))]) := hD
              refine lv_aload_n hx hb dX4_init_139 rfl (lv_at hl 1 rfl) ?_
              refine va_get (D := D) (ci := 4) (v := .ref q8_1) (C := RX4) (T := TX4) (N := 13) hx hb hts inX4 hown hE.1 hP 0 rfl rfl 1 (by decide) F7 (fun _ h9 => h9) rfl dX4_init_140 ?_
              refine lv_sipush (v := nI 164) hx hb dX4_init_143 (by decide) ?_
              refine lv_iload_n hx hb dX4_init_146 rfl (lv_at hl 0 rfl) ?_
              refine rd_S (rest := [.int (nI 164), .ref q8_1]) ⟨hx, hb, hml, hown, hts⟩ hP hE (c_X4_depot l D K _ 1 (by omega)) (va_cwS 1 hts gX4_init_X4_depot rfl rfl rfl hn_X4_depot ⟨Nat.le_of_ble_eq_true rfl, Nat.le_of_ble_eq_true rfl⟩) rfl hl.1 rfl (Nat.le_of_ble_eq_true rfl) dX4_init_147 ⟨Nat.le_of_ble_eq_true rfl, Nat.le_of_ble_eq_true rfl⟩ ?_
              refine top_i (y := nI 9) (rfl) ?_
              have hb_11 := dep_lt 1
              refine nv_iadd (x := 164) (y := 9) hx hb dX4_init_150 ?_
              refine lv_iload_n hx hb dX4_init_151 rfl (lv_at hl 0 rfl) ?_
              refine va_iast hx hb hE.1 hP hD hS 1 0 rfl rfl (pk_in 173 288 (by omega)) dX4_init_152 (fun H locs hP hD hS => ?_)
              rw [pk_cl 173] at hP hD
              have hP : va_P D vwCl ([(h0, .inr (4, [.int 0, .ref q8_1, .ref q17_2, .int 0, .ref q25_3, .int 0, .ref q33_4, .int 0, .int 0, .int 0, .ref q41_5, .int 0, .long 0])), (q8_1, .inl (K 0, 288, .inl (upd (upd (upd (upd (upd (upd (upd (flN 244 24 (-1) (flN 164 80 (-1) (upd (upd (upd (fun _ => 0) 0 (nI 2)) 1 (nI 2)) 2 (nI 1)))) 84 (nI (2 ^ 0))) 164 (nI 0)) 268 (nI 20)) 269 (nI 0)) 270 (-1)) 93 (nI (2 ^ 1))) 173 (nI 1)))), (q17_2, .inl (K 0, 1728, .inl (fun _ => 0))), (q25_3, .inl (K 0, 60, .inl (fun _ => 0))), (q33_4, .inl (K 0, 96, .inl (fun _ => 0))), (q41_5, .inl (K 0, 80, .inl (fun _ => 0)))]) H := hP
              have hD : va_D A ([(h0, .inr (4, [.int 0, .ref q8_1, .ref q17_2, .int 0, .ref q25_3, .int 0, .ref q33_4, .int 0, .int 0, .int 0, .ref q41_5, .int 0, .long 0])), (q8_1, .inl (K 0, 288, .inl (upd (upd (upd (upd (upd (upd (upd (flN 244 24 (-1) (flN 164 80 (-1) (upd (upd (upd (fun _ => 0) 0 (nI 2)) 1 (nI 2)) 2 (nI 1)))) 84 (nI (2 ^ 0))) 164 (nI 0)) 268 (nI 20)) 269 (nI 0)) 270 (-1)) 93 (nI (2 ^ 1))) 173 (nI 1)))), (q17_2, .inl (K 0, 1728, .inl (fun _ => 0))), (q25_3, .inl (K 0, 60, .inl (fun _ => 0))), (q33_4, .inl (K 0, 96, .inl (fun _ => 0))), (q41_5, .inl (K 0, 80, .inl (fun _ => 0)))]) := hD
              refine lv_aload_n hx hb dX4_init_153 rfl (lv_at hl 1 rfl) ?_
              refine va_get (D := D) (ci := 4) (v := .ref q8_1) (C := RX4) (T := TX4) (N := 13) hx hb hts inX4 hown hE.1 hP 0 rfl rfl 1 (by decide) F7 (fun _ h9 => h9) rfl dX4_init_154 ?_
              refine lv_sipush (v := nI 268) hx hb dX4_init_157 (by decide) ?_
              refine lv_iconst (v := nI 5) hx hb dX4_init_160 (by decide) ?_
              refine lv_iload_n hx hb dX4_init_161 rfl (lv_at hl 0 rfl) ?_
              refine nv_imul (x := 5) (y := 1) hx hb dX4_init_162 ?_
              refine nv_iadd (x := 268) (y := 5) hx hb dX4_init_163 ?_
              refine lv_iconst (v := nI 0) hx hb dX4_init_164 (by decide) ?_
              refine nv_iadd (x := 273) (y := 0) hx hb dX4_init_165 ?_
              refine lv_bipush (v := nI 20) hx hb dX4_init_166 (by decide) ?_
              refine va_iast hx hb hE.1 hP hD hS 1 0 rfl rfl (pk_in 273 288 (by omega)) dX4_init_168 (fun H locs hP hD hS => ?_)
              rw [pk_cl 273] at hP hD
              have hP : va_P D vwCl ([(h0, .inr (4, [.int 0, .ref q8_1, .ref q17_2, .int 0, .ref q25_3, .int 0, .ref q33_4, .int 0, .int 0, .int 0, .ref q41_5, .int 0, .long 0])), (q8_1, .inl (K 0, 288, .inl (upd (upd (upd (upd (upd (upd (upd (upd (flN 244 24 (-1) (flN 164 80 (-1) (upd (upd (upd (fun _ => 0) 0 (nI 2)) 1 (nI 2)) 2 (nI 1)))) 84 (nI (2 ^ 0))) 164 (nI 0)) 268 (nI 20)) 269 (nI 0)) 270 (-1)) 93 (nI (2 ^ 1))) 173 (nI 1)) 273 (nI 20)))), (q17_2, .inl (K 0, 1728, .inl (fun _ => 0))), (q25_3, .inl (K 0, 60, .inl (fun _ => 0))), (q33_4, .inl (K 0, 96, .inl (fun _ => 0))), (q41_5, .inl (K 0, 80, .inl (fun _ => 0)))]) H := hP
              have hD : va_D A ([(h0, .inr (4, [.int 0, .ref q8_1, .ref q17_2, .int 0, .ref q25_3, .int 0, .ref q33_4, .int 0, .int 0, .int 0, .ref q41_5, .int 0, .long 0])), (q8_1, .inl (K 0, 288, .inl (upd (upd (upd (upd (upd (upd (upd (upd (flN 244 24 (-1) (flN 164 80 (-1) (upd (upd (upd (fun _ => 0) 0 (nI 2)) 1 (nI 2)) 2 (nI 1)))) 84 (nI (2 ^ 0))) 164 (nI 0)) 268 (nI 20)) 269 (nI 0)) 270 (-1)) 93 (nI (2 ^ 1))) 173 (nI 1)) 273 (nI 20)))), (q17_2, .inl (K 0, 1728, .inl (fun _ => 0))), (q25_3, .inl (K 0, 60, .inl (fun _ => 0))), (q33_4, .inl (K 0, 96, .inl (fun _ => 0))), (q41_5, .inl (K 0, 80, .inl (fun _ => 0)))]) := hD
              refine lv_aload_n hx hb dX4_init_169 rfl (lv_at hl 1 rfl) ?_
              refine va_get (D := D) (ci := 4) (v := .ref q8_1) (C := RX4) (T := TX4) (N := 13) hx hb hts inX4 hown hE.1 hP 0 rfl rfl 1 (by decide) F7 (fun _ h9 => h9) rfl dX4_init_170 ?_
              refine lv_sipush (v := nI 268) hx hb dX4_init_173 (by decide) ?_
              refine lv_iconst (v := nI 5) hx hb dX4_init_176 (by decide) ?_
              refine lv_iload_n hx hb dX4_init_177 rfl (lv_at hl 0 rfl) ?_
              refine nv_imul (x := 5) (y := 1) hx hb dX4_init_178 ?_
              refine nv_iadd (x := 268) (y := 5) hx hb dX4_init_179 ?_
              refine lv_iconst (v := nI 1) hx hb dX4_init_180 (by decide) ?_
              refine nv_iadd (x := 273) (y := 1) hx hb dX4_init_181 ?_
              refine lv_iload_n hx hb dX4_init_182 rfl (lv_at hl 0 rfl) ?_
              refine rd_S (rest := [.int (nI 274), .ref q8_1]) ⟨hx, hb, hml, hown, hts⟩ hP hE (c_X4_depot l D K _ 1 (by omega)) (va_cwS 1 hts gX4_init_X4_depot rfl rfl rfl hn_X4_depot ⟨Nat.le_of_ble_eq_true rfl, Nat.le_of_ble_eq_true rfl⟩) rfl hl.1 rfl (Nat.le_of_ble_eq_true rfl) dX4_init_183 ⟨Nat.le_of_ble_eq_true rfl, Nat.le_of_ble_eq_true rfl⟩ ?_
              refine top_i (y := nI 9) (rfl) ?_
              have hb_12 := dep_lt 1
              refine va_iast hx hb hE.1 hP hD hS 1 0 rfl rfl (pk_in 274 288 (by omega)) dX4_init_186 (fun H locs hP hD hS => ?_)
              rw [pk_cl 274] at hP hD
              have hP : va_P D vwCl ([(h0, .inr (4, [.int 0, .ref q8_1, .ref q17_2, .int 0, .ref q25_3, .int 0, .ref q33_4, .int 0, .int 0, .int 0, .ref q41_5, .int 0, .long 0])), (q8_1, .inl (K 0, 288, .inl (upd (upd (upd (upd (upd (upd (upd (upd (upd (flN 244 24 (-1) (flN 164 80 (-1) (upd (upd (upd (fun _ => 0) 0 (nI 2)) 1 (nI 2)) 2 (nI 1)))) 84 (nI (2 ^ 0))) 164 (nI 0)) 268 (nI 20)) 269 (nI 0)) 270 (-1)) 93 (nI (2 ^ 1))) 173 (nI 1)) 273 (nI 20)) 274 (nI 9)))), (q17_2, .inl (K 0, 1728, .inl (fun _ => 0))), (q25_3, .inl (K 0, 60, .inl (fun _ => 0))), (q33_4, .inl (K 0, 96, .inl (fun _ => 0))), (q41_5, .inl (K 0, 80, .inl (fun _ => 0)))]) H := hP
              have hD : va_D A ([(h0, .inr (4, [.int 0, .ref q8_1, .ref q17_2, .int 0, .ref q25_3, .int 0, .ref q33_4, .int 0, .int 0, .int 0, .ref q41_5, .int 0, .long 0])), (q8_1, .inl (K 0, 288, .inl (upd (upd (upd (upd (upd (upd (upd (upd (upd (flN 244 24 (-1) (flN 164 80 (-1) (upd (upd (upd (fun _ => 0) 0 (nI 2)) 1 (nI 2)) 2 (nI 1)))) 84 (nI (2 ^ 0))) 164 (nI 0)) 268 (nI 20)) 269 (nI 0)) 270 (-1)) 93 (nI (2 ^ 1))) 173 (nI 1)) 273 (nI 20)) 274 (nI 9)))), (q17_2, .inl (K 0, 1728, .inl (fun _ => 0))), (q25_3, .inl (K 0, 60, .inl (fun _ => 0))), (q33_4, .inl (K 0, 96, .inl (fun _ => 0))), (q41_5, .inl (K 0, 80, .inl (fun _ => 0)))]) := hD
              refine lv_aload_n hx hb dX4_init_187 rfl (lv_at hl 1 rfl) ?_
              refine va_get (D := D) (ci := 4) (v := .ref q8_1) (C := RX4) (T := TX4) (N := 13) hx hb hts inX4 hown hE.1 hP 0 rfl rfl 1 (by decide) F7 (fun _ h9 => h9) rfl dX4_init_188 ?_
              refine lv_sipush (v := nI 268) hx hb dX4_init_191 (by decide) ?_
              refine lv_iconst (v := nI 5) hx hb dX4_init_194 (by decide) ?_
              refine lv_iload_n hx hb dX4_init_195 rfl (lv_at hl 0 rfl) ?_
              refine nv_imul (x := 5) (y := 1) hx hb dX4_init_196 ?_
              refine nv_iadd (x := 268) (y := 5) hx hb dX4_init_197 ?_
              refine lv_iconst (v := nI 2) hx hb dX4_init_198 (by decide) ?_
              refine nv_iadd (x := 273) (y := 2) hx hb dX4_init_199 ?_
              refine lv_iconst (v := -1) hx hb dX4_init_200 (by decide) ?_
              refine va_iast hx hb hE.1 hP hD hS 1 0 rfl rfl (pk_in 275 288 (by omega)) dX4_init_201 (fun H locs hP hD hS => ?_)
              rw [pk_cl 275] at hP hD
              have hP : va_P D vwCl ([(h0, .inr (4, [.int 0, .ref q8_1, .ref q17_2, .int 0, .ref q25_3, .int 0, .ref q33_4, .int 0, .int 0, .int 0, .ref q41_5, .int 0, .long 0])), (q8_1, .inl (K 0, 288, .inl (upd (upd (upd (upd (upd (upd (upd (upd (upd (upd (flN 244 24 (-1) (flN 164 80 (-1) (upd (upd (upd (fun _ => 0) 0 (nI 2)) 1 (nI 2)) 2 (nI 1)))) 84 (nI (2 ^ 0))) 164 (nI 0)) 268 (nI 20)) 269 (nI 0)) 270 (-1)) 93 (nI (2 ^ 1))) 173 (nI 1)) 273 (nI 20)) 274 (nI 9)) 275 (-1)))), (q17_2, .inl (K 0, 1728, .inl (fun _ => 0))), (q25_3, .inl (K 0, 60, .inl (fun _ => 0))), (q33_4, .inl (K 0, 96, .inl (fun _ => 0))), (q41_5, .inl (K 0, 80, .inl (fun _ => 0)))]) H := hP
              have hD : va_D A ([(h0, .inr (4, [.int 0, .ref q8_1, .ref q17_2, .int 0, .ref q25_3, .int 0, .ref q33_4, .int 0, .int 0, .int 0, .ref q41_5, .int 0, .long 0])), (q8_1, .inl (K 0, 288, .inl (upd (upd (upd (upd (upd (upd (upd (upd (upd (upd (flN 244 24 (-1) (flN 164 80 (-1) (upd (upd (upd (fun _ => 0) 0 (nI 2)) 1 (nI 2)) 2 (nI 1)))) 84 (nI (2 ^ 0))) 164 (nI 0)) 268 (nI 20)) 269 (nI 0)) 270 (-1)) 93 (nI (2 ^ 1))) 173 (nI 1)) 273 (nI 20)) 274 (nI 9)) 275 (-1)))), (q17_2, .inl (K 0, 1728, .inl (fun _ => 0))), (q25_3, .inl (K 0, 60, .inl (fun _ => 0))), (q33_4, .inl (K 0, 96, .inl (fun _ => 0))), (q41_5, .inl (K 0, 80, .inl (fun _ => 0)))]) := hD
              refine lv_iinc (v := nI 2) (lv' := [(1, .int (nI 2)), (0, .ref h0)]) hx hb dX4_init_202 hl (k := 0) rfl (nI_add _ 1) (by decide) rfl (fun ls hl => ?_)
              refine lv_goto (tgt := 119) hx hb dX4_init_205 (by decide) ?_
              refine lv_iload_n hx hb dX4_init_119 rfl (lv_at hl 0 rfl) ?_
              refine lv_iconst (v := nI 4) hx hb dX4_init_120 (by decide) ?_
              refine nv_icmp_ge (x := 2) (y := 4) (tgt := 208) hx hb dX4_init_121 (by decide) (by decide) (by decide) (fun c_13 => ?_) (fun c_13 => ?_)
              · exact absurd c_13 (by decide)
              have n_c_13 := Nat.not_le.mpr c_13
              refine lv_aload_n hx hb dX4_init_124 rfl (lv_at hl 1 rfl) ?_
              refine va_get (D := D) (ci := 4) (v := .ref q8_1) (C := RX4) (T := TX4) (N := 13) hx hb hts inX4 hown hE.1 hP 0 rfl rfl 1 (by decide) F7 (fun _ h9 => h9) rfl dX4_init_125 ?_
              refine lv_bipush (v := nI 84) hx hb dX4_init_128 (by decide) ?_
              refine lv_iload_n hx hb dX4_init_130 rfl (lv_at hl 0 rfl) ?_
              refine rd_S (rest := [.int (nI 84), .ref q8_1]) ⟨hx, hb, hml, hown, hts⟩ hP hE (c_X4_depot l D K _ 2 (by omega)) (va_cwS 1 hts gX4_init_X4_depot rfl rfl rfl hn_X4_depot ⟨Nat.le_of_ble_eq_true rfl, Nat.le_of_ble_eq_true rfl⟩) rfl hl.1 rfl (Nat.le_of_ble_eq_true rfl) dX4_init_131 ⟨Nat.le_of_ble_eq_true rfl, Nat.le_of_ble_eq_true rfl⟩ ?_
              refine top_i (y := nI 79) (rfl) ?_
              have hb_14 := dep_lt 2
              refine nv_iadd (x := 84) (y := 79) hx hb dX4_init_134 ?_
              refine lv_iconst (v := nI 1) hx hb dX4_init_135 (by decide) ?_
              refine lv_iload_n hx hb dX4_init_136 rfl (lv_at hl 0 rfl) ?_
              refine nv_ishl1 (y := 2) hx hb dX4_init_137 (by omega) ?_
              refine va_iast hx hb hE.1 hP hD hS 1 0 rfl rfl (pk_in 163 288 (by omega)) dX4_init_138 (fun H locs hP hD hS => ?_)
              rw [pk_cl 163] at hP hD
              have hP : va_P D vwCl ([(h0, .inr (4, [.int 0, .ref q8_1, .ref q17_2, .int 0, .ref q25_3, .int 0, .ref q33_4, .int 0, .int 0, .int 0, .ref q41_5, .int 0, .long 0])), (q8_1, .inl (K 0, 288, .inl (upd (upd (upd (upd (upd (upd (upd (upd (upd (upd (upd (flN 244 24 (-1) (flN 164 80 (-1) (upd (upd (upd (fun _ => 0) 0 (nI 2)) 1 (nI 2)) 2 (nI 1)))) 84 (nI (2 ^ 0))) 164 (nI 0)) 268 (nI 20)) 269 (nI 0)) 270 (-1)) 93 (nI (2 ^ 1))) 173 (nI 1)) 273 (nI 20)) 274 (nI 9)) 275 (-1)) 163 (nI (2 ^ 2))))), (q17_2, .inl (K 0, 1728, .inl (fun _ => 0))), (q25_3, .inl (K 0, 60, .inl (fun _ => 0))), (q33_4, .inl (K 0, 96, .inl (fun _ => 0))), (q41_5, .inl (K 0, 80, .inl (fun _ => 0)))]) H := hP
              have hD : va_D A ([(h0, .inr (4, [.int 0, .ref q8_1, .ref q17_2, .int 0, .ref q25_3, .int 0, .ref q33_4, .int 0, .int 0, .int 0, .ref q41_5, .int 0, .long 0])), (q8_1, .inl (K 0, 288, .inl (upd (upd (upd (upd (upd (upd (upd (upd (upd (upd (upd (flN 244 24 (-1) (flN 164 80 (-1) (upd (upd (upd (fun _ => 0) 0 (nI 2)) 1 (nI 2)) 2 (nI 1)))) 84 (nI (2 ^ 0))) 164 (nI 0)) 268 (nI 20)) 269 (nI 0)) 270 (-1)) 93 (nI (2 ^ 1))) 173 (nI 1)) 273 (nI 20)) 274 (nI 9)) 275 (-1)) 163 (nI (2 ^ 2))))), (q17_2, .inl (K 0, 1728, .inl (fun _ => 0))), (q25_3, .inl (K 0, 60, .inl (fun _ => 0))), (q33_4, .inl (K 0, 96, .inl (fun _ => 0))), (q41_5, .inl (K 0, 80, .inl (fun _ => 0)))]) := hD
              refine lv_aload_n hx hb dX4_init_139 rfl (lv_at hl 1 rfl) ?_
              refine va_get (D := D) (ci := 4) (v := .ref q8_1) (C := RX4) (T := TX4) (N := 13) hx hb hts inX4 hown hE.1 hP 0 rfl rfl 1 (by decide) F7 (fun _ h9 => h9) rfl dX4_init_140 ?_
              refine lv_sipush (v := nI 164) hx hb dX4_init_143 (by decide) ?_
              refine lv_iload_n hx hb dX4_init_146 rfl (lv_at hl 0 rfl) ?_
              refine rd_S (rest := [.int (nI 164), .ref q8_1]) ⟨hx, hb, hml, hown, hts⟩ hP hE (c_X4_depot l D K _ 2 (by omega)) (va_cwS 1 hts gX4_init_X4_depot rfl rfl rfl hn_X4_depot ⟨Nat.le_of_ble_eq_true rfl, Nat.le_of_ble_eq_true rfl⟩) rfl hl.1 rfl (Nat.le_of_ble_eq_true rfl) dX4_init_147 ⟨Nat.le_of_ble_eq_true rfl, Nat.le_of_ble_eq_true rfl⟩ ?_
              refine top_i (y := nI 79) (rfl) ?_
              have hb_15 := dep_lt 2
              refine nv_iadd (x := 164) (y := 79) hx hb dX4_init_150 ?_
              refine lv_iload_n hx hb dX4_init_151 rfl (lv_at hl 0 rfl) ?_
              refine va_iast hx hb hE.1 hP hD hS 1 0 rfl rfl (pk_in 243 288 (by omega)) dX4_init_152 (fun H locs hP hD hS => ?_)
              rw [pk_cl 243] at hP hD
              have hP : va_P D vwCl ([(h0, .inr (4, [.int 0, .ref q8_1, .ref q17_2, .int 0, .ref q25_3, .int 0, .ref q33_4, .int 0, .int 0, .int 0, .ref q41_5, .int 0, .long 0])), (q8_1, .inl (K 0, 288, .inl (upd (upd (upd (upd (upd (upd (upd (upd (upd (upd (upd (upd (flN 244 24 (-1) (flN 164 80 (-1) (upd (upd (upd (fun _ => 0) 0 (nI 2)) 1 (nI 2)) 2 (nI 1)))) 84 (nI (2 ^ 0))) 164 (nI 0)) 268 (nI 20)) 269 (nI 0)) 270 (-1)) 93 (nI (2 ^ 1))) 173 (nI 1)) 273 (nI 20)) 274 (nI 9)) 275 (-1)) 163 (nI (2 ^ 2))) 243 (nI 2)))), (q17_2, .inl (K 0, 1728, .inl (fun _ => 0))), (q25_3, .inl (K 0, 60, .inl (fun _ => 0))), (q33_4, .inl (K 0, 96, .inl (fun _ => 0))), (q41_5, .inl (K 0, 80, .inl (fun _ => 0)))]) H := hP
              have hD : va_D A ([(h0, .inr (4, [.int 0, .ref q8_1, .ref q17_2, .int 0, .ref q25_3, .int 0, .ref q33_4, .int 0, .int 0, .int 0, .ref q41_5, .int 0, .long 0])), (q8_1, .inl (K 0, 288, .inl (upd (upd (upd (upd (upd (upd (upd (upd (upd (upd (upd (upd (flN 244 24 (-1) (flN 164 80 (-1) (upd (upd (upd (fun _ => 0) 0 (nI 2)) 1 (nI 2)) 2 (nI 1)))) 84 (nI (2 ^ 0))) 164 (nI 0)) 268 (nI 20)) 269 (nI 0)) 270 (-1)) 93 (nI (2 ^ 1))) 173 (nI 1)) 273 (nI 20)) 274 (nI 9)) 275 (-1)) 163 (nI (2 ^ 2))) 243 (nI 2)))), (q17_2, .inl (K 0, 1728, .inl (fun _ => 0))), (q25_3, .inl (K 0, 60, .inl (fun _ => 0))), (q33_4, .inl (K 0, 96, .inl (fun _ => 0))), (q41_5, .inl (K 0, 80, .inl (fun _ => 0)))]) := hD
              refine lv_aload_n hx hb dX4_init_153 rfl (lv_at hl 1 rfl) ?_
              refine va_get (D := D) (ci := 4) (v := .ref q8_1) (C := RX4) (T := TX4) (N := 13) hx hb hts inX4 hown hE.1 hP 0 rfl rfl 1 (by decide) F7 (fun _ h9 => h9) rfl dX4_init_154 ?_
              refine lv_sipush (v := nI 268) hx hb dX4_init_157 (by decide) ?_
              refine lv_iconst (v := nI 5) hx hb dX4_init_160 (by decide) ?_
              refine lv_iload_n hx hb dX4_init_161 rfl (lv_at hl 0 rfl) ?_
              refine nv_imul (x := 5) (y := 2) hx hb dX4_init_162 ?_
              refine nv_iadd (x := 268) (y := 10) hx hb dX4_init_163 ?_
              refine lv_iconst (v := nI 0) hx hb dX4_init_164 (by decide) ?_
              refine nv_iadd (x := 278) (y := 0) hx hb dX4_init_165 ?_
              refine lv_bipush (v := nI 20) hx hb dX4_init_166 (by decide) ?_
              refine va_iast hx hb hE.1 hP hD hS 1 0 rfl rfl (pk_in 278 288 (by omega)) dX4_init_168 (fun H locs hP hD hS => ?_)
              rw [pk_cl 278] at hP hD
              have hP : va_P D vwCl ([(h0, .inr (4, [.int 0, .ref q8_1, .ref q17_2, .int 0, .ref q25_3, .int 0, .ref q33_4, .int 0, .int 0, .int 0, .ref q41_5, .int 0, .long 0])), (q8_1, .inl (K 0, 288, .inl (upd (upd (upd (upd (upd (upd (upd (upd (upd (upd (upd (upd (upd (flN 244 24 (-1) (flN 164 80 (-1) (upd (upd (upd (fun _ => 0) 0 (nI 2)) 1 (nI 2)) 2 (nI 1)))) 84 (nI (2 ^ 0))) 164 (nI 0)) 268 (nI 20)) 269 (nI 0)) 270 (-1)) 93 (nI (2 ^ 1))) 173 (nI 1)) 273 (nI 20)) 274 (nI 9)) 275 (-1)) 163 (nI (2 ^ 2))) 243 (nI 2)) 278 (nI 20)))), (q17_2, .inl (K 0, 1728, .inl (fun _ => 0))), (q25_3, .inl (K 0, 60, .inl (fun _ => 0))), (q33_4, .inl (K 0, 96, .inl (fun _ => 0))), (q41_5, .inl (K 0, 80, .inl (fun _ => 0)))]) H := hP
              have hD : va_D A ([(h0, .inr (4, [.int 0, .ref q8_1, .ref q17_2, .int 0, .ref q25_3, .int 0, .ref q33_4, .int 0, .int 0, .int 0, .ref q41_5, .int 0, .long 0])), (q8_1, .inl (K 0, 288, .inl (upd (upd (upd (upd (upd (upd (upd (upd (upd (upd (upd (upd (upd (flN 244 24 (-1) (flN 164 80 (-1) (upd (upd (upd (fun _ => 0) 0 (nI 2)) 1 (nI 2)) 2 (nI 1)))) 84 (nI (2 ^ 0))) 164 (nI 0)) 268 (nI 20)) 269 (nI 0)) 270 (-1)) 93 (nI (2 ^ 1))) 173 (nI 1)) 273 (nI 20)) 274 (nI 9)) 275 (-1)) 163 (nI (2 ^ 2))) 243 (nI 2)) 278 (nI 20)))), (q17_2, .inl (K 0, 1728, .inl (fun _ => 0))), (q25_3, .inl (K 0, 60, .inl (fun _ => 0))), (q33_4, .inl (K 0, 96, .inl (fun _ => 0))), (q41_5, .inl (K 0, 80, .inl (fun _ => 0)))]) := hD
              refine lv_aload_n hx hb dX4_init_169 rfl (lv_at hl 1 rfl) ?_
              refine va_get (D := D) (ci := 4) (v := .ref q8_1) (C := RX4) (T := TX4) (N := 13) hx hb hts inX4 hown hE.1 hP 0 rfl rfl 1 (by decide) F7 (fun _ h9 => h9) rfl dX4_init_170 ?_
              refine lv_sipush (v := nI 268) hx hb dX4_init_173 (by decide) ?_
              refine lv_iconst (v := nI 5) hx hb dX4_init_176 (by decide) ?_
              refine lv_iload_n hx hb dX4_init_177 rfl (lv_at hl 0 rfl) ?_
              refine nv_imul (x := 5) (y := 2) hx hb dX4_init_178 ?_
              refine nv_iadd (x := 268) (y := 10) hx hb dX4_init_179 ?_
              refine lv_iconst (v := nI 1) hx hb dX4_init_180 (by decide) ?_
              refine nv_iadd (x := 278) (y := 1) hx hb dX4_init_181 ?_
              refine lv_iload_n hx hb dX4_init_182 rfl (lv_at hl 0 rfl) ?_
              refine rd_S (rest := [.int (nI 279), .ref q8_1]) ⟨hx, hb, hml, hown, hts⟩ hP hE (c_X4_depot l D K _ 2 (by omega)) (va_cwS 1 hts gX4_init_X4_depot rfl rfl rfl hn_X4_depot ⟨Nat.le_of_ble_eq_true rfl, Nat.le_of_ble_eq_true rfl⟩) rfl hl.1 rfl (Nat.le_of_ble_eq_true rfl) dX4_init_183 ⟨Nat.le_of_ble_eq_true rfl, Nat.le_of_ble_eq_true rfl⟩ ?_
              refine top_i (y := nI 79) (rfl) ?_
              have hb_16 := dep_lt 2
              refine va_iast hx hb hE.1 hP hD hS 1 0 rfl rfl (pk_in 279 288 (by omega)) dX4_init_186 (fun H locs hP hD hS => ?_)
              rw [pk_cl 279] at hP hD
              have hP : va_P D vwCl ([(h0, .inr (4, [.int 0, .ref q8_1, .ref q17_2, .int 0, .ref q25_3, .int 0, .ref q33_4, .int 0, .int 0, .int 0, .ref q41_5, .int 0, .long 0])), (q8_1, .inl (K 0, 288, .inl (upd (upd (upd (upd (upd (upd (upd (upd (upd (upd (upd (upd (upd (upd (flN 244 24 (-1) (flN 164 80 (-1) (upd (upd (upd (fun _ => 0) 0 (nI 2)) 1 (nI 2)) 2 (nI 1)))) 84 (nI (2 ^ 0))) 164 (nI 0)) 268 (nI 20)) 269 (nI 0)) 270 (-1)) 93 (nI (2 ^ 1))) 173 (nI 1)) 273 (nI 20)) 274 (nI 9)) 275 (-1)) 163 (nI (2 ^ 2))) 243 (nI 2)) 278 (nI 20)) 279 (nI 79)))), (q17_2, .inl (K 0, 1728, .inl (fun _ => 0))), (q25_3, .inl (K 0, 60, .inl (fun _ => 0))), (q33_4, .inl (K 0, 96, .inl (fun _ => 0))), (q41_5, .inl (K 0, 80, .inl (fun _ => 0)))]) H := hP
              have hD : va_D A ([(h0, .inr (4, [.int 0, .ref q8_1, .ref q17_2, .int 0, .ref q25_3, .int 0, .ref q33_4, .int 0, .int 0, .int 0, .ref q41_5, .int 0, .long 0])), (q8_1, .inl (K 0, 288, .inl (upd (upd (upd (upd (upd (upd (upd (upd (upd (upd (upd (upd (upd (upd (flN 244 24 (-1) (flN 164 80 (-1) (upd (upd (upd (fun _ => 0) 0 (nI 2)) 1 (nI 2)) 2 (nI 1)))) 84 (nI (2 ^ 0))) 164 (nI 0)) 268 (nI 20)) 269 (nI 0)) 270 (-1)) 93 (nI (2 ^ 1))) 173 (nI 1)) 273 (nI 20)) 274 (nI 9)) 275 (-1)) 163 (nI (2 ^ 2))) 243 (nI 2)) 278 (nI 20)) 279 (nI 79)))), (q17_2, .inl (K 0, 1728, .inl (fun _ => 0))), (q25_3, .inl (K 0, 60, .inl (fun _ => 0))), (q33_4, .inl (K 0, 96, .inl (fun _ => 0))), (q41_5, .inl (K 0, 80, .inl (fun _ => 0)))]) := hD
              refine lv_aload_n hx hb dX4_init_187 rfl (lv_at hl 1 rfl) ?_
              refine va_get (D := D) (ci := 4) (v := .ref q8_1) (C := RX4) (T := TX4) (N := 13) hx hb hts inX4 hown hE.1 hP 0 rfl rfl 1 (by decide) F7 (fun _ h9 => h9) rfl dX4_init_188 ?_
              refine lv_sipush (v := nI 268) hx hb dX4_init_191 (by decide) ?_
              refine lv_iconst (v := nI 5) hx hb dX4_init_194 (by decide) ?_
              refine lv_iload_n hx hb dX4_init_195 rfl (lv_at hl 0 rfl) ?_
              refine nv_imul (x := 5) (y := 2) hx hb dX4_init_196 ?_
              refine nv_iadd (x := 268) (y := 10) hx hb dX4_init_197 ?_
              refine lv_iconst (v := nI 2) hx hb dX4_init_198 (by decide) ?_
              refine nv_iadd (x := 278) (y := 2) hx hb dX4_init_199 ?_
              refine lv_iconst (v := -1) hx hb dX4_init_200 (by decide) ?_
              refine va_iast hx hb hE.1 hP hD hS 1 0 rfl rfl (pk_in 280 288 (by omega)) dX4_init_201 (fun H locs hP hD hS => ?_)
              rw [pk_cl 280] at hP hD
              have hP : va_P D vwCl ([(h0, .inr (4, [.int 0, .ref q8_1, .ref q17_2, .int 0, .ref q25_3, .int 0, .ref q33_4, .int 0, .int 0, .int 0, .ref q41_5, .int 0, .long 0])), (q8_1, .inl (K 0, 288, .inl (upd (upd (upd (upd (upd (upd (upd (upd (upd (upd (upd (upd (upd (upd (upd (flN 244 24 (-1) (flN 164 80 (-1) (upd (upd (upd (fun _ => 0) 0 (nI 2)) 1 (nI 2)) 2 (nI 1)))) 84 (nI (2 ^ 0))) 164 (nI 0)) 268 (nI 20)) 269 (nI 0)) 270 (-1)) 93 (nI (2 ^ 1))) 173 (nI 1)) 273 (nI 20)) 274 (nI 9)) 275 (-1)) 163 (nI (2 ^ 2))) 243 (nI 2)) 278 (nI 20)) 279 (nI 79)) 280 (-1)))), (q17_2, .inl (K 0, 1728, .inl (fun _ => 0))), (q25_3, .inl (K 0, 60, .inl (fun _ => 0))), (q33_4, .inl (K 0, 96, .inl (fun _ => 0))), (q41_5, .inl (K 0, 80, .inl (fun _ => 0)))]) H := hP
              have hD : va_D A ([(h0, .inr (4, [.int 0, .ref q8_1, .ref q17_2, .int 0, .ref q25_3, .int 0, .ref q33_4, .int 0, .int 0, .int 0, .ref q41_5, .int 0, .long 0])), (q8_1, .inl (K 0, 288, .inl (upd (upd (upd (upd (upd (upd (upd (upd (upd (upd (upd (upd (upd (upd (upd (flN 244 24 (-1) (flN 164 80 (-1) (upd (upd (upd (fun _ => 0) 0 (nI 2)) 1 (nI 2)) 2 (nI 1)))) 84 (nI (2 ^ 0))) 164 (nI 0)) 268 (nI 20)) 269 (nI 0)) 270 (-1)) 93 (nI (2 ^ 1))) 173 (nI 1)) 273 (nI 20)) 274 (nI 9)) 275 (-1)) 163 (nI (2 ^ 2))) 243 (nI 2)) 278 (nI 20)) 279 (nI 79)) 280 (-1)))), (q17_2, .inl (K 0, 1728, .inl (fun _ => 0))), (q25_3, .inl (K 0, 60, .inl (fun _ => 0))), (q33_4, .inl (K 0, 96, .inl (fun _ => 0))), (q41_5, .inl (K 0, 80, .inl (fun _ => 0)))]) := hD
              refine lv_iinc (v := nI 3) (lv' := [(1, .int (nI 3)), (0, .ref h0)]) hx hb dX4_init_202 hl (k := 0) rfl (nI_add _ 1) (by decide) rfl (fun ls hl => ?_)
              refine lv_goto (tgt := 119) hx hb dX4_init_205 (by decide) ?_
              refine lv_iload_n hx hb dX4_init_119 rfl (lv_at hl 0 rfl) ?_
              refine lv_iconst (v := nI 4) hx hb dX4_init_120 (by decide) ?_
              refine nv_icmp_ge (x := 3) (y := 4) (tgt := 208) hx hb dX4_init_121 (by decide) (by decide) (by decide) (fun c_17 => ?_) (fun c_17 => ?_)
              · exact absurd c_17 (by decide)
              have n_c_17 := Nat.not_le.mpr c_17
              refine lv_aload_n hx hb dX4_init_124 rfl (lv_at hl 1 rfl) ?_
              refine va_get (D := D) (ci := 4) (v := .ref q8_1) (C := RX4) (T := TX4) (N := 13) hx hb hts inX4 hown hE.1 hP 0 rfl rfl 1 (by decide) F7 (fun _ h9 => h9) rfl dX4_init_125 ?_
              refine lv_bipush (v := nI 84) hx hb dX4_init_128 (by decide) ?_
              refine lv_iload_n hx hb dX4_init_130 rfl (lv_at hl 0 rfl) ?_
              refine rd_S (rest := [.int (nI 84), .ref q8_1]) ⟨hx, hb, hml, hown, hts⟩ hP hE (c_X4_depot l D K _ 3 (by omega)) (va_cwS 1 hts gX4_init_X4_depot rfl rfl rfl hn_X4_depot ⟨Nat.le_of_ble_eq_true rfl, Nat.le_of_ble_eq_true rfl⟩) rfl hl.1 rfl (Nat.le_of_ble_eq_true rfl) dX4_init_131 ⟨Nat.le_of_ble_eq_true rfl, Nat.le_of_ble_eq_true rfl⟩ ?_
              refine top_i (y := nI 70) (rfl) ?_
              have hb_18 := dep_lt 3
              refine nv_iadd (x := 84) (y := 70) hx hb dX4_init_134 ?_
              refine lv_iconst (v := nI 1) hx hb dX4_init_135 (by decide) ?_
              refine lv_iload_n hx hb dX4_init_136 rfl (lv_at hl 0 rfl) ?_
              refine nv_ishl1 (y := 3) hx hb dX4_init_137 (by omega) ?_
              refine va_iast hx hb hE.1 hP hD hS 1 0 rfl rfl (pk_in 154 288 (by omega)) dX4_init_138 (fun H locs hP hD hS => ?_)
              rw [pk_cl 154] at hP hD
              have hP : va_P D vwCl ([(h0, .inr (4, [.int 0, .ref q8_1, .ref q17_2, .int 0, .ref q25_3, .int 0, .ref q33_4, .int 0, .int 0, .int 0, .ref q41_5, .int 0, .long 0])), (q8_1, .inl (K 0, 288, .inl (upd (upd (upd (upd (upd (upd (upd (upd (upd (upd (upd (upd (upd (upd (upd (upd (flN 244 24 (-1) (flN 164 80 (-1) (upd (upd (upd (fun _ => 0) 0 (nI 2)) 1 (nI 2)) 2 (nI 1)))) 84 (nI (2 ^ 0))) 164 (nI 0)) 268 (nI 20)) 269 (nI 0)) 270 (-1)) 93 (nI (2 ^ 1))) 173 (nI 1)) 273 (nI 20)) 274 (nI 9)) 275 (-1)) 163 (nI (2 ^ 2))) 243 (nI 2)) 278 (nI 20)) 279 (nI 79)) 280 (-1)) 154 (nI (2 ^ 3))))), (q17_2, .inl (K 0, 1728, .inl (fun _ => 0))), (q25_3, .inl (K 0, 60, .inl (fun _ => 0))), (q33_4, .inl (K 0, 96, .inl (fun _ => 0))), (q41_5, .inl (K 0, 80, .inl (fun _ => 0)))]) H := hP
              have hD : va_D A ([(h0, .inr (4, [.int 0, .ref q8_1, .ref q17_2, .int 0, .ref q25_3, .int 0, .ref q33_4, .int 0, .int 0, .int 0, .ref q41_5, .int 0, .long 0])), (q8_1, .inl (K 0, 288, .inl (upd (upd (upd (upd (upd (upd (upd (upd (upd (upd (upd (upd (upd (upd (upd (upd (flN 244 24 (-1) (flN 164 80 (-1) (upd (upd (upd (fun _ => 0) 0 (nI 2)) 1 (nI 2)) 2 (nI 1)))) 84 (nI (2 ^ 0))) 164 (nI 0)) 268 (nI 20)) 269 (nI 0)) 270 (-1)) 93 (nI (2 ^ 1))) 173 (nI 1)) 273 (nI 20)) 274 (nI 9)) 275 (-1)) 163 (nI (2 ^ 2))) 243 (nI 2)) 278 (nI 20)) 279 (nI 79)) 280 (-1)) 154 (nI (2 ^ 3))))), (q17_2, .inl (K 0, 1728, .inl (fun _ => 0))), (q25_3, .inl (K 0, 60, .inl (fun _ => 0))), (q33_4, .inl (K 0, 96, .inl (fun _ => 0))), (q41_5, .inl (K 0, 80, .inl (fun _ => 0)))]) := hD
              refine lv_aload_n hx hb dX4_init_139 rfl (lv_at hl 1 rfl) ?_
              refine va_get (D := D) (ci := 4) (v := .ref q8_1) (C := RX4) (T := TX4) (N := 13) hx hb hts inX4 hown hE.1 hP 0 rfl rfl 1 (by decide) F7 (fun _ h9 => h9) rfl dX4_init_140 ?_
              refine lv_sipush (v := nI 164) hx hb dX4_init_143 (by decide) ?_
              refine lv_iload_n hx hb dX4_init_146 rfl (lv_at hl 0 rfl) ?_
              refine rd_S (rest := [.int (nI 164), .ref q8_1]) ⟨hx, hb, hml, hown, hts⟩ hP hE (c_X4_depot l D K _ 3 (by omega)) (va_cwS 1 hts gX4_init_X4_depot rfl rfl rfl hn_X4_depot ⟨Nat.le_of_ble_eq_true rfl, Nat.le_of_ble_eq_true rfl⟩) rfl hl.1 rfl (Nat.le_of_ble_eq_true rfl) dX4_init_147 ⟨Nat.le_of_ble_eq_true rfl, Nat.le_of_ble_eq_true rfl⟩ ?_
              refine top_i (y := nI 70) (rfl) ?_
              have hb_19 := dep_lt 3
              refine nv_iadd (x := 164) (y := 70) hx hb dX4_init_150 ?_
              refine lv_iload_n hx hb dX4_init_151 rfl (lv_at hl 0 rfl) ?_
              refine va_iast hx hb hE.1 hP hD hS 1 0 rfl rfl (pk_in 234 288 (by omega)) dX4_init_152 (fun H locs hP hD hS => ?_)
              rw [pk_cl 234] at hP hD
              have hP : va_P D vwCl ([(h0, .inr (4, [.int 0, .ref q8_1, .ref q17_2, .int 0, .ref q25_3, .int 0, .ref q33_4, .int 0, .int 0, .int 0, .ref q41_5, .int 0, .long 0])), (q8_1, .inl (K 0, 288, .inl (upd (upd (upd (upd (upd (upd (upd (upd (upd (upd (upd (upd (upd (upd (upd (upd (upd (flN 244 24 (-1) (flN 164 80 (-1) (upd (upd (upd (fun _ => 0) 0 (nI 2)) 1 (nI 2)) 2 (nI 1)))) 84 (nI (2 ^ 0))) 164 (nI 0)) 268 (nI 20)) 269 (nI 0)) 270 (-1)) 93 (nI (2 ^ 1))) 173 (nI 1)) 273 (nI 20)) 274 (nI 9)) 275 (-1)) 163 (nI (2 ^ 2))) 243 (nI 2)) 278 (nI 20)) 279 (nI 79)) 280 (-1)) 154 (nI (2 ^ 3))) 234 (nI 3)))), (q17_2, .inl (K 0, 1728, .inl (fun _ => 0))), (q25_3, .inl (K 0, 60, .inl (fun _ => 0))), (q33_4, .inl (K 0, 96, .inl (fun _ => 0))), (q41_5, .inl (K 0, 80, .inl (fun _ => 0)))]) H := hP
              have hD : va_D A ([(h0, .inr (4, [.int 0, .ref q8_1, .ref q17_2, .int 0, .ref q25_3, .int 0, .ref q33_4, .int 0, .int 0, .int 0, .ref q41_5, .int 0, .long 0])), (q8_1, .inl (K 0, 288, .inl (upd (upd (upd (upd (upd (upd (upd (upd (upd (upd (upd (upd (upd (upd (upd (upd (upd (flN 244 24 (-1) (flN 164 80 (-1) (upd (upd (upd (fun _ => 0) 0 (nI 2)) 1 (nI 2)) 2 (nI 1)))) 84 (nI (2 ^ 0))) 164 (nI 0)) 268 (nI 20)) 269 (nI 0)) 270 (-1)) 93 (nI (2 ^ 1))) 173 (nI 1)) 273 (nI 20)) 274 (nI 9)) 275 (-1)) 163 (nI (2 ^ 2))) 243 (nI 2)) 278 (nI 20)) 279 (nI 79)) 280 (-1)) 154 (nI (2 ^ 3))) 234 (nI 3)))), (q17_2, .inl (K 0, 1728, .inl (fun _ => 0))), (q25_3, .inl (K 0, 60, .inl (fun _ => 0))), (q33_4, .inl (K 0, 96, .inl (fun _ => 0))), (q41_5, .inl (K 0, 80, .inl (fun _ => 0)))]) := hD
              refine lv_aload_n hx hb dX4_init_153 rfl (lv_at hl 1 rfl) ?_
              refine va_get (D := D) (ci := 4) (v := .ref q8_1) (C := RX4) (T := TX4) (N := 13) hx hb hts inX4 hown hE.1 hP 0 rfl rfl 1 (by decide) F7 (fun _ h9 => h9) rfl dX4_init_154 ?_
              refine lv_sipush (v := nI 268) hx hb dX4_init_157 (by decide) ?_
              refine lv_iconst (v := nI 5) hx hb dX4_init_160 (by decide) ?_
              refine lv_iload_n hx hb dX4_init_161 rfl (lv_at hl 0 rfl) ?_
              refine nv_imul (x := 5) (y := 3) hx hb dX4_init_162 ?_
              refine nv_iadd (x := 268) (y := 15) hx hb dX4_init_163 ?_
              refine lv_iconst (v := nI 0) hx hb dX4_init_164 (by decide) ?_
              refine nv_iadd (x := 283) (y := 0) hx hb dX4_init_165 ?_
              refine lv_bipush (v := nI 20) hx hb dX4_init_166 (by decide) ?_
              refine va_iast hx hb hE.1 hP hD hS 1 0 rfl rfl (pk_in 283 288 (by omega)) dX4_init_168 (fun H locs hP hD hS => ?_)
              rw [pk_cl 283] at hP hD
              have hP : va_P D vwCl ([(h0, .inr (4, [.int 0, .ref q8_1, .ref q17_2, .int 0, .ref q25_3, .int 0, .ref q33_4, .int 0, .int 0, .int 0, .ref q41_5, .int 0, .long 0])), (q8_1, .inl (K 0, 288, .inl (upd (upd (upd (upd (upd (upd (upd (upd (upd (upd (upd (upd (upd (upd (upd (upd (upd (upd (flN 244 24 (-1) (flN 164 80 (-1) (upd (upd (upd (fun _ => 0) 0 (nI 2)) 1 (nI 2)) 2 (nI 1)))) 84 (nI (2 ^ 0))) 164 (nI 0)) 268 (nI 20)) 269 (nI 0)) 270 (-1)) 93 (nI (2 ^ 1))) 173 (nI 1)) 273 (nI 20)) 274 (nI 9)) 275 (-1)) 163 (nI (2 ^ 2))) 243 (nI 2)) 278 (nI 20)) 279 (nI 79)) 280 (-1)) 154 (nI (2 ^ 3))) 234 (nI 3)) 283 (nI 20)))), (q17_2, .inl (K 0, 1728, .inl (fun _ => 0))), (q25_3, .inl (K 0, 60, .inl (fun _ => 0))), (q33_4, .inl (K 0, 96, .inl (fun _ => 0))), (q41_5, .inl (K 0, 80, .inl (fun _ => 0)))]) H := hP
              have hD : va_D A ([(h0, .inr (4, [.int 0, .ref q8_1, .ref q17_2, .int 0, .ref q25_3, .int 0, .ref q33_4, .int 0, .int 0, .int 0, .ref q41_5, .int 0, .long 0])), (q8_1, .inl (K 0, 288, .inl (upd (upd (upd (upd (upd (upd (upd (upd (upd (upd (upd (upd (upd (upd (upd (upd (upd (upd (flN 244 24 (-1) (flN 164 80 (-1) (upd (upd (upd (fun _ => 0) 0 (nI 2)) 1 (nI 2)) 2 (nI 1)))) 84 (nI (2 ^ 0))) 164 (nI 0)) 268 (nI 20)) 269 (nI 0)) 270 (-1)) 93 (nI (2 ^ 1))) 173 (nI 1)) 273 (nI 20)) 274 (nI 9)) 275 (-1)) 163 (nI (2 ^ 2))) 243 (nI 2)) 278 (nI 20)) 279 (nI 79)) 280 (-1)) 154 (nI (2 ^ 3))) 234 (nI 3)) 283 (nI 20)))), (q17_2, .inl (K 0, 1728, .inl (fun _ => 0))), (q25_3, .inl (K 0, 60, .inl (fun _ => 0))), (q33_4, .inl (K 0, 96, .inl (fun _ => 0))), (q41_5, .inl (K 0, 80, .inl (fun _ => 0)))]) := hD
              refine lv_aload_n hx hb dX4_init_169 rfl (lv_at hl 1 rfl) ?_
              refine va_get (D := D) (ci := 4) (v := .ref q8_1) (C := RX4) (T := TX4) (N := 13) hx hb hts inX4 hown hE.1 hP 0 rfl rfl 1 (by decide) F7 (fun _ h9 => h9) rfl dX4_init_170 ?_
              refine lv_sipush (v := nI 268) hx hb dX4_init_173 (by decide) ?_
              refine lv_iconst (v := nI 5) hx hb dX4_init_176 (by decide) ?_
              refine lv_iload_n hx hb dX4_init_177 rfl (lv_at hl 0 rfl) ?_
              refine nv_imul (x := 5) (y := 3) hx hb dX4_init_178 ?_
              refine nv_iadd (x := 268) (y := 15) hx hb dX4_init_179 ?_
              refine lv_iconst (v := nI 1) hx hb dX4_init_180 (by decide) ?_
              refine nv_iadd (x := 283) (y := 1) hx hb dX4_init_181 ?_
              refine lv_iload_n hx hb dX4_init_182 rfl (lv_at hl 0 rfl) ?_
              refine rd_S (rest := [.int (nI 284), .ref q8_1]) ⟨hx, hb, hml, hown, hts⟩ hP hE (c_X4_depot l D K _ 3 (by omega)) (va_cwS 1 hts gX4_init_X4_depot rfl rfl rfl hn_X4_depot ⟨Nat.le_of_ble_eq_true rfl, Nat.le_of_ble_eq_true rfl⟩) rfl hl.1 rfl (Nat.le_of_ble_eq_true rfl) dX4_init_183 ⟨Nat.le_of_ble_eq_true rfl, Nat.le_of_ble_eq_true rfl⟩ ?_
              refine top_i (y := nI 70) (rfl) ?_
              have hb_20 := dep_lt 3
              refine va_iast hx hb hE.1 hP hD hS 1 0 rfl rfl (pk_in 284 288 (by omega)) dX4_init_186 (fun H locs hP hD hS => ?_)
              rw [pk_cl 284] at hP hD
              have hP : va_P D vwCl ([(h0, .inr (4, [.int 0, .ref q8_1, .ref q17_2, .int 0, .ref q25_3, .int 0, .ref q33_4, .int 0, .int 0, .int 0, .ref q41_5, .int 0, .long 0])), (q8_1, .inl (K 0, 288, .inl (upd (upd (upd (upd (upd (upd (upd (upd (upd (upd (upd (upd (upd (upd (upd (upd (upd (upd (upd (flN 244 24 (-1) (flN 164 80 (-1) (upd (upd (upd (fun _ => 0) 0 (nI 2)) 1 (nI 2)) 2 (nI 1)))) 84 (nI (2 ^ 0))) 164 (nI 0)) 268 (nI 20)) 269 (nI 0)) 270 (-1)) 93 (nI (2 ^ 1))) 173 (nI 1)) 273 (nI 20)) 274 (nI 9)) 275 (-1)) 163 (nI (2 ^ 2))) 243 (nI 2)) 278 (nI 20)) 279 (nI 79)) 280 (-1)) 154 (nI (2 ^ 3))) 234 (nI 3)) 283 (nI 20)) 284 (nI 70)))), (q17_2, .inl (K 0, 1728, .inl (fun _ => 0))), (q25_3, .inl (K 0, 60, .inl (fun _ => 0))), (q33_4, .inl (K 0, 96, .inl (fun _ => 0))), (q41_5, .inl (K 0, 80, .inl (fun _ => 0)))]) H := hP
              have hD : va_D A ([(h0, .inr (4, [.int 0, .ref q8_1, .ref q17_2, .int 0, .ref q25_3, .int 0, .ref q33_4, .int 0, .int 0, .int 0, .ref q41_5, .int 0, .long 0])), (q8_1, .inl (K 0, 288, .inl (upd (upd (upd (upd (upd (upd (upd (upd (upd (upd (upd (upd (upd (upd (upd (upd (upd (upd (upd (flN 244 24 (-1) (flN 164 80 (-1) (upd (upd (upd (fun _ => 0) 0 (nI 2)) 1 (nI 2)) 2 (nI 1)))) 84 (nI (2 ^ 0))) 164 (nI 0)) 268 (nI 20)) 269 (nI 0)) 270 (-1)) 93 (nI (2 ^ 1))) 173 (nI 1)) 273 (nI 20)) 274 (nI 9)) 275 (-1)) 163 (nI (2 ^ 2))) 243 (nI 2)) 278 (nI 20)) 279 (nI 79)) 280 (-1)) 154 (nI (2 ^ 3))) 234 (nI 3)) 283 (nI 20)) 284 (nI 70)))), (q17_2, .inl (K 0, 1728, .inl (fun _ => 0))), (q25_3, .inl (K 0, 60, .inl (fun _ => 0))), (q33_4, .inl (K 0, 96, .inl (fun _ => 0))), (q41_5, .inl (K 0, 80, .inl (fun _ => 0)))]) := hD
              refine lv_aload_n hx hb dX4_init_187 rfl (lv_at hl 1 rfl) ?_
              refine va_get (D := D) (ci := 4) (v := .ref q8_1) (C := RX4) (T := TX4) (N := 13) hx hb hts inX4 hown hE.1 hP 0 rfl rfl 1 (by decide) F7 (fun _ h9 => h9) rfl dX4_init_188 ?_
              refine lv_sipush (v := nI 268) hx hb dX4_init_191 (by decide) ?_
              refine lv_iconst (v := nI 5) hx hb dX4_init_194 (by decide) ?_
              refine lv_iload_n hx hb dX4_init_195 rfl (lv_at hl 0 rfl) ?_
              refine nv_imul (x := 5) (y := 3) hx hb dX4_init_196 ?_
              refine nv_iadd (x := 268) (y := 15) hx hb dX4_init_197 ?_
              refine lv_iconst (v := nI 2) hx hb dX4_init_198 (by decide) ?_
              refine nv_iadd (x := 283) (y := 2) hx hb dX4_init_199 ?_
              refine lv_iconst (v := -1) hx hb dX4_init_200 (by decide) ?_
              refine va_iast hx hb hE.1 hP hD hS 1 0 rfl rfl (pk_in 285 288 (by omega)) dX4_init_201 (fun H locs hP hD hS => ?_)
              rw [pk_cl 285] at hP hD
              have hP : va_P D vwCl ([(h0, .inr (4, [.int 0, .ref q8_1, .ref q17_2, .int 0, .ref q25_3, .int 0, .ref q33_4, .int 0, .int 0, .int 0, .ref q41_5, .int 0, .long 0])), (q8_1, .inl (K 0, 288, .inl (upd (upd (upd (upd (upd (upd (upd (upd (upd (upd (upd (upd (upd (upd (upd (upd (upd (upd (upd (upd (flN 244 24 (-1) (flN 164 80 (-1) (upd (upd (upd (fun _ => 0) 0 (nI 2)) 1 (nI 2)) 2 (nI 1)))) 84 (nI (2 ^ 0))) 164 (nI 0)) 268 (nI 20)) 269 (nI 0)) 270 (-1)) 93 (nI (2 ^ 1))) 173 (nI 1)) 273 (nI 20)) 274 (nI 9)) 275 (-1)) 163 (nI (2 ^ 2))) 243 (nI 2)) 278 (nI 20)) 279 (nI 79)) 280 (-1)) 154 (nI (2 ^ 3))) 234 (nI 3)) 283 (nI 20)) 284 (nI 70)) 285 (-1)))), (q17_2, .inl (K 0, 1728, .inl (fun _ => 0))), (q25_3, .inl (K 0, 60, .inl (fun _ => 0))), (q33_4, .inl (K 0, 96, .inl (fun _ => 0))), (q41_5, .inl (K 0, 80, .inl (fun _ => 0)))]) H := hP
              have hD : va_D A ([(h0, .inr (4, [.int 0, .ref q8_1, .ref q17_2, .int 0, .ref q25_3, .int 0, .ref q33_4, .int 0, .int 0, .int 0, .ref q41_5, .int 0, .long 0])), (q8_1, .inl (K 0, 288, .inl (upd (upd (upd (upd (upd (upd (upd (upd (upd (upd (upd (upd (upd (upd (upd (upd (upd (upd (upd (upd (flN 244 24 (-1) (flN 164 80 (-1) (upd (upd (upd (fun _ => 0) 0 (nI 2)) 1 (nI 2)) 2 (nI 1)))) 84 (nI (2 ^ 0))) 164 (nI 0)) 268 (nI 20)) 269 (nI 0)) 270 (-1)) 93 (nI (2 ^ 1))) 173 (nI 1)) 273 (nI 20)) 274 (nI 9)) 275 (-1)) 163 (nI (2 ^ 2))) 243 (nI 2)) 278 (nI 20)) 279 (nI 79)) 280 (-1)) 154 (nI (2 ^ 3))) 234 (nI 3)) 283 (nI 20)) 284 (nI 70)) 285 (-1)))), (q17_2, .inl (K 0, 1728, .inl (fun _ => 0))), (q25_3, .inl (K 0, 60, .inl (fun _ => 0))), (q33_4, .inl (K 0, 96, .inl (fun _ => 0))), (q41_5, .inl (K 0, 80, .inl (fun _ => 0)))]) := hD
              refine lv_iinc (v := nI 4) (lv' := [(1, .int (nI 4)), (0, .ref h0)]) hx hb dX4_init_202 hl (k := 0) rfl (nI_add _ 1) (by decide) rfl (fun ls hl => ?_)
              refine lv_goto (tgt := 119) hx hb dX4_init_205 (by decide) ?_
              refine lv_iload_n hx hb dX4_init_119 rfl (lv_at hl 0 rfl) ?_
              refine lv_iconst (v := nI 4) hx hb dX4_init_120 (by decide) ?_
              refine nv_icmp_ge (x := 4) (y := 4) (tgt := 208) hx hb dX4_init_121 (by decide) (by decide) (by decide) (fun c_21 => ?_) (fun c_21 => ?_)
              · have n_c_21 := Nat.not_lt.mpr c_21
                have hP : va_P D vwCl (List.set ([(h0, .inr (4, [.int 0, .ref q8_1, .ref q17_2, .int 0, .ref q25_3, .int 0, .ref q33_4, .int 0, .int 0, .int 0, .ref q41_5, .int 0, .long 0])), (q8_1, .inl (K 0, 288, .inl (upd (upd (upd (upd (upd (upd (upd (upd (upd (upd (upd (upd (upd (upd (upd (upd (upd (upd (upd (upd (flN 244 24 (-1) (flN 164 80 (-1) (upd (upd (upd (fun _ => 0) 0 (nI 2)) 1 (nI 2)) 2 (nI 1)))) 84 (nI (2 ^ 0))) 164 (nI 0)) 268 (nI 20)) 269 (nI 0)) 270 (-1)) 93 (nI (2 ^ 1))) 173 (nI 1)) 273 (nI 20)) 274 (nI 9)) 275 (-1)) 163 (nI (2 ^ 2))) 243 (nI 2)) 278 (nI 20)) 279 (nI 79)) 280 (-1)) 154 (nI (2 ^ 3))) 234 (nI 3)) 283 (nI 20)) 284 (nI 70)) 285 (-1)))), (q17_2, .inl (K 0, 1728, .inl (fun _ => 0))), (q25_3, .inl (K 0, 60, .inl (fun _ => 0))), (q33_4, .inl (K 0, 96, .inl (fun _ => 0))), (q41_5, .inl (K 0, 80, .inl (fun _ => 0)))]) 1 (q8_1, .inl (K 0, 288, .inl (upd (upd (upd (upd (upd (upd (upd (upd (upd (upd (upd (upd (upd (upd (upd (upd (upd (upd (upd (upd (flN 244 24 (-1) (flN 164 80 (-1) (upd (upd (upd (fun _ => 0) 0 (nI 2)) 1 (nI 2)) 2 (nI 1)))) 84 (nI (2 ^ 0))) 164 (nI 0)) 268 (nI 20)) 269 (nI 0)) 270 (-1)) 93 (nI (2 ^ 1))) 173 (nI 1)) 273 (nI 20)) 274 (nI 9)) 275 (-1)) 163 (nI (2 ^ 2))) 243 (nI 2)) 278 (nI 20)) 279 (nI 79)) 280 (-1)) 154 (nI (2 ^ 3))) 234 (nI 3)) 283 (nI 20)) 284 (nI 70)) 285 (-1))))) H := hP
                have hD : va_D A (List.set ([(h0, .inr (4, [.int 0, .ref q8_1, .ref q17_2, .int 0, .ref q25_3, .int 0, .ref q33_4, .int 0, .int 0, .int 0, .ref q41_5, .int 0, .long 0])), (q8_1, .inl (K 0, 288, .inl (upd (upd (upd (upd (upd (upd (upd (upd (upd (upd (upd (upd (upd (upd (upd (upd (upd (upd (upd (upd (flN 244 24 (-1) (flN 164 80 (-1) (upd (upd (upd (fun _ => 0) 0 (nI 2)) 1 (nI 2)) 2 (nI 1)))) 84 (nI (2 ^ 0))) 164 (nI 0)) 268 (nI 20)) 269 (nI 0)) 270 (-1)) 93 (nI (2 ^ 1))) 173 (nI 1)) 273 (nI 20)) 274 (nI 9)) 275 (-1)) 163 (nI (2 ^ 2))) 243 (nI 2)) 278 (nI 20)) 279 (nI 79)) 280 (-1)) 154 (nI (2 ^ 3))) 234 (nI 3)) 283 (nI 20)) 284 (nI 70)) 285 (-1)))), (q17_2, .inl (K 0, 1728, .inl (fun _ => 0))), (q25_3, .inl (K 0, 60, .inl (fun _ => 0))), (q33_4, .inl (K 0, 96, .inl (fun _ => 0))), (q41_5, .inl (K 0, 80, .inl (fun _ => 0)))]) 1 (q8_1, .inl (K 0, 288, .inl (upd (upd (upd (upd (upd (upd (upd (upd (upd (upd (upd (upd (upd (upd (upd (upd (upd (upd (upd (upd (flN 244 24 (-1) (flN 164 80 (-1) (upd (upd (upd (fun _ => 0) 0 (nI 2)) 1 (nI 2)) 2 (nI 1)))) 84 (nI (2 ^ 0))) 164 (nI 0)) 268 (nI 20)) 269 (nI 0)) 270 (-1)) 93 (nI (2 ^ 1))) 173 (nI 1)) 273 (nI 20)) 274 (nI 9)) 275 (-1)) 163 (nI (2 ^ 2))) 243 (nI 2)) 278 (nI 20)) 279 (nI 79)) 280 (-1)) 154 (nI (2 ^ 3))) 234 (nI 3)) 283 (nI 20)) 284 (nI 70)) 285 (-1))))) := hD
                have hP := va_P.cong hP (g := zT T0) (by decide +kernel)
                have hD := va_D.cong hD (e2 := .inl (K 0, 288, .inl (zT T0)))
                have hP : va_P D vwCl (refO (at0 h0 (fun i => [h0, q8_1, q17_2, q25_3, q33_4, q41_5].getD i 0)) (nI 0) (nI 0) (nI 0) (nI 0) (nI 0) (nI 0) (nI 0) 0 :: zC K (at0 h0 (fun i => [h0, q8_1, q17_2, q25_3, q33_4, q41_5].getD i 0)) T0 :: sC K (at0 h0 (fun i => [h0, q8_1, q17_2, q25_3, q33_4, q41_5].getD i 0)) (fun _ => 0) :: bC K (at0 h0 (fun i => [h0, q8_1, q17_2, q25_3, q33_4, q41_5].getD i 0)) (fun _ => 0) :: pC K (at0 h0 (fun i => [h0, q8_1, q17_2, q25_3, q33_4, q41_5].getD i 0)) (fun _ => 0) :: fC K (at0 h0 (fun i => [h0, q8_1, q17_2, q25_3, q33_4, q41_5].getD i 0)) (fun _ => 0) :: []) H := hP
                have hD : va_D A (refO (at0 h0 (fun i => [h0, q8_1, q17_2, q25_3, q33_4, q41_5].getD i 0)) (nI 0) (nI 0) (nI 0) (nI 0) (nI 0) (nI 0) (nI 0) 0 :: zC K (at0 h0 (fun i => [h0, q8_1, q17_2, q25_3, q33_4, q41_5].getD i 0)) T0 :: sC K (at0 h0 (fun i => [h0, q8_1, q17_2, q25_3, q33_4, q41_5].getD i 0)) (fun _ => 0) :: bC K (at0 h0 (fun i => [h0, q8_1, q17_2, q25_3, q33_4, q41_5].getD i 0)) (fun _ => 0) :: pC K (at0 h0 (fun i => [h0, q8_1, q17_2, q25_3, q33_4, q41_5].getD i 0)) (fun _ => 0) :: fC K (at0 h0 (fun i => [h0, q8_1, q17_2, q25_3, q33_4, q41_5].getD i 0)) (fun _ => 0) :: []) := hD
                exact ix_vret (fun i => [h0, q8_1, q17_2, q25_3, q33_4, q41_5].getD i 0) hAe hP hD hS hx hb hr hk dX4_init_208 ⟨Nat.le_of_ble_eq_true rfl, Nat.le_of_ble_eq_true rfl⟩
              exact absurd c_21 (by decide)
            · have n_c_4 := Nat.not_le.mpr c_4
              refine lv_aload_n hx hb dX4_init_100 rfl (lv_at hl 0 rfl) ?_
              refine va_get (D := D) (ci := 4) (v := .ref q8_1) (C := RX4) (T := TX4) (N := 13) hx hb hts inX4 hown hE.1 hP 0 rfl rfl 1 (by decide) F7 (fun _ h9 => h9) rfl dX4_init_101 ?_
              refine lv_sipush (v := nI 244) hx hb dX4_init_104 (by decide) ?_
              refine lv_iload_n hx hb dX4_init_107 rfl (lv_at hl 1 rfl) ?_
              refine nv_iadd (x := 244) (y := i) hx hb dX4_init_108 ?_
              refine lv_iconst (v := -1) hx hb dX4_init_109 (by decide) ?_
              refine va_iast hx hb hE.1 hP hD hS 1 0 rfl rfl (pk_in (244 + i) 288 (by omega)) dX4_init_110 (fun H locs hP hD hS => ?_)
              rw [pk_cl (244 + i)] at hP hD
              have hP : va_P D vwCl ([(h0, .inr (4, [.int 0, .ref q8_1, .ref q17_2, .int 0, .ref q25_3, .int 0, .ref q33_4, .int 0, .int 0, .int 0, .ref q41_5, .int 0, .long 0])), (q8_1, .inl (K 0, 288, .inl (upd (flN 244 i (-1) (flN 164 80 (-1) (upd (upd (upd (fun _ => 0) 0 (nI 2)) 1 (nI 2)) 2 (nI 1)))) (244 + i) (-1)))), (q17_2, .inl (K 0, 1728, .inl (fun _ => 0))), (q25_3, .inl (K 0, 60, .inl (fun _ => 0))), (q33_4, .inl (K 0, 96, .inl (fun _ => 0))), (q41_5, .inl (K 0, 80, .inl (fun _ => 0)))]) H := hP
              have hD : va_D A ([(h0, .inr (4, [.int 0, .ref q8_1, .ref q17_2, .int 0, .ref q25_3, .int 0, .ref q33_4, .int 0, .int 0, .int 0, .ref q41_5, .int 0, .long 0])), (q8_1, .inl (K 0, 288, .inl (upd (flN 244 i (-1) (flN 164 80 (-1) (upd (upd (upd (fun _ => 0) 0 (nI 2)) 1 (nI 2)) 2 (nI 1)))) (244 + i) (-1)))), (q17_2, .inl (K 0, 1728, .inl (fun _ => 0))), (q25_3, .inl (K 0, 60, .inl (fun _ => 0))), (q33_4, .inl (K 0, 96, .inl (fun _ => 0))), (q41_5, .inl (K 0, 80, .inl (fun _ => 0)))]) := hD
              refine lv_iinc (v := nI (i + 1)) (lv' := [(1, .int (nI (i + 1))), (0, .ref h0)]) hx hb dX4_init_111 hl (k := 1) rfl (nI_add _ 1) (by decide) rfl (fun ls hl => ?_)
              refine lv_goto (tgt := 94) hx hb dX4_init_114 (by decide) ?_
              have hP : va_P D vwCl ([(h0, .inr (4, [.int 0, .ref q8_1, .ref q17_2, .int 0, .ref q25_3, .int 0, .ref q33_4, .int 0, .int 0, .int 0, .ref q41_5, .int 0, .long 0])), (q8_1, .inl (K 0, 288, .inl (flN 244 (i + 1) (-1) (flN 164 80 (-1) (upd (upd (upd (fun _ => 0) 0 (nI 2)) 1 (nI 2)) 2 (nI 1)))))), (q17_2, .inl (K 0, 1728, .inl (fun _ => 0))), (q25_3, .inl (K 0, 60, .inl (fun _ => 0))), (q33_4, .inl (K 0, 96, .inl (fun _ => 0))), (q41_5, .inl (K 0, 80, .inl (fun _ => 0)))]) H := by rw [flN_succ]; exact hP
              have hD : va_D A ([(h0, .inr (4, [.int 0, .ref q8_1, .ref q17_2, .int 0, .ref q25_3, .int 0, .ref q33_4, .int 0, .int 0, .int 0, .ref q41_5, .int 0, .long 0])), (q8_1, .inl (K 0, 288, .inl (flN 244 (i + 1) (-1) (flN 164 80 (-1) (upd (upd (upd (fun _ => 0) 0 (nI 2)) 1 (nI 2)) 2 (nI 1)))))), (q17_2, .inl (K 0, 1728, .inl (fun _ => 0))), (q25_3, .inl (K 0, 60, .inl (fun _ => 0))), (q33_4, .inl (K 0, 96, .inl (fun _ => 0))), (q41_5, .inl (K 0, 80, .inl (fun _ => 0)))]) := by rw [flN_succ]; exact hD
              exact ih_94 (i + 1) (by omega) (by omega) _ _ hP hD hS _ rfl ls (lv_sub hl [1, 0] rfl)
        have hP : va_P D vwCl ([(h0, .inr (4, [.int 0, .ref q8_1, .ref q17_2, .int 0, .ref q25_3, .int 0, .ref q33_4, .int 0, .int 0, .int 0, .ref q41_5, .int 0, .long 0])), (q8_1, .inl (K 0, 288, .inl (flN 244 0 (-1) (flN 164 80 (-1) (upd (upd (upd (fun _ => 0) 0 (nI 2)) 1 (nI 2)) 2 (nI 1)))))), (q17_2, .inl (K 0, 1728, .inl (fun _ => 0))), (q25_3, .inl (K 0, 60, .inl (fun _ => 0))), (q33_4, .inl (K 0, 96, .inl (fun _ => 0))), (q41_5, .inl (K 0, 80, .inl (fun _ => 0)))]) H := by rw [flN_zero]; exact hP
        have hD : va_D A ([(h0, .inr (4, [.int 0, .ref q8_1, .ref q17_2, .int 0, .ref q25_3, .int 0, .ref q33_4, .int 0, .int 0, .int 0, .ref q41_5, .int 0, .long 0])), (q8_1, .inl (K 0, 288, .inl (flN 244 0 (-1) (flN 164 80 (-1) (upd (upd (upd (fun _ => 0) 0 (nI 2)) 1 (nI 2)) 2 (nI 1)))))), (q17_2, .inl (K 0, 1728, .inl (fun _ => 0))), (q25_3, .inl (K 0, 60, .inl (fun _ => 0))), (q33_4, .inl (K 0, 96, .inl (fun _ => 0))), (q41_5, .inl (K 0, 80, .inl (fun _ => 0)))]) := by rw [flN_zero]; exact hD
        refine W.widen (k := 5) (n := 2252) (Nat.le_of_ble_eq_true rfl) (Nat.le_of_ble_eq_true rfl) ?_
        exact loop_3 _ 0 (Nat.zero_le _) (Nat.lt_succ_self _) _ _ hP hD hS _ rfl ls (lv_sub hl [1, 0] rfl)
      · have n_c_2 := Nat.not_le.mpr c_2
        refine lv_aload_n hx hb dX4_init_75 rfl (lv_at hl 0 rfl) ?_
        refine va_get (D := D) (ci := 4) (v := .ref q8_1) (C := RX4) (T := TX4) (N := 13) hx hb hts inX4 hown hE.1 hP 0 rfl rfl 1 (by decide) F7 (fun _ h9 => h9) rfl dX4_init_76 ?_
        refine lv_sipush (v := nI 164) hx hb dX4_init_79 (by decide) ?_
        refine lv_iload_n hx hb dX4_init_82 rfl (lv_at hl 1 rfl) ?_
        refine nv_iadd (x := 164) (y := i) hx hb dX4_init_83 ?_
        refine lv_iconst (v := -1) hx hb dX4_init_84 (by decide) ?_
        refine va_iast hx hb hE.1 hP hD hS 1 0 rfl rfl (pk_in (164 + i) 288 (by omega)) dX4_init_85 (fun H locs hP hD hS => ?_)
        rw [pk_cl (164 + i)] at hP hD
        have hP : va_P D vwCl ([(h0, .inr (4, [.int 0, .ref q8_1, .ref q17_2, .int 0, .ref q25_3, .int 0, .ref q33_4, .int 0, .int 0, .int 0, .ref q41_5, .int 0, .long 0])), (q8_1, .inl (K 0, 288, .inl (upd (flN 164 i (-1) (upd (upd (upd (fun _ => 0) 0 (nI 2)) 1 (nI 2)) 2 (nI 1))) (164 + i) (-1)))), (q17_2, .inl (K 0, 1728, .inl (fun _ => 0))), (q25_3, .inl (K 0, 60, .inl (fun _ => 0))), (q33_4, .inl (K 0, 96, .inl (fun _ => 0))), (q41_5, .inl (K 0, 80, .inl (fun _ => 0)))]) H := hP
        have hD : va_D A ([(h0, .inr (4, [.int 0, .ref q8_1, .ref q17_2, .int 0, .ref q25_3, .int 0, .ref q33_4, .int 0, .int 0, .int 0, .ref q41_5, .int 0, .long 0])), (q8_1, .inl (K 0, 288, .inl (upd (flN 164 i (-1) (upd (upd (upd (fun _ => 0) 0 (nI 2)) 1 (nI 2)) 2 (nI 1))) (164 + i) (-1)))), (q17_2, .inl (K 0, 1728, .inl (fun _ => 0))), (q25_3, .inl (K 0, 60, .inl (fun _ => 0))), (q33_4, .inl (K 0, 96, .inl (fun _ => 0))), (q41_5, .inl (K 0, 80, .inl (fun _ => 0)))]) := hD
        refine lv_iinc (v := nI (i + 1)) (lv' := [(1, .int (nI (i + 1))), (0, .ref h0)]) hx hb dX4_init_86 hl (k := 1) rfl (nI_add _ 1) (by decide) rfl (fun ls hl => ?_)
        refine lv_goto (tgt := 69) hx hb dX4_init_89 (by decide) ?_
        have hP : va_P D vwCl ([(h0, .inr (4, [.int 0, .ref q8_1, .ref q17_2, .int 0, .ref q25_3, .int 0, .ref q33_4, .int 0, .int 0, .int 0, .ref q41_5, .int 0, .long 0])), (q8_1, .inl (K 0, 288, .inl (flN 164 (i + 1) (-1) (upd (upd (upd (fun _ => 0) 0 (nI 2)) 1 (nI 2)) 2 (nI 1))))), (q17_2, .inl (K 0, 1728, .inl (fun _ => 0))), (q25_3, .inl (K 0, 60, .inl (fun _ => 0))), (q33_4, .inl (K 0, 96, .inl (fun _ => 0))), (q41_5, .inl (K 0, 80, .inl (fun _ => 0)))]) H := by rw [flN_succ]; exact hP
        have hD : va_D A ([(h0, .inr (4, [.int 0, .ref q8_1, .ref q17_2, .int 0, .ref q25_3, .int 0, .ref q33_4, .int 0, .int 0, .int 0, .ref q41_5, .int 0, .long 0])), (q8_1, .inl (K 0, 288, .inl (flN 164 (i + 1) (-1) (upd (upd (upd (fun _ => 0) 0 (nI 2)) 1 (nI 2)) 2 (nI 1))))), (q17_2, .inl (K 0, 1728, .inl (fun _ => 0))), (q25_3, .inl (K 0, 60, .inl (fun _ => 0))), (q33_4, .inl (K 0, 96, .inl (fun _ => 0))), (q41_5, .inl (K 0, 80, .inl (fun _ => 0)))]) := by rw [flN_succ]; exact hD
        exact ih_69 (i + 1) (by omega) (by omega) _ _ hP hD hS _ rfl ls (lv_sub hl [1, 0] rfl)
  have hP : va_P D vwCl ([(h0, .inr (4, [.int 0, .ref q8_1, .ref q17_2, .int 0, .ref q25_3, .int 0, .ref q33_4, .int 0, .int 0, .int 0, .ref q41_5, .int 0, .long 0])), (q8_1, .inl (K 0, 288, .inl (flN 164 0 (-1) (upd (upd (upd (fun _ => 0) 0 (nI 2)) 1 (nI 2)) 2 (nI 1))))), (q17_2, .inl (K 0, 1728, .inl (fun _ => 0))), (q25_3, .inl (K 0, 60, .inl (fun _ => 0))), (q33_4, .inl (K 0, 96, .inl (fun _ => 0))), (q41_5, .inl (K 0, 80, .inl (fun _ => 0)))]) H := by rw [flN_zero]; exact hP
  have hD : va_D A ([(h0, .inr (4, [.int 0, .ref q8_1, .ref q17_2, .int 0, .ref q25_3, .int 0, .ref q33_4, .int 0, .int 0, .int 0, .ref q41_5, .int 0, .long 0])), (q8_1, .inl (K 0, 288, .inl (flN 164 0 (-1) (upd (upd (upd (fun _ => 0) 0 (nI 2)) 1 (nI 2)) 2 (nI 1))))), (q17_2, .inl (K 0, 1728, .inl (fun _ => 0))), (q25_3, .inl (K 0, 60, .inl (fun _ => 0))), (q33_4, .inl (K 0, 96, .inl (fun _ => 0))), (q41_5, .inl (K 0, 80, .inl (fun _ => 0)))]) := by rw [flN_zero]; exact hD
  refine W.widen (k := 5) (n := 2252) (Nat.le_of_ble_eq_true rfl) (Nat.le_of_ble_eq_true rfl) ?_
  exact loop_1 _ 0 (Nat.zero_le _) (Nat.lt_succ_self _) _ _ hP hD hS _ rfl ls (lv_sub hl [1, 0] rfl)
