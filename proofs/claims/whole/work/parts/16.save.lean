theorem hd_X3_dropOldestState : yX3_dropOldestState.cls = RX3 ∧ yX3_dropOldestState.cls ≠ "java/lang/invoke/MethodHandle" ∧ yX3_dropOldestState.cls ≠ "java/lang/invoke/VarHandle" ∧ (parseMethodDescriptor yX3_dropOldestState.desc).map (fun d => d.parameters.length) = some 0 := by decide +kernel
theorem hn_X3_dropOldestState : yX3_dropOldestState.cls ≠ "java/lang/invoke/MethodHandle" ∧ yX3_dropOldestState.cls ≠ "java/lang/invoke/VarHandle" ∧ (parseMethodDescriptor yX3_dropOldestState.desc).map (fun d => d.parameters.length) = some 0 := hd_X3_dropOldestState.2
theorem hd_X3_saveState : yX3_saveState.cls = RX3 ∧ yX3_saveState.cls ≠ "java/lang/invoke/MethodHandle" ∧ yX3_saveState.cls ≠ "java/lang/invoke/VarHandle" ∧ (parseMethodDescriptor yX3_saveState.desc).map (fun d => d.parameters.length) = some 0 := by decide +kernel
theorem hn_X3_saveState : yX3_saveState.cls ≠ "java/lang/invoke/MethodHandle" ∧ yX3_saveState.cls ≠ "java/lang/invoke/VarHandle" ∧ (parseMethodDescriptor yX3_saveState.desc).map (fun d => d.parameters.length) = some 0 := hd_X3_saveState.2
set_option maxHeartbeats 4000000 in
set_option maxRecDepth 100000 in
theorem c_X3_dropOldestState (l : Launch) (D : va_G) (K : Nat → ClassId) (sz : Nat) (a b t c : Nat → Nat) (g : Nat → Nat → Nat) (T : TW) (X : va_W) (len : Nat → Option Nat) (qu : Nat → Nat) (n : Nat) (cs : Nat → Nat) (ln sn : Nat) (Sv : Nat → TW) : Wr l yX3_dropOldestState wsX3_dropOldestState ({ frames := 1, cells := 0, slots := 0, locals := 12 } : Room) D K (townW K a T ++ (waysW K b len qu n ++ (textW K t cs ln ++ (mainW K a b t c g sn ++ svW K g Sv X)))) sz [.ref (c 0)] (townW K a T ++ (waysW K b len qu n ++ (textW K t cs ln ++ (mainW K a b t c (rotG g) sn ++ svW K g Sv X)))) none 0 0 := by
  refine wr_intro (cc := cX3_dropOldestState) (maxL := 3) (ret := none) (by decide) rfl (Nat.le_of_ble_eq_true rfl) ?_
  intro pr en st md ar bl mt co A hx hb hml hr hts hown hk hsz hAe hP hE hD hS hA hin ls hl
  have hown : st.vm.findClass RX3 = some md.cls := hown
  have hl : lv_has ls 3 [(0, .ref (c 0))] := hl
  obtain ⟨H, hH⟩ : ∃ z, z = st.heap := ⟨_, rfl⟩
  obtain ⟨locs, hlo⟩ : ∃ z : List Loc, z = [] := ⟨_, rfl⟩
  have hP : va_P D vwCl (townW K a T ++ (waysW K b len qu n ++ (textW K t cs ln ++ (mainW K a b t c g sn ++ svW K g Sv X)))) H := by rw [hH]; exact hP
  have hS : va_S A st.heap H locs := by rw [hH, hlo]; exact hS
  suffices go : W pr l en (headSpec wsX3_dropOldestState ({ frames := 1, cells := 0, slots := 0, locals := 12 } : Room)).room st md ar bl mt co H locs 0 0 (MQ bl (wrQ D (townW K a T ++ (waysW K b len qu n ++ (textW K t cs ln ++ (mainW K a b t c g sn ++ svW K g Sv X)))) (townW K a T ++ (waysW K b len qu n ++ (textW K t cs ln ++ (mainW K a b t c (rotG g) sn ++ svW K g Sv X)))) sz none) ar st 0 0 A) (F0 md 0 ls []) by rw [hH, hlo] at go; exact go
  clear hH hlo
  have F16 : (Cond.fieldLink RX3 16 "TramTolls" "saved" "[LTramTolls$Town;").before ar st = true := hts _ (List.mem_of_getElem? (i := 1) rfl)
  have inX3 : ∀ w ∈ u_ws RX3 TX3 5, w ∈ wsX3_dropOldestState := fun w h => List.mem_cons_of_mem _ (List.mem_append_right _ h)
  refine lv_aload_n hx hb dX3_dropOldestState_0 rfl (lv_at hl 0 rfl) ?_
  refine va_get (D := D) (ci := 3) (v := .ref (c 1)) (C := RX3) (T := TX3) (N := 5) hx hb hts inX3 hown hE.1 hP 17 rfl rfl 1 (by decide) F16 (fun _ h9 => h9) rfl dX3_dropOldestState_1 ?_
  refine lv_iconst (v := nI 0) hx hb dX3_dropOldestState_4 (by decide) ?_
  refine nv_aald hx hb hE hP 18 0 (fun j => g j 0) rfl (by decide) (by decide) dX3_dropOldestState_5 ?_
  refine lv_astore_n (lv' := [(1, .ref (g 0 0)), (0, .ref (c 0))]) hx hb dX3_dropOldestState_6 rfl hl (by decide) rfl (fun ls hl => ?_)
  refine lv_iconst (v := nI 1) hx hb dX3_dropOldestState_7 (by decide) ?_
  refine lv_istore_n (lv' := [(2, .int (nI 1)), (1, .ref (g 0 0)), (0, .ref (c 0))]) hx hb dX3_dropOldestState_8 rfl hl (by decide) rfl (fun ls hl => ?_)
  refine lv_iload_n hx hb dX3_dropOldestState_9 rfl (lv_at hl 0 rfl) ?_
  refine lv_bipush (v := nI 6) hx hb dX3_dropOldestState_10 (by decide) ?_
  refine nv_icmp_ge (x := 1) (y := 6) (tgt := 35) hx hb dX3_dropOldestState_12 (by decide) (by decide) (by decide) (fun c_1 => ?_) (fun c_1 => ?_)
  · exact absurd c_1 (by decide)
  have n_c_1 := Nat.not_le.mpr c_1
  refine lv_aload_n hx hb dX3_dropOldestState_15 rfl (lv_at hl 2 rfl) ?_
  refine va_get (D := D) (ci := 3) (v := .ref (c 1)) (C := RX3) (T := TX3) (N := 5) hx hb hts inX3 hown hE.1 hP 17 rfl rfl 1 (by decide) F16 (fun _ h9 => h9) rfl dX3_dropOldestState_16 ?_
  refine lv_iload_n hx hb dX3_dropOldestState_19 rfl (lv_at hl 0 rfl) ?_
  refine lv_iconst (v := nI 1) hx hb dX3_dropOldestState_20 (by decide) ?_
  refine nv_isub (x := 1) (y := 1) hx hb dX3_dropOldestState_21 (by omega) ?_
  refine lv_aload_n hx hb dX3_dropOldestState_22 rfl (lv_at hl 2 rfl) ?_
  refine va_get (D := D) (ci := 3) (v := .ref (c 1)) (C := RX3) (T := TX3) (N := 5) hx hb hts inX3 hown hE.1 hP 17 rfl rfl 1 (by decide) F16 (fun _ h9 => h9) rfl dX3_dropOldestState_23 ?_
  refine lv_iload_n hx hb dX3_dropOldestState_26 rfl (lv_at hl 0 rfl) ?_
  refine nv_aald hx hb hE hP 18 1 (fun j => g j 0) rfl (by decide) (by decide) dX3_dropOldestState_27 ?_
  refine nv_aast hx hb hE hP hD hS 18 31 0 (fun j => g j 0) rfl rfl (by decide) (by decide) dX3_dropOldestState_28 (fun H locs hP hD hS => ?_)
  have hP : va_P D vwCl (townW K a T ++ (waysW K b len qu n ++ (textW K t cs ln ++ ([(c 0, .inr (3, [.ref (a 0), .ref (c 1), .int (nI sn), .ref (t 0), .ref (b 0)])), (c 1, .inl (K 1, 6, .inr (.inr (.inr (.inr (fun j => some ((va_up (fun j => g j 0) 0 (g 1 0)) j)))))))] ++ svW K g Sv X)))) H := hP
  have hD : va_D A (townW K a T ++ (waysW K b len qu n ++ (textW K t cs ln ++ ([(c 0, .inr (3, [.ref (a 0), .ref (c 1), .int (nI sn), .ref (t 0), .ref (b 0)])), (c 1, .inl (K 1, 6, .inr (.inr (.inr (.inr (fun j => some ((va_up (fun j => g j 0) 0 (g 1 0)) j)))))))] ++ svW K g Sv X)))) := hD
  refine lv_iinc (v := nI 2) (lv' := [(2, .int (nI 2)), (1, .ref (g 0 0)), (0, .ref (c 0))]) hx hb dX3_dropOldestState_29 hl (k := 0) rfl (nI_add _ 1) (by decide) rfl (fun ls hl => ?_)
  refine lv_goto (tgt := 9) hx hb dX3_dropOldestState_32 (by decide) ?_
  refine lv_iload_n hx hb dX3_dropOldestState_9 rfl (lv_at hl 0 rfl) ?_
  refine lv_bipush (v := nI 6) hx hb dX3_dropOldestState_10 (by decide) ?_
  refine nv_icmp_ge (x := 2) (y := 6) (tgt := 35) hx hb dX3_dropOldestState_12 (by decide) (by decide) (by decide) (fun c_2 => ?_) (fun c_2 => ?_)
  · exact absurd c_2 (by decide)
  have n_c_2 := Nat.not_le.mpr c_2
  refine lv_aload_n hx hb dX3_dropOldestState_15 rfl (lv_at hl 2 rfl) ?_
  refine va_get (D := D) (ci := 3) (v := .ref (c 1)) (C := RX3) (T := TX3) (N := 5) hx hb hts inX3 hown hE.1 hP 17 rfl rfl 1 (by decide) F16 (fun _ h9 => h9) rfl dX3_dropOldestState_16 ?_
  refine lv_iload_n hx hb dX3_dropOldestState_19 rfl (lv_at hl 0 rfl) ?_
  refine lv_iconst (v := nI 1) hx hb dX3_dropOldestState_20 (by decide) ?_
  refine nv_isub (x := 2) (y := 1) hx hb dX3_dropOldestState_21 (by omega) ?_
  refine lv_aload_n hx hb dX3_dropOldestState_22 rfl (lv_at hl 2 rfl) ?_
  refine va_get (D := D) (ci := 3) (v := .ref (c 1)) (C := RX3) (T := TX3) (N := 5) hx hb hts inX3 hown hE.1 hP 17 rfl rfl 1 (by decide) F16 (fun _ h9 => h9) rfl dX3_dropOldestState_23 ?_
  refine lv_iload_n hx hb dX3_dropOldestState_26 rfl (lv_at hl 0 rfl) ?_
  refine nv_aald hx hb hE hP 18 2 (va_up (fun j => g j 0) 0 (g 1 0)) rfl (by decide) (by decide) dX3_dropOldestState_27 ?_
  refine nv_aast hx hb hE hP hD hS 18 43 1 (va_up (fun j => g j 0) 0 (g 1 0)) rfl rfl (by decide) (by decide) dX3_dropOldestState_28 (fun H locs hP hD hS => ?_)
  have hP : va_P D vwCl (townW K a T ++ (waysW K b len qu n ++ (textW K t cs ln ++ ([(c 0, .inr (3, [.ref (a 0), .ref (c 1), .int (nI sn), .ref (t 0), .ref (b 0)])), (c 1, .inl (K 1, 6, .inr (.inr (.inr (.inr (fun j => some ((va_up (va_up (fun j => g j 0) 0 (g 1 0)) 1 (g 2 0)) j)))))))] ++ svW K g Sv X)))) H := hP
  have hD : va_D A (townW K a T ++ (waysW K b len qu n ++ (textW K t cs ln ++ ([(c 0, .inr (3, [.ref (a 0), .ref (c 1), .int (nI sn), .ref (t 0), .ref (b 0)])), (c 1, .inl (K 1, 6, .inr (.inr (.inr (.inr (fun j => some ((va_up (va_up (fun j => g j 0) 0 (g 1 0)) 1 (g 2 0)) j)))))))] ++ svW K g Sv X)))) := hD
  refine lv_iinc (v := nI 3) (lv' := [(2, .int (nI 3)), (1, .ref (g 0 0)), (0, .ref (c 0))]) hx hb dX3_dropOldestState_29 hl (k := 0) rfl (nI_add _ 1) (by decide) rfl (fun ls hl => ?_)
  refine lv_goto (tgt := 9) hx hb dX3_dropOldestState_32 (by decide) ?_
  refine lv_iload_n hx hb dX3_dropOldestState_9 rfl (lv_at hl 0 rfl) ?_
  refine lv_bipush (v := nI 6) hx hb dX3_dropOldestState_10 (by decide) ?_
  refine nv_icmp_ge (x := 3) (y := 6) (tgt := 35) hx hb dX3_dropOldestState_12 (by decide) (by decide) (by decide) (fun c_3 => ?_) (fun c_3 => ?_)
  · exact absurd c_3 (by decide)
  have n_c_3 := Nat.not_le.mpr c_3
  refine lv_aload_n hx hb dX3_dropOldestState_15 rfl (lv_at hl 2 rfl) ?_
  refine va_get (D := D) (ci := 3) (v := .ref (c 1)) (C := RX3) (T := TX3) (N := 5) hx hb hts inX3 hown hE.1 hP 17 rfl rfl 1 (by decide) F16 (fun _ h9 => h9) rfl dX3_dropOldestState_16 ?_
  refine lv_iload_n hx hb dX3_dropOldestState_19 rfl (lv_at hl 0 rfl) ?_
  refine lv_iconst (v := nI 1) hx hb dX3_dropOldestState_20 (by decide) ?_
  refine nv_isub (x := 3) (y := 1) hx hb dX3_dropOldestState_21 (by omega) ?_
  refine lv_aload_n hx hb dX3_dropOldestState_22 rfl (lv_at hl 2 rfl) ?_
  refine va_get (D := D) (ci := 3) (v := .ref (c 1)) (C := RX3) (T := TX3) (N := 5) hx hb hts inX3 hown hE.1 hP 17 rfl rfl 1 (by decide) F16 (fun _ h9 => h9) rfl dX3_dropOldestState_23 ?_
  refine lv_iload_n hx hb dX3_dropOldestState_26 rfl (lv_at hl 0 rfl) ?_
  refine nv_aald hx hb hE hP 18 3 (va_up (va_up (fun j => g j 0) 0 (g 1 0)) 1 (g 2 0)) rfl (by decide) (by decide) dX3_dropOldestState_27 ?_
  refine nv_aast hx hb hE hP hD hS 18 55 2 (va_up (va_up (fun j => g j 0) 0 (g 1 0)) 1 (g 2 0)) rfl rfl (by decide) (by decide) dX3_dropOldestState_28 (fun H locs hP hD hS => ?_)
  have hP : va_P D vwCl (townW K a T ++ (waysW K b len qu n ++ (textW K t cs ln ++ ([(c 0, .inr (3, [.ref (a 0), .ref (c 1), .int (nI sn), .ref (t 0), .ref (b 0)])), (c 1, .inl (K 1, 6, .inr (.inr (.inr (.inr (fun j => some ((va_up (va_up (va_up (fun j => g j 0) 0 (g 1 0)) 1 (g 2 0)) 2 (g 3 0)) j)))))))] ++ svW K g Sv X)))) H := hP
  have hD : va_D A (townW K a T ++ (waysW K b len qu n ++ (textW K t cs ln ++ ([(c 0, .inr (3, [.ref (a 0), .ref (c 1), .int (nI sn), .ref (t 0), .ref (b 0)])), (c 1, .inl (K 1, 6, .inr (.inr (.inr (.inr (fun j => some ((va_up (va_up (va_up (fun j => g j 0) 0 (g 1 0)) 1 (g 2 0)) 2 (g 3 0)) j)))))))] ++ svW K g Sv X)))) := hD
  refine lv_iinc (v := nI 4) (lv' := [(2, .int (nI 4)), (1, .ref (g 0 0)), (0, .ref (c 0))]) hx hb dX3_dropOldestState_29 hl (k := 0) rfl (nI_add _ 1) (by decide) rfl (fun ls hl => ?_)
  refine lv_goto (tgt := 9) hx hb dX3_dropOldestState_32 (by decide) ?_
  refine lv_iload_n hx hb dX3_dropOldestState_9 rfl (lv_at hl 0 rfl) ?_
  refine lv_bipush (v := nI 6) hx hb dX3_dropOldestState_10 (by decide) ?_
  refine nv_icmp_ge (x := 4) (y := 6) (tgt := 35) hx hb dX3_dropOldestState_12 (by decide) (by decide) (by decide) (fun c_4 => ?_) (fun c_4 => ?_)
  · exact absurd c_4 (by decide)
  have n_c_4 := Nat.not_le.mpr c_4
  refine lv_aload_n hx hb dX3_dropOldestState_15 rfl (lv_at hl 2 rfl) ?_
  refine va_get (D := D) (ci := 3) (v := .ref (c 1)) (C := RX3) (T := TX3) (N := 5) hx hb hts inX3 hown hE.1 hP 17 rfl rfl 1 (by decide) F16 (fun _ h9 => h9) rfl dX3_dropOldestState_16 ?_
  refine lv_iload_n hx hb dX3_dropOldestState_19 rfl (lv_at hl 0 rfl) ?_
  refine lv_iconst (v := nI 1) hx hb dX3_dropOldestState_20 (by decide) ?_
  refine nv_isub (x := 4) (y := 1) hx hb dX3_dropOldestState_21 (by omega) ?_
  refine lv_aload_n hx hb dX3_dropOldestState_22 rfl (lv_at hl 2 rfl) ?_
  refine va_get (D := D) (ci := 3) (v := .ref (c 1)) (C := RX3) (T := TX3) (N := 5) hx hb hts inX3 hown hE.1 hP 17 rfl rfl 1 (by decide) F16 (fun _ h9 => h9) rfl dX3_dropOldestState_23 ?_
  refine lv_iload_n hx hb dX3_dropOldestState_26 rfl (lv_at hl 0 rfl) ?_
  refine nv_aald hx hb hE hP 18 4 (va_up (va_up (va_up (fun j => g j 0) 0 (g 1 0)) 1 (g 2 0)) 2 (g 3 0)) rfl (by decide) (by decide) dX3_dropOldestState_27 ?_
  refine nv_aast hx hb hE hP hD hS 18 67 3 (va_up (va_up (va_up (fun j => g j 0) 0 (g 1 0)) 1 (g 2 0)) 2 (g 3 0)) rfl rfl (by decide) (by decide) dX3_dropOldestState_28 (fun H locs hP hD hS => ?_)
  have hP : va_P D vwCl (townW K a T ++ (waysW K b len qu n ++ (textW K t cs ln ++ ([(c 0, .inr (3, [.ref (a 0), .ref (c 1), .int (nI sn), .ref (t 0), .ref (b 0)])), (c 1, .inl (K 1, 6, .inr (.inr (.inr (.inr (fun j => some ((va_up (va_up (va_up (va_up (fun j => g j 0) 0 (g 1 0)) 1 (g 2 0)) 2 (g 3 0)) 3 (g 4 0)) j)))))))] ++ svW K g Sv X)))) H := hP
  have hD : va_D A (townW K a T ++ (waysW K b len qu n ++ (textW K t cs ln ++ ([(c 0, .inr (3, [.ref (a 0), .ref (c 1), .int (nI sn), .ref (t 0), .ref (b 0)])), (c 1, .inl (K 1, 6, .inr (.inr (.inr (.inr (fun j => some ((va_up (va_up (va_up (va_up (fun j => g j 0) 0 (g 1 0)) 1 (g 2 0)) 2 (g 3 0)) 3 (g 4 0)) j)))))))] ++ svW K g Sv X)))) := hD
  refine lv_iinc (v := nI 5) (lv' := [(2, .int (nI 5)), (1, .ref (g 0 0)), (0, .ref (c 0))]) hx hb dX3_dropOldestState_29 hl (k := 0) rfl (nI_add _ 1) (by decide) rfl (fun ls hl => ?_)
  refine lv_goto (tgt := 9) hx hb dX3_dropOldestState_32 (by decide) ?_
  refine lv_iload_n hx hb dX3_dropOldestState_9 rfl (lv_at hl 0 rfl) ?_
  refine lv_bipush (v := nI 6) hx hb dX3_dropOldestState_10 (by decide) ?_
  refine nv_icmp_ge (x := 5) (y := 6) (tgt := 35) hx hb dX3_dropOldestState_12 (by decide) (by decide) (by decide) (fun c_5 => ?_) (fun c_5 => ?_)
  · exact absurd c_5 (by decide)
  have n_c_5 := Nat.not_le.mpr c_5
  refine lv_aload_n hx hb dX3_dropOldestState_15 rfl (lv_at hl 2 rfl) ?_
  refine va_get (D := D) (ci := 3) (v := .ref (c 1)) (C := RX3) (T := TX3) (N := 5) hx hb hts inX3 hown hE.1 hP 17 rfl rfl 1 (by decide) F16 (fun _ h9 => h9) rfl dX3_dropOldestState_16 ?_
  refine lv_iload_n hx hb dX3_dropOldestState_19 rfl (lv_at hl 0 rfl) ?_
  refine lv_iconst (v := nI 1) hx hb dX3_dropOldestState_20 (by decide) ?_
  refine nv_isub (x := 5) (y := 1) hx hb dX3_dropOldestState_21 (by omega) ?_
  refine lv_aload_n hx hb dX3_dropOldestState_22 rfl (lv_at hl 2 rfl) ?_
  refine va_get (D := D) (ci := 3) (v := .ref (c 1)) (C := RX3) (T := TX3) (N := 5) hx hb hts inX3 hown hE.1 hP 17 rfl rfl 1 (by decide) F16 (fun _ h9 => h9) rfl dX3_dropOldestState_23 ?_
  refine lv_iload_n hx hb dX3_dropOldestState_26 rfl (lv_at hl 0 rfl) ?_
  refine nv_aald hx hb hE hP 18 5 (va_up (va_up (va_up (va_up (fun j => g j 0) 0 (g 1 0)) 1 (g 2 0)) 2 (g 3 0)) 3 (g 4 0)) rfl (by decide) (by decide) dX3_dropOldestState_27 ?_
  refine nv_aast hx hb hE hP hD hS 18 79 4 (va_up (va_up (va_up (va_up (fun j => g j 0) 0 (g 1 0)) 1 (g 2 0)) 2 (g 3 0)) 3 (g 4 0)) rfl rfl (by decide) (by decide) dX3_dropOldestState_28 (fun H locs hP hD hS => ?_)
  have hP : va_P D vwCl (townW K a T ++ (waysW K b len qu n ++ (textW K t cs ln ++ ([(c 0, .inr (3, [.ref (a 0), .ref (c 1), .int (nI sn), .ref (t 0), .ref (b 0)])), (c 1, .inl (K 1, 6, .inr (.inr (.inr (.inr (fun j => some ((va_up (va_up (va_up (va_up (va_up (fun j => g j 0) 0 (g 1 0)) 1 (g 2 0)) 2 (g 3 0)) 3 (g 4 0)) 4 (g 5 0)) j)))))))] ++ svW K g Sv X)))) H := hP
  have hD : va_D A (townW K a T ++ (waysW K b len qu n ++ (textW K t cs ln ++ ([(c 0, .inr (3, [.ref (a 0), .ref (c 1), .int (nI sn), .ref (t 0), .ref (b 0)])), (c 1, .inl (K 1, 6, .inr (.inr (.inr (.inr (fun j => some ((va_up (va_up (va_up (va_up (va_up (fun j => g j 0) 0 (g 1 0)) 1 (g 2 0)) 2 (g 3 0)) 3 (g 4 0)) 4 (g 5 0)) j)))))))] ++ svW K g Sv X)))) := hD
  refine lv_iinc (v := nI 6) (lv' := [(2, .int (nI 6)), (1, .ref (g 0 0)), (0, .ref (c 0))]) hx hb dX3_dropOldestState_29 hl (k := 0) rfl (nI_add _ 1) (by decide) rfl (fun ls hl => ?_)
  refine lv_goto (tgt := 9) hx hb dX3_dropOldestState_32 (by decide) ?_
  refine lv_iload_n hx hb dX3_dropOldestState_9 rfl (lv_at hl 0 rfl) ?_
  refine lv_bipush (v := nI 6) hx hb dX3_dropOldestState_10 (by decide) ?_
  refine nv_icmp_ge (x := 6) (y := 6) (tgt := 35) hx hb dX3_dropOldestState_12 (by decide) (by decide) (by decide) (fun c_6 => ?_) (fun c_6 => ?_)
  · have n_c_6 := Nat.not_lt.mpr c_6
    refine lv_aload_n hx hb dX3_dropOldestState_35 rfl (lv_at hl 2 rfl) ?_
    refine va_get (D := D) (ci := 3) (v := .ref (c 1)) (C := RX3) (T := TX3) (N := 5) hx hb hts inX3 hown hE.1 hP 17 rfl rfl 1 (by decide) F16 (fun _ h9 => h9) rfl dX3_dropOldestState_36 ?_
    refine lv_iconst (v := nI 5) hx hb dX3_dropOldestState_39 (by decide) ?_
    refine lv_aload_n hx hb dX3_dropOldestState_40 rfl (lv_at hl 1 rfl) ?_
    refine nv_aast hx hb hE hP hD hS 18 19 5 (va_up (va_up (va_up (va_up (va_up (fun j => g j 0) 0 (g 1 0)) 1 (g 2 0)) 2 (g 3 0)) 3 (g 4 0)) 4 (g 5 0)) rfl rfl (by decide) (by decide) dX3_dropOldestState_41 (fun H locs hP hD hS => ?_)
    have hP := va_P.congQ hP (g := fun j => some (rotG g j 0)) (fun j hj => by rcases (show j = 0 ∨ j = 1 ∨ j = 2 ∨ j = 3 ∨ j = 4 ∨ j = 5 by omega) with rfl | rfl | rfl | rfl | rfl | rfl <;> rfl)
    have hD := va_D.cong hD (e2 := .inl (K 1, 6, .inr (.inr (.inr (.inr (fun j => some (rotG g j 0)))))))
    have hP : va_P D vwCl (townW K a T ++ (waysW K b len qu n ++ (textW K t cs ln ++ (mainW K a b t c (rotG g) sn ++ svW K g Sv X)))) H := hP
    have hD : va_D A (townW K a T ++ (waysW K b len qu n ++ (textW K t cs ln ++ (mainW K a b t c (rotG g) sn ++ svW K g Sv X)))) := hD
    exact wr_vret hAe hP hD hS hx hb hr hk dX3_dropOldestState_42 ⟨Nat.le_of_ble_eq_true rfl, Nat.le_of_ble_eq_true rfl⟩
  exact absurd c_6 (by decide)
set_option maxHeartbeats 4000000 in
set_option maxRecDepth 100000 in
theorem c_X3_saveState (l : Launch) (D : va_G) (K : Nat → ClassId) (sz : Nat) (a b t c : Nat → Nat) (g : Nat → Nat → Nat) (T : TW) (X : va_W) (len : Nat → Option Nat) (qu : Nat → Nat) (n : Nat) (cs : Nat → Nat) (ln sn : Nat) (Sv : Nat → TW) (hsn : sn ≤ 6) : Wr l yX3_saveState wsX3_saveState ({ frames := 4, cells := 0, slots := 0, locals := 82 } : Room) D K (townW K a T ++ (waysW K b len qu n ++ (textW K t cs ln ++ (mainW K a b t c g sn ++ svW K g Sv X)))) sz [.ref (c 0)] (townW K a T ++ (waysW K b len qu n ++ (textW K t cs ln ++ (mainW K a b t c (svG g sn) (svN sn) ++ svW K (svG g sn) (svV Sv sn T) X)))) none 0 0 := by
  refine wr_intro (cc := cX3_saveState) (maxL := 2) (ret := none) (by decide) rfl (Nat.le_of_ble_eq_true rfl) ?_
  intro pr en st md ar bl mt co A hx hb hml hr hts hown hk hsz hAe hP hE hD hS hA hin ls hl
  have hown : st.vm.findClass RX3 = some md.cls := hown
  have hl : lv_has ls 2 [(0, .ref (c 0))] := hl
  obtain ⟨H, hH⟩ : ∃ z, z = st.heap := ⟨_, rfl⟩
  obtain ⟨locs, hlo⟩ : ∃ z : List Loc, z = [] := ⟨_, rfl⟩
  have hP : va_P D vwCl (townW K a T ++ (waysW K b len qu n ++ (textW K t cs ln ++ (mainW K a b t c g sn ++ svW K g Sv X)))) H := by rw [hH]; exact hP
  have hS : va_S A st.heap H locs := by rw [hH, hlo]; exact hS
  suffices go : W pr l en (headSpec wsX3_saveState ({ frames := 4, cells := 0, slots := 0, locals := 82 } : Room)).room st md ar bl mt co H locs 0 0 (MQ bl (wrQ D (townW K a T ++ (waysW K b len qu n ++ (textW K t cs ln ++ (mainW K a b t c g sn ++ svW K g Sv X)))) (townW K a T ++ (waysW K b len qu n ++ (textW K t cs ln ++ (mainW K a b t c (svG g sn) (svN sn) ++ svW K (svG g sn) (svV Sv sn T) X)))) sz none) ar st 0 0 A) (F0 md 0 ls []) by rw [hH, hlo] at go; exact go
  clear hH hlo
  have F188 : (Cond.fieldLink RX3 188 "TramTolls" "savedCount" "I").before ar st = true := hts _ (List.mem_of_getElem? (i := 1) rfl)
  have inX3 : ∀ w ∈ u_ws RX3 TX3 5, w ∈ wsX3_saveState := fun w h => List.mem_cons_of_mem _ (List.mem_append_left _ (List.mem_append_right _ h))
  have F16 : (Cond.fieldLink RX3 16 "TramTolls" "saved" "[LTramTolls$Town;").before ar st = true := hts _ (List.mem_of_getElem? (i := 2) rfl)
  have F12 : (Cond.fieldLink RX3 12 "TramTolls" "town" "LTramTolls$Town;").before ar st = true := hts _ (List.mem_of_getElem? (i := 3) rfl)
  rcases (show sn = 0 ∨ sn = 1 ∨ sn = 2 ∨ sn = 3 ∨ sn = 4 ∨ sn = 5 ∨ sn = 6 by omega) with rfl | rfl | rfl | rfl | rfl | rfl | rfl
  · refine lv_aload_n hx hb dX3_saveState_0 rfl (lv_at hl 0 rfl) ?_
    refine va_get (D := D) (ci := 3) (v := .int (nI 0)) (C := RX3) (T := TX3) (N := 5) hx hb hts inX3 hown hE.1 hP 17 rfl rfl 2 (by decide) F188 (fun _ h9 => h9) rfl dX3_saveState_1 ?_
    refine lv_bipush (v := nI 6) hx hb dX3_saveState_4 (by decide) ?_
    refine nv_icmp_ge (x := 0) (y := 6) (tgt := 22) hx hb dX3_saveState_6 (by decide) (by decide) (by decide) (fun c_1 => ?_) (fun c_1 => ?_)
    · exact absurd c_1 (by decide)
    have n_c_1 := Nat.not_le.mpr c_1
    refine lv_aload_n hx hb dX3_saveState_9 rfl (lv_at hl 0 rfl) ?_
    refine lv_dup hx hb dX3_saveState_10 rfl ?_
    refine va_get (D := D) (ci := 3) (v := .int (nI 0)) (C := RX3) (T := TX3) (N := 5) hx hb hts inX3 hown hE.1 hP 17 rfl rfl 2 (by decide) F188 (fun _ h9 => h9) rfl dX3_saveState_11 ?_
    refine lv_iconst (v := nI 1) hx hb dX3_saveState_14 (by decide) ?_
    refine nv_iadd (x := 0) (y := 1) hx hb dX3_saveState_15 ?_
    refine va_put (D := D) (ci := 3) (v := .int (nI 1)) (ty := .int) (C := RX3) (T := TX3) (N := 5) hx hb hts inX3 tyX3 tyX3_ok nmX3 hown hE.1 hP hD hS 17 rfl rfl 2 (by decide) F188 (fun _ h9 => h9) rfl (by decide +kernel) rfl rfl (Nat.le_of_ble_eq_true rfl) dX3_saveState_16 (fun H locs hP hD hS => ?_)
    have hP : va_P D vwCl (townW K a T ++ (waysW K b len qu n ++ (textW K t cs ln ++ (mainW K a b t c g 1 ++ svW K g Sv X)))) H := hP
    have hD : va_D A (townW K a T ++ (waysW K b len qu n ++ (textW K t cs ln ++ (mainW K a b t c g 1 ++ svW K g Sv X)))) := hD
    refine lv_goto (tgt := 26) hx hb dX3_saveState_19 (by decide) ?_
    refine lv_aload_n hx hb dX3_saveState_26 rfl (lv_at hl 0 rfl) ?_
    refine va_get (D := D) (ci := 3) (v := .int (nI 1)) (C := RX3) (T := TX3) (N := 5) hx hb hts inX3 hown hE.1 hP 17 rfl rfl 2 (by decide) F188 (fun _ h9 => h9) rfl dX3_saveState_27 ?_
    refine lv_iconst (v := nI 1) hx hb dX3_saveState_30 (by decide) ?_
    refine nv_isub (x := 1) (y := 1) hx hb dX3_saveState_31 (by omega) ?_
    refine lv_istore_n (lv' := [(1, .int (nI 0)), (0, .ref (c 0))]) hx hb dX3_saveState_32 rfl hl (by decide) rfl (fun ls hl => ?_)
    refine lv_iload_n hx hb dX3_saveState_33 rfl (lv_at hl 0 rfl) ?_
    refine nv_if_lt (x := 0) (tgt := 65) hx hb dX3_saveState_34 (by decide) (by decide) ?_
    refine lv_iload_n hx hb dX3_saveState_37 rfl (lv_at hl 0 rfl) ?_
    refine lv_bipush (v := nI 6) hx hb dX3_saveState_38 (by decide) ?_
    refine nv_icmp_ge (x := 0) (y := 6) (tgt := 65) hx hb dX3_saveState_40 (by decide) (by decide) (by decide) (fun c_3 => ?_) (fun c_3 => ?_)
    · exact absurd c_3 (by decide)
    have n_c_3 := Nat.not_le.mpr c_3
    refine lv_aload_n hx hb dX3_saveState_43 rfl (lv_at hl 1 rfl) ?_
    refine va_get (D := D) (ci := 3) (v := .ref (c 1)) (C := RX3) (T := TX3) (N := 5) hx hb hts inX3 hown hE.1 hP 17 rfl rfl 1 (by decide) F16 (fun _ h9 => h9) rfl dX3_saveState_44 ?_
    refine lv_iload_n hx hb dX3_saveState_47 rfl (lv_at hl 0 rfl) ?_
    refine nv_aald hx hb hE hP 18 0 (fun j => g j 0) rfl (by decide) (by decide) dX3_saveState_48 ?_
    refine lv_ifnull hx hb dX3_saveState_49 ?_
    refine lv_aload_n hx hb dX3_saveState_52 rfl (lv_at hl 1 rfl) ?_
    refine va_get (D := D) (ci := 3) (v := .ref (c 1)) (C := RX3) (T := TX3) (N := 5) hx hb hts inX3 hown hE.1 hP 17 rfl rfl 1 (by decide) F16 (fun _ h9 => h9) rfl dX3_saveState_53 ?_
    refine lv_iload_n hx hb dX3_saveState_56 rfl (lv_at hl 0 rfl) ?_
    refine nv_aald hx hb hE hP 18 0 (fun j => g j 0) rfl (by decide) (by decide) dX3_saveState_57 ?_
    refine lv_aload_n hx hb dX3_saveState_58 rfl (lv_at hl 1 rfl) ?_
    refine va_get (D := D) (ci := 3) (v := .ref (a 0)) (C := RX3) (T := TX3) (N := 5) hx hb hts inX3 hown hE.1 hP 17 rfl rfl 0 (by decide) F12 (fun _ h9 => h9) rfl dX3_saveState_59 ?_
    refine wr_V (rest := []) (ci := 1) (q0 := 19) ⟨hx, hb, hml, hown, hts⟩ hP hE hA hD hS (c_X1_copyFrom_s0 l D K _ _ _ _ _ _ _ _ _ _ _ _ _ _ _) (cwV 1 hts gX3_saveState_X1_copyFrom rfl rfl rfl hd_X1_copyFrom ⟨Nat.le_of_ble_eq_true rfl, Nat.le_of_ble_eq_true rfl⟩) rfl rfl rfl rfl hl.1 rfl (Nat.le_of_ble_eq_true rfl) dX3_saveState_62 ⟨Nat.le_of_ble_eq_true rfl, Nat.le_of_ble_eq_true rfl⟩ (fun H locs hP hD hS => ?_)
    have hP : va_P D vwCl (townW K a T ++ (waysW K b len qu n ++ (textW K t cs ln ++ (mainW K a b t c g 1 ++ svW K g (va_up Sv 0 T) X)))) H := hP
    have hD : va_D A (townW K a T ++ (waysW K b len qu n ++ (textW K t cs ln ++ (mainW K a b t c g 1 ++ svW K g (va_up Sv 0 T) X)))) := hD
    have hP : va_P D vwCl (townW K a T ++ (waysW K b len qu n ++ (textW K t cs ln ++ (mainW K a b t c (svG g 0) (svN 0) ++ svW K (svG g 0) (svV Sv 0 T) X)))) H := hP
    have hD : va_D A (townW K a T ++ (waysW K b len qu n ++ (textW K t cs ln ++ (mainW K a b t c (svG g 0) (svN 0) ++ svW K (svG g 0) (svV Sv 0 T) X)))) := hD
    exact wr_vret hAe hP hD hS hx hb hr hk dX3_saveState_65 ⟨Nat.le_of_ble_eq_true rfl, Nat.le_of_ble_eq_true rfl⟩
  · refine lv_aload_n hx hb dX3_saveState_0 rfl (lv_at hl 0 rfl) ?_
    refine va_get (D := D) (ci := 3) (v := .int (nI 1)) (C := RX3) (T := TX3) (N := 5) hx hb hts inX3 hown hE.1 hP 17 rfl rfl 2 (by decide) F188 (fun _ h9 => h9) rfl dX3_saveState_1 ?_
    refine lv_bipush (v := nI 6) hx hb dX3_saveState_4 (by decide) ?_
    refine nv_icmp_ge (x := 1) (y := 6) (tgt := 22) hx hb dX3_saveState_6 (by decide) (by decide) (by decide) (fun c_4 => ?_) (fun c_4 => ?_)
    · exact absurd c_4 (by decide)
    have n_c_4 := Nat.not_le.mpr c_4
    refine lv_aload_n hx hb dX3_saveState_9 rfl (lv_at hl 0 rfl) ?_
    refine lv_dup hx hb dX3_saveState_10 rfl ?_
    refine va_get (D := D) (ci := 3) (v := .int (nI 1)) (C := RX3) (T := TX3) (N := 5) hx hb hts inX3 hown hE.1 hP 17 rfl rfl 2 (by decide) F188 (fun _ h9 => h9) rfl dX3_saveState_11 ?_
    refine lv_iconst (v := nI 1) hx hb dX3_saveState_14 (by decide) ?_
    refine nv_iadd (x := 1) (y := 1) hx hb dX3_saveState_15 ?_
    refine va_put (D := D) (ci := 3) (v := .int (nI 2)) (ty := .int) (C := RX3) (T := TX3) (N := 5) hx hb hts inX3 tyX3 tyX3_ok nmX3 hown hE.1 hP hD hS 17 rfl rfl 2 (by decide) F188 (fun _ h9 => h9) rfl (by decide +kernel) rfl rfl (Nat.le_of_ble_eq_true rfl) dX3_saveState_16 (fun H locs hP hD hS => ?_)
    have hP : va_P D vwCl (townW K a T ++ (waysW K b len qu n ++ (textW K t cs ln ++ (mainW K a b t c g 2 ++ svW K g Sv X)))) H := hP
    have hD : va_D A (townW K a T ++ (waysW K b len qu n ++ (textW K t cs ln ++ (mainW K a b t c g 2 ++ svW K g Sv X)))) := hD
    refine lv_goto (tgt := 26) hx hb dX3_saveState_19 (by decide) ?_
    refine lv_aload_n hx hb dX3_saveState_26 rfl (lv_at hl 0 rfl) ?_
    refine va_get (D := D) (ci := 3) (v := .int (nI 2)) (C := RX3) (T := TX3) (N := 5) hx hb hts inX3 hown hE.1 hP 17 rfl rfl 2 (by decide) F188 (fun _ h9 => h9) rfl dX3_saveState_27 ?_
    refine lv_iconst (v := nI 1) hx hb dX3_saveState_30 (by decide) ?_
    refine nv_isub (x := 2) (y := 1) hx hb dX3_saveState_31 (by omega) ?_
    refine lv_istore_n (lv' := [(1, .int (nI 1)), (0, .ref (c 0))]) hx hb dX3_saveState_32 rfl hl (by decide) rfl (fun ls hl => ?_)
    refine lv_iload_n hx hb dX3_saveState_33 rfl (lv_at hl 0 rfl) ?_
    refine nv_if_lt (x := 1) (tgt := 65) hx hb dX3_saveState_34 (by decide) (by decide) ?_
    refine lv_iload_n hx hb dX3_saveState_37 rfl (lv_at hl 0 rfl) ?_
    refine lv_bipush (v := nI 6) hx hb dX3_saveState_38 (by decide) ?_
    refine nv_icmp_ge (x := 1) (y := 6) (tgt := 65) hx hb dX3_saveState_40 (by decide) (by decide) (by decide) (fun c_6 => ?_) (fun c_6 => ?_)
    · exact absurd c_6 (by decide)
    have n_c_6 := Nat.not_le.mpr c_6
    refine lv_aload_n hx hb dX3_saveState_43 rfl (lv_at hl 1 rfl) ?_
    refine va_get (D := D) (ci := 3) (v := .ref (c 1)) (C := RX3) (T := TX3) (N := 5) hx hb hts inX3 hown hE.1 hP 17 rfl rfl 1 (by decide) F16 (fun _ h9 => h9) rfl dX3_saveState_44 ?_
    refine lv_iload_n hx hb dX3_saveState_47 rfl (lv_at hl 0 rfl) ?_
    refine nv_aald hx hb hE hP 18 1 (fun j => g j 0) rfl (by decide) (by decide) dX3_saveState_48 ?_
    refine lv_ifnull hx hb dX3_saveState_49 ?_
    refine lv_aload_n hx hb dX3_saveState_52 rfl (lv_at hl 1 rfl) ?_
    refine va_get (D := D) (ci := 3) (v := .ref (c 1)) (C := RX3) (T := TX3) (N := 5) hx hb hts inX3 hown hE.1 hP 17 rfl rfl 1 (by decide) F16 (fun _ h9 => h9) rfl dX3_saveState_53 ?_
    refine lv_iload_n hx hb dX3_saveState_56 rfl (lv_at hl 0 rfl) ?_
    refine nv_aald hx hb hE hP 18 1 (fun j => g j 0) rfl (by decide) (by decide) dX3_saveState_57 ?_
    refine lv_aload_n hx hb dX3_saveState_58 rfl (lv_at hl 1 rfl) ?_
    refine va_get (D := D) (ci := 3) (v := .ref (a 0)) (C := RX3) (T := TX3) (N := 5) hx hb hts inX3 hown hE.1 hP 17 rfl rfl 0 (by decide) F12 (fun _ h9 => h9) rfl dX3_saveState_59 ?_
    refine wr_V (rest := []) (ci := 1) (q0 := 31) ⟨hx, hb, hml, hown, hts⟩ hP hE hA hD hS (c_X1_copyFrom_s1 l D K _ _ _ _ _ _ _ _ _ _ _ _ _ _ _) (cwV 1 hts gX3_saveState_X1_copyFrom rfl rfl rfl hd_X1_copyFrom ⟨Nat.le_of_ble_eq_true rfl, Nat.le_of_ble_eq_true rfl⟩) rfl rfl rfl rfl hl.1 rfl (Nat.le_of_ble_eq_true rfl) dX3_saveState_62 ⟨Nat.le_of_ble_eq_true rfl, Nat.le_of_ble_eq_true rfl⟩ (fun H locs hP hD hS => ?_)
    have hP : va_P D vwCl (townW K a T ++ (waysW K b len qu n ++ (textW K t cs ln ++ (mainW K a b t c g 2 ++ svW K g (va_up Sv 1 T) X)))) H := hP
    have hD : va_D A (townW K a T ++ (waysW K b len qu n ++ (textW K t cs ln ++ (mainW K a b t c g 2 ++ svW K g (va_up Sv 1 T) X)))) := hD
    have hP : va_P D vwCl (townW K a T ++ (waysW K b len qu n ++ (textW K t cs ln ++ (mainW K a b t c (svG g 1) (svN 1) ++ svW K (svG g 1) (svV Sv 1 T) X)))) H := hP
    have hD : va_D A (townW K a T ++ (waysW K b len qu n ++ (textW K t cs ln ++ (mainW K a b t c (svG g 1) (svN 1) ++ svW K (svG g 1) (svV Sv 1 T) X)))) := hD
    exact wr_vret hAe hP hD hS hx hb hr hk dX3_saveState_65 ⟨Nat.le_of_ble_eq_true rfl, Nat.le_of_ble_eq_true rfl⟩
  · refine lv_aload_n hx hb dX3_saveState_0 rfl (lv_at hl 0 rfl) ?_
    refine va_get (D := D) (ci := 3) (v := .int (nI 2)) (C := RX3) (T := TX3) (N := 5) hx hb hts inX3 hown hE.1 hP 17 rfl rfl 2 (by decide) F188 (fun _ h9 => h9) rfl dX3_saveState_1 ?_
    refine lv_bipush (v := nI 6) hx hb dX3_saveState_4 (by decide) ?_
    refine nv_icmp_ge (x := 2) (y := 6) (tgt := 22) hx hb dX3_saveState_6 (by decide) (by decide) (by decide) (fun c_7 => ?_) (fun c_7 => ?_)
    · exact absurd c_7 (by decide)
    have n_c_7 := Nat.not_le.mpr c_7
    refine lv_aload_n hx hb dX3_saveState_9 rfl (lv_at hl 0 rfl) ?_
    refine lv_dup hx hb dX3_saveState_10 rfl ?_
    refine va_get (D := D) (ci := 3) (v := .int (nI 2)) (C := RX3) (T := TX3) (N := 5) hx hb hts inX3 hown hE.1 hP 17 rfl rfl 2 (by decide) F188 (fun _ h9 => h9) rfl dX3_saveState_11 ?_
    refine lv_iconst (v := nI 1) hx hb dX3_saveState_14 (by decide) ?_
    refine nv_iadd (x := 2) (y := 1) hx hb dX3_saveState_15 ?_
    refine va_put (D := D) (ci := 3) (v := .int (nI 3)) (ty := .int) (C := RX3) (T := TX3) (N := 5) hx hb hts inX3 tyX3 tyX3_ok nmX3 hown hE.1 hP hD hS 17 rfl rfl 2 (by decide) F188 (fun _ h9 => h9) rfl (by decide +kernel) rfl rfl (Nat.le_of_ble_eq_true rfl) dX3_saveState_16 (fun H locs hP hD hS => ?_)
    have hP : va_P D vwCl (townW K a T ++ (waysW K b len qu n ++ (textW K t cs ln ++ (mainW K a b t c g 3 ++ svW K g Sv X)))) H := hP
    have hD : va_D A (townW K a T ++ (waysW K b len qu n ++ (textW K t cs ln ++ (mainW K a b t c g 3 ++ svW K g Sv X)))) := hD
    refine lv_goto (tgt := 26) hx hb dX3_saveState_19 (by decide) ?_
    refine lv_aload_n hx hb dX3_saveState_26 rfl (lv_at hl 0 rfl) ?_
    refine va_get (D := D) (ci := 3) (v := .int (nI 3)) (C := RX3) (T := TX3) (N := 5) hx hb hts inX3 hown hE.1 hP 17 rfl rfl 2 (by decide) F188 (fun _ h9 => h9) rfl dX3_saveState_27 ?_
    refine lv_iconst (v := nI 1) hx hb dX3_saveState_30 (by decide) ?_
    refine nv_isub (x := 3) (y := 1) hx hb dX3_saveState_31 (by omega) ?_
    refine lv_istore_n (lv' := [(1, .int (nI 2)), (0, .ref (c 0))]) hx hb dX3_saveState_32 rfl hl (by decide) rfl (fun ls hl => ?_)
    refine lv_iload_n hx hb dX3_saveState_33 rfl (lv_at hl 0 rfl) ?_
    refine nv_if_lt (x := 2) (tgt := 65) hx hb dX3_saveState_34 (by decide) (by decide) ?_
    refine lv_iload_n hx hb dX3_saveState_37 rfl (lv_at hl 0 rfl) ?_
    refine lv_bipush (v := nI 6) hx hb dX3_saveState_38 (by decide) ?_
    refine nv_icmp_ge (x := 2) (y := 6) (tgt := 65) hx hb dX3_saveState_40 (by decide) (by decide) (by decide) (fun c_9 => ?_) (fun c_9 => ?_)
    · exact absurd c_9 (by decide)
    have n_c_9 := Nat.not_le.mpr c_9
    refine lv_aload_n hx hb dX3_saveState_43 rfl (lv_at hl 1 rfl) ?_
    refine va_get (D := D) (ci := 3) (v := .ref (c 1)) (C := RX3) (T := TX3) (N := 5) hx hb hts inX3 hown hE.1 hP 17 rfl rfl 1 (by decide) F16 (fun _ h9 => h9) rfl dX3_saveState_44 ?_
    refine lv_iload_n hx hb dX3_saveState_47 rfl (lv_at hl 0 rfl) ?_
    refine nv_aald hx hb hE hP 18 2 (fun j => g j 0) rfl (by decide) (by decide) dX3_saveState_48 ?_
    refine lv_ifnull hx hb dX3_saveState_49 ?_
    refine lv_aload_n hx hb dX3_saveState_52 rfl (lv_at hl 1 rfl) ?_
    refine va_get (D := D) (ci := 3) (v := .ref (c 1)) (C := RX3) (T := TX3) (N := 5) hx hb hts inX3 hown hE.1 hP 17 rfl rfl 1 (by decide) F16 (fun _ h9 => h9) rfl dX3_saveState_53 ?_
    refine lv_iload_n hx hb dX3_saveState_56 rfl (lv_at hl 0 rfl) ?_
    refine nv_aald hx hb hE hP 18 2 (fun j => g j 0) rfl (by decide) (by decide) dX3_saveState_57 ?_
    refine lv_aload_n hx hb dX3_saveState_58 rfl (lv_at hl 1 rfl) ?_
    refine va_get (D := D) (ci := 3) (v := .ref (a 0)) (C := RX3) (T := TX3) (N := 5) hx hb hts inX3 hown hE.1 hP 17 rfl rfl 0 (by decide) F12 (fun _ h9 => h9) rfl dX3_saveState_59 ?_
    refine wr_V (rest := []) (ci := 1) (q0 := 43) ⟨hx, hb, hml, hown, hts⟩ hP hE hA hD hS (c_X1_copyFrom_s2 l D K _ _ _ _ _ _ _ _ _ _ _ _ _ _ _) (cwV 1 hts gX3_saveState_X1_copyFrom rfl rfl rfl hd_X1_copyFrom ⟨Nat.le_of_ble_eq_true rfl, Nat.le_of_ble_eq_true rfl⟩) rfl rfl rfl rfl hl.1 rfl (Nat.le_of_ble_eq_true rfl) dX3_saveState_62 ⟨Nat.le_of_ble_eq_true rfl, Nat.le_of_ble_eq_true rfl⟩ (fun H locs hP hD hS => ?_)
    have hP : va_P D vwCl (townW K a T ++ (waysW K b len qu n ++ (textW K t cs ln ++ (mainW K a b t c g 3 ++ svW K g (va_up Sv 2 T) X)))) H := hP
    have hD : va_D A (townW K a T ++ (waysW K b len qu n ++ (textW K t cs ln ++ (mainW K a b t c g 3 ++ svW K g (va_up Sv 2 T) X)))) := hD
    have hP : va_P D vwCl (townW K a T ++ (waysW K b len qu n ++ (textW K t cs ln ++ (mainW K a b t c (svG g 2) (svN 2) ++ svW K (svG g 2) (svV Sv 2 T) X)))) H := hP
    have hD : va_D A (townW K a T ++ (waysW K b len qu n ++ (textW K t cs ln ++ (mainW K a b t c (svG g 2) (svN 2) ++ svW K (svG g 2) (svV Sv 2 T) X)))) := hD
    exact wr_vret hAe hP hD hS hx hb hr hk dX3_saveState_65 ⟨Nat.le_of_ble_eq_true rfl, Nat.le_of_ble_eq_true rfl⟩
  · refine lv_aload_n hx hb dX3_saveState_0 rfl (lv_at hl 0 rfl) ?_
    refine va_get (D := D) (ci := 3) (v := .int (nI 3)) (C := RX3) (T := TX3) (N := 5) hx hb hts inX3 hown hE.1 hP 17 rfl rfl 2 (by decide) F188 (fun _ h9 => h9) rfl dX3_saveState_1 ?_
    refine lv_bipush (v := nI 6) hx hb dX3_saveState_4 (by decide) ?_
    refine nv_icmp_ge (x := 3) (y := 6) (tgt := 22) hx hb dX3_saveState_6 (by decide) (by decide) (by decide) (fun c_10 => ?_) (fun c_10 => ?_)
    · exact absurd c_10 (by decide)
    have n_c_10 := Nat.not_le.mpr c_10
    refine lv_aload_n hx hb dX3_saveState_9 rfl (lv_at hl 0 rfl) ?_
    refine lv_dup hx hb dX3_saveState_10 rfl ?_
    refine va_get (D := D) (ci := 3) (v := .int (nI 3)) (C := RX3) (T := TX3) (N := 5) hx hb hts inX3 hown hE.1 hP 17 rfl rfl 2 (by decide) F188 (fun _ h9 => h9) rfl dX3_saveState_11 ?_
    refine lv_iconst (v := nI 1) hx hb dX3_saveState_14 (by decide) ?_
    refine nv_iadd (x := 3) (y := 1) hx hb dX3_saveState_15 ?_
    refine va_put (D := D) (ci := 3) (v := .int (nI 4)) (ty := .int) (C := RX3) (T := TX3) (N := 5) hx hb hts inX3 tyX3 tyX3_ok nmX3 hown hE.1 hP hD hS 17 rfl rfl 2 (by decide) F188 (fun _ h9 => h9) rfl (by decide +kernel) rfl rfl (Nat.le_of_ble_eq_true rfl) dX3_saveState_16 (fun H locs hP hD hS => ?_)
    have hP : va_P D vwCl (townW K a T ++ (waysW K b len qu n ++ (textW K t cs ln ++ (mainW K a b t c g 4 ++ svW K g Sv X)))) H := hP
    have hD : va_D A (townW K a T ++ (waysW K b len qu n ++ (textW K t cs ln ++ (mainW K a b t c g 4 ++ svW K g Sv X)))) := hD
    refine lv_goto (tgt := 26) hx hb dX3_saveState_19 (by decide) ?_
    refine lv_aload_n hx hb dX3_saveState_26 rfl (lv_at hl 0 rfl) ?_
    refine va_get (D := D) (ci := 3) (v := .int (nI 4)) (C := RX3) (T := TX3) (N := 5) hx hb hts inX3 hown hE.1 hP 17 rfl rfl 2 (by decide) F188 (fun _ h9 => h9) rfl dX3_saveState_27 ?_
    refine lv_iconst (v := nI 1) hx hb dX3_saveState_30 (by decide) ?_
    refine nv_isub (x := 4) (y := 1) hx hb dX3_saveState_31 (by omega) ?_
    refine lv_istore_n (lv' := [(1, .int (nI 3)), (0, .ref (c 0))]) hx hb dX3_saveState_32 rfl hl (by decide) rfl (fun ls hl => ?_)
    refine lv_iload_n hx hb dX3_saveState_33 rfl (lv_at hl 0 rfl) ?_
    refine nv_if_lt (x := 3) (tgt := 65) hx hb dX3_saveState_34 (by decide) (by decide) ?_
    refine lv_iload_n hx hb dX3_saveState_37 rfl (lv_at hl 0 rfl) ?_
    refine lv_bipush (v := nI 6) hx hb dX3_saveState_38 (by decide) ?_
    refine nv_icmp_ge (x := 3) (y := 6) (tgt := 65) hx hb dX3_saveState_40 (by decide) (by decide) (by decide) (fun c_12 => ?_) (fun c_12 => ?_)
    · exact absurd c_12 (by decide)
    have n_c_12 := Nat.not_le.mpr c_12
    refine lv_aload_n hx hb dX3_saveState_43 rfl (lv_at hl 1 rfl) ?_
    refine va_get (D := D) (ci := 3) (v := .ref (c 1)) (C := RX3) (T := TX3) (N := 5) hx hb hts inX3 hown hE.1 hP 17 rfl rfl 1 (by decide) F16 (fun _ h9 => h9) rfl dX3_saveState_44 ?_
    refine lv_iload_n hx hb dX3_saveState_47 rfl (lv_at hl 0 rfl) ?_
    refine nv_aald hx hb hE hP 18 3 (fun j => g j 0) rfl (by decide) (by decide) dX3_saveState_48 ?_
    refine lv_ifnull hx hb dX3_saveState_49 ?_
    refine lv_aload_n hx hb dX3_saveState_52 rfl (lv_at hl 1 rfl) ?_
    refine va_get (D := D) (ci := 3) (v := .ref (c 1)) (C := RX3) (T := TX3) (N := 5) hx hb hts inX3 hown hE.1 hP 17 rfl rfl 1 (by decide) F16 (fun _ h9 => h9) rfl dX3_saveState_53 ?_
    refine lv_iload_n hx hb dX3_saveState_56 rfl (lv_at hl 0 rfl) ?_
    refine nv_aald hx hb hE hP 18 3 (fun j => g j 0) rfl (by decide) (by decide) dX3_saveState_57 ?_
    refine lv_aload_n hx hb dX3_saveState_58 rfl (lv_at hl 1 rfl) ?_
    refine va_get (D := D) (ci := 3) (v := .ref (a 0)) (C := RX3) (T := TX3) (N := 5) hx hb hts inX3 hown hE.1 hP 17 rfl rfl 0 (by decide) F12 (fun _ h9 => h9) rfl dX3_saveState_59 ?_
    refine wr_V (rest := []) (ci := 1) (q0 := 55) ⟨hx, hb, hml, hown, hts⟩ hP hE hA hD hS (c_X1_copyFrom_s3 l D K _ _ _ _ _ _ _ _ _ _ _ _ _ _ _) (cwV 1 hts gX3_saveState_X1_copyFrom rfl rfl rfl hd_X1_copyFrom ⟨Nat.le_of_ble_eq_true rfl, Nat.le_of_ble_eq_true rfl⟩) rfl rfl rfl rfl hl.1 rfl (Nat.le_of_ble_eq_true rfl) dX3_saveState_62 ⟨Nat.le_of_ble_eq_true rfl, Nat.le_of_ble_eq_true rfl⟩ (fun H locs hP hD hS => ?_)
    have hP : va_P D vwCl (townW K a T ++ (waysW K b len qu n ++ (textW K t cs ln ++ (mainW K a b t c g 4 ++ svW K g (va_up Sv 3 T) X)))) H := hP
    have hD : va_D A (townW K a T ++ (waysW K b len qu n ++ (textW K t cs ln ++ (mainW K a b t c g 4 ++ svW K g (va_up Sv 3 T) X)))) := hD
    have hP : va_P D vwCl (townW K a T ++ (waysW K b len qu n ++ (textW K t cs ln ++ (mainW K a b t c (svG g 3) (svN 3) ++ svW K (svG g 3) (svV Sv 3 T) X)))) H := hP
    have hD : va_D A (townW K a T ++ (waysW K b len qu n ++ (textW K t cs ln ++ (mainW K a b t c (svG g 3) (svN 3) ++ svW K (svG g 3) (svV Sv 3 T) X)))) := hD
    exact wr_vret hAe hP hD hS hx hb hr hk dX3_saveState_65 ⟨Nat.le_of_ble_eq_true rfl, Nat.le_of_ble_eq_true rfl⟩
  · refine lv_aload_n hx hb dX3_saveState_0 rfl (lv_at hl 0 rfl) ?_
    refine va_get (D := D) (ci := 3) (v := .int (nI 4)) (C := RX3) (T := TX3) (N := 5) hx hb hts inX3 hown hE.1 hP 17 rfl rfl 2 (by decide) F188 (fun _ h9 => h9) rfl dX3_saveState_1 ?_
    refine lv_bipush (v := nI 6) hx hb dX3_saveState_4 (by decide) ?_
    refine nv_icmp_ge (x := 4) (y := 6) (tgt := 22) hx hb dX3_saveState_6 (by decide) (by decide) (by decide) (fun c_13 => ?_) (fun c_13 => ?_)
    · exact absurd c_13 (by decide)
    have n_c_13 := Nat.not_le.mpr c_13
    refine lv_aload_n hx hb dX3_saveState_9 rfl (lv_at hl 0 rfl) ?_
    refine lv_dup hx hb dX3_saveState_10 rfl ?_
    refine va_get (D := D) (ci := 3) (v := .int (nI 4)) (C := RX3) (T := TX3) (N := 5) hx hb hts inX3 hown hE.1 hP 17 rfl rfl 2 (by decide) F188 (fun _ h9 => h9) rfl dX3_saveState_11 ?_
    refine lv_iconst (v := nI 1) hx hb dX3_saveState_14 (by decide) ?_
    refine nv_iadd (x := 4) (y := 1) hx hb dX3_saveState_15 ?_
    refine va_put (D := D) (ci := 3) (v := .int (nI 5)) (ty := .int) (C := RX3) (T := TX3) (N := 5) hx hb hts inX3 tyX3 tyX3_ok nmX3 hown hE.1 hP hD hS 17 rfl rfl 2 (by decide) F188 (fun _ h9 => h9) rfl (by decide +kernel) rfl rfl (Nat.le_of_ble_eq_true rfl) dX3_saveState_16 (fun H locs hP hD hS => ?_)
    have hP : va_P D vwCl (townW K a T ++ (waysW K b len qu n ++ (textW K t cs ln ++ (mainW K a b t c g 5 ++ svW K g Sv X)))) H := hP
    have hD : va_D A (townW K a T ++ (waysW K b len qu n ++ (textW K t cs ln ++ (mainW K a b t c g 5 ++ svW K g Sv X)))) := hD
    refine lv_goto (tgt := 26) hx hb dX3_saveState_19 (by decide) ?_
    refine lv_aload_n hx hb dX3_saveState_26 rfl (lv_at hl 0 rfl) ?_
    refine va_get (D := D) (ci := 3) (v := .int (nI 5)) (C := RX3) (T := TX3) (N := 5) hx hb hts inX3 hown hE.1 hP 17 rfl rfl 2 (by decide) F188 (fun _ h9 => h9) rfl dX3_saveState_27 ?_
    refine lv_iconst (v := nI 1) hx hb dX3_saveState_30 (by decide) ?_
    refine nv_isub (x := 5) (y := 1) hx hb dX3_saveState_31 (by omega) ?_
    refine lv_istore_n (lv' := [(1, .int (nI 4)), (0, .ref (c 0))]) hx hb dX3_saveState_32 rfl hl (by decide) rfl (fun ls hl => ?_)
    refine lv_iload_n hx hb dX3_saveState_33 rfl (lv_at hl 0 rfl) ?_
    refine nv_if_lt (x := 4) (tgt := 65) hx hb dX3_saveState_34 (by decide) (by decide) ?_
    refine lv_iload_n hx hb dX3_saveState_37 rfl (lv_at hl 0 rfl) ?_
    refine lv_bipush (v := nI 6) hx hb dX3_saveState_38 (by decide) ?_
    refine nv_icmp_ge (x := 4) (y := 6) (tgt := 65) hx hb dX3_saveState_40 (by decide) (by decide) (by decide) (fun c_15 => ?_) (fun c_15 => ?_)
    · exact absurd c_15 (by decide)
    have n_c_15 := Nat.not_le.mpr c_15
    refine lv_aload_n hx hb dX3_saveState_43 rfl (lv_at hl 1 rfl) ?_
    refine va_get (D := D) (ci := 3) (v := .ref (c 1)) (C := RX3) (T := TX3) (N := 5) hx hb hts inX3 hown hE.1 hP 17 rfl rfl 1 (by decide) F16 (fun _ h9 => h9) rfl dX3_saveState_44 ?_
    refine lv_iload_n hx hb dX3_saveState_47 rfl (lv_at hl 0 rfl) ?_
    refine nv_aald hx hb hE hP 18 4 (fun j => g j 0) rfl (by decide) (by decide) dX3_saveState_48 ?_
    refine lv_ifnull hx hb dX3_saveState_49 ?_
    refine lv_aload_n hx hb dX3_saveState_52 rfl (lv_at hl 1 rfl) ?_
    refine va_get (D := D) (ci := 3) (v := .ref (c 1)) (C := RX3) (T := TX3) (N := 5) hx hb hts inX3 hown hE.1 hP 17 rfl rfl 1 (by decide) F16 (fun _ h9 => h9) rfl dX3_saveState_53 ?_
    refine lv_iload_n hx hb dX3_saveState_56 rfl (lv_at hl 0 rfl) ?_
    refine nv_aald hx hb hE hP 18 4 (fun j => g j 0) rfl (by decide) (by decide) dX3_saveState_57 ?_
    refine lv_aload_n hx hb dX3_saveState_58 rfl (lv_at hl 1 rfl) ?_
    refine va_get (D := D) (ci := 3) (v := .ref (a 0)) (C := RX3) (T := TX3) (N := 5) hx hb hts inX3 hown hE.1 hP 17 rfl rfl 0 (by decide) F12 (fun _ h9 => h9) rfl dX3_saveState_59 ?_
    refine wr_V (rest := []) (ci := 1) (q0 := 67) ⟨hx, hb, hml, hown, hts⟩ hP hE hA hD hS (c_X1_copyFrom_s4 l D K _ _ _ _ _ _ _ _ _ _ _ _ _ _ _) (cwV 1 hts gX3_saveState_X1_copyFrom rfl rfl rfl hd_X1_copyFrom ⟨Nat.le_of_ble_eq_true rfl, Nat.le_of_ble_eq_true rfl⟩) rfl rfl rfl rfl hl.1 rfl (Nat.le_of_ble_eq_true rfl) dX3_saveState_62 ⟨Nat.le_of_ble_eq_true rfl, Nat.le_of_ble_eq_true rfl⟩ (fun H locs hP hD hS => ?_)
    have hP : va_P D vwCl (townW K a T ++ (waysW K b len qu n ++ (textW K t cs ln ++ (mainW K a b t c g 5 ++ svW K g (va_up Sv 4 T) X)))) H := hP
    have hD : va_D A (townW K a T ++ (waysW K b len qu n ++ (textW K t cs ln ++ (mainW K a b t c g 5 ++ svW K g (va_up Sv 4 T) X)))) := hD
    have hP : va_P D vwCl (townW K a T ++ (waysW K b len qu n ++ (textW K t cs ln ++ (mainW K a b t c (svG g 4) (svN 4) ++ svW K (svG g 4) (svV Sv 4 T) X)))) H := hP
    have hD : va_D A (townW K a T ++ (waysW K b len qu n ++ (textW K t cs ln ++ (mainW K a b t c (svG g 4) (svN 4) ++ svW K (svG g 4) (svV Sv 4 T) X)))) := hD
    exact wr_vret hAe hP hD hS hx hb hr hk dX3_saveState_65 ⟨Nat.le_of_ble_eq_true rfl, Nat.le_of_ble_eq_true rfl⟩
  · refine lv_aload_n hx hb dX3_saveState_0 rfl (lv_at hl 0 rfl) ?_
    refine va_get (D := D) (ci := 3) (v := .int (nI 5)) (C := RX3) (T := TX3) (N := 5) hx hb hts inX3 hown hE.1 hP 17 rfl rfl 2 (by decide) F188 (fun _ h9 => h9) rfl dX3_saveState_1 ?_
    refine lv_bipush (v := nI 6) hx hb dX3_saveState_4 (by decide) ?_
    refine nv_icmp_ge (x := 5) (y := 6) (tgt := 22) hx hb dX3_saveState_6 (by decide) (by decide) (by decide) (fun c_16 => ?_) (fun c_16 => ?_)
    · exact absurd c_16 (by decide)
    have n_c_16 := Nat.not_le.mpr c_16
    refine lv_aload_n hx hb dX3_saveState_9 rfl (lv_at hl 0 rfl) ?_
    refine lv_dup hx hb dX3_saveState_10 rfl ?_
    refine va_get (D := D) (ci := 3) (v := .int (nI 5)) (C := RX3) (T := TX3) (N := 5) hx hb hts inX3 hown hE.1 hP 17 rfl rfl 2 (by decide) F188 (fun _ h9 => h9) rfl dX3_saveState_11 ?_
    refine lv_iconst (v := nI 1) hx hb dX3_saveState_14 (by decide) ?_
    refine nv_iadd (x := 5) (y := 1) hx hb dX3_saveState_15 ?_
    refine va_put (D := D) (ci := 3) (v := .int (nI 6)) (ty := .int) (C := RX3) (T := TX3) (N := 5) hx hb hts inX3 tyX3 tyX3_ok nmX3 hown hE.1 hP hD hS 17 rfl rfl 2 (by decide) F188 (fun _ h9 => h9) rfl (by decide +kernel) rfl rfl (Nat.le_of_ble_eq_true rfl) dX3_saveState_16 (fun H locs hP hD hS => ?_)
    have hP : va_P D vwCl (townW K a T ++ (waysW K b len qu n ++ (textW K t cs ln ++ (mainW K a b t c g 6 ++ svW K g Sv X)))) H := hP
    have hD : va_D A (townW K a T ++ (waysW K b len qu n ++ (textW K t cs ln ++ (mainW K a b t c g 6 ++ svW K g Sv X)))) := hD
    refine lv_goto (tgt := 26) hx hb dX3_saveState_19 (by decide) ?_
    refine lv_aload_n hx hb dX3_saveState_26 rfl (lv_at hl 0 rfl) ?_
    refine va_get (D := D) (ci := 3) (v := .int (nI 6)) (C := RX3) (T := TX3) (N := 5) hx hb hts inX3 hown hE.1 hP 17 rfl rfl 2 (by decide) F188 (fun _ h9 => h9) rfl dX3_saveState_27 ?_
    refine lv_iconst (v := nI 1) hx hb dX3_saveState_30 (by decide) ?_
    refine nv_isub (x := 6) (y := 1) hx hb dX3_saveState_31 (by omega) ?_
    refine lv_istore_n (lv' := [(1, .int (nI 5)), (0, .ref (c 0))]) hx hb dX3_saveState_32 rfl hl (by decide) rfl (fun ls hl => ?_)
    refine lv_iload_n hx hb dX3_saveState_33 rfl (lv_at hl 0 rfl) ?_
    refine nv_if_lt (x := 5) (tgt := 65) hx hb dX3_saveState_34 (by decide) (by decide) ?_
    refine lv_iload_n hx hb dX3_saveState_37 rfl (lv_at hl 0 rfl) ?_
    refine lv_bipush (v := nI 6) hx hb dX3_saveState_38 (by decide) ?_
    refine nv_icmp_ge (x := 5) (y := 6) (tgt := 65) hx hb dX3_saveState_40 (by decide) (by decide) (by decide) (fun c_18 => ?_) (fun c_18 => ?_)
    · exact absurd c_18 (by decide)
    have n_c_18 := Nat.not_le.mpr c_18
    refine lv_aload_n hx hb dX3_saveState_43 rfl (lv_at hl 1 rfl) ?_
    refine va_get (D := D) (ci := 3) (v := .ref (c 1)) (C := RX3) (T := TX3) (N := 5) hx hb hts inX3 hown hE.1 hP 17 rfl rfl 1 (by decide) F16 (fun _ h9 => h9) rfl dX3_saveState_44 ?_
    refine lv_iload_n hx hb dX3_saveState_47 rfl (lv_at hl 0 rfl) ?_
    refine nv_aald hx hb hE hP 18 5 (fun j => g j 0) rfl (by decide) (by decide) dX3_saveState_48 ?_
    refine lv_ifnull hx hb dX3_saveState_49 ?_
    refine lv_aload_n hx hb dX3_saveState_52 rfl (lv_at hl 1 rfl) ?_
    refine va_get (D := D) (ci := 3) (v := .ref (c 1)) (C := RX3) (T := TX3) (N := 5) hx hb hts inX3 hown hE.1 hP 17 rfl rfl 1 (by decide) F16 (fun _ h9 => h9) rfl dX3_saveState_53 ?_
    refine lv_iload_n hx hb dX3_saveState_56 rfl (lv_at hl 0 rfl) ?_
    refine nv_aald hx hb hE hP 18 5 (fun j => g j 0) rfl (by decide) (by decide) dX3_saveState_57 ?_
    refine lv_aload_n hx hb dX3_saveState_58 rfl (lv_at hl 1 rfl) ?_
    refine va_get (D := D) (ci := 3) (v := .ref (a 0)) (C := RX3) (T := TX3) (N := 5) hx hb hts inX3 hown hE.1 hP 17 rfl rfl 0 (by decide) F12 (fun _ h9 => h9) rfl dX3_saveState_59 ?_
    refine wr_V (rest := []) (ci := 1) (q0 := 79) ⟨hx, hb, hml, hown, hts⟩ hP hE hA hD hS (c_X1_copyFrom_s5 l D K _ _ _ _ _ _ _ _ _ _ _ _ _ _ _) (cwV 1 hts gX3_saveState_X1_copyFrom rfl rfl rfl hd_X1_copyFrom ⟨Nat.le_of_ble_eq_true rfl, Nat.le_of_ble_eq_true rfl⟩) rfl rfl rfl rfl hl.1 rfl (Nat.le_of_ble_eq_true rfl) dX3_saveState_62 ⟨Nat.le_of_ble_eq_true rfl, Nat.le_of_ble_eq_true rfl⟩ (fun H locs hP hD hS => ?_)
    have hP : va_P D vwCl (townW K a T ++ (waysW K b len qu n ++ (textW K t cs ln ++ (mainW K a b t c g 6 ++ svW K g (va_up Sv 5 T) X)))) H := hP
    have hD : va_D A (townW K a T ++ (waysW K b len qu n ++ (textW K t cs ln ++ (mainW K a b t c g 6 ++ svW K g (va_up Sv 5 T) X)))) := hD
    have hP : va_P D vwCl (townW K a T ++ (waysW K b len qu n ++ (textW K t cs ln ++ (mainW K a b t c (svG g 5) (svN 5) ++ svW K (svG g 5) (svV Sv 5 T) X)))) H := hP
    have hD : va_D A (townW K a T ++ (waysW K b len qu n ++ (textW K t cs ln ++ (mainW K a b t c (svG g 5) (svN 5) ++ svW K (svG g 5) (svV Sv 5 T) X)))) := hD
    exact wr_vret hAe hP hD hS hx hb hr hk dX3_saveState_65 ⟨Nat.le_of_ble_eq_true rfl, Nat.le_of_ble_eq_true rfl⟩
  · refine lv_aload_n hx hb dX3_saveState_0 rfl (lv_at hl 0 rfl) ?_
    refine va_get (D := D) (ci := 3) (v := .int (nI 6)) (C := RX3) (T := TX3) (N := 5) hx hb hts inX3 hown hE.1 hP 17 rfl rfl 2 (by decide) F188 (fun _ h9 => h9) rfl dX3_saveState_1 ?_
    refine lv_bipush (v := nI 6) hx hb dX3_saveState_4 (by decide) ?_
    refine nv_icmp_ge (x := 6) (y := 6) (tgt := 22) hx hb dX3_saveState_6 (by decide) (by decide) (by decide) (fun c_19 => ?_) (fun c_19 => ?_)
    · have n_c_19 := Nat.not_lt.mpr c_19
      refine lv_aload_n hx hb dX3_saveState_22 rfl (lv_at hl 0 rfl) ?_
      refine wr_V (rest := []) (ci := 3) (q0 := 17) ⟨hx, hb, hml, hown, hts⟩ hP hE hA hD hS (c_X3_dropOldestState l D K _ _ _ _ _ _ _ _ _ _ _ _ _ 6 _) (cwV 0 hts gX3_saveState_X3_dropOldestState rfl rfl rfl hd_X3_dropOldestState ⟨Nat.le_of_ble_eq_true rfl, Nat.le_of_ble_eq_true rfl⟩) rfl rfl rfl rfl hl.1 rfl (Nat.le_of_ble_eq_true rfl) dX3_saveState_23 ⟨Nat.le_of_ble_eq_true rfl, Nat.le_of_ble_eq_true rfl⟩ (fun H locs hP hD hS => ?_)
      have hP : va_P D vwCl (townW K a T ++ (waysW K b len qu n ++ (textW K t cs ln ++ (mainW K a b t c (rotG g) 6 ++ svW K g Sv X)))) H := hP
      have hD : va_D A (townW K a T ++ (waysW K b len qu n ++ (textW K t cs ln ++ (mainW K a b t c (rotG g) 6 ++ svW K g Sv X)))) := hD
      refine lv_aload_n hx hb dX3_saveState_26 rfl (lv_at hl 0 rfl) ?_
      refine va_get (D := D) (ci := 3) (v := .int (nI 6)) (C := RX3) (T := TX3) (N := 5) hx hb hts inX3 hown hE.1 hP 17 rfl rfl 2 (by decide) F188 (fun _ h9 => h9) rfl dX3_saveState_27 ?_
      refine lv_iconst (v := nI 1) hx hb dX3_saveState_30 (by decide) ?_
      refine nv_isub (x := 6) (y := 1) hx hb dX3_saveState_31 (by omega) ?_
      refine lv_istore_n (lv' := [(1, .int (nI 5)), (0, .ref (c 0))]) hx hb dX3_saveState_32 rfl hl (by decide) rfl (fun ls hl => ?_)
      refine lv_iload_n hx hb dX3_saveState_33 rfl (lv_at hl 0 rfl) ?_
      refine nv_if_lt (x := 5) (tgt := 65) hx hb dX3_saveState_34 (by decide) (by decide) ?_
      refine lv_iload_n hx hb dX3_saveState_37 rfl (lv_at hl 0 rfl) ?_
      refine lv_bipush (v := nI 6) hx hb dX3_saveState_38 (by decide) ?_
      refine nv_icmp_ge (x := 5) (y := 6) (tgt := 65) hx hb dX3_saveState_40 (by decide) (by decide) (by decide) (fun c_21 => ?_) (fun c_21 => ?_)
      · exact absurd c_21 (by decide)
      have n_c_21 := Nat.not_le.mpr c_21
      refine lv_aload_n hx hb dX3_saveState_43 rfl (lv_at hl 1 rfl) ?_
      refine va_get (D := D) (ci := 3) (v := .ref (c 1)) (C := RX3) (T := TX3) (N := 5) hx hb hts inX3 hown hE.1 hP 17 rfl rfl 1 (by decide) F16 (fun _ h9 => h9) rfl dX3_saveState_44 ?_
      refine lv_iload_n hx hb dX3_saveState_47 rfl (lv_at hl 0 rfl) ?_
      refine nv_aald hx hb hE hP 18 5 (fun j => (rotG g) j 0) rfl (by decide) (by decide) dX3_saveState_48 ?_
      refine lv_ifnull hx hb dX3_saveState_49 ?_
      refine lv_aload_n hx hb dX3_saveState_52 rfl (lv_at hl 1 rfl) ?_
      refine va_get (D := D) (ci := 3) (v := .ref (c 1)) (C := RX3) (T := TX3) (N := 5) hx hb hts inX3 hown hE.1 hP 17 rfl rfl 1 (by decide) F16 (fun _ h9 => h9) rfl dX3_saveState_53 ?_
      refine lv_iload_n hx hb dX3_saveState_56 rfl (lv_at hl 0 rfl) ?_
      refine nv_aald hx hb hE hP 18 5 (fun j => (rotG g) j 0) rfl (by decide) (by decide) dX3_saveState_57 ?_
      refine lv_aload_n hx hb dX3_saveState_58 rfl (lv_at hl 1 rfl) ?_
      refine va_get (D := D) (ci := 3) (v := .ref (a 0)) (C := RX3) (T := TX3) (N := 5) hx hb hts inX3 hown hE.1 hP 17 rfl rfl 0 (by decide) F12 (fun _ h9 => h9) rfl dX3_saveState_59 ?_
      refine wr_V (rest := []) (ci := 1) (q0 := 19) ⟨hx, hb, hml, hown, hts⟩ hP hE hA hD hS (c_X1_copyFrom_s0 l D K _ _ _ _ _ _ _ _ _ _ _ _ _ _ _) (cwV 1 hts gX3_saveState_X1_copyFrom rfl rfl rfl hd_X1_copyFrom ⟨Nat.le_of_ble_eq_true rfl, Nat.le_of_ble_eq_true rfl⟩) rfl rfl rfl rfl hl.1 rfl (Nat.le_of_ble_eq_true rfl) dX3_saveState_62 ⟨Nat.le_of_ble_eq_true rfl, Nat.le_of_ble_eq_true rfl⟩ (fun H locs hP hD hS => ?_)
      have hP : va_P D vwCl (townW K a T ++ (waysW K b len qu n ++ (textW K t cs ln ++ (mainW K a b t c (rotG g) 6 ++ svW K g (va_up Sv 0 T) X)))) H := hP
      have hD : va_D A (townW K a T ++ (waysW K b len qu n ++ (textW K t cs ln ++ (mainW K a b t c (rotG g) 6 ++ svW K g (va_up Sv 0 T) X)))) := hD
      have hpe : (townW K a T ++ (waysW K b len qu n ++ (textW K t cs ln ++ (mainW K a b t c (rotG g) 6 ++ svW K g (va_up Sv 0 T) X)))).Perm (townW K a T ++ (waysW K b len qu n ++ (textW K t cs ln ++ (mainW K a b t c (rotG g) 6 ++ svW K (rotG g) (rotS Sv T) X)))) := List.Perm.append_left _ (List.Perm.append_left _ (List.Perm.append_left _ (List.Perm.append_left _ (sv_perm K g Sv T X))))
      have hP := hP.perm hpe
      have hD := hD.perm hpe
      have hP : va_P D vwCl (townW K a T ++ (waysW K b len qu n ++ (textW K t cs ln ++ (mainW K a b t c (svG g 6) (svN 6) ++ svW K (svG g 6) (svV Sv 6 T) X)))) H := hP
      have hD : va_D A (townW K a T ++ (waysW K b len qu n ++ (textW K t cs ln ++ (mainW K a b t c (svG g 6) (svN 6) ++ svW K (svG g 6) (svV Sv 6 T) X)))) := hD
      exact wr_vret hAe hP hD hS hx hb hr hk dX3_saveState_65 ⟨Nat.le_of_ble_eq_true rfl, Nat.le_of_ble_eq_true rfl⟩
    exact absurd c_19 (by decide)
