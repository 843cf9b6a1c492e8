theorem hd_X2_bestDirection : yX2_bestDirection.cls = RX2 ∧ yX2_bestDirection.cls ≠ "java/lang/invoke/MethodHandle" ∧ yX2_bestDirection.cls ≠ "java/lang/invoke/VarHandle" ∧ (parseMethodDescriptor yX2_bestDirection.desc).map (fun d => d.parameters.length) = some 3 := by decide +kernel
theorem hn_X2_bestDirection : yX2_bestDirection.cls ≠ "java/lang/invoke/MethodHandle" ∧ yX2_bestDirection.cls ≠ "java/lang/invoke/VarHandle" ∧ (parseMethodDescriptor yX2_bestDirection.desc).map (fun d => d.parameters.length) = some 3 := hd_X2_bestDirection.2
set_option maxHeartbeats 4000000 in
set_option maxRecDepth 100000 in
theorem c_X2_bestDirection (l : Launch) (D : va_G) (K : Nat → ClassId) (sz : Nat) (a b : Nat → Nat) (T : TW) (X : va_W) (len : Nat → Option Nat) (qu : Nat → Nat) (n : Nat) (p die : Nat) (hI : Inv T) (hp : p < 4) (hdie : die < 7) : Wr l yX2_bestDirection wsX2_bestDirection ({ frames := 5, cells := 0, slots := 0, locals := 108 } : Room) D K (townW K a T ++ (waysW K b len qu n ++ X)) sz [.ref (b 0), .ref (a 0), .int (nI p), .int (nI die)] (townW K a T ++ (waysW K b (mfS T p qu).1 (mfS T p qu).2.1 (mfS T p qu).2.2 ++ X)) (some (.int (oI (dirB T p die qu)))) 0 0 := by
  refine wr_intro (cc := cX2_bestDirection) (maxL := 13) (ret := (some .int)) (by decide) rfl (Nat.le_of_ble_eq_true rfl) ?_
  intro pr en st md ar bl mt co A hx hb hml hr hts hown hk hsz hAe hP hE hD hS hA hin ls hl
  have hown : st.vm.findClass RX2 = some md.cls := hown
  have hl : lv_has ls 13 [(0, .ref (b 0)), (1, .ref (a 0)), (2, .int (nI p)), (3, .int (nI die))] := hl
  obtain ⟨H, hH⟩ : ∃ z, z = st.heap := ⟨_, rfl⟩
  obtain ⟨locs, hlo⟩ : ∃ z : List Loc, z = [] := ⟨_, rfl⟩
  have hP : va_P D vwCl (townW K a T ++ (waysW K b len qu n ++ X)) H := by rw [hH]; exact hP
  have hS : va_S A st.heap H locs := by rw [hH, hlo]; exact hS
  suffices go : W pr l en (headSpec wsX2_bestDirection ({ frames := 5, cells := 0, slots := 0, locals := 108 } : Room)).room st md ar bl mt co H locs 0 0 (MQ bl (wrQ D (townW K a T ++ (waysW K b len qu n ++ X)) (townW K a T ++ (waysW K b (mfS T p qu).1 (mfS T p qu).2.1 (mfS T p qu).2.2 ++ X)) sz (some (.int (oI (dirB T p die qu))))) ar st 0 0 A) (F0 md 0 ls []) by rw [hH, hlo] at go; exact go
  clear hH hlo
  have F68 : (Cond.fieldLink RX2 68 "TramTolls$Town" "heads" "[I").before ar st = true := hts _ (List.mem_of_getElem? (i := 1) rfl)
  have inX1 : ∀ w ∈ u_ws RX1 TX1 12, w ∈ wsX2_bestDirection := fun w h => List.mem_cons_of_mem _ (List.mem_append_left _ (List.mem_append_right _ h))
  have IniX3 : (Cond.initialized RX3).before ar st = true := hts _ (List.mem_of_getElem? (i := 19) rfl)
  have Sta_X3_at : (Cond.static yX3_at).before ar st = true := hts _ (List.mem_of_getElem? (i := 18) rfl)
  have Sta_X3_neighbour : (Cond.static yX3_neighbour).before ar st = true := hts _ (List.mem_of_getElem? (i := 57) rfl)
  have F9 : (Cond.fieldLink RX2 9 "TramTolls$Ways" "lengths" "[I").before ar st = true := hts _ (List.mem_of_getElem? (i := 2) rfl)
  have inX2 : ∀ w ∈ u_ws RX2 TX2 3, w ∈ wsX2_bestDirection := fun w h => List.mem_cons_of_mem _ (List.mem_append_right _ h)
  have Sta_X3_lesser : (Cond.static yX3_lesser).before ar st = true := hts _ (List.mem_of_getElem? (i := 64) rfl)
  refine lv_aload_n hx hb dX2_bestDirection_0 rfl (lv_at hl 0 rfl) ?_
  refine lv_aload_n hx hb dX2_bestDirection_1 rfl (lv_at hl 1 rfl) ?_
  refine lv_iload_n hx hb dX2_bestDirection_2 rfl (lv_at hl 2 rfl) ?_
  refine wr_V (rest := []) (ci := 2) (q0 := 12) ⟨hx, hb, hml, hown, hts⟩ hP hE hA hD hS (c_X2_floodFromMissingStops l D K _ _ _ _ _ _ _ _ p hI (by omega)) (cwV 2 hts gX2_bestDirection_X2_floodFromMissingStops rfl rfl rfl hd_X2_floodFromMissingStops ⟨Nat.le_of_ble_eq_true rfl, Nat.le_of_ble_eq_true rfl⟩) rfl rfl rfl rfl hl.1 rfl (Nat.le_of_ble_eq_true rfl) dX2_bestDirection_3 ⟨Nat.le_of_ble_eq_true rfl, Nat.le_of_ble_eq_true rfl⟩ (fun H locs hP hD hS => ?_)
  have hP : va_P D vwCl (townW K a T ++ (waysW K b (mfS T p qu).1 (mfS T p qu).2.1 (mfS T p qu).2.2 ++ X)) H := hP
  have hD : va_D A (townW K a T ++ (waysW K b (mfS T p qu).1 (mfS T p qu).2.1 (mfS T p qu).2.2 ++ X)) := hD
  refine lv_aload_n hx hb dX2_bestDirection_6 rfl (lv_at hl 0 rfl) ?_
  refine lv_aload_n hx hb dX2_bestDirection_7 rfl (lv_at hl 1 rfl) ?_
  refine lv_iload_n hx hb dX2_bestDirection_8 rfl (lv_at hl 2 rfl) ?_
  refine rd_V (rest := []) (ci := 2) (q0 := 12) ⟨hx, hb, hml, hown, hts⟩ hP hE (c_X2_nearestOfLine l D K _ _ _ _ _ _ _ p hI (by omega) (mf_LB hI qu)) (cwV 2 hts gX2_bestDirection_X2_nearestOfLine rfl rfl rfl hd_X2_nearestOfLine ⟨Nat.le_of_ble_eq_true rfl, Nat.le_of_ble_eq_true rfl⟩) rfl rfl rfl rfl hl.1 rfl (Nat.le_of_ble_eq_true rfl) dX2_bestDirection_9 ⟨Nat.le_of_ble_eq_true rfl, Nat.le_of_ble_eq_true rfl⟩ ?_
  refine lv_istore (lv' := [(4, .int (oI (nolS T p ((mfS T p qu).1) 80))), (0, .ref (b 0)), (1, .ref (a 0)), (2, .int (nI p)), (3, .int (nI die))]) hx hb dX2_bestDirection_12 hl (by decide) rfl (fun ls hl => ?_)
  refine lv_aload_n hx hb dX2_bestDirection_14 rfl (lv_at hl 2 rfl) ?_
  refine va_get (D := D) (ci := 1) (v := .ref (a 7)) (C := RX1) (T := TX1) (N := 12) hx hb hts inX1 hown hE.1 hP 0 rfl rfl 6 (by decide) F68 (fun _ h9 => h9) rfl dX2_bestDirection_15 ?_
  refine lv_iload_n hx hb dX2_bestDirection_18 rfl (lv_at hl 3 rfl) ?_
  refine rd_SN (rest := []) ⟨hx, hb, hml, hown, hts⟩ hP hE (c_X3_at l D K _ 7 _ 4 _ p rfl (by omega) (by omega)) (va_cnB (host := RX3) 2 hts gX2_bestDirection_X3_at_n35 rfl rfl rfl hE.2.2.2.2.2.2.1 IniX3 hn_X3_at ⟨Nat.le_of_ble_eq_true rfl, Nat.le_of_ble_eq_true rfl⟩) Sta_X3_at rfl hl.1 rfl (Nat.le_of_ble_eq_true rfl) dX2_bestDirection_19 ⟨Nat.le_of_ble_eq_true rfl, Nat.le_of_ble_eq_true rfl⟩ ?_
  refine top_i (y := nI (hdT T p)) (show T 6 p = nI (hdT T p) from eq_hd hI (by omega)) ?_
  have hb_1 := hd_lt hI (show p < 4 by omega)
  refine lv_istore (lv' := [(5, .int (nI (hdT T p))), (4, .int (oI (nolS T p ((mfS T p qu).1) 80))), (0, .ref (b 0)), (1, .ref (a 0)), (2, .int (nI p)), (3, .int (nI die))]) hx hb dX2_bestDirection_22 hl (by decide) rfl (fun ls hl => ?_)
  refine lv_iconst (v := -1) hx hb dX2_bestDirection_24 (by decide) ?_
  refine lv_istore (lv' := [(6, .int (-1)), (5, .int (nI (hdT T p))), (4, .int (oI (nolS T p ((mfS T p qu).1) 80))), (0, .ref (b 0)), (1, .ref (a 0)), (2, .int (nI p)), (3, .int (nI die))]) hx hb dX2_bestDirection_25 hl (by decide) rfl (fun ls hl => ?_)
  refine lv_iconst (v := nI 0) hx hb dX2_bestDirection_27 (by decide) ?_
  refine lv_istore (lv' := [(7, .int (nI 0)), (6, .int (-1)), (5, .int (nI (hdT T p))), (4, .int (oI (nolS T p ((mfS T p qu).1) 80))), (0, .ref (b 0)), (1, .ref (a 0)), (2, .int (nI p)), (3, .int (nI die))]) hx hb dX2_bestDirection_28 hl (by decide) rfl (fun ls hl => ?_)
  refine lv_iconst (v := nI 0) hx hb dX2_bestDirection_30 (by decide) ?_
  refine lv_istore (lv' := [(8, .int (nI 0)), (7, .int (nI 0)), (6, .int (-1)), (5, .int (nI (hdT T p))), (4, .int (oI (nolS T p ((mfS T p qu).1) 80))), (0, .ref (b 0)), (1, .ref (a 0)), (2, .int (nI p)), (3, .int (nI die))]) hx hb dX2_bestDirection_31 hl (by decide) rfl (fun ls hl => ?_)
  refine lv_iconst (v := nI 0) hx hb dX2_bestDirection_33 (by decide) ?_
  refine lv_istore (lv' := [(9, .int (nI 0)), (8, .int (nI 0)), (7, .int (nI 0)), (6, .int (-1)), (5, .int (nI (hdT T p))), (4, .int (oI (nolS T p ((mfS T p qu).1) 80))), (0, .ref (b 0)), (1, .ref (a 0)), (2, .int (nI p)), (3, .int (nI die))]) hx hb dX2_bestDirection_34 hl (by decide) rfl (fun ls hl => ?_)
  have loop_2 : ∀ (n_36 : Nat) (d : Nat) (bb : Option Nat) (ba : Nat) (bt : Nat), (d ≤ 4) → (∀ k, bb = some k → k < 4) → (ba ≤ 1001) → (bt ≤ 36) → (bstS T p die (mfS T p qu).1 (nolS T p (mfS T p qu).1 80) d = (bb, ba, bt)) → (4 - d) < n_36 → ∀ (H : Heap) (locs : List Loc), va_P D vwCl (townW K a T ++ (waysW K b (mfS T p qu).1 (mfS T p qu).2.1 (mfS T p qu).2.2 ++ X)) H → va_D A (townW K a T ++ (waysW K b (mfS T p qu).1 (mfS T p qu).2.1 (mfS T p qu).2.2 ++ X)) → va_S A st.heap H locs →  ∀ x_6 : Int32, x_6 = oI bb → ∀ x_7 : Int32, x_7 = nI ba → ∀ x_8 : Int32, x_8 = nI bt → ∀ x_9 : Int32, x_9 = nI d → ∀ ls : Array Slot, lv_has ls 13 [(0, .ref (b 0)), (1, .ref (a 0)), (2, .int (nI p)), (3, .int (nI die)), (4, .int (oI (nolS T p (mfS T p qu).1 80))), (5, .int (nI (hdT T p))), (6, .int x_6), (7, .int x_7), (8, .int x_8), (9, .int x_9)] → W pr l en (headSpec wsX2_bestDirection ({ frames := 5, cells := 0, slots := 0, locals := 108 } : Room)).room st md ar bl mt co H locs 0 0 (MQ bl (wrQ D (townW K a T ++ (waysW K b len qu n ++ X)) (townW K a T ++ (waysW K b (mfS T p qu).1 (mfS T p qu).2.1 (mfS T p qu).2.2 ++ X)) sz (some (.int (oI (dirB T p die qu))))) ar st 0 0 A) (F0 md 36 ls []) := by
    intro n_36
    induction n_36 with
    | zero => intro d bb ba bt _ _ _ _ _ hn_36; exact absurd hn_36 (Nat.not_lt_zero _)
    | succ n_36 ih_36 =>
      intro d bb ba bt hd hbb hba hbt he hn_36 H locs hP hD hS x_6 ex_6 x_7 ex_7 x_8 ex_8 x_9 ex_9 ls hl
      subst ex_6
      subst ex_7
      subst ex_8
      subst ex_9
      have hl : lv_has ls 13 [(0, .ref (b 0)), (1, .ref (a 0)), (2, .int (nI p)), (3, .int (nI die)), (4, .int (oI (nolS T p (mfS T p qu).1 80))), (5, .int (nI (hdT T p))), (6, .int (oI bb)), (7, .int (nI ba)), (8, .int (nI bt)), (9, .int (nI d))] := hl
      refine lv_iload hx hb dX2_bestDirection_36 (lv_at hl 9 rfl) ?_
      refine lv_iconst (v := nI 4) hx hb dX2_bestDirection_38 (by decide) ?_
      refine nv_icmp_ge (x := d) (y := 4) (tgt := 145) hx hb dX2_bestDirection_39 (by decide) (by omega) (by decide) (fun c_3 => ?_) (fun c_3 => ?_)
      · have n_c_3 := Nat.not_lt.mpr c_3
        have e4 : d = 4 := by omega
        refine lv_iload hx hb dX2_bestDirection_145 (lv_at hl 6 rfl) ?_
        exact wr_iret hAe hP hD hS hx hb hr hk dX2_bestDirection_147 ⟨Nat.le_of_ble_eq_true rfl, Nat.le_of_ble_eq_true rfl⟩ (by rw [dirB, ← e4, he])
      · have n_c_3 := Nat.not_le.mpr c_3
        refine lv_aload_n hx hb dX2_bestDirection_42 rfl (lv_at hl 1 rfl) ?_
        refine lv_iload_n hx hb dX2_bestDirection_43 rfl (lv_at hl 2 rfl) ?_
        refine lv_iload hx hb dX2_bestDirection_44 (lv_at hl 5 rfl) ?_
        refine lv_iload_n hx hb dX2_bestDirection_46 rfl (lv_at hl 3 rfl) ?_
        refine lv_iload hx hb dX2_bestDirection_47 (lv_at hl 9 rfl) ?_
        refine rd_V (rest := []) (ci := 1) (q0 := 0) ⟨hx, hb, hml, hown, hts⟩ hP hE (c_X1_reason l D K _ _ _ p (hdT T p) die d hI (by omega) (by omega) (by omega) (by omega)) (cwV 4 hts gX2_bestDirection_X1_reason rfl rfl rfl hd_X1_reason ⟨Nat.le_of_ble_eq_true rfl, Nat.le_of_ble_eq_true rfl⟩) rfl rfl rfl rfl hl.1 rfl (Nat.le_of_ble_eq_true rfl) dX2_bestDirection_49 ⟨Nat.le_of_ble_eq_true rfl, Nat.le_of_ble_eq_true rfl⟩ ?_
        have hb_4 := why_lt T p (hdT T p) die d
        refine nv_if_eq (x := whyT T p (hdT T p) die d) (tgt := 58) hx hb dX2_bestDirection_52 (by decide) (by omega) (fun c_5 => ?_) (fun c_5 => ?_)
        · have n_c_5 : ¬ 0 < whyT T p (hdT T p) die d := by omega
          obtain ⟨to_6, hto_6⟩ := why_nb c_5
          have hbto_6 := nb_lt (show hdT T p < 80 by omega) to_6 hto_6
          refine lv_iload hx hb dX2_bestDirection_58 (lv_at hl 5 rfl) ?_
          refine lv_iload hx hb dX2_bestDirection_60 (lv_at hl 9 rfl) ?_
          refine rd_SN (rest := []) ⟨hx, hb, hml, hown, hts⟩ hP hE (c_X3_neighbour l D K _ (hdT T p) d (by omega) (by omega)) (va_cnB (host := RX3) 2 hts gX2_bestDirection_X3_neighbour_n51 rfl rfl rfl hE.2.2.2.2.2.2.2.1 IniX3 hn_X3_neighbour ⟨Nat.le_of_ble_eq_true rfl, Nat.le_of_ble_eq_true rfl⟩) Sta_X3_neighbour rfl hl.1 rfl (Nat.le_of_ble_eq_true rfl) dX2_bestDirection_62 ⟨Nat.le_of_ble_eq_true rfl, Nat.le_of_ble_eq_true rfl⟩ ?_
          refine top_i (y := nI to_6) (by rw [hto_6]; rfl) ?_
          refine lv_istore (lv' := [(10, .int (nI to_6)), (0, .ref (b 0)), (1, .ref (a 0)), (2, .int (nI p)), (3, .int (nI die)), (4, .int (oI (nolS T p (mfS T p qu).1 80))), (5, .int (nI (hdT T p))), (6, .int (oI bb)), (7, .int (nI ba)), (8, .int (nI bt)), (9, .int (nI d))]) hx hb dX2_bestDirection_65 hl (by decide) rfl (fun ls hl => ?_)
          refine lv_iload hx hb dX2_bestDirection_67 (lv_at hl 5 rfl) ?_
          refine lv_aload_n hx hb dX2_bestDirection_69 rfl (lv_at hl 1 rfl) ?_
          refine va_get (D := D) (ci := 2) (v := .ref (b 1)) (C := RX2) (T := TX2) (N := 3) hx hb hts inX2 hown hE.1 hP 12 rfl rfl 0 (by decide) F9 (fun _ h9 => h9) rfl dX2_bestDirection_70 ?_
          refine lv_iload hx hb dX2_bestDirection_73 (lv_at hl 0 rfl) ?_
          refine rd_SN (rest := [.int (oI (nolS T p (mfS T p qu).1 80))]) ⟨hx, hb, hml, hown, hts⟩ hP hE (c_X3_at l D K _ 13 _ 80 _ to_6 rfl (by omega) (by omega)) (va_cnB (host := RX3) 2 hts gX2_bestDirection_X3_at_n35 rfl rfl rfl hE.2.2.2.2.2.2.1 IniX3 hn_X3_at ⟨Nat.le_of_ble_eq_true rfl, Nat.le_of_ble_eq_true rfl⟩) Sta_X3_at rfl hl.1 rfl (Nat.le_of_ble_eq_true rfl) dX2_bestDirection_75 ⟨Nat.le_of_ble_eq_true rfl, Nat.le_of_ble_eq_true rfl⟩ ?_
          refine top_i (y := oI (((mfS T p qu).1) to_6)) (rfl) ?_
          refine rd_SN (rest := []) ⟨hx, hb, hml, hown, hts⟩ hP hE (c_X3_lesser l D K _ (nolS T p (mfS T p qu).1 80) (((mfS T p qu).1) to_6) (lt31 (nol_lt (mf_LB hI qu) 80 (by decide)) (by decide)) ((mf_LB hI qu).lt (by omega) (by decide))) (va_cnB (host := RX3) 2 hts gX2_bestDirection_X3_lesser_n54 rfl rfl rfl hE.2.2.2.2.2.2.2.2.1 IniX3 hn_X3_lesser ⟨Nat.le_of_ble_eq_true rfl, Nat.le_of_ble_eq_true rfl⟩) Sta_X3_lesser rfl hl.1 rfl (Nat.le_of_ble_eq_true rfl) dX2_bestDirection_78 ⟨Nat.le_of_ble_eq_true rfl, Nat.le_of_ble_eq_true rfl⟩ ?_
          refine lv_istore (lv' := [(11, .int (oI (lesO (nolS T p (mfS T p qu).1 80) (((mfS T p qu).1) to_6)))), (10, .int (nI to_6)), (0, .ref (b 0)), (1, .ref (a 0)), (2, .int (nI p)), (3, .int (nI die)), (4, .int (oI (nolS T p (mfS T p qu).1 80))), (5, .int (nI (hdT T p))), (6, .int (oI bb)), (7, .int (nI ba)), (8, .int (nI bt)), (9, .int (nI d))]) hx hb dX2_bestDirection_81 hl (by decide) rfl (fun ls hl => ?_)
          refine lv_aload_n hx hb dX2_bestDirection_83 rfl (lv_at hl 3 rfl) ?_
          refine lv_iload hx hb dX2_bestDirection_84 (lv_at hl 1 rfl) ?_
          refine rd_V (rest := []) (ci := 1) (q0 := 0) ⟨hx, hb, hml, hown, hts⟩ hP hE (c_X1_tollOn l D K _ _ _ to_6 hI (by omega)) (cwV 1 hts gX2_bestDirection_X1_tollOn rfl rfl rfl hd_X1_tollOn ⟨Nat.le_of_ble_eq_true rfl, Nat.le_of_ble_eq_true rfl⟩) rfl rfl rfl rfl hl.1 rfl (Nat.le_of_ble_eq_true rfl) dX2_bestDirection_86 ⟨Nat.le_of_ble_eq_true rfl, Nat.le_of_ble_eq_true rfl⟩ ?_
          have hb_7 := toll_lt (s := to_6) hI
          refine lv_istore (lv' := [(12, .int (nI (tollT T to_6))), (11, .int (oI (lesO (nolS T p (mfS T p qu).1 80) (((mfS T p qu).1) to_6)))), (10, .int (nI to_6)), (0, .ref (b 0)), (1, .ref (a 0)), (2, .int (nI p)), (3, .int (nI die)), (4, .int (oI (nolS T p (mfS T p qu).1 80))), (5, .int (nI (hdT T p))), (6, .int (oI bb)), (7, .int (nI ba)), (8, .int (nI bt)), (9, .int (nI d))]) hx hb dX2_bestDirection_89 hl (by decide) rfl (fun ls hl => ?_)
          refine lv_iload hx hb dX2_bestDirection_91 (lv_at hl 1 rfl) ?_
          refine lv_iconst (v := -1) hx hb dX2_bestDirection_93 (by decide) ?_
          refine ov_icmp_ne (tgt := 100) hx hb dX2_bestDirection_94 (by decide) (lt31 (les_lt (nol_lt (mf_LB hI qu) 80 (by decide)) ((mf_LB hI qu).le (by omega))) (by decide)) (fun k_9 c_8 => ?_) (fun c_8 => ?_)
          · have hk_c_8 := (les_lt (nol_lt (mf_LB hI qu) 80 (by decide)) ((mf_LB hI qu).le (by omega))) k_9 c_8
            refine lv_iload hx hb dX2_bestDirection_100 (lv_at hl 9 rfl) ?_
            refine lv_iconst (v := -1) hx hb dX2_bestDirection_102 (by decide) ?_
            refine ov_icmp_eq (tgt := 127) hx hb dX2_bestDirection_103 (by decide) (lt31 hbb (by decide)) (fun c_10 => ?_) (fun k_11 c_10 => ?_)
            · refine lv_iload hx hb dX2_bestDirection_127 (lv_at hl 12 rfl) ?_
              refine lv_istore (lv' := [(6, .int (nI d)), (12, .int (nI (tollT T to_6))), (11, .int (oI (lesO (nolS T p (mfS T p qu).1 80) (((mfS T p qu).1) to_6)))), (10, .int (nI to_6)), (0, .ref (b 0)), (1, .ref (a 0)), (2, .int (nI p)), (3, .int (nI die)), (4, .int (oI (nolS T p (mfS T p qu).1 80))), (5, .int (nI (hdT T p))), (7, .int (nI ba)), (8, .int (nI bt)), (9, .int (nI d))]) hx hb dX2_bestDirection_129 hl (by decide) rfl (fun ls hl => ?_)
              refine lv_iload hx hb dX2_bestDirection_131 (lv_at hl 2 rfl) ?_
              refine top_i (y := nI k_9) (by rw [c_8]; rfl) ?_
              refine lv_istore (lv' := [(7, .int (nI k_9)), (6, .int (nI d)), (12, .int (nI (tollT T to_6))), (11, .int (oI (lesO (nolS T p (mfS T p qu).1 80) (((mfS T p qu).1) to_6)))), (10, .int (nI to_6)), (0, .ref (b 0)), (1, .ref (a 0)), (2, .int (nI p)), (3, .int (nI die)), (4, .int (oI (nolS T p (mfS T p qu).1 80))), (5, .int (nI (hdT T p))), (8, .int (nI bt)), (9, .int (nI d))]) hx hb dX2_bestDirection_133 hl (by decide) rfl (fun ls hl => ?_)
              refine lv_iload hx hb dX2_bestDirection_135 (lv_at hl 2 rfl) ?_
              refine lv_istore (lv' := [(8, .int (nI (tollT T to_6))), (7, .int (nI k_9)), (6, .int (nI d)), (12, .int (nI (tollT T to_6))), (11, .int (oI (lesO (nolS T p (mfS T p qu).1 80) (((mfS T p qu).1) to_6)))), (10, .int (nI to_6)), (0, .ref (b 0)), (1, .ref (a 0)), (2, .int (nI p)), (3, .int (nI die)), (4, .int (oI (nolS T p (mfS T p qu).1 80))), (5, .int (nI (hdT T p))), (9, .int (nI d))]) hx hb dX2_bestDirection_137 hl (by decide) rfl (fun ls hl => ?_)
              refine lv_iinc (v := nI (d + 1)) (lv' := [(9, .int (nI (d + 1))), (8, .int (nI (tollT T to_6))), (7, .int (nI k_9)), (6, .int (nI d)), (12, .int (nI (tollT T to_6))), (11, .int (oI (lesO (nolS T p (mfS T p qu).1 80) (((mfS T p qu).1) to_6)))), (10, .int (nI to_6)), (0, .ref (b 0)), (1, .ref (a 0)), (2, .int (nI p)), (3, .int (nI die)), (4, .int (oI (nolS T p (mfS T p qu).1 80))), (5, .int (nI (hdT T p)))]) hx hb dX2_bestDirection_139 hl (k := 12) rfl (nI_add _ 1) (by decide) rfl (fun ls hl => ?_)
              refine lv_goto (tgt := 36) hx hb dX2_bestDirection_142 (by decide) ?_
              exact ih_36 (d + 1) (some d) k_9 (tollT T to_6) (by omega) (fun k q => by cases q; omega) (by omega) (by omega) (bst_new he (by assumption) (by assumption) (by assumption) (by first | exact Or.inl (by assumption) | exact Or.inr (Or.inl (by assumption)) | exact Or.inr (Or.inr ⟨by assumption, by assumption⟩))) (by omega) _ _ hP hD hS _ rfl _ rfl _ rfl _ rfl ls (lv_sub hl [7, 8, 9, 10, 11, 12, 3, 2, 1, 0] rfl)
            · have hk_c_10 := hbb k_11 c_10
              refine lv_iload hx hb dX2_bestDirection_106 (lv_at hl 1 rfl) ?_
              refine top_i (y := nI k_9) (by rw [c_8]; rfl) ?_
              refine lv_iload hx hb dX2_bestDirection_108 (lv_at hl 10 rfl) ?_
              refine nv_icmp_lt (x := k_9) (y := ba) (tgt := 127) hx hb dX2_bestDirection_110 (by decide) (by omega) (by omega) (fun c_12 => ?_) (fun c_12 => ?_)
              · have n_c_12 := Nat.not_le.mpr c_12
                refine lv_iload hx hb dX2_bestDirection_127 (lv_at hl 12 rfl) ?_
                refine lv_istore (lv' := [(6, .int (nI d)), (12, .int (nI (tollT T to_6))), (11, .int (oI (lesO (nolS T p (mfS T p qu).1 80) (((mfS T p qu).1) to_6)))), (10, .int (nI to_6)), (0, .ref (b 0)), (1, .ref (a 0)), (2, .int (nI p)), (3, .int (nI die)), (4, .int (oI (nolS T p (mfS T p qu).1 80))), (5, .int (nI (hdT T p))), (7, .int (nI ba)), (8, .int (nI bt)), (9, .int (nI d))]) hx hb dX2_bestDirection_129 hl (by decide) rfl (fun ls hl => ?_)
                refine lv_iload hx hb dX2_bestDirection_131 (lv_at hl 2 rfl) ?_
                refine top_i (y := nI k_9) (by rw [c_8]; rfl) ?_
                refine lv_istore (lv' := [(7, .int (nI k_9)), (6, .int (nI d)), (12, .int (nI (tollT T to_6))), (11, .int (oI (lesO (nolS T p (mfS T p qu).1 80) (((mfS T p qu).1) to_6)))), (10, .int (nI to_6)), (0, .ref (b 0)), (1, .ref (a 0)), (2, .int (nI p)), (3, .int (nI die)), (4, .int (oI (nolS T p (mfS T p qu).1 80))), (5, .int (nI (hdT T p))), (8, .int (nI bt)), (9, .int (nI d))]) hx hb dX2_bestDirection_133 hl (by decide) rfl (fun ls hl => ?_)
                refine lv_iload hx hb dX2_bestDirection_135 (lv_at hl 2 rfl) ?_
                refine lv_istore (lv' := [(8, .int (nI (tollT T to_6))), (7, .int (nI k_9)), (6, .int (nI d)), (12, .int (nI (tollT T to_6))), (11, .int (oI (lesO (nolS T p (mfS T p qu).1 80) (((mfS T p qu).1) to_6)))), (10, .int (nI to_6)), (0, .ref (b 0)), (1, .ref (a 0)), (2, .int (nI p)), (3, .int (nI die)), (4, .int (oI (nolS T p (mfS T p qu).1 80))), (5, .int (nI (hdT T p))), (9, .int (nI d))]) hx hb dX2_bestDirection_137 hl (by decide) rfl (fun ls hl => ?_)
                refine lv_iinc (v := nI (d + 1)) (lv' := [(9, .int (nI (d + 1))), (8, .int (nI (tollT T to_6))), (7, .int (nI k_9)), (6, .int (nI d)), (12, .int (nI (tollT T to_6))), (11, .int (oI (lesO (nolS T p (mfS T p qu).1 80) (((mfS T p qu).1) to_6)))), (10, .int (nI to_6)), (0, .ref (b 0)), (1, .ref (a 0)), (2, .int (nI p)), (3, .int (nI die)), (4, .int (oI (nolS T p (mfS T p qu).1 80))), (5, .int (nI (hdT T p)))]) hx hb dX2_bestDirection_139 hl (k := 12) rfl (nI_add _ 1) (by decide) rfl (fun ls hl => ?_)
                refine lv_goto (tgt := 36) hx hb dX2_bestDirection_142 (by decide) ?_
                exact ih_36 (d + 1) (some d) k_9 (tollT T to_6) (by omega) (fun k q => by cases q; omega) (by omega) (by omega) (bst_new he (by assumption) (by assumption) (by assumption) (by first | exact Or.inl (by assumption) | exact Or.inr (Or.inl (by assumption)) | exact Or.inr (Or.inr ⟨by assumption, by assumption⟩))) (by omega) _ _ hP hD hS _ rfl _ rfl _ rfl _ rfl ls (lv_sub hl [7, 8, 9, 10, 11, 12, 3, 2, 1, 0] rfl)
              · have n_c_12 := Nat.not_lt.mpr c_12
                refine lv_iload hx hb dX2_bestDirection_113 (lv_at hl 1 rfl) ?_
                refine top_i (y := nI k_9) (by rw [c_8]; rfl) ?_
                refine lv_iload hx hb dX2_bestDirection_115 (lv_at hl 10 rfl) ?_
                refine nv_icmp_ne (x := k_9) (y := ba) (tgt := 139) hx hb dX2_bestDirection_117 (by decide) (by omega) (by omega) (fun c_13 => ?_) (fun c_13 => ?_)
                · refine lv_iinc (v := nI (d + 1)) (lv' := [(9, .int (nI (d + 1))), (12, .int (nI (tollT T to_6))), (11, .int (oI (lesO (nolS T p (mfS T p qu).1 80) (((mfS T p qu).1) to_6)))), (10, .int (nI to_6)), (0, .ref (b 0)), (1, .ref (a 0)), (2, .int (nI p)), (3, .int (nI die)), (4, .int (oI (nolS T p (mfS T p qu).1 80))), (5, .int (nI (hdT T p))), (6, .int (oI bb)), (7, .int (nI ba)), (8, .int (nI bt))]) hx hb dX2_bestDirection_139 hl (k := 12) rfl (nI_add _ 1) (by decide) rfl (fun ls hl => ?_)
                  refine lv_goto (tgt := 36) hx hb dX2_bestDirection_142 (by decide) ?_
                  exact ih_36 (d + 1) bb ba bt (by omega) hbb hba hbt (bst_same he (by intro to_ aw_ q1_ q2_ q3_; first | (exfalso; simp_all; done) | (simp_all; done) | (simp_all; omega))) (by omega) _ _ hP hD hS _ rfl _ rfl _ rfl _ rfl ls (lv_sub hl [4, 5, 6, 7, 8, 9, 10, 11, 12, 0] rfl)
                · refine lv_iload hx hb dX2_bestDirection_120 (lv_at hl 0 rfl) ?_
                  refine lv_iload hx hb dX2_bestDirection_122 (lv_at hl 11 rfl) ?_
                  refine nv_icmp_ge (x := tollT T to_6) (y := bt) (tgt := 139) hx hb dX2_bestDirection_124 (by decide) (by omega) (by omega) (fun c_14 => ?_) (fun c_14 => ?_)
                  · have n_c_14 := Nat.not_lt.mpr c_14
                    refine lv_iinc (v := nI (d + 1)) (lv' := [(9, .int (nI (d + 1))), (12, .int (nI (tollT T to_6))), (11, .int (oI (lesO (nolS T p (mfS T p qu).1 80) (((mfS T p qu).1) to_6)))), (10, .int (nI to_6)), (0, .ref (b 0)), (1, .ref (a 0)), (2, .int (nI p)), (3, .int (nI die)), (4, .int (oI (nolS T p (mfS T p qu).1 80))), (5, .int (nI (hdT T p))), (6, .int (oI bb)), (7, .int (nI ba)), (8, .int (nI bt))]) hx hb dX2_bestDirection_139 hl (k := 12) rfl (nI_add _ 1) (by decide) rfl (fun ls hl => ?_)
                    refine lv_goto (tgt := 36) hx hb dX2_bestDirection_142 (by decide) ?_
                    exact ih_36 (d + 1) bb ba bt (by omega) hbb hba hbt (bst_same he (by intro to_ aw_ q1_ q2_ q3_; first | (exfalso; simp_all; done) | (simp_all; done) | (simp_all; omega))) (by omega) _ _ hP hD hS _ rfl _ rfl _ rfl _ rfl ls (lv_sub hl [4, 5, 6, 7, 8, 9, 10, 11, 12, 0] rfl)
                  · have n_c_14 := Nat.not_le.mpr c_14
                    refine lv_iload hx hb dX2_bestDirection_127 (lv_at hl 12 rfl) ?_
                    refine lv_istore (lv' := [(6, .int (nI d)), (12, .int (nI (tollT T to_6))), (11, .int (oI (lesO (nolS T p (mfS T p qu).1 80) (((mfS T p qu).1) to_6)))), (10, .int (nI to_6)), (0, .ref (b 0)), (1, .ref (a 0)), (2, .int (nI p)), (3, .int (nI die)), (4, .int (oI (nolS T p (mfS T p qu).1 80))), (5, .int (nI (hdT T p))), (7, .int (nI ba)), (8, .int (nI bt)), (9, .int (nI d))]) hx hb dX2_bestDirection_129 hl (by decide) rfl (fun ls hl => ?_)
                    refine lv_iload hx hb dX2_bestDirection_131 (lv_at hl 2 rfl) ?_
                    refine top_i (y := nI k_9) (by rw [c_8]; rfl) ?_
                    refine lv_istore (lv' := [(7, .int (nI k_9)), (6, .int (nI d)), (12, .int (nI (tollT T to_6))), (11, .int (oI (lesO (nolS T p (mfS T p qu).1 80) (((mfS T p qu).1) to_6)))), (10, .int (nI to_6)), (0, .ref (b 0)), (1, .ref (a 0)), (2, .int (nI p)), (3, .int (nI die)), (4, .int (oI (nolS T p (mfS T p qu).1 80))), (5, .int (nI (hdT T p))), (8, .int (nI bt)), (9, .int (nI d))]) hx hb dX2_bestDirection_133 hl (by decide) rfl (fun ls hl => ?_)
                    refine lv_iload hx hb dX2_bestDirection_135 (lv_at hl 2 rfl) ?_
                    refine lv_istore (lv' := [(8, .int (nI (tollT T to_6))), (7, .int (nI k_9)), (6, .int (nI d)), (12, .int (nI (tollT T to_6))), (11, .int (oI (lesO (nolS T p (mfS T p qu).1 80) (((mfS T p qu).1) to_6)))), (10, .int (nI to_6)), (0, .ref (b 0)), (1, .ref (a 0)), (2, .int (nI p)), (3, .int (nI die)), (4, .int (oI (nolS T p (mfS T p qu).1 80))), (5, .int (nI (hdT T p))), (9, .int (nI d))]) hx hb dX2_bestDirection_137 hl (by decide) rfl (fun ls hl => ?_)
                    refine lv_iinc (v := nI (d + 1)) (lv' := [(9, .int (nI (d + 1))), (8, .int (nI (tollT T to_6))), (7, .int (nI k_9)), (6, .int (nI d)), (12, .int (nI (tollT T to_6))), (11, .int (oI (lesO (nolS T p (mfS T p qu).1 80) (((mfS T p qu).1) to_6)))), (10, .int (nI to_6)), (0, .ref (b 0)), (1, .ref (a 0)), (2, .int (nI p)), (3, .int (nI die)), (4, .int (oI (nolS T p (mfS T p qu).1 80))), (5, .int (nI (hdT T p)))]) hx hb dX2_bestDirection_139 hl (k := 12) rfl (nI_add _ 1) (by decide) rfl (fun ls hl => ?_)
                    refine lv_goto (tgt := 36) hx hb dX2_bestDirection_142 (by decide) ?_
                    exact ih_36 (d + 1) (some d) k_9 (tollT T to_6) (by omega) (fun k q => by cases q; omega) (by omega) (by omega) (bst_new he (by assumption) (by assumption) (by assumption) (by first | exact Or.inl (by assumption) | exact Or.inr (Or.inl (by assumption)) | exact Or.inr (Or.inr ⟨by assumption, by assumption⟩))) (by omega) _ _ hP hD hS _ rfl _ rfl _ rfl _ rfl ls (lv_sub hl [7, 8, 9, 10, 11, 12, 3, 2, 1, 0] rfl)
          · refine lv_goto (tgt := 139) hx hb dX2_bestDirection_97 (by decide) ?_
            refine lv_iinc (v := nI (d + 1)) (lv' := [(9, .int (nI (d + 1))), (12, .int (nI (tollT T to_6))), (11, .int (oI (lesO (nolS T p (mfS T p qu).1 80) (((mfS T p qu).1) to_6)))), (10, .int (nI to_6)), (0, .ref (b 0)), (1, .ref (a 0)), (2, .int (nI p)), (3, .int (nI die)), (4, .int (oI (nolS T p (mfS T p qu).1 80))), (5, .int (nI (hdT T p))), (6, .int (oI bb)), (7, .int (nI ba)), (8, .int (nI bt))]) hx hb dX2_bestDirection_139 hl (k := 12) rfl (nI_add _ 1) (by decide) rfl (fun ls hl => ?_)
            refine lv_goto (tgt := 36) hx hb dX2_bestDirection_142 (by decide) ?_
            exact ih_36 (d + 1) bb ba bt (by omega) hbb hba hbt (bst_same he (by intro to_ aw_ q1_ q2_ q3_; first | (exfalso; simp_all; done) | (simp_all; done) | (simp_all; omega))) (by omega) _ _ hP hD hS _ rfl _ rfl _ rfl _ rfl ls (lv_sub hl [4, 5, 6, 7, 8, 9, 10, 11, 12, 0] rfl)
        · have n_c_5 : ¬ whyT T p (hdT T p) die d = 0 := by omega
          refine lv_goto (tgt := 139) hx hb dX2_bestDirection_55 (by decide) ?_
          refine lv_iinc (v := nI (d + 1)) (lv' := [(9, .int (nI (d + 1))), (0, .ref (b 0)), (1, .ref (a 0)), (2, .int (nI p)), (3, .int (nI die)), (4, .int (oI (nolS T p (mfS T p qu).1 80))), (5, .int (nI (hdT T p))), (6, .int (oI bb)), (7, .int (nI ba)), (8, .int (nI bt))]) hx hb dX2_bestDirection_139 hl (k := 9) rfl (nI_add _ 1) (by decide) rfl (fun ls hl => ?_)
          refine lv_goto (tgt := 36) hx hb dX2_bestDirection_142 (by decide) ?_
          exact ih_36 (d + 1) bb ba bt (by omega) hbb hba hbt (bst_same he (by intro to_ aw_ q1_ q2_ q3_; first | (exfalso; simp_all; done) | (simp_all; done) | (simp_all; omega))) (by omega) _ _ hP hD hS _ rfl _ rfl _ rfl _ rfl ls (lv_sub hl [1, 2, 3, 4, 5, 6, 7, 8, 9, 0] rfl)
  exact loop_2 _ 0 none 0 0 (by decide) (fun k q => by cases q) (by decide) (by decide) rfl (Nat.lt_succ_self _) _ _ hP hD hS _ rfl _ rfl _ rfl _ rfl ls (lv_sub hl [6, 7, 8, 9, 5, 4, 3, 2, 1, 0] rfl)
