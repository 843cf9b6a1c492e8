theorem hd_X3_house : yX3_house.cls = RX3 ∧ yX3_house.cls ≠ "java/lang/invoke/MethodHandle" ∧ yX3_house.cls ≠ "java/lang/invoke/VarHandle" ∧ (parseMethodDescriptor yX3_house.desc).map (fun d => d.parameters.length) = some 2 := by decide +kernel
theorem hn_X3_house : yX3_house.cls ≠ "java/lang/invoke/MethodHandle" ∧ yX3_house.cls ≠ "java/lang/invoke/VarHandle" ∧ (parseMethodDescriptor yX3_house.desc).map (fun d => d.parameters.length) = some 2 := hd_X3_house.2
theorem hd_X3_stop : yX3_stop.cls = RX3 ∧ yX3_stop.cls ≠ "java/lang/invoke/MethodHandle" ∧ yX3_stop.cls ≠ "java/lang/invoke/VarHandle" ∧ (parseMethodDescriptor yX3_stop.desc).map (fun d => d.parameters.length) = some 2 := by decide +kernel
theorem hn_X3_stop : yX3_stop.cls ≠ "java/lang/invoke/MethodHandle" ∧ yX3_stop.cls ≠ "java/lang/invoke/VarHandle" ∧ (parseMethodDescriptor yX3_stop.desc).map (fun d => d.parameters.length) = some 2 := hd_X3_stop.2
theorem hd_X3_drop : yX3_drop.cls = RX3 ∧ yX3_drop.cls ≠ "java/lang/invoke/MethodHandle" ∧ yX3_drop.cls ≠ "java/lang/invoke/VarHandle" ∧ (parseMethodDescriptor yX3_drop.desc).map (fun d => d.parameters.length) = some 1 := by decide +kernel
theorem hn_X3_drop : yX3_drop.cls ≠ "java/lang/invoke/MethodHandle" ∧ yX3_drop.cls ≠ "java/lang/invoke/VarHandle" ∧ (parseMethodDescriptor yX3_drop.desc).map (fun d => d.parameters.length) = some 1 := hd_X3_drop.2
theorem hd_X3_lay : yX3_lay.cls = RX3 ∧ yX3_lay.cls ≠ "java/lang/invoke/MethodHandle" ∧ yX3_lay.cls ≠ "java/lang/invoke/VarHandle" ∧ (parseMethodDescriptor yX3_lay.desc).map (fun d => d.parameters.length) = some 3 := by decide +kernel
theorem hn_X3_lay : yX3_lay.cls ≠ "java/lang/invoke/MethodHandle" ∧ yX3_lay.cls ≠ "java/lang/invoke/VarHandle" ∧ (parseMethodDescriptor yX3_lay.desc).map (fun d => d.parameters.length) = some 3 := hd_X3_lay.2
theorem hd_X3_branch : yX3_branch.cls = RX3 ∧ yX3_branch.cls ≠ "java/lang/invoke/MethodHandle" ∧ yX3_branch.cls ≠ "java/lang/invoke/VarHandle" ∧ (parseMethodDescriptor yX3_branch.desc).map (fun d => d.parameters.length) = some 3 := by decide +kernel
theorem hn_X3_branch : yX3_branch.cls ≠ "java/lang/invoke/MethodHandle" ∧ yX3_branch.cls ≠ "java/lang/invoke/VarHandle" ∧ (parseMethodDescriptor yX3_branch.desc).map (fun d => d.parameters.length) = some 3 := hd_X3_branch.2
theorem hd_X3_takeUp : yX3_takeUp.cls = RX3 ∧ yX3_takeUp.cls ≠ "java/lang/invoke/MethodHandle" ∧ yX3_takeUp.cls ≠ "java/lang/invoke/VarHandle" ∧ (parseMethodDescriptor yX3_takeUp.desc).map (fun d => d.parameters.length) = some 1 := by decide +kernel
theorem hn_X3_takeUp : yX3_takeUp.cls ≠ "java/lang/invoke/MethodHandle" ∧ yX3_takeUp.cls ≠ "java/lang/invoke/VarHandle" ∧ (parseMethodDescriptor yX3_takeUp.desc).map (fun d => d.parameters.length) = some 1 := hd_X3_takeUp.2
theorem hd_X3_give : yX3_give.cls = RX3 ∧ yX3_give.cls ≠ "java/lang/invoke/MethodHandle" ∧ yX3_give.cls ≠ "java/lang/invoke/VarHandle" ∧ (parseMethodDescriptor yX3_give.desc).map (fun d => d.parameters.length) = some 2 := by decide +kernel
theorem hn_X3_give : yX3_give.cls ≠ "java/lang/invoke/MethodHandle" ∧ yX3_give.cls ≠ "java/lang/invoke/VarHandle" ∧ (parseMethodDescriptor yX3_give.desc).map (fun d => d.parameters.length) = some 2 := hd_X3_give.2
theorem hd_X3_set : yX3_set.cls = RX3 ∧ yX3_set.cls ≠ "java/lang/invoke/MethodHandle" ∧ yX3_set.cls ≠ "java/lang/invoke/VarHandle" ∧ (parseMethodDescriptor yX3_set.desc).map (fun d => d.parameters.length) = some 2 := by decide +kernel
theorem hn_X3_set : yX3_set.cls ≠ "java/lang/invoke/MethodHandle" ∧ yX3_set.cls ≠ "java/lang/invoke/VarHandle" ∧ (parseMethodDescriptor yX3_set.desc).map (fun d => d.parameters.length) = some 2 := hd_X3_set.2
theorem hd_X3_append : yX3_append.cls = RX3 ∧ yX3_append.cls ≠ "java/lang/invoke/MethodHandle" ∧ yX3_append.cls ≠ "java/lang/invoke/VarHandle" ∧ (parseMethodDescriptor yX3_append.desc).map (fun d => d.parameters.length) = some 1 := by decide +kernel
theorem hn_X3_append : yX3_append.cls ≠ "java/lang/invoke/MethodHandle" ∧ yX3_append.cls ≠ "java/lang/invoke/VarHandle" ∧ (parseMethodDescriptor yX3_append.desc).map (fun d => d.parameters.length) = some 1 := hd_X3_append.2
theorem hd_X3_play : yX3_play.cls = RX3 ∧ yX3_play.cls ≠ "java/lang/invoke/MethodHandle" ∧ yX3_play.cls ≠ "java/lang/invoke/VarHandle" ∧ (parseMethodDescriptor yX3_play.desc).map (fun d => d.parameters.length) = some 0 := by decide +kernel
theorem hn_X3_play : yX3_play.cls ≠ "java/lang/invoke/MethodHandle" ∧ yX3_play.cls ≠ "java/lang/invoke/VarHandle" ∧ (parseMethodDescriptor yX3_play.desc).map (fun d => d.parameters.length) = some 0 := hd_X3_play.2
theorem hd_X3_undo : yX3_undo.cls = RX3 ∧ yX3_undo.cls ≠ "java/lang/invoke/MethodHandle" ∧ yX3_undo.cls ≠ "java/lang/invoke/VarHandle" ∧ (parseMethodDescriptor yX3_undo.desc).map (fun d => d.parameters.length) = some 0 := by decide +kernel
theorem hn_X3_undo : yX3_undo.cls ≠ "java/lang/invoke/MethodHandle" ∧ yX3_undo.cls ≠ "java/lang/invoke/VarHandle" ∧ (parseMethodDescriptor yX3_undo.desc).map (fun d => d.parameters.length) = some 0 := hd_X3_undo.2
theorem hd_X3_square : yX3_square.cls = RX3 ∧ yX3_square.cls ≠ "java/lang/invoke/MethodHandle" ∧ yX3_square.cls ≠ "java/lang/invoke/VarHandle" ∧ (parseMethodDescriptor yX3_square.desc).map (fun d => d.parameters.length) = some 2 := by decide +kernel
theorem hn_X3_square : yX3_square.cls ≠ "java/lang/invoke/MethodHandle" ∧ yX3_square.cls ≠ "java/lang/invoke/VarHandle" ∧ (parseMethodDescriptor yX3_square.desc).map (fun d => d.parameters.length) = some 2 := hd_X3_square.2
theorem hd_X3_stopOf : yX3_stopOf.cls = RX3 ∧ yX3_stopOf.cls ≠ "java/lang/invoke/MethodHandle" ∧ yX3_stopOf.cls ≠ "java/lang/invoke/VarHandle" ∧ (parseMethodDescriptor yX3_stopOf.desc).map (fun d => d.parameters.length) = some 2 := by decide +kernel
theorem hn_X3_stopOf : yX3_stopOf.cls ≠ "java/lang/invoke/MethodHandle" ∧ yX3_stopOf.cls ≠ "java/lang/invoke/VarHandle" ∧ (parseMethodDescriptor yX3_stopOf.desc).map (fun d => d.parameters.length) = some 2 := hd_X3_stopOf.2
theorem hd_X3_player : yX3_player.cls = RX3 ∧ yX3_player.cls ≠ "java/lang/invoke/MethodHandle" ∧ yX3_player.cls ≠ "java/lang/invoke/VarHandle" ∧ (parseMethodDescriptor yX3_player.desc).map (fun d => d.parameters.length) = some 2 := by decide +kernel
theorem hn_X3_player : yX3_player.cls ≠ "java/lang/invoke/MethodHandle" ∧ yX3_player.cls ≠ "java/lang/invoke/VarHandle" ∧ (parseMethodDescriptor yX3_player.desc).map (fun d => d.parameters.length) = some 2 := hd_X3_player.2
theorem hd_X3_refusal : yX3_refusal.cls = RX3 ∧ yX3_refusal.cls ≠ "java/lang/invoke/MethodHandle" ∧ yX3_refusal.cls ≠ "java/lang/invoke/VarHandle" ∧ (parseMethodDescriptor yX3_refusal.desc).map (fun d => d.parameters.length) = some 3 := by decide +kernel
theorem hn_X3_refusal : yX3_refusal.cls ≠ "java/lang/invoke/MethodHandle" ∧ yX3_refusal.cls ≠ "java/lang/invoke/VarHandle" ∧ (parseMethodDescriptor yX3_refusal.desc).map (fun d => d.parameters.length) = some 3 := hd_X3_refusal.2
theorem hd_X3_count : yX3_count.cls = RX3 ∧ yX3_count.cls ≠ "java/lang/invoke/MethodHandle" ∧ yX3_count.cls ≠ "java/lang/invoke/VarHandle" ∧ (parseMethodDescriptor yX3_count.desc).map (fun d => d.parameters.length) = some 1 := by decide +kernel
theorem hn_X3_count : yX3_count.cls ≠ "java/lang/invoke/MethodHandle" ∧ yX3_count.cls ≠ "java/lang/invoke/VarHandle" ∧ (parseMethodDescriptor yX3_count.desc).map (fun d => d.parameters.length) = some 1 := hd_X3_count.2
theorem hd_X3_setting : yX3_setting.cls = RX3 ∧ yX3_setting.cls ≠ "java/lang/invoke/MethodHandle" ∧ yX3_setting.cls ≠ "java/lang/invoke/VarHandle" ∧ (parseMethodDescriptor yX3_setting.desc).map (fun d => d.parameters.length) = some 1 := by decide +kernel
theorem hn_X3_setting : yX3_setting.cls ≠ "java/lang/invoke/MethodHandle" ∧ yX3_setting.cls ≠ "java/lang/invoke/VarHandle" ∧ (parseMethodDescriptor yX3_setting.desc).map (fun d => d.parameters.length) = some 1 := hd_X3_setting.2
theorem hd_X3_away : yX3_away.cls = RX3 ∧ yX3_away.cls ≠ "java/lang/invoke/MethodHandle" ∧ yX3_away.cls ≠ "java/lang/invoke/VarHandle" ∧ (parseMethodDescriptor yX3_away.desc).map (fun d => d.parameters.length) = some 2 := by decide +kernel
theorem hn_X3_away : yX3_away.cls ≠ "java/lang/invoke/MethodHandle" ∧ yX3_away.cls ≠ "java/lang/invoke/VarHandle" ∧ (parseMethodDescriptor yX3_away.desc).map (fun d => d.parameters.length) = some 2 := hd_X3_away.2
theorem hd_X3_cheapest : yX3_cheapest.cls = RX3 ∧ yX3_cheapest.cls ≠ "java/lang/invoke/MethodHandle" ∧ yX3_cheapest.cls ≠ "java/lang/invoke/VarHandle" ∧ (parseMethodDescriptor yX3_cheapest.desc).map (fun d => d.parameters.length) = some 2 := by decide +kernel
theorem hn_X3_cheapest : yX3_cheapest.cls ≠ "java/lang/invoke/MethodHandle" ∧ yX3_cheapest.cls ≠ "java/lang/invoke/VarHandle" ∧ (parseMethodDescriptor yX3_cheapest.desc).map (fun d => d.parameters.length) = some 2 := hd_X3_cheapest.2
theorem hd_X3_best : yX3_best.cls = RX3 ∧ yX3_best.cls ≠ "java/lang/invoke/MethodHandle" ∧ yX3_best.cls ≠ "java/lang/invoke/VarHandle" ∧ (parseMethodDescriptor yX3_best.desc).map (fun d => d.parameters.length) = some 2 := by decide +kernel
theorem hn_X3_best : yX3_best.cls ≠ "java/lang/invoke/MethodHandle" ∧ yX3_best.cls ≠ "java/lang/invoke/VarHandle" ∧ (parseMethodDescriptor yX3_best.desc).map (fun d => d.parameters.length) = some 2 := hd_X3_best.2
set_option maxHeartbeats 4000000 in
set_option maxRecDepth 100000 in
theorem c_L_house (l : Launch) (D : va_G) (K : Nat → ClassId) (dp fs : Nat) (hst : l.stackTraces = false) (sz : Nat) (a b t c : Nat → Nat) (g : Nat → Nat → Nat) (T : TW) (len : Nat → Option Nat) (qu : Nat → Nat) (n : Nat) (cs : Nat → Nat) (ln sn : Nat) (Sv : Nat → TW) (x : Int32) (on : Bool) (hI : Inv T) (hsn : sn ≤ 6) (o : Nat) (of : Nat → Int64) (Z : va_W) : Lx dp fs l yL_house wsL_house ({ frames := 7, cells := 1, slots := 6, locals := 126 } : Room) D K (townW K a T ++ (waysW K b len qu n ++ (textW K t cs ln ++ (mainW K a b t c g sn ++ svW K g Sv (oC K o of :: Z))))) sz [.ref (c 0), .int x, .int (bI on), .ref o] (if houE T x = 0 then townW K a (setT T 0 (tn x) (bI on)) ++ (waysW K b len qu n ++ (textW K t cs ln ++ (mainW K a b t c (svG g sn) (svN sn) ++ svW K (svG g sn) (svV Sv sn T) (oC K o (vp_updL of 0 ((bI (hsT T (tn x))).toInt64)) :: Z)))) else townW K a T ++ (waysW K b len qu n ++ (textW K t cs ln ++ (mainW K a b t c g sn ++ svW K g Sv (oC K o of :: Z))))) (nI (houE T x)) 1 6 := by
  refine lx_intro (cc := cL_house) (maxL := 5) (ret := (some .int)) (hh := [(0, 10, 13, 13), (0, 10, 17, 15)]) (by decide) rfl (Nat.le_of_ble_eq_true rfl) ?_
  intro pr en st md ar bl mt co A hx hb hml hr hts hown hk hsz hAe hP hE hD hS hA htab hXw hZ hxn ls hl
  have hown : st.vm.findClass RL = some md.cls := hown
  have hl : lv_has ls 5 [(0, .ref (c 0)), (1, .int x), (2, .int (bI on)), (3, .ref o)] := hl
  obtain ⟨H, hH⟩ : ∃ z, z = st.heap := ⟨_, rfl⟩
  obtain ⟨locs, hlo⟩ : ∃ z : List Loc, z = [] := ⟨_, rfl⟩
  have hP : va_P D vwCl (townW K a T ++ (waysW K b len qu n ++ (textW K t cs ln ++ (mainW K a b t c g sn ++ svW K g Sv (oC K o of :: Z))))) H := by rw [hH]; exact hP
  have hS : va_S A st.heap H locs := by rw [hH, hlo]; exact hS
  suffices go : W pr l en (headSpec wsL_house ({ frames := 7, cells := 1, slots := 6, locals := 126 } : Room)).room st md ar bl mt co H locs 0 0 (vx_MQ bl (txQ D (townW K a T ++ (waysW K b len qu n ++ (textW K t cs ln ++ (mainW K a b t c g sn ++ svW K g Sv (oC K o of :: Z))))) (if houE T x = 0 then townW K a (setT T 0 (tn x) (bI on)) ++ (waysW K b len qu n ++ (textW K t cs ln ++ (mainW K a b t c (svG g sn) (svN sn) ++ svW K (svG g sn) (svV Sv sn T) (oC K o (vp_updL of 0 ((bI (hsT T (tn x))).toInt64)) :: Z)))) else townW K a T ++ (waysW K b len qu n ++ (textW K t cs ln ++ (mainW K a b t c g sn ++ svW K g Sv (oC K o of :: Z))))) sz (nI (houE T x)) 0) (txX D (townW K a T ++ (waysW K b len qu n ++ (textW K t cs ln ++ (mainW K a b t c g sn ++ svW K g Sv (oC K o of :: Z))))) sz 0 xnA) ar st 1 6 A) (F0 md 0 ls []) by rw [hH, hlo] at go; exact go
  clear hH hlo
  have LK13 : (Cond.classLink RL 13 "java/lang/IndexOutOfBoundsException").before ar st = true := hts _ (List.mem_of_getElem? (i := 1) rfl)
  have LK15 : (Cond.classLink RL 15 "java/lang/IllegalStateException").before ar st = true := hts _ (List.mem_of_getElem? (i := 2) rfl)
  refine lv_aload_n hx hb dL_house_0 rfl (lv_at hl 3 rfl) ?_
  refine lv_iconst (v := nI 0) hx hb dL_house_1 (by decide) ?_
  refine lv_aload_n hx hb dL_house_2 rfl (lv_at hl 0 rfl) ?_
  refine lv_iload_n hx hb dL_house_3 rfl (lv_at hl 1 rfl) ?_
  refine lv_iload_n hx hb dL_house_4 rfl (lv_at hl 2 rfl) ?_
  refine tx_V (rest := [.int (nI 0), .ref o]) (ci := 3) (q0 := 17) ⟨hx, hb, hml, hown, hts⟩ hP hE hA hD hS hXw hZ (c_X3_house l D K dp fs hst _ _ _ _ _ _ _ _ _ _ _ _ _ _ _ x on hI hsn) (cwV 2 hts gL_house_X3_house rfl rfl rfl hd_X3_house ⟨Nat.le_of_ble_eq_true rfl, Nat.le_of_ble_eq_true rfl⟩) rfl rfl rfl rfl hl.1 rfl (Nat.le_of_ble_eq_true rfl) dL_house_5 ⟨Nat.le_of_ble_eq_true rfl, Nat.le_of_ble_eq_true rfl⟩ ?_ ?_
  · intro hE0 H locs hP hD hS
    have hP : va_P D vwCl (townW K a (setT T 0 (tn x) (bI on)) ++ (waysW K b len qu n ++ (textW K t cs ln ++ (mainW K a b t c (svG g sn) (svN sn) ++ svW K (svG g sn) (svV Sv sn T) (oC K o of :: Z))))) H := hP
    have hD : va_D A (townW K a (setT T 0 (tn x) (bI on)) ++ (waysW K b len qu n ++ (textW K t cs ln ++ (mainW K a b t c (svG g sn) (svN sn) ++ svW K (svG g sn) (svV Sv sn T) (oC K o of :: Z))))) := hD
    refine lv_i2l (v := (bI (hsT T (tn x))).toInt64) hx hb dL_house_8 rfl ?_
    refine nv_last hx hb hE hP hD hS 91 rfl dL_house_9 (fun H locs hP hD hS => ?_)
    have hP : va_P D vwCl (townW K a (setT T 0 (tn x) (bI on)) ++ (waysW K b len qu n ++ (textW K t cs ln ++ (mainW K a b t c (svG g sn) (svN sn) ++ svW K (svG g sn) (svV Sv sn T) (oC K o (vp_updL of 0 ((bI (hsT T (tn x))).toInt64)) :: Z))))) H := hP
    have hD : va_D A (townW K a (setT T 0 (tn x) (bI on)) ++ (waysW K b len qu n ++ (textW K t cs ln ++ (mainW K a b t c (svG g sn) (svN sn) ++ svW K (svG g sn) (svV Sv sn T) (oC K o (vp_updL of 0 ((bI (hsT T (tn x))).toInt64)) :: Z))))) := hD
    refine lv_goto (tgt := 21) hx hb dL_house_10 (by decide) ?_
    refine lv_iconst (v := nI 0) hx hb dL_house_21 (by decide) ?_
    have ew : (townW K a (setT T 0 (tn x) (bI on)) ++ (waysW K b len qu n ++ (textW K t cs ln ++ (mainW K a b t c (svG g sn) (svN sn) ++ svW K (svG g sn) (svV Sv sn T) (oC K o (vp_updL of 0 ((bI (hsT T (tn x))).toInt64)) :: Z))))) = (if houE T x = 0 then townW K a (setT T 0 (tn x) (bI on)) ++ (waysW K b len qu n ++ (textW K t cs ln ++ (mainW K a b t c (svG g sn) (svN sn) ++ svW K (svG g sn) (svV Sv sn T) (oC K o (vp_updL of 0 ((bI (hsT T (tn x))).toInt64)) :: Z)))) else townW K a T ++ (waysW K b len qu n ++ (textW K t cs ln ++ (mainW K a b t c g sn ++ svW K g Sv (oC K o of :: Z))))) := (if_pos hE0).symm
    rw [ew] at hP hD
    exact tx_iret hAe hP hD hS hx hb hr hk dL_house_22 ⟨Nat.le_of_ble_eq_true rfl, Nat.le_of_ble_eq_true rfl⟩ rfl (by rw [hE0])
  · intro hE1 ce q9 H locs hP hD hS hq9 hv9 hc9
    rcases (show houE T x = 0 ∨ houE T x = 1 ∨ houE T x = 2 by unfold houE; (repeat' split) <;> simp) with h_0 | h_1 | h_2
    · exact absurd h_0 hE1
    · rw [h_1] at hc9
      refine vx_catch (name := "java/lang/IndexOutOfBoundsException") (E := "java/lang/IndexOutOfBoundsException") hown [] ⟨0, 10, 13, 13⟩ [⟨0, 10, 17, 15⟩] htab (fun _ h => nomatch h) (by decide) (by decide) LK13 (hXw.2.2.2.1.use rfl) hq9 hv9 hc9 ?_
      refine lv_astore (lv' := [(4, .ref q9), (0, .ref (c 0)), (1, .int x), (2, .int (bI on)), (3, .ref o)]) hx hb dL_house_13 hl (by decide) rfl (fun ls hl => ?_)
      refine lv_iconst (v := nI 1) hx hb dL_house_15 (by decide) ?_
      have ew : (townW K a T ++ (waysW K b len qu n ++ (textW K t cs ln ++ (mainW K a b t c g sn ++ svW K g Sv (oC K o of :: Z))))) = (if houE T x = 0 then townW K a (setT T 0 (tn x) (bI on)) ++ (waysW K b len qu n ++ (textW K t cs ln ++ (mainW K a b t c (svG g sn) (svN sn) ++ svW K (svG g sn) (svV Sv sn T) (oC K o (vp_updL of 0 ((bI (hsT T (tn x))).toInt64)) :: Z)))) else townW K a T ++ (waysW K b len qu n ++ (textW K t cs ln ++ (mainW K a b t c g sn ++ svW K g Sv (oC K o of :: Z))))) := (if_neg hE1).symm
      rw [ew] at hP hD
      exact tx_iret hAe hP hD hS hx hb hr hk dL_house_16 ⟨Nat.le_of_ble_eq_true rfl, Nat.le_of_ble_eq_true rfl⟩ rfl (by rw [h_1])
    · rw [h_2] at hc9
      refine vx_catch (name := "java/lang/IllegalStateException") (E := "java/lang/IllegalStateException") hown [⟨0, 10, 13, 13⟩] ⟨0, 10, 17, 15⟩ [] htab (List.forall_mem_cons.mpr ⟨Or.inr ⟨by decide, "java/lang/IndexOutOfBoundsException", LK13, hxn.2.2.2.2.1⟩, (fun _ h => nomatch h)⟩) (by decide) (by decide) LK15 (hXw.2.2.2.2.2.1.use rfl) hq9 hv9 hc9 ?_
      refine lv_astore (lv' := [(4, .ref q9), (0, .ref (c 0)), (1, .int x), (2, .int (bI on)), (3, .ref o)]) hx hb dL_house_17 hl (by decide) rfl (fun ls hl => ?_)
      refine lv_iconst (v := nI 2) hx hb dL_house_19 (by decide) ?_
      have ew : (townW K a T ++ (waysW K b len qu n ++ (textW K t cs ln ++ (mainW K a b t c g sn ++ svW K g Sv (oC K o of :: Z))))) = (if houE T x = 0 then townW K a (setT T 0 (tn x) (bI on)) ++ (waysW K b len qu n ++ (textW K t cs ln ++ (mainW K a b t c (svG g sn) (svN sn) ++ svW K (svG g sn) (svV Sv sn T) (oC K o (vp_updL of 0 ((bI (hsT T (tn x))).toInt64)) :: Z)))) else townW K a T ++ (waysW K b len qu n ++ (textW K t cs ln ++ (mainW K a b t c g sn ++ svW K g Sv (oC K o of :: Z))))) := (if_neg hE1).symm
      rw [ew] at hP hD
      exact tx_iret hAe hP hD hS hx hb hr hk dL_house_20 ⟨Nat.le_of_ble_eq_true rfl, Nat.le_of_ble_eq_true rfl⟩ rfl (by rw [h_2])
set_option maxHeartbeats 4000000 in
set_option maxRecDepth 100000 in
theorem c_L_stop (l : Launch) (D : va_G) (K : Nat → ClassId) (dp fs : Nat) (hst : l.stackTraces = false) (sz : Nat) (a b t c : Nat → Nat) (g : Nat → Nat → Nat) (T : TW) (len : Nat → Option Nat) (qu : Nat → Nat) (n : Nat) (cs : Nat → Nat) (ln sn : Nat) (Sv : Nat → TW) (x y : Int32) (hI : Inv T) (hsn : sn ≤ 6) (o : Nat) (of : Nat → Int64) (Z : va_W) : Lx dp fs l yL_stop wsL_stop ({ frames := 7, cells := 1, slots := 6, locals := 126 } : Room) D K (townW K a T ++ (waysW K b len qu n ++ (textW K t cs ln ++ (mainW K a b t c g sn ++ svW K g Sv (oC K o of :: Z))))) sz [.ref (c 0), .int x, .int y, .ref o] (if stE T x y = 0 then townW K a (stpT T ((lowT T none).getD 0) (tn x) (tn y)) ++ (waysW K b len qu n ++ (textW K t cs ln ++ (mainW K a b t c (svG g sn) (svN sn) ++ svW K (svG g sn) (svV Sv sn T) (oC K o (vp_updL of 0 ((oI (lowT T none)).toInt64)) :: Z)))) else townW K a T ++ (waysW K b len qu n ++ (textW K t cs ln ++ (mainW K a b t c g sn ++ svW K g Sv (oC K o of :: Z))))) (nI (stE T x y)) 1 6 := by
  refine lx_intro (cc := cL_stop) (maxL := 5) (ret := (some .int)) (hh := [(0, 10, 13, 13), (0, 10, 17, 15)]) (by decide) rfl (Nat.le_of_ble_eq_true rfl) ?_
  intro pr en st md ar bl mt co A hx hb hml hr hts hown hk hsz hAe hP hE hD hS hA htab hXw hZ hxn ls hl
  have hown : st.vm.findClass RL = some md.cls := hown
  have hl : lv_has ls 5 [(0, .ref (c 0)), (1, .int x), (2, .int y), (3, .ref o)] := hl
  obtain ⟨H, hH⟩ : ∃ z, z = st.heap := ⟨_, rfl⟩
  obtain ⟨locs, hlo⟩ : ∃ z : List Loc, z = [] := ⟨_, rfl⟩
  have hP : va_P D vwCl (townW K a T ++ (waysW K b len qu n ++ (textW K t cs ln ++ (mainW K a b t c g sn ++ svW K g Sv (oC K o of :: Z))))) H := by rw [hH]; exact hP
  have hS : va_S A st.heap H locs := by rw [hH, hlo]; exact hS
  suffices go : W pr l en (headSpec wsL_stop ({ frames := 7, cells := 1, slots := 6, locals := 126 } : Room)).room st md ar bl mt co H locs 0 0 (vx_MQ bl (txQ D (townW K a T ++ (waysW K b len qu n ++ (textW K t cs ln ++ (mainW K a b t c g sn ++ svW K g Sv (oC K o of :: Z))))) (if stE T x y = 0 then townW K a (stpT T ((lowT T none).getD 0) (tn x) (tn y)) ++ (waysW K b len qu n ++ (textW K t cs ln ++ (mainW K a b t c (svG g sn) (svN sn) ++ svW K (svG g sn) (svV Sv sn T) (oC K o (vp_updL of 0 ((oI (lowT T none)).toInt64)) :: Z)))) else townW K a T ++ (waysW K b len qu n ++ (textW K t cs ln ++ (mainW K a b t c g sn ++ svW K g Sv (oC K o of :: Z))))) sz (nI (stE T x y)) 0) (txX D (townW K a T ++ (waysW K b len qu n ++ (textW K t cs ln ++ (mainW K a b t c g sn ++ svW K g Sv (oC K o of :: Z))))) sz 0 xnA) ar st 1 6 A) (F0 md 0 ls []) by rw [hH, hlo] at go; exact go
  clear hH hlo
  have LK13 : (Cond.classLink RL 13 "java/lang/IndexOutOfBoundsException").before ar st = true := hts _ (List.mem_of_getElem? (i := 1) rfl)
  have LK15 : (Cond.classLink RL 15 "java/lang/IllegalStateException").before ar st = true := hts _ (List.mem_of_getElem? (i := 2) rfl)
  refine lv_aload_n hx hb dL_stop_0 rfl (lv_at hl 3 rfl) ?_
  refine lv_iconst (v := nI 0) hx hb dL_stop_1 (by decide) ?_
  refine lv_aload_n hx hb dL_stop_2 rfl (lv_at hl 0 rfl) ?_
  refine lv_iload_n hx hb dL_stop_3 rfl (lv_at hl 1 rfl) ?_
  refine lv_iload_n hx hb dL_stop_4 rfl (lv_at hl 2 rfl) ?_
  refine tx_V (rest := [.int (nI 0), .ref o]) (ci := 3) (q0 := 17) ⟨hx, hb, hml, hown, hts⟩ hP hE hA hD hS hXw hZ (c_X3_stop l D K dp fs hst _ _ _ _ _ _ _ _ _ _ _ _ _ _ _ x y hI hsn) (cwV 2 hts gL_stop_X3_stop rfl rfl rfl hd_X3_stop ⟨Nat.le_of_ble_eq_true rfl, Nat.le_of_ble_eq_true rfl⟩) rfl rfl rfl rfl hl.1 rfl (Nat.le_of_ble_eq_true rfl) dL_stop_5 ⟨Nat.le_of_ble_eq_true rfl, Nat.le_of_ble_eq_true rfl⟩ ?_ ?_
  · intro hE0 H locs hP hD hS
    have hP : va_P D vwCl (townW K a (stpT T ((lowT T none).getD 0) (tn x) (tn y)) ++ (waysW K b len qu n ++ (textW K t cs ln ++ (mainW K a b t c (svG g sn) (svN sn) ++ svW K (svG g sn) (svV Sv sn T) (oC K o of :: Z))))) H := hP
    have hD : va_D A (townW K a (stpT T ((lowT T none).getD 0) (tn x) (tn y)) ++ (waysW K b len qu n ++ (textW K t cs ln ++ (mainW K a b t c (svG g sn) (svN sn) ++ svW K (svG g sn) (svV Sv sn T) (oC K o of :: Z))))) := hD
    refine lv_i2l (v := (oI (lowT T none)).toInt64) hx hb dL_stop_8 rfl ?_
    refine nv_last hx hb hE hP hD hS 91 rfl dL_stop_9 (fun H locs hP hD hS => ?_)
    have hP : va_P D vwCl (townW K a (stpT T ((lowT T none).getD 0) (tn x) (tn y)) ++ (waysW K b len qu n ++ (textW K t cs ln ++ (mainW K a b t c (svG g sn) (svN sn) ++ svW K (svG g sn) (svV Sv sn T) (oC K o (vp_updL of 0 ((oI (lowT T none)).toInt64)) :: Z))))) H := hP
    have hD : va_D A (townW K a (stpT T ((lowT T none).getD 0) (tn x) (tn y)) ++ (waysW K b len qu n ++ (textW K t cs ln ++ (mainW K a b t c (svG g sn) (svN sn) ++ svW K (svG g sn) (svV Sv sn T) (oC K o (vp_updL of 0 ((oI (lowT T none)).toInt64)) :: Z))))) := hD
    refine lv_goto (tgt := 21) hx hb dL_stop_10 (by decide) ?_
    refine lv_iconst (v := nI 0) hx hb dL_stop_21 (by decide) ?_
    have ew : (townW K a (stpT T ((lowT T none).getD 0) (tn x) (tn y)) ++ (waysW K b len qu n ++ (textW K t cs ln ++ (mainW K a b t c (svG g sn) (svN sn) ++ svW K (svG g sn) (svV Sv sn T) (oC K o (vp_updL of 0 ((oI (lowT T none)).toInt64)) :: Z))))) = (if stE T x y = 0 then townW K a (stpT T ((lowT T none).getD 0) (tn x) (tn y)) ++ (waysW K b len qu n ++ (textW K t cs ln ++ (mainW K a b t c (svG g sn) (svN sn) ++ svW K (svG g sn) (svV Sv sn T) (oC K o (vp_updL of 0 ((oI (lowT T none)).toInt64)) :: Z)))) else townW K a T ++ (waysW K b len qu n ++ (textW K t cs ln ++ (mainW K a b t c g sn ++ svW K g Sv (oC K o of :: Z))))) := (if_pos hE0).symm
    rw [ew] at hP hD
    exact tx_iret hAe hP hD hS hx hb hr hk dL_stop_22 ⟨Nat.le_of_ble_eq_true rfl, Nat.le_of_ble_eq_true rfl⟩ rfl (by rw [hE0])
  · intro hE1 ce q9 H locs hP hD hS hq9 hv9 hc9
    rcases (show stE T x y = 0 ∨ stE T x y = 1 ∨ stE T x y = 2 by unfold stE; (repeat' split) <;> simp) with h_0 | h_1 | h_2
    · exact absurd h_0 hE1
    · rw [h_1] at hc9
      refine vx_catch (name := "java/lang/IndexOutOfBoundsException") (E := "java/lang/IndexOutOfBoundsException") hown [] ⟨0, 10, 13, 13⟩ [⟨0, 10, 17, 15⟩] htab (fun _ h => nomatch h) (by decide) (by decide) LK13 (hXw.2.2.2.1.use rfl) hq9 hv9 hc9 ?_
      refine lv_astore (lv' := [(4, .ref q9), (0, .ref (c 0)), (1, .int x), (2, .int y), (3, .ref o)]) hx hb dL_stop_13 hl (by decide) rfl (fun ls hl => ?_)
      refine lv_iconst (v := nI 1) hx hb dL_stop_15 (by decide) ?_
      have ew : (townW K a T ++ (waysW K b len qu n ++ (textW K t cs ln ++ (mainW K a b t c g sn ++ svW K g Sv (oC K o of :: Z))))) = (if stE T x y = 0 then townW K a (stpT T ((lowT T none).getD 0) (tn x) (tn y)) ++ (waysW K b len qu n ++ (textW K t cs ln ++ (mainW K a b t c (svG g sn) (svN sn) ++ svW K (svG g sn) (svV Sv sn T) (oC K o (vp_updL of 0 ((oI (lowT T none)).toInt64)) :: Z)))) else townW K a T ++ (waysW K b len qu n ++ (textW K t cs ln ++ (mainW K a b t c g sn ++ svW K g Sv (oC K o of :: Z))))) := (if_neg hE1).symm
      rw [ew] at hP hD
      exact tx_iret hAe hP hD hS hx hb hr hk dL_stop_16 ⟨Nat.le_of_ble_eq_true rfl, Nat.le_of_ble_eq_true rfl⟩ rfl (by rw [h_1])
    · rw [h_2] at hc9
      refine vx_catch (name := "java/lang/IllegalStateException") (E := "java/lang/IllegalStateException") hown [⟨0, 10, 13, 13⟩] ⟨0, 10, 17, 15⟩ [] htab (List.forall_mem_cons.mpr ⟨Or.inr ⟨by decide, "java/lang/IndexOutOfBoundsException", LK13, hxn.2.2.2.2.1⟩, (fun _ h => nomatch h)⟩) (by decide) (by decide) LK15 (hXw.2.2.2.2.2.1.use rfl) hq9 hv9 hc9 ?_
      refine lv_astore (lv' := [(4, .ref q9), (0, .ref (c 0)), (1, .int x), (2, .int y), (3, .ref o)]) hx hb dL_stop_17 hl (by decide) rfl (fun ls hl => ?_)
      refine lv_iconst (v := nI 2) hx hb dL_stop_19 (by decide) ?_
      have ew : (townW K a T ++ (waysW K b len qu n ++ (textW K t cs ln ++ (mainW K a b t c g sn ++ svW K g Sv (oC K o of :: Z))))) = (if stE T x y = 0 then townW K a (stpT T ((lowT T none).getD 0) (tn x) (tn y)) ++ (waysW K b len qu n ++ (textW K t cs ln ++ (mainW K a b t c (svG g sn) (svN sn) ++ svW K (svG g sn) (svV Sv sn T) (oC K o (vp_updL of 0 ((oI (lowT T none)).toInt64)) :: Z)))) else townW K a T ++ (waysW K b len qu n ++ (textW K t cs ln ++ (mainW K a b t c g sn ++ svW K g Sv (oC K o of :: Z))))) := (if_neg hE1).symm
      rw [ew] at hP hD
      exact tx_iret hAe hP hD hS hx hb hr hk dL_stop_20 ⟨Nat.le_of_ble_eq_true rfl, Nat.le_of_ble_eq_true rfl⟩ rfl (by rw [h_2])
set_option maxHeartbeats 4000000 in
set_option maxRecDepth 100000 in
theorem c_L_drop (l : Launch) (D : va_G) (K : Nat → ClassId) (dp fs : Nat) (hst : l.stackTraces = false) (sz : Nat) (a b t c : Nat → Nat) (g : Nat → Nat → Nat) (T : TW) (len : Nat → Option Nat) (qu : Nat → Nat) (n : Nat) (cs : Nat → Nat) (ln sn : Nat) (Sv : Nat → TW) (x : Int32) (hI : Inv T) (hsn : sn ≤ 6) (o : Nat) (of : Nat → Int64) (Z : va_W) : Lx dp fs l yL_drop wsL_drop ({ frames := 7, cells := 1, slots := 6, locals := 125 } : Room) D K (townW K a T ++ (waysW K b len qu n ++ (textW K t cs ln ++ (mainW K a b t c g sn ++ svW K g Sv (oC K o of :: Z))))) sz [.ref (c 0), .int x, .ref o] (if drE T x = 0 then townW K a (drpT T (tn x)) ++ (waysW K b len qu n ++ (textW K t cs ln ++ (mainW K a b t c (svG g sn) (svN sn) ++ svW K (svG g sn) (svV Sv sn T) (oC K o (vp_updL of 0 ((oI (sqT T (tn x))).toInt64)) :: Z)))) else townW K a T ++ (waysW K b len qu n ++ (textW K t cs ln ++ (mainW K a b t c g sn ++ svW K g Sv (oC K o of :: Z))))) (nI (drE T x)) 1 6 := by
  refine lx_intro (cc := cL_drop) (maxL := 4) (ret := (some .int)) (hh := [(0, 9, 12, 13)]) (by decide) rfl (Nat.le_of_ble_eq_true rfl) ?_
  intro pr en st md ar bl mt co A hx hb hml hr hts hown hk hsz hAe hP hE hD hS hA htab hXw hZ hxn ls hl
  have hown : st.vm.findClass RL = some md.cls := hown
  have hl : lv_has ls 4 [(0, .ref (c 0)), (1, .int x), (2, .ref o)] := hl
  obtain ⟨H, hH⟩ : ∃ z, z = st.heap := ⟨_, rfl⟩
  obtain ⟨locs, hlo⟩ : ∃ z : List Loc, z = [] := ⟨_, rfl⟩
  have hP : va_P D vwCl (townW K a T ++ (waysW K b len qu n ++ (textW K t cs ln ++ (mainW K a b t c g sn ++ svW K g Sv (oC K o of :: Z))))) H := by rw [hH]; exact hP
  have hS : va_S A st.heap H locs := by rw [hH, hlo]; exact hS
  suffices go : W pr l en (headSpec wsL_drop ({ frames := 7, cells := 1, slots := 6, locals := 125 } : Room)).room st md ar bl mt co H locs 0 0 (vx_MQ bl (txQ D (townW K a T ++ (waysW K b len qu n ++ (textW K t cs ln ++ (mainW K a b t c g sn ++ svW K g Sv (oC K o of :: Z))))) (if drE T x = 0 then townW K a (drpT T (tn x)) ++ (waysW K b len qu n ++ (textW K t cs ln ++ (mainW K a b t c (svG g sn) (svN sn) ++ svW K (svG g sn) (svV Sv sn T) (oC K o (vp_updL of 0 ((oI (sqT T (tn x))).toInt64)) :: Z)))) else townW K a T ++ (waysW K b len qu n ++ (textW K t cs ln ++ (mainW K a b t c g sn ++ svW K g Sv (oC K o of :: Z))))) sz (nI (drE T x)) 0) (txX D (townW K a T ++ (waysW K b len qu n ++ (textW K t cs ln ++ (mainW K a b t c g sn ++ svW K g Sv (oC K o of :: Z))))) sz 0 xnA) ar st 1 6 A) (F0 md 0 ls []) by rw [hH, hlo] at go; exact go
  clear hH hlo
  have LK13 : (Cond.classLink RL 13 "java/lang/IndexOutOfBoundsException").before ar st = true := hts _ (List.mem_of_getElem? (i := 1) rfl)
  refine lv_aload_n hx hb dL_drop_0 rfl (lv_at hl 2 rfl) ?_
  refine lv_iconst (v := nI 0) hx hb dL_drop_1 (by decide) ?_
  refine lv_aload_n hx hb dL_drop_2 rfl (lv_at hl 0 rfl) ?_
  refine lv_iload_n hx hb dL_drop_3 rfl (lv_at hl 1 rfl) ?_
  refine tx_V (rest := [.int (nI 0), .ref o]) (ci := 3) (q0 := 17) ⟨hx, hb, hml, hown, hts⟩ hP hE hA hD hS hXw hZ (c_X3_drop l D K dp fs hst _ _ _ _ _ _ _ _ _ _ _ _ _ _ _ x hI hsn) (cwV 1 hts gL_drop_X3_drop rfl rfl rfl hd_X3_drop ⟨Nat.le_of_ble_eq_true rfl, Nat.le_of_ble_eq_true rfl⟩) rfl rfl rfl rfl hl.1 rfl (Nat.le_of_ble_eq_true rfl) dL_drop_4 ⟨Nat.le_of_ble_eq_true rfl, Nat.le_of_ble_eq_true rfl⟩ ?_ ?_
  · intro hE0 H locs hP hD hS
    have hP : va_P D vwCl (townW K a (drpT T (tn x)) ++ (waysW K b len qu n ++ (textW K t cs ln ++ (mainW K a b t c (svG g sn) (svN sn) ++ svW K (svG g sn) (svV Sv sn T) (oC K o of :: Z))))) H := hP
    have hD : va_D A (townW K a (drpT T (tn x)) ++ (waysW K b len qu n ++ (textW K t cs ln ++ (mainW K a b t c (svG g sn) (svN sn) ++ svW K (svG g sn) (svV Sv sn T) (oC K o of :: Z))))) := hD
    refine lv_i2l (v := (oI (sqT T (tn x))).toInt64) hx hb dL_drop_7 rfl ?_
    refine nv_last hx hb hE hP hD hS 91 rfl dL_drop_8 (fun H locs hP hD hS => ?_)
    have hP : va_P D vwCl (townW K a (drpT T (tn x)) ++ (waysW K b len qu n ++ (textW K t cs ln ++ (mainW K a b t c (svG g sn) (svN sn) ++ svW K (svG g sn) (svV Sv sn T) (oC K o (vp_updL of 0 ((oI (sqT T (tn x))).toInt64)) :: Z))))) H := hP
    have hD : va_D A (townW K a (drpT T (tn x)) ++ (waysW K b len qu n ++ (textW K t cs ln ++ (mainW K a b t c (svG g sn) (svN sn) ++ svW K (svG g sn) (svV Sv sn T) (oC K o (vp_updL of 0 ((oI (sqT T (tn x))).toInt64)) :: Z))))) := hD
    refine lv_goto (tgt := 15) hx hb dL_drop_9 (by decide) ?_
    refine lv_iconst (v := nI 0) hx hb dL_drop_15 (by decide) ?_
    have ew : (townW K a (drpT T (tn x)) ++ (waysW K b len qu n ++ (textW K t cs ln ++ (mainW K a b t c (svG g sn) (svN sn) ++ svW K (svG g sn) (svV Sv sn T) (oC K o (vp_updL of 0 ((oI (sqT T (tn x))).toInt64)) :: Z))))) = (if drE T x = 0 then townW K a (drpT T (tn x)) ++ (waysW K b len qu n ++ (textW K t cs ln ++ (mainW K a b t c (svG g sn) (svN sn) ++ svW K (svG g sn) (svV Sv sn T) (oC K o (vp_updL of 0 ((oI (sqT T (tn x))).toInt64)) :: Z)))) else townW K a T ++ (waysW K b len qu n ++ (textW K t cs ln ++ (mainW K a b t c g sn ++ svW K g Sv (oC K o of :: Z))))) := (if_pos hE0).symm
    rw [ew] at hP hD
    exact tx_iret hAe hP hD hS hx hb hr hk dL_drop_16 ⟨Nat.le_of_ble_eq_true rfl, Nat.le_of_ble_eq_true rfl⟩ rfl (by rw [hE0])
  · intro hE1 ce q9 H locs hP hD hS hq9 hv9 hc9
    rcases (show drE T x = 0 ∨ drE T x = 1 by unfold drE; (repeat' split) <;> simp) with h_0 | h_1
    · exact absurd h_0 hE1
    · rw [h_1] at hc9
      refine vx_catch (name := "java/lang/IndexOutOfBoundsException") (E := "java/lang/IndexOutOfBoundsException") hown [] ⟨0, 9, 12, 13⟩ [] htab (fun _ h => nomatch h) (by decide) (by decide) LK13 (hXw.2.2.2.1.use rfl) hq9 hv9 hc9 ?_
      refine lv_astore_n (lv' := [(3, .ref q9), (0, .ref (c 0)), (1, .int x), (2, .ref o)]) hx hb dL_drop_12 rfl hl (by decide) rfl (fun ls hl => ?_)
      refine lv_iconst (v := nI 1) hx hb dL_drop_13 (by decide) ?_
      have ew : (townW K a T ++ (waysW K b len qu n ++ (textW K t cs ln ++ (mainW K a b t c g sn ++ svW K g Sv (oC K o of :: Z))))) = (if drE T x = 0 then townW K a (drpT T (tn x)) ++ (waysW K b len qu n ++ (textW K t cs ln ++ (mainW K a b t c (svG g sn) (svN sn) ++ svW K (svG g sn) (svV Sv sn T) (oC K o (vp_updL of 0 ((oI (sqT T (tn x))).toInt64)) :: Z)))) else townW K a T ++ (waysW K b len qu n ++ (textW K t cs ln ++ (mainW K a b t c g sn ++ svW K g Sv (oC K o of :: Z))))) := (if_neg hE1).symm
      rw [ew] at hP hD
      exact tx_iret hAe hP hD hS hx hb hr hk dL_drop_14 ⟨Nat.le_of_ble_eq_true rfl, Nat.le_of_ble_eq_true rfl⟩ rfl (by rw [h_1])
set_option maxHeartbeats 4000000 in
set_option maxRecDepth 100000 in
theorem c_L_lay (l : Launch) (D : va_G) (K : Nat → ClassId) (dp fs : Nat) (hst : l.stackTraces = false) (sz : Nat) (a b t c : Nat → Nat) (g : Nat → Nat → Nat) (T : TW) (len : Nat → Option Nat) (qu : Nat → Nat) (n : Nat) (cs : Nat → Nat) (ln sn : Nat) (Sv : Nat → TW) (x g9 d : Int32) (hI : Inv T) (hsn : sn ≤ 6) (o : Nat) (of : Nat → Int64) (Z : va_W) : Lx dp fs l yL_lay wsL_lay ({ frames := 7, cells := 1, slots := 6, locals := 127 } : Room) D K (townW K a T ++ (waysW K b len qu n ++ (textW K t cs ln ++ (mainW K a b t c g sn ++ svW K g Sv (oC K o of :: Z))))) sz [.ref (c 0), .int x, .int g9, .int d, .ref o] (if laE T x g9 d = 0 then townW K a (layT T (tn x) (toT (hdT T (tn x)) (tn d)) (tn d)) ++ (waysW K b len qu n ++ (textW K t cs ln ++ (mainW K a b t c (svG g sn) (svN sn) ++ svW K (svG g sn) (svV Sv sn T) (oC K o (vp_updL of 0 ((nI (tollT T (toT (hdT T (tn x)) (tn d)))).toInt64)) :: Z)))) else townW K a T ++ (waysW K b len qu n ++ (textW K t cs ln ++ (mainW K a b t c g sn ++ svW K g Sv (oC K o of :: Z))))) (nI (laE T x g9 d)) 1 6 := by
  refine lx_intro (cc := cL_lay) (maxL := 6) (ret := (some .int)) (hh := [(0, 12, 15, 13), (0, 12, 19, 29), (0, 12, 23, 15)]) (by decide) rfl (Nat.le_of_ble_eq_true rfl) ?_
  intro pr en st md ar bl mt co A hx hb hml hr hts hown hk hsz hAe hP hE hD hS hA htab hXw hZ hxn ls hl
  have hown : st.vm.findClass RL = some md.cls := hown
  have hl : lv_has ls 6 [(0, .ref (c 0)), (1, .int x), (2, .int g9), (3, .int d), (4, .ref o)] := hl
  obtain ⟨H, hH⟩ : ∃ z, z = st.heap := ⟨_, rfl⟩
  obtain ⟨locs, hlo⟩ : ∃ z : List Loc, z = [] := ⟨_, rfl⟩
  have hP : va_P D vwCl (townW K a T ++ (waysW K b len qu n ++ (textW K t cs ln ++ (mainW K a b t c g sn ++ svW K g Sv (oC K o of :: Z))))) H := by rw [hH]; exact hP
  have hS : va_S A st.heap H locs := by rw [hH, hlo]; exact hS
  suffices go : W pr l en (headSpec wsL_lay ({ frames := 7, cells := 1, slots := 6, locals := 127 } : Room)).room st md ar bl mt co H locs 0 0 (vx_MQ bl (txQ D (townW K a T ++ (waysW K b len qu n ++ (textW K t cs ln ++ (mainW K a b t c g sn ++ svW K g Sv (oC K o of :: Z))))) (if laE T x g9 d = 0 then townW K a (layT T (tn x) (toT (hdT T (tn x)) (tn d)) (tn d)) ++ (waysW K b len qu n ++ (textW K t cs ln ++ (mainW K a b t c (svG g sn) (svN sn) ++ svW K (svG g sn) (svV Sv sn T) (oC K o (vp_updL of 0 ((nI (tollT T (toT (hdT T (tn x)) (tn d)))).toInt64)) :: Z)))) else townW K a T ++ (waysW K b len qu n ++ (textW K t cs ln ++ (mainW K a b t c g sn ++ svW K g Sv (oC K o of :: Z))))) sz (nI (laE T x g9 d)) 0) (txX D (townW K a T ++ (waysW K b len qu n ++ (textW K t cs ln ++ (mainW K a b t c g sn ++ svW K g Sv (oC K o of :: Z))))) sz 0 xnA) ar st 1 6 A) (F0 md 0 ls []) by rw [hH, hlo] at go; exact go
  clear hH hlo
  have LK13 : (Cond.classLink RL 13 "java/lang/IndexOutOfBoundsException").before ar st = true := hts _ (List.mem_of_getElem? (i := 1) rfl)
  have LK29 : (Cond.classLink RL 29 "java/lang/IllegalArgumentException").before ar st = true := hts _ (List.mem_of_getElem? (i := 2) rfl)
  have LK15 : (Cond.classLink RL 15 "java/lang/IllegalStateException").before ar st = true := hts _ (List.mem_of_getElem? (i := 3) rfl)
  refine lv_aload hx hb dL_lay_0 (lv_at hl 4 rfl) ?_
  refine lv_iconst (v := nI 0) hx hb dL_lay_2 (by decide) ?_
  refine lv_aload_n hx hb dL_lay_3 rfl (lv_at hl 0 rfl) ?_
  refine lv_iload_n hx hb dL_lay_4 rfl (lv_at hl 1 rfl) ?_
  refine lv_iload_n hx hb dL_lay_5 rfl (lv_at hl 2 rfl) ?_
  refine lv_iload_n hx hb dL_lay_6 rfl (lv_at hl 3 rfl) ?_
  refine tx_V (rest := [.int (nI 0), .ref o]) (ci := 3) (q0 := 17) ⟨hx, hb, hml, hown, hts⟩ hP hE hA hD hS hXw hZ (c_X3_lay l D K dp fs hst _ _ _ _ _ _ _ _ _ _ _ _ _ _ _ x g9 d hI hsn) (cwV 3 hts gL_lay_X3_lay rfl rfl rfl hd_X3_lay ⟨Nat.le_of_ble_eq_true rfl, Nat.le_of_ble_eq_true rfl⟩) rfl rfl rfl rfl hl.1 rfl (Nat.le_of_ble_eq_true rfl) dL_lay_7 ⟨Nat.le_of_ble_eq_true rfl, Nat.le_of_ble_eq_true rfl⟩ ?_ ?_
  · intro hE0 H locs hP hD hS
    have hP : va_P D vwCl (townW K a (layT T (tn x) (toT (hdT T (tn x)) (tn d)) (tn d)) ++ (waysW K b len qu n ++ (textW K t cs ln ++ (mainW K a b t c (svG g sn) (svN sn) ++ svW K (svG g sn) (svV Sv sn T) (oC K o of :: Z))))) H := hP
    have hD : va_D A (townW K a (layT T (tn x) (toT (hdT T (tn x)) (tn d)) (tn d)) ++ (waysW K b len qu n ++ (textW K t cs ln ++ (mainW K a b t c (svG g sn) (svN sn) ++ svW K (svG g sn) (svV Sv sn T) (oC K o of :: Z))))) := hD
    refine lv_i2l (v := (nI (tollT T (toT (hdT T (tn x)) (tn d)))).toInt64) hx hb dL_lay_10 rfl ?_
    refine nv_last hx hb hE hP hD hS 91 rfl dL_lay_11 (fun H locs hP hD hS => ?_)
    have hP : va_P D vwCl (townW K a (layT T (tn x) (toT (hdT T (tn x)) (tn d)) (tn d)) ++ (waysW K b len qu n ++ (textW K t cs ln ++ (mainW K a b t c (svG g sn) (svN sn) ++ svW K (svG g sn) (svV Sv sn T) (oC K o (vp_updL of 0 ((nI (tollT T (toT (hdT T (tn x)) (tn d)))).toInt64)) :: Z))))) H := hP
    have hD : va_D A (townW K a (layT T (tn x) (toT (hdT T (tn x)) (tn d)) (tn d)) ++ (waysW K b len qu n ++ (textW K t cs ln ++ (mainW K a b t c (svG g sn) (svN sn) ++ svW K (svG g sn) (svV Sv sn T) (oC K o (vp_updL of 0 ((nI (tollT T (toT (hdT T (tn x)) (tn d)))).toInt64)) :: Z))))) := hD
    refine lv_goto (tgt := 27) hx hb dL_lay_12 (by decide) ?_
    refine lv_iconst (v := nI 0) hx hb dL_lay_27 (by decide) ?_
    have ew : (townW K a (layT T (tn x) (toT (hdT T (tn x)) (tn d)) (tn d)) ++ (waysW K b len qu n ++ (textW K t cs ln ++ (mainW K a b t c (svG g sn) (svN sn) ++ svW K (svG g sn) (svV Sv sn T) (oC K o (vp_updL of 0 ((nI (tollT T (toT (hdT T (tn x)) (tn d)))).toInt64)) :: Z))))) = (if laE T x g9 d = 0 then townW K a (layT T (tn x) (toT (hdT T (tn x)) (tn d)) (tn d)) ++ (waysW K b len qu n ++ (textW K t cs ln ++ (mainW K a b t c (svG g sn) (svN sn) ++ svW K (svG g sn) (svV Sv sn T) (oC K o (vp_updL of 0 ((nI (tollT T (toT (hdT T (tn x)) (tn d)))).toInt64)) :: Z)))) else townW K a T ++ (waysW K b len qu n ++ (textW K t cs ln ++ (mainW K a b t c g sn ++ svW K g Sv (oC K o of :: Z))))) := (if_pos hE0).symm
    rw [ew] at hP hD
    exact tx_iret hAe hP hD hS hx hb hr hk dL_lay_28 ⟨Nat.le_of_ble_eq_true rfl, Nat.le_of_ble_eq_true rfl⟩ rfl (by rw [hE0])
  · intro hE1 ce q9 H locs hP hD hS hq9 hv9 hc9
    rcases (show laE T x g9 d = 0 ∨ laE T x g9 d = 1 ∨ laE T x g9 d = 2 ∨ laE T x g9 d = 3 by unfold laE; (repeat' split) <;> simp) with h_0 | h_1 | h_2 | h_3
    · exact absurd h_0 hE1
    · rw [h_1] at hc9
      refine vx_catch (name := "java/lang/IndexOutOfBoundsException") (E := "java/lang/IndexOutOfBoundsException") hown [] ⟨0, 12, 15, 13⟩ [⟨0, 12, 19, 29⟩, ⟨0, 12, 23, 15⟩] htab (fun _ h => nomatch h) (by decide) (by decide) LK13 (hXw.2.2.2.1.use rfl) hq9 hv9 hc9 ?_
      refine lv_astore (lv' := [(5, .ref q9), (0, .ref (c 0)), (1, .int x), (2, .int g9), (3, .int d), (4, .ref o)]) hx hb dL_lay_15 hl (by decide) rfl (fun ls hl => ?_)
      refine lv_iconst (v := nI 1) hx hb dL_lay_17 (by decide) ?_
      have ew : (townW K a T ++ (waysW K b len qu n ++ (textW K t cs ln ++ (mainW K a b t c g sn ++ svW K g Sv (oC K o of :: Z))))) = (if laE T x g9 d = 0 then townW K a (layT T (tn x) (toT (hdT T (tn x)) (tn d)) (tn d)) ++ (waysW K b len qu n ++ (textW K t cs ln ++ (mainW K a b t c (svG g sn) (svN sn) ++ svW K (svG g sn) (svV Sv sn T) (oC K o (vp_updL of 0 ((nI (tollT T (toT (hdT T (tn x)) (tn d)))).toInt64)) :: Z)))) else townW K a T ++ (waysW K b len qu n ++ (textW K t cs ln ++ (mainW K a b t c g sn ++ svW K g Sv (oC K o of :: Z))))) := (if_neg hE1).symm
      rw [ew] at hP hD
      exact tx_iret hAe hP hD hS hx hb hr hk dL_lay_18 ⟨Nat.le_of_ble_eq_true rfl, Nat.le_of_ble_eq_true rfl⟩ rfl (by rw [h_1])
    · rw [h_2] at hc9
      refine vx_catch (name := "java/lang/IllegalArgumentException") (E := "java/lang/IllegalArgumentException") hown [⟨0, 12, 15, 13⟩] ⟨0, 12, 19, 29⟩ [⟨0, 12, 23, 15⟩] htab (List.forall_mem_cons.mpr ⟨Or.inr ⟨by decide, "java/lang/IndexOutOfBoundsException", LK13, hxn.2.2.1⟩, (fun _ h => nomatch h)⟩) (by decide) (by decide) LK29 (hXw.2.2.2.2.1.use rfl) hq9 hv9 hc9 ?_
      refine lv_astore (lv' := [(5, .ref q9), (0, .ref (c 0)), (1, .int x), (2, .int g9), (3, .int d), (4, .ref o)]) hx hb dL_lay_19 hl (by decide) rfl (fun ls hl => ?_)
      refine lv_iconst (v := nI 2) hx hb dL_lay_21 (by decide) ?_
      have ew : (townW K a T ++ (waysW K b len qu n ++ (textW K t cs ln ++ (mainW K a b t c g sn ++ svW K g Sv (oC K o of :: Z))))) = (if laE T x g9 d = 0 then townW K a (layT T (tn x) (toT (hdT T (tn x)) (tn d)) (tn d)) ++ (waysW K b len qu n ++ (textW K t cs ln ++ (mainW K a b t c (svG g sn) (svN sn) ++ svW K (svG g sn) (svV Sv sn T) (oC K o (vp_updL of 0 ((nI (tollT T (toT (hdT T (tn x)) (tn d)))).toInt64)) :: Z)))) else townW K a T ++ (waysW K b len qu n ++ (textW K t cs ln ++ (mainW K a b t c g sn ++ svW K g Sv (oC K o of :: Z))))) := (if_neg hE1).symm
      rw [ew] at hP hD
      exact tx_iret hAe hP hD hS hx hb hr hk dL_lay_22 ⟨Nat.le_of_ble_eq_true rfl, Nat.le_of_ble_eq_true rfl⟩ rfl (by rw [h_2])
    · rw [h_3] at hc9
      refine vx_catch (name := "java/lang/IllegalStateException") (E := "java/lang/IllegalStateException") hown [⟨0, 12, 15, 13⟩, ⟨0, 12, 19, 29⟩] ⟨0, 12, 23, 15⟩ [] htab (List.forall_mem_cons.mpr ⟨Or.inr ⟨by decide, "java/lang/IndexOutOfBoundsException", LK13, hxn.2.2.2.2.1⟩, (List.forall_mem_cons.mpr ⟨Or.inr ⟨by decide, "java/lang/IllegalArgumentException", LK29, hxn.2.2.2.2.2⟩, (fun _ h => nomatch h)⟩)⟩) (by decide) (by decide) LK15 (hXw.2.2.2.2.2.1.use rfl) hq9 hv9 hc9 ?_
      refine lv_astore (lv' := [(5, .ref q9), (0, .ref (c 0)), (1, .int x), (2, .int g9), (3, .int d), (4, .ref o)]) hx hb dL_lay_23 hl (by decide) rfl (fun ls hl => ?_)
      refine lv_iconst (v := nI 3) hx hb dL_lay_25 (by decide) ?_
      have ew : (townW K a T ++ (waysW K b len qu n ++ (textW K t cs ln ++ (mainW K a b t c g sn ++ svW K g Sv (oC K o of :: Z))))) = (if laE T x g9 d = 0 then townW K a (layT T (tn x) (toT (hdT T (tn x)) (tn d)) (tn d)) ++ (waysW K b len qu n ++ (textW K t cs ln ++ (mainW K a b t c (svG g sn) (svN sn) ++ svW K (svG g sn) (svV Sv sn T) (oC K o (vp_updL of 0 ((nI (tollT T (toT (hdT T (tn x)) (tn d)))).toInt64)) :: Z)))) else townW K a T ++ (waysW K b len qu n ++ (textW K t cs ln ++ (mainW K a b t c g sn ++ svW K g Sv (oC K o of :: Z))))) := (if_neg hE1).symm
      rw [ew] at hP hD
      exact tx_iret hAe hP hD hS hx hb hr hk dL_lay_26 ⟨Nat.le_of_ble_eq_true rfl, Nat.le_of_ble_eq_true rfl⟩ rfl (by rw [h_3])
set_option maxHeartbeats 4000000 in
set_option maxRecDepth 100000 in
theorem c_L_branch (l : Launch) (D : va_G) (K : Nat → ClassId) (dp fs : Nat) (hst : l.stackTraces = false) (sz : Nat) (a b t c : Nat → Nat) (g : Nat → Nat → Nat) (T : TW) (len : Nat → Option Nat) (qu : Nat → Nat) (n : Nat) (cs : Nat → Nat) (ln sn : Nat) (Sv : Nat → TW) (x f d : Int32) (hI : Inv T) (hsn : sn ≤ 6) (o : Nat) (of : Nat → Int64) (Z : va_W) : Lx dp fs l yL_branch wsL_branch ({ frames := 7, cells := 1, slots := 6, locals := 126 } : Room) D K (townW K a T ++ (waysW K b len qu n ++ (textW K t cs ln ++ (mainW K a b t c g sn ++ svW K g Sv (oC K o of :: Z))))) sz [.ref (c 0), .int x, .int f, .int d, .ref o] (if brE T x f d = 0 then townW K a (layT T (tn x) (toT (tn f) (tn d)) (tn d)) ++ (waysW K b len qu n ++ (textW K t cs ln ++ (mainW K a b t c (svG g sn) (svN sn) ++ svW K (svG g sn) (svV Sv sn T) (oC K o (vp_updL of 0 ((nI (tollT T (toT (tn f) (tn d)))).toInt64)) :: Z)))) else townW K a T ++ (waysW K b len qu n ++ (textW K t cs ln ++ (mainW K a b t c g sn ++ svW K g Sv (oC K o of :: Z))))) (nI (brE T x f d)) 1 6 := by
  refine lx_intro (cc := cL_branch) (maxL := 6) (ret := (some .int)) (hh := [(0, 12, 15, 13), (0, 12, 19, 29), (0, 12, 23, 15)]) (by decide) rfl (Nat.le_of_ble_eq_true rfl) ?_
  intro pr en st md ar bl mt co A hx hb hml hr hts hown hk hsz hAe hP hE hD hS hA htab hXw hZ hxn ls hl
  have hown : st.vm.findClass RL = some md.cls := hown
  have hl : lv_has ls 6 [(0, .ref (c 0)), (1, .int x), (2, .int f), (3, .int d), (4, .ref o)] := hl
  obtain ⟨H, hH⟩ : ∃ z, z = st.heap := ⟨_, rfl⟩
  obtain ⟨locs, hlo⟩ : ∃ z : List Loc, z = [] := ⟨_, rfl⟩
  have hP : va_P D vwCl (townW K a T ++ (waysW K b len qu n ++ (textW K t cs ln ++ (mainW K a b t c g sn ++ svW K g Sv (oC K o of :: Z))))) H := by rw [hH]; exact hP
  have hS : va_S A st.heap H locs := by rw [hH, hlo]; exact hS
  suffices go : W pr l en (headSpec wsL_branch ({ frames := 7, cells := 1, slots := 6, locals := 126 } : Room)).room st md ar bl mt co H locs 0 0 (vx_MQ bl (txQ D (townW K a T ++ (waysW K b len qu n ++ (textW K t cs ln ++ (mainW K a b t c g sn ++ svW K g Sv (oC K o of :: Z))))) (if brE T x f d = 0 then townW K a (layT T (tn x) (toT (tn f) (tn d)) (tn d)) ++ (waysW K b len qu n ++ (textW K t cs ln ++ (mainW K a b t c (svG g sn) (svN sn) ++ svW K (svG g sn) (svV Sv sn T) (oC K o (vp_updL of 0 ((nI (tollT T (toT (tn f) (tn d)))).toInt64)) :: Z)))) else townW K a T ++ (waysW K b len qu n ++ (textW K t cs ln ++ (mainW K a b t c g sn ++ svW K g Sv (oC K o of :: Z))))) sz (nI (brE T x f d)) 0) (txX D (townW K a T ++ (waysW K b len qu n ++ (textW K t cs ln ++ (mainW K a b t c g sn ++ svW K g Sv (oC K o of :: Z))))) sz 0 xnA) ar st 1 6 A) (F0 md 0 ls []) by rw [hH, hlo] at go; exact go
  clear hH hlo
  have LK13 : (Cond.classLink RL 13 "java/lang/IndexOutOfBoundsException").before ar st = true := hts _ (List.mem_of_getElem? (i := 1) rfl)
  have LK29 : (Cond.classLink RL 29 "java/lang/IllegalArgumentException").before ar st = true := hts _ (List.mem_of_getElem? (i := 2) rfl)
  have LK15 : (Cond.classLink RL 15 "java/lang/IllegalStateException").before ar st = true := hts _ (List.mem_of_getElem? (i := 3) rfl)
  refine lv_aload hx hb dL_branch_0 (lv_at hl 4 rfl) ?_
  refine lv_iconst (v := nI 0) hx hb dL_branch_2 (by decide) ?_
  refine lv_aload_n hx hb dL_branch_3 rfl (lv_at hl 0 rfl) ?_
  refine lv_iload_n hx hb dL_branch_4 rfl (lv_at hl 1 rfl) ?_
  refine lv_iload_n hx hb dL_branch_5 rfl (lv_at hl 2 rfl) ?_
  refine lv_iload_n hx hb dL_branch_6 rfl (lv_at hl 3 rfl) ?_
  refine tx_V (rest := [.int (nI 0), .ref o]) (ci := 3) (q0 := 17) ⟨hx, hb, hml, hown, hts⟩ hP hE hA hD hS hXw hZ (c_X3_branch l D K dp fs hst _ _ _ _ _ _ _ _ _ _ _ _ _ _ _ x f d hI hsn) (cwV 3 hts gL_branch_X3_branch rfl rfl rfl hd_X3_branch ⟨Nat.le_of_ble_eq_true rfl, Nat.le_of_ble_eq_true rfl⟩) rfl rfl rfl rfl hl.1 rfl (Nat.le_of_ble_eq_true rfl) dL_branch_7 ⟨Nat.le_of_ble_eq_true rfl, Nat.le_of_ble_eq_true rfl⟩ ?_ ?_
  · intro hE0 H locs hP hD hS
    have hP : va_P D vwCl (townW K a (layT T (tn x) (toT (tn f) (tn d)) (tn d)) ++ (waysW K b len qu n ++ (textW K t cs ln ++ (mainW K a b t c (svG g sn) (svN sn) ++ svW K (svG g sn) (svV Sv sn T) (oC K o of :: Z))))) H := hP
    have hD : va_D A (townW K a (layT T (tn x) (toT (tn f) (tn d)) (tn d)) ++ (waysW K b len qu n ++ (textW K t cs ln ++ (mainW K a b t c (svG g sn) (svN sn) ++ svW K (svG g sn) (svV Sv sn T) (oC K o of :: Z))))) := hD
    refine lv_i2l (v := (nI (tollT T (toT (tn f) (tn d)))).toInt64) hx hb dL_branch_10 rfl ?_
    refine nv_last hx hb hE hP hD hS 91 rfl dL_branch_11 (fun H locs hP hD hS => ?_)
    have hP : va_P D vwCl (townW K a (layT T (tn x) (toT (tn f) (tn d)) (tn d)) ++ (waysW K b len qu n ++ (textW K t cs ln ++ (mainW K a b t c (svG g sn) (svN sn) ++ svW K (svG g sn) (svV Sv sn T) (oC K o (vp_updL of 0 ((nI (tollT T (toT (tn f) (tn d)))).toInt64)) :: Z))))) H := hP
    have hD : va_D A (townW K a (layT T (tn x) (toT (tn f) (tn d)) (tn d)) ++ (waysW K b len qu n ++ (textW K t cs ln ++ (mainW K a b t c (svG g sn) (svN sn) ++ svW K (svG g sn) (svV Sv sn T) (oC K o (vp_updL of 0 ((nI (tollT T (toT (tn f) (tn d)))).toInt64)) :: Z))))) := hD
    refine lv_goto (tgt := 27) hx hb dL_branch_12 (by decide) ?_
    refine lv_iconst (v := nI 0) hx hb dL_branch_27 (by decide) ?_
    have ew : (townW K a (layT T (tn x) (toT (tn f) (tn d)) (tn d)) ++ (waysW K b len qu n ++ (textW K t cs ln ++ (mainW K a b t c (svG g sn) (svN sn) ++ svW K (svG g sn) (svV Sv sn T) (oC K o (vp_updL of 0 ((nI (tollT T (toT (tn f) (tn d)))).toInt64)) :: Z))))) = (if brE T x f d = 0 then townW K a (layT T (tn x) (toT (tn f) (tn d)) (tn d)) ++ (waysW K b len qu n ++ (textW K t cs ln ++ (mainW K a b t c (svG g sn) (svN sn) ++ svW K (svG g sn) (svV Sv sn T) (oC K o (vp_updL of 0 ((nI (tollT T (toT (tn f) (tn d)))).toInt64)) :: Z)))) else townW K a T ++ (waysW K b len qu n ++ (textW K t cs ln ++ (mainW K a b t c g sn ++ svW K g Sv (oC K o of :: Z))))) := (if_pos hE0).symm
    rw [ew] at hP hD
    exact tx_iret hAe hP hD hS hx hb hr hk dL_branch_28 ⟨Nat.le_of_ble_eq_true rfl, Nat.le_of_ble_eq_true rfl⟩ rfl (by rw [hE0])
  · intro hE1 ce q9 H locs hP hD hS hq9 hv9 hc9
    rcases (show brE T x f d = 0 ∨ brE T x f d = 1 ∨ brE T x f d = 2 ∨ brE T x f d = 3 by unfold brE; (repeat' split) <;> simp) with h_0 | h_1 | h_2 | h_3
    · exact absurd h_0 hE1
    · rw [h_1] at hc9
      refine vx_catch (name := "java/lang/IndexOutOfBoundsException") (E := "java/lang/IndexOutOfBoundsException") hown [] ⟨0, 12, 15, 13⟩ [⟨0, 12, 19, 29⟩, ⟨0, 12, 23, 15⟩] htab (fun _ h => nomatch h) (by decide) (by decide) LK13 (hXw.2.2.2.1.use rfl) hq9 hv9 hc9 ?_
      refine lv_astore (lv' := [(5, .ref q9), (0, .ref (c 0)), (1, .int x), (2, .int f), (3, .int d), (4, .ref o)]) hx hb dL_branch_15 hl (by decide) rfl (fun ls hl => ?_)
      refine lv_iconst (v := nI 1) hx hb dL_branch_17 (by decide) ?_
      have ew : (townW K a T ++ (waysW K b len qu n ++ (textW K t cs ln ++ (mainW K a b t c g sn ++ svW K g Sv (oC K o of :: Z))))) = (if brE T x f d = 0 then townW K a (layT T (tn x) (toT (tn f) (tn d)) (tn d)) ++ (waysW K b len qu n ++ (textW K t cs ln ++ (mainW K a b t c (svG g sn) (svN sn) ++ svW K (svG g sn) (svV Sv sn T) (oC K o (vp_updL of 0 ((nI (tollT T (toT (tn f) (tn d)))).toInt64)) :: Z)))) else townW K a T ++ (waysW K b len qu n ++ (textW K t cs ln ++ (mainW K a b t c g sn ++ svW K g Sv (oC K o of :: Z))))) := (if_neg hE1).symm
      rw [ew] at hP hD
      exact tx_iret hAe hP hD hS hx hb hr hk dL_branch_18 ⟨Nat.le_of_ble_eq_true rfl, Nat.le_of_ble_eq_true rfl⟩ rfl (by rw [h_1])
    · rw [h_2] at hc9
      refine vx_catch (name := "java/lang/IllegalArgumentException") (E := "java/lang/IllegalArgumentException") hown [⟨0, 12, 15, 13⟩] ⟨0, 12, 19, 29⟩ [⟨0, 12, 23, 15⟩] htab (List.forall_mem_cons.mpr ⟨Or.inr ⟨by decide, "java/lang/IndexOutOfBoundsException", LK13, hxn.2.2.1⟩, (fun _ h => nomatch h)⟩) (by decide) (by decide) LK29 (hXw.2.2.2.2.1.use rfl) hq9 hv9 hc9 ?_
      refine lv_astore (lv' := [(5, .ref q9), (0, .ref (c 0)), (1, .int x), (2, .int f), (3, .int d), (4, .ref o)]) hx hb dL_branch_19 hl (by decide) rfl (fun ls hl => ?_)
      refine lv_iconst (v := nI 2) hx hb dL_branch_21 (by decide) ?_
      have ew : (townW K a T ++ (waysW K b len qu n ++ (textW K t cs ln ++ (mainW K a b t c g sn ++ svW K g Sv (oC K o of :: Z))))) = (if brE T x f d = 0 then townW K a (layT T (tn x) (toT (tn f) (tn d)) (tn d)) ++ (waysW K b len qu n ++ (textW K t cs ln ++ (mainW K a b t c (svG g sn) (svN sn) ++ svW K (svG g sn) (svV Sv sn T) (oC K o (vp_updL of 0 ((nI (tollT T (toT (tn f) (tn d)))).toInt64)) :: Z)))) else townW K a T ++ (waysW K b len qu n ++ (textW K t cs ln ++ (mainW K a b t c g sn ++ svW K g Sv (oC K o of :: Z))))) := (if_neg hE1).symm
      rw [ew] at hP hD
      exact tx_iret hAe hP hD hS hx hb hr hk dL_branch_22 ⟨Nat.le_of_ble_eq_true rfl, Nat.le_of_ble_eq_true rfl⟩ rfl (by rw [h_2])
    · rw [h_3] at hc9
      refine vx_catch (name := "java/lang/IllegalStateException") (E := "java/lang/IllegalStateException") hown [⟨0, 12, 15, 13⟩, ⟨0, 12, 19, 29⟩] ⟨0, 12, 23, 15⟩ [] htab (List.forall_mem_cons.mpr ⟨Or.inr ⟨by decide, "java/lang/IndexOutOfBoundsException", LK13, hxn.2.2.2.2.1⟩, (List.forall_mem_cons.mpr ⟨Or.inr ⟨by decide, "java/lang/IllegalArgumentException", LK29, hxn.2.2.2.2.2⟩, (fun _ h => nomatch h)⟩)⟩) (by decide) (by decide) LK15 (hXw.2.2.2.2.2.1.use rfl) hq9 hv9 hc9 ?_
      refine lv_astore (lv' := [(5, .ref q9), (0, .ref (c 0)), (1, .int x), (2, .int f), (3, .int d), (4, .ref o)]) hx hb dL_branch_23 hl (by decide) rfl (fun ls hl => ?_)
      refine lv_iconst (v := nI 3) hx hb dL_branch_25 (by decide) ?_
      have ew : (townW K a T ++ (waysW K b len qu n ++ (textW K t cs ln ++ (mainW K a b t c g sn ++ svW K g Sv (oC K o of :: Z))))) = (if brE T x f d = 0 then townW K a (layT T (tn x) (toT (tn f) (tn d)) (tn d)) ++ (waysW K b len qu n ++ (textW K t cs ln ++ (mainW K a b t c (svG g sn) (svN sn) ++ svW K (svG g sn) (svV Sv sn T) (oC K o (vp_updL of 0 ((nI (tollT T (toT (tn f) (tn d)))).toInt64)) :: Z)))) else townW K a T ++ (waysW K b len qu n ++ (textW K t cs ln ++ (mainW K a b t c g sn ++ svW K g Sv (oC K o of :: Z))))) := (if_neg hE1).symm
      rw [ew] at hP hD
      exact tx_iret hAe hP hD hS hx hb hr hk dL_branch_26 ⟨Nat.le_of_ble_eq_true rfl, Nat.le_of_ble_eq_true rfl⟩ rfl (by rw [h_3])
set_option maxHeartbeats 4000000 in
set_option maxRecDepth 100000 in
theorem c_L_takeUp (l : Launch) (D : va_G) (K : Nat → ClassId) (dp fs : Nat) (hst : l.stackTraces = false) (sz : Nat) (a b t c : Nat → Nat) (g : Nat → Nat → Nat) (T : TW) (len : Nat → Option Nat) (qu : Nat → Nat) (n : Nat) (cs : Nat → Nat) (ln sn : Nat) (Sv : Nat → TW) (x : Int32) (hI : Inv T) (hsn : sn ≤ 6) (o : Nat) (of : Nat → Int64) (Z : va_W) : Lx dp fs l yL_takeUp wsL_takeUp ({ frames := 7, cells := 1, slots := 6, locals := 124 } : Room) D K (townW K a T ++ (waysW K b len qu n ++ (textW K t cs ln ++ (mainW K a b t c g sn ++ svW K g Sv (oC K o of :: Z))))) sz [.ref (c 0), .int x, .ref o] (if tuE x = 0 then townW K a (tkT T (tn x)) ++ (waysW K b len qu n ++ (textW K t cs ln ++ (mainW K a b t c (svG g sn) (svN sn) ++ svW K (svG g sn) (svV Sv sn T) (oC K o (vp_updL of 0 ((nI (tuC T (tn x) 80)).toInt64)) :: Z)))) else townW K a T ++ (waysW K b len qu n ++ (textW K t cs ln ++ (mainW K a b t c g sn ++ svW K g Sv (oC K o of :: Z))))) (nI (tuE x)) 1 6 := by
  refine lx_intro (cc := cL_takeUp) (maxL := 4) (ret := (some .int)) (hh := [(0, 9, 12, 13)]) (by decide) rfl (Nat.le_of_ble_eq_true rfl) ?_
  intro pr en st md ar bl mt co A hx hb hml hr hts hown hk hsz hAe hP hE hD hS hA htab hXw hZ hxn ls hl
  have hown : st.vm.findClass RL = some md.cls := hown
  have hl : lv_has ls 4 [(0, .ref (c 0)), (1, .int x), (2, .ref o)] := hl
  obtain ⟨H, hH⟩ : ∃ z, z = st.heap := ⟨_, rfl⟩
  obtain ⟨locs, hlo⟩ : ∃ z : List Loc, z = [] := ⟨_, rfl⟩
  have hP : va_P D vwCl (townW K a T ++ (waysW K b len qu n ++ (textW K t cs ln ++ (mainW K a b t c g sn ++ svW K g Sv (oC K o of :: Z))))) H := by rw [hH]; exact hP
  have hS : va_S A st.heap H locs := by rw [hH, hlo]; exact hS
  suffices go : W pr l en (headSpec wsL_takeUp ({ frames := 7, cells := 1, slots := 6, locals := 124 } : Room)).room st md ar bl mt co H locs 0 0 (vx_MQ bl (txQ D (townW K a T ++ (waysW K b len qu n ++ (textW K t cs ln ++ (mainW K a b t c g sn ++ svW K g Sv (oC K o of :: Z))))) (if tuE x = 0 then townW K a (tkT T (tn x)) ++ (waysW K b len qu n ++ (textW K t cs ln ++ (mainW K a b t c (svG g sn) (svN sn) ++ svW K (svG g sn) (svV Sv sn T) (oC K o (vp_updL of 0 ((nI (tuC T (tn x) 80)).toInt64)) :: Z)))) else townW K a T ++ (waysW K b len qu n ++ (textW K t cs ln ++ (mainW K a b t c g sn ++ svW K g Sv (oC K o of :: Z))))) sz (nI (tuE x)) 0) (txX D (townW K a T ++ (waysW K b len qu n ++ (textW K t cs ln ++ (mainW K a b t c g sn ++ svW K g Sv (oC K o of :: Z))))) sz 0 xnA) ar st 1 6 A) (F0 md 0 ls []) by rw [hH, hlo] at go; exact go
  clear hH hlo
  have LK13 : (Cond.classLink RL 13 "java/lang/IndexOutOfBoundsException").before ar st = true := hts _ (List.mem_of_getElem? (i := 1) rfl)
  refine lv_aload_n hx hb dL_takeUp_0 rfl (lv_at hl 2 rfl) ?_
  refine lv_iconst (v := nI 0) hx hb dL_takeUp_1 (by decide) ?_
  refine lv_aload_n hx hb dL_takeUp_2 rfl (lv_at hl 0 rfl) ?_
  refine lv_iload_n hx hb dL_takeUp_3 rfl (lv_at hl 1 rfl) ?_
  refine tx_V (rest := [.int (nI 0), .ref o]) (ci := 3) (q0 := 17) ⟨hx, hb, hml, hown, hts⟩ hP hE hA hD hS hXw hZ (c_X3_takeUp l D K dp fs hst _ _ _ _ _ _ _ _ _ _ _ _ _ _ _ x hI hsn) (cwV 1 hts gL_takeUp_X3_takeUp rfl rfl rfl hd_X3_takeUp ⟨Nat.le_of_ble_eq_true rfl, Nat.le_of_ble_eq_true rfl⟩) rfl rfl rfl rfl hl.1 rfl (Nat.le_of_ble_eq_true rfl) dL_takeUp_4 ⟨Nat.le_of_ble_eq_true rfl, Nat.le_of_ble_eq_true rfl⟩ ?_ ?_
  · intro hE0 H locs hP hD hS
    have hP : va_P D vwCl (townW K a (tkT T (tn x)) ++ (waysW K b len qu n ++ (textW K t cs ln ++ (mainW K a b t c (svG g sn) (svN sn) ++ svW K (svG g sn) (svV Sv sn T) (oC K o of :: Z))))) H := hP
    have hD : va_D A (townW K a (tkT T (tn x)) ++ (waysW K b len qu n ++ (textW K t cs ln ++ (mainW K a b t c (svG g sn) (svN sn) ++ svW K (svG g sn) (svV Sv sn T) (oC K o of :: Z))))) := hD
    refine lv_i2l (v := (nI (tuC T (tn x) 80)).toInt64) hx hb dL_takeUp_7 rfl ?_
    refine nv_last hx hb hE hP hD hS 91 rfl dL_takeUp_8 (fun H locs hP hD hS => ?_)
    have hP : va_P D vwCl (townW K a (tkT T (tn x)) ++ (waysW K b len qu n ++ (textW K t cs ln ++ (mainW K a b t c (svG g sn) (svN sn) ++ svW K (svG g sn) (svV Sv sn T) (oC K o (vp_updL of 0 ((nI (tuC T (tn x) 80)).toInt64)) :: Z))))) H := hP
    have hD : va_D A (townW K a (tkT T (tn x)) ++ (waysW K b len qu n ++ (textW K t cs ln ++ (mainW K a b t c (svG g sn) (svN sn) ++ svW K (svG g sn) (svV Sv sn T) (oC K o (vp_updL of 0 ((nI (tuC T (tn x) 80)).toInt64)) :: Z))))) := hD
    refine lv_goto (tgt := 15) hx hb dL_takeUp_9 (by decide) ?_
    refine lv_iconst (v := nI 0) hx hb dL_takeUp_15 (by decide) ?_
    have ew : (townW K a (tkT T (tn x)) ++ (waysW K b len qu n ++ (textW K t cs ln ++ (mainW K a b t c (svG g sn) (svN sn) ++ svW K (svG g sn) (svV Sv sn T) (oC K o (vp_updL of 0 ((nI (tuC T (tn x) 80)).toInt64)) :: Z))))) = (if tuE x = 0 then townW K a (tkT T (tn x)) ++ (waysW K b len qu n ++ (textW K t cs ln ++ (mainW K a b t c (svG g sn) (svN sn) ++ svW K (svG g sn) (svV Sv sn T) (oC K o (vp_updL of 0 ((nI (tuC T (tn x) 80)).toInt64)) :: Z)))) else townW K a T ++ (waysW K b len qu n ++ (textW K t cs ln ++ (mainW K a b t c g sn ++ svW K g Sv (oC K o of :: Z))))) := (if_pos hE0).symm
    rw [ew] at hP hD
    exact tx_iret hAe hP hD hS hx hb hr hk dL_takeUp_16 ⟨Nat.le_of_ble_eq_true rfl, Nat.le_of_ble_eq_true rfl⟩ rfl (by rw [hE0])
  · intro hE1 ce q9 H locs hP hD hS hq9 hv9 hc9
    rcases (show tuE x = 0 ∨ tuE x = 1 by unfold tuE; (repeat' split) <;> simp) with h_0 | h_1
    · exact absurd h_0 hE1
    · rw [h_1] at hc9
      refine vx_catch (name := "java/lang/IndexOutOfBoundsException") (E := "java/lang/IndexOutOfBoundsException") hown [] ⟨0, 9, 12, 13⟩ [] htab (fun _ h => nomatch h) (by decide) (by decide) LK13 (hXw.2.2.2.1.use rfl) hq9 hv9 hc9 ?_
      refine lv_astore_n (lv' := [(3, .ref q9), (0, .ref (c 0)), (1, .int x), (2, .ref o)]) hx hb dL_takeUp_12 rfl hl (by decide) rfl (fun ls hl => ?_)
      refine lv_iconst (v := nI 1) hx hb dL_takeUp_13 (by decide) ?_
      have ew : (townW K a T ++ (waysW K b len qu n ++ (textW K t cs ln ++ (mainW K a b t c g sn ++ svW K g Sv (oC K o of :: Z))))) = (if tuE x = 0 then townW K a (tkT T (tn x)) ++ (waysW K b len qu n ++ (textW K t cs ln ++ (mainW K a b t c (svG g sn) (svN sn) ++ svW K (svG g sn) (svV Sv sn T) (oC K o (vp_updL of 0 ((nI (tuC T (tn x) 80)).toInt64)) :: Z)))) else townW K a T ++ (waysW K b len qu n ++ (textW K t cs ln ++ (mainW K a b t c g sn ++ svW K g Sv (oC K o of :: Z))))) := (if_neg hE1).symm
      rw [ew] at hP hD
      exact tx_iret hAe hP hD hS hx hb hr hk dL_takeUp_14 ⟨Nat.le_of_ble_eq_true rfl, Nat.le_of_ble_eq_true rfl⟩ rfl (by rw [h_1])
set_option maxHeartbeats 4000000 in
set_option maxRecDepth 100000 in
theorem c_L_give (l : Launch) (D : va_G) (K : Nat → ClassId) (dp fs : Nat) (hst : l.stackTraces = false) (sz : Nat) (a b t c : Nat → Nat) (g : Nat → Nat → Nat) (T : TW) (len : Nat → Option Nat) (qu : Nat → Nat) (n : Nat) (cs : Nat → Nat) (ln sn : Nat) (Sv : Nat → TW) (x k : Int32) (hI : Inv T) (hsn : sn ≤ 6) (o : Nat) (of : Nat → Int64) (Z : va_W) : Lx dp fs l yL_give wsL_give ({ frames := 7, cells := 1, slots := 6, locals := 125 } : Room) D K (townW K a T ++ (waysW K b len qu n ++ (textW K t cs ln ++ (mainW K a b t c g sn ++ svW K g Sv (oC K o of :: Z))))) sz [.ref (c 0), .int x, .int k, .ref o] (if giE T x k = 0 then townW K a (setT T 5 (tn x) (T 5 (tn x) + k)) ++ (waysW K b len qu n ++ (textW K t cs ln ++ (mainW K a b t c (svG g sn) (svN sn) ++ svW K (svG g sn) (svV Sv sn T) (oC K o (vp_updL of 0 ((coT T (tn x) + k).toInt64)) :: Z)))) else townW K a T ++ (waysW K b len qu n ++ (textW K t cs ln ++ (mainW K a b t c g sn ++ svW K g Sv (oC K o of :: Z))))) (nI (giE T x k)) 1 6 := by
  refine lx_intro (cc := cL_give) (maxL := 5) (ret := (some .int)) (hh := [(0, 10, 13, 13), (0, 10, 17, 29), (0, 10, 21, 15)]) (by decide) rfl (Nat.le_of_ble_eq_true rfl) ?_
  intro pr en st md ar bl mt co A hx hb hml hr hts hown hk hsz hAe hP hE hD hS hA htab hXw hZ hxn ls hl
  have hown : st.vm.findClass RL = some md.cls := hown
  have hl : lv_has ls 5 [(0, .ref (c 0)), (1, .int x), (2, .int k), (3, .ref o)] := hl
  obtain ⟨H, hH⟩ : ∃ z, z = st.heap := ⟨_, rfl⟩
  obtain ⟨locs, hlo⟩ : ∃ z : List Loc, z = [] := ⟨_, rfl⟩
  have hP : va_P D vwCl (townW K a T ++ (waysW K b len qu n ++ (textW K t cs ln ++ (mainW K a b t c g sn ++ svW K g Sv (oC K o of :: Z))))) H := by rw [hH]; exact hP
  have hS : va_S A st.heap H locs := by rw [hH, hlo]; exact hS
  suffices go : W pr l en (headSpec wsL_give ({ frames := 7, cells := 1, slots := 6, locals := 125 } : Room)).room st md ar bl mt co H locs 0 0 (vx_MQ bl (txQ D (townW K a T ++ (waysW K b len qu n ++ (textW K t cs ln ++ (mainW K a b t c g sn ++ svW K g Sv (oC K o of :: Z))))) (if giE T x k = 0 then townW K a (setT T 5 (tn x) (T 5 (tn x) + k)) ++ (waysW K b len qu n ++ (textW K t cs ln ++ (mainW K a b t c (svG g sn) (svN sn) ++ svW K (svG g sn) (svV Sv sn T) (oC K o (vp_updL of 0 ((coT T (tn x) + k).toInt64)) :: Z)))) else townW K a T ++ (waysW K b len qu n ++ (textW K t cs ln ++ (mainW K a b t c g sn ++ svW K g Sv (oC K o of :: Z))))) sz (nI (giE T x k)) 0) (txX D (townW K a T ++ (waysW K b len qu n ++ (textW K t cs ln ++ (mainW K a b t c g sn ++ svW K g Sv (oC K o of :: Z))))) sz 0 xnA) ar st 1 6 A) (F0 md 0 ls []) by rw [hH, hlo] at go; exact go
  clear hH hlo
  have LK13 : (Cond.classLink RL 13 "java/lang/IndexOutOfBoundsException").before ar st = true := hts _ (List.mem_of_getElem? (i := 1) rfl)
  have LK29 : (Cond.classLink RL 29 "java/lang/IllegalArgumentException").before ar st = true := hts _ (List.mem_of_getElem? (i := 2) rfl)
  have LK15 : (Cond.classLink RL 15 "java/lang/IllegalStateException").before ar st = true := hts _ (List.mem_of_getElem? (i := 3) rfl)
  refine lv_aload_n hx hb dL_give_0 rfl (lv_at hl 3 rfl) ?_
  refine lv_iconst (v := nI 0) hx hb dL_give_1 (by decide) ?_
  refine lv_aload_n hx hb dL_give_2 rfl (lv_at hl 0 rfl) ?_
  refine lv_iload_n hx hb dL_give_3 rfl (lv_at hl 1 rfl) ?_
  refine lv_iload_n hx hb dL_give_4 rfl (lv_at hl 2 rfl) ?_
  refine tx_V (rest := [.int (nI 0), .ref o]) (ci := 3) (q0 := 17) ⟨hx, hb, hml, hown, hts⟩ hP hE hA hD hS hXw hZ (c_X3_give l D K dp fs hst _ _ _ _ _ _ _ _ _ _ _ _ _ _ _ x k hI hsn) (cwV 2 hts gL_give_X3_give rfl rfl rfl hd_X3_give ⟨Nat.le_of_ble_eq_true rfl, Nat.le_of_ble_eq_true rfl⟩) rfl rfl rfl rfl hl.1 rfl (Nat.le_of_ble_eq_true rfl) dL_give_5 ⟨Nat.le_of_ble_eq_true rfl, Nat.le_of_ble_eq_true rfl⟩ ?_ ?_
  · intro hE0 H locs hP hD hS
    have hP : va_P D vwCl (townW K a (setT T 5 (tn x) (T 5 (tn x) + k)) ++ (waysW K b len qu n ++ (textW K t cs ln ++ (mainW K a b t c (svG g sn) (svN sn) ++ svW K (svG g sn) (svV Sv sn T) (oC K o of :: Z))))) H := hP
    have hD : va_D A (townW K a (setT T 5 (tn x) (T 5 (tn x) + k)) ++ (waysW K b len qu n ++ (textW K t cs ln ++ (mainW K a b t c (svG g sn) (svN sn) ++ svW K (svG g sn) (svV Sv sn T) (oC K o of :: Z))))) := hD
    refine lv_i2l (v := (coT T (tn x) + k).toInt64) hx hb dL_give_8 rfl ?_
    refine nv_last hx hb hE hP hD hS 91 rfl dL_give_9 (fun H locs hP hD hS => ?_)
    have hP : va_P D vwCl (townW K a (setT T 5 (tn x) (T 5 (tn x) + k)) ++ (waysW K b len qu n ++ (textW K t cs ln ++ (mainW K a b t c (svG g sn) (svN sn) ++ svW K (svG g sn) (svV Sv sn T) (oC K o (vp_updL of 0 ((coT T (tn x) + k).toInt64)) :: Z))))) H := hP
    have hD : va_D A (townW K a (setT T 5 (tn x) (T 5 (tn x) + k)) ++ (waysW K b len qu n ++ (textW K t cs ln ++ (mainW K a b t c (svG g sn) (svN sn) ++ svW K (svG g sn) (svV Sv sn T) (oC K o (vp_updL of 0 ((coT T (tn x) + k).toInt64)) :: Z))))) := hD
    refine lv_goto (tgt := 25) hx hb dL_give_10 (by decide) ?_
    refine lv_iconst (v := nI 0) hx hb dL_give_25 (by decide) ?_
    have ew : (townW K a (setT T 5 (tn x) (T 5 (tn x) + k)) ++ (waysW K b len qu n ++ (textW K t cs ln ++ (mainW K a b t c (svG g sn) (svN sn) ++ svW K (svG g sn) (svV Sv sn T) (oC K o (vp_updL of 0 ((coT T (tn x) + k).toInt64)) :: Z))))) = (if giE T x k = 0 then townW K a (setT T 5 (tn x) (T 5 (tn x) + k)) ++ (waysW K b len qu n ++ (textW K t cs ln ++ (mainW K a b t c (svG g sn) (svN sn) ++ svW K (svG g sn) (svV Sv sn T) (oC K o (vp_updL of 0 ((coT T (tn x) + k).toInt64)) :: Z)))) else townW K a T ++ (waysW K b len qu n ++ (textW K t cs ln ++ (mainW K a b t c g sn ++ svW K g Sv (oC K o of :: Z))))) := (if_pos hE0).symm
    rw [ew] at hP hD
    exact tx_iret hAe hP hD hS hx hb hr hk dL_give_26 ⟨Nat.le_of_ble_eq_true rfl, Nat.le_of_ble_eq_true rfl⟩ rfl (by rw [hE0])
  · intro hE1 ce q9 H locs hP hD hS hq9 hv9 hc9
    rcases (show giE T x k = 0 ∨ giE T x k = 1 ∨ giE T x k = 2 ∨ giE T x k = 3 by unfold giE; (repeat' split) <;> simp) with h_0 | h_1 | h_2 | h_3
    · exact absurd h_0 hE1
    · rw [h_1] at hc9
      refine vx_catch (name := "java/lang/IndexOutOfBoundsException") (E := "java/lang/IndexOutOfBoundsException") hown [] ⟨0, 10, 13, 13⟩ [⟨0, 10, 17, 29⟩, ⟨0, 10, 21, 15⟩] htab (fun _ h => nomatch h) (by decide) (by decide) LK13 (hXw.2.2.2.1.use rfl) hq9 hv9 hc9 ?_
      refine lv_astore (lv' := [(4, .ref q9), (0, .ref (c 0)), (1, .int x), (2, .int k), (3, .ref o)]) hx hb dL_give_13 hl (by decide) rfl (fun ls hl => ?_)
      refine lv_iconst (v := nI 1) hx hb dL_give_15 (by decide) ?_
      have ew : (townW K a T ++ (waysW K b len qu n ++ (textW K t cs ln ++ (mainW K a b t c g sn ++ svW K g Sv (oC K o of :: Z))))) = (if giE T x k = 0 then townW K a (setT T 5 (tn x) (T 5 (tn x) + k)) ++ (waysW K b len qu n ++ (textW K t cs ln ++ (mainW K a b t c (svG g sn) (svN sn) ++ svW K (svG g sn) (svV Sv sn T) (oC K o (vp_updL of 0 ((coT T (tn x) + k).toInt64)) :: Z)))) else townW K a T ++ (waysW K b len qu n ++ (textW K t cs ln ++ (mainW K a b t c g sn ++ svW K g Sv (oC K o of :: Z))))) := (if_neg hE1).symm
      rw [ew] at hP hD
      exact tx_iret hAe hP hD hS hx hb hr hk dL_give_16 ⟨Nat.le_of_ble_eq_true rfl, Nat.le_of_ble_eq_true rfl⟩ rfl (by rw [h_1])
    · rw [h_2] at hc9
      refine vx_catch (name := "java/lang/IllegalArgumentException") (E := "java/lang/IllegalArgumentException") hown [⟨0, 10, 13, 13⟩] ⟨0, 10, 17, 29⟩ [⟨0, 10, 21, 15⟩] htab (List.forall_mem_cons.mpr ⟨Or.inr ⟨by decide, "java/lang/IndexOutOfBoundsException", LK13, hxn.2.2.1⟩, (fun _ h => nomatch h)⟩) (by decide) (by decide) LK29 (hXw.2.2.2.2.1.use rfl) hq9 hv9 hc9 ?_
      refine lv_astore (lv' := [(4, .ref q9), (0, .ref (c 0)), (1, .int x), (2, .int k), (3, .ref o)]) hx hb dL_give_17 hl (by decide) rfl (fun ls hl => ?_)
      refine lv_iconst (v := nI 2) hx hb dL_give_19 (by decide) ?_
      have ew : (townW K a T ++ (waysW K b len qu n ++ (textW K t cs ln ++ (mainW K a b t c g sn ++ svW K g Sv (oC K o of :: Z))))) = (if giE T x k = 0 then townW K a (setT T 5 (tn x) (T 5 (tn x) + k)) ++ (waysW K b len qu n ++ (textW K t cs ln ++ (mainW K a b t c (svG g sn) (svN sn) ++ svW K (svG g sn) (svV Sv sn T) (oC K o (vp_updL of 0 ((coT T (tn x) + k).toInt64)) :: Z)))) else townW K a T ++ (waysW K b len qu n ++ (textW K t cs ln ++ (mainW K a b t c g sn ++ svW K g Sv (oC K o of :: Z))))) := (if_neg hE1).symm
      rw [ew] at hP hD
      exact tx_iret hAe hP hD hS hx hb hr hk dL_give_20 ⟨Nat.le_of_ble_eq_true rfl, Nat.le_of_ble_eq_true rfl⟩ rfl (by rw [h_2])
    · rw [h_3] at hc9
      refine vx_catch (name := "java/lang/IllegalStateException") (E := "java/lang/IllegalStateException") hown [⟨0, 10, 13, 13⟩, ⟨0, 10, 17, 29⟩] ⟨0, 10, 21, 15⟩ [] htab (List.forall_mem_cons.mpr ⟨Or.inr ⟨by decide, "java/lang/IndexOutOfBoundsException", LK13, hxn.2.2.2.2.1⟩, (List.forall_mem_cons.mpr ⟨Or.inr ⟨by decide, "java/lang/IllegalArgumentException", LK29, hxn.2.2.2.2.2⟩, (fun _ h => nomatch h)⟩)⟩) (by decide) (by decide) LK15 (hXw.2.2.2.2.2.1.use rfl) hq9 hv9 hc9 ?_
      refine lv_astore (lv' := [(4, .ref q9), (0, .ref (c 0)), (1, .int x), (2, .int k), (3, .ref o)]) hx hb dL_give_21 hl (by decide) rfl (fun ls hl => ?_)
      refine lv_iconst (v := nI 3) hx hb dL_give_23 (by decide) ?_
      have ew : (townW K a T ++ (waysW K b len qu n ++ (textW K t cs ln ++ (mainW K a b t c g sn ++ svW K g Sv (oC K o of :: Z))))) = (if giE T x k = 0 then townW K a (setT T 5 (tn x) (T 5 (tn x) + k)) ++ (waysW K b len qu n ++ (textW K t cs ln ++ (mainW K a b t c (svG g sn) (svN sn) ++ svW K (svG g sn) (svV Sv sn T) (oC K o (vp_updL of 0 ((coT T (tn x) + k).toInt64)) :: Z)))) else townW K a T ++ (waysW K b len qu n ++ (textW K t cs ln ++ (mainW K a b t c g sn ++ svW K g Sv (oC K o of :: Z))))) := (if_neg hE1).symm
      rw [ew] at hP hD
      exact tx_iret hAe hP hD hS hx hb hr hk dL_give_24 ⟨Nat.le_of_ble_eq_true rfl, Nat.le_of_ble_eq_true rfl⟩ rfl (by rw [h_3])
set_option maxHeartbeats 4000000 in
set_option maxRecDepth 100000 in
theorem c_L_set (l : Launch) (D : va_G) (K : Nat → ClassId) (dp fs : Nat) (hst : l.stackTraces = false) (sz : Nat) (a b t c : Nat → Nat) (g : Nat → Nat → Nat) (T : TW) (len : Nat → Option Nat) (qu : Nat → Nat) (n : Nat) (cs : Nat → Nat) (ln sn : Nat) (Sv : Nat → TW) (x v : Int32) (hI : Inv T) (hsn : sn ≤ 6) (o : Nat) (of : Nat → Int64) (Z : va_W) : Lx dp fs l yL_set wsL_set ({ frames := 7, cells := 1, slots := 6, locals := 126 } : Room) D K (townW K a T ++ (waysW K b len qu n ++ (textW K t cs ln ++ (mainW K a b t c g sn ++ svW K g Sv (oC K o of :: Z))))) sz [.ref (c 0), .int x, .int v, .ref o] (if seE x v = 0 then townW K a (setT T 10 (tn x) v) ++ (waysW K b len qu n ++ (textW K t cs ln ++ (mainW K a b t c (svG g sn) (svN sn) ++ svW K (svG g sn) (svV Sv sn T) (oC K o (vp_updL of 0 ((nI (stT T (tn x))).toInt64)) :: Z)))) else townW K a T ++ (waysW K b len qu n ++ (textW K t cs ln ++ (mainW K a b t c g sn ++ svW K g Sv (oC K o of :: Z))))) (nI (seE x v)) 1 6 := by
  refine lx_intro (cc := cL_set) (maxL := 5) (ret := (some .int)) (hh := [(0, 10, 13, 13), (0, 10, 17, 29)]) (by decide) rfl (Nat.le_of_ble_eq_true rfl) ?_
  intro pr en st md ar bl mt co A hx hb hml hr hts hown hk hsz hAe hP hE hD hS hA htab hXw hZ hxn ls hl
  have hown : st.vm.findClass RL = some md.cls := hown
  have hl : lv_has ls 5 [(0, .ref (c 0)), (1, .int x), (2, .int v), (3, .ref o)] := hl
  obtain ⟨H, hH⟩ : ∃ z, z = st.heap := ⟨_, rfl⟩
  obtain ⟨locs, hlo⟩ : ∃ z : List Loc, z = [] := ⟨_, rfl⟩
  have hP : va_P D vwCl (townW K a T ++ (waysW K b len qu n ++ (textW K t cs ln ++ (mainW K a b t c g sn ++ svW K g Sv (oC K o of :: Z))))) H := by rw [hH]; exact hP
  have hS : va_S A st.heap H locs := by rw [hH, hlo]; exact hS
  suffices go : W pr l en (headSpec wsL_set ({ frames := 7, cells := 1, slots := 6, locals := 126 } : Room)).room st md ar bl mt co H locs 0 0 (vx_MQ bl (txQ D (townW K a T ++ (waysW K b len qu n ++ (textW K t cs ln ++ (mainW K a b t c g sn ++ svW K g Sv (oC K o of :: Z))))) (if seE x v = 0 then townW K a (setT T 10 (tn x) v) ++ (waysW K b len qu n ++ (textW K t cs ln ++ (mainW K a b t c (svG g sn) (svN sn) ++ svW K (svG g sn) (svV Sv sn T) (oC K o (vp_updL of 0 ((nI (stT T (tn x))).toInt64)) :: Z)))) else townW K a T ++ (waysW K b len qu n ++ (textW K t cs ln ++ (mainW K a b t c g sn ++ svW K g Sv (oC K o of :: Z))))) sz (nI (seE x v)) 0) (txX D (townW K a T ++ (waysW K b len qu n ++ (textW K t cs ln ++ (mainW K a b t c g sn ++ svW K g Sv (oC K o of :: Z))))) sz 0 xnA) ar st 1 6 A) (F0 md 0 ls []) by rw [hH, hlo] at go; exact go
  clear hH hlo
  have LK13 : (Cond.classLink RL 13 "java/lang/IndexOutOfBoundsException").before ar st = true := hts _ (List.mem_of_getElem? (i := 1) rfl)
  have LK29 : (Cond.classLink RL 29 "java/lang/IllegalArgumentException").before ar st = true := hts _ (List.mem_of_getElem? (i := 2) rfl)
  refine lv_aload_n hx hb dL_set_0 rfl (lv_at hl 3 rfl) ?_
  refine lv_iconst (v := nI 0) hx hb dL_set_1 (by decide) ?_
  refine lv_aload_n hx hb dL_set_2 rfl (lv_at hl 0 rfl) ?_
  refine lv_iload_n hx hb dL_set_3 rfl (lv_at hl 1 rfl) ?_
  refine lv_iload_n hx hb dL_set_4 rfl (lv_at hl 2 rfl) ?_
  refine tx_V (rest := [.int (nI 0), .ref o]) (ci := 3) (q0 := 17) ⟨hx, hb, hml, hown, hts⟩ hP hE hA hD hS hXw hZ (c_X3_set l D K dp fs hst _ _ _ _ _ _ _ _ _ _ _ _ _ _ _ x v hI hsn) (cwV 2 hts gL_set_X3_set rfl rfl rfl hd_X3_set ⟨Nat.le_of_ble_eq_true rfl, Nat.le_of_ble_eq_true rfl⟩) rfl rfl rfl rfl hl.1 rfl (Nat.le_of_ble_eq_true rfl) dL_set_5 ⟨Nat.le_of_ble_eq_true rfl, Nat.le_of_ble_eq_true rfl⟩ ?_ ?_
  · intro hE0 H locs hP hD hS
    have hP : va_P D vwCl (townW K a (setT T 10 (tn x) v) ++ (waysW K b len qu n ++ (textW K t cs ln ++ (mainW K a b t c (svG g sn) (svN sn) ++ svW K (svG g sn) (svV Sv sn T) (oC K o of :: Z))))) H := hP
    have hD : va_D A (townW K a (setT T 10 (tn x) v) ++ (waysW K b len qu n ++ (textW K t cs ln ++ (mainW K a b t c (svG g sn) (svN sn) ++ svW K (svG g sn) (svV Sv sn T) (oC K o of :: Z))))) := hD
    refine lv_i2l (v := (nI (stT T (tn x))).toInt64) hx hb dL_set_8 rfl ?_
    refine nv_last hx hb hE hP hD hS 91 rfl dL_set_9 (fun H locs hP hD hS => ?_)
    have hP : va_P D vwCl (townW K a (setT T 10 (tn x) v) ++ (waysW K b len qu n ++ (textW K t cs ln ++ (mainW K a b t c (svG g sn) (svN sn) ++ svW K (svG g sn) (svV Sv sn T) (oC K o (vp_updL of 0 ((nI (stT T (tn x))).toInt64)) :: Z))))) H := hP
    have hD : va_D A (townW K a (setT T 10 (tn x) v) ++ (waysW K b len qu n ++ (textW K t cs ln ++ (mainW K a b t c (svG g sn) (svN sn) ++ svW K (svG g sn) (svV Sv sn T) (oC K o (vp_updL of 0 ((nI (stT T (tn x))).toInt64)) :: Z))))) := hD
    refine lv_goto (tgt := 21) hx hb dL_set_10 (by decide) ?_
    refine lv_iconst (v := nI 0) hx hb dL_set_21 (by decide) ?_
    have ew : (townW K a (setT T 10 (tn x) v) ++ (waysW K b len qu n ++ (textW K t cs ln ++ (mainW K a b t c (svG g sn) (svN sn) ++ svW K (svG g sn) (svV Sv sn T) (oC K o (vp_updL of 0 ((nI (stT T (tn x))).toInt64)) :: Z))))) = (if seE x v = 0 then townW K a (setT T 10 (tn x) v) ++ (waysW K b len qu n ++ (textW K t cs ln ++ (mainW K a b t c (svG g sn) (svN sn) ++ svW K (svG g sn) (svV Sv sn T) (oC K o (vp_updL of 0 ((nI (stT T (tn x))).toInt64)) :: Z)))) else townW K a T ++ (waysW K b len qu n ++ (textW K t cs ln ++ (mainW K a b t c g sn ++ svW K g Sv (oC K o of :: Z))))) := (if_pos hE0).symm
    rw [ew] at hP hD
    exact tx_iret hAe hP hD hS hx hb hr hk dL_set_22 ⟨Nat.le_of_ble_eq_true rfl, Nat.le_of_ble_eq_true rfl⟩ rfl (by rw [hE0])
  · intro hE1 ce q9 H locs hP hD hS hq9 hv9 hc9
    rcases (show seE x v = 0 ∨ seE x v = 1 ∨ seE x v = 2 by unfold seE; (repeat' split) <;> simp) with h_0 | h_1 | h_2
    · exact absurd h_0 hE1
    · rw [h_1] at hc9
      refine vx_catch (name := "java/lang/IndexOutOfBoundsException") (E := "java/lang/IndexOutOfBoundsException") hown [] ⟨0, 10, 13, 13⟩ [⟨0, 10, 17, 29⟩] htab (fun _ h => nomatch h) (by decide) (by decide) LK13 (hXw.2.2.2.1.use rfl) hq9 hv9 hc9 ?_
      refine lv_astore (lv' := [(4, .ref q9), (0, .ref (c 0)), (1, .int x), (2, .int v), (3, .ref o)]) hx hb dL_set_13 hl (by decide) rfl (fun ls hl => ?_)
      refine lv_iconst (v := nI 1) hx hb dL_set_15 (by decide) ?_
      have ew : (townW K a T ++ (waysW K b len qu n ++ (textW K t cs ln ++ (mainW K a b t c g sn ++ svW K g Sv (oC K o of :: Z))))) = (if seE x v = 0 then townW K a (setT T 10 (tn x) v) ++ (waysW K b len qu n ++ (textW K t cs ln ++ (mainW K a b t c (svG g sn) (svN sn) ++ svW K (svG g sn) (svV Sv sn T) (oC K o (vp_updL of 0 ((nI (stT T (tn x))).toInt64)) :: Z)))) else townW K a T ++ (waysW K b len qu n ++ (textW K t cs ln ++ (mainW K a b t c g sn ++ svW K g Sv (oC K o of :: Z))))) := (if_neg hE1).symm
      rw [ew] at hP hD
      exact tx_iret hAe hP hD hS hx hb hr hk dL_set_16 ⟨Nat.le_of_ble_eq_true rfl, Nat.le_of_ble_eq_true rfl⟩ rfl (by rw [h_1])
    · rw [h_2] at hc9
      refine vx_catch (name := "java/lang/IllegalArgumentException") (E := "java/lang/IllegalArgumentException") hown [⟨0, 10, 13, 13⟩] ⟨0, 10, 17, 29⟩ [] htab (List.forall_mem_cons.mpr ⟨Or.inr ⟨by decide, "java/lang/IndexOutOfBoundsException", LK13, hxn.2.2.1⟩, (fun _ h => nomatch h)⟩) (by decide) (by decide) LK29 (hXw.2.2.2.2.1.use rfl) hq9 hv9 hc9 ?_
      refine lv_astore (lv' := [(4, .ref q9), (0, .ref (c 0)), (1, .int x), (2, .int v), (3, .ref o)]) hx hb dL_set_17 hl (by decide) rfl (fun ls hl => ?_)
      refine lv_iconst (v := nI 2) hx hb dL_set_19 (by decide) ?_
      have ew : (townW K a T ++ (waysW K b len qu n ++ (textW K t cs ln ++ (mainW K a b t c g sn ++ svW K g Sv (oC K o of :: Z))))) = (if seE x v = 0 then townW K a (setT T 10 (tn x) v) ++ (waysW K b len qu n ++ (textW K t cs ln ++ (mainW K a b t c (svG g sn) (svN sn) ++ svW K (svG g sn) (svV Sv sn T) (oC K o (vp_updL of 0 ((nI (stT T (tn x))).toInt64)) :: Z)))) else townW K a T ++ (waysW K b len qu n ++ (textW K t cs ln ++ (mainW K a b t c g sn ++ svW K g Sv (oC K o of :: Z))))) := (if_neg hE1).symm
      rw [ew] at hP hD
      exact tx_iret hAe hP hD hS hx hb hr hk dL_set_20 ⟨Nat.le_of_ble_eq_true rfl, Nat.le_of_ble_eq_true rfl⟩ rfl (by rw [h_2])
set_option maxHeartbeats 4000000 in
set_option maxRecDepth 100000 in
theorem c_L_append (l : Launch) (D : va_G) (K : Nat → ClassId) (dp fs : Nat) (hst : l.stackTraces = false) (sz : Nat) (a b t c : Nat → Nat) (g : Nat → Nat → Nat) (T : TW) (len : Nat → Option Nat) (qu : Nat → Nat) (n : Nat) (cs : Nat → Nat) (ln sn : Nat) (Sv : Nat → TW) (x : Int32) (hCB : CB cs ln) (o : Nat) (of : Nat → Int64) (Z : va_W) : Lx dp fs l yL_append wsL_append ({ frames := 7, cells := 1, slots := 6, locals := 103 } : Room) D K (townW K a T ++ (waysW K b len qu n ++ (textW K t cs ln ++ (mainW K a b t c g sn ++ svW K g Sv (oC K o of :: Z))))) sz [.ref (c 0), .int x, .ref o] (if apE ln x = 0 then townW K a T ++ (waysW K b len qu n ++ (textW K t (va_up cs ln (tn x)) (ln + 1) ++ (mainW K a b t c g sn ++ svW K g Sv (oC K o (vp_updL of 0 ((nI (ln + 1)).toInt64)) :: Z)))) else townW K a T ++ (waysW K b len qu n ++ (textW K t cs ln ++ (mainW K a b t c g sn ++ svW K g Sv (oC K o of :: Z))))) (nI (apE ln x)) 1 6 := by
  refine lx_intro (cc := cL_append) (maxL := 4) (ret := (some .int)) (hh := [(0, 9, 12, 29), (0, 9, 15, 15)]) (by decide) rfl (Nat.le_of_ble_eq_true rfl) ?_
  intro pr en st md ar bl mt co A hx hb hml hr hts hown hk hsz hAe hP hE hD hS hA htab hXw hZ hxn ls hl
  have hown : st.vm.findClass RL = some md.cls := hown
  have hl : lv_has ls 4 [(0, .ref (c 0)), (1, .int x), (2, .ref o)] := hl
  obtain ⟨H, hH⟩ : ∃ z, z = st.heap := ⟨_, rfl⟩
  obtain ⟨locs, hlo⟩ : ∃ z : List Loc, z = [] := ⟨_, rfl⟩
  have hP : va_P D vwCl (townW K a T ++ (waysW K b len qu n ++ (textW K t cs ln ++ (mainW K a b t c g sn ++ svW K g Sv (oC K o of :: Z))))) H := by rw [hH]; exact hP
  have hS : va_S A st.heap H locs := by rw [hH, hlo]; exact hS
  suffices go : W pr l en (headSpec wsL_append ({ frames := 7, cells := 1, slots := 6, locals := 103 } : Room)).room st md ar bl mt co H locs 0 0 (vx_MQ bl (txQ D (townW K a T ++ (waysW K b len qu n ++ (textW K t cs ln ++ (mainW K a b t c g sn ++ svW K g Sv (oC K o of :: Z))))) (if apE ln x = 0 then townW K a T ++ (waysW K b len qu n ++ (textW K t (va_up cs ln (tn x)) (ln + 1) ++ (mainW K a b t c g sn ++ svW K g Sv (oC K o (vp_updL of 0 ((nI (ln + 1)).toInt64)) :: Z)))) else townW K a T ++ (waysW K b len qu n ++ (textW K t cs ln ++ (mainW K a b t c g sn ++ svW K g Sv (oC K o of :: Z))))) sz (nI (apE ln x)) 0) (txX D (townW K a T ++ (waysW K b len qu n ++ (textW K t cs ln ++ (mainW K a b t c g sn ++ svW K g Sv (oC K o of :: Z))))) sz 0 xnA) ar st 1 6 A) (F0 md 0 ls []) by rw [hH, hlo] at go; exact go
  clear hH hlo
  have LK29 : (Cond.classLink RL 29 "java/lang/IllegalArgumentException").before ar st = true := hts _ (List.mem_of_getElem? (i := 1) rfl)
  have LK15 : (Cond.classLink RL 15 "java/lang/IllegalStateException").before ar st = true := hts _ (List.mem_of_getElem? (i := 2) rfl)
  refine lv_aload_n hx hb dL_append_0 rfl (lv_at hl 2 rfl) ?_
  refine lv_iconst (v := nI 0) hx hb dL_append_1 (by decide) ?_
  refine lv_aload_n hx hb dL_append_2 rfl (lv_at hl 0 rfl) ?_
  refine lv_iload_n hx hb dL_append_3 rfl (lv_at hl 1 rfl) ?_
  refine tx_V (rest := [.int (nI 0), .ref o]) (ci := 3) (q0 := 17) ⟨hx, hb, hml, hown, hts⟩ hP hE hA hD hS hXw hZ (c_X3_append l D K dp fs hst _ _ _ _ _ _ _ _ _ _ _ _ _ _ _ x hCB) (cwV 1 hts gL_append_X3_append rfl rfl rfl hd_X3_append ⟨Nat.le_of_ble_eq_true rfl, Nat.le_of_ble_eq_true rfl⟩) rfl rfl rfl rfl hl.1 rfl (Nat.le_of_ble_eq_true rfl) dL_append_4 ⟨Nat.le_of_ble_eq_true rfl, Nat.le_of_ble_eq_true rfl⟩ ?_ ?_
  · intro hE0 H locs hP hD hS
    have hP : va_P D vwCl (townW K a T ++ (waysW K b len qu n ++ (textW K t (va_up cs ln (tn x)) (ln + 1) ++ (mainW K a b t c g sn ++ svW K g Sv (oC K o of :: Z))))) H := hP
    have hD : va_D A (townW K a T ++ (waysW K b len qu n ++ (textW K t (va_up cs ln (tn x)) (ln + 1) ++ (mainW K a b t c g sn ++ svW K g Sv (oC K o of :: Z))))) := hD
    refine lv_i2l (v := (nI (ln + 1)).toInt64) hx hb dL_append_7 rfl ?_
    refine nv_last hx hb hE hP hD hS 91 rfl dL_append_8 (fun H locs hP hD hS => ?_)
    have hP : va_P D vwCl (townW K a T ++ (waysW K b len qu n ++ (textW K t (va_up cs ln (tn x)) (ln + 1) ++ (mainW K a b t c g sn ++ svW K g Sv (oC K o (vp_updL of 0 ((nI (ln + 1)).toInt64)) :: Z))))) H := hP
    have hD : va_D A (townW K a T ++ (waysW K b len qu n ++ (textW K t (va_up cs ln (tn x)) (ln + 1) ++ (mainW K a b t c g sn ++ svW K g Sv (oC K o (vp_updL of 0 ((nI (ln + 1)).toInt64)) :: Z))))) := hD
    refine lv_goto (tgt := 18) hx hb dL_append_9 (by decide) ?_
    refine lv_iconst (v := nI 0) hx hb dL_append_18 (by decide) ?_
    have ew : (townW K a T ++ (waysW K b len qu n ++ (textW K t (va_up cs ln (tn x)) (ln + 1) ++ (mainW K a b t c g sn ++ svW K g Sv (oC K o (vp_updL of 0 ((nI (ln + 1)).toInt64)) :: Z))))) = (if apE ln x = 0 then townW K a T ++ (waysW K b len qu n ++ (textW K t (va_up cs ln (tn x)) (ln + 1) ++ (mainW K a b t c g sn ++ svW K g Sv (oC K o (vp_updL of 0 ((nI (ln + 1)).toInt64)) :: Z)))) else townW K a T ++ (waysW K b len qu n ++ (textW K t cs ln ++ (mainW K a b t c g sn ++ svW K g Sv (oC K o of :: Z))))) := (if_pos hE0).symm
    rw [ew] at hP hD
    exact tx_iret hAe hP hD hS hx hb hr hk dL_append_19 ⟨Nat.le_of_ble_eq_true rfl, Nat.le_of_ble_eq_true rfl⟩ rfl (by rw [hE0])
  · intro hE1 ce q9 H locs hP hD hS hq9 hv9 hc9
    rcases (show apE ln x = 0 ∨ apE ln x = 1 ∨ apE ln x = 2 by unfold apE; (repeat' split) <;> simp) with h_0 | h_1 | h_2
    · exact absurd h_0 hE1
    · rw [h_1] at hc9
      refine vx_catch (name := "java/lang/IllegalArgumentException") (E := "java/lang/IllegalArgumentException") hown [] ⟨0, 9, 12, 29⟩ [⟨0, 9, 15, 15⟩] htab (fun _ h => nomatch h) (by decide) (by decide) LK29 (hXw.2.2.2.2.1.use rfl) hq9 hv9 hc9 ?_
      refine lv_astore_n (lv' := [(3, .ref q9), (0, .ref (c 0)), (1, .int x), (2, .ref o)]) hx hb dL_append_12 rfl hl (by decide) rfl (fun ls hl => ?_)
      refine lv_iconst (v := nI 1) hx hb dL_append_13 (by decide) ?_
      have ew : (townW K a T ++ (waysW K b len qu n ++ (textW K t cs ln ++ (mainW K a b t c g sn ++ svW K g Sv (oC K o of :: Z))))) = (if apE ln x = 0 then townW K a T ++ (waysW K b len qu n ++ (textW K t (va_up cs ln (tn x)) (ln + 1) ++ (mainW K a b t c g sn ++ svW K g Sv (oC K o (vp_updL of 0 ((nI (ln + 1)).toInt64)) :: Z)))) else townW K a T ++ (waysW K b len qu n ++ (textW K t cs ln ++ (mainW K a b t c g sn ++ svW K g Sv (oC K o of :: Z))))) := (if_neg hE1).symm
      rw [ew] at hP hD
      exact tx_iret hAe hP hD hS hx hb hr hk dL_append_14 ⟨Nat.le_of_ble_eq_true rfl, Nat.le_of_ble_eq_true rfl⟩ rfl (by rw [h_1])
    · rw [h_2] at hc9
      refine vx_catch (name := "java/lang/IllegalStateException") (E := "java/lang/IllegalStateException") hown [⟨0, 9, 12, 29⟩] ⟨0, 9, 15, 15⟩ [] htab (List.forall_mem_cons.mpr ⟨Or.inr ⟨by decide, "java/lang/IllegalArgumentException", LK29, hxn.2.2.2.2.2⟩, (fun _ h => nomatch h)⟩) (by decide) (by decide) LK15 (hXw.2.2.2.2.2.1.use rfl) hq9 hv9 hc9 ?_
      refine lv_astore_n (lv' := [(3, .ref q9), (0, .ref (c 0)), (1, .int x), (2, .ref o)]) hx hb dL_append_15 rfl hl (by decide) rfl (fun ls hl => ?_)
      refine lv_iconst (v := nI 2) hx hb dL_append_16 (by decide) ?_
      have ew : (townW K a T ++ (waysW K b len qu n ++ (textW K t cs ln ++ (mainW K a b t c g sn ++ svW K g Sv (oC K o of :: Z))))) = (if apE ln x = 0 then townW K a T ++ (waysW K b len qu n ++ (textW K t (va_up cs ln (tn x)) (ln + 1) ++ (mainW K a b t c g sn ++ svW K g Sv (oC K o (vp_updL of 0 ((nI (ln + 1)).toInt64)) :: Z)))) else townW K a T ++ (waysW K b len qu n ++ (textW K t cs ln ++ (mainW K a b t c g sn ++ svW K g Sv (oC K o of :: Z))))) := (if_neg hE1).symm
      rw [ew] at hP hD
      exact tx_iret hAe hP hD hS hx hb hr hk dL_append_17 ⟨Nat.le_of_ble_eq_true rfl, Nat.le_of_ble_eq_true rfl⟩ rfl (by rw [h_2])
set_option maxHeartbeats 4000000 in
set_option maxRecDepth 100000 in
theorem c_L_play (l : Launch) (D : va_G) (K : Nat → ClassId) (dp fs : Nat) (hst : l.stackTraces = false) (sz : Nat) (a b t c : Nat → Nat) (g : Nat → Nat → Nat) (T : TW) (len : Nat → Option Nat) (qu : Nat → Nat) (n : Nat) (cs : Nat → Nat) (ln sn : Nat) (Sv : Nat → TW) (hI : Inv T) (hsn : sn ≤ 6) (hCB : CB cs ln) (o : Nat) (of : Nat → Int64) (Z : va_W) : Lx dp fs l yL_play wsL_play ({ frames := 7, cells := 1, slots := 6, locals := 150 } : Room) D K (townW K a T ++ (waysW K b len qu n ++ (textW K t cs ln ++ (mainW K a b t c g sn ++ svW K g Sv (oC K o of :: Z))))) sz [.ref (c 0), .ref o] (if (if cmpS cs ln = true then 0 else 1) = 0 then townW K a ((plyS cs ln T).1) ++ (waysW K b len qu n ++ (textW K t cs 0 ++ (mainW K a b t c (svG g sn) (svN sn) ++ svW K (svG g sn) (svV Sv sn T) (oC K o (vp_updL of 0 ((nI (plyS cs ln T).2).toInt64)) :: Z)))) else townW K a T ++ (waysW K b len qu n ++ (textW K t cs ln ++ (mainW K a b t c g sn ++ svW K g Sv (oC K o of :: Z))))) (nI ((if cmpS cs ln = true then 0 else 1))) 1 6 := by
  refine lx_intro (cc := cL_play) (maxL := 3) (ret := (some .int)) (hh := [(0, 8, 11, 29)]) (by decide) rfl (Nat.le_of_ble_eq_true rfl) ?_
  intro pr en st md ar bl mt co A hx hb hml hr hts hown hk hsz hAe hP hE hD hS hA htab hXw hZ hxn ls hl
  have hown : st.vm.findClass RL = some md.cls := hown
  have hl : lv_has ls 3 [(0, .ref (c 0)), (1, .ref o)] := hl
  obtain ⟨H, hH⟩ : ∃ z, z = st.heap := ⟨_, rfl⟩
  obtain ⟨locs, hlo⟩ : ∃ z : List Loc, z = [] := ⟨_, rfl⟩
  have hP : va_P D vwCl (townW K a T ++ (waysW K b len qu n ++ (textW K t cs ln ++ (mainW K a b t c g sn ++ svW K g Sv (oC K o of :: Z))))) H := by rw [hH]; exact hP
  have hS : va_S A st.heap H locs := by rw [hH, hlo]; exact hS
  suffices go : W pr l en (headSpec wsL_play ({ frames := 7, cells := 1, slots := 6, locals := 150 } : Room)).room st md ar bl mt co H locs 0 0 (vx_MQ bl (txQ D (townW K a T ++ (waysW K b len qu n ++ (textW K t cs ln ++ (mainW K a b t c g sn ++ svW K g Sv (oC K o of :: Z))))) (if (if cmpS cs ln = true then 0 else 1) = 0 then townW K a ((plyS cs ln T).1) ++ (waysW K b len qu n ++ (textW K t cs 0 ++ (mainW K a b t c (svG g sn) (svN sn) ++ svW K (svG g sn) (svV Sv sn T) (oC K o (vp_updL of 0 ((nI (plyS cs ln T).2).toInt64)) :: Z)))) else townW K a T ++ (waysW K b len qu n ++ (textW K t cs ln ++ (mainW K a b t c g sn ++ svW K g Sv (oC K o of :: Z))))) sz (nI ((if cmpS cs ln = true then 0 else 1))) 0) (txX D (townW K a T ++ (waysW K b len qu n ++ (textW K t cs ln ++ (mainW K a b t c g sn ++ svW K g Sv (oC K o of :: Z))))) sz 0 xnA) ar st 1 6 A) (F0 md 0 ls []) by rw [hH, hlo] at go; exact go
  clear hH hlo
  have LK29 : (Cond.classLink RL 29 "java/lang/IllegalArgumentException").before ar st = true := hts _ (List.mem_of_getElem? (i := 1) rfl)
  refine lv_aload_n hx hb dL_play_0 rfl (lv_at hl 1 rfl) ?_
  refine lv_iconst (v := nI 0) hx hb dL_play_1 (by decide) ?_
  refine lv_aload_n hx hb dL_play_2 rfl (lv_at hl 0 rfl) ?_
  refine tx_V (rest := [.int (nI 0), .ref o]) (ci := 3) (q0 := 17) ⟨hx, hb, hml, hown, hts⟩ hP hE hA hD hS hXw hZ (c_X3_play l D K dp fs hst _ _ _ _ _ _ _ _ _ _ _ _ _ _ _ hI hsn hCB) (cwV 0 hts gL_play_X3_play rfl rfl rfl hd_X3_play ⟨Nat.le_of_ble_eq_true rfl, Nat.le_of_ble_eq_true rfl⟩) rfl rfl rfl rfl hl.1 rfl (Nat.le_of_ble_eq_true rfl) dL_play_3 ⟨Nat.le_of_ble_eq_true rfl, Nat.le_of_ble_eq_true rfl⟩ ?_ ?_
  · intro hE0 H locs hP hD hS
    have hP : va_P D vwCl (townW K a ((plyS cs ln T).1) ++ (waysW K b len qu n ++ (textW K t cs 0 ++ (mainW K a b t c (svG g sn) (svN sn) ++ svW K (svG g sn) (svV Sv sn T) (oC K o of :: Z))))) H := hP
    have hD : va_D A (townW K a ((plyS cs ln T).1) ++ (waysW K b len qu n ++ (textW K t cs 0 ++ (mainW K a b t c (svG g sn) (svN sn) ++ svW K (svG g sn) (svV Sv sn T) (oC K o of :: Z))))) := hD
    refine lv_i2l (v := (nI (plyS cs ln T).2).toInt64) hx hb dL_play_6 rfl ?_
    refine nv_last hx hb hE hP hD hS 91 rfl dL_play_7 (fun H locs hP hD hS => ?_)
    have hP : va_P D vwCl (townW K a ((plyS cs ln T).1) ++ (waysW K b len qu n ++ (textW K t cs 0 ++ (mainW K a b t c (svG g sn) (svN sn) ++ svW K (svG g sn) (svV Sv sn T) (oC K o (vp_updL of 0 ((nI (plyS cs ln T).2).toInt64)) :: Z))))) H := hP
    have hD : va_D A (townW K a ((plyS cs ln T).1) ++ (waysW K b len qu n ++ (textW K t cs 0 ++ (mainW K a b t c (svG g sn) (svN sn) ++ svW K (svG g sn) (svV Sv sn T) (oC K o (vp_updL of 0 ((nI (plyS cs ln T).2).toInt64)) :: Z))))) := hD
    refine lv_goto (tgt := 14) hx hb dL_play_8 (by decide) ?_
    refine lv_iconst (v := nI 0) hx hb dL_play_14 (by decide) ?_
    have ew : (townW K a ((plyS cs ln T).1) ++ (waysW K b len qu n ++ (textW K t cs 0 ++ (mainW K a b t c (svG g sn) (svN sn) ++ svW K (svG g sn) (svV Sv sn T) (oC K o (vp_updL of 0 ((nI (plyS cs ln T).2).toInt64)) :: Z))))) = (if (if cmpS cs ln = true then 0 else 1) = 0 then townW K a ((plyS cs ln T).1) ++ (waysW K b len qu n ++ (textW K t cs 0 ++ (mainW K a b t c (svG g sn) (svN sn) ++ svW K (svG g sn) (svV Sv sn T) (oC K o (vp_updL of 0 ((nI (plyS cs ln T).2).toInt64)) :: Z)))) else townW K a T ++ (waysW K b len qu n ++ (textW K t cs ln ++ (mainW K a b t c g sn ++ svW K g Sv (oC K o of :: Z))))) := (if_pos hE0).symm
    rw [ew] at hP hD
    exact tx_iret hAe hP hD hS hx hb hr hk dL_play_15 ⟨Nat.le_of_ble_eq_true rfl, Nat.le_of_ble_eq_true rfl⟩ rfl (by rw [hE0])
  · intro hE1 ce q9 H locs hP hD hS hq9 hv9 hc9
    rcases (show (if cmpS cs ln = true then 0 else 1) = 0 ∨ (if cmpS cs ln = true then 0 else 1) = 1 by (repeat' split) <;> simp) with h_0 | h_1
    · exact absurd h_0 hE1
    · rw [h_1] at hc9
      refine vx_catch (name := "java/lang/IllegalArgumentException") (E := "java/lang/IllegalArgumentException") hown [] ⟨0, 8, 11, 29⟩ [] htab (fun _ h => nomatch h) (by decide) (by decide) LK29 (hXw.2.2.2.2.1.use rfl) hq9 hv9 hc9 ?_
      refine lv_astore_n (lv' := [(2, .ref q9), (0, .ref (c 0)), (1, .ref o)]) hx hb dL_play_11 rfl hl (by decide) rfl (fun ls hl => ?_)
      refine lv_iconst (v := nI 1) hx hb dL_play_12 (by decide) ?_
      have ew : (townW K a T ++ (waysW K b len qu n ++ (textW K t cs ln ++ (mainW K a b t c g sn ++ svW K g Sv (oC K o of :: Z))))) = (if (if cmpS cs ln = true then 0 else 1) = 0 then townW K a ((plyS cs ln T).1) ++ (waysW K b len qu n ++ (textW K t cs 0 ++ (mainW K a b t c (svG g sn) (svN sn) ++ svW K (svG g sn) (svV Sv sn T) (oC K o (vp_updL of 0 ((nI (plyS cs ln T).2).toInt64)) :: Z)))) else townW K a T ++ (waysW K b len qu n ++ (textW K t cs ln ++ (mainW K a b t c g sn ++ svW K g Sv (oC K o of :: Z))))) := (if_neg hE1).symm
      rw [ew] at hP hD
      exact tx_iret hAe hP hD hS hx hb hr hk dL_play_13 ⟨Nat.le_of_ble_eq_true rfl, Nat.le_of_ble_eq_true rfl⟩ rfl (by rw [h_1])
set_option maxHeartbeats 4000000 in
set_option maxRecDepth 100000 in
theorem c_L_undo (l : Launch) (D : va_G) (K : Nat → ClassId) (dp fs : Nat) (hst : l.stackTraces = false) (sz : Nat) (a b t c : Nat → Nat) (g : Nat → Nat → Nat) (T : TW) (len : Nat → Option Nat) (qu : Nat → Nat) (n : Nat) (cs : Nat → Nat) (ln sn : Nat) (Sv : Nat → TW) (hsn : sn ≤ 6) (o : Nat) (of : Nat → Int64) (Z : va_W) : Lx dp fs l yL_undo wsL_undo ({ frames := 7, cells := 1, slots := 6, locals := 103 } : Room) D K (townW K a T ++ (waysW K b len qu n ++ (textW K t cs ln ++ (mainW K a b t c g sn ++ svW K g Sv (oC K o of :: Z))))) sz [.ref (c 0), .ref o] (if (if sn = 0 then 1 else 0) = 0 then townW K a (Sv (sn - 1)) ++ (waysW K b len qu n ++ (textW K t cs ln ++ (mainW K a b t c g (sn - 1) ++ svW K g Sv (oC K o (vp_updL of 0 ((nI (sn - 1)).toInt64)) :: Z)))) else townW K a T ++ (waysW K b len qu n ++ (textW K t cs ln ++ (mainW K a b t c g sn ++ svW K g Sv (oC K o of :: Z))))) (nI ((if sn = 0 then 1 else 0))) 1 6 := by
  refine lx_intro (cc := cL_undo) (maxL := 3) (ret := (some .int)) (hh := [(0, 8, 11, 15)]) (by decide) rfl (Nat.le_of_ble_eq_true rfl) ?_
  intro pr en st md ar bl mt co A hx hb hml hr hts hown hk hsz hAe hP hE hD hS hA htab hXw hZ hxn ls hl
  have hown : st.vm.findClass RL = some md.cls := hown
  have hl : lv_has ls 3 [(0, .ref (c 0)), (1, .ref o)] := hl
  obtain ⟨H, hH⟩ : ∃ z, z = st.heap := ⟨_, rfl⟩
  obtain ⟨locs, hlo⟩ : ∃ z : List Loc, z = [] := ⟨_, rfl⟩
  have hP : va_P D vwCl (townW K a T ++ (waysW K b len qu n ++ (textW K t cs ln ++ (mainW K a b t c g sn ++ svW K g Sv (oC K o of :: Z))))) H := by rw [hH]; exact hP
  have hS : va_S A st.heap H locs := by rw [hH, hlo]; exact hS
  suffices go : W pr l en (headSpec wsL_undo ({ frames := 7, cells := 1, slots := 6, locals := 103 } : Room)).room st md ar bl mt co H locs 0 0 (vx_MQ bl (txQ D (townW K a T ++ (waysW K b len qu n ++ (textW K t cs ln ++ (mainW K a b t c g sn ++ svW K g Sv (oC K o of :: Z))))) (if (if sn = 0 then 1 else 0) = 0 then townW K a (Sv (sn - 1)) ++ (waysW K b len qu n ++ (textW K t cs ln ++ (mainW K a b t c g (sn - 1) ++ svW K g Sv (oC K o (vp_updL of 0 ((nI (sn - 1)).toInt64)) :: Z)))) else townW K a T ++ (waysW K b len qu n ++ (textW K t cs ln ++ (mainW K a b t c g sn ++ svW K g Sv (oC K o of :: Z))))) sz (nI ((if sn = 0 then 1 else 0))) 0) (txX D (townW K a T ++ (waysW K b len qu n ++ (textW K t cs ln ++ (mainW K a b t c g sn ++ svW K g Sv (oC K o of :: Z))))) sz 0 xnA) ar st 1 6 A) (F0 md 0 ls []) by rw [hH, hlo] at go; exact go
  clear hH hlo
  have LK15 : (Cond.classLink RL 15 "java/lang/IllegalStateException").before ar st = true := hts _ (List.mem_of_getElem? (i := 1) rfl)
  refine lv_aload_n hx hb dL_undo_0 rfl (lv_at hl 1 rfl) ?_
  refine lv_iconst (v := nI 0) hx hb dL_undo_1 (by decide) ?_
  refine lv_aload_n hx hb dL_undo_2 rfl (lv_at hl 0 rfl) ?_
  refine tx_V (rest := [.int (nI 0), .ref o]) (ci := 3) (q0 := 17) ⟨hx, hb, hml, hown, hts⟩ hP hE hA hD hS hXw hZ (c_X3_undo l D K dp fs hst _ _ _ _ _ _ _ _ _ _ _ _ _ _ _ hsn) (cwV 0 hts gL_undo_X3_undo rfl rfl rfl hd_X3_undo ⟨Nat.le_of_ble_eq_true rfl, Nat.le_of_ble_eq_true rfl⟩) rfl rfl rfl rfl hl.1 rfl (Nat.le_of_ble_eq_true rfl) dL_undo_3 ⟨Nat.le_of_ble_eq_true rfl, Nat.le_of_ble_eq_true rfl⟩ ?_ ?_
  · intro hE0 H locs hP hD hS
    have hP : va_P D vwCl (townW K a (Sv (sn - 1)) ++ (waysW K b len qu n ++ (textW K t cs ln ++ (mainW K a b t c g (sn - 1) ++ svW K g Sv (oC K o of :: Z))))) H := hP
    have hD : va_D A (townW K a (Sv (sn - 1)) ++ (waysW K b len qu n ++ (textW K t cs ln ++ (mainW K a b t c g (sn - 1) ++ svW K g Sv (oC K o of :: Z))))) := hD
    refine lv_i2l (v := (nI (sn - 1)).toInt64) hx hb dL_undo_6 rfl ?_
    refine nv_last hx hb hE hP hD hS 91 rfl dL_undo_7 (fun H locs hP hD hS => ?_)
    have hP : va_P D vwCl (townW K a (Sv (sn - 1)) ++ (waysW K b len qu n ++ (textW K t cs ln ++ (mainW K a b t c g (sn - 1) ++ svW K g Sv (oC K o (vp_updL of 0 ((nI (sn - 1)).toInt64)) :: Z))))) H := hP
    have hD : va_D A (townW K a (Sv (sn - 1)) ++ (waysW K b len qu n ++ (textW K t cs ln ++ (mainW K a b t c g (sn - 1) ++ svW K g Sv (oC K o (vp_updL of 0 ((nI (sn - 1)).toInt64)) :: Z))))) := hD
    refine lv_goto (tgt := 14) hx hb dL_undo_8 (by decide) ?_
    refine lv_iconst (v := nI 0) hx hb dL_undo_14 (by decide) ?_
    have ew : (townW K a (Sv (sn - 1)) ++ (waysW K b len qu n ++ (textW K t cs ln ++ (mainW K a b t c g (sn - 1) ++ svW K g Sv (oC K o (vp_updL of 0 ((nI (sn - 1)).toInt64)) :: Z))))) = (if (if sn = 0 then 1 else 0) = 0 then townW K a (Sv (sn - 1)) ++ (waysW K b len qu n ++ (textW K t cs ln ++ (mainW K a b t c g (sn - 1) ++ svW K g Sv (oC K o (vp_updL of 0 ((nI (sn - 1)).toInt64)) :: Z)))) else townW K a T ++ (waysW K b len qu n ++ (textW K t cs ln ++ (mainW K a b t c g sn ++ svW K g Sv (oC K o of :: Z))))) := (if_pos hE0).symm
    rw [ew] at hP hD
    exact tx_iret hAe hP hD hS hx hb hr hk dL_undo_15 ⟨Nat.le_of_ble_eq_true rfl, Nat.le_of_ble_eq_true rfl⟩ rfl (by rw [hE0])
  · intro hE1 ce q9 H locs hP hD hS hq9 hv9 hc9
    rcases (show (if sn = 0 then 1 else 0) = 0 ∨ (if sn = 0 then 1 else 0) = 1 by (repeat' split) <;> simp) with h_0 | h_1
    · exact absurd h_0 hE1
    · rw [h_1] at hc9
      refine vx_catch (name := "java/lang/IllegalStateException") (E := "java/lang/IllegalStateException") hown [] ⟨0, 8, 11, 15⟩ [] htab (fun _ h => nomatch h) (by decide) (by decide) LK15 (hXw.2.2.2.2.2.1.use rfl) hq9 hv9 hc9 ?_
      refine lv_astore_n (lv' := [(2, .ref q9), (0, .ref (c 0)), (1, .ref o)]) hx hb dL_undo_11 rfl hl (by decide) rfl (fun ls hl => ?_)
      refine lv_iconst (v := nI 1) hx hb dL_undo_12 (by decide) ?_
      have ew : (townW K a T ++ (waysW K b len qu n ++ (textW K t cs ln ++ (mainW K a b t c g sn ++ svW K g Sv (oC K o of :: Z))))) = (if (if sn = 0 then 1 else 0) = 0 then townW K a (Sv (sn - 1)) ++ (waysW K b len qu n ++ (textW K t cs ln ++ (mainW K a b t c g (sn - 1) ++ svW K g Sv (oC K o (vp_updL of 0 ((nI (sn - 1)).toInt64)) :: Z)))) else townW K a T ++ (waysW K b len qu n ++ (textW K t cs ln ++ (mainW K a b t c g sn ++ svW K g Sv (oC K o of :: Z))))) := (if_neg hE1).symm
      rw [ew] at hP hD
      exact tx_iret hAe hP hD hS hx hb hr hk dL_undo_13 ⟨Nat.le_of_ble_eq_true rfl, Nat.le_of_ble_eq_true rfl⟩ rfl (by rw [h_1])
set_option maxHeartbeats 4000000 in
set_option maxRecDepth 100000 in
theorem c_L_square (l : Launch) (D : va_G) (K : Nat → ClassId) (dp fs : Nat) (hst : l.stackTraces = false) (sz : Nat) (a b t c : Nat → Nat) (g : Nat → Nat → Nat) (T : TW) (len : Nat → Option Nat) (qu : Nat → Nat) (n : Nat) (cs : Nat → Nat) (ln sn : Nat) (Sv : Nat → TW) (x w9 : Int32) (hI : Inv T) (o : Nat) (of : Nat → Int64) (Z : va_W) : Lx dp fs l yL_square wsL_square ({ frames := 7, cells := 1, slots := 6, locals := 104 } : Room) D K (townW K a T ++ (waysW K b len qu n ++ (textW K t cs ln ++ (mainW K a b t c g sn ++ svW K g Sv (oC K o of :: Z))))) sz [.ref (c 0), .int x, .int w9, .ref o] (if q2 0 79 0 3 x w9 = 0 then townW K a T ++ (waysW K b len qu n ++ (textW K t cs ln ++ (mainW K a b t c g sn ++ svW K g Sv (oC K o (vp_updL of 0 ((psT T (tn x) (tn w9)).toInt64)) :: Z)))) else townW K a T ++ (waysW K b len qu n ++ (textW K t cs ln ++ (mainW K a b t c g sn ++ svW K g Sv (oC K o of :: Z))))) (nI (q2 0 79 0 3 x w9)) 1 6 := by
  refine lx_intro (cc := cL_square) (maxL := 5) (ret := (some .int)) (hh := [(0, 10, 13, 13), (0, 10, 17, 29)]) (by decide) rfl (Nat.le_of_ble_eq_true rfl) ?_
  intro pr en st md ar bl mt co A hx hb hml hr hts hown hk hsz hAe hP hE hD hS hA htab hXw hZ hxn ls hl
  have hown : st.vm.findClass RL = some md.cls := hown
  have hl : lv_has ls 5 [(0, .ref (c 0)), (1, .int x), (2, .int w9), (3, .ref o)] := hl
  obtain ⟨H, hH⟩ : ∃ z, z = st.heap := ⟨_, rfl⟩
  obtain ⟨locs, hlo⟩ : ∃ z : List Loc, z = [] := ⟨_, rfl⟩
  have hP : va_P D vwCl (townW K a T ++ (waysW K b len qu n ++ (textW K t cs ln ++ (mainW K a b t c g sn ++ svW K g Sv (oC K o of :: Z))))) H := by rw [hH]; exact hP
  have hS : va_S A st.heap H locs := by rw [hH, hlo]; exact hS
  suffices go : W pr l en (headSpec wsL_square ({ frames := 7, cells := 1, slots := 6, locals := 104 } : Room)).room st md ar bl mt co H locs 0 0 (vx_MQ bl (txQ D (townW K a T ++ (waysW K b len qu n ++ (textW K t cs ln ++ (mainW K a b t c g sn ++ svW K g Sv (oC K o of :: Z))))) (if q2 0 79 0 3 x w9 = 0 then townW K a T ++ (waysW K b len qu n ++ (textW K t cs ln ++ (mainW K a b t c g sn ++ svW K g Sv (oC K o (vp_updL of 0 ((psT T (tn x) (tn w9)).toInt64)) :: Z)))) else townW K a T ++ (waysW K b len qu n ++ (textW K t cs ln ++ (mainW K a b t c g sn ++ svW K g Sv (oC K o of :: Z))))) sz (nI (q2 0 79 0 3 x w9)) 0) (txX D (townW K a T ++ (waysW K b len qu n ++ (textW K t cs ln ++ (mainW K a b t c g sn ++ svW K g Sv (oC K o of :: Z))))) sz 0 xnA) ar st 1 6 A) (F0 md 0 ls []) by rw [hH, hlo] at go; exact go
  clear hH hlo
  have LK13 : (Cond.classLink RL 13 "java/lang/IndexOutOfBoundsException").before ar st = true := hts _ (List.mem_of_getElem? (i := 1) rfl)
  have LK29 : (Cond.classLink RL 29 "java/lang/IllegalArgumentException").before ar st = true := hts _ (List.mem_of_getElem? (i := 2) rfl)
  refine lv_aload_n hx hb dL_square_0 rfl (lv_at hl 3 rfl) ?_
  refine lv_iconst (v := nI 0) hx hb dL_square_1 (by decide) ?_
  refine lv_aload_n hx hb dL_square_2 rfl (lv_at hl 0 rfl) ?_
  refine lv_iload_n hx hb dL_square_3 rfl (lv_at hl 1 rfl) ?_
  refine lv_iload_n hx hb dL_square_4 rfl (lv_at hl 2 rfl) ?_
  refine tx_V (rest := [.int (nI 0), .ref o]) (ci := 3) (q0 := 17) ⟨hx, hb, hml, hown, hts⟩ hP hE hA hD hS hXw hZ (c_X3_square l D K dp fs hst _ _ _ _ _ _ _ _ _ _ _ _ _ _ _ x w9 hI) (cwV 2 hts gL_square_X3_square rfl rfl rfl hd_X3_square ⟨Nat.le_of_ble_eq_true rfl, Nat.le_of_ble_eq_true rfl⟩) rfl rfl rfl rfl hl.1 rfl (Nat.le_of_ble_eq_true rfl) dL_square_5 ⟨Nat.le_of_ble_eq_true rfl, Nat.le_of_ble_eq_true rfl⟩ ?_ ?_
  · intro hE0 H locs hP hD hS
    have hP : va_P D vwCl (townW K a T ++ (waysW K b len qu n ++ (textW K t cs ln ++ (mainW K a b t c g sn ++ svW K g Sv (oC K o of :: Z))))) H := hP
    have hD : va_D A (townW K a T ++ (waysW K b len qu n ++ (textW K t cs ln ++ (mainW K a b t c g sn ++ svW K g Sv (oC K o of :: Z))))) := hD
    refine lv_i2l (v := (psT T (tn x) (tn w9)).toInt64) hx hb dL_square_8 rfl ?_
    refine nv_last hx hb hE hP hD hS 91 rfl dL_square_9 (fun H locs hP hD hS => ?_)
    have hP : va_P D vwCl (townW K a T ++ (waysW K b len qu n ++ (textW K t cs ln ++ (mainW K a b t c g sn ++ svW K g Sv (oC K o (vp_updL of 0 ((psT T (tn x) (tn w9)).toInt64)) :: Z))))) H := hP
    have hD : va_D A (townW K a T ++ (waysW K b len qu n ++ (textW K t cs ln ++ (mainW K a b t c g sn ++ svW K g Sv (oC K o (vp_updL of 0 ((psT T (tn x) (tn w9)).toInt64)) :: Z))))) := hD
    refine lv_goto (tgt := 21) hx hb dL_square_10 (by decide) ?_
    refine lv_iconst (v := nI 0) hx hb dL_square_21 (by decide) ?_
    have ew : (townW K a T ++ (waysW K b len qu n ++ (textW K t cs ln ++ (mainW K a b t c g sn ++ svW K g Sv (oC K o (vp_updL of 0 ((psT T (tn x) (tn w9)).toInt64)) :: Z))))) = (if q2 0 79 0 3 x w9 = 0 then townW K a T ++ (waysW K b len qu n ++ (textW K t cs ln ++ (mainW K a b t c g sn ++ svW K g Sv (oC K o (vp_updL of 0 ((psT T (tn x) (tn w9)).toInt64)) :: Z)))) else townW K a T ++ (waysW K b len qu n ++ (textW K t cs ln ++ (mainW K a b t c g sn ++ svW K g Sv (oC K o of :: Z))))) := (if_pos hE0).symm
    rw [ew] at hP hD
    exact tx_iret hAe hP hD hS hx hb hr hk dL_square_22 ⟨Nat.le_of_ble_eq_true rfl, Nat.le_of_ble_eq_true rfl⟩ rfl (by rw [hE0])
  · intro hE1 ce q9 H locs hP hD hS hq9 hv9 hc9
    rcases (show q2 0 79 0 3 x w9 = 0 ∨ q2 0 79 0 3 x w9 = 1 ∨ q2 0 79 0 3 x w9 = 2 by unfold q2; (repeat' split) <;> simp) with h_0 | h_1 | h_2
    · exact absurd h_0 hE1
    · rw [h_1] at hc9
      refine vx_catch (name := "java/lang/IndexOutOfBoundsException") (E := "java/lang/IndexOutOfBoundsException") hown [] ⟨0, 10, 13, 13⟩ [⟨0, 10, 17, 29⟩] htab (fun _ h => nomatch h) (by decide) (by decide) LK13 (hXw.2.2.2.1.use rfl) hq9 hv9 hc9 ?_
      refine lv_astore (lv' := [(4, .ref q9), (0, .ref (c 0)), (1, .int x), (2, .int w9), (3, .ref o)]) hx hb dL_square_13 hl (by decide) rfl (fun ls hl => ?_)
      refine lv_iconst (v := nI 1) hx hb dL_square_15 (by decide) ?_
      have ew : (townW K a T ++ (waysW K b len qu n ++ (textW K t cs ln ++ (mainW K a b t c g sn ++ svW K g Sv (oC K o of :: Z))))) = (if q2 0 79 0 3 x w9 = 0 then townW K a T ++ (waysW K b len qu n ++ (textW K t cs ln ++ (mainW K a b t c g sn ++ svW K g Sv (oC K o (vp_updL of 0 ((psT T (tn x) (tn w9)).toInt64)) :: Z)))) else townW K a T ++ (waysW K b len qu n ++ (textW K t cs ln ++ (mainW K a b t c g sn ++ svW K g Sv (oC K o of :: Z))))) := (if_neg hE1).symm
      rw [ew] at hP hD
      exact tx_iret hAe hP hD hS hx hb hr hk dL_square_16 ⟨Nat.le_of_ble_eq_true rfl, Nat.le_of_ble_eq_true rfl⟩ rfl (by rw [h_1])
    · rw [h_2] at hc9
      refine vx_catch (name := "java/lang/IllegalArgumentException") (E := "java/lang/IllegalArgumentException") hown [⟨0, 10, 13, 13⟩] ⟨0, 10, 17, 29⟩ [] htab (List.forall_mem_cons.mpr ⟨Or.inr ⟨by decide, "java/lang/IndexOutOfBoundsException", LK13, hxn.2.2.1⟩, (fun _ h => nomatch h)⟩) (by decide) (by decide) LK29 (hXw.2.2.2.2.1.use rfl) hq9 hv9 hc9 ?_
      refine lv_astore (lv' := [(4, .ref q9), (0, .ref (c 0)), (1, .int x), (2, .int w9), (3, .ref o)]) hx hb dL_square_17 hl (by decide) rfl (fun ls hl => ?_)
      refine lv_iconst (v := nI 2) hx hb dL_square_19 (by decide) ?_
      have ew : (townW K a T ++ (waysW K b len qu n ++ (textW K t cs ln ++ (mainW K a b t c g sn ++ svW K g Sv (oC K o of :: Z))))) = (if q2 0 79 0 3 x w9 = 0 then townW K a T ++ (waysW K b len qu n ++ (textW K t cs ln ++ (mainW K a b t c g sn ++ svW K g Sv (oC K o (vp_updL of 0 ((psT T (tn x) (tn w9)).toInt64)) :: Z)))) else townW K a T ++ (waysW K b len qu n ++ (textW K t cs ln ++ (mainW K a b t c g sn ++ svW K g Sv (oC K o of :: Z))))) := (if_neg hE1).symm
      rw [ew] at hP hD
      exact tx_iret hAe hP hD hS hx hb hr hk dL_square_20 ⟨Nat.le_of_ble_eq_true rfl, Nat.le_of_ble_eq_true rfl⟩ rfl (by rw [h_2])
set_option maxHeartbeats 4000000 in
set_option maxRecDepth 100000 in
theorem c_L_stopOf (l : Launch) (D : va_G) (K : Nat → ClassId) (dp fs : Nat) (hst : l.stackTraces = false) (sz : Nat) (a b t c : Nat → Nat) (g : Nat → Nat → Nat) (T : TW) (len : Nat → Option Nat) (qu : Nat → Nat) (n : Nat) (cs : Nat → Nat) (ln sn : Nat) (Sv : Nat → TW) (x w9 : Int32) (hI : Inv T) (o : Nat) (of : Nat → Int64) (Z : va_W) : Lx dp fs l yL_stopOf wsL_stopOf ({ frames := 7, cells := 1, slots := 6, locals := 120 } : Room) D K (townW K a T ++ (waysW K b len qu n ++ (textW K t cs ln ++ (mainW K a b t c g sn ++ svW K g Sv (oC K o of :: Z))))) sz [.ref (c 0), .int x, .int w9, .ref o] (if q2 0 11 0 2 x w9 = 0 then townW K a T ++ (waysW K b len qu n ++ (textW K t cs ln ++ (mainW K a b t c g sn ++ svW K g Sv (oC K o (vp_updL of 0 ((ptT T (tn x) (tn w9)).toInt64)) :: Z)))) else townW K a T ++ (waysW K b len qu n ++ (textW K t cs ln ++ (mainW K a b t c g sn ++ svW K g Sv (oC K o of :: Z))))) (nI (q2 0 11 0 2 x w9)) 1 6 := by
  refine lx_intro (cc := cL_stopOf) (maxL := 5) (ret := (some .int)) (hh := [(0, 10, 13, 13), (0, 10, 17, 29)]) (by decide) rfl (Nat.le_of_ble_eq_true rfl) ?_
  intro pr en st md ar bl mt co A hx hb hml hr hts hown hk hsz hAe hP hE hD hS hA htab hXw hZ hxn ls hl
  have hown : st.vm.findClass RL = some md.cls := hown
  have hl : lv_has ls 5 [(0, .ref (c 0)), (1, .int x), (2, .int w9), (3, .ref o)] := hl
  obtain ⟨H, hH⟩ : ∃ z, z = st.heap := ⟨_, rfl⟩
  obtain ⟨locs, hlo⟩ : ∃ z : List Loc, z = [] := ⟨_, rfl⟩
  have hP : va_P D vwCl (townW K a T ++ (waysW K b len qu n ++ (textW K t cs ln ++ (mainW K a b t c g sn ++ svW K g Sv (oC K o of :: Z))))) H := by rw [hH]; exact hP
  have hS : va_S A st.heap H locs := by rw [hH, hlo]; exact hS
  suffices go : W pr l en (headSpec wsL_stopOf ({ frames := 7, cells := 1, slots := 6, locals := 120 } : Room)).room st md ar bl mt co H locs 0 0 (vx_MQ bl (txQ D (townW K a T ++ (waysW K b len qu n ++ (textW K t cs ln ++ (mainW K a b t c g sn ++ svW K g Sv (oC K o of :: Z))))) (if q2 0 11 0 2 x w9 = 0 then townW K a T ++ (waysW K b len qu n ++ (textW K t cs ln ++ (mainW K a b t c g sn ++ svW K g Sv (oC K o (vp_updL of 0 ((ptT T (tn x) (tn w9)).toInt64)) :: Z)))) else townW K a T ++ (waysW K b len qu n ++ (textW K t cs ln ++ (mainW K a b t c g sn ++ svW K g Sv (oC K o of :: Z))))) sz (nI (q2 0 11 0 2 x w9)) 0) (txX D (townW K a T ++ (waysW K b len qu n ++ (textW K t cs ln ++ (mainW K a b t c g sn ++ svW K g Sv (oC K o of :: Z))))) sz 0 xnA) ar st 1 6 A) (F0 md 0 ls []) by rw [hH, hlo] at go; exact go
  clear hH hlo
  have LK13 : (Cond.classLink RL 13 "java/lang/IndexOutOfBoundsException").before ar st = true := hts _ (List.mem_of_getElem? (i := 1) rfl)
  have LK29 : (Cond.classLink RL 29 "java/lang/IllegalArgumentException").before ar st = true := hts _ (List.mem_of_getElem? (i := 2) rfl)
  refine lv_aload_n hx hb dL_stopOf_0 rfl (lv_at hl 3 rfl) ?_
  refine lv_iconst (v := nI 0) hx hb dL_stopOf_1 (by decide) ?_
  refine lv_aload_n hx hb dL_stopOf_2 rfl (lv_at hl 0 rfl) ?_
  refine lv_iload_n hx hb dL_stopOf_3 rfl (lv_at hl 1 rfl) ?_
  refine lv_iload_n hx hb dL_stopOf_4 rfl (lv_at hl 2 rfl) ?_
  refine tx_V (rest := [.int (nI 0), .ref o]) (ci := 3) (q0 := 17) ⟨hx, hb, hml, hown, hts⟩ hP hE hA hD hS hXw hZ (c_X3_stopOf l D K dp fs hst _ _ _ _ _ _ _ _ _ _ _ _ _ _ _ x w9 hI) (cwV 2 hts gL_stopOf_X3_stopOf rfl rfl rfl hd_X3_stopOf ⟨Nat.le_of_ble_eq_true rfl, Nat.le_of_ble_eq_true rfl⟩) rfl rfl rfl rfl hl.1 rfl (Nat.le_of_ble_eq_true rfl) dL_stopOf_5 ⟨Nat.le_of_ble_eq_true rfl, Nat.le_of_ble_eq_true rfl⟩ ?_ ?_
  · intro hE0 H locs hP hD hS
    have hP : va_P D vwCl (townW K a T ++ (waysW K b len qu n ++ (textW K t cs ln ++ (mainW K a b t c g sn ++ svW K g Sv (oC K o of :: Z))))) H := hP
    have hD : va_D A (townW K a T ++ (waysW K b len qu n ++ (textW K t cs ln ++ (mainW K a b t c g sn ++ svW K g Sv (oC K o of :: Z))))) := hD
    refine lv_i2l (v := (ptT T (tn x) (tn w9)).toInt64) hx hb dL_stopOf_8 rfl ?_
    refine nv_last hx hb hE hP hD hS 91 rfl dL_stopOf_9 (fun H locs hP hD hS => ?_)
    have hP : va_P D vwCl (townW K a T ++ (waysW K b len qu n ++ (textW K t cs ln ++ (mainW K a b t c g sn ++ svW K g Sv (oC K o (vp_updL of 0 ((ptT T (tn x) (tn w9)).toInt64)) :: Z))))) H := hP
    have hD : va_D A (townW K a T ++ (waysW K b len qu n ++ (textW K t cs ln ++ (mainW K a b t c g sn ++ svW K g Sv (oC K o (vp_updL of 0 ((ptT T (tn x) (tn w9)).toInt64)) :: Z))))) := hD
    refine lv_goto (tgt := 21) hx hb dL_stopOf_10 (by decide) ?_
    refine lv_iconst (v := nI 0) hx hb dL_stopOf_21 (by decide) ?_
    have ew : (townW K a T ++ (waysW K b len qu n ++ (textW K t cs ln ++ (mainW K a b t c g sn ++ svW K g Sv (oC K o (vp_updL of 0 ((ptT T (tn x) (tn w9)).toInt64)) :: Z))))) = (if q2 0 11 0 2 x w9 = 0 then townW K a T ++ (waysW K b len qu n ++ (textW K t cs ln ++ (mainW K a b t c g sn ++ svW K g Sv (oC K o (vp_updL of 0 ((ptT T (tn x) (tn w9)).toInt64)) :: Z)))) else townW K a T ++ (waysW K b len qu n ++ (textW K t cs ln ++ (mainW K a b t c g sn ++ svW K g Sv (oC K o of :: Z))))) := (if_pos hE0).symm
    rw [ew] at hP hD
    exact tx_iret hAe hP hD hS hx hb hr hk dL_stopOf_22 ⟨Nat.le_of_ble_eq_true rfl, Nat.le_of_ble_eq_true rfl⟩ rfl (by rw [hE0])
  · intro hE1 ce q9 H locs hP hD hS hq9 hv9 hc9
    rcases (show q2 0 11 0 2 x w9 = 0 ∨ q2 0 11 0 2 x w9 = 1 ∨ q2 0 11 0 2 x w9 = 2 by unfold q2; (repeat' split) <;> simp) with h_0 | h_1 | h_2
    · exact absurd h_0 hE1
    · rw [h_1] at hc9
      refine vx_catch (name := "java/lang/IndexOutOfBoundsException") (E := "java/lang/IndexOutOfBoundsException") hown [] ⟨0, 10, 13, 13⟩ [⟨0, 10, 17, 29⟩] htab (fun _ h => nomatch h) (by decide) (by decide) LK13 (hXw.2.2.2.1.use rfl) hq9 hv9 hc9 ?_
      refine lv_astore (lv' := [(4, .ref q9), (0, .ref (c 0)), (1, .int x), (2, .int w9), (3, .ref o)]) hx hb dL_stopOf_13 hl (by decide) rfl (fun ls hl => ?_)
      refine lv_iconst (v := nI 1) hx hb dL_stopOf_15 (by decide) ?_
      have ew : (townW K a T ++ (waysW K b len qu n ++ (textW K t cs ln ++ (mainW K a b t c g sn ++ svW K g Sv (oC K o of :: Z))))) = (if q2 0 11 0 2 x w9 = 0 then townW K a T ++ (waysW K b len qu n ++ (textW K t cs ln ++ (mainW K a b t c g sn ++ svW K g Sv (oC K o (vp_updL of 0 ((ptT T (tn x) (tn w9)).toInt64)) :: Z)))) else townW K a T ++ (waysW K b len qu n ++ (textW K t cs ln ++ (mainW K a b t c g sn ++ svW K g Sv (oC K o of :: Z))))) := (if_neg hE1).symm
      rw [ew] at hP hD
      exact tx_iret hAe hP hD hS hx hb hr hk dL_stopOf_16 ⟨Nat.le_of_ble_eq_true rfl, Nat.le_of_ble_eq_true rfl⟩ rfl (by rw [h_1])
    · rw [h_2] at hc9
      refine vx_catch (name := "java/lang/IllegalArgumentException") (E := "java/lang/IllegalArgumentException") hown [⟨0, 10, 13, 13⟩] ⟨0, 10, 17, 29⟩ [] htab (List.forall_mem_cons.mpr ⟨Or.inr ⟨by decide, "java/lang/IndexOutOfBoundsException", LK13, hxn.2.2.1⟩, (fun _ h => nomatch h)⟩) (by decide) (by decide) LK29 (hXw.2.2.2.2.1.use rfl) hq9 hv9 hc9 ?_
      refine lv_astore (lv' := [(4, .ref q9), (0, .ref (c 0)), (1, .int x), (2, .int w9), (3, .ref o)]) hx hb dL_stopOf_17 hl (by decide) rfl (fun ls hl => ?_)
      refine lv_iconst (v := nI 2) hx hb dL_stopOf_19 (by decide) ?_
      have ew : (townW K a T ++ (waysW K b len qu n ++ (textW K t cs ln ++ (mainW K a b t c g sn ++ svW K g Sv (oC K o of :: Z))))) = (if q2 0 11 0 2 x w9 = 0 then townW K a T ++ (waysW K b len qu n ++ (textW K t cs ln ++ (mainW K a b t c g sn ++ svW K g Sv (oC K o (vp_updL of 0 ((ptT T (tn x) (tn w9)).toInt64)) :: Z)))) else townW K a T ++ (waysW K b len qu n ++ (textW K t cs ln ++ (mainW K a b t c g sn ++ svW K g Sv (oC K o of :: Z))))) := (if_neg hE1).symm
      rw [ew] at hP hD
      exact tx_iret hAe hP hD hS hx hb hr hk dL_stopOf_20 ⟨Nat.le_of_ble_eq_true rfl, Nat.le_of_ble_eq_true rfl⟩ rfl (by rw [h_2])
set_option maxHeartbeats 4000000 in
set_option maxRecDepth 100000 in
theorem c_L_player (l : Launch) (D : va_G) (K : Nat → ClassId) (dp fs : Nat) (hst : l.stackTraces = false) (sz : Nat) (a b t c : Nat → Nat) (g : Nat → Nat → Nat) (T : TW) (len : Nat → Option Nat) (qu : Nat → Nat) (n : Nat) (cs : Nat → Nat) (ln sn : Nat) (Sv : Nat → TW) (x w9 : Int32) (hI : Inv T) (o : Nat) (of : Nat → Int64) (Z : va_W) : Lx dp fs l yL_player wsL_player ({ frames := 7, cells := 1, slots := 6, locals := 143 } : Room) D K (townW K a T ++ (waysW K b len qu n ++ (textW K t cs ln ++ (mainW K a b t c g sn ++ svW K g Sv (oC K o of :: Z))))) sz [.ref (c 0), .int x, .int w9, .ref o] (if q2 0 3 0 9 x w9 = 0 then townW K a T ++ (waysW K b len qu n ++ (textW K t cs ln ++ (mainW K a b t c g sn ++ svW K g Sv (oC K o (vp_updL of 0 ((ppT T (tn x) (tn w9)).toInt64)) :: Z)))) else townW K a T ++ (waysW K b len qu n ++ (textW K t cs ln ++ (mainW K a b t c g sn ++ svW K g Sv (oC K o of :: Z))))) (nI (q2 0 3 0 9 x w9)) 1 6 := by
  refine lx_intro (cc := cL_player) (maxL := 5) (ret := (some .int)) (hh := [(0, 10, 13, 13), (0, 10, 17, 29)]) (by decide) rfl (Nat.le_of_ble_eq_true rfl) ?_
  intro pr en st md ar bl mt co A hx hb hml hr hts hown hk hsz hAe hP hE hD hS hA htab hXw hZ hxn ls hl
  have hown : st.vm.findClass RL = some md.cls := hown
  have hl : lv_has ls 5 [(0, .ref (c 0)), (1, .int x), (2, .int w9), (3, .ref o)] := hl
  obtain ⟨H, hH⟩ : ∃ z, z = st.heap := ⟨_, rfl⟩
  obtain ⟨locs, hlo⟩ : ∃ z : List Loc, z = [] := ⟨_, rfl⟩
  have hP : va_P D vwCl (townW K a T ++ (waysW K b len qu n ++ (textW K t cs ln ++ (mainW K a b t c g sn ++ svW K g Sv (oC K o of :: Z))))) H := by rw [hH]; exact hP
  have hS : va_S A st.heap H locs := by rw [hH, hlo]; exact hS
  suffices go : W pr l en (headSpec wsL_player ({ frames := 7, cells := 1, slots := 6, locals := 143 } : Room)).room st md ar bl mt co H locs 0 0 (vx_MQ bl (txQ D (townW K a T ++ (waysW K b len qu n ++ (textW K t cs ln ++ (mainW K a b t c g sn ++ svW K g Sv (oC K o of :: Z))))) (if q2 0 3 0 9 x w9 = 0 then townW K a T ++ (waysW K b len qu n ++ (textW K t cs ln ++ (mainW K a b t c g sn ++ svW K g Sv (oC K o (vp_updL of 0 ((ppT T (tn x) (tn w9)).toInt64)) :: Z)))) else townW K a T ++ (waysW K b len qu n ++ (textW K t cs ln ++ (mainW K a b t c g sn ++ svW K g Sv (oC K o of :: Z))))) sz (nI (q2 0 3 0 9 x w9)) 0) (txX D (townW K a T ++ (waysW K b len qu n ++ (textW K t cs ln ++ (mainW K a b t c g sn ++ svW K g Sv (oC K o of :: Z))))) sz 0 xnA) ar st 1 6 A) (F0 md 0 ls []) by rw [hH, hlo] at go; exact go
  clear hH hlo
  have LK13 : (Cond.classLink RL 13 "java/lang/IndexOutOfBoundsException").before ar st = true := hts _ (List.mem_of_getElem? (i := 1) rfl)
  have LK29 : (Cond.classLink RL 29 "java/lang/IllegalArgumentException").before ar st = true := hts _ (List.mem_of_getElem? (i := 2) rfl)
  refine lv_aload_n hx hb dL_player_0 rfl (lv_at hl 3 rfl) ?_
  refine lv_iconst (v := nI 0) hx hb dL_player_1 (by decide) ?_
  refine lv_aload_n hx hb dL_player_2 rfl (lv_at hl 0 rfl) ?_
  refine lv_iload_n hx hb dL_player_3 rfl (lv_at hl 1 rfl) ?_
  refine lv_iload_n hx hb dL_player_4 rfl (lv_at hl 2 rfl) ?_
  refine tx_V (rest := [.int (nI 0), .ref o]) (ci := 3) (q0 := 17) ⟨hx, hb, hml, hown, hts⟩ hP hE hA hD hS hXw hZ (c_X3_player l D K dp fs hst _ _ _ _ _ _ _ _ _ _ _ _ _ _ _ x w9 hI) (cwV 2 hts gL_player_X3_player rfl rfl rfl hd_X3_player ⟨Nat.le_of_ble_eq_true rfl, Nat.le_of_ble_eq_true rfl⟩) rfl rfl rfl rfl hl.1 rfl (Nat.le_of_ble_eq_true rfl) dL_player_5 ⟨Nat.le_of_ble_eq_true rfl, Nat.le_of_ble_eq_true rfl⟩ ?_ ?_
  · intro hE0 H locs hP hD hS
    have hP : va_P D vwCl (townW K a T ++ (waysW K b len qu n ++ (textW K t cs ln ++ (mainW K a b t c g sn ++ svW K g Sv (oC K o of :: Z))))) H := hP
    have hD : va_D A (townW K a T ++ (waysW K b len qu n ++ (textW K t cs ln ++ (mainW K a b t c g sn ++ svW K g Sv (oC K o of :: Z))))) := hD
    refine lv_i2l (v := (ppT T (tn x) (tn w9)).toInt64) hx hb dL_player_8 rfl ?_
    refine nv_last hx hb hE hP hD hS 91 rfl dL_player_9 (fun H locs hP hD hS => ?_)
    have hP : va_P D vwCl (townW K a T ++ (waysW K b len qu n ++ (textW K t cs ln ++ (mainW K a b t c g sn ++ svW K g Sv (oC K o (vp_updL of 0 ((ppT T (tn x) (tn w9)).toInt64)) :: Z))))) H := hP
    have hD : va_D A (townW K a T ++ (waysW K b len qu n ++ (textW K t cs ln ++ (mainW K a b t c g sn ++ svW K g Sv (oC K o (vp_updL of 0 ((ppT T (tn x) (tn w9)).toInt64)) :: Z))))) := hD
    refine lv_goto (tgt := 21) hx hb dL_player_10 (by decide) ?_
    refine lv_iconst (v := nI 0) hx hb dL_player_21 (by decide) ?_
    have ew : (townW K a T ++ (waysW K b len qu n ++ (textW K t cs ln ++ (mainW K a b t c g sn ++ svW K g Sv (oC K o (vp_updL of 0 ((ppT T (tn x) (tn w9)).toInt64)) :: Z))))) = (if q2 0 3 0 9 x w9 = 0 then townW K a T ++ (waysW K b len qu n ++ (textW K t cs ln ++ (mainW K a b t c g sn ++ svW K g Sv (oC K o (vp_updL of 0 ((ppT T (tn x) (tn w9)).toInt64)) :: Z)))) else townW K a T ++ (waysW K b len qu n ++ (textW K t cs ln ++ (mainW K a b t c g sn ++ svW K g Sv (oC K o of :: Z))))) := (if_pos hE0).symm
    rw [ew] at hP hD
    exact tx_iret hAe hP hD hS hx hb hr hk dL_player_22 ⟨Nat.le_of_ble_eq_true rfl, Nat.le_of_ble_eq_true rfl⟩ rfl (by rw [hE0])
  · intro hE1 ce q9 H locs hP hD hS hq9 hv9 hc9
    rcases (show q2 0 3 0 9 x w9 = 0 ∨ q2 0 3 0 9 x w9 = 1 ∨ q2 0 3 0 9 x w9 = 2 by unfold q2; (repeat' split) <;> simp) with h_0 | h_1 | h_2
    · exact absurd h_0 hE1
    · rw [h_1] at hc9
      refine vx_catch (name := "java/lang/IndexOutOfBoundsException") (E := "java/lang/IndexOutOfBoundsException") hown [] ⟨0, 10, 13, 13⟩ [⟨0, 10, 17, 29⟩] htab (fun _ h => nomatch h) (by decide) (by decide) LK13 (hXw.2.2.2.1.use rfl) hq9 hv9 hc9 ?_
      refine lv_astore (lv' := [(4, .ref q9), (0, .ref (c 0)), (1, .int x), (2, .int w9), (3, .ref o)]) hx hb dL_player_13 hl (by decide) rfl (fun ls hl => ?_)
      refine lv_iconst (v := nI 1) hx hb dL_player_15 (by decide) ?_
      have ew : (townW K a T ++ (waysW K b len qu n ++ (textW K t cs ln ++ (mainW K a b t c g sn ++ svW K g Sv (oC K o of :: Z))))) = (if q2 0 3 0 9 x w9 = 0 then townW K a T ++ (waysW K b len qu n ++ (textW K t cs ln ++ (mainW K a b t c g sn ++ svW K g Sv (oC K o (vp_updL of 0 ((ppT T (tn x) (tn w9)).toInt64)) :: Z)))) else townW K a T ++ (waysW K b len qu n ++ (textW K t cs ln ++ (mainW K a b t c g sn ++ svW K g Sv (oC K o of :: Z))))) := (if_neg hE1).symm
      rw [ew] at hP hD
      exact tx_iret hAe hP hD hS hx hb hr hk dL_player_16 ⟨Nat.le_of_ble_eq_true rfl, Nat.le_of_ble_eq_true rfl⟩ rfl (by rw [h_1])
    · rw [h_2] at hc9
      refine vx_catch (name := "java/lang/IllegalArgumentException") (E := "java/lang/IllegalArgumentException") hown [⟨0, 10, 13, 13⟩] ⟨0, 10, 17, 29⟩ [] htab (List.forall_mem_cons.mpr ⟨Or.inr ⟨by decide, "java/lang/IndexOutOfBoundsException", LK13, hxn.2.2.1⟩, (fun _ h => nomatch h)⟩) (by decide) (by decide) LK29 (hXw.2.2.2.2.1.use rfl) hq9 hv9 hc9 ?_
      refine lv_astore (lv' := [(4, .ref q9), (0, .ref (c 0)), (1, .int x), (2, .int w9), (3, .ref o)]) hx hb dL_player_17 hl (by decide) rfl (fun ls hl => ?_)
      refine lv_iconst (v := nI 2) hx hb dL_player_19 (by decide) ?_
      have ew : (townW K a T ++ (waysW K b len qu n ++ (textW K t cs ln ++ (mainW K a b t c g sn ++ svW K g Sv (oC K o of :: Z))))) = (if q2 0 3 0 9 x w9 = 0 then townW K a T ++ (waysW K b len qu n ++ (textW K t cs ln ++ (mainW K a b t c g sn ++ svW K g Sv (oC K o (vp_updL of 0 ((ppT T (tn x) (tn w9)).toInt64)) :: Z)))) else townW K a T ++ (waysW K b len qu n ++ (textW K t cs ln ++ (mainW K a b t c g sn ++ svW K g Sv (oC K o of :: Z))))) := (if_neg hE1).symm
      rw [ew] at hP hD
      exact tx_iret hAe hP hD hS hx hb hr hk dL_player_20 ⟨Nat.le_of_ble_eq_true rfl, Nat.le_of_ble_eq_true rfl⟩ rfl (by rw [h_2])
set_option maxHeartbeats 4000000 in
set_option maxRecDepth 100000 in
theorem c_L_refusal (l : Launch) (D : va_G) (K : Nat → ClassId) (dp fs : Nat) (hst : l.stackTraces = false) (sz : Nat) (a b t c : Nat → Nat) (g : Nat → Nat → Nat) (T : TW) (len : Nat → Option Nat) (qu : Nat → Nat) (n : Nat) (cs : Nat → Nat) (ln sn : Nat) (Sv : Nat → TW) (x g9 d : Int32) (hI : Inv T) (o : Nat) (of : Nat → Int64) (Z : va_W) : Lx dp fs l yL_refusal wsL_refusal ({ frames := 7, cells := 1, slots := 6, locals := 124 } : Room) D K (townW K a T ++ (waysW K b len qu n ++ (textW K t cs ln ++ (mainW K a b t c g sn ++ svW K g Sv (oC K o of :: Z))))) sz [.ref (c 0), .int x, .int g9, .int d, .ref o] (if rfE x g9 d = 0 then townW K a T ++ (waysW K b len qu n ++ (textW K t cs ln ++ (mainW K a b t c g sn ++ svW K g Sv (oC K o (vp_updL of 0 ((nI (whyT T (tn x) (hdT T (tn x)) (tn g9) (tn d))).toInt64)) :: Z)))) else townW K a T ++ (waysW K b len qu n ++ (textW K t cs ln ++ (mainW K a b t c g sn ++ svW K g Sv (oC K o of :: Z))))) (nI (rfE x g9 d)) 1 6 := by
  refine lx_intro (cc := cL_refusal) (maxL := 6) (ret := (some .int)) (hh := [(0, 12, 15, 13), (0, 12, 19, 29)]) (by decide) rfl (Nat.le_of_ble_eq_true rfl) ?_
  intro pr en st md ar bl mt co A hx hb hml hr hts hown hk hsz hAe hP hE hD hS hA htab hXw hZ hxn ls hl
  have hown : st.vm.findClass RL = some md.cls := hown
  have hl : lv_has ls 6 [(0, .ref (c 0)), (1, .int x), (2, .int g9), (3, .int d), (4, .ref o)] := hl
  obtain ⟨H, hH⟩ : ∃ z, z = st.heap := ⟨_, rfl⟩
  obtain ⟨locs, hlo⟩ : ∃ z : List Loc, z = [] := ⟨_, rfl⟩
  have hP : va_P D vwCl (townW K a T ++ (waysW K b len qu n ++ (textW K t cs ln ++ (mainW K a b t c g sn ++ svW K g Sv (oC K o of :: Z))))) H := by rw [hH]; exact hP
  have hS : va_S A st.heap H locs := by rw [hH, hlo]; exact hS
  suffices go : W pr l en (headSpec wsL_refusal ({ frames := 7, cells := 1, slots := 6, locals := 124 } : Room)).room st md ar bl mt co H locs 0 0 (vx_MQ bl (txQ D (townW K a T ++ (waysW K b len qu n ++ (textW K t cs ln ++ (mainW K a b t c g sn ++ svW K g Sv (oC K o of :: Z))))) (if rfE x g9 d = 0 then townW K a T ++ (waysW K b len qu n ++ (textW K t cs ln ++ (mainW K a b t c g sn ++ svW K g Sv (oC K o (vp_updL of 0 ((nI (whyT T (tn x) (hdT T (tn x)) (tn g9) (tn d))).toInt64)) :: Z)))) else townW K a T ++ (waysW K b len qu n ++ (textW K t cs ln ++ (mainW K a b t c g sn ++ svW K g Sv (oC K o of :: Z))))) sz (nI (rfE x g9 d)) 0) (txX D (townW K a T ++ (waysW K b len qu n ++ (textW K t cs ln ++ (mainW K a b t c g sn ++ svW K g Sv (oC K o of :: Z))))) sz 0 xnA) ar st 1 6 A) (F0 md 0 ls []) by rw [hH, hlo] at go; exact go
  clear hH hlo
  have LK13 : (Cond.classLink RL 13 "java/lang/IndexOutOfBoundsException").before ar st = true := hts _ (List.mem_of_getElem? (i := 1) rfl)
  have LK29 : (Cond.classLink RL 29 "java/lang/IllegalArgumentException").before ar st = true := hts _ (List.mem_of_getElem? (i := 2) rfl)
  refine lv_aload hx hb dL_refusal_0 (lv_at hl 4 rfl) ?_
  refine lv_iconst (v := nI 0) hx hb dL_refusal_2 (by decide) ?_
  refine lv_aload_n hx hb dL_refusal_3 rfl (lv_at hl 0 rfl) ?_
  refine lv_iload_n hx hb dL_refusal_4 rfl (lv_at hl 1 rfl) ?_
  refine lv_iload_n hx hb dL_refusal_5 rfl (lv_at hl 2 rfl) ?_
  refine lv_iload_n hx hb dL_refusal_6 rfl (lv_at hl 3 rfl) ?_
  refine tx_V (rest := [.int (nI 0), .ref o]) (ci := 3) (q0 := 17) ⟨hx, hb, hml, hown, hts⟩ hP hE hA hD hS hXw hZ (c_X3_refusal l D K dp fs hst _ _ _ _ _ _ _ _ _ _ _ _ _ _ _ x g9 d hI) (cwV 3 hts gL_refusal_X3_refusal rfl rfl rfl hd_X3_refusal ⟨Nat.le_of_ble_eq_true rfl, Nat.le_of_ble_eq_true rfl⟩) rfl rfl rfl rfl hl.1 rfl (Nat.le_of_ble_eq_true rfl) dL_refusal_7 ⟨Nat.le_of_ble_eq_true rfl, Nat.le_of_ble_eq_true rfl⟩ ?_ ?_
  · intro hE0 H locs hP hD hS
    have hP : va_P D vwCl (townW K a T ++ (waysW K b len qu n ++ (textW K t cs ln ++ (mainW K a b t c g sn ++ svW K g Sv (oC K o of :: Z))))) H := hP
    have hD : va_D A (townW K a T ++ (waysW K b len qu n ++ (textW K t cs ln ++ (mainW K a b t c g sn ++ svW K g Sv (oC K o of :: Z))))) := hD
    refine lv_i2l (v := (nI (whyT T (tn x) (hdT T (tn x)) (tn g9) (tn d))).toInt64) hx hb dL_refusal_10 rfl ?_
    refine nv_last hx hb hE hP hD hS 91 rfl dL_refusal_11 (fun H locs hP hD hS => ?_)
    have hP : va_P D vwCl (townW K a T ++ (waysW K b len qu n ++ (textW K t cs ln ++ (mainW K a b t c g sn ++ svW K g Sv (oC K o (vp_updL of 0 ((nI (whyT T (tn x) (hdT T (tn x)) (tn g9) (tn d))).toInt64)) :: Z))))) H := hP
    have hD : va_D A (townW K a T ++ (waysW K b len qu n ++ (textW K t cs ln ++ (mainW K a b t c g sn ++ svW K g Sv (oC K o (vp_updL of 0 ((nI (whyT T (tn x) (hdT T (tn x)) (tn g9) (tn d))).toInt64)) :: Z))))) := hD
    refine lv_goto (tgt := 23) hx hb dL_refusal_12 (by decide) ?_
    refine lv_iconst (v := nI 0) hx hb dL_refusal_23 (by decide) ?_
    have ew : (townW K a T ++ (waysW K b len qu n ++ (textW K t cs ln ++ (mainW K a b t c g sn ++ svW K g Sv (oC K o (vp_updL of 0 ((nI (whyT T (tn x) (hdT T (tn x)) (tn g9) (tn d))).toInt64)) :: Z))))) = (if rfE x g9 d = 0 then townW K a T ++ (waysW K b len qu n ++ (textW K t cs ln ++ (mainW K a b t c g sn ++ svW K g Sv (oC K o (vp_updL of 0 ((nI (whyT T (tn x) (hdT T (tn x)) (tn g9) (tn d))).toInt64)) :: Z)))) else townW K a T ++ (waysW K b len qu n ++ (textW K t cs ln ++ (mainW K a b t c g sn ++ svW K g Sv (oC K o of :: Z))))) := (if_pos hE0).symm
    rw [ew] at hP hD
    exact tx_iret hAe hP hD hS hx hb hr hk dL_refusal_24 ⟨Nat.le_of_ble_eq_true rfl, Nat.le_of_ble_eq_true rfl⟩ rfl (by rw [hE0])
  · intro hE1 ce q9 H locs hP hD hS hq9 hv9 hc9
    rcases (show rfE x g9 d = 0 ∨ rfE x g9 d = 1 ∨ rfE x g9 d = 2 by unfold rfE; (repeat' split) <;> simp) with h_0 | h_1 | h_2
    · exact absurd h_0 hE1
    · rw [h_1] at hc9
      refine vx_catch (name := "java/lang/IndexOutOfBoundsException") (E := "java/lang/IndexOutOfBoundsException") hown [] ⟨0, 12, 15, 13⟩ [⟨0, 12, 19, 29⟩] htab (fun _ h => nomatch h) (by decide) (by decide) LK13 (hXw.2.2.2.1.use rfl) hq9 hv9 hc9 ?_
      refine lv_astore (lv' := [(5, .ref q9), (0, .ref (c 0)), (1, .int x), (2, .int g9), (3, .int d), (4, .ref o)]) hx hb dL_refusal_15 hl (by decide) rfl (fun ls hl => ?_)
      refine lv_iconst (v := nI 1) hx hb dL_refusal_17 (by decide) ?_
      have ew : (townW K a T ++ (waysW K b len qu n ++ (textW K t cs ln ++ (mainW K a b t c g sn ++ svW K g Sv (oC K o of :: Z))))) = (if rfE x g9 d = 0 then townW K a T ++ (waysW K b len qu n ++ (textW K t cs ln ++ (mainW K a b t c g sn ++ svW K g Sv (oC K o (vp_updL of 0 ((nI (whyT T (tn x) (hdT T (tn x)) (tn g9) (tn d))).toInt64)) :: Z)))) else townW K a T ++ (waysW K b len qu n ++ (textW K t cs ln ++ (mainW K a b t c g sn ++ svW K g Sv (oC K o of :: Z))))) := (if_neg hE1).symm
      rw [ew] at hP hD
      exact tx_iret hAe hP hD hS hx hb hr hk dL_refusal_18 ⟨Nat.le_of_ble_eq_true rfl, Nat.le_of_ble_eq_true rfl⟩ rfl (by rw [h_1])
    · rw [h_2] at hc9
      refine vx_catch (name := "java/lang/IllegalArgumentException") (E := "java/lang/IllegalArgumentException") hown [⟨0, 12, 15, 13⟩] ⟨0, 12, 19, 29⟩ [] htab (List.forall_mem_cons.mpr ⟨Or.inr ⟨by decide, "java/lang/IndexOutOfBoundsException", LK13, hxn.2.2.1⟩, (fun _ h => nomatch h)⟩) (by decide) (by decide) LK29 (hXw.2.2.2.2.1.use rfl) hq9 hv9 hc9 ?_
      refine lv_astore (lv' := [(5, .ref q9), (0, .ref (c 0)), (1, .int x), (2, .int g9), (3, .int d), (4, .ref o)]) hx hb dL_refusal_19 hl (by decide) rfl (fun ls hl => ?_)
      refine lv_iconst (v := nI 2) hx hb dL_refusal_21 (by decide) ?_
      have ew : (townW K a T ++ (waysW K b len qu n ++ (textW K t cs ln ++ (mainW K a b t c g sn ++ svW K g Sv (oC K o of :: Z))))) = (if rfE x g9 d = 0 then townW K a T ++ (waysW K b len qu n ++ (textW K t cs ln ++ (mainW K a b t c g sn ++ svW K g Sv (oC K o (vp_updL of 0 ((nI (whyT T (tn x) (hdT T (tn x)) (tn g9) (tn d))).toInt64)) :: Z)))) else townW K a T ++ (waysW K b len qu n ++ (textW K t cs ln ++ (mainW K a b t c g sn ++ svW K g Sv (oC K o of :: Z))))) := (if_neg hE1).symm
      rw [ew] at hP hD
      exact tx_iret hAe hP hD hS hx hb hr hk dL_refusal_22 ⟨Nat.le_of_ble_eq_true rfl, Nat.le_of_ble_eq_true rfl⟩ rfl (by rw [h_2])
set_option maxHeartbeats 4000000 in
set_option maxRecDepth 100000 in
theorem c_L_count (l : Launch) (D : va_G) (K : Nat → ClassId) (dp fs : Nat) (hst : l.stackTraces = false) (sz : Nat) (a b t c : Nat → Nat) (g : Nat → Nat → Nat) (T : TW) (len : Nat → Option Nat) (qu : Nat → Nat) (n : Nat) (cs : Nat → Nat) (ln sn : Nat) (Sv : Nat → TW) (x : Int32) (hI : Inv T) (o : Nat) (of : Nat → Int64) (Z : va_W) : Lx dp fs l yL_count wsL_count ({ frames := 8, cells := 1, slots := 6, locals := 163 } : Room) D K (townW K a T ++ (waysW K b len qu n ++ (textW K t cs ln ++ (mainW K a b t c g sn ++ svW K g Sv (oC K o of :: Z))))) sz [.ref (c 0), .int x, .ref o] (if q1 0 7 x = 0 then townW K a T ++ (waysW K b len qu n ++ (textW K t cs ln ++ (mainW K a b t c g sn ++ svW K g Sv (oC K o (vp_updL of 0 ((nbrT T sn (tn x)).toInt64)) :: Z)))) else townW K a T ++ (waysW K b len qu n ++ (textW K t cs ln ++ (mainW K a b t c g sn ++ svW K g Sv (oC K o of :: Z))))) (nI (q1 0 7 x)) 1 6 := by
  refine lx_intro (cc := cL_count) (maxL := 4) (ret := (some .int)) (hh := [(0, 9, 12, 29)]) (by decide) rfl (Nat.le_of_ble_eq_true rfl) ?_
  intro pr en st md ar bl mt co A hx hb hml hr hts hown hk hsz hAe hP hE hD hS hA htab hXw hZ hxn ls hl
  have hown : st.vm.findClass RL = some md.cls := hown
  have hl : lv_has ls 4 [(0, .ref (c 0)), (1, .int x), (2, .ref o)] := hl
  obtain ⟨H, hH⟩ : ∃ z, z = st.heap := ⟨_, rfl⟩
  obtain ⟨locs, hlo⟩ : ∃ z : List Loc, z = [] := ⟨_, rfl⟩
  have hP : va_P D vwCl (townW K a T ++ (waysW K b len qu n ++ (textW K t cs ln ++ (mainW K a b t c g sn ++ svW K g Sv (oC K o of :: Z))))) H := by rw [hH]; exact hP
  have hS : va_S A st.heap H locs := by rw [hH, hlo]; exact hS
  suffices go : W pr l en (headSpec wsL_count ({ frames := 8, cells := 1, slots := 6, locals := 163 } : Room)).room st md ar bl mt co H locs 0 0 (vx_MQ bl (txQ D (townW K a T ++ (waysW K b len qu n ++ (textW K t cs ln ++ (mainW K a b t c g sn ++ svW K g Sv (oC K o of :: Z))))) (if q1 0 7 x = 0 then townW K a T ++ (waysW K b len qu n ++ (textW K t cs ln ++ (mainW K a b t c g sn ++ svW K g Sv (oC K o (vp_updL of 0 ((nbrT T sn (tn x)).toInt64)) :: Z)))) else townW K a T ++ (waysW K b len qu n ++ (textW K t cs ln ++ (mainW K a b t c g sn ++ svW K g Sv (oC K o of :: Z))))) sz (nI (q1 0 7 x)) 0) (txX D (townW K a T ++ (waysW K b len qu n ++ (textW K t cs ln ++ (mainW K a b t c g sn ++ svW K g Sv (oC K o of :: Z))))) sz 0 xnA) ar st 1 6 A) (F0 md 0 ls []) by rw [hH, hlo] at go; exact go
  clear hH hlo
  have LK29 : (Cond.classLink RL 29 "java/lang/IllegalArgumentException").before ar st = true := hts _ (List.mem_of_getElem? (i := 1) rfl)
  refine lv_aload_n hx hb dL_count_0 rfl (lv_at hl 2 rfl) ?_
  refine lv_iconst (v := nI 0) hx hb dL_count_1 (by decide) ?_
  refine lv_aload_n hx hb dL_count_2 rfl (lv_at hl 0 rfl) ?_
  refine lv_iload_n hx hb dL_count_3 rfl (lv_at hl 1 rfl) ?_
  refine tx_V (rest := [.int (nI 0), .ref o]) (ci := 3) (q0 := 17) ⟨hx, hb, hml, hown, hts⟩ hP hE hA hD hS hXw hZ (c_X3_count l D K dp fs hst _ _ _ _ _ _ _ _ _ _ _ _ _ _ _ x hI) (cwV 1 hts gL_count_X3_count rfl rfl rfl hd_X3_count ⟨Nat.le_of_ble_eq_true rfl, Nat.le_of_ble_eq_true rfl⟩) rfl rfl rfl rfl hl.1 rfl (Nat.le_of_ble_eq_true rfl) dL_count_4 ⟨Nat.le_of_ble_eq_true rfl, Nat.le_of_ble_eq_true rfl⟩ ?_ ?_
  · intro hE0 H locs hP hD hS
    have hP : va_P D vwCl (townW K a T ++ (waysW K b len qu n ++ (textW K t cs ln ++ (mainW K a b t c g sn ++ svW K g Sv (oC K o of :: Z))))) H := hP
    have hD : va_D A (townW K a T ++ (waysW K b len qu n ++ (textW K t cs ln ++ (mainW K a b t c g sn ++ svW K g Sv (oC K o of :: Z))))) := hD
    refine lv_i2l (v := (nbrT T sn (tn x)).toInt64) hx hb dL_count_7 rfl ?_
    refine nv_last hx hb hE hP hD hS 91 rfl dL_count_8 (fun H locs hP hD hS => ?_)
    have hP : va_P D vwCl (townW K a T ++ (waysW K b len qu n ++ (textW K t cs ln ++ (mainW K a b t c g sn ++ svW K g Sv (oC K o (vp_updL of 0 ((nbrT T sn (tn x)).toInt64)) :: Z))))) H := hP
    have hD : va_D A (townW K a T ++ (waysW K b len qu n ++ (textW K t cs ln ++ (mainW K a b t c g sn ++ svW K g Sv (oC K o (vp_updL of 0 ((nbrT T sn (tn x)).toInt64)) :: Z))))) := hD
    refine lv_goto (tgt := 15) hx hb dL_count_9 (by decide) ?_
    refine lv_iconst (v := nI 0) hx hb dL_count_15 (by decide) ?_
    have ew : (townW K a T ++ (waysW K b len qu n ++ (textW K t cs ln ++ (mainW K a b t c g sn ++ svW K g Sv (oC K o (vp_updL of 0 ((nbrT T sn (tn x)).toInt64)) :: Z))))) = (if q1 0 7 x = 0 then townW K a T ++ (waysW K b len qu n ++ (textW K t cs ln ++ (mainW K a b t c g sn ++ svW K g Sv (oC K o (vp_updL of 0 ((nbrT T sn (tn x)).toInt64)) :: Z)))) else townW K a T ++ (waysW K b len qu n ++ (textW K t cs ln ++ (mainW K a b t c g sn ++ svW K g Sv (oC K o of :: Z))))) := (if_pos hE0).symm
    rw [ew] at hP hD
    exact tx_iret hAe hP hD hS hx hb hr hk dL_count_16 ⟨Nat.le_of_ble_eq_true rfl, Nat.le_of_ble_eq_true rfl⟩ rfl (by rw [hE0])
  · intro hE1 ce q9 H locs hP hD hS hq9 hv9 hc9
    rcases (show q1 0 7 x = 0 ∨ q1 0 7 x = 1 by unfold q1; (repeat' split) <;> simp) with h_0 | h_1
    · exact absurd h_0 hE1
    · rw [h_1] at hc9
      refine vx_catch (name := "java/lang/IllegalArgumentException") (E := "java/lang/IllegalArgumentException") hown [] ⟨0, 9, 12, 29⟩ [] htab (fun _ h => nomatch h) (by decide) (by decide) LK29 (hXw.2.2.2.2.1.use rfl) hq9 hv9 hc9 ?_
      refine lv_astore_n (lv' := [(3, .ref q9), (0, .ref (c 0)), (1, .int x), (2, .ref o)]) hx hb dL_count_12 rfl hl (by decide) rfl (fun ls hl => ?_)
      refine lv_iconst (v := nI 1) hx hb dL_count_13 (by decide) ?_
      have ew : (townW K a T ++ (waysW K b len qu n ++ (textW K t cs ln ++ (mainW K a b t c g sn ++ svW K g Sv (oC K o of :: Z))))) = (if q1 0 7 x = 0 then townW K a T ++ (waysW K b len qu n ++ (textW K t cs ln ++ (mainW K a b t c g sn ++ svW K g Sv (oC K o (vp_updL of 0 ((nbrT T sn (tn x)).toInt64)) :: Z)))) else townW K a T ++ (waysW K b len qu n ++ (textW K t cs ln ++ (mainW K a b t c g sn ++ svW K g Sv (oC K o of :: Z))))) := (if_neg hE1).symm
      rw [ew] at hP hD
      exact tx_iret hAe hP hD hS hx hb hr hk dL_count_14 ⟨Nat.le_of_ble_eq_true rfl, Nat.le_of_ble_eq_true rfl⟩ rfl (by rw [h_1])
set_option maxHeartbeats 4000000 in
set_option maxRecDepth 100000 in
theorem c_L_setting (l : Launch) (D : va_G) (K : Nat → ClassId) (dp fs : Nat) (hst : l.stackTraces = false) (sz : Nat) (a b t c : Nat → Nat) (g : Nat → Nat → Nat) (T : TW) (len : Nat → Option Nat) (qu : Nat → Nat) (n : Nat) (cs : Nat → Nat) (ln sn : Nat) (Sv : Nat → TW) (x : Int32) (hI : Inv T) (o : Nat) (of : Nat → Int64) (Z : va_W) : Lx dp fs l yL_setting wsL_setting ({ frames := 7, cells := 1, slots := 6, locals := 103 } : Room) D K (townW K a T ++ (waysW K b len qu n ++ (textW K t cs ln ++ (mainW K a b t c g sn ++ svW K g Sv (oC K o of :: Z))))) sz [.ref (c 0), .int x, .ref o] (if q1 0 2 x = 0 then townW K a T ++ (waysW K b len qu n ++ (textW K t cs ln ++ (mainW K a b t c g sn ++ svW K g Sv (oC K o (vp_updL of 0 ((nI (stT T (tn x))).toInt64)) :: Z)))) else townW K a T ++ (waysW K b len qu n ++ (textW K t cs ln ++ (mainW K a b t c g sn ++ svW K g Sv (oC K o of :: Z))))) (nI (q1 0 2 x)) 1 6 := by
  refine lx_intro (cc := cL_setting) (maxL := 4) (ret := (some .int)) (hh := [(0, 9, 12, 13)]) (by decide) rfl (Nat.le_of_ble_eq_true rfl) ?_
  intro pr en st md ar bl mt co A hx hb hml hr hts hown hk hsz hAe hP hE hD hS hA htab hXw hZ hxn ls hl
  have hown : st.vm.findClass RL = some md.cls := hown
  have hl : lv_has ls 4 [(0, .ref (c 0)), (1, .int x), (2, .ref o)] := hl
  obtain ⟨H, hH⟩ : ∃ z, z = st.heap := ⟨_, rfl⟩
  obtain ⟨locs, hlo⟩ : ∃ z : List Loc, z = [] := ⟨_, rfl⟩
  have hP : va_P D vwCl (townW K a T ++ (waysW K b len qu n ++ (textW K t cs ln ++ (mainW K a b t c g sn ++ svW K g Sv (oC K o of :: Z))))) H := by rw [hH]; exact hP
  have hS : va_S A st.heap H locs := by rw [hH, hlo]; exact hS
  suffices go : W pr l en (headSpec wsL_setting ({ frames := 7, cells := 1, slots := 6, locals := 103 } : Room)).room st md ar bl mt co H locs 0 0 (vx_MQ bl (txQ D (townW K a T ++ (waysW K b len qu n ++ (textW K t cs ln ++ (mainW K a b t c g sn ++ svW K g Sv (oC K o of :: Z))))) (if q1 0 2 x = 0 then townW K a T ++ (waysW K b len qu n ++ (textW K t cs ln ++ (mainW K a b t c g sn ++ svW K g Sv (oC K o (vp_updL of 0 ((nI (stT T (tn x))).toInt64)) :: Z)))) else townW K a T ++ (waysW K b len qu n ++ (textW K t cs ln ++ (mainW K a b t c g sn ++ svW K g Sv (oC K o of :: Z))))) sz (nI (q1 0 2 x)) 0) (txX D (townW K a T ++ (waysW K b len qu n ++ (textW K t cs ln ++ (mainW K a b t c g sn ++ svW K g Sv (oC K o of :: Z))))) sz 0 xnA) ar st 1 6 A) (F0 md 0 ls []) by rw [hH, hlo] at go; exact go
  clear hH hlo
  have LK13 : (Cond.classLink RL 13 "java/lang/IndexOutOfBoundsException").before ar st = true := hts _ (List.mem_of_getElem? (i := 1) rfl)
  refine lv_aload_n hx hb dL_setting_0 rfl (lv_at hl 2 rfl) ?_
  refine lv_iconst (v := nI 0) hx hb dL_setting_1 (by decide) ?_
  refine lv_aload_n hx hb dL_setting_2 rfl (lv_at hl 0 rfl) ?_
  refine lv_iload_n hx hb dL_setting_3 rfl (lv_at hl 1 rfl) ?_
  refine tx_V (rest := [.int (nI 0), .ref o]) (ci := 3) (q0 := 17) ⟨hx, hb, hml, hown, hts⟩ hP hE hA hD hS hXw hZ (c_X3_setting l D K dp fs hst _ _ _ _ _ _ _ _ _ _ _ _ _ _ _ x hI) (cwV 1 hts gL_setting_X3_setting rfl rfl rfl hd_X3_setting ⟨Nat.le_of_ble_eq_true rfl, Nat.le_of_ble_eq_true rfl⟩) rfl rfl rfl rfl hl.1 rfl (Nat.le_of_ble_eq_true rfl) dL_setting_4 ⟨Nat.le_of_ble_eq_true rfl, Nat.le_of_ble_eq_true rfl⟩ ?_ ?_
  · intro hE0 H locs hP hD hS
    have hP : va_P D vwCl (townW K a T ++ (waysW K b len qu n ++ (textW K t cs ln ++ (mainW K a b t c g sn ++ svW K g Sv (oC K o of :: Z))))) H := hP
    have hD : va_D A (townW K a T ++ (waysW K b len qu n ++ (textW K t cs ln ++ (mainW K a b t c g sn ++ svW K g Sv (oC K o of :: Z))))) := hD
    refine lv_i2l (v := (nI (stT T (tn x))).toInt64) hx hb dL_setting_7 rfl ?_
    refine nv_last hx hb hE hP hD hS 91 rfl dL_setting_8 (fun H locs hP hD hS => ?_)
    have hP : va_P D vwCl (townW K a T ++ (waysW K b len qu n ++ (textW K t cs ln ++ (mainW K a b t c g sn ++ svW K g Sv (oC K o (vp_updL of 0 ((nI (stT T (tn x))).toInt64)) :: Z))))) H := hP
    have hD : va_D A (townW K a T ++ (waysW K b len qu n ++ (textW K t cs ln ++ (mainW K a b t c g sn ++ svW K g Sv (oC K o (vp_updL of 0 ((nI (stT T (tn x))).toInt64)) :: Z))))) := hD
    refine lv_goto (tgt := 15) hx hb dL_setting_9 (by decide) ?_
    refine lv_iconst (v := nI 0) hx hb dL_setting_15 (by decide) ?_
    have ew : (townW K a T ++ (waysW K b len qu n ++ (textW K t cs ln ++ (mainW K a b t c g sn ++ svW K g Sv (oC K o (vp_updL of 0 ((nI (stT T (tn x))).toInt64)) :: Z))))) = (if q1 0 2 x = 0 then townW K a T ++ (waysW K b len qu n ++ (textW K t cs ln ++ (mainW K a b t c g sn ++ svW K g Sv (oC K o (vp_updL of 0 ((nI (stT T (tn x))).toInt64)) :: Z)))) else townW K a T ++ (waysW K b len qu n ++ (textW K t cs ln ++ (mainW K a b t c g sn ++ svW K g Sv (oC K o of :: Z))))) := (if_pos hE0).symm
    rw [ew] at hP hD
    exact tx_iret hAe hP hD hS hx hb hr hk dL_setting_16 ⟨Nat.le_of_ble_eq_true rfl, Nat.le_of_ble_eq_true rfl⟩ rfl (by rw [hE0])
  · intro hE1 ce q9 H locs hP hD hS hq9 hv9 hc9
    rcases (show q1 0 2 x = 0 ∨ q1 0 2 x = 1 by unfold q1; (repeat' split) <;> simp) with h_0 | h_1
    · exact absurd h_0 hE1
    · rw [h_1] at hc9
      refine vx_catch (name := "java/lang/IndexOutOfBoundsException") (E := "java/lang/IndexOutOfBoundsException") hown [] ⟨0, 9, 12, 13⟩ [] htab (fun _ h => nomatch h) (by decide) (by decide) LK13 (hXw.2.2.2.1.use rfl) hq9 hv9 hc9 ?_
      refine lv_astore_n (lv' := [(3, .ref q9), (0, .ref (c 0)), (1, .int x), (2, .ref o)]) hx hb dL_setting_12 rfl hl (by decide) rfl (fun ls hl => ?_)
      refine lv_iconst (v := nI 1) hx hb dL_setting_13 (by decide) ?_
      have ew : (townW K a T ++ (waysW K b len qu n ++ (textW K t cs ln ++ (mainW K a b t c g sn ++ svW K g Sv (oC K o of :: Z))))) = (if q1 0 2 x = 0 then townW K a T ++ (waysW K b len qu n ++ (textW K t cs ln ++ (mainW K a b t c g sn ++ svW K g Sv (oC K o (vp_updL of 0 ((nI (stT T (tn x))).toInt64)) :: Z)))) else townW K a T ++ (waysW K b len qu n ++ (textW K t cs ln ++ (mainW K a b t c g sn ++ svW K g Sv (oC K o of :: Z))))) := (if_neg hE1).symm
      rw [ew] at hP hD
      exact tx_iret hAe hP hD hS hx hb hr hk dL_setting_14 ⟨Nat.le_of_ble_eq_true rfl, Nat.le_of_ble_eq_true rfl⟩ rfl (by rw [h_1])
set_option maxHeartbeats 4000000 in
set_option maxRecDepth 100000 in
theorem c_L_away (l : Launch) (D : va_G) (K : Nat → ClassId) (dp fs : Nat) (hst : l.stackTraces = false) (sz : Nat) (a b t c : Nat → Nat) (g : Nat → Nat → Nat) (T : TW) (len : Nat → Option Nat) (qu : Nat → Nat) (n : Nat) (cs : Nat → Nat) (ln sn : Nat) (Sv : Nat → TW) (x f : Int32) (hI : Inv T) (hK : HK T) (o : Nat) (of : Nat → Int64) (Z : va_W) : Lx dp fs l yL_away wsL_away ({ frames := 7, cells := 1, slots := 6, locals := 130 } : Room) D K (townW K a T ++ (waysW K b len qu n ++ (textW K t cs ln ++ (mainW K a b t c g sn ++ svW K g Sv (oC K o of :: Z))))) sz [.ref (c 0), .int x, .int f, .ref o] (if awE x f = 0 then townW K a T ++ (waysW K b ((fewS T (tn x) qu).1) ((fewS T (tn x) qu).2.1) ((fewS T (tn x) qu).2.2) ++ (textW K t cs ln ++ (mainW K a b t c g sn ++ svW K g Sv (oC K o (vp_updL of 0 ((oI (wyO (dst T (tn x) 0 (tn f)))).toInt64)) :: Z)))) else townW K a T ++ (waysW K b len qu n ++ (textW K t cs ln ++ (mainW K a b t c g sn ++ svW K g Sv (oC K o of :: Z))))) (nI (awE x f)) 1 6 := by
  refine lx_intro (cc := cL_away) (maxL := 5) (ret := (some .int)) (hh := [(0, 10, 13, 13)]) (by decide) rfl (Nat.le_of_ble_eq_true rfl) ?_
  intro pr en st md ar bl mt co A hx hb hml hr hts hown hk hsz hAe hP hE hD hS hA htab hXw hZ hxn ls hl
  have hown : st.vm.findClass RL = some md.cls := hown
  have hl : lv_has ls 5 [(0, .ref (c 0)), (1, .int x), (2, .int f), (3, .ref o)] := hl
  obtain ⟨H, hH⟩ : ∃ z, z = st.heap := ⟨_, rfl⟩
  obtain ⟨locs, hlo⟩ : ∃ z : List Loc, z = [] := ⟨_, rfl⟩
  have hP : va_P D vwCl (townW K a T ++ (waysW K b len qu n ++ (textW K t cs ln ++ (mainW K a b t c g sn ++ svW K g Sv (oC K o of :: Z))))) H := by rw [hH]; exact hP
  have hS : va_S A st.heap H locs := by rw [hH, hlo]; exact hS
  suffices go : W pr l en (headSpec wsL_away ({ frames := 7, cells := 1, slots := 6, locals := 130 } : Room)).room st md ar bl mt co H locs 0 0 (vx_MQ bl (txQ D (townW K a T ++ (waysW K b len qu n ++ (textW K t cs ln ++ (mainW K a b t c g sn ++ svW K g Sv (oC K o of :: Z))))) (if awE x f = 0 then townW K a T ++ (waysW K b ((fewS T (tn x) qu).1) ((fewS T (tn x) qu).2.1) ((fewS T (tn x) qu).2.2) ++ (textW K t cs ln ++ (mainW K a b t c g sn ++ svW K g Sv (oC K o (vp_updL of 0 ((oI (wyO (dst T (tn x) 0 (tn f)))).toInt64)) :: Z)))) else townW K a T ++ (waysW K b len qu n ++ (textW K t cs ln ++ (mainW K a b t c g sn ++ svW K g Sv (oC K o of :: Z))))) sz (nI (awE x f)) 0) (txX D (townW K a T ++ (waysW K b len qu n ++ (textW K t cs ln ++ (mainW K a b t c g sn ++ svW K g Sv (oC K o of :: Z))))) sz 0 xnA) ar st 1 6 A) (F0 md 0 ls []) by rw [hH, hlo] at go; exact go
  clear hH hlo
  have LK13 : (Cond.classLink RL 13 "java/lang/IndexOutOfBoundsException").before ar st = true := hts _ (List.mem_of_getElem? (i := 1) rfl)
  refine lv_aload_n hx hb dL_away_0 rfl (lv_at hl 3 rfl) ?_
  refine lv_iconst (v := nI 0) hx hb dL_away_1 (by decide) ?_
  refine lv_aload_n hx hb dL_away_2 rfl (lv_at hl 0 rfl) ?_
  refine lv_iload_n hx hb dL_away_3 rfl (lv_at hl 1 rfl) ?_
  refine lv_iload_n hx hb dL_away_4 rfl (lv_at hl 2 rfl) ?_
  refine tx_V (rest := [.int (nI 0), .ref o]) (ci := 3) (q0 := 17) ⟨hx, hb, hml, hown, hts⟩ hP hE hA hD hS hXw hZ (c_X3_away l D K dp fs hst _ _ _ _ _ _ _ _ _ _ _ _ _ _ _ x f hI hK) (cwV 2 hts gL_away_X3_away rfl rfl rfl hd_X3_away ⟨Nat.le_of_ble_eq_true rfl, Nat.le_of_ble_eq_true rfl⟩) rfl rfl rfl rfl hl.1 rfl (Nat.le_of_ble_eq_true rfl) dL_away_5 ⟨Nat.le_of_ble_eq_true rfl, Nat.le_of_ble_eq_true rfl⟩ ?_ ?_
  · intro hE0 H locs hP hD hS
    have hP : va_P D vwCl (townW K a T ++ (waysW K b ((fewS T (tn x) qu).1) ((fewS T (tn x) qu).2.1) ((fewS T (tn x) qu).2.2) ++ (textW K t cs ln ++ (mainW K a b t c g sn ++ svW K g Sv (oC K o of :: Z))))) H := hP
    have hD : va_D A (townW K a T ++ (waysW K b ((fewS T (tn x) qu).1) ((fewS T (tn x) qu).2.1) ((fewS T (tn x) qu).2.2) ++ (textW K t cs ln ++ (mainW K a b t c g sn ++ svW K g Sv (oC K o of :: Z))))) := hD
    refine lv_i2l (v := (oI (wyO (dst T (tn x) 0 (tn f)))).toInt64) hx hb dL_away_8 rfl ?_
    refine nv_last hx hb hE hP hD hS 91 rfl dL_away_9 (fun H locs hP hD hS => ?_)
    have hP : va_P D vwCl (townW K a T ++ (waysW K b ((fewS T (tn x) qu).1) ((fewS T (tn x) qu).2.1) ((fewS T (tn x) qu).2.2) ++ (textW K t cs ln ++ (mainW K a b t c g sn ++ svW K g Sv (oC K o (vp_updL of 0 ((oI (wyO (dst T (tn x) 0 (tn f)))).toInt64)) :: Z))))) H := hP
    have hD : va_D A (townW K a T ++ (waysW K b ((fewS T (tn x) qu).1) ((fewS T (tn x) qu).2.1) ((fewS T (tn x) qu).2.2) ++ (textW K t cs ln ++ (mainW K a b t c g sn ++ svW K g Sv (oC K o (vp_updL of 0 ((oI (wyO (dst T (tn x) 0 (tn f)))).toInt64)) :: Z))))) := hD
    refine lv_goto (tgt := 17) hx hb dL_away_10 (by decide) ?_
    refine lv_iconst (v := nI 0) hx hb dL_away_17 (by decide) ?_
    have ew : (townW K a T ++ (waysW K b ((fewS T (tn x) qu).1) ((fewS T (tn x) qu).2.1) ((fewS T (tn x) qu).2.2) ++ (textW K t cs ln ++ (mainW K a b t c g sn ++ svW K g Sv (oC K o (vp_updL of 0 ((oI (wyO (dst T (tn x) 0 (tn f)))).toInt64)) :: Z))))) = (if awE x f = 0 then townW K a T ++ (waysW K b ((fewS T (tn x) qu).1) ((fewS T (tn x) qu).2.1) ((fewS T (tn x) qu).2.2) ++ (textW K t cs ln ++ (mainW K a b t c g sn ++ svW K g Sv (oC K o (vp_updL of 0 ((oI (wyO (dst T (tn x) 0 (tn f)))).toInt64)) :: Z)))) else townW K a T ++ (waysW K b len qu n ++ (textW K t cs ln ++ (mainW K a b t c g sn ++ svW K g Sv (oC K o of :: Z))))) := (if_pos hE0).symm
    rw [ew] at hP hD
    exact tx_iret hAe hP hD hS hx hb hr hk dL_away_18 ⟨Nat.le_of_ble_eq_true rfl, Nat.le_of_ble_eq_true rfl⟩ rfl (by rw [hE0])
  · intro hE1 ce q9 H locs hP hD hS hq9 hv9 hc9
    rcases (show awE x f = 0 ∨ awE x f = 1 by unfold awE; (repeat' split) <;> simp) with h_0 | h_1
    · exact absurd h_0 hE1
    · rw [h_1] at hc9
      refine vx_catch (name := "java/lang/IndexOutOfBoundsException") (E := "java/lang/IndexOutOfBoundsException") hown [] ⟨0, 10, 13, 13⟩ [] htab (fun _ h => nomatch h) (by decide) (by decide) LK13 (hXw.2.2.2.1.use rfl) hq9 hv9 hc9 ?_
      refine lv_astore (lv' := [(4, .ref q9), (0, .ref (c 0)), (1, .int x), (2, .int f), (3, .ref o)]) hx hb dL_away_13 hl (by decide) rfl (fun ls hl => ?_)
      refine lv_iconst (v := nI 1) hx hb dL_away_15 (by decide) ?_
      have ew : (townW K a T ++ (waysW K b len qu n ++ (textW K t cs ln ++ (mainW K a b t c g sn ++ svW K g Sv (oC K o of :: Z))))) = (if awE x f = 0 then townW K a T ++ (waysW K b ((fewS T (tn x) qu).1) ((fewS T (tn x) qu).2.1) ((fewS T (tn x) qu).2.2) ++ (textW K t cs ln ++ (mainW K a b t c g sn ++ svW K g Sv (oC K o (vp_updL of 0 ((oI (wyO (dst T (tn x) 0 (tn f)))).toInt64)) :: Z)))) else townW K a T ++ (waysW K b len qu n ++ (textW K t cs ln ++ (mainW K a b t c g sn ++ svW K g Sv (oC K o of :: Z))))) := (if_neg hE1).symm
      rw [ew] at hP hD
      exact tx_iret hAe hP hD hS hx hb hr hk dL_away_16 ⟨Nat.le_of_ble_eq_true rfl, Nat.le_of_ble_eq_true rfl⟩ rfl (by rw [h_1])
set_option maxHeartbeats 4000000 in
set_option maxRecDepth 100000 in
theorem c_L_cheapest (l : Launch) (D : va_G) (K : Nat → ClassId) (dp fs : Nat) (hst : l.stackTraces = false) (sz : Nat) (a b t c : Nat → Nat) (g : Nat → Nat → Nat) (T : TW) (len : Nat → Option Nat) (qu : Nat → Nat) (n : Nat) (cs : Nat → Nat) (ln sn : Nat) (Sv : Nat → TW) (x f : Int32) (hI : Inv T) (o : Nat) (of : Nat → Int64) (Z : va_W) : Lx dp fs l yL_cheapest wsL_cheapest ({ frames := 7, cells := 1, slots := 6, locals := 150 } : Room) D K (townW K a T ++ (waysW K b len qu n ++ (textW K t cs ln ++ (mainW K a b t c g sn ++ svW K g Sv (oC K o of :: Z))))) sz [.ref (c 0), .int x, .int f, .ref o] (if awE x f = 0 then townW K a T ++ (waysW K b (cheS T (tn x) len) qu n ++ (textW K t cs ln ++ (mainW K a b t c g sn ++ svW K g Sv (oC K o (vp_updL of 0 ((oI (wyO (dst T (tn x) 1 (tn f)))).toInt64)) :: Z)))) else townW K a T ++ (waysW K b len qu n ++ (textW K t cs ln ++ (mainW K a b t c g sn ++ svW K g Sv (oC K o of :: Z))))) (nI (awE x f)) 1 6 := by
  refine lx_intro (cc := cL_cheapest) (maxL := 5) (ret := (some .int)) (hh := [(0, 10, 13, 13)]) (by decide) rfl (Nat.le_of_ble_eq_true rfl) ?_
  intro pr en st md ar bl mt co A hx hb hml hr hts hown hk hsz hAe hP hE hD hS hA htab hXw hZ hxn ls hl
  have hown : st.vm.findClass RL = some md.cls := hown
  have hl : lv_has ls 5 [(0, .ref (c 0)), (1, .int x), (2, .int f), (3, .ref o)] := hl
  obtain ⟨H, hH⟩ : ∃ z, z = st.heap := ⟨_, rfl⟩
  obtain ⟨locs, hlo⟩ : ∃ z : List Loc, z = [] := ⟨_, rfl⟩
  have hP : va_P D vwCl (townW K a T ++ (waysW K b len qu n ++ (textW K t cs ln ++ (mainW K a b t c g sn ++ svW K g Sv (oC K o of :: Z))))) H := by rw [hH]; exact hP
  have hS : va_S A st.heap H locs := by rw [hH, hlo]; exact hS
  suffices go : W pr l en (headSpec wsL_cheapest ({ frames := 7, cells := 1, slots := 6, locals := 150 } : Room)).room st md ar bl mt co H locs 0 0 (vx_MQ bl (txQ D (townW K a T ++ (waysW K b len qu n ++ (textW K t cs ln ++ (mainW K a b t c g sn ++ svW K g Sv (oC K o of :: Z))))) (if awE x f = 0 then townW K a T ++ (waysW K b (cheS T (tn x) len) qu n ++ (textW K t cs ln ++ (mainW K a b t c g sn ++ svW K g Sv (oC K o (vp_updL of 0 ((oI (wyO (dst T (tn x) 1 (tn f)))).toInt64)) :: Z)))) else townW K a T ++ (waysW K b len qu n ++ (textW K t cs ln ++ (mainW K a b t c g sn ++ svW K g Sv (oC K o of :: Z))))) sz (nI (awE x f)) 0) (txX D (townW K a T ++ (waysW K b len qu n ++ (textW K t cs ln ++ (mainW K a b t c g sn ++ svW K g Sv (oC K o of :: Z))))) sz 0 xnA) ar st 1 6 A) (F0 md 0 ls []) by rw [hH, hlo] at go; exact go
  clear hH hlo
  have LK13 : (Cond.classLink RL 13 "java/lang/IndexOutOfBoundsException").before ar st = true := hts _ (List.mem_of_getElem? (i := 1) rfl)
  refine lv_aload_n hx hb dL_cheapest_0 rfl (lv_at hl 3 rfl) ?_
  refine lv_iconst (v := nI 0) hx hb dL_cheapest_1 (by decide) ?_
  refine lv_aload_n hx hb dL_cheapest_2 rfl (lv_at hl 0 rfl) ?_
  refine lv_iload_n hx hb dL_cheapest_3 rfl (lv_at hl 1 rfl) ?_
  refine lv_iload_n hx hb dL_cheapest_4 rfl (lv_at hl 2 rfl) ?_
  refine tx_V (rest := [.int (nI 0), .ref o]) (ci := 3) (q0 := 17) ⟨hx, hb, hml, hown, hts⟩ hP hE hA hD hS hXw hZ (c_X3_cheapest l D K dp fs hst _ _ _ _ _ _ _ _ _ _ _ _ _ _ _ x f hI) (cwV 2 hts gL_cheapest_X3_cheapest rfl rfl rfl hd_X3_cheapest ⟨Nat.le_of_ble_eq_true rfl, Nat.le_of_ble_eq_true rfl⟩) rfl rfl rfl rfl hl.1 rfl (Nat.le_of_ble_eq_true rfl) dL_cheapest_5 ⟨Nat.le_of_ble_eq_true rfl, Nat.le_of_ble_eq_true rfl⟩ ?_ ?_
  · intro hE0 H locs hP hD hS
    have hP : va_P D vwCl (townW K a T ++ (waysW K b (cheS T (tn x) len) qu n ++ (textW K t cs ln ++ (mainW K a b t c g sn ++ svW K g Sv (oC K o of :: Z))))) H := hP
    have hD : va_D A (townW K a T ++ (waysW K b (cheS T (tn x) len) qu n ++ (textW K t cs ln ++ (mainW K a b t c g sn ++ svW K g Sv (oC K o of :: Z))))) := hD
    refine lv_i2l (v := (oI (wyO (dst T (tn x) 1 (tn f)))).toInt64) hx hb dL_cheapest_8 rfl ?_
    refine nv_last hx hb hE hP hD hS 91 rfl dL_cheapest_9 (fun H locs hP hD hS => ?_)
    have hP : va_P D vwCl (townW K a T ++ (waysW K b (cheS T (tn x) len) qu n ++ (textW K t cs ln ++ (mainW K a b t c g sn ++ svW K g Sv (oC K o (vp_updL of 0 ((oI (wyO (dst T (tn x) 1 (tn f)))).toInt64)) :: Z))))) H := hP
    have hD : va_D A (townW K a T ++ (waysW K b (cheS T (tn x) len) qu n ++ (textW K t cs ln ++ (mainW K a b t c g sn ++ svW K g Sv (oC K o (vp_updL of 0 ((oI (wyO (dst T (tn x) 1 (tn f)))).toInt64)) :: Z))))) := hD
    refine lv_goto (tgt := 17) hx hb dL_cheapest_10 (by decide) ?_
    refine lv_iconst (v := nI 0) hx hb dL_cheapest_17 (by decide) ?_
    have ew : (townW K a T ++ (waysW K b (cheS T (tn x) len) qu n ++ (textW K t cs ln ++ (mainW K a b t c g sn ++ svW K g Sv (oC K o (vp_updL of 0 ((oI (wyO (dst T (tn x) 1 (tn f)))).toInt64)) :: Z))))) = (if awE x f = 0 then townW K a T ++ (waysW K b (cheS T (tn x) len) qu n ++ (textW K t cs ln ++ (mainW K a b t c g sn ++ svW K g Sv (oC K o (vp_updL of 0 ((oI (wyO (dst T (tn x) 1 (tn f)))).toInt64)) :: Z)))) else townW K a T ++ (waysW K b len qu n ++ (textW K t cs ln ++ (mainW K a b t c g sn ++ svW K g Sv (oC K o of :: Z))))) := (if_pos hE0).symm
    rw [ew] at hP hD
    exact tx_iret hAe hP hD hS hx hb hr hk dL_cheapest_18 ⟨Nat.le_of_ble_eq_true rfl, Nat.le_of_ble_eq_true rfl⟩ rfl (by rw [hE0])
  · intro hE1 ce q9 H locs hP hD hS hq9 hv9 hc9
    rcases (show awE x f = 0 ∨ awE x f = 1 by unfold awE; (repeat' split) <;> simp) with h_0 | h_1
    · exact absurd h_0 hE1
    · rw [h_1] at hc9
      refine vx_catch (name := "java/lang/IndexOutOfBoundsException") (E := "java/lang/IndexOutOfBoundsException") hown [] ⟨0, 10, 13, 13⟩ [] htab (fun _ h => nomatch h) (by decide) (by decide) LK13 (hXw.2.2.2.1.use rfl) hq9 hv9 hc9 ?_
      refine lv_astore (lv' := [(4, .ref q9), (0, .ref (c 0)), (1, .int x), (2, .int f), (3, .ref o)]) hx hb dL_cheapest_13 hl (by decide) rfl (fun ls hl => ?_)
      refine lv_iconst (v := nI 1) hx hb dL_cheapest_15 (by decide) ?_
      have ew : (townW K a T ++ (waysW K b len qu n ++ (textW K t cs ln ++ (mainW K a b t c g sn ++ svW K g Sv (oC K o of :: Z))))) = (if awE x f = 0 then townW K a T ++ (waysW K b (cheS T (tn x) len) qu n ++ (textW K t cs ln ++ (mainW K a b t c g sn ++ svW K g Sv (oC K o (vp_updL of 0 ((oI (wyO (dst T (tn x) 1 (tn f)))).toInt64)) :: Z)))) else townW K a T ++ (waysW K b len qu n ++ (textW K t cs ln ++ (mainW K a b t c g sn ++ svW K g Sv (oC K o of :: Z))))) := (if_neg hE1).symm
      rw [ew] at hP hD
      exact tx_iret hAe hP hD hS hx hb hr hk dL_cheapest_16 ⟨Nat.le_of_ble_eq_true rfl, Nat.le_of_ble_eq_true rfl⟩ rfl (by rw [h_1])
set_option maxHeartbeats 4000000 in
set_option maxRecDepth 100000 in
theorem c_L_best (l : Launch) (D : va_G) (K : Nat → ClassId) (dp fs : Nat) (hst : l.stackTraces = false) (sz : Nat) (a b t c : Nat → Nat) (g : Nat → Nat → Nat) (T : TW) (len : Nat → Option Nat) (qu : Nat → Nat) (n : Nat) (cs : Nat → Nat) (ln sn : Nat) (Sv : Nat → TW) (x g9 : Int32) (hI : Inv T) (hK : HK T) (o : Nat) (of : Nat → Int64) (Z : va_W) : Lx dp fs l yL_best wsL_best ({ frames := 7, cells := 1, slots := 6, locals := 162 } : Room) D K (townW K a T ++ (waysW K b len qu n ++ (textW K t cs ln ++ (mainW K a b t c g sn ++ svW K g Sv (oC K o of :: Z))))) sz [.ref (c 0), .int x, .int g9, .ref o] (if q2 0 3 1 6 x g9 = 0 then townW K a T ++ (waysW K b ((mfS T (tn x) qu).1) ((mfS T (tn x) qu).2.1) ((mfS T (tn x) qu).2.2) ++ (textW K t cs ln ++ (mainW K a b t c g sn ++ svW K g Sv (oC K o (vp_updL of 0 ((oI (bdT T (tn x) (tn g9))).toInt64)) :: Z)))) else townW K a T ++ (waysW K b len qu n ++ (textW K t cs ln ++ (mainW K a b t c g sn ++ svW K g Sv (oC K o of :: Z))))) (nI (q2 0 3 1 6 x g9)) 1 6 := by
  refine lx_intro (cc := cL_best) (maxL := 5) (ret := (some .int)) (hh := [(0, 10, 13, 13), (0, 10, 17, 29)]) (by decide) rfl (Nat.le_of_ble_eq_true rfl) ?_
  intro pr en st md ar bl mt co A hx hb hml hr hts hown hk hsz hAe hP hE hD hS hA htab hXw hZ hxn ls hl
  have hown : st.vm.findClass RL = some md.cls := hown
  have hl : lv_has ls 5 [(0, .ref (c 0)), (1, .int x), (2, .int g9), (3, .ref o)] := hl
  obtain ⟨H, hH⟩ : ∃ z, z = st.heap := ⟨_, rfl⟩
  obtain ⟨locs, hlo⟩ : ∃ z : List Loc, z = [] := ⟨_, rfl⟩
  have hP : va_P D vwCl (townW K a T ++ (waysW K b len qu n ++ (textW K t cs ln ++ (mainW K a b t c g sn ++ svW K g Sv (oC K o of :: Z))))) H := by rw [hH]; exact hP
  have hS : va_S A st.heap H locs := by rw [hH, hlo]; exact hS
  suffices go : W pr l en (headSpec wsL_best ({ frames := 7, cells := 1, slots := 6, locals := 162 } : Room)).room st md ar bl mt co H locs 0 0 (vx_MQ bl (txQ D (townW K a T ++ (waysW K b len qu n ++ (textW K t cs ln ++ (mainW K a b t c g sn ++ svW K g Sv (oC K o of :: Z))))) (if q2 0 3 1 6 x g9 = 0 then townW K a T ++ (waysW K b ((mfS T (tn x) qu).1) ((mfS T (tn x) qu).2.1) ((mfS T (tn x) qu).2.2) ++ (textW K t cs ln ++ (mainW K a b t c g sn ++ svW K g Sv (oC K o (vp_updL of 0 ((oI (bdT T (tn x) (tn g9))).toInt64)) :: Z)))) else townW K a T ++ (waysW K b len qu n ++ (textW K t cs ln ++ (mainW K a b t c g sn ++ svW K g Sv (oC K o of :: Z))))) sz (nI (q2 0 3 1 6 x g9)) 0) (txX D (townW K a T ++ (waysW K b len qu n ++ (textW K t cs ln ++ (mainW K a b t c g sn ++ svW K g Sv (oC K o of :: Z))))) sz 0 xnA) ar st 1 6 A) (F0 md 0 ls []) by rw [hH, hlo] at go; exact go
  clear hH hlo
  have LK13 : (Cond.classLink RL 13 "java/lang/IndexOutOfBoundsException").before ar st = true := hts _ (List.mem_of_getElem? (i := 1) rfl)
  have LK29 : (Cond.classLink RL 29 "java/lang/IllegalArgumentException").before ar st = true := hts _ (List.mem_of_getElem? (i := 2) rfl)
  refine lv_aload_n hx hb dL_best_0 rfl (lv_at hl 3 rfl) ?_
  refine lv_iconst (v := nI 0) hx hb dL_best_1 (by decide) ?_
  refine lv_aload_n hx hb dL_best_2 rfl (lv_at hl 0 rfl) ?_
  refine lv_iload_n hx hb dL_best_3 rfl (lv_at hl 1 rfl) ?_
  refine lv_iload_n hx hb dL_best_4 rfl (lv_at hl 2 rfl) ?_
  refine tx_V (rest := [.int (nI 0), .ref o]) (ci := 3) (q0 := 17) ⟨hx, hb, hml, hown, hts⟩ hP hE hA hD hS hXw hZ (c_X3_best l D K dp fs hst _ _ _ _ _ _ _ _ _ _ _ _ _ _ _ x g9 hI hK) (cwV 2 hts gL_best_X3_best rfl rfl rfl hd_X3_best ⟨Nat.le_of_ble_eq_true rfl, Nat.le_of_ble_eq_true rfl⟩) rfl rfl rfl rfl hl.1 rfl (Nat.le_of_ble_eq_true rfl) dL_best_5 ⟨Nat.le_of_ble_eq_true rfl, Nat.le_of_ble_eq_true rfl⟩ ?_ ?_
  · intro hE0 H locs hP hD hS
    have hP : va_P D vwCl (townW K a T ++ (waysW K b ((mfS T (tn x) qu).1) ((mfS T (tn x) qu).2.1) ((mfS T (tn x) qu).2.2) ++ (textW K t cs ln ++ (mainW K a b t c g sn ++ svW K g Sv (oC K o of :: Z))))) H := hP
    have hD : va_D A (townW K a T ++ (waysW K b ((mfS T (tn x) qu).1) ((mfS T (tn x) qu).2.1) ((mfS T (tn x) qu).2.2) ++ (textW K t cs ln ++ (mainW K a b t c g sn ++ svW K g Sv (oC K o of :: Z))))) := hD
    refine lv_i2l (v := (oI (bdT T (tn x) (tn g9))).toInt64) hx hb dL_best_8 rfl ?_
    refine nv_last hx hb hE hP hD hS 91 rfl dL_best_9 (fun H locs hP hD hS => ?_)
    have hP : va_P D vwCl (townW K a T ++ (waysW K b ((mfS T (tn x) qu).1) ((mfS T (tn x) qu).2.1) ((mfS T (tn x) qu).2.2) ++ (textW K t cs ln ++ (mainW K a b t c g sn ++ svW K g Sv (oC K o (vp_updL of 0 ((oI (bdT T (tn x) (tn g9))).toInt64)) :: Z))))) H := hP
    have hD : va_D A (townW K a T ++ (waysW K b ((mfS T (tn x) qu).1) ((mfS T (tn x) qu).2.1) ((mfS T (tn x) qu).2.2) ++ (textW K t cs ln ++ (mainW K a b t c g sn ++ svW K g Sv (oC K o (vp_updL of 0 ((oI (bdT T (tn x) (tn g9))).toInt64)) :: Z))))) := hD
    refine lv_goto (tgt := 21) hx hb dL_best_10 (by decide) ?_
    refine lv_iconst (v := nI 0) hx hb dL_best_21 (by decide) ?_
    have ew : (townW K a T ++ (waysW K b ((mfS T (tn x) qu).1) ((mfS T (tn x) qu).2.1) ((mfS T (tn x) qu).2.2) ++ (textW K t cs ln ++ (mainW K a b t c g sn ++ svW K g Sv (oC K o (vp_updL of 0 ((oI (bdT T (tn x) (tn g9))).toInt64)) :: Z))))) = (if q2 0 3 1 6 x g9 = 0 then townW K a T ++ (waysW K b ((mfS T (tn x) qu).1) ((mfS T (tn x) qu).2.1) ((mfS T (tn x) qu).2.2) ++ (textW K t cs ln ++ (mainW K a b t c g sn ++ svW K g Sv (oC K o (vp_updL of 0 ((oI (bdT T (tn x) (tn g9))).toInt64)) :: Z)))) else townW K a T ++ (waysW K b len qu n ++ (textW K t cs ln ++ (mainW K a b t c g sn ++ svW K g Sv (oC K o of :: Z))))) := (if_pos hE0).symm
    rw [ew] at hP hD
    exact tx_iret hAe hP hD hS hx hb hr hk dL_best_22 ⟨Nat.le_of_ble_eq_true rfl, Nat.le_of_ble_eq_true rfl⟩ rfl (by rw [hE0])
  · intro hE1 ce q9 H locs hP hD hS hq9 hv9 hc9
    rcases (show q2 0 3 1 6 x g9 = 0 ∨ q2 0 3 1 6 x g9 = 1 ∨ q2 0 3 1 6 x g9 = 2 by unfold q2; (repeat' split) <;> simp) with h_0 | h_1 | h_2
    · exact absurd h_0 hE1
    · rw [h_1] at hc9
      refine vx_catch (name := "java/lang/IndexOutOfBoundsException") (E := "java/lang/IndexOutOfBoundsException") hown [] ⟨0, 10, 13, 13⟩ [⟨0, 10, 17, 29⟩] htab (fun _ h => nomatch h) (by decide) (by decide) LK13 (hXw.2.2.2.1.use rfl) hq9 hv9 hc9 ?_
      refine lv_astore (lv' := [(4, .ref q9), (0, .ref (c 0)), (1, .int x), (2, .int g9), (3, .ref o)]) hx hb dL_best_13 hl (by decide) rfl (fun ls hl => ?_)
      refine lv_iconst (v := nI 1) hx hb dL_best_15 (by decide) ?_
      have ew : (townW K a T ++ (waysW K b len qu n ++ (textW K t cs ln ++ (mainW K a b t c g sn ++ svW K g Sv (oC K o of :: Z))))) = (if q2 0 3 1 6 x g9 = 0 then townW K a T ++ (waysW K b ((mfS T (tn x) qu).1) ((mfS T (tn x) qu).2.1) ((mfS T (tn x) qu).2.2) ++ (textW K t cs ln ++ (mainW K a b t c g sn ++ svW K g Sv (oC K o (vp_updL of 0 ((oI (bdT T (tn x) (tn g9))).toInt64)) :: Z)))) else townW K a T ++ (waysW K b len qu n ++ (textW K t cs ln ++ (mainW K a b t c g sn ++ svW K g Sv (oC K o of :: Z))))) := (if_neg hE1).symm
      rw [ew] at hP hD
      exact tx_iret hAe hP hD hS hx hb hr hk dL_best_16 ⟨Nat.le_of_ble_eq_true rfl, Nat.le_of_ble_eq_true rfl⟩ rfl (by rw [h_1])
    · rw [h_2] at hc9
      refine vx_catch (name := "java/lang/IllegalArgumentException") (E := "java/lang/IllegalArgumentException") hown [⟨0, 10, 13, 13⟩] ⟨0, 10, 17, 29⟩ [] htab (List.forall_mem_cons.mpr ⟨Or.inr ⟨by decide, "java/lang/IndexOutOfBoundsException", LK13, hxn.2.2.1⟩, (fun _ h => nomatch h)⟩) (by decide) (by decide) LK29 (hXw.2.2.2.2.1.use rfl) hq9 hv9 hc9 ?_
      refine lv_astore (lv' := [(4, .ref q9), (0, .ref (c 0)), (1, .int x), (2, .int g9), (3, .ref o)]) hx hb dL_best_17 hl (by decide) rfl (fun ls hl => ?_)
      refine lv_iconst (v := nI 2) hx hb dL_best_19 (by decide) ?_
      have ew : (townW K a T ++ (waysW K b len qu n ++ (textW K t cs ln ++ (mainW K a b t c g sn ++ svW K g Sv (oC K o of :: Z))))) = (if q2 0 3 1 6 x g9 = 0 then townW K a T ++ (waysW K b ((mfS T (tn x) qu).1) ((mfS T (tn x) qu).2.1) ((mfS T (tn x) qu).2.2) ++ (textW K t cs ln ++ (mainW K a b t c g sn ++ svW K g Sv (oC K o (vp_updL of 0 ((oI (bdT T (tn x) (tn g9))).toInt64)) :: Z)))) else townW K a T ++ (waysW K b len qu n ++ (textW K t cs ln ++ (mainW K a b t c g sn ++ svW K g Sv (oC K o of :: Z))))) := (if_neg hE1).symm
      rw [ew] at hP hD
      exact tx_iret hAe hP hD hS hx hb hr hk dL_best_20 ⟨Nat.le_of_ble_eq_true rfl, Nat.le_of_ble_eq_true rfl⟩ rfl (by rw [h_2])
