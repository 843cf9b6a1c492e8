set_option maxHeartbeats 4000000 in
set_option maxRecDepth 100000 in
theorem c_X3_play (l : Launch) (D : va_G) (K : Nat → ClassId) (dp fs : Nat) (hst : l.stackTraces = false) (sz : Nat) (a b t c : Nat → Nat) (g : Nat → Nat → Nat) (T : TW) (X : va_W) (len : Nat → Option Nat) (qu : Nat → Nat) (n : Nat) (cs : Nat → Nat) (ln sn : Nat) (Sv : Nat → TW) (hI : Inv T) (hsn : sn ≤ 6) (hCB : CB cs ln) : Tx dp fs l yX3_play wsX3_play ({ frames := 6, cells := 1, slots := 6, locals := 129 } : Room) D K (townW K a T ++ (waysW K b len qu n ++ (textW K t cs ln ++ (mainW K a b t c g sn ++ svW K g Sv X)))) sz [.ref (c 0)] ((if cmpS cs ln = true then 0 else 1)) xnC (townW K a ((plyS cs ln T).1) ++ (waysW K b len qu n ++ (textW K t cs 0 ++ (mainW K a b t c (svG g sn) (svN sn) ++ svW K (svG g sn) (svV Sv sn T) X)))) (nI (plyS cs ln T).2) 1 6 := by
  refine tx_intro (cc := cX3_play) (maxL := 2) (ret := (some .int)) (by decide) rfl (Nat.le_of_ble_eq_true rfl) ?_
  intro pr en st md ar bl mt co A hx hb hml hr hts hown hk hsz hAe hP hE hD hS hA hxt hXw hZ ls hl
  have hown : st.vm.findClass RX3 = some md.cls := hown
  have hl : lv_has ls 2 [(0, .ref (c 0))] := hl
  obtain ⟨H, hH⟩ : ∃ z, z = st.heap := ⟨_, rfl⟩
  obtain ⟨locs, hlo⟩ : ∃ z : List Loc, z = [] := ⟨_, rfl⟩
  have hP : va_P D vwCl (townW K a T ++ (waysW K b len qu n ++ (textW K t cs ln ++ (mainW K a b t c g sn ++ svW K g Sv X)))) H := by rw [hH]; exact hP
  have hS : va_S A st.heap H locs := by rw [hH, hlo]; exact hS
  suffices go : W pr l en (headSpec wsX3_play ({ frames := 6, cells := 1, slots := 6, locals := 129 } : Room)).room st md ar bl mt co H locs 0 0 (vx_MQ bl (txQ D (townW K a T ++ (waysW K b len qu n ++ (textW K t cs ln ++ (mainW K a b t c g sn ++ svW K g Sv X)))) (townW K a ((plyS cs ln T).1) ++ (waysW K b len qu n ++ (textW K t cs 0 ++ (mainW K a b t c (svG g sn) (svN sn) ++ svW K (svG g sn) (svV Sv sn T) X)))) sz (nI (plyS cs ln T).2) ((if cmpS cs ln = true then 0 else 1))) (txX D (townW K a T ++ (waysW K b len qu n ++ (textW K t cs ln ++ (mainW K a b t c g sn ++ svW K g Sv X)))) sz ((if cmpS cs ln = true then 0 else 1)) xnC) ar st 1 6 A) (F0 md 0 ls []) by rw [hH, hlo] at go; exact go
  clear hH hlo
  have F23 : (Cond.fieldLink RX3 23 "TramTolls" "text" "LTramTolls$Text;").before ar st = true := hts _ (List.mem_of_getElem? (i := 3) rfl)
  have inX3 : ∀ w ∈ u_ws RX3 TX3 5, w ∈ wsX3_play := fun w h => List.mem_cons_of_mem _ (List.mem_append_left _ (List.mem_append_left _ (List.mem_append_left _ (List.mem_append_right _ h))))
  have F12 : (Cond.fieldLink RX3 12 "TramTolls" "town" "LTramTolls$Town;").before ar st = true := hts _ (List.mem_of_getElem? (i := 4) rfl)
  have F165 : (Cond.fieldLink RX3 165 "TramTolls$Text" "length" "I").before ar st = true := hts _ (List.mem_of_getElem? (i := 5) rfl)
  have inX0 : ∀ w ∈ u_ws RX0 TX0 2, w ∈ wsX3_play := fun w h => List.mem_cons_of_mem _ (List.mem_append_left _ (List.mem_append_left _ (List.mem_append_right _ h)))
  have K111 : (Cond.classLink RX3 111 "java/lang/IllegalArgumentException").before ar st = true := hts _ (List.mem_of_getElem? (i := 1) rfl)
  have KI111 : (Cond.initialized "java/lang/IllegalArgumentException").before ar st = true := hts _ (List.mem_of_getElem? (i := 2) rfl)
  refine lv_aload_n hx hb dX3_play_0 rfl (lv_at hl 0 rfl) ?_
  refine va_get (D := D) (ci := 3) (v := .ref (t 0)) (C := RX3) (T := TX3) (N := 5) hx hb hts inX3 hown hE.1 hP 17 rfl rfl 3 (by decide) F23 (fun _ h9 => h9) rfl dX3_play_1 ?_
  refine rd_V (rest := []) (ci := 0) (q0 := 15) ⟨hx, hb, hml, hown, hts⟩ hP hE (c_X0_isComplete l D K _ _ _ _ _ _ _ _ _ _ hCB) (cwV 0 hts gX3_play_X0_isComplete rfl rfl rfl hd_X0_isComplete ⟨Nat.le_of_ble_eq_true rfl, Nat.le_of_ble_eq_true rfl⟩) rfl rfl rfl rfl hl.1 rfl (Nat.le_of_ble_eq_true rfl) dX3_play_4 ⟨Nat.le_of_ble_eq_true rfl, Nat.le_of_ble_eq_true rfl⟩ ?_
  refine bv_if_ne (x := cmpS cs ln) (tgt := 20) hx hb dX3_play_7 (by decide) (fun c_1 => ?_) (fun c_1 => ?_)
  · have hC4 : scS cs ln = some 4 := of_decide_eq_true c_1
    refine lv_aload_n hx hb dX3_play_20 rfl (lv_at hl 0 rfl) ?_
    refine wr_V (rest := []) (ci := 3) (q0 := 17) ⟨hx, hb, hml, hown, hts⟩ hP hE hA hD hS (c_X3_saveState l D K _ _ _ _ _ _ _ _ _ _ _ _ _ sn _ hsn) (cwV 0 hts gX3_play_X3_saveState rfl rfl rfl hd_X3_saveState ⟨Nat.le_of_ble_eq_true rfl, Nat.le_of_ble_eq_true rfl⟩) rfl rfl rfl rfl hl.1 rfl (Nat.le_of_ble_eq_true rfl) dX3_play_21 ⟨Nat.le_of_ble_eq_true rfl, Nat.le_of_ble_eq_true rfl⟩ (fun H locs hP hD hS => ?_)
    have hP : va_P D vwCl (townW K a T ++ (waysW K b len qu n ++ (textW K t cs ln ++ (mainW K a b t c (svG g sn) (svN sn) ++ svW K (svG g sn) (svV Sv sn T) X)))) H := hP
    have hD : va_D A (townW K a T ++ (waysW K b len qu n ++ (textW K t cs ln ++ (mainW K a b t c (svG g sn) (svN sn) ++ svW K (svG g sn) (svV Sv sn T) X)))) := hD
    refine lv_aload_n hx hb dX3_play_24 rfl (lv_at hl 0 rfl) ?_
    refine va_get (D := D) (ci := 3) (v := .ref (t 0)) (C := RX3) (T := TX3) (N := 5) hx hb hts inX3 hown hE.1 hP 17 rfl rfl 3 (by decide) F23 (fun _ h9 => h9) rfl dX3_play_25 ?_
    refine lv_aload_n hx hb dX3_play_28 rfl (lv_at hl 0 rfl) ?_
    refine va_get (D := D) (ci := 3) (v := .ref (a 0)) (C := RX3) (T := TX3) (N := 5) hx hb hts inX3 hown hE.1 hP 17 rfl rfl 0 (by decide) F12 (fun _ h9 => h9) rfl dX3_play_29 ?_
    refine wr_V (rest := []) (ci := 0) (q0 := 15) ⟨hx, hb, hml, hown, hts⟩ hP hE hA hD hS (c_X0_layPieces l D K _ _ _ _ _ _ _ _ _ _ _ hI hCB hC4) (cwV 1 hts gX3_play_X0_layPieces rfl rfl rfl hd_X0_layPieces ⟨Nat.le_of_ble_eq_true rfl, Nat.le_of_ble_eq_true rfl⟩) rfl rfl rfl rfl hl.1 rfl (Nat.le_of_ble_eq_true rfl) dX3_play_32 ⟨Nat.le_of_ble_eq_true rfl, Nat.le_of_ble_eq_true rfl⟩ (fun H locs hP hD hS => ?_)
    have hP : va_P D vwCl (townW K a ((plyS cs ln T).1) ++ (waysW K b len qu n ++ (textW K t cs ln ++ (mainW K a b t c (svG g sn) (svN sn) ++ svW K (svG g sn) (svV Sv sn T) X)))) H := hP
    have hD : va_D A (townW K a ((plyS cs ln T).1) ++ (waysW K b len qu n ++ (textW K t cs ln ++ (mainW K a b t c (svG g sn) (svN sn) ++ svW K (svG g sn) (svV Sv sn T) X)))) := hD
    refine lv_istore_n (lv' := [(1, .int (nI ((plyS cs ln T).2))), (0, .ref (c 0))]) hx hb dX3_play_35 rfl hl (by decide) rfl (fun ls hl => ?_)
    refine lv_aload_n hx hb dX3_play_36 rfl (lv_at hl 1 rfl) ?_
    refine va_get (D := D) (ci := 3) (v := .ref (t 0)) (C := RX3) (T := TX3) (N := 5) hx hb hts inX3 hown hE.1 hP 17 rfl rfl 3 (by decide) F23 (fun _ h9 => h9) rfl dX3_play_37 ?_
    refine lv_iconst (v := nI 0) hx hb dX3_play_40 (by decide) ?_
    refine va_put (D := D) (ci := 0) (v := .int (nI 0)) (ty := .int) (C := RX0) (T := TX0) (N := 2) hx hb hts inX0 tyX0 tyX0_ok nmX0 hown hE.1 hP hD hS 15 rfl rfl 1 (by decide) F165 (fun _ h9 => h9) rfl (by decide +kernel) rfl rfl (Nat.le_of_ble_eq_true rfl) dX3_play_41 (fun H locs hP hD hS => ?_)
    have hP : va_P D vwCl (townW K a ((plyS cs ln T).1) ++ (waysW K b len qu n ++ (textW K t cs 0 ++ (mainW K a b t c (svG g sn) (svN sn) ++ svW K (svG g sn) (svV Sv sn T) X)))) H := hP
    have hD : va_D A (townW K a ((plyS cs ln T).1) ++ (waysW K b len qu n ++ (textW K t cs 0 ++ (mainW K a b t c (svG g sn) (svN sn) ++ svW K (svG g sn) (svV Sv sn T) X)))) := hD
    refine lv_iload_n hx hb dX3_play_44 rfl (lv_at hl 0 rfl) ?_
    refine tx_iret hAe hP hD hS hx hb hr hk dX3_play_45 ⟨Nat.le_of_ble_eq_true rfl, Nat.le_of_ble_eq_true rfl⟩ ?_ (by first | rfl | (simp [setT_eq, c_1]; done) | (simp [setT_eq, c_1] <;> rfl))
    first | (simp [if_true, c_1]; done) | (subst_vars; simp [if_true, c_1]; done) | simp_all [if_true]
  · refine tx_thr (n := 1) (cls := xIA) (is := 182) hx hb hst hown (by decide +kernel) K111 KI111 (fun w h => hts w (List.mem_cons_of_mem _ (List.mem_append_right _ h))) xh_IA xg_IA hXw.2.2.2.2.1 hXw (List.mem_of_getElem? (i := 17) rfl) hZ hAe hP hD hS (hl.1.trans hml.symm) hxt ⟨Nat.le_of_ble_eq_true rfl, Nat.le_of_ble_eq_true rfl⟩ ⟨Nat.le_of_ble_eq_true rfl, Nat.le_of_ble_eq_true rfl⟩ hk ⟨Nat.le_of_ble_eq_true rfl, Nat.le_of_ble_eq_true rfl⟩ (by decide) rfl ?_ dX3_play_10 dX3_play_13 dX3_play_14 dX3_play_16 dX3_play_19
    first | (simp [if_true, c_1]; done) | (subst_vars; simp [if_true, c_1]; done) | simp_all [if_true]
set_option maxHeartbeats 4000000 in
set_option maxRecDepth 100000 in
theorem c_X3_undo (l : Launch) (D : va_G) (K : Nat → ClassId) (dp fs : Nat) (hst : l.stackTraces = false) (sz : Nat) (a b t c : Nat → Nat) (g : Nat → Nat → Nat) (T : TW) (X : va_W) (len : Nat → Option Nat) (qu : Nat → Nat) (n : Nat) (cs : Nat → Nat) (ln sn : Nat) (Sv : Nat → TW) (hsn : sn ≤ 6) : Tx dp fs l yX3_undo wsX3_undo ({ frames := 6, cells := 1, slots := 6, locals := 82 } : Room) D K (townW K a T ++ (waysW K b len qu n ++ (textW K t cs ln ++ (mainW K a b t c g sn ++ svW K g Sv X)))) sz [.ref (c 0)] ((if sn = 0 then 1 else 0)) xnD (townW K a (Sv (sn - 1)) ++ (waysW K b len qu n ++ (textW K t cs ln ++ (mainW K a b t c g (sn - 1) ++ svW K g Sv X)))) (nI (sn - 1)) 1 6 := by
  refine tx_intro (cc := cX3_undo) (maxL := 2) (ret := (some .int)) (by decide) rfl (Nat.le_of_ble_eq_true rfl) ?_
  intro pr en st md ar bl mt co A hx hb hml hr hts hown hk hsz hAe hP hE hD hS hA hxt hXw hZ ls hl
  have hown : st.vm.findClass RX3 = some md.cls := hown
  have hl : lv_has ls 2 [(0, .ref (c 0))] := hl
  obtain ⟨H, hH⟩ : ∃ z, z = st.heap := ⟨_, rfl⟩
  obtain ⟨locs, hlo⟩ : ∃ z : List Loc, z = [] := ⟨_, rfl⟩
  have hP : va_P D vwCl (townW K a T ++ (waysW K b len qu n ++ (textW K t cs ln ++ (mainW K a b t c g sn ++ svW K g Sv X)))) H := by rw [hH]; exact hP
  have hS : va_S A st.heap H locs := by rw [hH, hlo]; exact hS
  suffices go : W pr l en (headSpec wsX3_undo ({ frames := 6, cells := 1, slots := 6, locals := 82 } : Room)).room st md ar bl mt co H locs 0 0 (vx_MQ bl (txQ D (townW K a T ++ (waysW K b len qu n ++ (textW K t cs ln ++ (mainW K a b t c g sn ++ svW K g Sv X)))) (townW K a (Sv (sn - 1)) ++ (waysW K b len qu n ++ (textW K t cs ln ++ (mainW K a b t c g (sn - 1) ++ svW K g Sv X)))) sz (nI (sn - 1)) ((if sn = 0 then 1 else 0))) (txX D (townW K a T ++ (waysW K b len qu n ++ (textW K t cs ln ++ (mainW K a b t c g sn ++ svW K g Sv X)))) sz ((if sn = 0 then 1 else 0)) xnD) ar st 1 6 A) (F0 md 0 ls []) by rw [hH, hlo] at go; exact go
  clear hH hlo
  have F188 : (Cond.fieldLink RX3 188 "TramTolls" "savedCount" "I").before ar st = true := hts _ (List.mem_of_getElem? (i := 3) rfl)
  have inX3 : ∀ w ∈ u_ws RX3 TX3 5, w ∈ wsX3_undo := fun w h => List.mem_cons_of_mem _ (List.mem_append_left _ (List.mem_append_left _ (List.mem_append_right _ h)))
  have K52 : (Cond.classLink RX3 52 "java/lang/IllegalStateException").before ar st = true := hts _ (List.mem_of_getElem? (i := 1) rfl)
  have KI52 : (Cond.initialized "java/lang/IllegalStateException").before ar st = true := hts _ (List.mem_of_getElem? (i := 2) rfl)
  have F16 : (Cond.fieldLink RX3 16 "TramTolls" "saved" "[LTramTolls$Town;").before ar st = true := hts _ (List.mem_of_getElem? (i := 4) rfl)
  have F12 : (Cond.fieldLink RX3 12 "TramTolls" "town" "LTramTolls$Town;").before ar st = true := hts _ (List.mem_of_getElem? (i := 5) rfl)
  rcases (show sn = 0 ∨ sn = 1 ∨ sn = 2 ∨ sn = 3 ∨ sn = 4 ∨ sn = 5 ∨ sn = 6 by omega) with rfl | rfl | rfl | rfl | rfl | rfl | rfl
  · refine lv_aload_n hx hb dX3_undo_0 rfl (lv_at hl 0 rfl) ?_
    refine va_get (D := D) (ci := 3) (v := .int (nI 0)) (C := RX3) (T := TX3) (N := 5) hx hb hts inX3 hown hE.1 hP 17 rfl rfl 2 (by decide) F188 (fun _ h9 => h9) rfl dX3_undo_1 ?_
    refine lv_iconst (v := nI 1) hx hb dX3_undo_4 (by decide) ?_
    refine nv_icmp_lt (x := 0) (y := 1) (tgt := 17) hx hb dX3_undo_5 (by decide) (by decide) (by decide) (fun c_1 => ?_) (fun c_1 => ?_)
    · have n_c_1 := Nat.not_le.mpr c_1
      refine tx_thr (n := 1) (cls := xIS) (is := 191) hx hb hst hown (by decide +kernel) K52 KI52 (fun w h => hts w (List.mem_cons_of_mem _ (List.mem_append_right _ h))) xh_IS xg_IS hXw.2.2.2.2.2.1 hXw (List.mem_of_getElem? (i := 18) rfl) hZ hAe hP hD hS (hl.1.trans hml.symm) hxt ⟨Nat.le_of_ble_eq_true rfl, Nat.le_of_ble_eq_true rfl⟩ ⟨Nat.le_of_ble_eq_true rfl, Nat.le_of_ble_eq_true rfl⟩ hk ⟨Nat.le_of_ble_eq_true rfl, Nat.le_of_ble_eq_true rfl⟩ (by decide) rfl ?_ dX3_undo_17 dX3_undo_20 dX3_undo_21 dX3_undo_23 dX3_undo_26
      first | (simp [if_true, c_1, n_c_1]; done) | (subst_vars; simp [if_true, c_1, n_c_1]; done) | simp_all [if_true]
    exact absurd c_1 (by decide)
  · refine lv_aload_n hx hb dX3_undo_0 rfl (lv_at hl 0 rfl) ?_
    refine va_get (D := D) (ci := 3) (v := .int (nI 1)) (C := RX3) (T := TX3) (N := 5) hx hb hts inX3 hown hE.1 hP 17 rfl rfl 2 (by decide) F188 (fun _ h9 => h9) rfl dX3_undo_1 ?_
    refine lv_iconst (v := nI 1) hx hb dX3_undo_4 (by decide) ?_
    refine nv_icmp_lt (x := 1) (y := 1) (tgt := 17) hx hb dX3_undo_5 (by decide) (by decide) (by decide) (fun c_2 => ?_) (fun c_2 => ?_)
    · exact absurd c_2 (by decide)
    have n_c_2 := Nat.not_lt.mpr c_2
    refine lv_aload_n hx hb dX3_undo_8 rfl (lv_at hl 0 rfl) ?_
    refine va_get (D := D) (ci := 3) (v := .int (nI 1)) (C := RX3) (T := TX3) (N := 5) hx hb hts inX3 hown hE.1 hP 17 rfl rfl 2 (by decide) F188 (fun _ h9 => h9) rfl dX3_undo_9 ?_
    refine lv_bipush (v := nI 6) hx hb dX3_undo_12 (by decide) ?_
    refine nv_icmp_le (x := 1) (y := 6) (tgt := 27) hx hb dX3_undo_14 (by decide) (by decide) (by decide) (fun c_3 => ?_) (fun c_3 => ?_)
    · have n_c_3 := Nat.not_lt.mpr c_3
      refine lv_aload_n hx hb dX3_undo_27 rfl (lv_at hl 0 rfl) ?_
      refine va_get (D := D) (ci := 3) (v := .ref (c 1)) (C := RX3) (T := TX3) (N := 5) hx hb hts inX3 hown hE.1 hP 17 rfl rfl 1 (by decide) F16 (fun _ h9 => h9) rfl dX3_undo_28 ?_
      refine lv_aload_n hx hb dX3_undo_31 rfl (lv_at hl 0 rfl) ?_
      refine va_get (D := D) (ci := 3) (v := .int (nI 1)) (C := RX3) (T := TX3) (N := 5) hx hb hts inX3 hown hE.1 hP 17 rfl rfl 2 (by decide) F188 (fun _ h9 => h9) rfl dX3_undo_32 ?_
      refine lv_iconst (v := nI 1) hx hb dX3_undo_35 (by decide) ?_
      refine nv_isub (x := 1) (y := 1) hx hb dX3_undo_36 (by omega) ?_
      refine nv_aald hx hb hE hP 18 0 (fun j => g j 0) rfl (by decide) (by decide) dX3_undo_37 ?_
      refine lv_astore_n (lv' := [(1, .ref (g 0 0)), (0, .ref (c 0))]) hx hb dX3_undo_38 rfl hl (by decide) rfl (fun ls hl => ?_)
      refine lv_aload_n hx hb dX3_undo_39 rfl (lv_at hl 0 rfl) ?_
      refine lv_ifnull hx hb dX3_undo_40 ?_
      refine lv_aload_n hx hb dX3_undo_43 rfl (lv_at hl 1 rfl) ?_
      refine va_get (D := D) (ci := 3) (v := .ref (a 0)) (C := RX3) (T := TX3) (N := 5) hx hb hts inX3 hown hE.1 hP 17 rfl rfl 0 (by decide) F12 (fun _ h9 => h9) rfl dX3_undo_44 ?_
      refine lv_aload_n hx hb dX3_undo_47 rfl (lv_at hl 0 rfl) ?_
      refine wr_V (rest := []) (ci := 1) (q0 := 0) ⟨hx, hb, hml, hown, hts⟩ hP hE hA hD hS (c_X1_copyFrom_u0 l D K _ _ _ _ _ _ _ _ _ _ _ _ _ _ _) (cwV 1 hts gX3_undo_X1_copyFrom rfl rfl rfl hd_X1_copyFrom ⟨Nat.le_of_ble_eq_true rfl, Nat.le_of_ble_eq_true rfl⟩) rfl rfl rfl rfl hl.1 rfl (Nat.le_of_ble_eq_true rfl) dX3_undo_48 ⟨Nat.le_of_ble_eq_true rfl, Nat.le_of_ble_eq_true rfl⟩ (fun H locs hP hD hS => ?_)
      have hP : va_P D vwCl (townW K a (Sv 0) ++ (waysW K b len qu n ++ (textW K t cs ln ++ (mainW K a b t c g 1 ++ svW K g Sv X)))) H := hP
      have hD : va_D A (townW K a (Sv 0) ++ (waysW K b len qu n ++ (textW K t cs ln ++ (mainW K a b t c g 1 ++ svW K g Sv X)))) := hD
      refine lv_aload_n hx hb dX3_undo_51 rfl (lv_at hl 1 rfl) ?_
      refine lv_dup hx hb dX3_undo_52 rfl ?_
      refine va_get (D := D) (ci := 3) (v := .int (nI 1)) (C := RX3) (T := TX3) (N := 5) hx hb hts inX3 hown hE.1 hP 17 rfl rfl 2 (by decide) F188 (fun _ h9 => h9) rfl dX3_undo_53 ?_
      refine lv_iconst (v := nI 1) hx hb dX3_undo_56 (by decide) ?_
      refine nv_isub (x := 1) (y := 1) hx hb dX3_undo_57 (by omega) ?_
      refine va_put (D := D) (ci := 3) (v := .int (nI 0)) (ty := .int) (C := RX3) (T := TX3) (N := 5) hx hb hts inX3 tyX3 tyX3_ok nmX3 hown hE.1 hP hD hS 17 rfl rfl 2 (by decide) F188 (fun _ h9 => h9) rfl (by decide +kernel) rfl rfl (Nat.le_of_ble_eq_true rfl) dX3_undo_58 (fun H locs hP hD hS => ?_)
      have hP : va_P D vwCl (townW K a (Sv 0) ++ (waysW K b len qu n ++ (textW K t cs ln ++ (mainW K a b t c g 0 ++ svW K g Sv X)))) H := hP
      have hD : va_D A (townW K a (Sv 0) ++ (waysW K b len qu n ++ (textW K t cs ln ++ (mainW K a b t c g 0 ++ svW K g Sv X)))) := hD
      refine lv_aload_n hx hb dX3_undo_61 rfl (lv_at hl 1 rfl) ?_
      refine va_get (D := D) (ci := 3) (v := .int (nI 0)) (C := RX3) (T := TX3) (N := 5) hx hb hts inX3 hown hE.1 hP 17 rfl rfl 2 (by decide) F188 (fun _ h9 => h9) rfl dX3_undo_62 ?_
      have ew : (townW K a (Sv 0) ++ (waysW K b len qu n ++ (textW K t cs ln ++ (mainW K a b t c g 0 ++ svW K g Sv X)))) = (townW K a (Sv (1 - 1)) ++ (waysW K b len qu n ++ (textW K t cs ln ++ (mainW K a b t c g (1 - 1) ++ svW K g Sv X)))) := rfl
      rw [ew] at hP hD
      refine tx_iret hAe hP hD hS hx hb hr hk dX3_undo_65 ⟨Nat.le_of_ble_eq_true rfl, Nat.le_of_ble_eq_true rfl⟩ ?_ (by rfl)
      first | (simp [if_true, c_2, n_c_2, c_3, n_c_3]; done) | (subst_vars; simp [if_true, c_2, n_c_2, c_3, n_c_3]; done) | simp_all [if_true]
    exact absurd c_3 (by decide)
  · refine lv_aload_n hx hb dX3_undo_0 rfl (lv_at hl 0 rfl) ?_
    refine va_get (D := D) (ci := 3) (v := .int (nI 2)) (C := RX3) (T := TX3) (N := 5) hx hb hts inX3 hown hE.1 hP 17 rfl rfl 2 (by decide) F188 (fun _ h9 => h9) rfl dX3_undo_1 ?_
    refine lv_iconst (v := nI 1) hx hb dX3_undo_4 (by decide) ?_
    refine nv_icmp_lt (x := 2) (y := 1) (tgt := 17) hx hb dX3_undo_5 (by decide) (by decide) (by decide) (fun c_4 => ?_) (fun c_4 => ?_)
    · exact absurd c_4 (by decide)
    have n_c_4 := Nat.not_lt.mpr c_4
    refine lv_aload_n hx hb dX3_undo_8 rfl (lv_at hl 0 rfl) ?_
    refine va_get (D := D) (ci := 3) (v := .int (nI 2)) (C := RX3) (T := TX3) (N := 5) hx hb hts inX3 hown hE.1 hP 17 rfl rfl 2 (by decide) F188 (fun _ h9 => h9) rfl dX3_undo_9 ?_
    refine lv_bipush (v := nI 6) hx hb dX3_undo_12 (by decide) ?_
    refine nv_icmp_le (x := 2) (y := 6) (tgt := 27) hx hb dX3_undo_14 (by decide) (by decide) (by decide) (fun c_5 => ?_) (fun c_5 => ?_)
    · have n_c_5 := Nat.not_lt.mpr c_5
      refine lv_aload_n hx hb dX3_undo_27 rfl (lv_at hl 0 rfl) ?_
      refine va_get (D := D) (ci := 3) (v := .ref (c 1)) (C := RX3) (T := TX3) (N := 5) hx hb hts inX3 hown hE.1 hP 17 rfl rfl 1 (by decide) F16 (fun _ h9 => h9) rfl dX3_undo_28 ?_
      refine lv_aload_n hx hb dX3_undo_31 rfl (lv_at hl 0 rfl) ?_
      refine va_get (D := D) (ci := 3) (v := .int (nI 2)) (C := RX3) (T := TX3) (N := 5) hx hb hts inX3 hown hE.1 hP 17 rfl rfl 2 (by decide) F188 (fun _ h9 => h9) rfl dX3_undo_32 ?_
      refine lv_iconst (v := nI 1) hx hb dX3_undo_35 (by decide) ?_
      refine nv_isub (x := 2) (y := 1) hx hb dX3_undo_36 (by omega) ?_
      refine nv_aald hx hb hE hP 18 1 (fun j => g j 0) rfl (by decide) (by decide) dX3_undo_37 ?_
      refine lv_astore_n (lv' := [(1, .ref (g 1 0)), (0, .ref (c 0))]) hx hb dX3_undo_38 rfl hl (by decide) rfl (fun ls hl => ?_)
      refine lv_aload_n hx hb dX3_undo_39 rfl (lv_at hl 0 rfl) ?_
      refine lv_ifnull hx hb dX3_undo_40 ?_
      refine lv_aload_n hx hb dX3_undo_43 rfl (lv_at hl 1 rfl) ?_
      refine va_get (D := D) (ci := 3) (v := .ref (a 0)) (C := RX3) (T := TX3) (N := 5) hx hb hts inX3 hown hE.1 hP 17 rfl rfl 0 (by decide) F12 (fun _ h9 => h9) rfl dX3_undo_44 ?_
      refine lv_aload_n hx hb dX3_undo_47 rfl (lv_at hl 0 rfl) ?_
      refine wr_V (rest := []) (ci := 1) (q0 := 0) ⟨hx, hb, hml, hown, hts⟩ hP hE hA hD hS (c_X1_copyFrom_u1 l D K _ _ _ _ _ _ _ _ _ _ _ _ _ _ _) (cwV 1 hts gX3_undo_X1_copyFrom rfl rfl rfl hd_X1_copyFrom ⟨Nat.le_of_ble_eq_true rfl, Nat.le_of_ble_eq_true rfl⟩) rfl rfl rfl rfl hl.1 rfl (Nat.le_of_ble_eq_true rfl) dX3_undo_48 ⟨Nat.le_of_ble_eq_true rfl, Nat.le_of_ble_eq_true rfl⟩ (fun H locs hP hD hS => ?_)
      have hP : va_P D vwCl (townW K a (Sv 1) ++ (waysW K b len qu n ++ (textW K t cs ln ++ (mainW K a b t c g 2 ++ svW K g Sv X)))) H := hP
      have hD : va_D A (townW K a (Sv 1) ++ (waysW K b len qu n ++ (textW K t cs ln ++ (mainW K a b t c g 2 ++ svW K g Sv X)))) := hD
      refine lv_aload_n hx hb dX3_undo_51 rfl (lv_at hl 1 rfl) ?_
      refine lv_dup hx hb dX3_undo_52 rfl ?_
      refine va_get (D := D) (ci := 3) (v := .int (nI 2)) (C := RX3) (T := TX3) (N := 5) hx hb hts inX3 hown hE.1 hP 17 rfl rfl 2 (by decide) F188 (fun _ h9 => h9) rfl dX3_undo_53 ?_
      refine lv_iconst (v := nI 1) hx hb dX3_undo_56 (by decide) ?_
      refine nv_isub (x := 2) (y := 1) hx hb dX3_undo_57 (by omega) ?_
      refine va_put (D := D) (ci := 3) (v := .int (nI 1)) (ty := .int) (C := RX3) (T := TX3) (N := 5) hx hb hts inX3 tyX3 tyX3_ok nmX3 hown hE.1 hP hD hS 17 rfl rfl 2 (by decide) F188 (fun _ h9 => h9) rfl (by decide +kernel) rfl rfl (Nat.le_of_ble_eq_true rfl) dX3_undo_58 (fun H locs hP hD hS => ?_)
      have hP : va_P D vwCl (townW K a (Sv 1) ++ (waysW K b len qu n ++ (textW K t cs ln ++ (mainW K a b t c g 1 ++ svW K g Sv X)))) H := hP
      have hD : va_D A (townW K a (Sv 1) ++ (waysW K b len qu n ++ (textW K t cs ln ++ (mainW K a b t c g 1 ++ svW K g Sv X)))) := hD
      refine lv_aload_n hx hb dX3_undo_61 rfl (lv_at hl 1 rfl) ?_
      refine va_get (D := D) (ci := 3) (v := .int (nI 1)) (C := RX3) (T := TX3) (N := 5) hx hb hts inX3 hown hE.1 hP 17 rfl rfl 2 (by decide) F188 (fun _ h9 => h9) rfl dX3_undo_62 ?_
      have ew : (townW K a (Sv 1) ++ (waysW K b len qu n ++ (textW K t cs ln ++ (mainW K a b t c g 1 ++ svW K g Sv X)))) = (townW K a (Sv (2 - 1)) ++ (waysW K b len qu n ++ (textW K t cs ln ++ (mainW K a b t c g (2 - 1) ++ svW K g Sv X)))) := rfl
      rw [ew] at hP hD
      refine tx_iret hAe hP hD hS hx hb hr hk dX3_undo_65 ⟨Nat.le_of_ble_eq_true rfl, Nat.le_of_ble_eq_true rfl⟩ ?_ (by rfl)
      first | (simp [if_true, c_4, n_c_4, c_5, n_c_5]; done) | (subst_vars; simp [if_true, c_4, n_c_4, c_5, n_c_5]; done) | simp_all [if_true]
    exact absurd c_5 (by decide)
  · refine lv_aload_n hx hb dX3_undo_0 rfl (lv_at hl 0 rfl) ?_
    refine va_get (D := D) (ci := 3) (v := .int (nI 3)) (C := RX3) (T := TX3) (N := 5) hx hb hts inX3 hown hE.1 hP 17 rfl rfl 2 (by decide) F188 (fun _ h9 => h9) rfl dX3_undo_1 ?_
    refine lv_iconst (v := nI 1) hx hb dX3_undo_4 (by decide) ?_
    refine nv_icmp_lt (x := 3) (y := 1) (tgt := 17) hx hb dX3_undo_5 (by decide) (by decide) (by decide) (fun c_6 => ?_) (fun c_6 => ?_)
    · exact absurd c_6 (by decide)
    have n_c_6 := Nat.not_lt.mpr c_6
    refine lv_aload_n hx hb dX3_undo_8 rfl (lv_at hl 0 rfl) ?_
    refine va_get (D := D) (ci := 3) (v := .int (nI 3)) (C := RX3) (T := TX3) (N := 5) hx hb hts inX3 hown hE.1 hP 17 rfl rfl 2 (by decide) F188 (fun _ h9 => h9) rfl dX3_undo_9 ?_
    refine lv_bipush (v := nI 6) hx hb dX3_undo_12 (by decide) ?_
    refine nv_icmp_le (x := 3) (y := 6) (tgt := 27) hx hb dX3_undo_14 (by decide) (by decide) (by decide) (fun c_7 => ?_) (fun c_7 => ?_)
    · have n_c_7 := Nat.not_lt.mpr c_7
      refine lv_aload_n hx hb dX3_undo_27 rfl (lv_at hl 0 rfl) ?_
      refine va_get (D := D) (ci := 3) (v := .ref (c 1)) (C := RX3) (T := TX3) (N := 5) hx hb hts inX3 hown hE.1 hP 17 rfl rfl 1 (by decide) F16 (fun _ h9 => h9) rfl dX3_undo_28 ?_
      refine lv_aload_n hx hb dX3_undo_31 rfl (lv_at hl 0 rfl) ?_
      refine va_get (D := D) (ci := 3) (v := .int (nI 3)) (C := RX3) (T := TX3) (N := 5) hx hb hts inX3 hown hE.1 hP 17 rfl rfl 2 (by decide) F188 (fun _ h9 => h9) rfl dX3_undo_32 ?_
      refine lv_iconst (v := nI 1) hx hb dX3_undo_35 (by decide) ?_
      refine nv_isub (x := 3) (y := 1) hx hb dX3_undo_36 (by omega) ?_
      refine nv_aald hx hb hE hP 18 2 (fun j => g j 0) rfl (by decide) (by decide) dX3_undo_37 ?_
      refine lv_astore_n (lv' := [(1, .ref (g 2 0)), (0, .ref (c 0))]) hx hb dX3_undo_38 rfl hl (by decide) rfl (fun ls hl => ?_)
      refine lv_aload_n hx hb dX3_undo_39 rfl (lv_at hl 0 rfl) ?_
      refine lv_ifnull hx hb dX3_undo_40 ?_
      refine lv_aload_n hx hb dX3_undo_43 rfl (lv_at hl 1 rfl) ?_
      refine va_get (D := D) (ci := 3) (v := .ref (a 0)) (C := RX3) (T := TX3) (N := 5) hx hb hts inX3 hown hE.1 hP 17 rfl rfl 0 (by decide) F12 (fun _ h9 => h9) rfl dX3_undo_44 ?_
      refine lv_aload_n hx hb dX3_undo_47 rfl (lv_at hl 0 rfl) ?_
      refine wr_V (rest := []) (ci := 1) (q0 := 0) ⟨hx, hb, hml, hown, hts⟩ hP hE hA hD hS (c_X1_copyFrom_u2 l D K _ _ _ _ _ _ _ _ _ _ _ _ _ _ _) (cwV 1 hts gX3_undo_X1_copyFrom rfl rfl rfl hd_X1_copyFrom ⟨Nat.le_of_ble_eq_true rfl, Nat.le_of_ble_eq_true rfl⟩) rfl rfl rfl rfl hl.1 rfl (Nat.le_of_ble_eq_true rfl) dX3_undo_48 ⟨Nat.le_of_ble_eq_true rfl, Nat.le_of_ble_eq_true rfl⟩ (fun H locs hP hD hS => ?_)
      have hP : va_P D vwCl (townW K a (Sv 2) ++ (waysW K b len qu n ++ (textW K t cs ln ++ (mainW K a b t c g 3 ++ svW K g Sv X)))) H := hP
      have hD : va_D A (townW K a (Sv 2) ++ (waysW K b len qu n ++ (textW K t cs ln ++ (mainW K a b t c g 3 ++ svW K g Sv X)))) := hD
      refine lv_aload_n hx hb dX3_undo_51 rfl (lv_at hl 1 rfl) ?_
      refine lv_dup hx hb dX3_undo_52 rfl ?_
      refine va_get (D := D) (ci := 3) (v := .int (nI 3)) (C := RX3) (T := TX3) (N := 5) hx hb hts inX3 hown hE.1 hP 17 rfl rfl 2 (by decide) F188 (fun _ h9 => h9) rfl dX3_undo_53 ?_
      refine lv_iconst (v := nI 1) hx hb dX3_undo_56 (by decide) ?_
      refine nv_isub (x := 3) (y := 1) hx hb dX3_undo_57 (by omega) ?_
      refine va_put (D := D) (ci := 3) (v := .int (nI 2)) (ty := .int) (C := RX3) (T := TX3) (N := 5) hx hb hts inX3 tyX3 tyX3_ok nmX3 hown hE.1 hP hD hS 17 rfl rfl 2 (by decide) F188 (fun _ h9 => h9) rfl (by decide +kernel) rfl rfl (Nat.le_of_ble_eq_true rfl) dX3_undo_58 (fun H locs hP hD hS => ?_)
      have hP : va_P D vwCl (townW K a (Sv 2) ++ (waysW K b len qu n ++ (textW K t cs ln ++ (mainW K a b t c g 2 ++ svW K g Sv X)))) H := hP
      have hD : va_D A (townW K a (Sv 2) ++ (waysW K b len qu n ++ (textW K t cs ln ++ (mainW K a b t c g 2 ++ svW K g Sv X)))) := hD
      refine lv_aload_n hx hb dX3_undo_61 rfl (lv_at hl 1 rfl) ?_
      refine va_get (D := D) (ci := 3) (v := .int (nI 2)) (C := RX3) (T := TX3) (N := 5) hx hb hts inX3 hown hE.1 hP 17 rfl rfl 2 (by decide) F188 (fun _ h9 => h9) rfl dX3_undo_62 ?_
      have ew : (townW K a (Sv 2) ++ (waysW K b len qu n ++ (textW K t cs ln ++ (mainW K a b t c g 2 ++ svW K g Sv X)))) = (townW K a (Sv (3 - 1)) ++ (waysW K b len qu n ++ (textW K t cs ln ++ (mainW K a b t c g (3 - 1) ++ svW K g Sv X)))) := rfl
      rw [ew] at hP hD
      refine tx_iret hAe hP hD hS hx hb hr hk dX3_undo_65 ⟨Nat.le_of_ble_eq_true rfl, Nat.le_of_ble_eq_true rfl⟩ ?_ (by rfl)
      first | (simp [if_true, c_6, n_c_6, c_7, n_c_7]; done) | (subst_vars; simp [if_true, c_6, n_c_6, c_7, n_c_7]; done) | simp_all [if_true]
    exact absurd c_7 (by decide)
  · refine lv_aload_n hx hb dX3_undo_0 rfl (lv_at hl 0 rfl) ?_
    refine va_get (D := D) (ci := 3) (v := .int (nI 4)) (C := RX3) (T := TX3) (N := 5) hx hb hts inX3 hown hE.1 hP 17 rfl rfl 2 (by decide) F188 (fun _ h9 => h9) rfl dX3_undo_1 ?_
    refine lv_iconst (v := nI 1) hx hb dX3_undo_4 (by decide) ?_
    refine nv_icmp_lt (x := 4) (y := 1) (tgt := 17) hx hb dX3_undo_5 (by decide) (by decide) (by decide) (fun c_8 => ?_) (fun c_8 => ?_)
    · exact absurd c_8 (by decide)
    have n_c_8 := Nat.not_lt.mpr c_8
    refine lv_aload_n hx hb dX3_undo_8 rfl (lv_at hl 0 rfl) ?_
    refine va_get (D := D) (ci := 3) (v := .int (nI 4)) (C := RX3) (T := TX3) (N := 5) hx hb hts inX3 hown hE.1 hP 17 rfl rfl 2 (by decide) F188 (fun _ h9 => h9) rfl dX3_undo_9 ?_
    refine lv_bipush (v := nI 6) hx hb dX3_undo_12 (by decide) ?_
    refine nv_icmp_le (x := 4) (y := 6) (tgt := 27) hx hb dX3_undo_14 (by decide) (by decide) (by decide) (fun c_9 => ?_) (fun c_9 => ?_)
    · have n_c_9 := Nat.not_lt.mpr c_9
      refine lv_aload_n hx hb dX3_undo_27 rfl (lv_at hl 0 rfl) ?_
      refine va_get (D := D) (ci := 3) (v := .ref (c 1)) (C := RX3) (T := TX3) (N := 5) hx hb hts inX3 hown hE.1 hP 17 rfl rfl 1 (by decide) F16 (fun _ h9 => h9) rfl dX3_undo_28 ?_
      refine lv_aload_n hx hb dX3_undo_31 rfl (lv_at hl 0 rfl) ?_
      refine va_get (D := D) (ci := 3) (v := .int (nI 4)) (C := RX3) (T := TX3) (N := 5) hx hb hts inX3 hown hE.1 hP 17 rfl rfl 2 (by decide) F188 (fun _ h9 => h9) rfl dX3_undo_32 ?_
      refine lv_iconst (v := nI 1) hx hb dX3_undo_35 (by decide) ?_
      refine nv_isub (x := 4) (y := 1) hx hb dX3_undo_36 (by omega) ?_
      refine nv_aald hx hb hE hP 18 3 (fun j => g j 0) rfl (by decide) (by decide) dX3_undo_37 ?_
      refine lv_astore_n (lv' := [(1, .ref (g 3 0)), (0, .ref (c 0))]) hx hb dX3_undo_38 rfl hl (by decide) rfl (fun ls hl => ?_)
      refine lv_aload_n hx hb dX3_undo_39 rfl (lv_at hl 0 rfl) ?_
      refine lv_ifnull hx hb dX3_undo_40 ?_
      refine lv_aload_n hx hb dX3_undo_43 rfl (lv_at hl 1 rfl) ?_
      refine va_get (D := D) (ci := 3) (v := .ref (a 0)) (C := RX3) (T := TX3) (N := 5) hx hb hts inX3 hown hE.1 hP 17 rfl rfl 0 (by decide) F12 (fun _ h9 => h9) rfl dX3_undo_44 ?_
      refine lv_aload_n hx hb dX3_undo_47 rfl (lv_at hl 0 rfl) ?_
      refine wr_V (rest := []) (ci := 1) (q0 := 0) ⟨hx, hb, hml, hown, hts⟩ hP hE hA hD hS (c_X1_copyFrom_u3 l D K _ _ _ _ _ _ _ _ _ _ _ _ _ _ _) (cwV 1 hts gX3_undo_X1_copyFrom rfl rfl rfl hd_X1_copyFrom ⟨Nat.le_of_ble_eq_true rfl, Nat.le_of_ble_eq_true rfl⟩) rfl rfl rfl rfl hl.1 rfl (Nat.le_of_ble_eq_true rfl) dX3_undo_48 ⟨Nat.le_of_ble_eq_true rfl, Nat.le_of_ble_eq_true rfl⟩ (fun H locs hP hD hS => ?_)
      have hP : va_P D vwCl (townW K a (Sv 3) ++ (waysW K b len qu n ++ (textW K t cs ln ++ (mainW K a b t c g 4 ++ svW K g Sv X)))) H := hP
      have hD : va_D A (townW K a (Sv 3) ++ (waysW K b len qu n ++ (textW K t cs ln ++ (mainW K a b t c g 4 ++ svW K g Sv X)))) := hD
      refine lv_aload_n hx hb dX3_undo_51 rfl (lv_at hl 1 rfl) ?_
      refine lv_dup hx hb dX3_undo_52 rfl ?_
      refine va_get (D := D) (ci := 3) (v := .int (nI 4)) (C := RX3) (T := TX3) (N := 5) hx hb hts inX3 hown hE.1 hP 17 rfl rfl 2 (by decide) F188 (fun _ h9 => h9) rfl dX3_undo_53 ?_
      refine lv_iconst (v := nI 1) hx hb dX3_undo_56 (by decide) ?_
      refine nv_isub (x := 4) (y := 1) hx hb dX3_undo_57 (by omega) ?_
      refine va_put (D := D) (ci := 3) (v := .int (nI 3)) (ty := .int) (C := RX3) (T := TX3) (N := 5) hx hb hts inX3 tyX3 tyX3_ok nmX3 hown hE.1 hP hD hS 17 rfl rfl 2 (by decide) F188 (fun _ h9 => h9) rfl (by decide +kernel) rfl rfl (Nat.le_of_ble_eq_true rfl) dX3_undo_58 (fun H locs hP hD hS => ?_)
      have hP : va_P D vwCl (townW K a (Sv 3) ++ (waysW K b len qu n ++ (textW K t cs ln ++ (mainW K a b t c g 3 ++ svW K g Sv X)))) H := hP
      have hD : va_D A (townW K a (Sv 3) ++ (waysW K b len qu n ++ (textW K t cs ln ++ (mainW K a b t c g 3 ++ svW K g Sv X)))) := hD
      refine lv_aload_n hx hb dX3_undo_61 rfl (lv_at hl 1 rfl) ?_
      refine va_get (D := D) (ci := 3) (v := .int (nI 3)) (C := RX3) (T := TX3) (N := 5) hx hb hts inX3 hown hE.1 hP 17 rfl rfl 2 (by decide) F188 (fun _ h9 => h9) rfl dX3_undo_62 ?_
      have ew : (townW K a (Sv 3) ++ (waysW K b len qu n ++ (textW K t cs ln ++ (mainW K a b t c g 3 ++ svW K g Sv X)))) = (townW K a (Sv (4 - 1)) ++ (waysW K b len qu n ++ (textW K t cs ln ++ (mainW K a b t c g (4 - 1) ++ svW K g Sv X)))) := rfl
      rw [ew] at hP hD
      refine tx_iret hAe hP hD hS hx hb hr hk dX3_undo_65 ⟨Nat.le_of_ble_eq_true rfl, Nat.le_of_ble_eq_true rfl⟩ ?_ (by rfl)
      first | (simp [if_true, c_8, n_c_8, c_9, n_c_9]; done) | (subst_vars; simp [if_true, c_8, n_c_8, c_9, n_c_9]; done) | simp_all [if_true]
    exact absurd c_9 (by decide)
  · refine lv_aload_n hx hb dX3_undo_0 rfl (lv_at hl 0 rfl) ?_
    refine va_get (D := D) (ci := 3) (v := .int (nI 5)) (C := RX3) (T := TX3) (N := 5) hx hb hts inX3 hown hE.1 hP 17 rfl rfl 2 (by decide) F188 (fun _ h9 => h9) rfl dX3_undo_1 ?_
    refine lv_iconst (v := nI 1) hx hb dX3_undo_4 (by decide) ?_
    refine nv_icmp_lt (x := 5) (y := 1) (tgt := 17) hx hb dX3_undo_5 (by decide) (by decide) (by decide) (fun c_10 => ?_) (fun c_10 => ?_)
    · exact absurd c_10 (by decide)
    have n_c_10 := Nat.not_lt.mpr c_10
    refine lv_aload_n hx hb dX3_undo_8 rfl (lv_at hl 0 rfl) ?_
    refine va_get (D := D) (ci := 3) (v := .int (nI 5)) (C := RX3) (T := TX3) (N := 5) hx hb hts inX3 hown hE.1 hP 17 rfl rfl 2 (by decide) F188 (fun _ h9 => h9) rfl dX3_undo_9 ?_
    refine lv_bipush (v := nI 6) hx hb dX3_undo_12 (by decide) ?_
    refine nv_icmp_le (x := 5) (y := 6) (tgt := 27) hx hb dX3_undo_14 (by decide) (by decide) (by decide) (fun c_11 => ?_) (fun c_11 => ?_)
    · have n_c_11 := Nat.not_lt.mpr c_11
      refine lv_aload_n hx hb dX3_undo_27 rfl (lv_at hl 0 rfl) ?_
      refine va_get (D := D) (ci := 3) (v := .ref (c 1)) (C := RX3) (T := TX3) (N := 5) hx hb hts inX3 hown hE.1 hP 17 rfl rfl 1 (by decide) F16 (fun _ h9 => h9) rfl dX3_undo_28 ?_
      refine lv_aload_n hx hb dX3_undo_31 rfl (lv_at hl 0 rfl) ?_
      refine va_get (D := D) (ci := 3) (v := .int (nI 5)) (C := RX3) (T := TX3) (N := 5) hx hb hts inX3 hown hE.1 hP 17 rfl rfl 2 (by decide) F188 (fun _ h9 => h9) rfl dX3_undo_32 ?_
      refine lv_iconst (v := nI 1) hx hb dX3_undo_35 (by decide) ?_
      refine nv_isub (x := 5) (y := 1) hx hb dX3_undo_36 (by omega) ?_
      refine nv_aald hx hb hE hP 18 4 (fun j => g j 0) rfl (by decide) (by decide) dX3_undo_37 ?_
      refine lv_astore_n (lv' := [(1, .ref (g 4 0)), (0, .ref (c 0))]) hx hb dX3_undo_38 rfl hl (by decide) rfl (fun ls hl => ?_)
      refine lv_aload_n hx hb dX3_undo_39 rfl (lv_at hl 0 rfl) ?_
      refine lv_ifnull hx hb dX3_undo_40 ?_
      refine lv_aload_n hx hb dX3_undo_43 rfl (lv_at hl 1 rfl) ?_
      refine va_get (D := D) (ci := 3) (v := .ref (a 0)) (C := RX3) (T := TX3) (N := 5) hx hb hts inX3 hown hE.1 hP 17 rfl rfl 0 (by decide) F12 (fun _ h9 => h9) rfl dX3_undo_44 ?_
      refine lv_aload_n hx hb dX3_undo_47 rfl (lv_at hl 0 rfl) ?_
      refine wr_V (rest := []) (ci := 1) (q0 := 0) ⟨hx, hb, hml, hown, hts⟩ hP hE hA hD hS (c_X1_copyFrom_u4 l D K _ _ _ _ _ _ _ _ _ _ _ _ _ _ _) (cwV 1 hts gX3_undo_X1_copyFrom rfl rfl rfl hd_X1_copyFrom ⟨Nat.le_of_ble_eq_true rfl, Nat.le_of_ble_eq_true rfl⟩) rfl rfl rfl rfl hl.1 rfl (Nat.le_of_ble_eq_true rfl) dX3_undo_48 ⟨Nat.le_of_ble_eq_true rfl, Nat.le_of_ble_eq_true rfl⟩ (fun H locs hP hD hS => ?_)
      have hP : va_P D vwCl (townW K a (Sv 4) ++ (waysW K b len qu n ++ (textW K t cs ln ++ (mainW K a b t c g 5 ++ svW K g Sv X)))) H := hP
      have hD : va_D A (townW K a (Sv 4) ++ (waysW K b len qu n ++ (textW K t cs ln ++ (mainW K a b t c g 5 ++ svW K g Sv X)))) := hD
      refine lv_aload_n hx hb dX3_undo_51 rfl (lv_at hl 1 rfl) ?_
      refine lv_dup hx hb dX3_undo_52 rfl ?_
      refine va_get (D := D) (ci := 3) (v := .int (nI 5)) (C := RX3) (T := TX3) (N := 5) hx hb hts inX3 hown hE.1 hP 17 rfl rfl 2 (by decide) F188 (fun _ h9 => h9) rfl dX3_undo_53 ?_
      refine lv_iconst (v := nI 1) hx hb dX3_undo_56 (by decide) ?_
      refine nv_isub (x := 5) (y := 1) hx hb dX3_undo_57 (by omega) ?_
      refine va_put (D := D) (ci := 3) (v := .int (nI 4)) (ty := .int) (C := RX3) (T := TX3) (N := 5) hx hb hts inX3 tyX3 tyX3_ok nmX3 hown hE.1 hP hD hS 17 rfl rfl 2 (by decide) F188 (fun _ h9 => h9) rfl (by decide +kernel) rfl rfl (Nat.le_of_ble_eq_true rfl) dX3_undo_58 (fun H locs hP hD hS => ?_)
      have hP : va_P D vwCl (townW K a (Sv 4) ++ (waysW K b len qu n ++ (textW K t cs ln ++ (mainW K a b t c g 4 ++ svW K g Sv X)))) H := hP
      have hD : va_D A (townW K a (Sv 4) ++ (waysW K b len qu n ++ (textW K t cs ln ++ (mainW K a b t c g 4 ++ svW K g Sv X)))) := hD
      refine lv_aload_n hx hb dX3_undo_61 rfl (lv_at hl 1 rfl) ?_
      refine va_get (D := D) (ci := 3) (v := .int (nI 4)) (C := RX3) (T := TX3) (N := 5) hx hb hts inX3 hown hE.1 hP 17 rfl rfl 2 (by decide) F188 (fun _ h9 => h9) rfl dX3_undo_62 ?_
      have ew : (townW K a (Sv 4) ++ (waysW K b len qu n ++ (textW K t cs ln ++ (mainW K a b t c g 4 ++ svW K g Sv X)))) = (townW K a (Sv (5 - 1)) ++ (waysW K b len qu n ++ (textW K t cs ln ++ (mainW K a b t c g (5 - 1) ++ svW K g Sv X)))) := rfl
      rw [ew] at hP hD
      refine tx_iret hAe hP hD hS hx hb hr hk dX3_undo_65 ⟨Nat.le_of_ble_eq_true rfl, Nat.le_of_ble_eq_true rfl⟩ ?_ (by rfl)
      first | (simp [if_true, c_10, n_c_10, c_11, n_c_11]; done) | (subst_vars; simp [if_true, c_10, n_c_10, c_11, n_c_11]; done) | simp_all [if_true]
    exact absurd c_11 (by decide)
  · refine lv_aload_n hx hb dX3_undo_0 rfl (lv_at hl 0 rfl) ?_
    refine va_get (D := D) (ci := 3) (v := .int (nI 6)) (C := RX3) (T := TX3) (N := 5) hx hb hts inX3 hown hE.1 hP 17 rfl rfl 2 (by decide) F188 (fun _ h9 => h9) rfl dX3_undo_1 ?_
    refine lv_iconst (v := nI 1) hx hb dX3_undo_4 (by decide) ?_
    refine nv_icmp_lt (x := 6) (y := 1) (tgt := 17) hx hb dX3_undo_5 (by decide) (by decide) (by decide) (fun c_12 => ?_) (fun c_12 => ?_)
    · exact absurd c_12 (by decide)
    have n_c_12 := Nat.not_lt.mpr c_12
    refine lv_aload_n hx hb dX3_undo_8 rfl (lv_at hl 0 rfl) ?_
    refine va_get (D := D) (ci := 3) (v := .int (nI 6)) (C := RX3) (T := TX3) (N := 5) hx hb hts inX3 hown hE.1 hP 17 rfl rfl 2 (by decide) F188 (fun _ h9 => h9) rfl dX3_undo_9 ?_
    refine lv_bipush (v := nI 6) hx hb dX3_undo_12 (by decide) ?_
    refine nv_icmp_le (x := 6) (y := 6) (tgt := 27) hx hb dX3_undo_14 (by decide) (by decide) (by decide) (fun c_13 => ?_) (fun c_13 => ?_)
    · have n_c_13 := Nat.not_lt.mpr c_13
      refine lv_aload_n hx hb dX3_undo_27 rfl (lv_at hl 0 rfl) ?_
      refine va_get (D := D) (ci := 3) (v := .ref (c 1)) (C := RX3) (T := TX3) (N := 5) hx hb hts inX3 hown hE.1 hP 17 rfl rfl 1 (by decide) F16 (fun _ h9 => h9) rfl dX3_undo_28 ?_
      refine lv_aload_n hx hb dX3_undo_31 rfl (lv_at hl 0 rfl) ?_
      refine va_get (D := D) (ci := 3) (v := .int (nI 6)) (C := RX3) (T := TX3) (N := 5) hx hb hts inX3 hown hE.1 hP 17 rfl rfl 2 (by decide) F188 (fun _ h9 => h9) rfl dX3_undo_32 ?_
      refine lv_iconst (v := nI 1) hx hb dX3_undo_35 (by decide) ?_
      refine nv_isub (x := 6) (y := 1) hx hb dX3_undo_36 (by omega) ?_
      refine nv_aald hx hb hE hP 18 5 (fun j => g j 0) rfl (by decide) (by decide) dX3_undo_37 ?_
      refine lv_astore_n (lv' := [(1, .ref (g 5 0)), (0, .ref (c 0))]) hx hb dX3_undo_38 rfl hl (by decide) rfl (fun ls hl => ?_)
      refine lv_aload_n hx hb dX3_undo_39 rfl (lv_at hl 0 rfl) ?_
      refine lv_ifnull hx hb dX3_undo_40 ?_
      refine lv_aload_n hx hb dX3_undo_43 rfl (lv_at hl 1 rfl) ?_
      refine va_get (D := D) (ci := 3) (v := .ref (a 0)) (C := RX3) (T := TX3) (N := 5) hx hb hts inX3 hown hE.1 hP 17 rfl rfl 0 (by decide) F12 (fun _ h9 => h9) rfl dX3_undo_44 ?_
      refine lv_aload_n hx hb dX3_undo_47 rfl (lv_at hl 0 rfl) ?_
      refine wr_V (rest := []) (ci := 1) (q0 := 0) ⟨hx, hb, hml, hown, hts⟩ hP hE hA hD hS (c_X1_copyFrom_u5 l D K _ _ _ _ _ _ _ _ _ _ _ _ _ _ _) (cwV 1 hts gX3_undo_X1_copyFrom rfl rfl rfl hd_X1_copyFrom ⟨Nat.le_of_ble_eq_true rfl, Nat.le_of_ble_eq_true rfl⟩) rfl rfl rfl rfl hl.1 rfl (Nat.le_of_ble_eq_true rfl) dX3_undo_48 ⟨Nat.le_of_ble_eq_true rfl, Nat.le_of_ble_eq_true rfl⟩ (fun H locs hP hD hS => ?_)
      have hP : va_P D vwCl (townW K a (Sv 5) ++ (waysW K b len qu n ++ (textW K t cs ln ++ (mainW K a b t c g 6 ++ svW K g Sv X)))) H := hP
      have hD : va_D A (townW K a (Sv 5) ++ (waysW K b len qu n ++ (textW K t cs ln ++ (mainW K a b t c g 6 ++ svW K g Sv X)))) := hD
      refine lv_aload_n hx hb dX3_undo_51 rfl (lv_at hl 1 rfl) ?_
      refine lv_dup hx hb dX3_undo_52 rfl ?_
      refine va_get (D := D) (ci := 3) (v := .int (nI 6)) (C := RX3) (T := TX3) (N := 5) hx hb hts inX3 hown hE.1 hP 17 rfl rfl 2 (by decide) F188 (fun _ h9 => h9) rfl dX3_undo_53 ?_
      refine lv_iconst (v := nI 1) hx hb dX3_undo_56 (by decide) ?_
      refine nv_isub (x := 6) (y := 1) hx hb dX3_undo_57 (by omega) ?_
      refine va_put (D := D) (ci := 3) (v := .int (nI 5)) (ty := .int) (C := RX3) (T := TX3) (N := 5) hx hb hts inX3 tyX3 tyX3_ok nmX3 hown hE.1 hP hD hS 17 rfl rfl 2 (by decide) F188 (fun _ h9 => h9) rfl (by decide +kernel) rfl rfl (Nat.le_of_ble_eq_true rfl) dX3_undo_58 (fun H locs hP hD hS => ?_)
      have hP : va_P D vwCl (townW K a (Sv 5) ++ (waysW K b len qu n ++ (textW K t cs ln ++ (mainW K a b t c g 5 ++ svW K g Sv X)))) H := hP
      have hD : va_D A (townW K a (Sv 5) ++ (waysW K b len qu n ++ (textW K t cs ln ++ (mainW K a b t c g 5 ++ svW K g Sv X)))) := hD
      refine lv_aload_n hx hb dX3_undo_61 rfl (lv_at hl 1 rfl) ?_
      refine va_get (D := D) (ci := 3) (v := .int (nI 5)) (C := RX3) (T := TX3) (N := 5) hx hb hts inX3 hown hE.1 hP 17 rfl rfl 2 (by decide) F188 (fun _ h9 => h9) rfl dX3_undo_62 ?_
      have ew : (townW K a (Sv 5) ++ (waysW K b len qu n ++ (textW K t cs ln ++ (mainW K a b t c g 5 ++ svW K g Sv X)))) = (townW K a (Sv (6 - 1)) ++ (waysW K b len qu n ++ (textW K t cs ln ++ (mainW K a b t c g (6 - 1) ++ svW K g Sv X)))) := rfl
      rw [ew] at hP hD
      refine tx_iret hAe hP hD hS hx hb hr hk dX3_undo_65 ⟨Nat.le_of_ble_eq_true rfl, Nat.le_of_ble_eq_true rfl⟩ ?_ (by rfl)
      first | (simp [if_true, c_12, n_c_12, c_13, n_c_13]; done) | (subst_vars; simp [if_true, c_12, n_c_12, c_13, n_c_13]; done) | simp_all [if_true]
    exact absurd c_13 (by decide)
