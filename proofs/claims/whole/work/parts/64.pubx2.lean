set_option maxHeartbeats 4000000 in
set_option maxRecDepth 100000 in
theorem c_X3_away (l : Launch) (D : va_G) (K : Nat → ClassId) (dp fs : Nat) (hst : l.stackTraces = false) (sz : Nat) (a b t c : Nat → Nat) (g : Nat → Nat → Nat) (T : TW) (X : va_W) (len : Nat → Option Nat) (qu : Nat → Nat) (n : Nat) (cs : Nat → Nat) (ln sn : Nat) (Sv : Nat → TW) (x f : Int32) (hI : Inv T) (hK : HK T) : Tx dp fs l yX3_away wsX3_away ({ frames := 6, cells := 1, slots := 6, locals := 108 } : Room) D K (townW K a T ++ (waysW K b len qu n ++ (textW K t cs ln ++ (mainW K a b t c g sn ++ svW K g Sv X)))) sz [.ref (c 0), .int x, .int f] (awE x f) xnA (townW K a T ++ (waysW K b ((fewS T (tn x) qu).1) ((fewS T (tn x) qu).2.1) ((fewS T (tn x) qu).2.2) ++ (textW K t cs ln ++ (mainW K a b t c g sn ++ svW K g Sv X)))) (oI (wyO (dst T (tn x) 0 (tn f)))) 1 6 := by
  refine tx_intro (cc := cX3_away) (maxL := 3) (ret := (some .int)) (by decide) rfl (Nat.le_of_ble_eq_true rfl) ?_
  intro pr en st md ar bl mt co A hx hb hml hr hts hown hk hsz hAe hP hE hD hS hA hxt hXw hZ ls hl
  have hown : st.vm.findClass RX3 = some md.cls := hown
  have hl : lv_has ls 3 [(0, .ref (c 0)), (1, .int x), (2, .int f)] := hl
  obtain ⟨H, hH⟩ : ∃ z, z = st.heap := ⟨_, rfl⟩
  obtain ⟨locs, hlo⟩ : ∃ z : List Loc, z = [] := ⟨_, rfl⟩
  have hP : va_P D vwCl (townW K a T ++ (waysW K b len qu n ++ (textW K t cs ln ++ (mainW K a b t c g sn ++ svW K g Sv X)))) H := by rw [hH]; exact hP
  have hS : va_S A st.heap H locs := by rw [hH, hlo]; exact hS
  suffices go : W pr l en (headSpec wsX3_away ({ frames := 6, cells := 1, slots := 6, locals := 108 } : Room)).room st md ar bl mt co H locs 0 0 (vx_MQ bl (txQ D (townW K a T ++ (waysW K b len qu n ++ (textW K t cs ln ++ (mainW K a b t c g sn ++ svW K g Sv X)))) (townW K a T ++ (waysW K b ((fewS T (tn x) qu).1) ((fewS T (tn x) qu).2.1) ((fewS T (tn x) qu).2.2) ++ (textW K t cs ln ++ (mainW K a b t c g sn ++ svW K g Sv X)))) sz (oI (wyO (dst T (tn x) 0 (tn f)))) (awE x f)) (txX D (townW K a T ++ (waysW K b len qu n ++ (textW K t cs ln ++ (mainW K a b t c g sn ++ svW K g Sv X)))) sz (awE x f) xnA) ar st 1 6 A) (F0 md 0 ls []) by rw [hH, hlo] at go; exact go
  clear hH hlo
  have K38 : (Cond.classLink RX3 38 "java/lang/IndexOutOfBoundsException").before ar st = true := hts _ (List.mem_of_getElem? (i := 1) rfl)
  have KI38 : (Cond.initialized "java/lang/IndexOutOfBoundsException").before ar st = true := hts _ (List.mem_of_getElem? (i := 2) rfl)
  have F30 : (Cond.fieldLink RX3 30 "TramTolls" "ways" "LTramTolls$Ways;").before ar st = true := hts _ (List.mem_of_getElem? (i := 3) rfl)
  have inX3 : ∀ w ∈ u_ws RX3 TX3 5, w ∈ wsX3_away := fun w h => List.mem_cons_of_mem _ (List.mem_append_left _ (List.mem_append_left _ (List.mem_append_left _ (List.mem_append_right _ h))))
  have F12 : (Cond.fieldLink RX3 12 "TramTolls" "town" "LTramTolls$Town;").before ar st = true := hts _ (List.mem_of_getElem? (i := 4) rfl)
  refine lv_iload_n hx hb dX3_away_0 rfl (lv_at hl 1 rfl) ?_
  refine rd_S (rest := []) ⟨hx, hb, hml, hown, hts⟩ hP hE (c_X3_isPlayer l D K _ x) (va_cwS 1 hts gX3_away_X3_isPlayer rfl rfl rfl hn_X3_isPlayer ⟨Nat.le_of_ble_eq_true rfl, Nat.le_of_ble_eq_true rfl⟩) rfl hl.1 rfl (Nat.le_of_ble_eq_true rfl) dX3_away_1 ⟨Nat.le_of_ble_eq_true rfl, Nat.le_of_ble_eq_true rfl⟩ ?_
  refine bv_if_eq (x := inR 0 3 x) (tgt := 14) hx hb dX3_away_4 (by decide) (fun c_1 => ?_) (fun c_1 => ?_)
  · refine tx_thr (n := 1) (cls := xIO) (is := 220) hx hb hst hown (by decide +kernel) K38 KI38 (fun w h => hts w (List.mem_cons_of_mem _ (List.mem_append_right _ h))) xh_IO xg_IO hXw.2.2.2.1 hXw (List.mem_of_getElem? (i := 24) rfl) hZ hAe hP hD hS (hl.1.trans hml.symm) hxt ⟨Nat.le_of_ble_eq_true rfl, Nat.le_of_ble_eq_true rfl⟩ ⟨Nat.le_of_ble_eq_true rfl, Nat.le_of_ble_eq_true rfl⟩ hk ⟨Nat.le_of_ble_eq_true rfl, Nat.le_of_ble_eq_true rfl⟩ (by decide) rfl ?_ dX3_away_14 dX3_away_17 dX3_away_18 dX3_away_20 dX3_away_23
    first | (simp [awE, c_1]; done) | (subst_vars; simp [awE, c_1]; done) | simp_all [awE]
  · obtain ⟨s9, lo_s9, hi_s9, e_s9⟩ := inR_nL (a := 0) (b := 3) rfl rfl (by decide) (by decide) c_1
    subst e_s9
    have t_s9 := tn_nI (n := s9) (by omega)
    refine lv_iload_n hx hb dX3_away_7 rfl (lv_at hl 2 rfl) ?_
    refine rd_S (rest := []) ⟨hx, hb, hml, hown, hts⟩ hP hE (c_X3_isSquare l D K _ f) (va_cwS 1 hts gX3_away_X3_isSquare rfl rfl rfl hn_X3_isSquare ⟨Nat.le_of_ble_eq_true rfl, Nat.le_of_ble_eq_true rfl⟩) rfl hl.1 rfl (Nat.le_of_ble_eq_true rfl) dX3_away_8 ⟨Nat.le_of_ble_eq_true rfl, Nat.le_of_ble_eq_true rfl⟩ ?_
    refine bv_if_ne (x := inR 0 79 f) (tgt := 24) hx hb dX3_away_11 (by decide) (fun c_2 => ?_) (fun c_2 => ?_)
    · obtain ⟨f9, lo_f9, hi_f9, e_f9⟩ := inR_nL (a := 0) (b := 79) rfl rfl (by decide) (by decide) c_2
      subst e_f9
      have t_f9 := tn_nI (n := f9) (by omega)
      refine lv_aload_n hx hb dX3_away_24 rfl (lv_at hl 0 rfl) ?_
      refine va_get (D := D) (ci := 3) (v := .ref (b 0)) (C := RX3) (T := TX3) (N := 5) hx hb hts inX3 hown hE.1 hP 17 rfl rfl 4 (by decide) F30 (fun _ h9 => h9) rfl dX3_away_25 ?_
      refine lv_aload_n hx hb dX3_away_28 rfl (lv_at hl 0 rfl) ?_
      refine va_get (D := D) (ci := 3) (v := .ref (a 0)) (C := RX3) (T := TX3) (N := 5) hx hb hts inX3 hown hE.1 hP 17 rfl rfl 0 (by decide) F12 (fun _ h9 => h9) rfl dX3_away_29 ?_
      refine lv_iload_n hx hb dX3_away_32 rfl (lv_at hl 1 rfl) ?_
      refine lv_iload_n hx hb dX3_away_33 rfl (lv_at hl 2 rfl) ?_
      refine wr_V (rest := []) (ci := 2) (q0 := 12) ⟨hx, hb, hml, hown, hts⟩ hP hE hA hD hS (c_X2_fewestPieces l D K _ _ _ _ _ _ _ _ s9 f9 hI (by omega) (by omega)) (cwV 3 hts gX3_away_X2_fewestPieces rfl rfl rfl hd_X2_fewestPieces ⟨Nat.le_of_ble_eq_true rfl, Nat.le_of_ble_eq_true rfl⟩) rfl rfl rfl rfl hl.1 rfl (Nat.le_of_ble_eq_true rfl) dX3_away_34 ⟨Nat.le_of_ble_eq_true rfl, Nat.le_of_ble_eq_true rfl⟩ (fun H locs hP hD hS => ?_)
      have hP : va_P D vwCl (townW K a T ++ (waysW K b ((fewS T s9 qu).1) ((fewS T s9 qu).2.1) ((fewS T s9 qu).2.2) ++ (textW K t cs ln ++ (mainW K a b t c g sn ++ svW K g Sv X)))) H := hP
      have hD : va_D A (townW K a T ++ (waysW K b ((fewS T s9 qu).1) ((fewS T s9 qu).2.1) ((fewS T s9 qu).2.2) ++ (textW K t cs ln ++ (mainW K a b t c g sn ++ svW K g Sv X)))) := hD
      refine top_i (y := oI (wyO (dst T s9 0 f9))) (congrArg oI (few_eq hK _ (by omega))) ?_
      have ew : (townW K a T ++ (waysW K b ((fewS T s9 qu).1) ((fewS T s9 qu).2.1) ((fewS T s9 qu).2.2) ++ (textW K t cs ln ++ (mainW K a b t c g sn ++ svW K g Sv X)))) = (townW K a T ++ (waysW K b ((fewS T (tn (nI s9)) qu).1) ((fewS T (tn (nI s9)) qu).2.1) ((fewS T (tn (nI s9)) qu).2.2) ++ (textW K t cs ln ++ (mainW K a b t c g sn ++ svW K g Sv X)))) := by first | rfl | (simp [c_1, t_s9, c_2, t_f9]; done) | (simp [c_1, t_s9, c_2, t_f9] <;> rfl)
      rw [ew] at hP hD
      refine tx_iret hAe hP hD hS hx hb hr hk dX3_away_37 ⟨Nat.le_of_ble_eq_true rfl, Nat.le_of_ble_eq_true rfl⟩ ?_ (by first | rfl | (simp [setT_eq, c_1, t_s9, c_2, t_f9]; done) | (simp [setT_eq, c_1, t_s9, c_2, t_f9] <;> rfl))
      first | (simp [awE, c_1, t_s9, c_2, t_f9]; done) | (subst_vars; simp [awE, c_1, t_s9, c_2, t_f9]; done) | simp_all [awE]
    · refine tx_thr (n := 1) (cls := xIO) (is := 220) hx hb hst hown (by decide +kernel) K38 KI38 (fun w h => hts w (List.mem_cons_of_mem _ (List.mem_append_right _ h))) xh_IO xg_IO hXw.2.2.2.1 hXw (List.mem_of_getElem? (i := 24) rfl) hZ hAe hP hD hS (hl.1.trans hml.symm) hxt ⟨Nat.le_of_ble_eq_true rfl, Nat.le_of_ble_eq_true rfl⟩ ⟨Nat.le_of_ble_eq_true rfl, Nat.le_of_ble_eq_true rfl⟩ hk ⟨Nat.le_of_ble_eq_true rfl, Nat.le_of_ble_eq_true rfl⟩ (by decide) rfl ?_ dX3_away_14 dX3_away_17 dX3_away_18 dX3_away_20 dX3_away_23
      first | (simp [awE, c_1, t_s9, c_2]; done) | (subst_vars; simp [awE, c_1, t_s9, c_2]; done) | simp_all [awE]
set_option maxHeartbeats 4000000 in
set_option maxRecDepth 100000 in
theorem c_X3_cheapest (l : Launch) (D : va_G) (K : Nat → ClassId) (dp fs : Nat) (hst : l.stackTraces = false) (sz : Nat) (a b t c : Nat → Nat) (g : Nat → Nat → Nat) (T : TW) (X : va_W) (len : Nat → Option Nat) (qu : Nat → Nat) (n : Nat) (cs : Nat → Nat) (ln sn : Nat) (Sv : Nat → TW) (x f : Int32) (hI : Inv T) : Tx dp fs l yX3_cheapest wsX3_cheapest ({ frames := 6, cells := 1, slots := 6, locals := 128 } : Room) D K (townW K a T ++ (waysW K b len qu n ++ (textW K t cs ln ++ (mainW K a b t c g sn ++ svW K g Sv X)))) sz [.ref (c 0), .int x, .int f] (awE x f) xnA (townW K a T ++ (waysW K b (cheS T (tn x) len) qu n ++ (textW K t cs ln ++ (mainW K a b t c g sn ++ svW K g Sv X)))) (oI (wyO (dst T (tn x) 1 (tn f)))) 1 6 := by
  refine tx_intro (cc := cX3_cheapest) (maxL := 3) (ret := (some .int)) (by decide) rfl (Nat.le_of_ble_eq_true rfl) ?_
  intro pr en st md ar bl mt co A hx hb hml hr hts hown hk hsz hAe hP hE hD hS hA hxt hXw hZ ls hl
  have hown : st.vm.findClass RX3 = some md.cls := hown
  have hl : lv_has ls 3 [(0, .ref (c 0)), (1, .int x), (2, .int f)] := hl
  obtain ⟨H, hH⟩ : ∃ z, z = st.heap := ⟨_, rfl⟩
  obtain ⟨locs, hlo⟩ : ∃ z : List Loc, z = [] := ⟨_, rfl⟩
  have hP : va_P D vwCl (townW K a T ++ (waysW K b len qu n ++ (textW K t cs ln ++ (mainW K a b t c g sn ++ svW K g Sv X)))) H := by rw [hH]; exact hP
  have hS : va_S A st.heap H locs := by rw [hH, hlo]; exact hS
  suffices go : W pr l en (headSpec wsX3_cheapest ({ frames := 6, cells := 1, slots := 6, locals := 128 } : Room)).room st md ar bl mt co H locs 0 0 (vx_MQ bl (txQ D (townW K a T ++ (waysW K b len qu n ++ (textW K t cs ln ++ (mainW K a b t c g sn ++ svW K g Sv X)))) (townW K a T ++ (waysW K b (cheS T (tn x) len) qu n ++ (textW K t cs ln ++ (mainW K a b t c g sn ++ svW K g Sv X)))) sz (oI (wyO (dst T (tn x) 1 (tn f)))) (awE x f)) (txX D (townW K a T ++ (waysW K b len qu n ++ (textW K t cs ln ++ (mainW K a b t c g sn ++ svW K g Sv X)))) sz (awE x f) xnA) ar st 1 6 A) (F0 md 0 ls []) by rw [hH, hlo] at go; exact go
  clear hH hlo
  have K38 : (Cond.classLink RX3 38 "java/lang/IndexOutOfBoundsException").before ar st = true := hts _ (List.mem_of_getElem? (i := 1) rfl)
  have KI38 : (Cond.initialized "java/lang/IndexOutOfBoundsException").before ar st = true := hts _ (List.mem_of_getElem? (i := 2) rfl)
  have F30 : (Cond.fieldLink RX3 30 "TramTolls" "ways" "LTramTolls$Ways;").before ar st = true := hts _ (List.mem_of_getElem? (i := 3) rfl)
  have inX3 : ∀ w ∈ u_ws RX3 TX3 5, w ∈ wsX3_cheapest := fun w h => List.mem_cons_of_mem _ (List.mem_append_left _ (List.mem_append_left _ (List.mem_append_left _ (List.mem_append_right _ h))))
  have F12 : (Cond.fieldLink RX3 12 "TramTolls" "town" "LTramTolls$Town;").before ar st = true := hts _ (List.mem_of_getElem? (i := 4) rfl)
  refine lv_iload_n hx hb dX3_cheapest_0 rfl (lv_at hl 1 rfl) ?_
  refine rd_S (rest := []) ⟨hx, hb, hml, hown, hts⟩ hP hE (c_X3_isPlayer l D K _ x) (va_cwS 1 hts gX3_cheapest_X3_isPlayer rfl rfl rfl hn_X3_isPlayer ⟨Nat.le_of_ble_eq_true rfl, Nat.le_of_ble_eq_true rfl⟩) rfl hl.1 rfl (Nat.le_of_ble_eq_true rfl) dX3_cheapest_1 ⟨Nat.le_of_ble_eq_true rfl, Nat.le_of_ble_eq_true rfl⟩ ?_
  refine bv_if_eq (x := inR 0 3 x) (tgt := 14) hx hb dX3_cheapest_4 (by decide) (fun c_1 => ?_) (fun c_1 => ?_)
  · refine tx_thr (n := 1) (cls := xIO) (is := 220) hx hb hst hown (by decide +kernel) K38 KI38 (fun w h => hts w (List.mem_cons_of_mem _ (List.mem_append_right _ h))) xh_IO xg_IO hXw.2.2.2.1 hXw (List.mem_of_getElem? (i := 24) rfl) hZ hAe hP hD hS (hl.1.trans hml.symm) hxt ⟨Nat.le_of_ble_eq_true rfl, Nat.le_of_ble_eq_true rfl⟩ ⟨Nat.le_of_ble_eq_true rfl, Nat.le_of_ble_eq_true rfl⟩ hk ⟨Nat.le_of_ble_eq_true rfl, Nat.le_of_ble_eq_true rfl⟩ (by decide) rfl ?_ dX3_cheapest_14 dX3_cheapest_17 dX3_cheapest_18 dX3_cheapest_20 dX3_cheapest_23
    first | (simp [awE, c_1]; done) | (subst_vars; simp [awE, c_1]; done) | simp_all [awE]
  · obtain ⟨s9, lo_s9, hi_s9, e_s9⟩ := inR_nL (a := 0) (b := 3) rfl rfl (by decide) (by decide) c_1
    subst e_s9
    have t_s9 := tn_nI (n := s9) (by omega)
    refine lv_iload_n hx hb dX3_cheapest_7 rfl (lv_at hl 2 rfl) ?_
    refine rd_S (rest := []) ⟨hx, hb, hml, hown, hts⟩ hP hE (c_X3_isSquare l D K _ f) (va_cwS 1 hts gX3_cheapest_X3_isSquare rfl rfl rfl hn_X3_isSquare ⟨Nat.le_of_ble_eq_true rfl, Nat.le_of_ble_eq_true rfl⟩) rfl hl.1 rfl (Nat.le_of_ble_eq_true rfl) dX3_cheapest_8 ⟨Nat.le_of_ble_eq_true rfl, Nat.le_of_ble_eq_true rfl⟩ ?_
    refine bv_if_ne (x := inR 0 79 f) (tgt := 24) hx hb dX3_cheapest_11 (by decide) (fun c_2 => ?_) (fun c_2 => ?_)
    · obtain ⟨f9, lo_f9, hi_f9, e_f9⟩ := inR_nL (a := 0) (b := 79) rfl rfl (by decide) (by decide) c_2
      subst e_f9
      have t_f9 := tn_nI (n := f9) (by omega)
      refine lv_aload_n hx hb dX3_cheapest_24 rfl (lv_at hl 0 rfl) ?_
      refine va_get (D := D) (ci := 3) (v := .ref (b 0)) (C := RX3) (T := TX3) (N := 5) hx hb hts inX3 hown hE.1 hP 17 rfl rfl 4 (by decide) F30 (fun _ h9 => h9) rfl dX3_cheapest_25 ?_
      refine lv_aload_n hx hb dX3_cheapest_28 rfl (lv_at hl 0 rfl) ?_
      refine va_get (D := D) (ci := 3) (v := .ref (a 0)) (C := RX3) (T := TX3) (N := 5) hx hb hts inX3 hown hE.1 hP 17 rfl rfl 0 (by decide) F12 (fun _ h9 => h9) rfl dX3_cheapest_29 ?_
      refine lv_iload_n hx hb dX3_cheapest_32 rfl (lv_at hl 1 rfl) ?_
      refine lv_iload_n hx hb dX3_cheapest_33 rfl (lv_at hl 2 rfl) ?_
      refine wr_V (rest := []) (ci := 2) (q0 := 12) ⟨hx, hb, hml, hown, hts⟩ hP hE hA hD hS (c_X2_leastTolls l D K _ _ _ _ _ _ _ _ s9 f9 hI (by omega) (by omega)) (cwV 3 hts gX3_cheapest_X2_leastTolls rfl rfl rfl hd_X2_leastTolls ⟨Nat.le_of_ble_eq_true rfl, Nat.le_of_ble_eq_true rfl⟩) rfl rfl rfl rfl hl.1 rfl (Nat.le_of_ble_eq_true rfl) dX3_cheapest_34 ⟨Nat.le_of_ble_eq_true rfl, Nat.le_of_ble_eq_true rfl⟩ (fun H locs hP hD hS => ?_)
      have hP : va_P D vwCl (townW K a T ++ (waysW K b (cheS T s9 len) qu n ++ (textW K t cs ln ++ (mainW K a b t c g sn ++ svW K g Sv X)))) H := hP
      have hD : va_D A (townW K a T ++ (waysW K b (cheS T s9 len) qu n ++ (textW K t cs ln ++ (mainW K a b t c g sn ++ svW K g Sv X)))) := hD
      refine top_i (y := oI (wyO (dst T s9 1 f9))) (congrArg oI (che_eq hI _ (by omega))) ?_
      have ew : (townW K a T ++ (waysW K b (cheS T s9 len) qu n ++ (textW K t cs ln ++ (mainW K a b t c g sn ++ svW K g Sv X)))) = (townW K a T ++ (waysW K b (cheS T (tn (nI s9)) len) qu n ++ (textW K t cs ln ++ (mainW K a b t c g sn ++ svW K g Sv X)))) := by first | rfl | (simp [c_1, t_s9, c_2, t_f9]; done) | (simp [c_1, t_s9, c_2, t_f9] <;> rfl)
      rw [ew] at hP hD
      refine tx_iret hAe hP hD hS hx hb hr hk dX3_cheapest_37 ⟨Nat.le_of_ble_eq_true rfl, Nat.le_of_ble_eq_true rfl⟩ ?_ (by first | rfl | (simp [setT_eq, c_1, t_s9, c_2, t_f9]; done) | (simp [setT_eq, c_1, t_s9, c_2, t_f9] <;> rfl))
      first | (simp [awE, c_1, t_s9, c_2, t_f9]; done) | (subst_vars; simp [awE, c_1, t_s9, c_2, t_f9]; done) | simp_all [awE]
    · refine tx_thr (n := 1) (cls := xIO) (is := 220) hx hb hst hown (by decide +kernel) K38 KI38 (fun w h => hts w (List.mem_cons_of_mem _ (List.mem_append_right _ h))) xh_IO xg_IO hXw.2.2.2.1 hXw (List.mem_of_getElem? (i := 24) rfl) hZ hAe hP hD hS (hl.1.trans hml.symm) hxt ⟨Nat.le_of_ble_eq_true rfl, Nat.le_of_ble_eq_true rfl⟩ ⟨Nat.le_of_ble_eq_true rfl, Nat.le_of_ble_eq_true rfl⟩ hk ⟨Nat.le_of_ble_eq_true rfl, Nat.le_of_ble_eq_true rfl⟩ (by decide) rfl ?_ dX3_cheapest_14 dX3_cheapest_17 dX3_cheapest_18 dX3_cheapest_20 dX3_cheapest_23
      first | (simp [awE, c_1, t_s9, c_2]; done) | (subst_vars; simp [awE, c_1, t_s9, c_2]; done) | simp_all [awE]
set_option maxHeartbeats 4000000 in
set_option maxRecDepth 100000 in
theorem c_X3_best (l : Launch) (D : va_G) (K : Nat → ClassId) (dp fs : Nat) (hst : l.stackTraces = false) (sz : Nat) (a b t c : Nat → Nat) (g : Nat → Nat → Nat) (T : TW) (X : va_W) (len : Nat → Option Nat) (qu : Nat → Nat) (n : Nat) (cs : Nat → Nat) (ln sn : Nat) (Sv : Nat → TW) (x g9 : Int32) (hI : Inv T) (hK : HK T) : Tx dp fs l yX3_best wsX3_best ({ frames := 6, cells := 1, slots := 6, locals := 140 } : Room) D K (townW K a T ++ (waysW K b len qu n ++ (textW K t cs ln ++ (mainW K a b t c g sn ++ svW K g Sv X)))) sz [.ref (c 0), .int x, .int g9] (q2 0 3 1 6 x g9) xnA (townW K a T ++ (waysW K b ((mfS T (tn x) qu).1) ((mfS T (tn x) qu).2.1) ((mfS T (tn x) qu).2.2) ++ (textW K t cs ln ++ (mainW K a b t c g sn ++ svW K g Sv X)))) (oI (bdT T (tn x) (tn g9))) 1 6 := by
  refine tx_intro (cc := cX3_best) (maxL := 3) (ret := (some .int)) (by decide) rfl (Nat.le_of_ble_eq_true rfl) ?_
  intro pr en st md ar bl mt co A hx hb hml hr hts hown hk hsz hAe hP hE hD hS hA hxt hXw hZ ls hl
  have hown : st.vm.findClass RX3 = some md.cls := hown
  have hl : lv_has ls 3 [(0, .ref (c 0)), (1, .int x), (2, .int g9)] := hl
  obtain ⟨H, hH⟩ : ∃ z, z = st.heap := ⟨_, rfl⟩
  obtain ⟨locs, hlo⟩ : ∃ z : List Loc, z = [] := ⟨_, rfl⟩
  have hP : va_P D vwCl (townW K a T ++ (waysW K b len qu n ++ (textW K t cs ln ++ (mainW K a b t c g sn ++ svW K g Sv X)))) H := by rw [hH]; exact hP
  have hS : va_S A st.heap H locs := by rw [hH, hlo]; exact hS
  suffices go : W pr l en (headSpec wsX3_best ({ frames := 6, cells := 1, slots := 6, locals := 140 } : Room)).room st md ar bl mt co H locs 0 0 (vx_MQ bl (txQ D (townW K a T ++ (waysW K b len qu n ++ (textW K t cs ln ++ (mainW K a b t c g sn ++ svW K g Sv X)))) (townW K a T ++ (waysW K b ((mfS T (tn x) qu).1) ((mfS T (tn x) qu).2.1) ((mfS T (tn x) qu).2.2) ++ (textW K t cs ln ++ (mainW K a b t c g sn ++ svW K g Sv X)))) sz (oI (bdT T (tn x) (tn g9))) (q2 0 3 1 6 x g9)) (txX D (townW K a T ++ (waysW K b len qu n ++ (textW K t cs ln ++ (mainW K a b t c g sn ++ svW K g Sv X)))) sz (q2 0 3 1 6 x g9) xnA) ar st 1 6 A) (F0 md 0 ls []) by rw [hH, hlo] at go; exact go
  clear hH hlo
  have F30 : (Cond.fieldLink RX3 30 "TramTolls" "ways" "LTramTolls$Ways;").before ar st = true := hts _ (List.mem_of_getElem? (i := 5) rfl)
  have inX3 : ∀ w ∈ u_ws RX3 TX3 5, w ∈ wsX3_best := fun w h => List.mem_cons_of_mem _ (List.mem_append_left _ (List.mem_append_left _ (List.mem_append_left _ (List.mem_append_left _ (List.mem_append_right _ h)))))
  have F12 : (Cond.fieldLink RX3 12 "TramTolls" "town" "LTramTolls$Town;").before ar st = true := hts _ (List.mem_of_getElem? (i := 6) rfl)
  have K111 : (Cond.classLink RX3 111 "java/lang/IllegalArgumentException").before ar st = true := hts _ (List.mem_of_getElem? (i := 3) rfl)
  have KI111 : (Cond.initialized "java/lang/IllegalArgumentException").before ar st = true := hts _ (List.mem_of_getElem? (i := 4) rfl)
  have K38 : (Cond.classLink RX3 38 "java/lang/IndexOutOfBoundsException").before ar st = true := hts _ (List.mem_of_getElem? (i := 1) rfl)
  have KI38 : (Cond.initialized "java/lang/IndexOutOfBoundsException").before ar st = true := hts _ (List.mem_of_getElem? (i := 2) rfl)
  refine lv_iload_n hx hb dX3_best_0 rfl (lv_at hl 1 rfl) ?_
  refine rd_S (rest := []) ⟨hx, hb, hml, hown, hts⟩ hP hE (c_X3_isPlayer l D K _ x) (va_cwS 1 hts gX3_best_X3_isPlayer rfl rfl rfl hn_X3_isPlayer ⟨Nat.le_of_ble_eq_true rfl, Nat.le_of_ble_eq_true rfl⟩) rfl hl.1 rfl (Nat.le_of_ble_eq_true rfl) dX3_best_1 ⟨Nat.le_of_ble_eq_true rfl, Nat.le_of_ble_eq_true rfl⟩ ?_
  refine bv_if_ne (x := inR 0 3 x) (tgt := 17) hx hb dX3_best_4 (by decide) (fun c_1 => ?_) (fun c_1 => ?_)
  · obtain ⟨s9, lo_s9, hi_s9, e_s9⟩ := inR_nL (a := 0) (b := 3) rfl rfl (by decide) (by decide) c_1
    subst e_s9
    have t_s9 := tn_nI (n := s9) (by omega)
    refine lv_iload_n hx hb dX3_best_17 rfl (lv_at hl 2 rfl) ?_
    refine rd_S (rest := []) ⟨hx, hb, hml, hown, hts⟩ hP hE (c_X3_isDie l D K _ g9) (va_cwS 1 hts gX3_best_X3_isDie rfl rfl rfl hn_X3_isDie ⟨Nat.le_of_ble_eq_true rfl, Nat.le_of_ble_eq_true rfl⟩) rfl hl.1 rfl (Nat.le_of_ble_eq_true rfl) dX3_best_18 ⟨Nat.le_of_ble_eq_true rfl, Nat.le_of_ble_eq_true rfl⟩ ?_
    refine bv_if_ne (x := inR 1 6 g9) (tgt := 34) hx hb dX3_best_21 (by decide) (fun c_2 => ?_) (fun c_2 => ?_)
    · obtain ⟨k9, lo_k9, hi_k9, e_k9⟩ := inR_nL (a := 1) (b := 6) rfl rfl (by decide) (by decide) c_2
      subst e_k9
      have t_k9 := tn_nI (n := k9) (by omega)
      refine lv_aload_n hx hb dX3_best_34 rfl (lv_at hl 0 rfl) ?_
      refine va_get (D := D) (ci := 3) (v := .ref (b 0)) (C := RX3) (T := TX3) (N := 5) hx hb hts inX3 hown hE.1 hP 17 rfl rfl 4 (by decide) F30 (fun _ h9 => h9) rfl dX3_best_35 ?_
      refine lv_aload_n hx hb dX3_best_38 rfl (lv_at hl 0 rfl) ?_
      refine va_get (D := D) (ci := 3) (v := .ref (a 0)) (C := RX3) (T := TX3) (N := 5) hx hb hts inX3 hown hE.1 hP 17 rfl rfl 0 (by decide) F12 (fun _ h9 => h9) rfl dX3_best_39 ?_
      refine lv_iload_n hx hb dX3_best_42 rfl (lv_at hl 1 rfl) ?_
      refine lv_iload_n hx hb dX3_best_43 rfl (lv_at hl 2 rfl) ?_
      refine wr_V (rest := []) (ci := 2) (q0 := 12) ⟨hx, hb, hml, hown, hts⟩ hP hE hA hD hS (c_X2_bestDirection l D K _ _ _ _ _ _ _ _ s9 k9 hI (by omega) (by omega)) (cwV 3 hts gX3_best_X2_bestDirection rfl rfl rfl hd_X2_bestDirection ⟨Nat.le_of_ble_eq_true rfl, Nat.le_of_ble_eq_true rfl⟩) rfl rfl rfl rfl hl.1 rfl (Nat.le_of_ble_eq_true rfl) dX3_best_44 ⟨Nat.le_of_ble_eq_true rfl, Nat.le_of_ble_eq_true rfl⟩ (fun H locs hP hD hS => ?_)
      have hP : va_P D vwCl (townW K a T ++ (waysW K b ((mfS T s9 qu).1) ((mfS T s9 qu).2.1) ((mfS T s9 qu).2.2) ++ (textW K t cs ln ++ (mainW K a b t c g sn ++ svW K g Sv X)))) H := hP
      have hD : va_D A (townW K a T ++ (waysW K b ((mfS T s9 qu).1) ((mfS T s9 qu).2.1) ((mfS T s9 qu).2.2) ++ (textW K t cs ln ++ (mainW K a b t c g sn ++ svW K g Sv X)))) := hD
      refine top_i (y := oI (bdT T s9 k9)) (bd_dir hI hK _ (by omega)) ?_
      have ew : (townW K a T ++ (waysW K b ((mfS T s9 qu).1) ((mfS T s9 qu).2.1) ((mfS T s9 qu).2.2) ++ (textW K t cs ln ++ (mainW K a b t c g sn ++ svW K g Sv X)))) = (townW K a T ++ (waysW K b ((mfS T (tn (nI s9)) qu).1) ((mfS T (tn (nI s9)) qu).2.1) ((mfS T (tn (nI s9)) qu).2.2) ++ (textW K t cs ln ++ (mainW K a b t c g sn ++ svW K g Sv X)))) := by first | rfl | (simp [c_1, t_s9, c_2, t_k9]; done) | (simp [c_1, t_s9, c_2, t_k9] <;> rfl)
      rw [ew] at hP hD
      refine tx_iret hAe hP hD hS hx hb hr hk dX3_best_47 ⟨Nat.le_of_ble_eq_true rfl, Nat.le_of_ble_eq_true rfl⟩ ?_ (by first | rfl | (simp [setT_eq, c_1, t_s9, c_2, t_k9]; done) | (simp [setT_eq, c_1, t_s9, c_2, t_k9] <;> rfl))
      first | (simp [q2, c_1, t_s9, c_2, t_k9]; done) | (subst_vars; simp [q2, c_1, t_s9, c_2, t_k9]; done) | simp_all [q2]
    · refine tx_thr (n := 2) (cls := xIA) (is := 229) hx hb hst hown (by decide +kernel) K111 KI111 (fun w h => hts w (List.mem_cons_of_mem _ (List.mem_append_right _ h))) xh_IA xg_IA hXw.2.2.2.2.1 hXw (List.mem_of_getElem? (i := 25) rfl) hZ hAe hP hD hS (hl.1.trans hml.symm) hxt ⟨Nat.le_of_ble_eq_true rfl, Nat.le_of_ble_eq_true rfl⟩ ⟨Nat.le_of_ble_eq_true rfl, Nat.le_of_ble_eq_true rfl⟩ hk ⟨Nat.le_of_ble_eq_true rfl, Nat.le_of_ble_eq_true rfl⟩ (by decide) rfl ?_ dX3_best_24 dX3_best_27 dX3_best_28 dX3_best_30 dX3_best_33
      first | (simp [q2, c_1, t_s9, c_2]; done) | (subst_vars; simp [q2, c_1, t_s9, c_2]; done) | simp_all [q2]
  · refine tx_thr (n := 1) (cls := xIO) (is := 103) hx hb hst hown (by decide +kernel) K38 KI38 (fun w h => hts w (List.mem_cons_of_mem _ (List.mem_append_left _ (List.mem_append_right _ h)))) xh_IO xg_IO hXw.2.2.2.1 hXw (List.mem_of_getElem? (i := 6) rfl) hZ hAe hP hD hS (hl.1.trans hml.symm) hxt ⟨Nat.le_of_ble_eq_true rfl, Nat.le_of_ble_eq_true rfl⟩ ⟨Nat.le_of_ble_eq_true rfl, Nat.le_of_ble_eq_true rfl⟩ hk ⟨Nat.le_of_ble_eq_true rfl, Nat.le_of_ble_eq_true rfl⟩ (by decide) rfl ?_ dX3_best_7 dX3_best_10 dX3_best_11 dX3_best_13 dX3_best_16
    first | (simp [q2, c_1]; done) | (subst_vars; simp [q2, c_1]; done) | simp_all [q2]
set_option maxHeartbeats 4000000 in
set_option maxRecDepth 100000 in
theorem c_X3_ahead (l : Launch) (D : va_G) (K : Nat → ClassId) (a b t c : Nat → Nat) (g : Nat → Nat → Nat) (T : TW) (X : va_W) (len : Nat → Option Nat) (qu : Nat → Nat) (n : Nat) (cs : Nat → Nat) (ln sn : Nat) (Sv : Nat → TW) (hI : Inv T) : Rd l yX3_ahead wsX3_ahead ({ frames := 5, cells := 0, slots := 0, locals := 101 } : Room) D K (townW K a T ++ (waysW K b len qu n ++ (textW K t cs ln ++ (mainW K a b t c g sn ++ svW K g Sv X)))) [.ref (c 0)] (.int (nI (ldT T 4))) := by
  refine rd_intro (cc := cX3_ahead) (maxL := 1) (ret := (some .int)) (by decide) rfl (Nat.le_of_ble_eq_true rfl) ?_
  intro pr en st md ar bl mt co hx hb hml hr hts hown hk hP hE ls hl
  have hown : st.vm.findClass RX3 = some md.cls := hown
  have hl : lv_has ls 1 [(0, .ref (c 0))] := hl
  have F12 : (Cond.fieldLink RX3 12 "TramTolls" "town" "LTramTolls$Town;").before ar st = true := hts _ (List.mem_of_getElem? (i := 1) rfl)
  have inX3 : ∀ w ∈ u_ws RX3 TX3 5, w ∈ wsX3_ahead := fun w h => List.mem_cons_of_mem _ (List.mem_append_left _ (List.mem_append_right _ h))
  refine lv_aload_n hx hb dX3_ahead_0 rfl (lv_at hl 0 rfl) ?_
  refine va_get (D := D) (ci := 3) (v := .ref (a 0)) (C := RX3) (T := TX3) (N := 5) hx hb hts inX3 hown hE.1 hP 17 rfl rfl 0 (by decide) F12 (fun _ h9 => h9) rfl dX3_ahead_1 ?_
  refine rd_V (rest := []) (ci := 1) (q0 := 0) ⟨hx, hb, hml, hown, hts⟩ hP hE (c_X1_leader l D K _ _ _  hI ) (cwV 0 hts gX3_ahead_X1_leader rfl rfl rfl hd_X1_leader ⟨Nat.le_of_ble_eq_true rfl, Nat.le_of_ble_eq_true rfl⟩) rfl rfl rfl rfl hl.1 rfl (Nat.le_of_ble_eq_true rfl) dX3_ahead_4 ⟨Nat.zero_le _, Nat.zero_le _⟩ ?_
  have hb_1 := ld_lt T 4 (by decide)
  exact rd_iret hx hb hr hk dX3_ahead_7 (rfl)
set_option maxHeartbeats 4000000 in
set_option maxRecDepth 100000 in
theorem c_X3_shared (l : Launch) (D : va_G) (K : Nat → ClassId) (a b t c : Nat → Nat) (g : Nat → Nat → Nat) (T : TW) (X : va_W) (len : Nat → Option Nat) (qu : Nat → Nat) (n : Nat) (cs : Nat → Nat) (ln sn : Nat) (Sv : Nat → TW) (hI : Inv T) : Rd l yX3_shared wsX3_shared ({ frames := 5, cells := 0, slots := 0, locals := 98 } : Room) D K (townW K a T ++ (waysW K b len qu n ++ (textW K t cs ln ++ (mainW K a b t c g sn ++ svW K g Sv X)))) [.ref (c 0)] (.double (shD (swT T 2) (swT T 1))) := by
  refine rd_intro (cc := cX3_shared) (maxL := 1) (ret := (some .double)) (by decide) rfl (Nat.le_of_ble_eq_true rfl) ?_
  intro pr en st md ar bl mt co hx hb hml hr hts hown hk hP hE ls hl
  have hown : st.vm.findClass RX3 = some md.cls := hown
  have hl : lv_has ls 1 [(0, .ref (c 0))] := hl
  have F12 : (Cond.fieldLink RX3 12 "TramTolls" "town" "LTramTolls$Town;").before ar st = true := hts _ (List.mem_of_getElem? (i := 1) rfl)
  have inX3 : ∀ w ∈ u_ws RX3 TX3 5, w ∈ wsX3_shared := fun w h => List.mem_cons_of_mem _ (List.mem_append_left _ (List.mem_append_right _ h))
  refine lv_aload_n hx hb dX3_shared_0 rfl (lv_at hl 0 rfl) ?_
  refine va_get (D := D) (ci := 3) (v := .ref (a 0)) (C := RX3) (T := TX3) (N := 5) hx hb hts inX3 hown hE.1 hP 17 rfl rfl 0 (by decide) F12 (fun _ h9 => h9) rfl dX3_shared_1 ?_
  refine rd_V (rest := []) (ci := 1) (q0 := 0) ⟨hx, hb, hml, hown, hts⟩ hP hE (c_X1_share l D K _ _ _ hI) (cwV 0 hts gX3_shared_X1_share rfl rfl rfl hd_X1_share ⟨Nat.le_of_ble_eq_true rfl, Nat.le_of_ble_eq_true rfl⟩) rfl rfl rfl rfl hl.1 rfl (Nat.le_of_ble_eq_true rfl) dX3_shared_4 ⟨Nat.zero_le _, Nat.zero_le _⟩ ?_
  exact rd_dret hx hb hr hk dX3_shared_7 (rfl)
set_option maxHeartbeats 4000000 in
set_option maxRecDepth 100000 in
theorem c_X3_firstError (l : Launch) (D : va_G) (K : Nat → ClassId) (a b t c : Nat → Nat) (g : Nat → Nat → Nat) (T : TW) (X : va_W) (len : Nat → Option Nat) (qu : Nat → Nat) (n : Nat) (cs : Nat → Nat) (ln sn : Nat) (Sv : Nat → TW) (hCB : CB cs ln) : Rd l yX3_firstError wsX3_firstError ({ frames := 4, cells := 0, slots := 0, locals := 75 } : Room) D K (townW K a T ++ (waysW K b len qu n ++ (textW K t cs ln ++ (mainW K a b t c g sn ++ svW K g Sv X)))) [.ref (c 0)] (.int (nI (errS cs ln))) := by
  refine rd_intro (cc := cX3_firstError) (maxL := 1) (ret := (some .int)) (by decide) rfl (Nat.le_of_ble_eq_true rfl) ?_
  intro pr en st md ar bl mt co hx hb hml hr hts hown hk hP hE ls hl
  have hown : st.vm.findClass RX3 = some md.cls := hown
  have hl : lv_has ls 1 [(0, .ref (c 0))] := hl
  have F23 : (Cond.fieldLink RX3 23 "TramTolls" "text" "LTramTolls$Text;").before ar st = true := hts _ (List.mem_of_getElem? (i := 1) rfl)
  have inX3 : ∀ w ∈ u_ws RX3 TX3 5, w ∈ wsX3_firstError := fun w h => List.mem_cons_of_mem _ (List.mem_append_left _ (List.mem_append_right _ h))
  refine lv_aload_n hx hb dX3_firstError_0 rfl (lv_at hl 0 rfl) ?_
  refine va_get (D := D) (ci := 3) (v := .ref (t 0)) (C := RX3) (T := TX3) (N := 5) hx hb hts inX3 hown hE.1 hP 17 rfl rfl 3 (by decide) F23 (fun _ h9 => h9) rfl dX3_firstError_1 ?_
  refine rd_V (rest := []) (ci := 0) (q0 := 15) ⟨hx, hb, hml, hown, hts⟩ hP hE (c_X0_errorIndex l D K _ _ _ _ _ _ _ _ _ _ hCB) (cwV 0 hts gX3_firstError_X0_errorIndex rfl rfl rfl hd_X0_errorIndex ⟨Nat.le_of_ble_eq_true rfl, Nat.le_of_ble_eq_true rfl⟩) rfl rfl rfl rfl hl.1 rfl (Nat.le_of_ble_eq_true rfl) dX3_firstError_4 ⟨Nat.zero_le _, Nat.zero_le _⟩ ?_
  exact rd_iret hx hb hr hk dX3_firstError_7 (rfl)
set_option maxHeartbeats 4000000 in
set_option maxRecDepth 100000 in
theorem c_X3_clearBuffer (l : Launch) (D : va_G) (K : Nat → ClassId) (sz : Nat) (a b t c : Nat → Nat) (g : Nat → Nat → Nat) (T : TW) (X : va_W) (len : Nat → Option Nat) (qu : Nat → Nat) (n : Nat) (cs : Nat → Nat) (ln sn : Nat) (Sv : Nat → TW) : Wr l yX3_clearBuffer wsX3_clearBuffer ({ frames := 1, cells := 0, slots := 0, locals := 12 } : Room) D K (townW K a T ++ (waysW K b len qu n ++ (textW K t cs ln ++ (mainW K a b t c g sn ++ svW K g Sv X)))) sz [.ref (c 0)] (townW K a T ++ (waysW K b len qu n ++ (textW K t cs 0 ++ (mainW K a b t c g sn ++ svW K g Sv X)))) (some (.int (nI ln))) 0 0 := by
  refine wr_intro (cc := cX3_clearBuffer) (maxL := 2) (ret := (some .int)) (by decide) rfl (Nat.le_of_ble_eq_true rfl) ?_
  intro pr en st md ar bl mt co A hx hb hml hr hts hown hk hsz hAe hP hE hD hS hA hin ls hl
  have hown : st.vm.findClass RX3 = some md.cls := hown
  have hl : lv_has ls 2 [(0, .ref (c 0))] := hl
  obtain ⟨H, hH⟩ : ∃ z, z = st.heap := ⟨_, rfl⟩
  obtain ⟨locs, hlo⟩ : ∃ z : List Loc, z = [] := ⟨_, rfl⟩
  have hP : va_P D vwCl (townW K a T ++ (waysW K b len qu n ++ (textW K t cs ln ++ (mainW K a b t c g sn ++ svW K g Sv X)))) H := by rw [hH]; exact hP
  have hS : va_S A st.heap H locs := by rw [hH, hlo]; exact hS
  suffices go : W pr l en (headSpec wsX3_clearBuffer ({ frames := 1, cells := 0, slots := 0, locals := 12 } : Room)).room st md ar bl mt co H locs 0 0 (MQ bl (wrQ D (townW K a T ++ (waysW K b len qu n ++ (textW K t cs ln ++ (mainW K a b t c g sn ++ svW K g Sv X)))) (townW K a T ++ (waysW K b len qu n ++ (textW K t cs 0 ++ (mainW K a b t c g sn ++ svW K g Sv X)))) sz (some (.int (nI ln)))) ar st 0 0 A) (F0 md 0 ls []) by rw [hH, hlo] at go; exact go
  clear hH hlo
  have F23 : (Cond.fieldLink RX3 23 "TramTolls" "text" "LTramTolls$Text;").before ar st = true := hts _ (List.mem_of_getElem? (i := 1) rfl)
  have inX3 : ∀ w ∈ u_ws RX3 TX3 5, w ∈ wsX3_clearBuffer := fun w h => List.mem_cons_of_mem _ (List.mem_append_left _ (List.mem_append_right _ h))
  have F165 : (Cond.fieldLink RX3 165 "TramTolls$Text" "length" "I").before ar st = true := hts _ (List.mem_of_getElem? (i := 2) rfl)
  have inX0 : ∀ w ∈ u_ws RX0 TX0 2, w ∈ wsX3_clearBuffer := fun w h => List.mem_cons_of_mem _ (List.mem_append_right _ h)
  refine lv_aload_n hx hb dX3_clearBuffer_0 rfl (lv_at hl 0 rfl) ?_
  refine va_get (D := D) (ci := 3) (v := .ref (t 0)) (C := RX3) (T := TX3) (N := 5) hx hb hts inX3 hown hE.1 hP 17 rfl rfl 3 (by decide) F23 (fun _ h9 => h9) rfl dX3_clearBuffer_1 ?_
  refine va_get (D := D) (ci := 0) (v := .int (nI ln)) (C := RX0) (T := TX0) (N := 2) hx hb hts inX0 hown hE.1 hP 15 rfl rfl 1 (by decide) F165 (fun _ h9 => h9) rfl dX3_clearBuffer_4 ?_
  refine lv_istore_n (lv' := [(1, .int (nI ln)), (0, .ref (c 0))]) hx hb dX3_clearBuffer_7 rfl hl (by decide) rfl (fun ls hl => ?_)
  refine lv_aload_n hx hb dX3_clearBuffer_8 rfl (lv_at hl 1 rfl) ?_
  refine va_get (D := D) (ci := 3) (v := .ref (t 0)) (C := RX3) (T := TX3) (N := 5) hx hb hts inX3 hown hE.1 hP 17 rfl rfl 3 (by decide) F23 (fun _ h9 => h9) rfl dX3_clearBuffer_9 ?_
  refine lv_iconst (v := nI 0) hx hb dX3_clearBuffer_12 (by decide) ?_
  refine va_put (D := D) (ci := 0) (v := .int (nI 0)) (ty := .int) (C := RX0) (T := TX0) (N := 2) hx hb hts inX0 tyX0 tyX0_ok nmX0 hown hE.1 hP hD hS 15 rfl rfl 1 (by decide) F165 (fun _ h9 => h9) rfl (by decide +kernel) rfl rfl (Nat.le_of_ble_eq_true rfl) dX3_clearBuffer_13 (fun H locs hP hD hS => ?_)
  have hP : va_P D vwCl (townW K a T ++ (waysW K b len qu n ++ (textW K t cs 0 ++ (mainW K a b t c g sn ++ svW K g Sv X)))) H := hP
  have hD : va_D A (townW K a T ++ (waysW K b len qu n ++ (textW K t cs 0 ++ (mainW K a b t c g sn ++ svW K g Sv X)))) := hD
  refine lv_iload_n hx hb dX3_clearBuffer_16 rfl (lv_at hl 0 rfl) ?_
  exact wr_iret hAe hP hD hS hx hb hr hk dX3_clearBuffer_17 ⟨Nat.le_of_ble_eq_true rfl, Nat.le_of_ble_eq_true rfl⟩ (rfl)
