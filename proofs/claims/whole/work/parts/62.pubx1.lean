set_option maxHeartbeats 4000000 in
set_option maxRecDepth 100000 in
theorem c_X3_house (l : Launch) (D : va_G) (K : Nat → ClassId) (dp fs : Nat) (hst : l.stackTraces = false) (sz : Nat) (a b t c : Nat → Nat) (g : Nat → Nat → Nat) (T : TW) (X : va_W) (len : Nat → Option Nat) (qu : Nat → Nat) (n : Nat) (cs : Nat → Nat) (ln sn : Nat) (Sv : Nat → TW) (x : Int32) (on : Bool) (hI : Inv T) (hsn : sn ≤ 6) : Tx dp fs l yX3_house wsX3_house ({ frames := 6, cells := 1, slots := 6, locals := 103 } : Room) D K (townW K a T ++ (waysW K b len qu n ++ (textW K t cs ln ++ (mainW K a b t c g sn ++ svW K g Sv X)))) sz [.ref (c 0), .int x, .int (bI on)] (houE T x) xnB (townW K a (setT T 0 (tn x) (bI on)) ++ (waysW K b len qu n ++ (textW K t cs ln ++ (mainW K a b t c (svG g sn) (svN sn) ++ svW K (svG g sn) (svV Sv sn T) X)))) (bI (hsT T (tn x))) 1 6 := by
  refine tx_intro (cc := cX3_house) (maxL := 4) (ret := (some .int)) (by decide) rfl (Nat.le_of_ble_eq_true rfl) ?_
  intro pr en st md ar bl mt co A hx hb hml hr hts hown hk hsz hAe hP hE hD hS hA hxt hXw hZ ls hl
  have hown : st.vm.findClass RX3 = some md.cls := hown
  have hl : lv_has ls 4 [(0, .ref (c 0)), (1, .int x), (2, .int (bI on))] := hl
  obtain ⟨H, hH⟩ : ∃ z, z = st.heap := ⟨_, rfl⟩
  obtain ⟨locs, hlo⟩ : ∃ z : List Loc, z = [] := ⟨_, rfl⟩
  have hP : va_P D vwCl (townW K a T ++ (waysW K b len qu n ++ (textW K t cs ln ++ (mainW K a b t c g sn ++ svW K g Sv X)))) H := by rw [hH]; exact hP
  have hS : va_S A st.heap H locs := by rw [hH, hlo]; exact hS
  suffices go : W pr l en (headSpec wsX3_house ({ frames := 6, cells := 1, slots := 6, locals := 103 } : Room)).room st md ar bl mt co H locs 0 0 (vx_MQ bl (txQ D (townW K a T ++ (waysW K b len qu n ++ (textW K t cs ln ++ (mainW K a b t c g sn ++ svW K g Sv X)))) (townW K a (setT T 0 (tn x) (bI on)) ++ (waysW K b len qu n ++ (textW K t cs ln ++ (mainW K a b t c (svG g sn) (svN sn) ++ svW K (svG g sn) (svV Sv sn T) X)))) sz (bI (hsT T (tn x))) (houE T x)) (txX D (townW K a T ++ (waysW K b len qu n ++ (textW K t cs ln ++ (mainW K a b t c g sn ++ svW K g Sv X)))) sz (houE T x) xnB) ar st 1 6 A) (F0 md 0 ls []) by rw [hH, hlo] at go; exact go
  clear hH hlo
  have F12 : (Cond.fieldLink RX3 12 "TramTolls" "town" "LTramTolls$Town;").before ar st = true := hts _ (List.mem_of_getElem? (i := 5) rfl)
  have inX3 : ∀ w ∈ u_ws RX3 TX3 5, w ∈ wsX3_house := fun w h => List.mem_cons_of_mem _ (List.mem_append_left _ (List.mem_append_left _ (List.mem_append_left _ (List.mem_append_right _ h))))
  have K52 : (Cond.classLink RX3 52 "java/lang/IllegalStateException").before ar st = true := hts _ (List.mem_of_getElem? (i := 3) rfl)
  have KI52 : (Cond.initialized "java/lang/IllegalStateException").before ar st = true := hts _ (List.mem_of_getElem? (i := 4) rfl)
  have F60 : (Cond.fieldLink RX3 60 "TramTolls$Town" "houses" "[I").before ar st = true := hts _ (List.mem_of_getElem? (i := 6) rfl)
  have inX1 : ∀ w ∈ u_ws RX1 TX1 12, w ∈ wsX3_house := fun w h => List.mem_cons_of_mem _ (List.mem_append_left _ (List.mem_append_left _ (List.mem_append_right _ h)))
  have K38 : (Cond.classLink RX3 38 "java/lang/IndexOutOfBoundsException").before ar st = true := hts _ (List.mem_of_getElem? (i := 1) rfl)
  have KI38 : (Cond.initialized "java/lang/IndexOutOfBoundsException").before ar st = true := hts _ (List.mem_of_getElem? (i := 2) rfl)
  refine lv_iload_n hx hb dX3_house_0 rfl (lv_at hl 1 rfl) ?_
  refine rd_S (rest := []) ⟨hx, hb, hml, hown, hts⟩ hP hE (c_X3_isSquare l D K _ x) (va_cwS 1 hts gX3_house_X3_isSquare rfl rfl rfl hn_X3_isSquare ⟨Nat.le_of_ble_eq_true rfl, Nat.le_of_ble_eq_true rfl⟩) rfl hl.1 rfl (Nat.le_of_ble_eq_true rfl) dX3_house_1 ⟨Nat.le_of_ble_eq_true rfl, Nat.le_of_ble_eq_true rfl⟩ ?_
  refine bv_if_ne (x := inR 0 79 x) (tgt := 17) hx hb dX3_house_4 (by decide) (fun c_1 => ?_) (fun c_1 => ?_)
  · obtain ⟨s9, lo_s9, hi_s9, e_s9⟩ := inR_nL (a := 0) (b := 79) rfl rfl (by decide) (by decide) c_1
    subst e_s9
    have t_s9 := tn_nI (n := s9) (by omega)
    refine lv_aload_n hx hb dX3_house_17 rfl (lv_at hl 0 rfl) ?_
    refine va_get (D := D) (ci := 3) (v := .ref (a 0)) (C := RX3) (T := TX3) (N := 5) hx hb hts inX3 hown hE.1 hP 17 rfl rfl 0 (by decide) F12 (fun _ h9 => h9) rfl dX3_house_18 ?_
    refine lv_iload_n hx hb dX3_house_21 rfl (lv_at hl 1 rfl) ?_
    refine rd_V (rest := []) (ci := 1) (q0 := 0) ⟨hx, hb, hml, hown, hts⟩ hP hE (c_X1_tracksOn l D K _ _ _ s9 hI (by omega)) (cwV 1 hts gX3_house_X1_tracksOn rfl rfl rfl hd_X1_tracksOn ⟨Nat.le_of_ble_eq_true rfl, Nat.le_of_ble_eq_true rfl⟩) rfl rfl rfl rfl hl.1 rfl (Nat.le_of_ble_eq_true rfl) dX3_house_22 ⟨Nat.le_of_ble_eq_true rfl, Nat.le_of_ble_eq_true rfl⟩ ?_
    have hb_2 := trk_lt T s9
    refine nv_if_gt (x := trkT T s9) (tgt := 40) hx hb dX3_house_25 (by decide) (by omega) (fun c_3 => ?_) (fun c_3 => ?_)
    · have n_c_3 : ¬ trkT T s9 = 0 := by omega
      have m0_c_3 : ¬ mkT T s9 = 0 := fun q => by have := (trk_0 (mk_lt hI (by omega))).mpr q; omega
      refine tx_thr (n := 2) (cls := xIS) (is := 54) hx hb hst hown (by decide +kernel) K52 KI52 (fun w h => hts w (List.mem_cons_of_mem _ (List.mem_append_right _ h))) xh_IS xg_IS hXw.2.2.2.2.2.1 hXw (List.mem_of_getElem? (i := 1) rfl) hZ hAe hP hD hS (hl.1.trans hml.symm) hxt ⟨Nat.le_of_ble_eq_true rfl, Nat.le_of_ble_eq_true rfl⟩ ⟨Nat.le_of_ble_eq_true rfl, Nat.le_of_ble_eq_true rfl⟩ hk ⟨Nat.le_of_ble_eq_true rfl, Nat.le_of_ble_eq_true rfl⟩ (by decide) rfl ?_ dX3_house_40 dX3_house_43 dX3_house_44 dX3_house_46 dX3_house_49
      first | (simp [houE, sto_low, c_1, t_s9, c_3, n_c_3, m0_c_3]; done) | (subst_vars; simp [houE, sto_low, c_1, t_s9, c_3, n_c_3, m0_c_3]; done) | simp_all [houE, sto_low]
    · have n_c_3 : ¬ 0 < trkT T s9 := by omega
      have m0_c_3 : mkT T s9 = 0 := (trk_0 (mk_lt hI (by omega))).mp (by omega)
      refine lv_aload_n hx hb dX3_house_28 rfl (lv_at hl 0 rfl) ?_
      refine va_get (D := D) (ci := 3) (v := .ref (a 0)) (C := RX3) (T := TX3) (N := 5) hx hb hts inX3 hown hE.1 hP 17 rfl rfl 0 (by decide) F12 (fun _ h9 => h9) rfl dX3_house_29 ?_
      refine lv_iload_n hx hb dX3_house_32 rfl (lv_at hl 1 rfl) ?_
      refine rd_V (rest := []) (ci := 1) (q0 := 0) ⟨hx, hb, hml, hown, hts⟩ hP hE (c_X1_lowestStopOn l D K _ _ _ (some s9) hI (fun k z => by cases z; omega)) (cwV 1 hts gX3_house_X1_lowestStopOn rfl rfl rfl hd_X1_lowestStopOn ⟨Nat.le_of_ble_eq_true rfl, Nat.le_of_ble_eq_true rfl⟩) rfl rfl rfl rfl hl.1 rfl (Nat.le_of_ble_eq_true rfl) dX3_house_33 ⟨Nat.le_of_ble_eq_true rfl, Nat.le_of_ble_eq_true rfl⟩ ?_
      refine lv_iconst (v := -1) hx hb dX3_house_36 (by decide) ?_
      refine ov_icmp_eq (tgt := 50) hx hb dX3_house_37 (by decide) (lt31 (low_lt T (some s9)) (by decide)) (fun c_4 => ?_) (fun k_5 c_4 => ?_)
      · refine lv_aload_n hx hb dX3_house_50 rfl (lv_at hl 0 rfl) ?_
        refine wr_V (rest := []) (ci := 3) (q0 := 17) ⟨hx, hb, hml, hown, hts⟩ hP hE hA hD hS (c_X3_saveState l D K _ _ _ _ _ _ _ _ _ _ _ _ _ sn _ hsn) (cwV 0 hts gX3_house_X3_saveState rfl rfl rfl hd_X3_saveState ⟨Nat.le_of_ble_eq_true rfl, Nat.le_of_ble_eq_true rfl⟩) rfl rfl rfl rfl hl.1 rfl (Nat.le_of_ble_eq_true rfl) dX3_house_51 ⟨Nat.le_of_ble_eq_true rfl, Nat.le_of_ble_eq_true rfl⟩ (fun H locs hP hD hS => ?_)
        have hP : va_P D vwCl (townW K a T ++ (waysW K b len qu n ++ (textW K t cs ln ++ (mainW K a b t c (svG g sn) (svN sn) ++ svW K (svG g sn) (svV Sv sn T) X)))) H := hP
        have hD : va_D A (townW K a T ++ (waysW K b len qu n ++ (textW K t cs ln ++ (mainW K a b t c (svG g sn) (svN sn) ++ svW K (svG g sn) (svV Sv sn T) X)))) := hD
        refine lv_aload_n hx hb dX3_house_54 rfl (lv_at hl 0 rfl) ?_
        refine va_get (D := D) (ci := 3) (v := .ref (a 0)) (C := RX3) (T := TX3) (N := 5) hx hb hts inX3 hown hE.1 hP 17 rfl rfl 0 (by decide) F12 (fun _ h9 => h9) rfl dX3_house_55 ?_
        refine va_get (D := D) (ci := 1) (v := .ref (a 1)) (C := RX1) (T := TX1) (N := 12) hx hb hts inX1 hown hE.1 hP 0 rfl rfl 0 (by decide) F60 (fun _ h9 => h9) rfl dX3_house_58 ?_
        refine lv_iload_n hx hb dX3_house_61 rfl (lv_at hl 1 rfl) ?_
        refine rd_S (rest := []) ⟨hx, hb, hml, hown, hts⟩ hP hE (c_X3_at l D K _ 1 _ 80 _ s9 rfl (by omega) (by omega)) (va_cwS 2 hts gX3_house_X3_at rfl rfl rfl hn_X3_at ⟨Nat.le_of_ble_eq_true rfl, Nat.le_of_ble_eq_true rfl⟩) rfl hl.1 rfl (Nat.le_of_ble_eq_true rfl) dX3_house_62 ⟨Nat.le_of_ble_eq_true rfl, Nat.le_of_ble_eq_true rfl⟩ ?_
        refine top_i (y := bI (hsT T s9)) (show T 0 s9 = bI (hsT T s9) from eq_hs hI (by omega)) ?_
        refine lv_istore_n (lv' := [(3, .int (bI (hsT T s9))), (0, .ref (c 0)), (1, .int (nI s9)), (2, .int (bI on))]) hx hb dX3_house_65 rfl hl (by decide) rfl (fun ls hl => ?_)
        refine lv_aload_n hx hb dX3_house_66 rfl (lv_at hl 1 rfl) ?_
        refine va_get (D := D) (ci := 3) (v := .ref (a 0)) (C := RX3) (T := TX3) (N := 5) hx hb hts inX3 hown hE.1 hP 17 rfl rfl 0 (by decide) F12 (fun _ h9 => h9) rfl dX3_house_67 ?_
        refine va_get (D := D) (ci := 1) (v := .ref (a 1)) (C := RX1) (T := TX1) (N := 12) hx hb hts inX1 hown hE.1 hP 0 rfl rfl 0 (by decide) F60 (fun _ h9 => h9) rfl dX3_house_70 ?_
        refine lv_iload_n hx hb dX3_house_73 rfl (lv_at hl 2 rfl) ?_
        refine lv_iload_n hx hb dX3_house_74 rfl (lv_at hl 3 rfl) ?_
        refine bv_if_eq (x := on) (tgt := 82) hx hb dX3_house_75 (by decide) (fun c_6 => ?_) (fun c_6 => ?_)
        · refine lv_iconst (v := nI 0) hx hb dX3_house_82 (by decide) ?_
          refine wr_S (rest := []) ⟨hx, hb, hml, hown, hts⟩ hP hE hA hD hS (c_X3_put l D K _ _ 1 _ 80 _ s9 (nI 0) rfl (by omega) (by omega)) (va_cwS 3 hts gX3_house_X3_put rfl rfl rfl hn_X3_put ⟨Nat.le_of_ble_eq_true rfl, Nat.le_of_ble_eq_true rfl⟩) rfl hl.1 rfl (Nat.le_of_ble_eq_true rfl) dX3_house_83 ⟨Nat.le_of_ble_eq_true rfl, Nat.le_of_ble_eq_true rfl⟩ (fun H locs hP hD hS => ?_)
          have hP : va_P D vwCl (townW K a (setT T 0 s9 (nI 0)) ++ (waysW K b len qu n ++ (textW K t cs ln ++ (mainW K a b t c (svG g sn) (svN sn) ++ svW K (svG g sn) (svV Sv sn T) X)))) H := hP
          have hD : va_D A (townW K a (setT T 0 s9 (nI 0)) ++ (waysW K b len qu n ++ (textW K t cs ln ++ (mainW K a b t c (svG g sn) (svN sn) ++ svW K (svG g sn) (svV Sv sn T) X)))) := hD
          refine lv_iload_n hx hb dX3_house_86 rfl (lv_at hl 0 rfl) ?_
          have ew : (townW K a (setT T 0 s9 (nI 0)) ++ (waysW K b len qu n ++ (textW K t cs ln ++ (mainW K a b t c (svG g sn) (svN sn) ++ svW K (svG g sn) (svV Sv sn T) X)))) = (townW K a (setT T 0 (tn (nI s9)) (bI on)) ++ (waysW K b len qu n ++ (textW K t cs ln ++ (mainW K a b t c (svG g sn) (svN sn) ++ svW K (svG g sn) (svV Sv sn T) X)))) := by first | rfl | (simp [c_1, t_s9, c_3, n_c_3, m0_c_3, c_4, c_6]; done) | (simp [c_1, t_s9, c_3, n_c_3, m0_c_3, c_4, c_6] <;> rfl)
          rw [ew] at hP hD
          refine tx_iret hAe hP hD hS hx hb hr hk dX3_house_87 ⟨Nat.le_of_ble_eq_true rfl, Nat.le_of_ble_eq_true rfl⟩ ?_ (by first | rfl | (simp [setT_eq, c_1, t_s9, c_3, n_c_3, m0_c_3, c_4, c_6]; done) | (simp [setT_eq, c_1, t_s9, c_3, n_c_3, m0_c_3, c_4, c_6] <;> rfl))
          first | (simp [houE, sto_low, c_1, t_s9, c_3, n_c_3, m0_c_3, c_4, c_6]; done) | (subst_vars; simp [houE, sto_low, c_1, t_s9, c_3, n_c_3, m0_c_3, c_4, c_6]; done) | simp_all [houE, sto_low]
        · refine lv_iconst (v := nI 1) hx hb dX3_house_78 (by decide) ?_
          refine lv_goto (tgt := 83) hx hb dX3_house_79 (by decide) ?_
          refine wr_S (rest := []) ⟨hx, hb, hml, hown, hts⟩ hP hE hA hD hS (c_X3_put l D K _ _ 1 _ 80 _ s9 (nI 1) rfl (by omega) (by omega)) (va_cwS 3 hts gX3_house_X3_put rfl rfl rfl hn_X3_put ⟨Nat.le_of_ble_eq_true rfl, Nat.le_of_ble_eq_true rfl⟩) rfl hl.1 rfl (Nat.le_of_ble_eq_true rfl) dX3_house_83 ⟨Nat.le_of_ble_eq_true rfl, Nat.le_of_ble_eq_true rfl⟩ (fun H locs hP hD hS => ?_)
          have hP : va_P D vwCl (townW K a (setT T 0 s9 (nI 1)) ++ (waysW K b len qu n ++ (textW K t cs ln ++ (mainW K a b t c (svG g sn) (svN sn) ++ svW K (svG g sn) (svV Sv sn T) X)))) H := hP
          have hD : va_D A (townW K a (setT T 0 s9 (nI 1)) ++ (waysW K b len qu n ++ (textW K t cs ln ++ (mainW K a b t c (svG g sn) (svN sn) ++ svW K (svG g sn) (svV Sv sn T) X)))) := hD
          refine lv_iload_n hx hb dX3_house_86 rfl (lv_at hl 0 rfl) ?_
          have ew : (townW K a (setT T 0 s9 (nI 1)) ++ (waysW K b len qu n ++ (textW K t cs ln ++ (mainW K a b t c (svG g sn) (svN sn) ++ svW K (svG g sn) (svV Sv sn T) X)))) = (townW K a (setT T 0 (tn (nI s9)) (bI on)) ++ (waysW K b len qu n ++ (textW K t cs ln ++ (mainW K a b t c (svG g sn) (svN sn) ++ svW K (svG g sn) (svV Sv sn T) X)))) := by first | rfl | (simp [c_1, t_s9, c_3, n_c_3, m0_c_3, c_4, c_6]; done) | (simp [c_1, t_s9, c_3, n_c_3, m0_c_3, c_4, c_6] <;> rfl)
          rw [ew] at hP hD
          refine tx_iret hAe hP hD hS hx hb hr hk dX3_house_87 ⟨Nat.le_of_ble_eq_true rfl, Nat.le_of_ble_eq_true rfl⟩ ?_ (by first | rfl | (simp [setT_eq, c_1, t_s9, c_3, n_c_3, m0_c_3, c_4, c_6]; done) | (simp [setT_eq, c_1, t_s9, c_3, n_c_3, m0_c_3, c_4, c_6] <;> rfl))
          first | (simp [houE, sto_low, c_1, t_s9, c_3, n_c_3, m0_c_3, c_4, c_6]; done) | (subst_vars; simp [houE, sto_low, c_1, t_s9, c_3, n_c_3, m0_c_3, c_4, c_6]; done) | simp_all [houE, sto_low]
      · have hk_c_4 := (low_lt T (some s9)) k_5 c_4
        refine tx_thr (n := 2) (cls := xIS) (is := 54) hx hb hst hown (by decide +kernel) K52 KI52 (fun w h => hts w (List.mem_cons_of_mem _ (List.mem_append_right _ h))) xh_IS xg_IS hXw.2.2.2.2.2.1 hXw (List.mem_of_getElem? (i := 1) rfl) hZ hAe hP hD hS (hl.1.trans hml.symm) hxt ⟨Nat.le_of_ble_eq_true rfl, Nat.le_of_ble_eq_true rfl⟩ ⟨Nat.le_of_ble_eq_true rfl, Nat.le_of_ble_eq_true rfl⟩ hk ⟨Nat.le_of_ble_eq_true rfl, Nat.le_of_ble_eq_true rfl⟩ (by decide) rfl ?_ dX3_house_40 dX3_house_43 dX3_house_44 dX3_house_46 dX3_house_49
        first | (simp [houE, sto_low, c_1, t_s9, c_3, n_c_3, m0_c_3, c_4]; done) | (subst_vars; simp [houE, sto_low, c_1, t_s9, c_3, n_c_3, m0_c_3, c_4]; done) | simp_all [houE, sto_low]
  · refine tx_thr (n := 1) (cls := xIO) (is := 40) hx hb hst hown (by decide +kernel) K38 KI38 (fun w h => hts w (List.mem_cons_of_mem _ (List.mem_append_left _ (List.mem_append_right _ h)))) xh_IO xg_IO hXw.2.2.2.1 hXw (List.mem_of_getElem? (i := 0) rfl) hZ hAe hP hD hS (hl.1.trans hml.symm) hxt ⟨Nat.le_of_ble_eq_true rfl, Nat.le_of_ble_eq_true rfl⟩ ⟨Nat.le_of_ble_eq_true rfl, Nat.le_of_ble_eq_true rfl⟩ hk ⟨Nat.le_of_ble_eq_true rfl, Nat.le_of_ble_eq_true rfl⟩ (by decide) rfl ?_ dX3_house_7 dX3_house_10 dX3_house_11 dX3_house_13 dX3_house_16
    first | (simp [houE, sto_low, c_1]; done) | (subst_vars; simp [houE, sto_low, c_1]; done) | simp_all [houE, sto_low]
set_option maxHeartbeats 4000000 in
set_option maxRecDepth 100000 in
theorem c_X3_stop (l : Launch) (D : va_G) (K : Nat → ClassId) (dp fs : Nat) (hst : l.stackTraces = false) (sz : Nat) (a b t c : Nat → Nat) (g : Nat → Nat → Nat) (T : TW) (X : va_W) (len : Nat → Option Nat) (qu : Nat → Nat) (n : Nat) (cs : Nat → Nat) (ln sn : Nat) (Sv : Nat → TW) (x y : Int32) (hI : Inv T) (hsn : sn ≤ 6) : Tx dp fs l yX3_stop wsX3_stop ({ frames := 6, cells := 1, slots := 6, locals := 103 } : Room) D K (townW K a T ++ (waysW K b len qu n ++ (textW K t cs ln ++ (mainW K a b t c g sn ++ svW K g Sv X)))) sz [.ref (c 0), .int x, .int y] (stE T x y) xnB (townW K a (stpT T ((lowT T none).getD 0) (tn x) (tn y)) ++ (waysW K b len qu n ++ (textW K t cs ln ++ (mainW K a b t c (svG g sn) (svN sn) ++ svW K (svG g sn) (svV Sv sn T) X)))) (oI (lowT T none)) 1 6 := by
  refine tx_intro (cc := cX3_stop) (maxL := 4) (ret := (some .int)) (by decide) rfl (Nat.le_of_ble_eq_true rfl) ?_
  intro pr en st md ar bl mt co A hx hb hml hr hts hown hk hsz hAe hP hE hD hS hA hxt hXw hZ ls hl
  have hown : st.vm.findClass RX3 = some md.cls := hown
  have hl : lv_has ls 4 [(0, .ref (c 0)), (1, .int x), (2, .int y)] := hl
  obtain ⟨H, hH⟩ : ∃ z, z = st.heap := ⟨_, rfl⟩
  obtain ⟨locs, hlo⟩ : ∃ z : List Loc, z = [] := ⟨_, rfl⟩
  have hP : va_P D vwCl (townW K a T ++ (waysW K b len qu n ++ (textW K t cs ln ++ (mainW K a b t c g sn ++ svW K g Sv X)))) H := by rw [hH]; exact hP
  have hS : va_S A st.heap H locs := by rw [hH, hlo]; exact hS
  suffices go : W pr l en (headSpec wsX3_stop ({ frames := 6, cells := 1, slots := 6, locals := 103 } : Room)).room st md ar bl mt co H locs 0 0 (vx_MQ bl (txQ D (townW K a T ++ (waysW K b len qu n ++ (textW K t cs ln ++ (mainW K a b t c g sn ++ svW K g Sv X)))) (townW K a (stpT T ((lowT T none).getD 0) (tn x) (tn y)) ++ (waysW K b len qu n ++ (textW K t cs ln ++ (mainW K a b t c (svG g sn) (svN sn) ++ svW K (svG g sn) (svV Sv sn T) X)))) sz (oI (lowT T none)) (stE T x y)) (txX D (townW K a T ++ (waysW K b len qu n ++ (textW K t cs ln ++ (mainW K a b t c g sn ++ svW K g Sv X)))) sz (stE T x y) xnB) ar st 1 6 A) (F0 md 0 ls []) by rw [hH, hlo] at go; exact go
  clear hH hlo
  have K38 : (Cond.classLink RX3 38 "java/lang/IndexOutOfBoundsException").before ar st = true := hts _ (List.mem_of_getElem? (i := 1) rfl)
  have KI38 : (Cond.initialized "java/lang/IndexOutOfBoundsException").before ar st = true := hts _ (List.mem_of_getElem? (i := 2) rfl)
  have F12 : (Cond.fieldLink RX3 12 "TramTolls" "town" "LTramTolls$Town;").before ar st = true := hts _ (List.mem_of_getElem? (i := 5) rfl)
  have inX3 : ∀ w ∈ u_ws RX3 TX3 5, w ∈ wsX3_stop := fun w h => List.mem_cons_of_mem _ (List.mem_append_left _ (List.mem_append_left _ (List.mem_append_left _ (List.mem_append_right _ h))))
  have F60 : (Cond.fieldLink RX3 60 "TramTolls$Town" "houses" "[I").before ar st = true := hts _ (List.mem_of_getElem? (i := 6) rfl)
  have inX1 : ∀ w ∈ u_ws RX1 TX1 12, w ∈ wsX3_stop := fun w h => List.mem_cons_of_mem _ (List.mem_append_left _ (List.mem_append_left _ (List.mem_append_right _ h)))
  have K52 : (Cond.classLink RX3 52 "java/lang/IllegalStateException").before ar st = true := hts _ (List.mem_of_getElem? (i := 3) rfl)
  have KI52 : (Cond.initialized "java/lang/IllegalStateException").before ar st = true := hts _ (List.mem_of_getElem? (i := 4) rfl)
  have F89 : (Cond.fieldLink RX3 89 "TramTolls$Town" "stopSquares" "[I").before ar st = true := hts _ (List.mem_of_getElem? (i := 7) rfl)
  have F92 : (Cond.fieldLink RX3 92 "TramTolls$Town" "stopPlayers" "[I").before ar st = true := hts _ (List.mem_of_getElem? (i := 8) rfl)
  refine lv_iload_n hx hb dX3_stop_0 rfl (lv_at hl 1 rfl) ?_
  refine rd_S (rest := []) ⟨hx, hb, hml, hown, hts⟩ hP hE (c_X3_isSquare l D K _ x) (va_cwS 1 hts gX3_stop_X3_isSquare rfl rfl rfl hn_X3_isSquare ⟨Nat.le_of_ble_eq_true rfl, Nat.le_of_ble_eq_true rfl⟩) rfl hl.1 rfl (Nat.le_of_ble_eq_true rfl) dX3_stop_1 ⟨Nat.le_of_ble_eq_true rfl, Nat.le_of_ble_eq_true rfl⟩ ?_
  refine bv_if_eq (x := inR 0 79 x) (tgt := 14) hx hb dX3_stop_4 (by decide) (fun c_1 => ?_) (fun c_1 => ?_)
  · refine tx_thr (n := 1) (cls := xIO) (is := 75) hx hb hst hown (by decide +kernel) K38 KI38 (fun w h => hts w (List.mem_cons_of_mem _ (List.mem_append_left _ (List.mem_append_right _ h)))) xh_IO xg_IO hXw.2.2.2.1 hXw (List.mem_of_getElem? (i := 2) rfl) hZ hAe hP hD hS (hl.1.trans hml.symm) hxt ⟨Nat.le_of_ble_eq_true rfl, Nat.le_of_ble_eq_true rfl⟩ ⟨Nat.le_of_ble_eq_true rfl, Nat.le_of_ble_eq_true rfl⟩ hk ⟨Nat.le_of_ble_eq_true rfl, Nat.le_of_ble_eq_true rfl⟩ (by decide) rfl ?_ dX3_stop_14 dX3_stop_17 dX3_stop_18 dX3_stop_20 dX3_stop_23
    first | (simp [stE, c_1]; done) | (subst_vars; simp [stE, c_1]; done) | simp_all [stE]
  · obtain ⟨s9, lo_s9, hi_s9, e_s9⟩ := inR_nL (a := 0) (b := 79) rfl rfl (by decide) (by decide) c_1
    subst e_s9
    have t_s9 := tn_nI (n := s9) (by omega)
    refine lv_iload_n hx hb dX3_stop_7 rfl (lv_at hl 2 rfl) ?_
    refine rd_S (rest := []) ⟨hx, hb, hml, hown, hts⟩ hP hE (c_X3_isPlayer l D K _ y) (va_cwS 1 hts gX3_stop_X3_isPlayer rfl rfl rfl hn_X3_isPlayer ⟨Nat.le_of_ble_eq_true rfl, Nat.le_of_ble_eq_true rfl⟩) rfl hl.1 rfl (Nat.le_of_ble_eq_true rfl) dX3_stop_8 ⟨Nat.le_of_ble_eq_true rfl, Nat.le_of_ble_eq_true rfl⟩ ?_
    refine bv_if_ne (x := inR 0 3 y) (tgt := 24) hx hb dX3_stop_11 (by decide) (fun c_2 => ?_) (fun c_2 => ?_)
    · obtain ⟨p9, lo_p9, hi_p9, e_p9⟩ := inR_nL (a := 0) (b := 3) rfl rfl (by decide) (by decide) c_2
      subst e_p9
      have t_p9 := tn_nI (n := p9) (by omega)
      refine lv_aload_n hx hb dX3_stop_24 rfl (lv_at hl 0 rfl) ?_
      refine va_get (D := D) (ci := 3) (v := .ref (a 0)) (C := RX3) (T := TX3) (N := 5) hx hb hts inX3 hown hE.1 hP 17 rfl rfl 0 (by decide) F12 (fun _ h9 => h9) rfl dX3_stop_25 ?_
      refine va_get (D := D) (ci := 1) (v := .ref (a 1)) (C := RX1) (T := TX1) (N := 12) hx hb hts inX1 hown hE.1 hP 0 rfl rfl 0 (by decide) F60 (fun _ h9 => h9) rfl dX3_stop_28 ?_
      refine lv_iload_n hx hb dX3_stop_31 rfl (lv_at hl 1 rfl) ?_
      refine rd_S (rest := []) ⟨hx, hb, hml, hown, hts⟩ hP hE (c_X3_at l D K _ 1 _ 80 _ s9 rfl (by omega) (by omega)) (va_cwS 2 hts gX3_stop_X3_at rfl rfl rfl hn_X3_at ⟨Nat.le_of_ble_eq_true rfl, Nat.le_of_ble_eq_true rfl⟩) rfl hl.1 rfl (Nat.le_of_ble_eq_true rfl) dX3_stop_32 ⟨Nat.le_of_ble_eq_true rfl, Nat.le_of_ble_eq_true rfl⟩ ?_
      refine top_i (y := bI (hsT T s9)) (show T 0 s9 = bI (hsT T s9) from eq_hs hI (by omega)) ?_
      refine bv_if_ne (x := hsT T s9) (tgt := 50) hx hb dX3_stop_35 (by decide) (fun c_3 => ?_) (fun c_3 => ?_)
      · refine tx_thr (n := 2) (cls := xIS) (is := 81) hx hb hst hown (by decide +kernel) K52 KI52 (fun w h => hts w (List.mem_cons_of_mem _ (List.mem_append_right _ h))) xh_IS xg_IS hXw.2.2.2.2.2.1 hXw (List.mem_of_getElem? (i := 3) rfl) hZ hAe hP hD hS (hl.1.trans hml.symm) hxt ⟨Nat.le_of_ble_eq_true rfl, Nat.le_of_ble_eq_true rfl⟩ ⟨Nat.le_of_ble_eq_true rfl, Nat.le_of_ble_eq_true rfl⟩ hk ⟨Nat.le_of_ble_eq_true rfl, Nat.le_of_ble_eq_true rfl⟩ (by decide) rfl ?_ dX3_stop_50 dX3_stop_53 dX3_stop_54 dX3_stop_56 dX3_stop_59
        first | (simp [stE, c_1, t_s9, c_2, t_p9, c_3]; done) | (subst_vars; simp [stE, c_1, t_s9, c_2, t_p9, c_3]; done) | simp_all [stE]
      · refine lv_aload_n hx hb dX3_stop_38 rfl (lv_at hl 0 rfl) ?_
        refine va_get (D := D) (ci := 3) (v := .ref (a 0)) (C := RX3) (T := TX3) (N := 5) hx hb hts inX3 hown hE.1 hP 17 rfl rfl 0 (by decide) F12 (fun _ h9 => h9) rfl dX3_stop_39 ?_
        refine lv_iload_n hx hb dX3_stop_42 rfl (lv_at hl 1 rfl) ?_
        refine lv_iload_n hx hb dX3_stop_43 rfl (lv_at hl 2 rfl) ?_
        refine rd_V (rest := []) (ci := 1) (q0 := 0) ⟨hx, hb, hml, hown, hts⟩ hP hE (c_X1_hasStopOn l D K _ _ _ s9 p9 hI (by omega) (by omega)) (cwV 2 hts gX3_stop_X1_hasStopOn rfl rfl rfl hd_X1_hasStopOn ⟨Nat.le_of_ble_eq_true rfl, Nat.le_of_ble_eq_true rfl⟩) rfl rfl rfl rfl hl.1 rfl (Nat.le_of_ble_eq_true rfl) dX3_stop_44 ⟨Nat.le_of_ble_eq_true rfl, Nat.le_of_ble_eq_true rfl⟩ ?_
        refine bv_if_eq (x := hstT T s9 p9) (tgt := 60) hx hb dX3_stop_47 (by decide) (fun c_4 => ?_) (fun c_4 => ?_)
        · have m0_c_4 := sto_no c_4
          refine lv_aload_n hx hb dX3_stop_60 rfl (lv_at hl 0 rfl) ?_
          refine va_get (D := D) (ci := 3) (v := .ref (a 0)) (C := RX3) (T := TX3) (N := 5) hx hb hts inX3 hown hE.1 hP 17 rfl rfl 0 (by decide) F12 (fun _ h9 => h9) rfl dX3_stop_61 ?_
          refine rd_V (rest := []) (ci := 1) (q0 := 0) ⟨hx, hb, hml, hown, hts⟩ hP hE (c_X1_lowestFreeStop l D K _ _ _  hI ) (cwV 0 hts gX3_stop_X1_lowestFreeStop rfl rfl rfl hd_X1_lowestFreeStop ⟨Nat.le_of_ble_eq_true rfl, Nat.le_of_ble_eq_true rfl⟩) rfl rfl rfl rfl hl.1 rfl (Nat.le_of_ble_eq_true rfl) dX3_stop_64 ⟨Nat.le_of_ble_eq_true rfl, Nat.le_of_ble_eq_true rfl⟩ ?_
          refine lv_istore_n (lv' := [(3, .int (oI (lowT T none))), (0, .ref (c 0)), (1, .int (nI s9)), (2, .int (nI p9))]) hx hb dX3_stop_67 rfl hl (by decide) rfl (fun ls hl => ?_)
          refine lv_iload_n hx hb dX3_stop_68 rfl (lv_at hl 0 rfl) ?_
          refine lv_iconst (v := -1) hx hb dX3_stop_69 (by decide) ?_
          refine ov_icmp_ne (tgt := 83) hx hb dX3_stop_70 (by decide) (lt31 (low_lt T none) (by decide)) (fun k_6 c_5 => ?_) (fun c_5 => ?_)
          · have hk_c_5 := (low_lt T none) k_6 c_5
            refine lv_aload_n hx hb dX3_stop_83 rfl (lv_at hl 1 rfl) ?_
            refine wr_V (rest := []) (ci := 3) (q0 := 17) ⟨hx, hb, hml, hown, hts⟩ hP hE hA hD hS (c_X3_saveState l D K _ _ _ _ _ _ _ _ _ _ _ _ _ sn _ hsn) (cwV 0 hts gX3_stop_X3_saveState rfl rfl rfl hd_X3_saveState ⟨Nat.le_of_ble_eq_true rfl, Nat.le_of_ble_eq_true rfl⟩) rfl rfl rfl rfl hl.1 rfl (Nat.le_of_ble_eq_true rfl) dX3_stop_84 ⟨Nat.le_of_ble_eq_true rfl, Nat.le_of_ble_eq_true rfl⟩ (fun H locs hP hD hS => ?_)
            have hP : va_P D vwCl (townW K a T ++ (waysW K b len qu n ++ (textW K t cs ln ++ (mainW K a b t c (svG g sn) (svN sn) ++ svW K (svG g sn) (svV Sv sn T) X)))) H := hP
            have hD : va_D A (townW K a T ++ (waysW K b len qu n ++ (textW K t cs ln ++ (mainW K a b t c (svG g sn) (svN sn) ++ svW K (svG g sn) (svV Sv sn T) X)))) := hD
            refine lv_aload_n hx hb dX3_stop_87 rfl (lv_at hl 1 rfl) ?_
            refine va_get (D := D) (ci := 3) (v := .ref (a 0)) (C := RX3) (T := TX3) (N := 5) hx hb hts inX3 hown hE.1 hP 17 rfl rfl 0 (by decide) F12 (fun _ h9 => h9) rfl dX3_stop_88 ?_
            refine va_get (D := D) (ci := 1) (v := .ref (a 4)) (C := RX1) (T := TX1) (N := 12) hx hb hts inX1 hown hE.1 hP 0 rfl rfl 3 (by decide) F89 (fun _ h9 => h9) rfl dX3_stop_91 ?_
            refine lv_iload_n hx hb dX3_stop_94 rfl (lv_at hl 0 rfl) ?_
            refine top_i (y := nI k_6) (by rw [c_5]; rfl) ?_
            refine lv_iload_n hx hb dX3_stop_95 rfl (lv_at hl 2 rfl) ?_
            refine wr_S (rest := []) ⟨hx, hb, hml, hown, hts⟩ hP hE hA hD hS (c_X3_put l D K _ _ 4 _ 12 _ k_6 (nI s9) rfl (by omega) (by omega)) (va_cwS 3 hts gX3_stop_X3_put rfl rfl rfl hn_X3_put ⟨Nat.le_of_ble_eq_true rfl, Nat.le_of_ble_eq_true rfl⟩) rfl hl.1 rfl (Nat.le_of_ble_eq_true rfl) dX3_stop_96 ⟨Nat.le_of_ble_eq_true rfl, Nat.le_of_ble_eq_true rfl⟩ (fun H locs hP hD hS => ?_)
            have hP : va_P D vwCl (townW K a (setT T 3 k_6 (nI s9)) ++ (waysW K b len qu n ++ (textW K t cs ln ++ (mainW K a b t c (svG g sn) (svN sn) ++ svW K (svG g sn) (svV Sv sn T) X)))) H := hP
            have hD : va_D A (townW K a (setT T 3 k_6 (nI s9)) ++ (waysW K b len qu n ++ (textW K t cs ln ++ (mainW K a b t c (svG g sn) (svN sn) ++ svW K (svG g sn) (svV Sv sn T) X)))) := hD
            refine lv_aload_n hx hb dX3_stop_99 rfl (lv_at hl 1 rfl) ?_
            refine va_get (D := D) (ci := 3) (v := .ref (a 0)) (C := RX3) (T := TX3) (N := 5) hx hb hts inX3 hown hE.1 hP 17 rfl rfl 0 (by decide) F12 (fun _ h9 => h9) rfl dX3_stop_100 ?_
            refine va_get (D := D) (ci := 1) (v := .ref (a 5)) (C := RX1) (T := TX1) (N := 12) hx hb hts inX1 hown hE.1 hP 0 rfl rfl 4 (by decide) F92 (fun _ h9 => h9) rfl dX3_stop_103 ?_
            refine lv_iload_n hx hb dX3_stop_106 rfl (lv_at hl 0 rfl) ?_
            refine top_i (y := nI k_6) (by rw [c_5]; rfl) ?_
            refine lv_iload_n hx hb dX3_stop_107 rfl (lv_at hl 3 rfl) ?_
            refine wr_S (rest := []) ⟨hx, hb, hml, hown, hts⟩ hP hE hA hD hS (c_X3_put l D K _ _ 5 _ 12 _ k_6 (nI p9) rfl (by omega) (by omega)) (va_cwS 3 hts gX3_stop_X3_put rfl rfl rfl hn_X3_put ⟨Nat.le_of_ble_eq_true rfl, Nat.le_of_ble_eq_true rfl⟩) rfl hl.1 rfl (Nat.le_of_ble_eq_true rfl) dX3_stop_108 ⟨Nat.le_of_ble_eq_true rfl, Nat.le_of_ble_eq_true rfl⟩ (fun H locs hP hD hS => ?_)
            have hP : va_P D vwCl (townW K a (setT (setT T 3 k_6 (nI s9)) 4 k_6 (nI p9)) ++ (waysW K b len qu n ++ (textW K t cs ln ++ (mainW K a b t c (svG g sn) (svN sn) ++ svW K (svG g sn) (svV Sv sn T) X)))) H := hP
            have hD : va_D A (townW K a (setT (setT T 3 k_6 (nI s9)) 4 k_6 (nI p9)) ++ (waysW K b len qu n ++ (textW K t cs ln ++ (mainW K a b t c (svG g sn) (svN sn) ++ svW K (svG g sn) (svV Sv sn T) X)))) := hD
            refine lv_iload_n hx hb dX3_stop_111 rfl (lv_at hl 0 rfl) ?_
            refine top_i (y := nI k_6) (by rw [c_5]; rfl) ?_
            have ew : (townW K a (setT (setT T 3 k_6 (nI s9)) 4 k_6 (nI p9)) ++ (waysW K b len qu n ++ (textW K t cs ln ++ (mainW K a b t c (svG g sn) (svN sn) ++ svW K (svG g sn) (svV Sv sn T) X)))) = (townW K a (stpT T ((lowT T none).getD 0) (tn (nI s9)) (tn (nI p9))) ++ (waysW K b len qu n ++ (textW K t cs ln ++ (mainW K a b t c (svG g sn) (svN sn) ++ svW K (svG g sn) (svV Sv sn T) X)))) := by first | rfl | (simp [c_1, t_s9, c_2, t_p9, c_3, c_4, m0_c_4, c_5]; done) | (simp [c_1, t_s9, c_2, t_p9, c_3, c_4, m0_c_4, c_5] <;> rfl)
            rw [ew] at hP hD
            refine tx_iret hAe hP hD hS hx hb hr hk dX3_stop_112 ⟨Nat.le_of_ble_eq_true rfl, Nat.le_of_ble_eq_true rfl⟩ ?_ (by first | rfl | (simp [setT_eq, c_1, t_s9, c_2, t_p9, c_3, c_4, m0_c_4, c_5]; done) | (simp [setT_eq, c_1, t_s9, c_2, t_p9, c_3, c_4, m0_c_4, c_5] <;> rfl))
            first | (simp [stE, c_1, t_s9, c_2, t_p9, c_3, c_4, m0_c_4, c_5]; done) | (subst_vars; simp [stE, c_1, t_s9, c_2, t_p9, c_3, c_4, m0_c_4, c_5]; done) | simp_all [stE]
          · refine tx_thr (n := 2) (cls := xIS) (is := 87) hx hb hst hown (by decide +kernel) K52 KI52 (fun w h => hts w (List.mem_cons_of_mem _ (List.mem_append_right _ h))) xh_IS xg_IS hXw.2.2.2.2.2.1 hXw (List.mem_of_getElem? (i := 4) rfl) hZ hAe hP hD hS (hl.1.trans hml.symm) hxt ⟨Nat.le_of_ble_eq_true rfl, Nat.le_of_ble_eq_true rfl⟩ ⟨Nat.le_of_ble_eq_true rfl, Nat.le_of_ble_eq_true rfl⟩ hk ⟨Nat.le_of_ble_eq_true rfl, Nat.le_of_ble_eq_true rfl⟩ (by decide) rfl ?_ dX3_stop_73 dX3_stop_76 dX3_stop_77 dX3_stop_79 dX3_stop_82
            first | (simp [stE, c_1, t_s9, c_2, t_p9, c_3, c_4, m0_c_4, c_5]; done) | (subst_vars; simp [stE, c_1, t_s9, c_2, t_p9, c_3, c_4, m0_c_4, c_5]; done) | simp_all [stE]
        · have m0_c_4 := sto_yes c_4
          refine tx_thr (n := 2) (cls := xIS) (is := 81) hx hb hst hown (by decide +kernel) K52 KI52 (fun w h => hts w (List.mem_cons_of_mem _ (List.mem_append_right _ h))) xh_IS xg_IS hXw.2.2.2.2.2.1 hXw (List.mem_of_getElem? (i := 3) rfl) hZ hAe hP hD hS (hl.1.trans hml.symm) hxt ⟨Nat.le_of_ble_eq_true rfl, Nat.le_of_ble_eq_true rfl⟩ ⟨Nat.le_of_ble_eq_true rfl, Nat.le_of_ble_eq_true rfl⟩ hk ⟨Nat.le_of_ble_eq_true rfl, Nat.le_of_ble_eq_true rfl⟩ (by decide) rfl ?_ dX3_stop_50 dX3_stop_53 dX3_stop_54 dX3_stop_56 dX3_stop_59
          first | (simp [stE, c_1, t_s9, c_2, t_p9, c_3, c_4, m0_c_4]; done) | (subst_vars; simp [stE, c_1, t_s9, c_2, t_p9, c_3, c_4, m0_c_4]; done) | simp_all [stE]
    · refine tx_thr (n := 1) (cls := xIO) (is := 75) hx hb hst hown (by decide +kernel) K38 KI38 (fun w h => hts w (List.mem_cons_of_mem _ (List.mem_append_left _ (List.mem_append_right _ h)))) xh_IO xg_IO hXw.2.2.2.1 hXw (List.mem_of_getElem? (i := 2) rfl) hZ hAe hP hD hS (hl.1.trans hml.symm) hxt ⟨Nat.le_of_ble_eq_true rfl, Nat.le_of_ble_eq_true rfl⟩ ⟨Nat.le_of_ble_eq_true rfl, Nat.le_of_ble_eq_true rfl⟩ hk ⟨Nat.le_of_ble_eq_true rfl, Nat.le_of_ble_eq_true rfl⟩ (by decide) rfl ?_ dX3_stop_14 dX3_stop_17 dX3_stop_18 dX3_stop_20 dX3_stop_23
      first | (simp [stE, c_1, t_s9, c_2]; done) | (subst_vars; simp [stE, c_1, t_s9, c_2]; done) | simp_all [stE]
set_option maxHeartbeats 4000000 in
set_option maxRecDepth 100000 in
theorem c_X3_drop (l : Launch) (D : va_G) (K : Nat → ClassId) (dp fs : Nat) (hst : l.stackTraces = false) (sz : Nat) (a b t c : Nat → Nat) (g : Nat → Nat → Nat) (T : TW) (X : va_W) (len : Nat → Option Nat) (qu : Nat → Nat) (n : Nat) (cs : Nat → Nat) (ln sn : Nat) (Sv : Nat → TW) (x : Int32) (hI : Inv T) (hsn : sn ≤ 6) : Tx dp fs l yX3_drop wsX3_drop ({ frames := 6, cells := 1, slots := 6, locals := 103 } : Room) D K (townW K a T ++ (waysW K b len qu n ++ (textW K t cs ln ++ (mainW K a b t c g sn ++ svW K g Sv X)))) sz [.ref (c 0), .int x] (drE T x) xnA (townW K a (drpT T (tn x)) ++ (waysW K b len qu n ++ (textW K t cs ln ++ (mainW K a b t c (svG g sn) (svN sn) ++ svW K (svG g sn) (svV Sv sn T) X)))) (oI (sqT T (tn x))) 1 6 := by
  refine tx_intro (cc := cX3_drop) (maxL := 3) (ret := (some .int)) (by decide) rfl (Nat.le_of_ble_eq_true rfl) ?_
  intro pr en st md ar bl mt co A hx hb hml hr hts hown hk hsz hAe hP hE hD hS hA hxt hXw hZ ls hl
  have hown : st.vm.findClass RX3 = some md.cls := hown
  have hl : lv_has ls 3 [(0, .ref (c 0)), (1, .int x)] := hl
  obtain ⟨H, hH⟩ : ∃ z, z = st.heap := ⟨_, rfl⟩
  obtain ⟨locs, hlo⟩ : ∃ z : List Loc, z = [] := ⟨_, rfl⟩
  have hP : va_P D vwCl (townW K a T ++ (waysW K b len qu n ++ (textW K t cs ln ++ (mainW K a b t c g sn ++ svW K g Sv X)))) H := by rw [hH]; exact hP
  have hS : va_S A st.heap H locs := by rw [hH, hlo]; exact hS
  suffices go : W pr l en (headSpec wsX3_drop ({ frames := 6, cells := 1, slots := 6, locals := 103 } : Room)).room st md ar bl mt co H locs 0 0 (vx_MQ bl (txQ D (townW K a T ++ (waysW K b len qu n ++ (textW K t cs ln ++ (mainW K a b t c g sn ++ svW K g Sv X)))) (townW K a (drpT T (tn x)) ++ (waysW K b len qu n ++ (textW K t cs ln ++ (mainW K a b t c (svG g sn) (svN sn) ++ svW K (svG g sn) (svV Sv sn T) X)))) sz (oI (sqT T (tn x))) (drE T x)) (txX D (townW K a T ++ (waysW K b len qu n ++ (textW K t cs ln ++ (mainW K a b t c g sn ++ svW K g Sv X)))) sz (drE T x) xnA) ar st 1 6 A) (F0 md 0 ls []) by rw [hH, hlo] at go; exact go
  clear hH hlo
  have K38 : (Cond.classLink RX3 38 "java/lang/IndexOutOfBoundsException").before ar st = true := hts _ (List.mem_of_getElem? (i := 1) rfl)
  have KI38 : (Cond.initialized "java/lang/IndexOutOfBoundsException").before ar st = true := hts _ (List.mem_of_getElem? (i := 2) rfl)
  have F12 : (Cond.fieldLink RX3 12 "TramTolls" "town" "LTramTolls$Town;").before ar st = true := hts _ (List.mem_of_getElem? (i := 3) rfl)
  have inX3 : ∀ w ∈ u_ws RX3 TX3 5, w ∈ wsX3_drop := fun w h => List.mem_cons_of_mem _ (List.mem_append_left _ (List.mem_append_left _ (List.mem_append_right _ h)))
  have F89 : (Cond.fieldLink RX3 89 "TramTolls$Town" "stopSquares" "[I").before ar st = true := hts _ (List.mem_of_getElem? (i := 4) rfl)
  have inX1 : ∀ w ∈ u_ws RX1 TX1 12, w ∈ wsX3_drop := fun w h => List.mem_cons_of_mem _ (List.mem_append_left _ (List.mem_append_right _ h))
  have F92 : (Cond.fieldLink RX3 92 "TramTolls$Town" "stopPlayers" "[I").before ar st = true := hts _ (List.mem_of_getElem? (i := 5) rfl)
  refine lv_iload_n hx hb dX3_drop_0 rfl (lv_at hl 1 rfl) ?_
  refine rd_S (rest := []) ⟨hx, hb, hml, hown, hts⟩ hP hE (c_X3_isStop l D K _ x) (va_cwS 1 hts gX3_drop_X3_isStop rfl rfl rfl hn_X3_isStop ⟨Nat.le_of_ble_eq_true rfl, Nat.le_of_ble_eq_true rfl⟩) rfl hl.1 rfl (Nat.le_of_ble_eq_true rfl) dX3_drop_1 ⟨Nat.le_of_ble_eq_true rfl, Nat.le_of_ble_eq_true rfl⟩ ?_
  refine bv_if_eq (x := inR 0 11 x) (tgt := 18) hx hb dX3_drop_4 (by decide) (fun c_1 => ?_) (fun c_1 => ?_)
  · refine tx_thr (n := 1) (cls := xIO) (is := 101) hx hb hst hown (by decide +kernel) K38 KI38 (fun w h => hts w (List.mem_cons_of_mem _ (List.mem_append_right _ h))) xh_IO xg_IO hXw.2.2.2.1 hXw (List.mem_of_getElem? (i := 5) rfl) hZ hAe hP hD hS (hl.1.trans hml.symm) hxt ⟨Nat.le_of_ble_eq_true rfl, Nat.le_of_ble_eq_true rfl⟩ ⟨Nat.le_of_ble_eq_true rfl, Nat.le_of_ble_eq_true rfl⟩ hk ⟨Nat.le_of_ble_eq_true rfl, Nat.le_of_ble_eq_true rfl⟩ (by decide) rfl ?_ dX3_drop_18 dX3_drop_21 dX3_drop_22 dX3_drop_24 dX3_drop_27
    first | (simp [drE, isS, c_1]; done) | (subst_vars; simp [drE, isS, c_1]; done) | simp_all [drE, isS]
  · obtain ⟨s9, lo_s9, hi_s9, e_s9⟩ := inR_nL (a := 0) (b := 11) rfl rfl (by decide) (by decide) c_1
    subst e_s9
    have t_s9 := tn_nI (n := s9) (by omega)
    refine lv_aload_n hx hb dX3_drop_7 rfl (lv_at hl 0 rfl) ?_
    refine va_get (D := D) (ci := 3) (v := .ref (a 0)) (C := RX3) (T := TX3) (N := 5) hx hb hts inX3 hown hE.1 hP 17 rfl rfl 0 (by decide) F12 (fun _ h9 => h9) rfl dX3_drop_8 ?_
    refine lv_iload_n hx hb dX3_drop_11 rfl (lv_at hl 1 rfl) ?_
    refine rd_V (rest := []) (ci := 1) (q0 := 0) ⟨hx, hb, hml, hown, hts⟩ hP hE (c_X1_isThere l D K _ _ _ s9 hI (by omega)) (cwV 1 hts gX3_drop_X1_isThere rfl rfl rfl hd_X1_isThere ⟨Nat.le_of_ble_eq_true rfl, Nat.le_of_ble_eq_true rfl⟩) rfl rfl rfl rfl hl.1 rfl (Nat.le_of_ble_eq_true rfl) dX3_drop_12 ⟨Nat.le_of_ble_eq_true rfl, Nat.le_of_ble_eq_true rfl⟩ ?_
    refine bv_if_ne (x := (sqT T s9).isSome) (tgt := 28) hx hb dX3_drop_15 (by decide) (fun c_2 => ?_) (fun c_2 => ?_)
    · refine lv_aload_n hx hb dX3_drop_28 rfl (lv_at hl 0 rfl) ?_
      refine wr_V (rest := []) (ci := 3) (q0 := 17) ⟨hx, hb, hml, hown, hts⟩ hP hE hA hD hS (c_X3_saveState l D K _ _ _ _ _ _ _ _ _ _ _ _ _ sn _ hsn) (cwV 0 hts gX3_drop_X3_saveState rfl rfl rfl hd_X3_saveState ⟨Nat.le_of_ble_eq_true rfl, Nat.le_of_ble_eq_true rfl⟩) rfl rfl rfl rfl hl.1 rfl (Nat.le_of_ble_eq_true rfl) dX3_drop_29 ⟨Nat.le_of_ble_eq_true rfl, Nat.le_of_ble_eq_true rfl⟩ (fun H locs hP hD hS => ?_)
      have hP : va_P D vwCl (townW K a T ++ (waysW K b len qu n ++ (textW K t cs ln ++ (mainW K a b t c (svG g sn) (svN sn) ++ svW K (svG g sn) (svV Sv sn T) X)))) H := hP
      have hD : va_D A (townW K a T ++ (waysW K b len qu n ++ (textW K t cs ln ++ (mainW K a b t c (svG g sn) (svN sn) ++ svW K (svG g sn) (svV Sv sn T) X)))) := hD
      refine lv_aload_n hx hb dX3_drop_32 rfl (lv_at hl 0 rfl) ?_
      refine va_get (D := D) (ci := 3) (v := .ref (a 0)) (C := RX3) (T := TX3) (N := 5) hx hb hts inX3 hown hE.1 hP 17 rfl rfl 0 (by decide) F12 (fun _ h9 => h9) rfl dX3_drop_33 ?_
      refine va_get (D := D) (ci := 1) (v := .ref (a 4)) (C := RX1) (T := TX1) (N := 12) hx hb hts inX1 hown hE.1 hP 0 rfl rfl 3 (by decide) F89 (fun _ h9 => h9) rfl dX3_drop_36 ?_
      refine lv_iload_n hx hb dX3_drop_39 rfl (lv_at hl 1 rfl) ?_
      refine rd_S (rest := []) ⟨hx, hb, hml, hown, hts⟩ hP hE (c_X3_at l D K _ 4 _ 12 _ s9 rfl (by omega) (by omega)) (va_cwS 2 hts gX3_drop_X3_at rfl rfl rfl hn_X3_at ⟨Nat.le_of_ble_eq_true rfl, Nat.le_of_ble_eq_true rfl⟩) rfl hl.1 rfl (Nat.le_of_ble_eq_true rfl) dX3_drop_40 ⟨Nat.le_of_ble_eq_true rfl, Nat.le_of_ble_eq_true rfl⟩ ?_
      refine top_i (y := oI (sqT T s9)) (show T 3 s9 = oI (sqT T s9) from eq_sq hI (by omega)) ?_
      refine lv_istore_n (lv' := [(2, .int (oI (sqT T s9))), (0, .ref (c 0)), (1, .int (nI s9))]) hx hb dX3_drop_43 rfl hl (by decide) rfl (fun ls hl => ?_)
      refine lv_aload_n hx hb dX3_drop_44 rfl (lv_at hl 1 rfl) ?_
      refine va_get (D := D) (ci := 3) (v := .ref (a 0)) (C := RX3) (T := TX3) (N := 5) hx hb hts inX3 hown hE.1 hP 17 rfl rfl 0 (by decide) F12 (fun _ h9 => h9) rfl dX3_drop_45 ?_
      refine va_get (D := D) (ci := 1) (v := .ref (a 4)) (C := RX1) (T := TX1) (N := 12) hx hb hts inX1 hown hE.1 hP 0 rfl rfl 3 (by decide) F89 (fun _ h9 => h9) rfl dX3_drop_48 ?_
      refine lv_iload_n hx hb dX3_drop_51 rfl (lv_at hl 2 rfl) ?_
      refine lv_iconst (v := -1) hx hb dX3_drop_52 (by decide) ?_
      refine wr_S (rest := []) ⟨hx, hb, hml, hown, hts⟩ hP hE hA hD hS (c_X3_put l D K _ _ 4 _ 12 _ s9 (-1) rfl (by omega) (by omega)) (va_cwS 3 hts gX3_drop_X3_put rfl rfl rfl hn_X3_put ⟨Nat.le_of_ble_eq_true rfl, Nat.le_of_ble_eq_true rfl⟩) rfl hl.1 rfl (Nat.le_of_ble_eq_true rfl) dX3_drop_53 ⟨Nat.le_of_ble_eq_true rfl, Nat.le_of_ble_eq_true rfl⟩ (fun H locs hP hD hS => ?_)
      have hP : va_P D vwCl (townW K a (setT T 3 s9 (-1)) ++ (waysW K b len qu n ++ (textW K t cs ln ++ (mainW K a b t c (svG g sn) (svN sn) ++ svW K (svG g sn) (svV Sv sn T) X)))) H := hP
      have hD : va_D A (townW K a (setT T 3 s9 (-1)) ++ (waysW K b len qu n ++ (textW K t cs ln ++ (mainW K a b t c (svG g sn) (svN sn) ++ svW K (svG g sn) (svV Sv sn T) X)))) := hD
      refine lv_aload_n hx hb dX3_drop_56 rfl (lv_at hl 1 rfl) ?_
      refine va_get (D := D) (ci := 3) (v := .ref (a 0)) (C := RX3) (T := TX3) (N := 5) hx hb hts inX3 hown hE.1 hP 17 rfl rfl 0 (by decide) F12 (fun _ h9 => h9) rfl dX3_drop_57 ?_
      refine va_get (D := D) (ci := 1) (v := .ref (a 5)) (C := RX1) (T := TX1) (N := 12) hx hb hts inX1 hown hE.1 hP 0 rfl rfl 4 (by decide) F92 (fun _ h9 => h9) rfl dX3_drop_60 ?_
      refine lv_iload_n hx hb dX3_drop_63 rfl (lv_at hl 2 rfl) ?_
      refine lv_iconst (v := -1) hx hb dX3_drop_64 (by decide) ?_
      refine wr_S (rest := []) ⟨hx, hb, hml, hown, hts⟩ hP hE hA hD hS (c_X3_put l D K _ _ 5 _ 12 _ s9 (-1) rfl (by omega) (by omega)) (va_cwS 3 hts gX3_drop_X3_put rfl rfl rfl hn_X3_put ⟨Nat.le_of_ble_eq_true rfl, Nat.le_of_ble_eq_true rfl⟩) rfl hl.1 rfl (Nat.le_of_ble_eq_true rfl) dX3_drop_65 ⟨Nat.le_of_ble_eq_true rfl, Nat.le_of_ble_eq_true rfl⟩ (fun H locs hP hD hS => ?_)
      have hP : va_P D vwCl (townW K a (setT (setT T 3 s9 (-1)) 4 s9 (-1)) ++ (waysW K b len qu n ++ (textW K t cs ln ++ (mainW K a b t c (svG g sn) (svN sn) ++ svW K (svG g sn) (svV Sv sn T) X)))) H := hP
      have hD : va_D A (townW K a (setT (setT T 3 s9 (-1)) 4 s9 (-1)) ++ (waysW K b len qu n ++ (textW K t cs ln ++ (mainW K a b t c (svG g sn) (svN sn) ++ svW K (svG g sn) (svV Sv sn T) X)))) := hD
      refine lv_iload_n hx hb dX3_drop_68 rfl (lv_at hl 0 rfl) ?_
      have ew : (townW K a (setT (setT T 3 s9 (-1)) 4 s9 (-1)) ++ (waysW K b len qu n ++ (textW K t cs ln ++ (mainW K a b t c (svG g sn) (svN sn) ++ svW K (svG g sn) (svV Sv sn T) X)))) = (townW K a (drpT T (tn (nI s9))) ++ (waysW K b len qu n ++ (textW K t cs ln ++ (mainW K a b t c (svG g sn) (svN sn) ++ svW K (svG g sn) (svV Sv sn T) X)))) := by first | rfl | (simp [c_1, t_s9, c_2]; done) | (simp [c_1, t_s9, c_2] <;> rfl)
      rw [ew] at hP hD
      refine tx_iret hAe hP hD hS hx hb hr hk dX3_drop_69 ⟨Nat.le_of_ble_eq_true rfl, Nat.le_of_ble_eq_true rfl⟩ ?_ (by first | rfl | (simp [setT_eq, c_1, t_s9, c_2]; done) | (simp [setT_eq, c_1, t_s9, c_2] <;> rfl))
      first | (simp [drE, isS, c_1, t_s9, c_2]; done) | (subst_vars; simp [drE, isS, c_1, t_s9, c_2]; done) | simp_all [drE, isS]
    · refine tx_thr (n := 1) (cls := xIO) (is := 101) hx hb hst hown (by decide +kernel) K38 KI38 (fun w h => hts w (List.mem_cons_of_mem _ (List.mem_append_right _ h))) xh_IO xg_IO hXw.2.2.2.1 hXw (List.mem_of_getElem? (i := 5) rfl) hZ hAe hP hD hS (hl.1.trans hml.symm) hxt ⟨Nat.le_of_ble_eq_true rfl, Nat.le_of_ble_eq_true rfl⟩ ⟨Nat.le_of_ble_eq_true rfl, Nat.le_of_ble_eq_true rfl⟩ hk ⟨Nat.le_of_ble_eq_true rfl, Nat.le_of_ble_eq_true rfl⟩ (by decide) rfl ?_ dX3_drop_18 dX3_drop_21 dX3_drop_22 dX3_drop_24 dX3_drop_27
      first | (simp [drE, isS, c_1, t_s9, c_2]; done) | (subst_vars; simp [drE, isS, c_1, t_s9, c_2]; done) | simp_all [drE, isS]
set_option maxHeartbeats 4000000 in
set_option maxRecDepth 100000 in
theorem c_X3_lay (l : Launch) (D : va_G) (K : Nat → ClassId) (dp fs : Nat) (hst : l.stackTraces = false) (sz : Nat) (a b t c : Nat → Nat) (g : Nat → Nat → Nat) (T : TW) (X : va_W) (len : Nat → Option Nat) (qu : Nat → Nat) (n : Nat) (cs : Nat → Nat) (ln sn : Nat) (Sv : Nat → TW) (x g9 d : Int32) (hI : Inv T) (hsn : sn ≤ 6) : Tx dp fs l yX3_lay wsX3_lay ({ frames := 6, cells := 1, slots := 6, locals := 103 } : Room) D K (townW K a T ++ (waysW K b len qu n ++ (textW K t cs ln ++ (mainW K a b t c g sn ++ svW K g Sv X)))) sz [.ref (c 0), .int x, .int g9, .int d] (laE T x g9 d) xnA (townW K a (layT T (tn x) (toT (hdT T (tn x)) (tn d)) (tn d)) ++ (waysW K b len qu n ++ (textW K t cs ln ++ (mainW K a b t c (svG g sn) (svN sn) ++ svW K (svG g sn) (svV Sv sn T) X)))) (nI (tollT T (toT (hdT T (tn x)) (tn d)))) 1 6 := by
  refine tx_intro (cc := cX3_lay) (maxL := 5) (ret := (some .int)) (by decide) rfl (Nat.le_of_ble_eq_true rfl) ?_
  intro pr en st md ar bl mt co A hx hb hml hr hts hown hk hsz hAe hP hE hD hS hA hxt hXw hZ ls hl
  have hown : st.vm.findClass RX3 = some md.cls := hown
  have hl : lv_has ls 5 [(0, .ref (c 0)), (1, .int x), (2, .int g9), (3, .int d)] := hl
  obtain ⟨H, hH⟩ : ∃ z, z = st.heap := ⟨_, rfl⟩
  obtain ⟨locs, hlo⟩ : ∃ z : List Loc, z = [] := ⟨_, rfl⟩
  have hP : va_P D vwCl (townW K a T ++ (waysW K b len qu n ++ (textW K t cs ln ++ (mainW K a b t c g sn ++ svW K g Sv X)))) H := by rw [hH]; exact hP
  have hS : va_S A st.heap H locs := by rw [hH, hlo]; exact hS
  suffices go : W pr l en (headSpec wsX3_lay ({ frames := 6, cells := 1, slots := 6, locals := 103 } : Room)).room st md ar bl mt co H locs 0 0 (vx_MQ bl (txQ D (townW K a T ++ (waysW K b len qu n ++ (textW K t cs ln ++ (mainW K a b t c g sn ++ svW K g Sv X)))) (townW K a (layT T (tn x) (toT (hdT T (tn x)) (tn d)) (tn d)) ++ (waysW K b len qu n ++ (textW K t cs ln ++ (mainW K a b t c (svG g sn) (svN sn) ++ svW K (svG g sn) (svV Sv sn T) X)))) sz (nI (tollT T (toT (hdT T (tn x)) (tn d)))) (laE T x g9 d)) (txX D (townW K a T ++ (waysW K b len qu n ++ (textW K t cs ln ++ (mainW K a b t c g sn ++ svW K g Sv X)))) sz (laE T x g9 d) xnA) ar st 1 6 A) (F0 md 0 ls []) by rw [hH, hlo] at go; exact go
  clear hH hlo
  have K111 : (Cond.classLink RX3 111 "java/lang/IllegalArgumentException").before ar st = true := hts _ (List.mem_of_getElem? (i := 3) rfl)
  have KI111 : (Cond.initialized "java/lang/IllegalArgumentException").before ar st = true := hts _ (List.mem_of_getElem? (i := 4) rfl)
  have F12 : (Cond.fieldLink RX3 12 "TramTolls" "town" "LTramTolls$Town;").before ar st = true := hts _ (List.mem_of_getElem? (i := 7) rfl)
  have inX3 : ∀ w ∈ u_ws RX3 TX3 5, w ∈ wsX3_lay := fun w h => List.mem_cons_of_mem _ (List.mem_append_left _ (List.mem_append_left _ (List.mem_append_left _ (List.mem_append_left _ (List.mem_append_right _ h)))))
  have F116 : (Cond.fieldLink RX3 116 "TramTolls$Town" "heads" "[I").before ar st = true := hts _ (List.mem_of_getElem? (i := 8) rfl)
  have inX1 : ∀ w ∈ u_ws RX1 TX1 12, w ∈ wsX3_lay := fun w h => List.mem_cons_of_mem _ (List.mem_append_left _ (List.mem_append_left _ (List.mem_append_left _ (List.mem_append_right _ h))))
  have K52 : (Cond.classLink RX3 52 "java/lang/IllegalStateException").before ar st = true := hts _ (List.mem_of_getElem? (i := 5) rfl)
  have KI52 : (Cond.initialized "java/lang/IllegalStateException").before ar st = true := hts _ (List.mem_of_getElem? (i := 6) rfl)
  have K38 : (Cond.classLink RX3 38 "java/lang/IndexOutOfBoundsException").before ar st = true := hts _ (List.mem_of_getElem? (i := 1) rfl)
  have KI38 : (Cond.initialized "java/lang/IndexOutOfBoundsException").before ar st = true := hts _ (List.mem_of_getElem? (i := 2) rfl)
  refine lv_iload_n hx hb dX3_lay_0 rfl (lv_at hl 1 rfl) ?_
  refine rd_S (rest := []) ⟨hx, hb, hml, hown, hts⟩ hP hE (c_X3_isPlayer l D K _ x) (va_cwS 1 hts gX3_lay_X3_isPlayer rfl rfl rfl hn_X3_isPlayer ⟨Nat.le_of_ble_eq_true rfl, Nat.le_of_ble_eq_true rfl⟩) rfl hl.1 rfl (Nat.le_of_ble_eq_true rfl) dX3_lay_1 ⟨Nat.le_of_ble_eq_true rfl, Nat.le_of_ble_eq_true rfl⟩ ?_
  refine bv_if_ne (x := inR 0 3 x) (tgt := 17) hx hb dX3_lay_4 (by decide) (fun c_1 => ?_) (fun c_1 => ?_)
  · obtain ⟨s9, lo_s9, hi_s9, e_s9⟩ := inR_nL (a := 0) (b := 3) rfl rfl (by decide) (by decide) c_1
    subst e_s9
    have t_s9 := tn_nI (n := s9) (by omega)
    refine lv_iload_n hx hb dX3_lay_17 rfl (lv_at hl 2 rfl) ?_
    refine rd_S (rest := []) ⟨hx, hb, hml, hown, hts⟩ hP hE (c_X3_isDie l D K _ g9) (va_cwS 1 hts gX3_lay_X3_isDie rfl rfl rfl hn_X3_isDie ⟨Nat.le_of_ble_eq_true rfl, Nat.le_of_ble_eq_true rfl⟩) rfl hl.1 rfl (Nat.le_of_ble_eq_true rfl) dX3_lay_18 ⟨Nat.le_of_ble_eq_true rfl, Nat.le_of_ble_eq_true rfl⟩ ?_
    refine bv_if_eq (x := inR 1 6 g9) (tgt := 31) hx hb dX3_lay_21 (by decide) (fun c_2 => ?_) (fun c_2 => ?_)
    · refine tx_thr (n := 2) (cls := xIA) (is := 113) hx hb hst hown (by decide +kernel) K111 KI111 (fun w h => hts w (List.mem_cons_of_mem _ (List.mem_append_left _ (List.mem_append_right _ h)))) xh_IA xg_IA hXw.2.2.2.2.1 hXw (List.mem_of_getElem? (i := 7) rfl) hZ hAe hP hD hS (hl.1.trans hml.symm) hxt ⟨Nat.le_of_ble_eq_true rfl, Nat.le_of_ble_eq_true rfl⟩ ⟨Nat.le_of_ble_eq_true rfl, Nat.le_of_ble_eq_true rfl⟩ hk ⟨Nat.le_of_ble_eq_true rfl, Nat.le_of_ble_eq_true rfl⟩ (by decide) rfl ?_ dX3_lay_31 dX3_lay_34 dX3_lay_35 dX3_lay_37 dX3_lay_40
      first | (simp [laE, c_1, t_s9, c_2]; done) | (subst_vars; simp [laE, c_1, t_s9, c_2]; done) | simp_all [laE]
    · obtain ⟨k9, lo_k9, hi_k9, e_k9⟩ := inR_nL (a := 1) (b := 6) rfl rfl (by decide) (by decide) c_2
      subst e_k9
      have t_k9 := tn_nI (n := k9) (by omega)
      refine lv_iload_n hx hb dX3_lay_24 rfl (lv_at hl 3 rfl) ?_
      refine rd_S (rest := []) ⟨hx, hb, hml, hown, hts⟩ hP hE (c_X3_isDirection l D K _ d) (va_cwS 1 hts gX3_lay_X3_isDirection rfl rfl rfl hn_X3_isDirection ⟨Nat.le_of_ble_eq_true rfl, Nat.le_of_ble_eq_true rfl⟩) rfl hl.1 rfl (Nat.le_of_ble_eq_true rfl) dX3_lay_25 ⟨Nat.le_of_ble_eq_true rfl, Nat.le_of_ble_eq_true rfl⟩ ?_
      refine bv_if_ne (x := inR 0 3 d) (tgt := 41) hx hb dX3_lay_28 (by decide) (fun c_3 => ?_) (fun c_3 => ?_)
      · obtain ⟨d9, lo_d9, hi_d9, e_d9⟩ := inR_nL (a := 0) (b := 3) rfl rfl (by decide) (by decide) c_3
        subst e_d9
        have t_d9 := tn_nI (n := d9) (by omega)
        refine lv_aload_n hx hb dX3_lay_41 rfl (lv_at hl 0 rfl) ?_
        refine va_get (D := D) (ci := 3) (v := .ref (a 0)) (C := RX3) (T := TX3) (N := 5) hx hb hts inX3 hown hE.1 hP 17 rfl rfl 0 (by decide) F12 (fun _ h9 => h9) rfl dX3_lay_42 ?_
        refine va_get (D := D) (ci := 1) (v := .ref (a 7)) (C := RX1) (T := TX1) (N := 12) hx hb hts inX1 hown hE.1 hP 0 rfl rfl 6 (by decide) F116 (fun _ h9 => h9) rfl dX3_lay_45 ?_
        refine lv_iload_n hx hb dX3_lay_48 rfl (lv_at hl 1 rfl) ?_
        refine rd_S (rest := []) ⟨hx, hb, hml, hown, hts⟩ hP hE (c_X3_at l D K _ 7 _ 4 _ s9 rfl (by omega) (by omega)) (va_cwS 2 hts gX3_lay_X3_at rfl rfl rfl hn_X3_at ⟨Nat.le_of_ble_eq_true rfl, Nat.le_of_ble_eq_true rfl⟩) rfl hl.1 rfl (Nat.le_of_ble_eq_true rfl) dX3_lay_49 ⟨Nat.le_of_ble_eq_true rfl, Nat.le_of_ble_eq_true rfl⟩ ?_
        refine top_i (y := nI (hdT T s9)) (show T 6 s9 = nI (hdT T s9) from eq_hd hI (by omega)) ?_
        have hb_4 := hd_lt hI (show s9 < 4 by omega)
        refine lv_istore (lv' := [(4, .int (nI (hdT T s9))), (0, .ref (c 0)), (1, .int (nI s9)), (2, .int (nI k9)), (3, .int (nI d9))]) hx hb dX3_lay_52 hl (by decide) rfl (fun ls hl => ?_)
        refine lv_aload_n hx hb dX3_lay_54 rfl (lv_at hl 1 rfl) ?_
        refine va_get (D := D) (ci := 3) (v := .ref (a 0)) (C := RX3) (T := TX3) (N := 5) hx hb hts inX3 hown hE.1 hP 17 rfl rfl 0 (by decide) F12 (fun _ h9 => h9) rfl dX3_lay_55 ?_
        refine lv_iload_n hx hb dX3_lay_58 rfl (lv_at hl 2 rfl) ?_
        refine lv_iload hx hb dX3_lay_59 (lv_at hl 0 rfl) ?_
        refine lv_iload_n hx hb dX3_lay_61 rfl (lv_at hl 3 rfl) ?_
        refine lv_iload_n hx hb dX3_lay_62 rfl (lv_at hl 4 rfl) ?_
        refine rd_V (rest := []) (ci := 1) (q0 := 0) ⟨hx, hb, hml, hown, hts⟩ hP hE (c_X1_reason l D K _ _ _ s9 (hdT T s9) k9 d9 hI (by omega) (by omega) (by omega) (by omega)) (cwV 4 hts gX3_lay_X1_reason rfl rfl rfl hd_X1_reason ⟨Nat.le_of_ble_eq_true rfl, Nat.le_of_ble_eq_true rfl⟩) rfl rfl rfl rfl hl.1 rfl (Nat.le_of_ble_eq_true rfl) dX3_lay_63 ⟨Nat.le_of_ble_eq_true rfl, Nat.le_of_ble_eq_true rfl⟩ ?_
        have hb_5 := why_lt T s9 (hdT T s9) k9 d9
        refine nv_if_eq (x := whyT T s9 (hdT T s9) k9 d9) (tgt := 79) hx hb dX3_lay_66 (by decide) (by omega) (fun c_6 => ?_) (fun c_6 => ?_)
        · have n_c_6 : ¬ 0 < whyT T s9 (hdT T s9) k9 d9 := by omega
          obtain ⟨to_7, hto_7⟩ := why_nb (show whyT T s9 (hdT T s9) _ d9 = 0 by omega)
          have hbto_7 := nb_lt (show hdT T s9 < 80 by first | omega | exact hd_lt hI (by omega)) to_7 hto_7
          have htto_7 := toT_s hto_7
          refine lv_aload_n hx hb dX3_lay_79 rfl (lv_at hl 1 rfl) ?_
          refine wr_V (rest := []) (ci := 3) (q0 := 17) ⟨hx, hb, hml, hown, hts⟩ hP hE hA hD hS (c_X3_saveState l D K _ _ _ _ _ _ _ _ _ _ _ _ _ sn _ hsn) (cwV 0 hts gX3_lay_X3_saveState rfl rfl rfl hd_X3_saveState ⟨Nat.le_of_ble_eq_true rfl, Nat.le_of_ble_eq_true rfl⟩) rfl rfl rfl rfl hl.1 rfl (Nat.le_of_ble_eq_true rfl) dX3_lay_80 ⟨Nat.le_of_ble_eq_true rfl, Nat.le_of_ble_eq_true rfl⟩ (fun H locs hP hD hS => ?_)
          have hP : va_P D vwCl (townW K a T ++ (waysW K b len qu n ++ (textW K t cs ln ++ (mainW K a b t c (svG g sn) (svN sn) ++ svW K (svG g sn) (svV Sv sn T) X)))) H := hP
          have hD : va_D A (townW K a T ++ (waysW K b len qu n ++ (textW K t cs ln ++ (mainW K a b t c (svG g sn) (svN sn) ++ svW K (svG g sn) (svV Sv sn T) X)))) := hD
          refine lv_aload_n hx hb dX3_lay_83 rfl (lv_at hl 1 rfl) ?_
          refine va_get (D := D) (ci := 3) (v := .ref (a 0)) (C := RX3) (T := TX3) (N := 5) hx hb hts inX3 hown hE.1 hP 17 rfl rfl 0 (by decide) F12 (fun _ h9 => h9) rfl dX3_lay_84 ?_
          refine lv_iload_n hx hb dX3_lay_87 rfl (lv_at hl 2 rfl) ?_
          refine lv_iload hx hb dX3_lay_88 (lv_at hl 0 rfl) ?_
          refine lv_iload_n hx hb dX3_lay_90 rfl (lv_at hl 4 rfl) ?_
          refine wr_V (rest := []) (ci := 1) (q0 := 0) ⟨hx, hb, hml, hown, hts⟩ hP hE hA hD hS (c_X1_layPiece l D K _ _ _ _ s9 (hdT T s9) d9 to_7 hI (by omega) (by omega) (by omega) hto_7) (cwV 3 hts gX3_lay_X1_layPiece rfl rfl rfl hd_X1_layPiece ⟨Nat.le_of_ble_eq_true rfl, Nat.le_of_ble_eq_true rfl⟩) rfl rfl rfl rfl hl.1 rfl (Nat.le_of_ble_eq_true rfl) dX3_lay_91 ⟨Nat.le_of_ble_eq_true rfl, Nat.le_of_ble_eq_true rfl⟩ (fun H locs hP hD hS => ?_)
          have hP : va_P D vwCl (townW K a (layT T s9 to_7 d9) ++ (waysW K b len qu n ++ (textW K t cs ln ++ (mainW K a b t c (svG g sn) (svN sn) ++ svW K (svG g sn) (svV Sv sn T) X)))) H := hP
          have hD : va_D A (townW K a (layT T s9 to_7 d9) ++ (waysW K b len qu n ++ (textW K t cs ln ++ (mainW K a b t c (svG g sn) (svN sn) ++ svW K (svG g sn) (svV Sv sn T) X)))) := hD
          have ew : (townW K a (layT T s9 to_7 d9) ++ (waysW K b len qu n ++ (textW K t cs ln ++ (mainW K a b t c (svG g sn) (svN sn) ++ svW K (svG g sn) (svV Sv sn T) X)))) = (townW K a (layT T (tn (nI s9)) (toT (hdT T (tn (nI s9))) (tn (nI d9))) (tn (nI d9))) ++ (waysW K b len qu n ++ (textW K t cs ln ++ (mainW K a b t c (svG g sn) (svN sn) ++ svW K (svG g sn) (svV Sv sn T) X)))) := by first | rfl | (simp [c_1, t_s9, c_2, t_k9, c_3, t_d9, c_6, n_c_6, htto_7]; done) | (simp [c_1, t_s9, c_2, t_k9, c_3, t_d9, c_6, n_c_6, htto_7] <;> rfl)
          rw [ew] at hP hD
          refine tx_iret hAe hP hD hS hx hb hr hk dX3_lay_94 ⟨Nat.le_of_ble_eq_true rfl, Nat.le_of_ble_eq_true rfl⟩ ?_ (by first | rfl | (simp [setT_eq, c_1, t_s9, c_2, t_k9, c_3, t_d9, c_6, n_c_6, htto_7]; done) | (simp [setT_eq, c_1, t_s9, c_2, t_k9, c_3, t_d9, c_6, n_c_6, htto_7] <;> rfl))
          first | (simp [laE, c_1, t_s9, c_2, t_k9, c_3, t_d9, c_6, n_c_6, htto_7]; done) | (subst_vars; simp [laE, c_1, t_s9, c_2, t_k9, c_3, t_d9, c_6, n_c_6, htto_7]; done) | simp_all [laE]
        · have n_c_6 : ¬ whyT T s9 (hdT T s9) k9 d9 = 0 := by omega
          refine tx_thr (n := 3) (cls := xIS) (is := 123) hx hb hst hown (by decide +kernel) K52 KI52 (fun w h => hts w (List.mem_cons_of_mem _ (List.mem_append_right _ h))) xh_IS xg_IS hXw.2.2.2.2.2.1 hXw (List.mem_of_getElem? (i := 8) rfl) hZ hAe hP hD hS (hl.1.trans hml.symm) hxt ⟨Nat.le_of_ble_eq_true rfl, Nat.le_of_ble_eq_true rfl⟩ ⟨Nat.le_of_ble_eq_true rfl, Nat.le_of_ble_eq_true rfl⟩ hk ⟨Nat.le_of_ble_eq_true rfl, Nat.le_of_ble_eq_true rfl⟩ (by decide) rfl ?_ dX3_lay_69 dX3_lay_72 dX3_lay_73 dX3_lay_75 dX3_lay_78
          first | (simp [laE, c_1, t_s9, c_2, t_k9, c_3, t_d9, c_6, n_c_6]; done) | (subst_vars; simp [laE, c_1, t_s9, c_2, t_k9, c_3, t_d9, c_6, n_c_6]; done) | simp_all [laE]
      · refine tx_thr (n := 2) (cls := xIA) (is := 113) hx hb hst hown (by decide +kernel) K111 KI111 (fun w h => hts w (List.mem_cons_of_mem _ (List.mem_append_left _ (List.mem_append_right _ h)))) xh_IA xg_IA hXw.2.2.2.2.1 hXw (List.mem_of_getElem? (i := 7) rfl) hZ hAe hP hD hS (hl.1.trans hml.symm) hxt ⟨Nat.le_of_ble_eq_true rfl, Nat.le_of_ble_eq_true rfl⟩ ⟨Nat.le_of_ble_eq_true rfl, Nat.le_of_ble_eq_true rfl⟩ hk ⟨Nat.le_of_ble_eq_true rfl, Nat.le_of_ble_eq_true rfl⟩ (by decide) rfl ?_ dX3_lay_31 dX3_lay_34 dX3_lay_35 dX3_lay_37 dX3_lay_40
        first | (simp [laE, c_1, t_s9, c_2, t_k9, c_3]; done) | (subst_vars; simp [laE, c_1, t_s9, c_2, t_k9, c_3]; done) | simp_all [laE]
  · refine tx_thr (n := 1) (cls := xIO) (is := 103) hx hb hst hown (by decide +kernel) K38 KI38 (fun w h => hts w (List.mem_cons_of_mem _ (List.mem_append_left _ (List.mem_append_left _ (List.mem_append_right _ h))))) xh_IO xg_IO hXw.2.2.2.1 hXw (List.mem_of_getElem? (i := 6) rfl) hZ hAe hP hD hS (hl.1.trans hml.symm) hxt ⟨Nat.le_of_ble_eq_true rfl, Nat.le_of_ble_eq_true rfl⟩ ⟨Nat.le_of_ble_eq_true rfl, Nat.le_of_ble_eq_true rfl⟩ hk ⟨Nat.le_of_ble_eq_true rfl, Nat.le_of_ble_eq_true rfl⟩ (by decide) rfl ?_ dX3_lay_7 dX3_lay_10 dX3_lay_11 dX3_lay_13 dX3_lay_16
    first | (simp [laE, c_1]; done) | (subst_vars; simp [laE, c_1]; done) | simp_all [laE]
set_option maxHeartbeats 4000000 in
set_option maxRecDepth 100000 in
theorem c_X3_branch (l : Launch) (D : va_G) (K : Nat → ClassId) (dp fs : Nat) (hst : l.stackTraces = false) (sz : Nat) (a b t c : Nat → Nat) (g : Nat → Nat → Nat) (T : TW) (X : va_W) (len : Nat → Option Nat) (qu : Nat → Nat) (n : Nat) (cs : Nat → Nat) (ln sn : Nat) (Sv : Nat → TW) (x f d : Int32) (hI : Inv T) (hsn : sn ≤ 6) : Tx dp fs l yX3_branch wsX3_branch ({ frames := 6, cells := 1, slots := 6, locals := 103 } : Room) D K (townW K a T ++ (waysW K b len qu n ++ (textW K t cs ln ++ (mainW K a b t c g sn ++ svW K g Sv X)))) sz [.ref (c 0), .int x, .int f, .int d] (brE T x f d) xnA (townW K a (layT T (tn x) (toT (tn f) (tn d)) (tn d)) ++ (waysW K b len qu n ++ (textW K t cs ln ++ (mainW K a b t c (svG g sn) (svN sn) ++ svW K (svG g sn) (svV Sv sn T) X)))) (nI (tollT T (toT (tn f) (tn d)))) 1 6 := by
  refine tx_intro (cc := cX3_branch) (maxL := 4) (ret := (some .int)) (by decide) rfl (Nat.le_of_ble_eq_true rfl) ?_
  intro pr en st md ar bl mt co A hx hb hml hr hts hown hk hsz hAe hP hE hD hS hA hxt hXw hZ ls hl
  have hown : st.vm.findClass RX3 = some md.cls := hown
  have hl : lv_has ls 4 [(0, .ref (c 0)), (1, .int x), (2, .int f), (3, .int d)] := hl
  obtain ⟨H, hH⟩ : ∃ z, z = st.heap := ⟨_, rfl⟩
  obtain ⟨locs, hlo⟩ : ∃ z : List Loc, z = [] := ⟨_, rfl⟩
  have hP : va_P D vwCl (townW K a T ++ (waysW K b len qu n ++ (textW K t cs ln ++ (mainW K a b t c g sn ++ svW K g Sv X)))) H := by rw [hH]; exact hP
  have hS : va_S A st.heap H locs := by rw [hH, hlo]; exact hS
  suffices go : W pr l en (headSpec wsX3_branch ({ frames := 6, cells := 1, slots := 6, locals := 103 } : Room)).room st md ar bl mt co H locs 0 0 (vx_MQ bl (txQ D (townW K a T ++ (waysW K b len qu n ++ (textW K t cs ln ++ (mainW K a b t c g sn ++ svW K g Sv X)))) (townW K a (layT T (tn x) (toT (tn f) (tn d)) (tn d)) ++ (waysW K b len qu n ++ (textW K t cs ln ++ (mainW K a b t c (svG g sn) (svN sn) ++ svW K (svG g sn) (svV Sv sn T) X)))) sz (nI (tollT T (toT (tn f) (tn d)))) (brE T x f d)) (txX D (townW K a T ++ (waysW K b len qu n ++ (textW K t cs ln ++ (mainW K a b t c g sn ++ svW K g Sv X)))) sz (brE T x f d) xnA) ar st 1 6 A) (F0 md 0 ls []) by rw [hH, hlo] at go; exact go
  clear hH hlo
  have K38 : (Cond.classLink RX3 38 "java/lang/IndexOutOfBoundsException").before ar st = true := hts _ (List.mem_of_getElem? (i := 1) rfl)
  have KI38 : (Cond.initialized "java/lang/IndexOutOfBoundsException").before ar st = true := hts _ (List.mem_of_getElem? (i := 2) rfl)
  have F12 : (Cond.fieldLink RX3 12 "TramTolls" "town" "LTramTolls$Town;").before ar st = true := hts _ (List.mem_of_getElem? (i := 7) rfl)
  have inX3 : ∀ w ∈ u_ws RX3 TX3 5, w ∈ wsX3_branch := fun w h => List.mem_cons_of_mem _ (List.mem_append_left _ (List.mem_append_left _ (List.mem_append_left _ (List.mem_append_left _ (List.mem_append_right _ h)))))
  have K52 : (Cond.classLink RX3 52 "java/lang/IllegalStateException").before ar st = true := hts _ (List.mem_of_getElem? (i := 5) rfl)
  have KI52 : (Cond.initialized "java/lang/IllegalStateException").before ar st = true := hts _ (List.mem_of_getElem? (i := 6) rfl)
  have K111 : (Cond.classLink RX3 111 "java/lang/IllegalArgumentException").before ar st = true := hts _ (List.mem_of_getElem? (i := 3) rfl)
  have KI111 : (Cond.initialized "java/lang/IllegalArgumentException").before ar st = true := hts _ (List.mem_of_getElem? (i := 4) rfl)
  refine lv_iload_n hx hb dX3_branch_0 rfl (lv_at hl 1 rfl) ?_
  refine rd_S (rest := []) ⟨hx, hb, hml, hown, hts⟩ hP hE (c_X3_isPlayer l D K _ x) (va_cwS 1 hts gX3_branch_X3_isPlayer rfl rfl rfl hn_X3_isPlayer ⟨Nat.le_of_ble_eq_true rfl, Nat.le_of_ble_eq_true rfl⟩) rfl hl.1 rfl (Nat.le_of_ble_eq_true rfl) dX3_branch_1 ⟨Nat.le_of_ble_eq_true rfl, Nat.le_of_ble_eq_true rfl⟩ ?_
  refine bv_if_eq (x := inR 0 3 x) (tgt := 26) hx hb dX3_branch_4 (by decide) (fun c_1 => ?_) (fun c_1 => ?_)
  · refine tx_thr (n := 1) (cls := xIO) (is := 132) hx hb hst hown (by decide +kernel) K38 KI38 (fun w h => hts w (List.mem_cons_of_mem _ (List.mem_append_left _ (List.mem_append_left _ (List.mem_append_right _ h))))) xh_IO xg_IO hXw.2.2.2.1 hXw (List.mem_of_getElem? (i := 9) rfl) hZ hAe hP hD hS (hl.1.trans hml.symm) hxt ⟨Nat.le_of_ble_eq_true rfl, Nat.le_of_ble_eq_true rfl⟩ ⟨Nat.le_of_ble_eq_true rfl, Nat.le_of_ble_eq_true rfl⟩ hk ⟨Nat.le_of_ble_eq_true rfl, Nat.le_of_ble_eq_true rfl⟩ (by decide) rfl ?_ dX3_branch_26 dX3_branch_29 dX3_branch_30 dX3_branch_32 dX3_branch_35
    first | (simp [brE, c_1]; done) | (subst_vars; simp [brE, c_1]; done) | simp_all [brE]
  · obtain ⟨s9, lo_s9, hi_s9, e_s9⟩ := inR_nL (a := 0) (b := 3) rfl rfl (by decide) (by decide) c_1
    subst e_s9
    have t_s9 := tn_nI (n := s9) (by omega)
    refine lv_iload_n hx hb dX3_branch_7 rfl (lv_at hl 2 rfl) ?_
    refine rd_S (rest := []) ⟨hx, hb, hml, hown, hts⟩ hP hE (c_X3_isSquare l D K _ f) (va_cwS 1 hts gX3_branch_X3_isSquare rfl rfl rfl hn_X3_isSquare ⟨Nat.le_of_ble_eq_true rfl, Nat.le_of_ble_eq_true rfl⟩) rfl hl.1 rfl (Nat.le_of_ble_eq_true rfl) dX3_branch_8 ⟨Nat.le_of_ble_eq_true rfl, Nat.le_of_ble_eq_true rfl⟩ ?_
    refine bv_if_eq (x := inR 0 79 f) (tgt := 26) hx hb dX3_branch_11 (by decide) (fun c_2 => ?_) (fun c_2 => ?_)
    · refine tx_thr (n := 1) (cls := xIO) (is := 132) hx hb hst hown (by decide +kernel) K38 KI38 (fun w h => hts w (List.mem_cons_of_mem _ (List.mem_append_left _ (List.mem_append_left _ (List.mem_append_right _ h))))) xh_IO xg_IO hXw.2.2.2.1 hXw (List.mem_of_getElem? (i := 9) rfl) hZ hAe hP hD hS (hl.1.trans hml.symm) hxt ⟨Nat.le_of_ble_eq_true rfl, Nat.le_of_ble_eq_true rfl⟩ ⟨Nat.le_of_ble_eq_true rfl, Nat.le_of_ble_eq_true rfl⟩ hk ⟨Nat.le_of_ble_eq_true rfl, Nat.le_of_ble_eq_true rfl⟩ (by decide) rfl ?_ dX3_branch_26 dX3_branch_29 dX3_branch_30 dX3_branch_32 dX3_branch_35
      first | (simp [brE, c_1, t_s9, c_2]; done) | (subst_vars; simp [brE, c_1, t_s9, c_2]; done) | simp_all [brE]
    · obtain ⟨f9, lo_f9, hi_f9, e_f9⟩ := inR_nL (a := 0) (b := 79) rfl rfl (by decide) (by decide) c_2
      subst e_f9
      have t_f9 := tn_nI (n := f9) (by omega)
      refine lv_aload_n hx hb dX3_branch_14 rfl (lv_at hl 0 rfl) ?_
      refine va_get (D := D) (ci := 3) (v := .ref (a 0)) (C := RX3) (T := TX3) (N := 5) hx hb hts inX3 hown hE.1 hP 17 rfl rfl 0 (by decide) F12 (fun _ h9 => h9) rfl dX3_branch_15 ?_
      refine lv_iload_n hx hb dX3_branch_18 rfl (lv_at hl 1 rfl) ?_
      refine lv_iload_n hx hb dX3_branch_19 rfl (lv_at hl 2 rfl) ?_
      refine rd_V (rest := []) (ci := 1) (q0 := 0) ⟨hx, hb, hml, hown, hts⟩ hP hE (c_X1_hasTrack l D K _ _ _ s9 f9 hI (by omega) (by omega)) (cwV 2 hts gX3_branch_X1_hasTrack rfl rfl rfl hd_X1_hasTrack ⟨Nat.le_of_ble_eq_true rfl, Nat.le_of_ble_eq_true rfl⟩) rfl rfl rfl rfl hl.1 rfl (Nat.le_of_ble_eq_true rfl) dX3_branch_20 ⟨Nat.le_of_ble_eq_true rfl, Nat.le_of_ble_eq_true rfl⟩ ?_
      refine bv_if_ne (x := hasT T s9 f9) (tgt := 36) hx hb dX3_branch_23 (by decide) (fun c_3 => ?_) (fun c_3 => ?_)
      · refine lv_iload_n hx hb dX3_branch_36 rfl (lv_at hl 3 rfl) ?_
        refine rd_S (rest := []) ⟨hx, hb, hml, hown, hts⟩ hP hE (c_X3_isDirection l D K _ d) (va_cwS 1 hts gX3_branch_X3_isDirection rfl rfl rfl hn_X3_isDirection ⟨Nat.le_of_ble_eq_true rfl, Nat.le_of_ble_eq_true rfl⟩) rfl hl.1 rfl (Nat.le_of_ble_eq_true rfl) dX3_branch_37 ⟨Nat.le_of_ble_eq_true rfl, Nat.le_of_ble_eq_true rfl⟩ ?_
        refine bv_if_ne (x := inR 0 3 d) (tgt := 53) hx hb dX3_branch_40 (by decide) (fun c_4 => ?_) (fun c_4 => ?_)
        · obtain ⟨d9, lo_d9, hi_d9, e_d9⟩ := inR_nL (a := 0) (b := 3) rfl rfl (by decide) (by decide) c_4
          subst e_d9
          have t_d9 := tn_nI (n := d9) (by omega)
          refine lv_aload_n hx hb dX3_branch_53 rfl (lv_at hl 0 rfl) ?_
          refine va_get (D := D) (ci := 3) (v := .ref (a 0)) (C := RX3) (T := TX3) (N := 5) hx hb hts inX3 hown hE.1 hP 17 rfl rfl 0 (by decide) F12 (fun _ h9 => h9) rfl dX3_branch_54 ?_
          refine lv_iload_n hx hb dX3_branch_57 rfl (lv_at hl 1 rfl) ?_
          refine lv_iload_n hx hb dX3_branch_58 rfl (lv_at hl 2 rfl) ?_
          refine lv_bipush (v := nI 6) hx hb dX3_branch_59 (by decide) ?_
          refine lv_iload_n hx hb dX3_branch_61 rfl (lv_at hl 3 rfl) ?_
          refine rd_V (rest := []) (ci := 1) (q0 := 0) ⟨hx, hb, hml, hown, hts⟩ hP hE (c_X1_reason l D K _ _ _ s9 f9 6 d9 hI (by omega) (by omega) (by omega) (by omega)) (cwV 4 hts gX3_branch_X1_reason rfl rfl rfl hd_X1_reason ⟨Nat.le_of_ble_eq_true rfl, Nat.le_of_ble_eq_true rfl⟩) rfl rfl rfl rfl hl.1 rfl (Nat.le_of_ble_eq_true rfl) dX3_branch_62 ⟨Nat.le_of_ble_eq_true rfl, Nat.le_of_ble_eq_true rfl⟩ ?_
          have hb_5 := why_lt T s9 f9 6 d9
          refine nv_if_eq (x := whyT T s9 f9 6 d9) (tgt := 78) hx hb dX3_branch_65 (by decide) (by omega) (fun c_6 => ?_) (fun c_6 => ?_)
          · have n_c_6 : ¬ 0 < whyT T s9 f9 6 d9 := by omega
            obtain ⟨to_7, hto_7⟩ := why_nb (show whyT T s9 (f9) _ d9 = 0 by omega)
            have hbto_7 := nb_lt (show f9 < 80 by first | omega | exact hd_lt hI (by omega)) to_7 hto_7
            have htto_7 := toT_s hto_7
            refine lv_aload_n hx hb dX3_branch_78 rfl (lv_at hl 0 rfl) ?_
            refine wr_V (rest := []) (ci := 3) (q0 := 17) ⟨hx, hb, hml, hown, hts⟩ hP hE hA hD hS (c_X3_saveState l D K _ _ _ _ _ _ _ _ _ _ _ _ _ sn _ hsn) (cwV 0 hts gX3_branch_X3_saveState rfl rfl rfl hd_X3_saveState ⟨Nat.le_of_ble_eq_true rfl, Nat.le_of_ble_eq_true rfl⟩) rfl rfl rfl rfl hl.1 rfl (Nat.le_of_ble_eq_true rfl) dX3_branch_79 ⟨Nat.le_of_ble_eq_true rfl, Nat.le_of_ble_eq_true rfl⟩ (fun H locs hP hD hS => ?_)
            have hP : va_P D vwCl (townW K a T ++ (waysW K b len qu n ++ (textW K t cs ln ++ (mainW K a b t c (svG g sn) (svN sn) ++ svW K (svG g sn) (svV Sv sn T) X)))) H := hP
            have hD : va_D A (townW K a T ++ (waysW K b len qu n ++ (textW K t cs ln ++ (mainW K a b t c (svG g sn) (svN sn) ++ svW K (svG g sn) (svV Sv sn T) X)))) := hD
            refine lv_aload_n hx hb dX3_branch_82 rfl (lv_at hl 0 rfl) ?_
            refine va_get (D := D) (ci := 3) (v := .ref (a 0)) (C := RX3) (T := TX3) (N := 5) hx hb hts inX3 hown hE.1 hP 17 rfl rfl 0 (by decide) F12 (fun _ h9 => h9) rfl dX3_branch_83 ?_
            refine lv_iload_n hx hb dX3_branch_86 rfl (lv_at hl 1 rfl) ?_
            refine lv_iload_n hx hb dX3_branch_87 rfl (lv_at hl 2 rfl) ?_
            refine lv_iload_n hx hb dX3_branch_88 rfl (lv_at hl 3 rfl) ?_
            refine wr_V (rest := []) (ci := 1) (q0 := 0) ⟨hx, hb, hml, hown, hts⟩ hP hE hA hD hS (c_X1_layPiece l D K _ _ _ _ s9 f9 d9 to_7 hI (by omega) (by omega) (by omega) hto_7) (cwV 3 hts gX3_branch_X1_layPiece rfl rfl rfl hd_X1_layPiece ⟨Nat.le_of_ble_eq_true rfl, Nat.le_of_ble_eq_true rfl⟩) rfl rfl rfl rfl hl.1 rfl (Nat.le_of_ble_eq_true rfl) dX3_branch_89 ⟨Nat.le_of_ble_eq_true rfl, Nat.le_of_ble_eq_true rfl⟩ (fun H locs hP hD hS => ?_)
            have hP : va_P D vwCl (townW K a (layT T s9 to_7 d9) ++ (waysW K b len qu n ++ (textW K t cs ln ++ (mainW K a b t c (svG g sn) (svN sn) ++ svW K (svG g sn) (svV Sv sn T) X)))) H := hP
            have hD : va_D A (townW K a (layT T s9 to_7 d9) ++ (waysW K b len qu n ++ (textW K t cs ln ++ (mainW K a b t c (svG g sn) (svN sn) ++ svW K (svG g sn) (svV Sv sn T) X)))) := hD
            have ew : (townW K a (layT T s9 to_7 d9) ++ (waysW K b len qu n ++ (textW K t cs ln ++ (mainW K a b t c (svG g sn) (svN sn) ++ svW K (svG g sn) (svV Sv sn T) X)))) = (townW K a (layT T (tn (nI s9)) (toT (tn (nI f9)) (tn (nI d9))) (tn (nI d9))) ++ (waysW K b len qu n ++ (textW K t cs ln ++ (mainW K a b t c (svG g sn) (svN sn) ++ svW K (svG g sn) (svV Sv sn T) X)))) := by first | rfl | (simp [c_1, t_s9, c_2, t_f9, c_3, c_4, t_d9, c_6, n_c_6, htto_7]; done) | (simp [c_1, t_s9, c_2, t_f9, c_3, c_4, t_d9, c_6, n_c_6, htto_7] <;> rfl)
            rw [ew] at hP hD
            refine tx_iret hAe hP hD hS hx hb hr hk dX3_branch_92 ⟨Nat.le_of_ble_eq_true rfl, Nat.le_of_ble_eq_true rfl⟩ ?_ (by first | rfl | (simp [setT_eq, c_1, t_s9, c_2, t_f9, c_3, c_4, t_d9, c_6, n_c_6, htto_7]; done) | (simp [setT_eq, c_1, t_s9, c_2, t_f9, c_3, c_4, t_d9, c_6, n_c_6, htto_7] <;> rfl))
            first | (simp [brE, c_1, t_s9, c_2, t_f9, c_3, c_4, t_d9, c_6, n_c_6, htto_7]; done) | (subst_vars; simp [brE, c_1, t_s9, c_2, t_f9, c_3, c_4, t_d9, c_6, n_c_6, htto_7]; done) | simp_all [brE]
          · have n_c_6 : ¬ whyT T s9 f9 6 d9 = 0 := by omega
            refine tx_thr (n := 3) (cls := xIS) (is := 123) hx hb hst hown (by decide +kernel) K52 KI52 (fun w h => hts w (List.mem_cons_of_mem _ (List.mem_append_right _ h))) xh_IS xg_IS hXw.2.2.2.2.2.1 hXw (List.mem_of_getElem? (i := 8) rfl) hZ hAe hP hD hS (hl.1.trans hml.symm) hxt ⟨Nat.le_of_ble_eq_true rfl, Nat.le_of_ble_eq_true rfl⟩ ⟨Nat.le_of_ble_eq_true rfl, Nat.le_of_ble_eq_true rfl⟩ hk ⟨Nat.le_of_ble_eq_true rfl, Nat.le_of_ble_eq_true rfl⟩ (by decide) rfl ?_ dX3_branch_68 dX3_branch_71 dX3_branch_72 dX3_branch_74 dX3_branch_77
            first | (simp [brE, c_1, t_s9, c_2, t_f9, c_3, c_4, t_d9, c_6, n_c_6]; done) | (subst_vars; simp [brE, c_1, t_s9, c_2, t_f9, c_3, c_4, t_d9, c_6, n_c_6]; done) | simp_all [brE]
        · refine tx_thr (n := 2) (cls := xIA) (is := 134) hx hb hst hown (by decide +kernel) K111 KI111 (fun w h => hts w (List.mem_cons_of_mem _ (List.mem_append_left _ (List.mem_append_right _ h)))) xh_IA xg_IA hXw.2.2.2.2.1 hXw (List.mem_of_getElem? (i := 10) rfl) hZ hAe hP hD hS (hl.1.trans hml.symm) hxt ⟨Nat.le_of_ble_eq_true rfl, Nat.le_of_ble_eq_true rfl⟩ ⟨Nat.le_of_ble_eq_true rfl, Nat.le_of_ble_eq_true rfl⟩ hk ⟨Nat.le_of_ble_eq_true rfl, Nat.le_of_ble_eq_true rfl⟩ (by decide) rfl ?_ dX3_branch_43 dX3_branch_46 dX3_branch_47 dX3_branch_49 dX3_branch_52
          first | (simp [brE, c_1, t_s9, c_2, t_f9, c_3, c_4]; done) | (subst_vars; simp [brE, c_1, t_s9, c_2, t_f9, c_3, c_4]; done) | simp_all [brE]
      · refine tx_thr (n := 1) (cls := xIO) (is := 132) hx hb hst hown (by decide +kernel) K38 KI38 (fun w h => hts w (List.mem_cons_of_mem _ (List.mem_append_left _ (List.mem_append_left _ (List.mem_append_right _ h))))) xh_IO xg_IO hXw.2.2.2.1 hXw (List.mem_of_getElem? (i := 9) rfl) hZ hAe hP hD hS (hl.1.trans hml.symm) hxt ⟨Nat.le_of_ble_eq_true rfl, Nat.le_of_ble_eq_true rfl⟩ ⟨Nat.le_of_ble_eq_true rfl, Nat.le_of_ble_eq_true rfl⟩ hk ⟨Nat.le_of_ble_eq_true rfl, Nat.le_of_ble_eq_true rfl⟩ (by decide) rfl ?_ dX3_branch_26 dX3_branch_29 dX3_branch_30 dX3_branch_32 dX3_branch_35
        first | (simp [brE, c_1, t_s9, c_2, t_f9, c_3]; done) | (subst_vars; simp [brE, c_1, t_s9, c_2, t_f9, c_3]; done) | simp_all [brE]
set_option maxHeartbeats 4000000 in
set_option maxRecDepth 100000 in
theorem c_X3_give (l : Launch) (D : va_G) (K : Nat → ClassId) (dp fs : Nat) (hst : l.stackTraces = false) (sz : Nat) (a b t c : Nat → Nat) (g : Nat → Nat → Nat) (T : TW) (X : va_W) (len : Nat → Option Nat) (qu : Nat → Nat) (n : Nat) (cs : Nat → Nat) (ln sn : Nat) (Sv : Nat → TW) (x k : Int32) (hI : Inv T) (hsn : sn ≤ 6) : Tx dp fs l yX3_give wsX3_give ({ frames := 6, cells := 1, slots := 6, locals := 103 } : Room) D K (townW K a T ++ (waysW K b len qu n ++ (textW K t cs ln ++ (mainW K a b t c g sn ++ svW K g Sv X)))) sz [.ref (c 0), .int x, .int k] (giE T x k) xnA (townW K a (setT T 5 (tn x) (T 5 (tn x) + k)) ++ (waysW K b len qu n ++ (textW K t cs ln ++ (mainW K a b t c (svG g sn) (svN sn) ++ svW K (svG g sn) (svV Sv sn T) X)))) (coT T (tn x) + k) 1 6 := by
  refine tx_intro (cc := cX3_give) (maxL := 3) (ret := (some .int)) (by decide) rfl (Nat.le_of_ble_eq_true rfl) ?_
  intro pr en st md ar bl mt co A hx hb hml hr hts hown hk hsz hAe hP hE hD hS hA hxt hXw hZ ls hl
  have hown : st.vm.findClass RX3 = some md.cls := hown
  have hl : lv_has ls 3 [(0, .ref (c 0)), (1, .int x), (2, .int k)] := hl
  obtain ⟨H, hH⟩ : ∃ z, z = st.heap := ⟨_, rfl⟩
  obtain ⟨locs, hlo⟩ : ∃ z : List Loc, z = [] := ⟨_, rfl⟩
  have hP : va_P D vwCl (townW K a T ++ (waysW K b len qu n ++ (textW K t cs ln ++ (mainW K a b t c g sn ++ svW K g Sv X)))) H := by rw [hH]; exact hP
  have hS : va_S A st.heap H locs := by rw [hH, hlo]; exact hS
  suffices go : W pr l en (headSpec wsX3_give ({ frames := 6, cells := 1, slots := 6, locals := 103 } : Room)).room st md ar bl mt co H locs 0 0 (vx_MQ bl (txQ D (townW K a T ++ (waysW K b len qu n ++ (textW K t cs ln ++ (mainW K a b t c g sn ++ svW K g Sv X)))) (townW K a (setT T 5 (tn x) (T 5 (tn x) + k)) ++ (waysW K b len qu n ++ (textW K t cs ln ++ (mainW K a b t c (svG g sn) (svN sn) ++ svW K (svG g sn) (svV Sv sn T) X)))) sz (coT T (tn x) + k) (giE T x k)) (txX D (townW K a T ++ (waysW K b len qu n ++ (textW K t cs ln ++ (mainW K a b t c g sn ++ svW K g Sv X)))) sz (giE T x k) xnA) ar st 1 6 A) (F0 md 0 ls []) by rw [hH, hlo] at go; exact go
  clear hH hlo
  have K111 : (Cond.classLink RX3 111 "java/lang/IllegalArgumentException").before ar st = true := hts _ (List.mem_of_getElem? (i := 3) rfl)
  have KI111 : (Cond.initialized "java/lang/IllegalArgumentException").before ar st = true := hts _ (List.mem_of_getElem? (i := 4) rfl)
  have F12 : (Cond.fieldLink RX3 12 "TramTolls" "town" "LTramTolls$Town;").before ar st = true := hts _ (List.mem_of_getElem? (i := 7) rfl)
  have inX3 : ∀ w ∈ u_ws RX3 TX3 5, w ∈ wsX3_give := fun w h => List.mem_cons_of_mem _ (List.mem_append_left _ (List.mem_append_left _ (List.mem_append_left _ (List.mem_append_left _ (List.mem_append_right _ h)))))
  have F141 : (Cond.fieldLink RX3 141 "TramTolls$Town" "coins" "[I").before ar st = true := hts _ (List.mem_of_getElem? (i := 8) rfl)
  have inX1 : ∀ w ∈ u_ws RX1 TX1 12, w ∈ wsX3_give := fun w h => List.mem_cons_of_mem _ (List.mem_append_left _ (List.mem_append_left _ (List.mem_append_left _ (List.mem_append_right _ h))))
  have C144 : (Cond.constant RX3 144 (99999)).before ar st = true := hts _ (List.mem_of_getElem? (i := 9) rfl)
  have K52 : (Cond.classLink RX3 52 "java/lang/IllegalStateException").before ar st = true := hts _ (List.mem_of_getElem? (i := 5) rfl)
  have KI52 : (Cond.initialized "java/lang/IllegalStateException").before ar st = true := hts _ (List.mem_of_getElem? (i := 6) rfl)
  have K38 : (Cond.classLink RX3 38 "java/lang/IndexOutOfBoundsException").before ar st = true := hts _ (List.mem_of_getElem? (i := 1) rfl)
  have KI38 : (Cond.initialized "java/lang/IndexOutOfBoundsException").before ar st = true := hts _ (List.mem_of_getElem? (i := 2) rfl)
  refine lv_iload_n hx hb dX3_give_0 rfl (lv_at hl 1 rfl) ?_
  refine rd_S (rest := []) ⟨hx, hb, hml, hown, hts⟩ hP hE (c_X3_isPlayer l D K _ x) (va_cwS 1 hts gX3_give_X3_isPlayer rfl rfl rfl hn_X3_isPlayer ⟨Nat.le_of_ble_eq_true rfl, Nat.le_of_ble_eq_true rfl⟩) rfl hl.1 rfl (Nat.le_of_ble_eq_true rfl) dX3_give_1 ⟨Nat.le_of_ble_eq_true rfl, Nat.le_of_ble_eq_true rfl⟩ ?_
  refine bv_if_ne (x := inR 0 3 x) (tgt := 17) hx hb dX3_give_4 (by decide) (fun c_1 => ?_) (fun c_1 => ?_)
  · obtain ⟨s9, lo_s9, hi_s9, e_s9⟩ := inR_nL (a := 0) (b := 3) rfl rfl (by decide) (by decide) c_1
    subst e_s9
    have t_s9 := tn_nI (n := s9) (by omega)
    refine lv_iload_n hx hb dX3_give_17 rfl (lv_at hl 2 rfl) ?_
    refine lv_iconst (v := nI 1) hx hb dX3_give_18 (by decide) ?_
    refine lv_icmp_lt (x := k) (y := nI 1) (tgt := 29) hx hb dX3_give_19 (by decide) (fun c_2 => ?_) (fun c_2 => ?_)
    · have n_c_2 := i_lt_nle c_2
      have f9c_2 : inR 1 999 k = false := inR_lo c_2
      refine tx_thr (n := 2) (cls := xIA) (is := 139) hx hb hst hown (by decide +kernel) K111 KI111 (fun w h => hts w (List.mem_cons_of_mem _ (List.mem_append_left _ (List.mem_append_right _ h)))) xh_IA xg_IA hXw.2.2.2.2.1 hXw (List.mem_of_getElem? (i := 11) rfl) hZ hAe hP hD hS (hl.1.trans hml.symm) hxt ⟨Nat.le_of_ble_eq_true rfl, Nat.le_of_ble_eq_true rfl⟩ ⟨Nat.le_of_ble_eq_true rfl, Nat.le_of_ble_eq_true rfl⟩ hk ⟨Nat.le_of_ble_eq_true rfl, Nat.le_of_ble_eq_true rfl⟩ (by decide) rfl ?_ dX3_give_29 dX3_give_32 dX3_give_33 dX3_give_35 dX3_give_38
      first | (simp [giE, c_1, t_s9, c_2, n_c_2, f9c_2]; done) | (subst_vars; simp [giE, c_1, t_s9, c_2, n_c_2, f9c_2]; done) | simp_all [giE]
    · have n_c_2 := i_nlt_le c_2
      refine lv_iload_n hx hb dX3_give_22 rfl (lv_at hl 2 rfl) ?_
      refine lv_sipush (v := nI 999) hx hb dX3_give_23 (by decide) ?_
      refine lv_icmp_le (x := k) (y := nI 999) (tgt := 39) hx hb dX3_give_26 (by decide) (fun c_3 => ?_) (fun c_3 => ?_)
      · have n_c_3 := i_le_nlt c_3
        have f9c_3 : inR 1 999 k = true := inR_of c_2 n_c_3
        refine lv_aload_n hx hb dX3_give_39 rfl (lv_at hl 0 rfl) ?_
        refine va_get (D := D) (ci := 3) (v := .ref (a 0)) (C := RX3) (T := TX3) (N := 5) hx hb hts inX3 hown hE.1 hP 17 rfl rfl 0 (by decide) F12 (fun _ h9 => h9) rfl dX3_give_40 ?_
        refine va_get (D := D) (ci := 1) (v := .ref (a 6)) (C := RX1) (T := TX1) (N := 12) hx hb hts inX1 hown hE.1 hP 0 rfl rfl 5 (by decide) F141 (fun _ h9 => h9) rfl dX3_give_43 ?_
        refine lv_iload_n hx hb dX3_give_46 rfl (lv_at hl 1 rfl) ?_
        refine rd_S (rest := []) ⟨hx, hb, hml, hown, hts⟩ hP hE (c_X3_at l D K _ 6 _ 4 _ s9 rfl (by omega) (by omega)) (va_cwS 2 hts gX3_give_X3_at rfl rfl rfl hn_X3_at ⟨Nat.le_of_ble_eq_true rfl, Nat.le_of_ble_eq_true rfl⟩) rfl hl.1 rfl (Nat.le_of_ble_eq_true rfl) dX3_give_47 ⟨Nat.le_of_ble_eq_true rfl, Nat.le_of_ble_eq_true rfl⟩ ?_
        refine top_i (y := coT T s9) (rfl) ?_
        refine lv_iload_n hx hb dX3_give_50 rfl (lv_at hl 2 rfl) ?_
        refine lv_iadd (x := coT T s9) (y := k) hx hb dX3_give_51 ?_
        refine lv_ldc (v := nI 99999) hx hb hown C144 dX3_give_52 ?_
        refine lv_icmp_le (x := (coT T s9) + k) (y := nI 99999) (tgt := 67) hx hb dX3_give_54 (by decide) (fun c_4 => ?_) (fun c_4 => ?_)
        · have n_c_4 := i_le_nlt c_4
          refine lv_aload_n hx hb dX3_give_67 rfl (lv_at hl 0 rfl) ?_
          refine wr_V (rest := []) (ci := 3) (q0 := 17) ⟨hx, hb, hml, hown, hts⟩ hP hE hA hD hS (c_X3_saveState l D K _ _ _ _ _ _ _ _ _ _ _ _ _ sn _ hsn) (cwV 0 hts gX3_give_X3_saveState rfl rfl rfl hd_X3_saveState ⟨Nat.le_of_ble_eq_true rfl, Nat.le_of_ble_eq_true rfl⟩) rfl rfl rfl rfl hl.1 rfl (Nat.le_of_ble_eq_true rfl) dX3_give_68 ⟨Nat.le_of_ble_eq_true rfl, Nat.le_of_ble_eq_true rfl⟩ (fun H locs hP hD hS => ?_)
          have hP : va_P D vwCl (townW K a T ++ (waysW K b len qu n ++ (textW K t cs ln ++ (mainW K a b t c (svG g sn) (svN sn) ++ svW K (svG g sn) (svV Sv sn T) X)))) H := hP
          have hD : va_D A (townW K a T ++ (waysW K b len qu n ++ (textW K t cs ln ++ (mainW K a b t c (svG g sn) (svN sn) ++ svW K (svG g sn) (svV Sv sn T) X)))) := hD
          refine lv_aload_n hx hb dX3_give_71 rfl (lv_at hl 0 rfl) ?_
          refine va_get (D := D) (ci := 3) (v := .ref (a 0)) (C := RX3) (T := TX3) (N := 5) hx hb hts inX3 hown hE.1 hP 17 rfl rfl 0 (by decide) F12 (fun _ h9 => h9) rfl dX3_give_72 ?_
          refine va_get (D := D) (ci := 1) (v := .ref (a 6)) (C := RX1) (T := TX1) (N := 12) hx hb hts inX1 hown hE.1 hP 0 rfl rfl 5 (by decide) F141 (fun _ h9 => h9) rfl dX3_give_75 ?_
          refine lv_iload_n hx hb dX3_give_78 rfl (lv_at hl 1 rfl) ?_
          refine lv_iload_n hx hb dX3_give_79 rfl (lv_at hl 2 rfl) ?_
          refine wr_S (rest := []) ⟨hx, hb, hml, hown, hts⟩ hP hE hA hD hS (c_X3_increase l D K _ _ 6 _ 4 _ s9 k rfl (by omega) (by omega)) (va_cwS 3 hts gX3_give_X3_increase rfl rfl rfl hn_X3_increase ⟨Nat.le_of_ble_eq_true rfl, Nat.le_of_ble_eq_true rfl⟩) rfl hl.1 rfl (Nat.le_of_ble_eq_true rfl) dX3_give_80 ⟨Nat.le_of_ble_eq_true rfl, Nat.le_of_ble_eq_true rfl⟩ (fun H locs hP hD hS => ?_)
          have hP : va_P D vwCl (townW K a (incT T 5 s9 k) ++ (waysW K b len qu n ++ (textW K t cs ln ++ (mainW K a b t c (svG g sn) (svN sn) ++ svW K (svG g sn) (svV Sv sn T) X)))) H := hP
          have hD : va_D A (townW K a (incT T 5 s9 k) ++ (waysW K b len qu n ++ (textW K t cs ln ++ (mainW K a b t c (svG g sn) (svN sn) ++ svW K (svG g sn) (svV Sv sn T) X)))) := hD
          refine lv_aload_n hx hb dX3_give_83 rfl (lv_at hl 0 rfl) ?_
          refine va_get (D := D) (ci := 3) (v := .ref (a 0)) (C := RX3) (T := TX3) (N := 5) hx hb hts inX3 hown hE.1 hP 17 rfl rfl 0 (by decide) F12 (fun _ h9 => h9) rfl dX3_give_84 ?_
          refine va_get (D := D) (ci := 1) (v := .ref (a 6)) (C := RX1) (T := TX1) (N := 12) hx hb hts inX1 hown hE.1 hP 0 rfl rfl 5 (by decide) F141 (fun _ h9 => h9) rfl dX3_give_87 ?_
          refine lv_iload_n hx hb dX3_give_90 rfl (lv_at hl 1 rfl) ?_
          refine rd_S (rest := []) ⟨hx, hb, hml, hown, hts⟩ hP hE (c_X3_at l D K _ 6 _ 4 _ s9 rfl (by omega) (by omega)) (va_cwS 2 hts gX3_give_X3_at rfl rfl rfl hn_X3_at ⟨Nat.le_of_ble_eq_true rfl, Nat.le_of_ble_eq_true rfl⟩) rfl hl.1 rfl (Nat.le_of_ble_eq_true rfl) dX3_give_91 ⟨Nat.le_of_ble_eq_true rfl, Nat.le_of_ble_eq_true rfl⟩ ?_
          have ew : (townW K a (incT T 5 s9 k) ++ (waysW K b len qu n ++ (textW K t cs ln ++ (mainW K a b t c (svG g sn) (svN sn) ++ svW K (svG g sn) (svV Sv sn T) X)))) = (townW K a (setT T 5 (tn (nI s9)) (T 5 (tn (nI s9)) + k)) ++ (waysW K b len qu n ++ (textW K t cs ln ++ (mainW K a b t c (svG g sn) (svN sn) ++ svW K (svG g sn) (svV Sv sn T) X)))) := by simp [incT, c_1, t_s9, c_2, n_c_2, c_3, n_c_3, f9c_3, c_4, n_c_4]
          rw [ew] at hP hD
          refine tx_iret hAe hP hD hS hx hb hr hk dX3_give_94 ⟨Nat.le_of_ble_eq_true rfl, Nat.le_of_ble_eq_true rfl⟩ ?_ (by simp [incT, setT, upd, coT, c_1, t_s9, c_2, n_c_2, c_3, n_c_3, f9c_3, c_4, n_c_4])
          first | (simp [giE, c_1, t_s9, c_2, n_c_2, c_3, n_c_3, f9c_3, c_4, n_c_4]; done) | (subst_vars; simp [giE, c_1, t_s9, c_2, n_c_2, c_3, n_c_3, f9c_3, c_4, n_c_4]; done) | simp_all [giE]
        · have n_c_4 := i_nle_lt c_4
          refine tx_thr (n := 3) (cls := xIS) (is := 145) hx hb hst hown (by decide +kernel) K52 KI52 (fun w h => hts w (List.mem_cons_of_mem _ (List.mem_append_right _ h))) xh_IS xg_IS hXw.2.2.2.2.2.1 hXw (List.mem_of_getElem? (i := 12) rfl) hZ hAe hP hD hS (hl.1.trans hml.symm) hxt ⟨Nat.le_of_ble_eq_true rfl, Nat.le_of_ble_eq_true rfl⟩ ⟨Nat.le_of_ble_eq_true rfl, Nat.le_of_ble_eq_true rfl⟩ hk ⟨Nat.le_of_ble_eq_true rfl, Nat.le_of_ble_eq_true rfl⟩ (by decide) rfl ?_ dX3_give_57 dX3_give_60 dX3_give_61 dX3_give_63 dX3_give_66
          first | (simp [giE, c_1, t_s9, c_2, n_c_2, c_3, n_c_3, f9c_3, c_4, n_c_4]; done) | (subst_vars; simp [giE, c_1, t_s9, c_2, n_c_2, c_3, n_c_3, f9c_3, c_4, n_c_4]; done) | simp_all [giE]
      · have n_c_3 := i_nle_lt c_3
        have f9c_3 : inR 1 999 k = false := inR_hi n_c_3
        refine tx_thr (n := 2) (cls := xIA) (is := 139) hx hb hst hown (by decide +kernel) K111 KI111 (fun w h => hts w (List.mem_cons_of_mem _ (List.mem_append_left _ (List.mem_append_right _ h)))) xh_IA xg_IA hXw.2.2.2.2.1 hXw (List.mem_of_getElem? (i := 11) rfl) hZ hAe hP hD hS (hl.1.trans hml.symm) hxt ⟨Nat.le_of_ble_eq_true rfl, Nat.le_of_ble_eq_true rfl⟩ ⟨Nat.le_of_ble_eq_true rfl, Nat.le_of_ble_eq_true rfl⟩ hk ⟨Nat.le_of_ble_eq_true rfl, Nat.le_of_ble_eq_true rfl⟩ (by decide) rfl ?_ dX3_give_29 dX3_give_32 dX3_give_33 dX3_give_35 dX3_give_38
        first | (simp [giE, c_1, t_s9, c_2, n_c_2, c_3, n_c_3, f9c_3]; done) | (subst_vars; simp [giE, c_1, t_s9, c_2, n_c_2, c_3, n_c_3, f9c_3]; done) | simp_all [giE]
  · refine tx_thr (n := 1) (cls := xIO) (is := 103) hx hb hst hown (by decide +kernel) K38 KI38 (fun w h => hts w (List.mem_cons_of_mem _ (List.mem_append_left _ (List.mem_append_left _ (List.mem_append_right _ h))))) xh_IO xg_IO hXw.2.2.2.1 hXw (List.mem_of_getElem? (i := 6) rfl) hZ hAe hP hD hS (hl.1.trans hml.symm) hxt ⟨Nat.le_of_ble_eq_true rfl, Nat.le_of_ble_eq_true rfl⟩ ⟨Nat.le_of_ble_eq_true rfl, Nat.le_of_ble_eq_true rfl⟩ hk ⟨Nat.le_of_ble_eq_true rfl, Nat.le_of_ble_eq_true rfl⟩ (by decide) rfl ?_ dX3_give_7 dX3_give_10 dX3_give_11 dX3_give_13 dX3_give_16
    first | (simp [giE, c_1]; done) | (subst_vars; simp [giE, c_1]; done) | simp_all [giE]
set_option maxHeartbeats 4000000 in
set_option maxRecDepth 100000 in
theorem c_X3_set (l : Launch) (D : va_G) (K : Nat → ClassId) (dp fs : Nat) (hst : l.stackTraces = false) (sz : Nat) (a b t c : Nat → Nat) (g : Nat → Nat → Nat) (T : TW) (X : va_W) (len : Nat → Option Nat) (qu : Nat → Nat) (n : Nat) (cs : Nat → Nat) (ln sn : Nat) (Sv : Nat → TW) (x v : Int32) (hI : Inv T) (hsn : sn ≤ 6) : Tx dp fs l yX3_set wsX3_set ({ frames := 6, cells := 1, slots := 6, locals := 103 } : Room) D K (townW K a T ++ (waysW K b len qu n ++ (textW K t cs ln ++ (mainW K a b t c g sn ++ svW K g Sv X)))) sz [.ref (c 0), .int x, .int v] (seE x v) xnA (townW K a (setT T 10 (tn x) v) ++ (waysW K b len qu n ++ (textW K t cs ln ++ (mainW K a b t c (svG g sn) (svN sn) ++ svW K (svG g sn) (svV Sv sn T) X)))) (nI (stT T (tn x))) 1 6 := by
  refine tx_intro (cc := cX3_set) (maxL := 4) (ret := (some .int)) (by decide) rfl (Nat.le_of_ble_eq_true rfl) ?_
  intro pr en st md ar bl mt co A hx hb hml hr hts hown hk hsz hAe hP hE hD hS hA hxt hXw hZ ls hl
  have hown : st.vm.findClass RX3 = some md.cls := hown
  have hl : lv_has ls 4 [(0, .ref (c 0)), (1, .int x), (2, .int v)] := hl
  obtain ⟨H, hH⟩ : ∃ z, z = st.heap := ⟨_, rfl⟩
  obtain ⟨locs, hlo⟩ : ∃ z : List Loc, z = [] := ⟨_, rfl⟩
  have hP : va_P D vwCl (townW K a T ++ (waysW K b len qu n ++ (textW K t cs ln ++ (mainW K a b t c g sn ++ svW K g Sv X)))) H := by rw [hH]; exact hP
  have hS : va_S A st.heap H locs := by rw [hH, hlo]; exact hS
  suffices go : W pr l en (headSpec wsX3_set ({ frames := 6, cells := 1, slots := 6, locals := 103 } : Room)).room st md ar bl mt co H locs 0 0 (vx_MQ bl (txQ D (townW K a T ++ (waysW K b len qu n ++ (textW K t cs ln ++ (mainW K a b t c g sn ++ svW K g Sv X)))) (townW K a (setT T 10 (tn x) v) ++ (waysW K b len qu n ++ (textW K t cs ln ++ (mainW K a b t c (svG g sn) (svN sn) ++ svW K (svG g sn) (svV Sv sn T) X)))) sz (nI (stT T (tn x))) (seE x v)) (txX D (townW K a T ++ (waysW K b len qu n ++ (textW K t cs ln ++ (mainW K a b t c g sn ++ svW K g Sv X)))) sz (seE x v) xnA) ar st 1 6 A) (F0 md 0 ls []) by rw [hH, hlo] at go; exact go
  clear hH hlo
  have F12 : (Cond.fieldLink RX3 12 "TramTolls" "town" "LTramTolls$Town;").before ar st = true := hts _ (List.mem_of_getElem? (i := 5) rfl)
  have inX3 : ∀ w ∈ u_ws RX3 TX3 5, w ∈ wsX3_set := fun w h => List.mem_cons_of_mem _ (List.mem_append_left _ (List.mem_append_left _ (List.mem_append_left _ (List.mem_append_right _ h))))
  have F160 : (Cond.fieldLink RX3 160 "TramTolls$Town" "settings" "[I").before ar st = true := hts _ (List.mem_of_getElem? (i := 6) rfl)
  have inX1 : ∀ w ∈ u_ws RX1 TX1 12, w ∈ wsX3_set := fun w h => List.mem_cons_of_mem _ (List.mem_append_left _ (List.mem_append_left _ (List.mem_append_right _ h)))
  have K111 : (Cond.classLink RX3 111 "java/lang/IllegalArgumentException").before ar st = true := hts _ (List.mem_of_getElem? (i := 3) rfl)
  have KI111 : (Cond.initialized "java/lang/IllegalArgumentException").before ar st = true := hts _ (List.mem_of_getElem? (i := 4) rfl)
  have K38 : (Cond.classLink RX3 38 "java/lang/IndexOutOfBoundsException").before ar st = true := hts _ (List.mem_of_getElem? (i := 1) rfl)
  have KI38 : (Cond.initialized "java/lang/IndexOutOfBoundsException").before ar st = true := hts _ (List.mem_of_getElem? (i := 2) rfl)
  refine lv_iload_n hx hb dX3_set_0 rfl (lv_at hl 1 rfl) ?_
  refine rd_S (rest := []) ⟨hx, hb, hml, hown, hts⟩ hP hE (c_X3_isSetting l D K _ x) (va_cwS 1 hts gX3_set_X3_isSetting rfl rfl rfl hn_X3_isSetting ⟨Nat.le_of_ble_eq_true rfl, Nat.le_of_ble_eq_true rfl⟩) rfl hl.1 rfl (Nat.le_of_ble_eq_true rfl) dX3_set_1 ⟨Nat.le_of_ble_eq_true rfl, Nat.le_of_ble_eq_true rfl⟩ ?_
  refine bv_if_ne (x := inR 0 2 x) (tgt := 17) hx hb dX3_set_4 (by decide) (fun c_1 => ?_) (fun c_1 => ?_)
  · obtain ⟨s9, lo_s9, hi_s9, e_s9⟩ := inR_nL (a := 0) (b := 2) rfl rfl (by decide) (by decide) c_1
    subst e_s9
    have t_s9 := tn_nI (n := s9) (by omega)
    refine lv_iload_n hx hb dX3_set_17 rfl (lv_at hl 1 rfl) ?_
    refine lv_iload_n hx hb dX3_set_18 rfl (lv_at hl 2 rfl) ?_
    refine rd_S (rest := []) ⟨hx, hb, hml, hown, hts⟩ hP hE (c_X3_isSettingValue l D K _ s9 v (by omega)) (va_cwS 2 hts gX3_set_X3_isSettingValue rfl rfl rfl hn_X3_isSettingValue ⟨Nat.le_of_ble_eq_true rfl, Nat.le_of_ble_eq_true rfl⟩) rfl hl.1 rfl (Nat.le_of_ble_eq_true rfl) dX3_set_19 ⟨Nat.le_of_ble_eq_true rfl, Nat.le_of_ble_eq_true rfl⟩ ?_
    refine bv_if_ne (x := stvR s9 v) (tgt := 35) hx hb dX3_set_22 (by decide) (fun c_2 => ?_) (fun c_2 => ?_)
    · refine lv_aload_n hx hb dX3_set_35 rfl (lv_at hl 0 rfl) ?_
      refine wr_V (rest := []) (ci := 3) (q0 := 17) ⟨hx, hb, hml, hown, hts⟩ hP hE hA hD hS (c_X3_saveState l D K _ _ _ _ _ _ _ _ _ _ _ _ _ sn _ hsn) (cwV 0 hts gX3_set_X3_saveState rfl rfl rfl hd_X3_saveState ⟨Nat.le_of_ble_eq_true rfl, Nat.le_of_ble_eq_true rfl⟩) rfl rfl rfl rfl hl.1 rfl (Nat.le_of_ble_eq_true rfl) dX3_set_36 ⟨Nat.le_of_ble_eq_true rfl, Nat.le_of_ble_eq_true rfl⟩ (fun H locs hP hD hS => ?_)
      have hP : va_P D vwCl (townW K a T ++ (waysW K b len qu n ++ (textW K t cs ln ++ (mainW K a b t c (svG g sn) (svN sn) ++ svW K (svG g sn) (svV Sv sn T) X)))) H := hP
      have hD : va_D A (townW K a T ++ (waysW K b len qu n ++ (textW K t cs ln ++ (mainW K a b t c (svG g sn) (svN sn) ++ svW K (svG g sn) (svV Sv sn T) X)))) := hD
      refine lv_aload_n hx hb dX3_set_39 rfl (lv_at hl 0 rfl) ?_
      refine va_get (D := D) (ci := 3) (v := .ref (a 0)) (C := RX3) (T := TX3) (N := 5) hx hb hts inX3 hown hE.1 hP 17 rfl rfl 0 (by decide) F12 (fun _ h9 => h9) rfl dX3_set_40 ?_
      refine va_get (D := D) (ci := 1) (v := .ref (a 11)) (C := RX1) (T := TX1) (N := 12) hx hb hts inX1 hown hE.1 hP 0 rfl rfl 10 (by decide) F160 (fun _ h9 => h9) rfl dX3_set_43 ?_
      refine lv_iload_n hx hb dX3_set_46 rfl (lv_at hl 1 rfl) ?_
      refine rd_S (rest := []) ⟨hx, hb, hml, hown, hts⟩ hP hE (c_X3_at l D K _ 11 _ 3 _ s9 rfl (by omega) (by omega)) (va_cwS 2 hts gX3_set_X3_at rfl rfl rfl hn_X3_at ⟨Nat.le_of_ble_eq_true rfl, Nat.le_of_ble_eq_true rfl⟩) rfl hl.1 rfl (Nat.le_of_ble_eq_true rfl) dX3_set_47 ⟨Nat.le_of_ble_eq_true rfl, Nat.le_of_ble_eq_true rfl⟩ ?_
      refine top_i (y := nI (stT T s9)) (show T 10 s9 = nI (stT T s9) from eq_st hI (by omega)) ?_
      have hb_3 := st_lt hI (show s9 < 3 by omega)
      refine lv_istore_n (lv' := [(3, .int (nI (stT T s9))), (0, .ref (c 0)), (1, .int (nI s9)), (2, .int v)]) hx hb dX3_set_50 rfl hl (by decide) rfl (fun ls hl => ?_)
      refine lv_aload_n hx hb dX3_set_51 rfl (lv_at hl 1 rfl) ?_
      refine va_get (D := D) (ci := 3) (v := .ref (a 0)) (C := RX3) (T := TX3) (N := 5) hx hb hts inX3 hown hE.1 hP 17 rfl rfl 0 (by decide) F12 (fun _ h9 => h9) rfl dX3_set_52 ?_
      refine va_get (D := D) (ci := 1) (v := .ref (a 11)) (C := RX1) (T := TX1) (N := 12) hx hb hts inX1 hown hE.1 hP 0 rfl rfl 10 (by decide) F160 (fun _ h9 => h9) rfl dX3_set_55 ?_
      refine lv_iload_n hx hb dX3_set_58 rfl (lv_at hl 2 rfl) ?_
      refine lv_iload_n hx hb dX3_set_59 rfl (lv_at hl 3 rfl) ?_
      refine wr_S (rest := []) ⟨hx, hb, hml, hown, hts⟩ hP hE hA hD hS (c_X3_put l D K _ _ 11 _ 3 _ s9 v rfl (by omega) (by omega)) (va_cwS 3 hts gX3_set_X3_put rfl rfl rfl hn_X3_put ⟨Nat.le_of_ble_eq_true rfl, Nat.le_of_ble_eq_true rfl⟩) rfl hl.1 rfl (Nat.le_of_ble_eq_true rfl) dX3_set_60 ⟨Nat.le_of_ble_eq_true rfl, Nat.le_of_ble_eq_true rfl⟩ (fun H locs hP hD hS => ?_)
      have hP : va_P D vwCl (townW K a (setT T 10 s9 v) ++ (waysW K b len qu n ++ (textW K t cs ln ++ (mainW K a b t c (svG g sn) (svN sn) ++ svW K (svG g sn) (svV Sv sn T) X)))) H := hP
      have hD : va_D A (townW K a (setT T 10 s9 v) ++ (waysW K b len qu n ++ (textW K t cs ln ++ (mainW K a b t c (svG g sn) (svN sn) ++ svW K (svG g sn) (svV Sv sn T) X)))) := hD
      refine lv_iload_n hx hb dX3_set_63 rfl (lv_at hl 0 rfl) ?_
      have ew : (townW K a (setT T 10 s9 v) ++ (waysW K b len qu n ++ (textW K t cs ln ++ (mainW K a b t c (svG g sn) (svN sn) ++ svW K (svG g sn) (svV Sv sn T) X)))) = (townW K a (setT T 10 (tn (nI s9)) v) ++ (waysW K b len qu n ++ (textW K t cs ln ++ (mainW K a b t c (svG g sn) (svN sn) ++ svW K (svG g sn) (svV Sv sn T) X)))) := by first | rfl | (simp [c_1, t_s9, c_2]; done) | (simp [c_1, t_s9, c_2] <;> rfl)
      rw [ew] at hP hD
      refine tx_iret hAe hP hD hS hx hb hr hk dX3_set_64 ⟨Nat.le_of_ble_eq_true rfl, Nat.le_of_ble_eq_true rfl⟩ ?_ (by first | rfl | (simp [setT_eq, c_1, t_s9, c_2]; done) | (simp [setT_eq, c_1, t_s9, c_2] <;> rfl))
      first | (simp [seE, c_1, t_s9, c_2]; done) | (subst_vars; simp [seE, c_1, t_s9, c_2]; done) | simp_all [seE]
    · refine tx_thr (n := 2) (cls := xIA) (is := 158) hx hb hst hown (by decide +kernel) K111 KI111 (fun w h => hts w (List.mem_cons_of_mem _ (List.mem_append_right _ h))) xh_IA xg_IA hXw.2.2.2.2.1 hXw (List.mem_of_getElem? (i := 14) rfl) hZ hAe hP hD hS (hl.1.trans hml.symm) hxt ⟨Nat.le_of_ble_eq_true rfl, Nat.le_of_ble_eq_true rfl⟩ ⟨Nat.le_of_ble_eq_true rfl, Nat.le_of_ble_eq_true rfl⟩ hk ⟨Nat.le_of_ble_eq_true rfl, Nat.le_of_ble_eq_true rfl⟩ (by decide) rfl ?_ dX3_set_25 dX3_set_28 dX3_set_29 dX3_set_31 dX3_set_34
      first | (simp [seE, c_1, t_s9, c_2]; done) | (subst_vars; simp [seE, c_1, t_s9, c_2]; done) | simp_all [seE]
  · refine tx_thr (n := 1) (cls := xIO) (is := 153) hx hb hst hown (by decide +kernel) K38 KI38 (fun w h => hts w (List.mem_cons_of_mem _ (List.mem_append_left _ (List.mem_append_right _ h)))) xh_IO xg_IO hXw.2.2.2.1 hXw (List.mem_of_getElem? (i := 13) rfl) hZ hAe hP hD hS (hl.1.trans hml.symm) hxt ⟨Nat.le_of_ble_eq_true rfl, Nat.le_of_ble_eq_true rfl⟩ ⟨Nat.le_of_ble_eq_true rfl, Nat.le_of_ble_eq_true rfl⟩ hk ⟨Nat.le_of_ble_eq_true rfl, Nat.le_of_ble_eq_true rfl⟩ (by decide) rfl ?_ dX3_set_7 dX3_set_10 dX3_set_11 dX3_set_13 dX3_set_16
    first | (simp [seE, c_1]; done) | (subst_vars; simp [seE, c_1]; done) | simp_all [seE]
set_option maxHeartbeats 4000000 in
set_option maxRecDepth 100000 in
theorem c_X3_append (l : Launch) (D : va_G) (K : Nat → ClassId) (dp fs : Nat) (hst : l.stackTraces = false) (sz : Nat) (a b t c : Nat → Nat) (g : Nat → Nat → Nat) (T : TW) (X : va_W) (len : Nat → Option Nat) (qu : Nat → Nat) (n : Nat) (cs : Nat → Nat) (ln sn : Nat) (Sv : Nat → TW) (x : Int32) (hCB : CB cs ln) : Tx dp fs l yX3_append wsX3_append ({ frames := 6, cells := 1, slots := 6, locals := 82 } : Room) D K (townW K a T ++ (waysW K b len qu n ++ (textW K t cs ln ++ (mainW K a b t c g sn ++ svW K g Sv X)))) sz [.ref (c 0), .int x] (apE ln x) xnC (townW K a T ++ (waysW K b len qu n ++ (textW K t (va_up cs ln (tn x)) (ln + 1) ++ (mainW K a b t c g sn ++ svW K g Sv X)))) (nI (ln + 1)) 1 6 := by
  refine tx_intro (cc := cX3_append) (maxL := 2) (ret := (some .int)) (by decide) rfl (Nat.le_of_ble_eq_true rfl) ?_
  intro pr en st md ar bl mt co A hx hb hml hr hts hown hk hsz hAe hP hE hD hS hA hxt hXw hZ ls hl
  have hown : st.vm.findClass RX3 = some md.cls := hown
  have hl : lv_has ls 2 [(0, .ref (c 0)), (1, .int x)] := hl
  have hl60 := hCB.1
  obtain ⟨H, hH⟩ : ∃ z, z = st.heap := ⟨_, rfl⟩
  obtain ⟨locs, hlo⟩ : ∃ z : List Loc, z = [] := ⟨_, rfl⟩
  have hP : va_P D vwCl (townW K a T ++ (waysW K b len qu n ++ (textW K t cs ln ++ (mainW K a b t c g sn ++ svW K g Sv X)))) H := by rw [hH]; exact hP
  have hS : va_S A st.heap H locs := by rw [hH, hlo]; exact hS
  suffices go : W pr l en (headSpec wsX3_append ({ frames := 6, cells := 1, slots := 6, locals := 82 } : Room)).room st md ar bl mt co H locs 0 0 (vx_MQ bl (txQ D (townW K a T ++ (waysW K b len qu n ++ (textW K t cs ln ++ (mainW K a b t c g sn ++ svW K g Sv X)))) (townW K a T ++ (waysW K b len qu n ++ (textW K t (va_up cs ln (tn x)) (ln + 1) ++ (mainW K a b t c g sn ++ svW K g Sv X)))) sz (nI (ln + 1)) (apE ln x)) (txX D (townW K a T ++ (waysW K b len qu n ++ (textW K t cs ln ++ (mainW K a b t c g sn ++ svW K g Sv X)))) sz (apE ln x) xnC) ar st 1 6 A) (F0 md 0 ls []) by rw [hH, hlo] at go; exact go
  clear hH hlo
  have K111 : (Cond.classLink RX3 111 "java/lang/IllegalArgumentException").before ar st = true := hts _ (List.mem_of_getElem? (i := 1) rfl)
  have KI111 : (Cond.initialized "java/lang/IllegalArgumentException").before ar st = true := hts _ (List.mem_of_getElem? (i := 2) rfl)
  have F23 : (Cond.fieldLink RX3 23 "TramTolls" "text" "LTramTolls$Text;").before ar st = true := hts _ (List.mem_of_getElem? (i := 5) rfl)
  have inX3 : ∀ w ∈ u_ws RX3 TX3 5, w ∈ wsX3_append := fun w h => List.mem_cons_of_mem _ (List.mem_append_left _ (List.mem_append_left _ (List.mem_append_left _ (List.mem_append_right _ h))))
  have F165 : (Cond.fieldLink RX3 165 "TramTolls$Text" "length" "I").before ar st = true := hts _ (List.mem_of_getElem? (i := 6) rfl)
  have inX0 : ∀ w ∈ u_ws RX0 TX0 2, w ∈ wsX3_append := fun w h => List.mem_cons_of_mem _ (List.mem_append_left _ (List.mem_append_left _ (List.mem_append_right _ h)))
  have K52 : (Cond.classLink RX3 52 "java/lang/IllegalStateException").before ar st = true := hts _ (List.mem_of_getElem? (i := 3) rfl)
  have KI52 : (Cond.initialized "java/lang/IllegalStateException").before ar st = true := hts _ (List.mem_of_getElem? (i := 4) rfl)
  refine lv_iload_n hx hb dX3_append_0 rfl (lv_at hl 1 rfl) ?_
  refine lv_bipush (v := nI 33) hx hb dX3_append_1 (by decide) ?_
  refine lv_icmp_lt (x := x) (y := nI 33) (tgt := 12) hx hb dX3_append_3 (by decide) (fun c_1 => ?_) (fun c_1 => ?_)
  · have n_c_1 := i_lt_nle c_1
    have f9c_1 : inR 33 126 x = false := inR_lo c_1
    refine tx_thr (n := 1) (cls := xIA) (is := 163) hx hb hst hown (by decide +kernel) K111 KI111 (fun w h => hts w (List.mem_cons_of_mem _ (List.mem_append_left _ (List.mem_append_right _ h)))) xh_IA xg_IA hXw.2.2.2.2.1 hXw (List.mem_of_getElem? (i := 15) rfl) hZ hAe hP hD hS (hl.1.trans hml.symm) hxt ⟨Nat.le_of_ble_eq_true rfl, Nat.le_of_ble_eq_true rfl⟩ ⟨Nat.le_of_ble_eq_true rfl, Nat.le_of_ble_eq_true rfl⟩ hk ⟨Nat.le_of_ble_eq_true rfl, Nat.le_of_ble_eq_true rfl⟩ (by decide) rfl ?_ dX3_append_12 dX3_append_15 dX3_append_16 dX3_append_18 dX3_append_21
    first | (simp [apE, c_1, n_c_1, f9c_1]; done) | (subst_vars; simp [apE, c_1, n_c_1, f9c_1]; done) | simp_all [apE]
  · have n_c_1 := i_nlt_le c_1
    refine lv_iload_n hx hb dX3_append_6 rfl (lv_at hl 1 rfl) ?_
    refine lv_bipush (v := nI 126) hx hb dX3_append_7 (by decide) ?_
    refine lv_icmp_le (x := x) (y := nI 126) (tgt := 22) hx hb dX3_append_9 (by decide) (fun c_2 => ?_) (fun c_2 => ?_)
    · have n_c_2 := i_le_nlt c_2
      have g9c_2 : inR 33 126 x = true := inR_of c_1 n_c_2
      obtain ⟨c9, lo_c9, hi_c9, e_c9⟩ := inR_nL (a := 33) (b := 126) rfl rfl (by decide) (by decide) g9c_2
      subst e_c9
      have t_c9 := tn_nI (n := c9) (by omega)
      refine lv_aload_n hx hb dX3_append_22 rfl (lv_at hl 0 rfl) ?_
      refine va_get (D := D) (ci := 3) (v := .ref (t 0)) (C := RX3) (T := TX3) (N := 5) hx hb hts inX3 hown hE.1 hP 17 rfl rfl 3 (by decide) F23 (fun _ h9 => h9) rfl dX3_append_23 ?_
      refine va_get (D := D) (ci := 0) (v := .int (nI ln)) (C := RX0) (T := TX0) (N := 2) hx hb hts inX0 hown hE.1 hP 15 rfl rfl 1 (by decide) F165 (fun _ h9 => h9) rfl dX3_append_26 ?_
      refine lv_bipush (v := nI 60) hx hb dX3_append_29 (by decide) ?_
      refine nv_icmp_lt (x := ln) (y := 60) (tgt := 44) hx hb dX3_append_31 (by decide) (by omega) (by decide) (fun c_3 => ?_) (fun c_3 => ?_)
      · have n_c_3 := Nat.not_le.mpr c_3
        have h60c_3 : ¬ ln = 60 := by omega
        refine lv_aload_n hx hb dX3_append_44 rfl (lv_at hl 0 rfl) ?_
        refine va_get (D := D) (ci := 3) (v := .ref (t 0)) (C := RX3) (T := TX3) (N := 5) hx hb hts inX3 hown hE.1 hP 17 rfl rfl 3 (by decide) F23 (fun _ h9 => h9) rfl dX3_append_45 ?_
        refine lv_iload_n hx hb dX3_append_48 rfl (lv_at hl 1 rfl) ?_
        refine wr_V (rest := []) (ci := 0) (q0 := 15) ⟨hx, hb, hml, hown, hts⟩ hP hE hA hD hS (c_X0_addCode l D K _ _ _ _ _ _ _ _ _ _ _ c9 (by omega)) (cwV 1 hts gX3_append_X0_addCode rfl rfl rfl hd_X0_addCode ⟨Nat.le_of_ble_eq_true rfl, Nat.le_of_ble_eq_true rfl⟩) rfl rfl rfl rfl hl.1 rfl (Nat.le_of_ble_eq_true rfl) dX3_append_49 ⟨Nat.le_of_ble_eq_true rfl, Nat.le_of_ble_eq_true rfl⟩ (fun H locs hP hD hS => ?_)
        have hP : va_P D vwCl (townW K a T ++ (waysW K b len qu n ++ (textW K t (va_up cs ln c9) (ln + 1) ++ (mainW K a b t c g sn ++ svW K g Sv X)))) H := hP
        have hD : va_D A (townW K a T ++ (waysW K b len qu n ++ (textW K t (va_up cs ln c9) (ln + 1) ++ (mainW K a b t c g sn ++ svW K g Sv X)))) := hD
        refine lv_aload_n hx hb dX3_append_52 rfl (lv_at hl 0 rfl) ?_
        refine va_get (D := D) (ci := 3) (v := .ref (t 0)) (C := RX3) (T := TX3) (N := 5) hx hb hts inX3 hown hE.1 hP 17 rfl rfl 3 (by decide) F23 (fun _ h9 => h9) rfl dX3_append_53 ?_
        refine va_get (D := D) (ci := 0) (v := .int (nI (ln + 1))) (C := RX0) (T := TX0) (N := 2) hx hb hts inX0 hown hE.1 hP 15 rfl rfl 1 (by decide) F165 (fun _ h9 => h9) rfl dX3_append_56 ?_
        have ew : (townW K a T ++ (waysW K b len qu n ++ (textW K t (va_up cs ln c9) (ln + 1) ++ (mainW K a b t c g sn ++ svW K g Sv X)))) = (townW K a T ++ (waysW K b len qu n ++ (textW K t (va_up cs ln (tn (nI c9))) (ln + 1) ++ (mainW K a b t c g sn ++ svW K g Sv X)))) := by first | rfl | (simp [c_1, n_c_1, c_2, n_c_2, t_c9, g9c_2, c_3, n_c_3, h60c_3]; done) | (simp [c_1, n_c_1, c_2, n_c_2, t_c9, g9c_2, c_3, n_c_3, h60c_3] <;> rfl)
        rw [ew] at hP hD
        refine tx_iret hAe hP hD hS hx hb hr hk dX3_append_59 ⟨Nat.le_of_ble_eq_true rfl, Nat.le_of_ble_eq_true rfl⟩ ?_ (by first | rfl | (simp [setT_eq, c_1, n_c_1, c_2, n_c_2, t_c9, g9c_2, c_3, n_c_3, h60c_3]; done) | (simp [setT_eq, c_1, n_c_1, c_2, n_c_2, t_c9, g9c_2, c_3, n_c_3, h60c_3] <;> rfl))
        first | (simp [apE, c_1, n_c_1, c_2, n_c_2, t_c9, g9c_2, c_3, n_c_3, h60c_3]; done) | (subst_vars; simp [apE, c_1, n_c_1, c_2, n_c_2, t_c9, g9c_2, c_3, n_c_3, h60c_3]; done) | simp_all [apE]
      · have n_c_3 := Nat.not_lt.mpr c_3
        have h60c_3 : ln = 60 := by omega
        refine tx_thr (n := 2) (cls := xIS) (is := 169) hx hb hst hown (by decide +kernel) K52 KI52 (fun w h => hts w (List.mem_cons_of_mem _ (List.mem_append_right _ h))) xh_IS xg_IS hXw.2.2.2.2.2.1 hXw (List.mem_of_getElem? (i := 16) rfl) hZ hAe hP hD hS (hl.1.trans hml.symm) hxt ⟨Nat.le_of_ble_eq_true rfl, Nat.le_of_ble_eq_true rfl⟩ ⟨Nat.le_of_ble_eq_true rfl, Nat.le_of_ble_eq_true rfl⟩ hk ⟨Nat.le_of_ble_eq_true rfl, Nat.le_of_ble_eq_true rfl⟩ (by decide) rfl ?_ dX3_append_34 dX3_append_37 dX3_append_38 dX3_append_40 dX3_append_43
        first | (simp [apE, c_1, n_c_1, c_2, n_c_2, t_c9, g9c_2, c_3, n_c_3, h60c_3]; done) | (subst_vars; simp [apE, c_1, n_c_1, c_2, n_c_2, t_c9, g9c_2, c_3, n_c_3, h60c_3]; done) | simp_all [apE]
    · have n_c_2 := i_nle_lt c_2
      have f9c_2 : inR 33 126 x = false := inR_hi n_c_2
      refine tx_thr (n := 1) (cls := xIA) (is := 163) hx hb hst hown (by decide +kernel) K111 KI111 (fun w h => hts w (List.mem_cons_of_mem _ (List.mem_append_left _ (List.mem_append_right _ h)))) xh_IA xg_IA hXw.2.2.2.2.1 hXw (List.mem_of_getElem? (i := 15) rfl) hZ hAe hP hD hS (hl.1.trans hml.symm) hxt ⟨Nat.le_of_ble_eq_true rfl, Nat.le_of_ble_eq_true rfl⟩ ⟨Nat.le_of_ble_eq_true rfl, Nat.le_of_ble_eq_true rfl⟩ hk ⟨Nat.le_of_ble_eq_true rfl, Nat.le_of_ble_eq_true rfl⟩ (by decide) rfl ?_ dX3_append_12 dX3_append_15 dX3_append_16 dX3_append_18 dX3_append_21
      first | (simp [apE, c_1, n_c_1, c_2, n_c_2, f9c_2]; done) | (subst_vars; simp [apE, c_1, n_c_1, c_2, n_c_2, f9c_2]; done) | simp_all [apE]
set_option maxHeartbeats 4000000 in
set_option maxRecDepth 100000 in
theorem c_X3_square (l : Launch) (D : va_G) (K : Nat → ClassId) (dp fs : Nat) (hst : l.stackTraces = false) (sz : Nat) (a b t c : Nat → Nat) (g : Nat → Nat → Nat) (T : TW) (X : va_W) (len : Nat → Option Nat) (qu : Nat → Nat) (n : Nat) (cs : Nat → Nat) (ln sn : Nat) (Sv : Nat → TW) (x w9 : Int32) (hI : Inv T) : Tx dp fs l yX3_square wsX3_square ({ frames := 6, cells := 1, slots := 6, locals := 82 } : Room) D K (townW K a T ++ (waysW K b len qu n ++ (textW K t cs ln ++ (mainW K a b t c g sn ++ svW K g Sv X)))) sz [.ref (c 0), .int x, .int w9] (q2 0 79 0 3 x w9) xnA (townW K a T ++ (waysW K b len qu n ++ (textW K t cs ln ++ (mainW K a b t c g sn ++ svW K g Sv X)))) (psT T (tn x) (tn w9)) 1 6 := by
  refine tx_intro (cc := cX3_square) (maxL := 3) (ret := (some .int)) (by decide) rfl (Nat.le_of_ble_eq_true rfl) ?_
  intro pr en st md ar bl mt co A hx hb hml hr hts hown hk hsz hAe hP hE hD hS hA hxt hXw hZ ls hl
  have hown : st.vm.findClass RX3 = some md.cls := hown
  have hl : lv_has ls 3 [(0, .ref (c 0)), (1, .int x), (2, .int w9)] := hl
  obtain ⟨H, hH⟩ : ∃ z, z = st.heap := ⟨_, rfl⟩
  obtain ⟨locs, hlo⟩ : ∃ z : List Loc, z = [] := ⟨_, rfl⟩
  have hP : va_P D vwCl (townW K a T ++ (waysW K b len qu n ++ (textW K t cs ln ++ (mainW K a b t c g sn ++ svW K g Sv X)))) H := by rw [hH]; exact hP
  have hS : va_S A st.heap H locs := by rw [hH, hlo]; exact hS
  suffices go : W pr l en (headSpec wsX3_square ({ frames := 6, cells := 1, slots := 6, locals := 82 } : Room)).room st md ar bl mt co H locs 0 0 (vx_MQ bl (txQ D (townW K a T ++ (waysW K b len qu n ++ (textW K t cs ln ++ (mainW K a b t c g sn ++ svW K g Sv X)))) (townW K a T ++ (waysW K b len qu n ++ (textW K t cs ln ++ (mainW K a b t c g sn ++ svW K g Sv X)))) sz (psT T (tn x) (tn w9)) (q2 0 79 0 3 x w9)) (txX D (townW K a T ++ (waysW K b len qu n ++ (textW K t cs ln ++ (mainW K a b t c g sn ++ svW K g Sv X)))) sz (q2 0 79 0 3 x w9) xnA) ar st 1 6 A) (F0 md 0 ls []) by rw [hH, hlo] at go; exact go
  clear hH hlo
  have K111 : (Cond.classLink RX3 111 "java/lang/IllegalArgumentException").before ar st = true := hts _ (List.mem_of_getElem? (i := 3) rfl)
  have KI111 : (Cond.initialized "java/lang/IllegalArgumentException").before ar st = true := hts _ (List.mem_of_getElem? (i := 4) rfl)
  have K38 : (Cond.classLink RX3 38 "java/lang/IndexOutOfBoundsException").before ar st = true := hts _ (List.mem_of_getElem? (i := 1) rfl)
  have KI38 : (Cond.initialized "java/lang/IndexOutOfBoundsException").before ar st = true := hts _ (List.mem_of_getElem? (i := 2) rfl)
  refine lv_iload_n hx hb dX3_square_0 rfl (lv_at hl 1 rfl) ?_
  refine rd_S (rest := []) ⟨hx, hb, hml, hown, hts⟩ hP hE (c_X3_isSquare l D K _ x) (va_cwS 1 hts gX3_square_X3_isSquare rfl rfl rfl hn_X3_isSquare ⟨Nat.le_of_ble_eq_true rfl, Nat.le_of_ble_eq_true rfl⟩) rfl hl.1 rfl (Nat.le_of_ble_eq_true rfl) dX3_square_1 ⟨Nat.le_of_ble_eq_true rfl, Nat.le_of_ble_eq_true rfl⟩ ?_
  refine bv_if_ne (x := inR 0 79 x) (tgt := 17) hx hb dX3_square_4 (by decide) (fun c_1 => ?_) (fun c_1 => ?_)
  · obtain ⟨s9, lo_s9, hi_s9, e_s9⟩ := inR_nL (a := 0) (b := 79) rfl rfl (by decide) (by decide) c_1
    subst e_s9
    have t_s9 := tn_nI (n := s9) (by omega)
    refine lv_iload_n hx hb dX3_square_17 rfl (lv_at hl 2 rfl) ?_
    refine lv_if_lt (x := w9) (tgt := 26) hx hb dX3_square_18 (by decide) (fun c_2 => ?_) (fun c_2 => ?_)
    · have f9c_2 : inR 0 3 w9 = false := inR_lo c_2
      refine tx_thr (n := 2) (cls := xIA) (is := 197) hx hb hst hown (by decide +kernel) K111 KI111 (fun w h => hts w (List.mem_cons_of_mem _ (List.mem_append_right _ h))) xh_IA xg_IA hXw.2.2.2.2.1 hXw (List.mem_of_getElem? (i := 19) rfl) hZ hAe hP hD hS (hl.1.trans hml.symm) hxt ⟨Nat.le_of_ble_eq_true rfl, Nat.le_of_ble_eq_true rfl⟩ ⟨Nat.le_of_ble_eq_true rfl, Nat.le_of_ble_eq_true rfl⟩ hk ⟨Nat.le_of_ble_eq_true rfl, Nat.le_of_ble_eq_true rfl⟩ (by decide) rfl ?_ dX3_square_26 dX3_square_29 dX3_square_30 dX3_square_32 dX3_square_35
      first | (simp [q2, c_1, t_s9, c_2, f9c_2]; done) | (subst_vars; simp [q2, c_1, t_s9, c_2, f9c_2]; done) | simp_all [q2]
    · refine lv_iload_n hx hb dX3_square_21 rfl (lv_at hl 2 rfl) ?_
      refine lv_iconst (v := nI 3) hx hb dX3_square_22 (by decide) ?_
      refine lv_icmp_le (x := w9) (y := nI 3) (tgt := 36) hx hb dX3_square_23 (by decide) (fun c_3 => ?_) (fun c_3 => ?_)
      · have n_c_3 := i_le_nlt c_3
        have g9c_3 : inR 0 3 w9 = true := inR_of c_2 n_c_3
        obtain ⟨k9, lo_k9, hi_k9, e_k9⟩ := inR_nL (a := 0) (b := 3) rfl rfl (by decide) (by decide) g9c_3
        subst e_k9
        have t_k9 := tn_nI (n := k9) (by omega)
        refine lv_aload_n hx hb dX3_square_36 rfl (lv_at hl 0 rfl) ?_
        refine lv_iload_n hx hb dX3_square_37 rfl (lv_at hl 1 rfl) ?_
        refine lv_iload_n hx hb dX3_square_38 rfl (lv_at hl 2 rfl) ?_
        refine rd_V (rest := []) (ci := 3) (q0 := 17) ⟨hx, hb, hml, hown, hts⟩ hP hE (c_X3_propertyOfSquare l D K _ _ _ _ _ _ _ _ _ _ _ _ _ _ hI s9 k9 (by omega) (by omega)) (cwV 2 hts gX3_square_X3_propertyOfSquare rfl rfl rfl hd_X3_propertyOfSquare ⟨Nat.le_of_ble_eq_true rfl, Nat.le_of_ble_eq_true rfl⟩) rfl rfl rfl rfl hl.1 rfl (Nat.le_of_ble_eq_true rfl) dX3_square_39 ⟨Nat.le_of_ble_eq_true rfl, Nat.le_of_ble_eq_true rfl⟩ ?_
        refine tx_iret hAe hP hD hS hx hb hr hk dX3_square_42 ⟨Nat.le_of_ble_eq_true rfl, Nat.le_of_ble_eq_true rfl⟩ ?_ (by first | rfl | (simp [setT_eq, c_1, t_s9, c_2, c_3, n_c_3, t_k9, g9c_3]; done) | (simp [setT_eq, c_1, t_s9, c_2, c_3, n_c_3, t_k9, g9c_3] <;> rfl))
        first | (simp [q2, c_1, t_s9, c_2, c_3, n_c_3, t_k9, g9c_3]; done) | (subst_vars; simp [q2, c_1, t_s9, c_2, c_3, n_c_3, t_k9, g9c_3]; done) | simp_all [q2]
      · have n_c_3 := i_nle_lt c_3
        have f9c_3 : inR 0 3 w9 = false := inR_hi n_c_3
        refine tx_thr (n := 2) (cls := xIA) (is := 197) hx hb hst hown (by decide +kernel) K111 KI111 (fun w h => hts w (List.mem_cons_of_mem _ (List.mem_append_right _ h))) xh_IA xg_IA hXw.2.2.2.2.1 hXw (List.mem_of_getElem? (i := 19) rfl) hZ hAe hP hD hS (hl.1.trans hml.symm) hxt ⟨Nat.le_of_ble_eq_true rfl, Nat.le_of_ble_eq_true rfl⟩ ⟨Nat.le_of_ble_eq_true rfl, Nat.le_of_ble_eq_true rfl⟩ hk ⟨Nat.le_of_ble_eq_true rfl, Nat.le_of_ble_eq_true rfl⟩ (by decide) rfl ?_ dX3_square_26 dX3_square_29 dX3_square_30 dX3_square_32 dX3_square_35
        first | (simp [q2, c_1, t_s9, c_2, c_3, n_c_3, f9c_3]; done) | (subst_vars; simp [q2, c_1, t_s9, c_2, c_3, n_c_3, f9c_3]; done) | simp_all [q2]
  · refine tx_thr (n := 1) (cls := xIO) (is := 40) hx hb hst hown (by decide +kernel) K38 KI38 (fun w h => hts w (List.mem_cons_of_mem _ (List.mem_append_left _ (List.mem_append_right _ h)))) xh_IO xg_IO hXw.2.2.2.1 hXw (List.mem_of_getElem? (i := 0) rfl) hZ hAe hP hD hS (hl.1.trans hml.symm) hxt ⟨Nat.le_of_ble_eq_true rfl, Nat.le_of_ble_eq_true rfl⟩ ⟨Nat.le_of_ble_eq_true rfl, Nat.le_of_ble_eq_true rfl⟩ hk ⟨Nat.le_of_ble_eq_true rfl, Nat.le_of_ble_eq_true rfl⟩ (by decide) rfl ?_ dX3_square_7 dX3_square_10 dX3_square_11 dX3_square_13 dX3_square_16
    first | (simp [q2, c_1]; done) | (subst_vars; simp [q2, c_1]; done) | simp_all [q2]
set_option maxHeartbeats 4000000 in
set_option maxRecDepth 100000 in
theorem c_X3_stopOf (l : Launch) (D : va_G) (K : Nat → ClassId) (dp fs : Nat) (hst : l.stackTraces = false) (sz : Nat) (a b t c : Nat → Nat) (g : Nat → Nat → Nat) (T : TW) (X : va_W) (len : Nat → Option Nat) (qu : Nat → Nat) (n : Nat) (cs : Nat → Nat) (ln sn : Nat) (Sv : Nat → TW) (x w9 : Int32) (hI : Inv T) : Tx dp fs l yX3_stopOf wsX3_stopOf ({ frames := 6, cells := 1, slots := 6, locals := 98 } : Room) D K (townW K a T ++ (waysW K b len qu n ++ (textW K t cs ln ++ (mainW K a b t c g sn ++ svW K g Sv X)))) sz [.ref (c 0), .int x, .int w9] (q2 0 11 0 2 x w9) xnA (townW K a T ++ (waysW K b len qu n ++ (textW K t cs ln ++ (mainW K a b t c g sn ++ svW K g Sv X)))) (ptT T (tn x) (tn w9)) 1 6 := by
  refine tx_intro (cc := cX3_stopOf) (maxL := 3) (ret := (some .int)) (by decide) rfl (Nat.le_of_ble_eq_true rfl) ?_
  intro pr en st md ar bl mt co A hx hb hml hr hts hown hk hsz hAe hP hE hD hS hA hxt hXw hZ ls hl
  have hown : st.vm.findClass RX3 = some md.cls := hown
  have hl : lv_has ls 3 [(0, .ref (c 0)), (1, .int x), (2, .int w9)] := hl
  obtain ⟨H, hH⟩ : ∃ z, z = st.heap := ⟨_, rfl⟩
  obtain ⟨locs, hlo⟩ : ∃ z : List Loc, z = [] := ⟨_, rfl⟩
  have hP : va_P D vwCl (townW K a T ++ (waysW K b len qu n ++ (textW K t cs ln ++ (mainW K a b t c g sn ++ svW K g Sv X)))) H := by rw [hH]; exact hP
  have hS : va_S A st.heap H locs := by rw [hH, hlo]; exact hS
  suffices go : W pr l en (headSpec wsX3_stopOf ({ frames := 6, cells := 1, slots := 6, locals := 98 } : Room)).room st md ar bl mt co H locs 0 0 (vx_MQ bl (txQ D (townW K a T ++ (waysW K b len qu n ++ (textW K t cs ln ++ (mainW K a b t c g sn ++ svW K g Sv X)))) (townW K a T ++ (waysW K b len qu n ++ (textW K t cs ln ++ (mainW K a b t c g sn ++ svW K g Sv X)))) sz (ptT T (tn x) (tn w9)) (q2 0 11 0 2 x w9)) (txX D (townW K a T ++ (waysW K b len qu n ++ (textW K t cs ln ++ (mainW K a b t c g sn ++ svW K g Sv X)))) sz (q2 0 11 0 2 x w9) xnA) ar st 1 6 A) (F0 md 0 ls []) by rw [hH, hlo] at go; exact go
  clear hH hlo
  have K111 : (Cond.classLink RX3 111 "java/lang/IllegalArgumentException").before ar st = true := hts _ (List.mem_of_getElem? (i := 3) rfl)
  have KI111 : (Cond.initialized "java/lang/IllegalArgumentException").before ar st = true := hts _ (List.mem_of_getElem? (i := 4) rfl)
  have K38 : (Cond.classLink RX3 38 "java/lang/IndexOutOfBoundsException").before ar st = true := hts _ (List.mem_of_getElem? (i := 1) rfl)
  have KI38 : (Cond.initialized "java/lang/IndexOutOfBoundsException").before ar st = true := hts _ (List.mem_of_getElem? (i := 2) rfl)
  refine lv_iload_n hx hb dX3_stopOf_0 rfl (lv_at hl 1 rfl) ?_
  refine rd_S (rest := []) ⟨hx, hb, hml, hown, hts⟩ hP hE (c_X3_isStop l D K _ x) (va_cwS 1 hts gX3_stopOf_X3_isStop rfl rfl rfl hn_X3_isStop ⟨Nat.le_of_ble_eq_true rfl, Nat.le_of_ble_eq_true rfl⟩) rfl hl.1 rfl (Nat.le_of_ble_eq_true rfl) dX3_stopOf_1 ⟨Nat.le_of_ble_eq_true rfl, Nat.le_of_ble_eq_true rfl⟩ ?_
  refine bv_if_ne (x := inR 0 11 x) (tgt := 17) hx hb dX3_stopOf_4 (by decide) (fun c_1 => ?_) (fun c_1 => ?_)
  · obtain ⟨s9, lo_s9, hi_s9, e_s9⟩ := inR_nL (a := 0) (b := 11) rfl rfl (by decide) (by decide) c_1
    subst e_s9
    have t_s9 := tn_nI (n := s9) (by omega)
    refine lv_iload_n hx hb dX3_stopOf_17 rfl (lv_at hl 2 rfl) ?_
    refine lv_if_lt (x := w9) (tgt := 26) hx hb dX3_stopOf_18 (by decide) (fun c_2 => ?_) (fun c_2 => ?_)
    · have f9c_2 : inR 0 2 w9 = false := inR_lo c_2
      refine tx_thr (n := 2) (cls := xIA) (is := 205) hx hb hst hown (by decide +kernel) K111 KI111 (fun w h => hts w (List.mem_cons_of_mem _ (List.mem_append_right _ h))) xh_IA xg_IA hXw.2.2.2.2.1 hXw (List.mem_of_getElem? (i := 21) rfl) hZ hAe hP hD hS (hl.1.trans hml.symm) hxt ⟨Nat.le_of_ble_eq_true rfl, Nat.le_of_ble_eq_true rfl⟩ ⟨Nat.le_of_ble_eq_true rfl, Nat.le_of_ble_eq_true rfl⟩ hk ⟨Nat.le_of_ble_eq_true rfl, Nat.le_of_ble_eq_true rfl⟩ (by decide) rfl ?_ dX3_stopOf_26 dX3_stopOf_29 dX3_stopOf_30 dX3_stopOf_32 dX3_stopOf_35
      first | (simp [q2, c_1, t_s9, c_2, f9c_2]; done) | (subst_vars; simp [q2, c_1, t_s9, c_2, f9c_2]; done) | simp_all [q2]
    · refine lv_iload_n hx hb dX3_stopOf_21 rfl (lv_at hl 2 rfl) ?_
      refine lv_iconst (v := nI 2) hx hb dX3_stopOf_22 (by decide) ?_
      refine lv_icmp_le (x := w9) (y := nI 2) (tgt := 36) hx hb dX3_stopOf_23 (by decide) (fun c_3 => ?_) (fun c_3 => ?_)
      · have n_c_3 := i_le_nlt c_3
        have g9c_3 : inR 0 2 w9 = true := inR_of c_2 n_c_3
        obtain ⟨k9, lo_k9, hi_k9, e_k9⟩ := inR_nL (a := 0) (b := 2) rfl rfl (by decide) (by decide) g9c_3
        subst e_k9
        have t_k9 := tn_nI (n := k9) (by omega)
        refine lv_aload_n hx hb dX3_stopOf_36 rfl (lv_at hl 0 rfl) ?_
        refine lv_iload_n hx hb dX3_stopOf_37 rfl (lv_at hl 1 rfl) ?_
        refine lv_iload_n hx hb dX3_stopOf_38 rfl (lv_at hl 2 rfl) ?_
        refine rd_V (rest := []) (ci := 3) (q0 := 17) ⟨hx, hb, hml, hown, hts⟩ hP hE (c_X3_propertyOfStop l D K _ _ _ _ _ _ _ _ _ _ _ _ _ _ hI s9 k9 (by omega) (by omega)) (cwV 2 hts gX3_stopOf_X3_propertyOfStop rfl rfl rfl hd_X3_propertyOfStop ⟨Nat.le_of_ble_eq_true rfl, Nat.le_of_ble_eq_true rfl⟩) rfl rfl rfl rfl hl.1 rfl (Nat.le_of_ble_eq_true rfl) dX3_stopOf_39 ⟨Nat.le_of_ble_eq_true rfl, Nat.le_of_ble_eq_true rfl⟩ ?_
        refine tx_iret hAe hP hD hS hx hb hr hk dX3_stopOf_42 ⟨Nat.le_of_ble_eq_true rfl, Nat.le_of_ble_eq_true rfl⟩ ?_ (by first | rfl | (simp [setT_eq, c_1, t_s9, c_2, c_3, n_c_3, t_k9, g9c_3]; done) | (simp [setT_eq, c_1, t_s9, c_2, c_3, n_c_3, t_k9, g9c_3] <;> rfl))
        first | (simp [q2, c_1, t_s9, c_2, c_3, n_c_3, t_k9, g9c_3]; done) | (subst_vars; simp [q2, c_1, t_s9, c_2, c_3, n_c_3, t_k9, g9c_3]; done) | simp_all [q2]
      · have n_c_3 := i_nle_lt c_3
        have f9c_3 : inR 0 2 w9 = false := inR_hi n_c_3
        refine tx_thr (n := 2) (cls := xIA) (is := 205) hx hb hst hown (by decide +kernel) K111 KI111 (fun w h => hts w (List.mem_cons_of_mem _ (List.mem_append_right _ h))) xh_IA xg_IA hXw.2.2.2.2.1 hXw (List.mem_of_getElem? (i := 21) rfl) hZ hAe hP hD hS (hl.1.trans hml.symm) hxt ⟨Nat.le_of_ble_eq_true rfl, Nat.le_of_ble_eq_true rfl⟩ ⟨Nat.le_of_ble_eq_true rfl, Nat.le_of_ble_eq_true rfl⟩ hk ⟨Nat.le_of_ble_eq_true rfl, Nat.le_of_ble_eq_true rfl⟩ (by decide) rfl ?_ dX3_stopOf_26 dX3_stopOf_29 dX3_stopOf_30 dX3_stopOf_32 dX3_stopOf_35
        first | (simp [q2, c_1, t_s9, c_2, c_3, n_c_3, f9c_3]; done) | (subst_vars; simp [q2, c_1, t_s9, c_2, c_3, n_c_3, f9c_3]; done) | simp_all [q2]
  · refine tx_thr (n := 1) (cls := xIO) (is := 203) hx hb hst hown (by decide +kernel) K38 KI38 (fun w h => hts w (List.mem_cons_of_mem _ (List.mem_append_left _ (List.mem_append_right _ h)))) xh_IO xg_IO hXw.2.2.2.1 hXw (List.mem_of_getElem? (i := 20) rfl) hZ hAe hP hD hS (hl.1.trans hml.symm) hxt ⟨Nat.le_of_ble_eq_true rfl, Nat.le_of_ble_eq_true rfl⟩ ⟨Nat.le_of_ble_eq_true rfl, Nat.le_of_ble_eq_true rfl⟩ hk ⟨Nat.le_of_ble_eq_true rfl, Nat.le_of_ble_eq_true rfl⟩ (by decide) rfl ?_ dX3_stopOf_7 dX3_stopOf_10 dX3_stopOf_11 dX3_stopOf_13 dX3_stopOf_16
    first | (simp [q2, c_1]; done) | (subst_vars; simp [q2, c_1]; done) | simp_all [q2]
set_option maxHeartbeats 4000000 in
set_option maxRecDepth 100000 in
theorem c_X3_player (l : Launch) (D : va_G) (K : Nat → ClassId) (dp fs : Nat) (hst : l.stackTraces = false) (sz : Nat) (a b t c : Nat → Nat) (g : Nat → Nat → Nat) (T : TW) (X : va_W) (len : Nat → Option Nat) (qu : Nat → Nat) (n : Nat) (cs : Nat → Nat) (ln sn : Nat) (Sv : Nat → TW) (x w9 : Int32) (hI : Inv T) : Tx dp fs l yX3_player wsX3_player ({ frames := 6, cells := 1, slots := 6, locals := 121 } : Room) D K (townW K a T ++ (waysW K b len qu n ++ (textW K t cs ln ++ (mainW K a b t c g sn ++ svW K g Sv X)))) sz [.ref (c 0), .int x, .int w9] (q2 0 3 0 9 x w9) xnA (townW K a T ++ (waysW K b len qu n ++ (textW K t cs ln ++ (mainW K a b t c g sn ++ svW K g Sv X)))) (ppT T (tn x) (tn w9)) 1 6 := by
  refine tx_intro (cc := cX3_player) (maxL := 3) (ret := (some .int)) (by decide) rfl (Nat.le_of_ble_eq_true rfl) ?_
  intro pr en st md ar bl mt co A hx hb hml hr hts hown hk hsz hAe hP hE hD hS hA hxt hXw hZ ls hl
  have hown : st.vm.findClass RX3 = some md.cls := hown
  have hl : lv_has ls 3 [(0, .ref (c 0)), (1, .int x), (2, .int w9)] := hl
  obtain ⟨H, hH⟩ : ∃ z, z = st.heap := ⟨_, rfl⟩
  obtain ⟨locs, hlo⟩ : ∃ z : List Loc, z = [] := ⟨_, rfl⟩
  have hP : va_P D vwCl (townW K a T ++ (waysW K b len qu n ++ (textW K t cs ln ++ (mainW K a b t c g sn ++ svW K g Sv X)))) H := by rw [hH]; exact hP
  have hS : va_S A st.heap H locs := by rw [hH, hlo]; exact hS
  suffices go : W pr l en (headSpec wsX3_player ({ frames := 6, cells := 1, slots := 6, locals := 121 } : Room)).room st md ar bl mt co H locs 0 0 (vx_MQ bl (txQ D (townW K a T ++ (waysW K b len qu n ++ (textW K t cs ln ++ (mainW K a b t c g sn ++ svW K g Sv X)))) (townW K a T ++ (waysW K b len qu n ++ (textW K t cs ln ++ (mainW K a b t c g sn ++ svW K g Sv X)))) sz (ppT T (tn x) (tn w9)) (q2 0 3 0 9 x w9)) (txX D (townW K a T ++ (waysW K b len qu n ++ (textW K t cs ln ++ (mainW K a b t c g sn ++ svW K g Sv X)))) sz (q2 0 3 0 9 x w9) xnA) ar st 1 6 A) (F0 md 0 ls []) by rw [hH, hlo] at go; exact go
  clear hH hlo
  have K111 : (Cond.classLink RX3 111 "java/lang/IllegalArgumentException").before ar st = true := hts _ (List.mem_of_getElem? (i := 3) rfl)
  have KI111 : (Cond.initialized "java/lang/IllegalArgumentException").before ar st = true := hts _ (List.mem_of_getElem? (i := 4) rfl)
  have K38 : (Cond.classLink RX3 38 "java/lang/IndexOutOfBoundsException").before ar st = true := hts _ (List.mem_of_getElem? (i := 1) rfl)
  have KI38 : (Cond.initialized "java/lang/IndexOutOfBoundsException").before ar st = true := hts _ (List.mem_of_getElem? (i := 2) rfl)
  refine lv_iload_n hx hb dX3_player_0 rfl (lv_at hl 1 rfl) ?_
  refine rd_S (rest := []) ⟨hx, hb, hml, hown, hts⟩ hP hE (c_X3_isPlayer l D K _ x) (va_cwS 1 hts gX3_player_X3_isPlayer rfl rfl rfl hn_X3_isPlayer ⟨Nat.le_of_ble_eq_true rfl, Nat.le_of_ble_eq_true rfl⟩) rfl hl.1 rfl (Nat.le_of_ble_eq_true rfl) dX3_player_1 ⟨Nat.le_of_ble_eq_true rfl, Nat.le_of_ble_eq_true rfl⟩ ?_
  refine bv_if_ne (x := inR 0 3 x) (tgt := 17) hx hb dX3_player_4 (by decide) (fun c_1 => ?_) (fun c_1 => ?_)
  · obtain ⟨s9, lo_s9, hi_s9, e_s9⟩ := inR_nL (a := 0) (b := 3) rfl rfl (by decide) (by decide) c_1
    subst e_s9
    have t_s9 := tn_nI (n := s9) (by omega)
    refine lv_iload_n hx hb dX3_player_17 rfl (lv_at hl 2 rfl) ?_
    refine lv_if_lt (x := w9) (tgt := 27) hx hb dX3_player_18 (by decide) (fun c_2 => ?_) (fun c_2 => ?_)
    · have f9c_2 : inR 0 9 w9 = false := inR_lo c_2
      refine tx_thr (n := 2) (cls := xIA) (is := 210) hx hb hst hown (by decide +kernel) K111 KI111 (fun w h => hts w (List.mem_cons_of_mem _ (List.mem_append_right _ h))) xh_IA xg_IA hXw.2.2.2.2.1 hXw (List.mem_of_getElem? (i := 22) rfl) hZ hAe hP hD hS (hl.1.trans hml.symm) hxt ⟨Nat.le_of_ble_eq_true rfl, Nat.le_of_ble_eq_true rfl⟩ ⟨Nat.le_of_ble_eq_true rfl, Nat.le_of_ble_eq_true rfl⟩ hk ⟨Nat.le_of_ble_eq_true rfl, Nat.le_of_ble_eq_true rfl⟩ (by decide) rfl ?_ dX3_player_27 dX3_player_30 dX3_player_31 dX3_player_33 dX3_player_36
      first | (simp [q2, c_1, t_s9, c_2, f9c_2]; done) | (subst_vars; simp [q2, c_1, t_s9, c_2, f9c_2]; done) | simp_all [q2]
    · refine lv_iload_n hx hb dX3_player_21 rfl (lv_at hl 2 rfl) ?_
      refine lv_bipush (v := nI 9) hx hb dX3_player_22 (by decide) ?_
      refine lv_icmp_le (x := w9) (y := nI 9) (tgt := 37) hx hb dX3_player_24 (by decide) (fun c_3 => ?_) (fun c_3 => ?_)
      · have n_c_3 := i_le_nlt c_3
        have g9c_3 : inR 0 9 w9 = true := inR_of c_2 n_c_3
        obtain ⟨k9, lo_k9, hi_k9, e_k9⟩ := inR_nL (a := 0) (b := 9) rfl rfl (by decide) (by decide) g9c_3
        subst e_k9
        have t_k9 := tn_nI (n := k9) (by omega)
        refine lv_aload_n hx hb dX3_player_37 rfl (lv_at hl 0 rfl) ?_
        refine lv_iload_n hx hb dX3_player_38 rfl (lv_at hl 1 rfl) ?_
        refine lv_iload_n hx hb dX3_player_39 rfl (lv_at hl 2 rfl) ?_
        refine rd_V (rest := []) (ci := 3) (q0 := 17) ⟨hx, hb, hml, hown, hts⟩ hP hE (c_X3_propertyOfPlayer l D K _ _ _ _ _ _ _ _ _ _ _ _ _ _ hI s9 k9 (by omega) (by omega)) (cwV 2 hts gX3_player_X3_propertyOfPlayer rfl rfl rfl hd_X3_propertyOfPlayer ⟨Nat.le_of_ble_eq_true rfl, Nat.le_of_ble_eq_true rfl⟩) rfl rfl rfl rfl hl.1 rfl (Nat.le_of_ble_eq_true rfl) dX3_player_40 ⟨Nat.le_of_ble_eq_true rfl, Nat.le_of_ble_eq_true rfl⟩ ?_
        refine tx_iret hAe hP hD hS hx hb hr hk dX3_player_43 ⟨Nat.le_of_ble_eq_true rfl, Nat.le_of_ble_eq_true rfl⟩ ?_ (by first | rfl | (simp [setT_eq, c_1, t_s9, c_2, c_3, n_c_3, t_k9, g9c_3]; done) | (simp [setT_eq, c_1, t_s9, c_2, c_3, n_c_3, t_k9, g9c_3] <;> rfl))
        first | (simp [q2, c_1, t_s9, c_2, c_3, n_c_3, t_k9, g9c_3]; done) | (subst_vars; simp [q2, c_1, t_s9, c_2, c_3, n_c_3, t_k9, g9c_3]; done) | simp_all [q2]
      · have n_c_3 := i_nle_lt c_3
        have f9c_3 : inR 0 9 w9 = false := inR_hi n_c_3
        refine tx_thr (n := 2) (cls := xIA) (is := 210) hx hb hst hown (by decide +kernel) K111 KI111 (fun w h => hts w (List.mem_cons_of_mem _ (List.mem_append_right _ h))) xh_IA xg_IA hXw.2.2.2.2.1 hXw (List.mem_of_getElem? (i := 22) rfl) hZ hAe hP hD hS (hl.1.trans hml.symm) hxt ⟨Nat.le_of_ble_eq_true rfl, Nat.le_of_ble_eq_true rfl⟩ ⟨Nat.le_of_ble_eq_true rfl, Nat.le_of_ble_eq_true rfl⟩ hk ⟨Nat.le_of_ble_eq_true rfl, Nat.le_of_ble_eq_true rfl⟩ (by decide) rfl ?_ dX3_player_27 dX3_player_30 dX3_player_31 dX3_player_33 dX3_player_36
        first | (simp [q2, c_1, t_s9, c_2, c_3, n_c_3, f9c_3]; done) | (subst_vars; simp [q2, c_1, t_s9, c_2, c_3, n_c_3, f9c_3]; done) | simp_all [q2]
  · refine tx_thr (n := 1) (cls := xIO) (is := 103) hx hb hst hown (by decide +kernel) K38 KI38 (fun w h => hts w (List.mem_cons_of_mem _ (List.mem_append_left _ (List.mem_append_right _ h)))) xh_IO xg_IO hXw.2.2.2.1 hXw (List.mem_of_getElem? (i := 6) rfl) hZ hAe hP hD hS (hl.1.trans hml.symm) hxt ⟨Nat.le_of_ble_eq_true rfl, Nat.le_of_ble_eq_true rfl⟩ ⟨Nat.le_of_ble_eq_true rfl, Nat.le_of_ble_eq_true rfl⟩ hk ⟨Nat.le_of_ble_eq_true rfl, Nat.le_of_ble_eq_true rfl⟩ (by decide) rfl ?_ dX3_player_7 dX3_player_10 dX3_player_11 dX3_player_13 dX3_player_16
    first | (simp [q2, c_1]; done) | (subst_vars; simp [q2, c_1]; done) | simp_all [q2]
set_option maxHeartbeats 4000000 in
set_option maxRecDepth 100000 in
theorem c_X3_count (l : Launch) (D : va_G) (K : Nat → ClassId) (dp fs : Nat) (hst : l.stackTraces = false) (sz : Nat) (a b t c : Nat → Nat) (g : Nat → Nat → Nat) (T : TW) (X : va_W) (len : Nat → Option Nat) (qu : Nat → Nat) (n : Nat) (cs : Nat → Nat) (ln sn : Nat) (Sv : Nat → TW) (x : Int32) (hI : Inv T) : Tx dp fs l yX3_count wsX3_count ({ frames := 7, cells := 1, slots := 6, locals := 142 } : Room) D K (townW K a T ++ (waysW K b len qu n ++ (textW K t cs ln ++ (mainW K a b t c g sn ++ svW K g Sv X)))) sz [.ref (c 0), .int x] (q1 0 7 x) xnC (townW K a T ++ (waysW K b len qu n ++ (textW K t cs ln ++ (mainW K a b t c g sn ++ svW K g Sv X)))) (nbrT T sn (tn x)) 1 6 := by
  refine tx_intro (cc := cX3_count) (maxL := 2) (ret := (some .int)) (by decide) rfl (Nat.le_of_ble_eq_true rfl) ?_
  intro pr en st md ar bl mt co A hx hb hml hr hts hown hk hsz hAe hP hE hD hS hA hxt hXw hZ ls hl
  have hown : st.vm.findClass RX3 = some md.cls := hown
  have hl : lv_has ls 2 [(0, .ref (c 0)), (1, .int x)] := hl
  obtain ⟨H, hH⟩ : ∃ z, z = st.heap := ⟨_, rfl⟩
  obtain ⟨locs, hlo⟩ : ∃ z : List Loc, z = [] := ⟨_, rfl⟩
  have hP : va_P D vwCl (townW K a T ++ (waysW K b len qu n ++ (textW K t cs ln ++ (mainW K a b t c g sn ++ svW K g Sv X)))) H := by rw [hH]; exact hP
  have hS : va_S A st.heap H locs := by rw [hH, hlo]; exact hS
  suffices go : W pr l en (headSpec wsX3_count ({ frames := 7, cells := 1, slots := 6, locals := 142 } : Room)).room st md ar bl mt co H locs 0 0 (vx_MQ bl (txQ D (townW K a T ++ (waysW K b len qu n ++ (textW K t cs ln ++ (mainW K a b t c g sn ++ svW K g Sv X)))) (townW K a T ++ (waysW K b len qu n ++ (textW K t cs ln ++ (mainW K a b t c g sn ++ svW K g Sv X)))) sz (nbrT T sn (tn x)) (q1 0 7 x)) (txX D (townW K a T ++ (waysW K b len qu n ++ (textW K t cs ln ++ (mainW K a b t c g sn ++ svW K g Sv X)))) sz (q1 0 7 x) xnC) ar st 1 6 A) (F0 md 0 ls []) by rw [hH, hlo] at go; exact go
  clear hH hlo
  have K111 : (Cond.classLink RX3 111 "java/lang/IllegalArgumentException").before ar st = true := hts _ (List.mem_of_getElem? (i := 1) rfl)
  have KI111 : (Cond.initialized "java/lang/IllegalArgumentException").before ar st = true := hts _ (List.mem_of_getElem? (i := 2) rfl)
  refine lv_iload_n hx hb dX3_count_0 rfl (lv_at hl 1 rfl) ?_
  refine lv_if_lt (x := x) (tgt := 10) hx hb dX3_count_1 (by decide) (fun c_1 => ?_) (fun c_1 => ?_)
  · have f9c_1 : inR 0 7 x = false := inR_lo c_1
    refine tx_thr (n := 1) (cls := xIA) (is := 215) hx hb hst hown (by decide +kernel) K111 KI111 (fun w h => hts w (List.mem_cons_of_mem _ (List.mem_append_right _ h))) xh_IA xg_IA hXw.2.2.2.2.1 hXw (List.mem_of_getElem? (i := 23) rfl) hZ hAe hP hD hS (hl.1.trans hml.symm) hxt ⟨Nat.le_of_ble_eq_true rfl, Nat.le_of_ble_eq_true rfl⟩ ⟨Nat.le_of_ble_eq_true rfl, Nat.le_of_ble_eq_true rfl⟩ hk ⟨Nat.le_of_ble_eq_true rfl, Nat.le_of_ble_eq_true rfl⟩ (by decide) rfl ?_ dX3_count_10 dX3_count_13 dX3_count_14 dX3_count_16 dX3_count_19
    first | (simp [q1, c_1, f9c_1]; done) | (subst_vars; simp [q1, c_1, f9c_1]; done) | simp_all [q1]
  · refine lv_iload_n hx hb dX3_count_4 rfl (lv_at hl 1 rfl) ?_
    refine lv_bipush (v := nI 7) hx hb dX3_count_5 (by decide) ?_
    refine lv_icmp_le (x := x) (y := nI 7) (tgt := 20) hx hb dX3_count_7 (by decide) (fun c_2 => ?_) (fun c_2 => ?_)
    · have n_c_2 := i_le_nlt c_2
      have g9c_2 : inR 0 7 x = true := inR_of c_1 n_c_2
      obtain ⟨k9, lo_k9, hi_k9, e_k9⟩ := inR_nL (a := 0) (b := 7) rfl rfl (by decide) (by decide) g9c_2
      subst e_k9
      have t_k9 := tn_nI (n := k9) (by omega)
      refine lv_aload_n hx hb dX3_count_20 rfl (lv_at hl 0 rfl) ?_
      refine lv_iload_n hx hb dX3_count_21 rfl (lv_at hl 1 rfl) ?_
      refine rd_V (rest := []) (ci := 3) (q0 := 17) ⟨hx, hb, hml, hown, hts⟩ hP hE (c_X3_numberOf l D K _ _ _ _ _ _ _ _ _ _ _ _ _ _ hI k9 (by omega)) (cwV 1 hts gX3_count_X3_numberOf rfl rfl rfl hd_X3_numberOf ⟨Nat.le_of_ble_eq_true rfl, Nat.le_of_ble_eq_true rfl⟩) rfl rfl rfl rfl hl.1 rfl (Nat.le_of_ble_eq_true rfl) dX3_count_22 ⟨Nat.le_of_ble_eq_true rfl, Nat.le_of_ble_eq_true rfl⟩ ?_
      refine tx_iret hAe hP hD hS hx hb hr hk dX3_count_25 ⟨Nat.le_of_ble_eq_true rfl, Nat.le_of_ble_eq_true rfl⟩ ?_ (by first | rfl | (simp [setT_eq, c_1, c_2, n_c_2, t_k9, g9c_2]; done) | (simp [setT_eq, c_1, c_2, n_c_2, t_k9, g9c_2] <;> rfl))
      first | (simp [q1, c_1, c_2, n_c_2, t_k9, g9c_2]; done) | (subst_vars; simp [q1, c_1, c_2, n_c_2, t_k9, g9c_2]; done) | simp_all [q1]
    · have n_c_2 := i_nle_lt c_2
      have f9c_2 : inR 0 7 x = false := inR_hi n_c_2
      refine tx_thr (n := 1) (cls := xIA) (is := 215) hx hb hst hown (by decide +kernel) K111 KI111 (fun w h => hts w (List.mem_cons_of_mem _ (List.mem_append_right _ h))) xh_IA xg_IA hXw.2.2.2.2.1 hXw (List.mem_of_getElem? (i := 23) rfl) hZ hAe hP hD hS (hl.1.trans hml.symm) hxt ⟨Nat.le_of_ble_eq_true rfl, Nat.le_of_ble_eq_true rfl⟩ ⟨Nat.le_of_ble_eq_true rfl, Nat.le_of_ble_eq_true rfl⟩ hk ⟨Nat.le_of_ble_eq_true rfl, Nat.le_of_ble_eq_true rfl⟩ (by decide) rfl ?_ dX3_count_10 dX3_count_13 dX3_count_14 dX3_count_16 dX3_count_19
      first | (simp [q1, c_1, c_2, n_c_2, f9c_2]; done) | (subst_vars; simp [q1, c_1, c_2, n_c_2, f9c_2]; done) | simp_all [q1]
set_option maxHeartbeats 4000000 in
set_option maxRecDepth 100000 in
theorem c_X3_setting (l : Launch) (D : va_G) (K : Nat → ClassId) (dp fs : Nat) (hst : l.stackTraces = false) (sz : Nat) (a b t c : Nat → Nat) (g : Nat → Nat → Nat) (T : TW) (X : va_W) (len : Nat → Option Nat) (qu : Nat → Nat) (n : Nat) (cs : Nat → Nat) (ln sn : Nat) (Sv : Nat → TW) (x : Int32) (hI : Inv T) : Tx dp fs l yX3_setting wsX3_setting ({ frames := 6, cells := 1, slots := 6, locals := 82 } : Room) D K (townW K a T ++ (waysW K b len qu n ++ (textW K t cs ln ++ (mainW K a b t c g sn ++ svW K g Sv X)))) sz [.ref (c 0), .int x] (q1 0 2 x) xnA (townW K a T ++ (waysW K b len qu n ++ (textW K t cs ln ++ (mainW K a b t c g sn ++ svW K g Sv X)))) (nI (stT T (tn x))) 1 6 := by
  refine tx_intro (cc := cX3_setting) (maxL := 2) (ret := (some .int)) (by decide) rfl (Nat.le_of_ble_eq_true rfl) ?_
  intro pr en st md ar bl mt co A hx hb hml hr hts hown hk hsz hAe hP hE hD hS hA hxt hXw hZ ls hl
  have hown : st.vm.findClass RX3 = some md.cls := hown
  have hl : lv_has ls 2 [(0, .ref (c 0)), (1, .int x)] := hl
  obtain ⟨H, hH⟩ : ∃ z, z = st.heap := ⟨_, rfl⟩
  obtain ⟨locs, hlo⟩ : ∃ z : List Loc, z = [] := ⟨_, rfl⟩
  have hP : va_P D vwCl (townW K a T ++ (waysW K b len qu n ++ (textW K t cs ln ++ (mainW K a b t c g sn ++ svW K g Sv X)))) H := by rw [hH]; exact hP
  have hS : va_S A st.heap H locs := by rw [hH, hlo]; exact hS
  suffices go : W pr l en (headSpec wsX3_setting ({ frames := 6, cells := 1, slots := 6, locals := 82 } : Room)).room st md ar bl mt co H locs 0 0 (vx_MQ bl (txQ D (townW K a T ++ (waysW K b len qu n ++ (textW K t cs ln ++ (mainW K a b t c g sn ++ svW K g Sv X)))) (townW K a T ++ (waysW K b len qu n ++ (textW K t cs ln ++ (mainW K a b t c g sn ++ svW K g Sv X)))) sz (nI (stT T (tn x))) (q1 0 2 x)) (txX D (townW K a T ++ (waysW K b len qu n ++ (textW K t cs ln ++ (mainW K a b t c g sn ++ svW K g Sv X)))) sz (q1 0 2 x) xnA) ar st 1 6 A) (F0 md 0 ls []) by rw [hH, hlo] at go; exact go
  clear hH hlo
  have F12 : (Cond.fieldLink RX3 12 "TramTolls" "town" "LTramTolls$Town;").before ar st = true := hts _ (List.mem_of_getElem? (i := 3) rfl)
  have inX3 : ∀ w ∈ u_ws RX3 TX3 5, w ∈ wsX3_setting := fun w h => List.mem_cons_of_mem _ (List.mem_append_left _ (List.mem_append_left _ (List.mem_append_right _ h)))
  have F160 : (Cond.fieldLink RX3 160 "TramTolls$Town" "settings" "[I").before ar st = true := hts _ (List.mem_of_getElem? (i := 4) rfl)
  have inX1 : ∀ w ∈ u_ws RX1 TX1 12, w ∈ wsX3_setting := fun w h => List.mem_cons_of_mem _ (List.mem_append_left _ (List.mem_append_right _ h))
  have K38 : (Cond.classLink RX3 38 "java/lang/IndexOutOfBoundsException").before ar st = true := hts _ (List.mem_of_getElem? (i := 1) rfl)
  have KI38 : (Cond.initialized "java/lang/IndexOutOfBoundsException").before ar st = true := hts _ (List.mem_of_getElem? (i := 2) rfl)
  refine lv_iload_n hx hb dX3_setting_0 rfl (lv_at hl 1 rfl) ?_
  refine rd_S (rest := []) ⟨hx, hb, hml, hown, hts⟩ hP hE (c_X3_isSetting l D K _ x) (va_cwS 1 hts gX3_setting_X3_isSetting rfl rfl rfl hn_X3_isSetting ⟨Nat.le_of_ble_eq_true rfl, Nat.le_of_ble_eq_true rfl⟩) rfl hl.1 rfl (Nat.le_of_ble_eq_true rfl) dX3_setting_1 ⟨Nat.le_of_ble_eq_true rfl, Nat.le_of_ble_eq_true rfl⟩ ?_
  refine bv_if_ne (x := inR 0 2 x) (tgt := 17) hx hb dX3_setting_4 (by decide) (fun c_1 => ?_) (fun c_1 => ?_)
  · obtain ⟨s9, lo_s9, hi_s9, e_s9⟩ := inR_nL (a := 0) (b := 2) rfl rfl (by decide) (by decide) c_1
    subst e_s9
    have t_s9 := tn_nI (n := s9) (by omega)
    refine lv_aload_n hx hb dX3_setting_17 rfl (lv_at hl 0 rfl) ?_
    refine va_get (D := D) (ci := 3) (v := .ref (a 0)) (C := RX3) (T := TX3) (N := 5) hx hb hts inX3 hown hE.1 hP 17 rfl rfl 0 (by decide) F12 (fun _ h9 => h9) rfl dX3_setting_18 ?_
    refine va_get (D := D) (ci := 1) (v := .ref (a 11)) (C := RX1) (T := TX1) (N := 12) hx hb hts inX1 hown hE.1 hP 0 rfl rfl 10 (by decide) F160 (fun _ h9 => h9) rfl dX3_setting_21 ?_
    refine lv_iload_n hx hb dX3_setting_24 rfl (lv_at hl 1 rfl) ?_
    refine rd_S (rest := []) ⟨hx, hb, hml, hown, hts⟩ hP hE (c_X3_at l D K _ 11 _ 3 _ s9 rfl (by omega) (by omega)) (va_cwS 2 hts gX3_setting_X3_at rfl rfl rfl hn_X3_at ⟨Nat.le_of_ble_eq_true rfl, Nat.le_of_ble_eq_true rfl⟩) rfl hl.1 rfl (Nat.le_of_ble_eq_true rfl) dX3_setting_25 ⟨Nat.le_of_ble_eq_true rfl, Nat.le_of_ble_eq_true rfl⟩ ?_
    refine top_i (y := nI (stT T s9)) (show T 10 s9 = nI (stT T s9) from eq_st hI (by omega)) ?_
    have hb_2 := st_lt hI (show s9 < 3 by omega)
    refine tx_iret hAe hP hD hS hx hb hr hk dX3_setting_28 ⟨Nat.le_of_ble_eq_true rfl, Nat.le_of_ble_eq_true rfl⟩ ?_ (by first | rfl | (simp [setT_eq, c_1, t_s9]; done) | (simp [setT_eq, c_1, t_s9] <;> rfl))
    first | (simp [q1, c_1, t_s9]; done) | (subst_vars; simp [q1, c_1, t_s9]; done) | simp_all [q1]
  · refine tx_thr (n := 1) (cls := xIO) (is := 153) hx hb hst hown (by decide +kernel) K38 KI38 (fun w h => hts w (List.mem_cons_of_mem _ (List.mem_append_right _ h))) xh_IO xg_IO hXw.2.2.2.1 hXw (List.mem_of_getElem? (i := 13) rfl) hZ hAe hP hD hS (hl.1.trans hml.symm) hxt ⟨Nat.le_of_ble_eq_true rfl, Nat.le_of_ble_eq_true rfl⟩ ⟨Nat.le_of_ble_eq_true rfl, Nat.le_of_ble_eq_true rfl⟩ hk ⟨Nat.le_of_ble_eq_true rfl, Nat.le_of_ble_eq_true rfl⟩ (by decide) rfl ?_ dX3_setting_7 dX3_setting_10 dX3_setting_11 dX3_setting_13 dX3_setting_16
    first | (simp [q1, c_1]; done) | (subst_vars; simp [q1, c_1]; done) | simp_all [q1]
set_option maxHeartbeats 4000000 in
set_option maxRecDepth 100000 in
theorem c_X3_refusal (l : Launch) (D : va_G) (K : Nat → ClassId) (dp fs : Nat) (hst : l.stackTraces = false) (sz : Nat) (a b t c : Nat → Nat) (g : Nat → Nat → Nat) (T : TW) (X : va_W) (len : Nat → Option Nat) (qu : Nat → Nat) (n : Nat) (cs : Nat → Nat) (ln sn : Nat) (Sv : Nat → TW) (x g9 d : Int32) (hI : Inv T) : Tx dp fs l yX3_refusal wsX3_refusal ({ frames := 6, cells := 1, slots := 6, locals := 101 } : Room) D K (townW K a T ++ (waysW K b len qu n ++ (textW K t cs ln ++ (mainW K a b t c g sn ++ svW K g Sv X)))) sz [.ref (c 0), .int x, .int g9, .int d] (rfE x g9 d) xnA (townW K a T ++ (waysW K b len qu n ++ (textW K t cs ln ++ (mainW K a b t c g sn ++ svW K g Sv X)))) (nI (whyT T (tn x) (hdT T (tn x)) (tn g9) (tn d))) 1 6 := by
  refine tx_intro (cc := cX3_refusal) (maxL := 4) (ret := (some .int)) (by decide) rfl (Nat.le_of_ble_eq_true rfl) ?_
  intro pr en st md ar bl mt co A hx hb hml hr hts hown hk hsz hAe hP hE hD hS hA hxt hXw hZ ls hl
  have hown : st.vm.findClass RX3 = some md.cls := hown
  have hl : lv_has ls 4 [(0, .ref (c 0)), (1, .int x), (2, .int g9), (3, .int d)] := hl
  obtain ⟨H, hH⟩ : ∃ z, z = st.heap := ⟨_, rfl⟩
  obtain ⟨locs, hlo⟩ : ∃ z : List Loc, z = [] := ⟨_, rfl⟩
  have hP : va_P D vwCl (townW K a T ++ (waysW K b len qu n ++ (textW K t cs ln ++ (mainW K a b t c g sn ++ svW K g Sv X)))) H := by rw [hH]; exact hP
  have hS : va_S A st.heap H locs := by rw [hH, hlo]; exact hS
  suffices go : W pr l en (headSpec wsX3_refusal ({ frames := 6, cells := 1, slots := 6, locals := 101 } : Room)).room st md ar bl mt co H locs 0 0 (vx_MQ bl (txQ D (townW K a T ++ (waysW K b len qu n ++ (textW K t cs ln ++ (mainW K a b t c g sn ++ svW K g Sv X)))) (townW K a T ++ (waysW K b len qu n ++ (textW K t cs ln ++ (mainW K a b t c g sn ++ svW K g Sv X)))) sz (nI (whyT T (tn x) (hdT T (tn x)) (tn g9) (tn d))) (rfE x g9 d)) (txX D (townW K a T ++ (waysW K b len qu n ++ (textW K t cs ln ++ (mainW K a b t c g sn ++ svW K g Sv X)))) sz (rfE x g9 d) xnA) ar st 1 6 A) (F0 md 0 ls []) by rw [hH, hlo] at go; exact go
  clear hH hlo
  have K111 : (Cond.classLink RX3 111 "java/lang/IllegalArgumentException").before ar st = true := hts _ (List.mem_of_getElem? (i := 3) rfl)
  have KI111 : (Cond.initialized "java/lang/IllegalArgumentException").before ar st = true := hts _ (List.mem_of_getElem? (i := 4) rfl)
  have F12 : (Cond.fieldLink RX3 12 "TramTolls" "town" "LTramTolls$Town;").before ar st = true := hts _ (List.mem_of_getElem? (i := 5) rfl)
  have inX3 : ∀ w ∈ u_ws RX3 TX3 5, w ∈ wsX3_refusal := fun w h => List.mem_cons_of_mem _ (List.mem_append_left _ (List.mem_append_left _ (List.mem_append_left _ (List.mem_append_right _ h))))
  have F116 : (Cond.fieldLink RX3 116 "TramTolls$Town" "heads" "[I").before ar st = true := hts _ (List.mem_of_getElem? (i := 6) rfl)
  have inX1 : ∀ w ∈ u_ws RX1 TX1 12, w ∈ wsX3_refusal := fun w h => List.mem_cons_of_mem _ (List.mem_append_left _ (List.mem_append_left _ (List.mem_append_right _ h)))
  have K38 : (Cond.classLink RX3 38 "java/lang/IndexOutOfBoundsException").before ar st = true := hts _ (List.mem_of_getElem? (i := 1) rfl)
  have KI38 : (Cond.initialized "java/lang/IndexOutOfBoundsException").before ar st = true := hts _ (List.mem_of_getElem? (i := 2) rfl)
  refine lv_iload_n hx hb dX3_refusal_0 rfl (lv_at hl 1 rfl) ?_
  refine rd_S (rest := []) ⟨hx, hb, hml, hown, hts⟩ hP hE (c_X3_isPlayer l D K _ x) (va_cwS 1 hts gX3_refusal_X3_isPlayer rfl rfl rfl hn_X3_isPlayer ⟨Nat.le_of_ble_eq_true rfl, Nat.le_of_ble_eq_true rfl⟩) rfl hl.1 rfl (Nat.le_of_ble_eq_true rfl) dX3_refusal_1 ⟨Nat.le_of_ble_eq_true rfl, Nat.le_of_ble_eq_true rfl⟩ ?_
  refine bv_if_ne (x := inR 0 3 x) (tgt := 17) hx hb dX3_refusal_4 (by decide) (fun c_1 => ?_) (fun c_1 => ?_)
  · obtain ⟨s9, lo_s9, hi_s9, e_s9⟩ := inR_nL (a := 0) (b := 3) rfl rfl (by decide) (by decide) c_1
    subst e_s9
    have t_s9 := tn_nI (n := s9) (by omega)
    refine lv_iload_n hx hb dX3_refusal_17 rfl (lv_at hl 2 rfl) ?_
    refine rd_S (rest := []) ⟨hx, hb, hml, hown, hts⟩ hP hE (c_X3_isDie l D K _ g9) (va_cwS 1 hts gX3_refusal_X3_isDie rfl rfl rfl hn_X3_isDie ⟨Nat.le_of_ble_eq_true rfl, Nat.le_of_ble_eq_true rfl⟩) rfl hl.1 rfl (Nat.le_of_ble_eq_true rfl) dX3_refusal_18 ⟨Nat.le_of_ble_eq_true rfl, Nat.le_of_ble_eq_true rfl⟩ ?_
    refine bv_if_eq (x := inR 1 6 g9) (tgt := 31) hx hb dX3_refusal_21 (by decide) (fun c_2 => ?_) (fun c_2 => ?_)
    · refine tx_thr (n := 2) (cls := xIA) (is := 113) hx hb hst hown (by decide +kernel) K111 KI111 (fun w h => hts w (List.mem_cons_of_mem _ (List.mem_append_right _ h))) xh_IA xg_IA hXw.2.2.2.2.1 hXw (List.mem_of_getElem? (i := 7) rfl) hZ hAe hP hD hS (hl.1.trans hml.symm) hxt ⟨Nat.le_of_ble_eq_true rfl, Nat.le_of_ble_eq_true rfl⟩ ⟨Nat.le_of_ble_eq_true rfl, Nat.le_of_ble_eq_true rfl⟩ hk ⟨Nat.le_of_ble_eq_true rfl, Nat.le_of_ble_eq_true rfl⟩ (by decide) rfl ?_ dX3_refusal_31 dX3_refusal_34 dX3_refusal_35 dX3_refusal_37 dX3_refusal_40
      first | (simp [rfE, c_1, t_s9, c_2]; done) | (subst_vars; simp [rfE, c_1, t_s9, c_2]; done) | simp_all [rfE]
    · obtain ⟨k9, lo_k9, hi_k9, e_k9⟩ := inR_nL (a := 1) (b := 6) rfl rfl (by decide) (by decide) c_2
      subst e_k9
      have t_k9 := tn_nI (n := k9) (by omega)
      refine lv_iload_n hx hb dX3_refusal_24 rfl (lv_at hl 3 rfl) ?_
      refine rd_S (rest := []) ⟨hx, hb, hml, hown, hts⟩ hP hE (c_X3_isDirection l D K _ d) (va_cwS 1 hts gX3_refusal_X3_isDirection rfl rfl rfl hn_X3_isDirection ⟨Nat.le_of_ble_eq_true rfl, Nat.le_of_ble_eq_true rfl⟩) rfl hl.1 rfl (Nat.le_of_ble_eq_true rfl) dX3_refusal_25 ⟨Nat.le_of_ble_eq_true rfl, Nat.le_of_ble_eq_true rfl⟩ ?_
      refine bv_if_ne (x := inR 0 3 d) (tgt := 41) hx hb dX3_refusal_28 (by decide) (fun c_3 => ?_) (fun c_3 => ?_)
      · obtain ⟨d9, lo_d9, hi_d9, e_d9⟩ := inR_nL (a := 0) (b := 3) rfl rfl (by decide) (by decide) c_3
        subst e_d9
        have t_d9 := tn_nI (n := d9) (by omega)
        refine lv_aload_n hx hb dX3_refusal_41 rfl (lv_at hl 0 rfl) ?_
        refine va_get (D := D) (ci := 3) (v := .ref (a 0)) (C := RX3) (T := TX3) (N := 5) hx hb hts inX3 hown hE.1 hP 17 rfl rfl 0 (by decide) F12 (fun _ h9 => h9) rfl dX3_refusal_42 ?_
        refine lv_iload_n hx hb dX3_refusal_45 rfl (lv_at hl 1 rfl) ?_
        refine lv_aload_n hx hb dX3_refusal_46 rfl (lv_at hl 0 rfl) ?_
        refine va_get (D := D) (ci := 3) (v := .ref (a 0)) (C := RX3) (T := TX3) (N := 5) hx hb hts inX3 hown hE.1 hP 17 rfl rfl 0 (by decide) F12 (fun _ h9 => h9) rfl dX3_refusal_47 ?_
        refine va_get (D := D) (ci := 1) (v := .ref (a 7)) (C := RX1) (T := TX1) (N := 12) hx hb hts inX1 hown hE.1 hP 0 rfl rfl 6 (by decide) F116 (fun _ h9 => h9) rfl dX3_refusal_50 ?_
        refine lv_iload_n hx hb dX3_refusal_53 rfl (lv_at hl 1 rfl) ?_
        refine rd_S (rest := [.int (nI s9), .ref (a 0)]) ⟨hx, hb, hml, hown, hts⟩ hP hE (c_X3_at l D K _ 7 _ 4 _ s9 rfl (by omega) (by omega)) (va_cwS 2 hts gX3_refusal_X3_at rfl rfl rfl hn_X3_at ⟨Nat.le_of_ble_eq_true rfl, Nat.le_of_ble_eq_true rfl⟩) rfl hl.1 rfl (Nat.le_of_ble_eq_true rfl) dX3_refusal_54 ⟨Nat.le_of_ble_eq_true rfl, Nat.le_of_ble_eq_true rfl⟩ ?_
        refine top_i (y := nI (hdT T s9)) (show T 6 s9 = nI (hdT T s9) from eq_hd hI (by omega)) ?_
        have hb_4 := hd_lt hI (show s9 < 4 by omega)
        refine lv_iload_n hx hb dX3_refusal_57 rfl (lv_at hl 2 rfl) ?_
        refine lv_iload_n hx hb dX3_refusal_58 rfl (lv_at hl 3 rfl) ?_
        refine rd_V (rest := []) (ci := 1) (q0 := 0) ⟨hx, hb, hml, hown, hts⟩ hP hE (c_X1_reason l D K _ _ _ s9 (hdT T s9) k9 d9 hI (by omega) (by omega) (by omega) (by omega)) (cwV 4 hts gX3_refusal_X1_reason rfl rfl rfl hd_X1_reason ⟨Nat.le_of_ble_eq_true rfl, Nat.le_of_ble_eq_true rfl⟩) rfl rfl rfl rfl hl.1 rfl (Nat.le_of_ble_eq_true rfl) dX3_refusal_59 ⟨Nat.le_of_ble_eq_true rfl, Nat.le_of_ble_eq_true rfl⟩ ?_
        have hb_5 := why_lt T s9 (hdT T s9) k9 d9
        refine tx_iret hAe hP hD hS hx hb hr hk dX3_refusal_62 ⟨Nat.le_of_ble_eq_true rfl, Nat.le_of_ble_eq_true rfl⟩ ?_ (by first | rfl | (simp [setT_eq, c_1, t_s9, c_2, t_k9, c_3, t_d9]; done) | (simp [setT_eq, c_1, t_s9, c_2, t_k9, c_3, t_d9] <;> rfl))
        first | (simp [rfE, c_1, t_s9, c_2, t_k9, c_3, t_d9]; done) | (subst_vars; simp [rfE, c_1, t_s9, c_2, t_k9, c_3, t_d9]; done) | simp_all [rfE]
      · refine tx_thr (n := 2) (cls := xIA) (is := 113) hx hb hst hown (by decide +kernel) K111 KI111 (fun w h => hts w (List.mem_cons_of_mem _ (List.mem_append_right _ h))) xh_IA xg_IA hXw.2.2.2.2.1 hXw (List.mem_of_getElem? (i := 7) rfl) hZ hAe hP hD hS (hl.1.trans hml.symm) hxt ⟨Nat.le_of_ble_eq_true rfl, Nat.le_of_ble_eq_true rfl⟩ ⟨Nat.le_of_ble_eq_true rfl, Nat.le_of_ble_eq_true rfl⟩ hk ⟨Nat.le_of_ble_eq_true rfl, Nat.le_of_ble_eq_true rfl⟩ (by decide) rfl ?_ dX3_refusal_31 dX3_refusal_34 dX3_refusal_35 dX3_refusal_37 dX3_refusal_40
        first | (simp [rfE, c_1, t_s9, c_2, t_k9, c_3]; done) | (subst_vars; simp [rfE, c_1, t_s9, c_2, t_k9, c_3]; done) | simp_all [rfE]
  · refine tx_thr (n := 1) (cls := xIO) (is := 103) hx hb hst hown (by decide +kernel) K38 KI38 (fun w h => hts w (List.mem_cons_of_mem _ (List.mem_append_left _ (List.mem_append_right _ h)))) xh_IO xg_IO hXw.2.2.2.1 hXw (List.mem_of_getElem? (i := 6) rfl) hZ hAe hP hD hS (hl.1.trans hml.symm) hxt ⟨Nat.le_of_ble_eq_true rfl, Nat.le_of_ble_eq_true rfl⟩ ⟨Nat.le_of_ble_eq_true rfl, Nat.le_of_ble_eq_true rfl⟩ hk ⟨Nat.le_of_ble_eq_true rfl, Nat.le_of_ble_eq_true rfl⟩ (by decide) rfl ?_ dX3_refusal_7 dX3_refusal_10 dX3_refusal_11 dX3_refusal_13 dX3_refusal_16
    first | (simp [rfE, c_1]; done) | (subst_vars; simp [rfE, c_1]; done) | simp_all [rfE]
