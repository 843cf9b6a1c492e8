/-! the law, cases 5 -/
set_option maxHeartbeats 4000000 in
set_option maxRecDepth 100000 in
theorem lc_cheapest {pr : Program} {l : Launch} {en : Env} {st : State} {md : MethodId} {ar : Array Value} {bl : List Frame} {mt : Method} {co : Code} {D : va_G} {K : Nat → ClassId} {A : Nat → Prop} {Q : State → Prop} {b9 : Nat} {a b t c r : Nat → Nat} {o : Nat} {dp fs L : Nat} {xs : Nat → Int32} (hx : pr.tables.exec = Jvm.exec) (hb : co.code = cL_law) (hml : co.maxLocals = 9) (hts : ∀ w ∈ wsL_law, w.before ar st = true) (hown : st.vm.findClass RL = some md.cls) (hst : l.stackTraces = false) (hE : ev D K st) (hXw : xw st) (hxn : xn st) (hZ : xst dp fs A st st.heap) (hA : ∀ q : Nat, st.heap.size ≤ q → A q) (hX : va_X b9 L xs st st.heap) (hbl : b9 < st.heap.size) (hbA : ¬ A b9) (k : Nat) (hk : 4 * k + 4 ≤ L) (hL : L ≤ 2048) (cells slots : Nat) (hc1 : cells + 1 ≤ 601024) (hc2 : slots + 6 ≤ 7293034) (kk : Nx pr l en st md ar bl mt co D K A Q b9 a b t c r o k (cells + 1) (slots + 6) 1550) : Nx pr l en st md ar bl mt co D K A Q b9 a b t c r o k cells slots 1346 := by
  intro T len qu n cs ln sn Sv g th pn pm sta ms hs sv pf fa of hLI H locs ls hP hD hS hl
  have hLI0 := hLI
  obtain ⟨hI, hK, hCB, hsn, hSV, hSI, hSH⟩ := hLI
  refine lv_aload_n hx hb dL_law_1346 rfl (lv_at hl 2 rfl) ?_
  refine lv_aload_n hx hb dL_law_1347 rfl (lv_at hl 1 rfl) ?_
  refine lv_iload hx hb dL_law_1348 (lv_at hl 0 rfl) ?_
  refine lv_iconst (v := nI 1) hx hb dL_law_1350 (by decide) ?_
  refine nv_iadd (x := 4 * k) (y := 1) hx hb dL_law_1351 ?_
  refine va_sld hx hb hX hbl hbA hS (pk_in ((4 * k) + 1) L (by omega)) dL_law_1352 ?_
  rw [pk_cl ((4 * k) + 1)]
  refine lv_aload_n hx hb dL_law_1353 rfl (lv_at hl 1 rfl) ?_
  refine lv_iload hx hb dL_law_1354 (lv_at hl 0 rfl) ?_
  refine lv_iconst (v := nI 2) hx hb dL_law_1356 (by decide) ?_
  refine nv_iadd (x := 4 * k) (y := 2) hx hb dL_law_1357 ?_
  refine va_sld hx hb hX hbl hbA hS (pk_in ((4 * k) + 2) L (by omega)) dL_law_1358 ?_
  rw [pk_cl ((4 * k) + 2)]
  refine lv_aload_n hx hb dL_law_1359 rfl (lv_at hl 4 rfl) ?_
  have hEl : awE (xs ((4 * k) + 1)) (xs ((4 * k) + 2)) ≤ 1 := by unfold awE; (repeat' split) <;> omega
  by_cases hE0 : awE (xs ((4 * k) + 1)) (xs ((4 * k) + 2)) = 0
  · refine lx_S (rest := []) ⟨hx, hb, hml, hown, hts⟩ hP hE hA hD hS hXw hZ hxn (c_L_cheapest l D K dp fs hst _ _ _ _ _ _ _ _ _ _ _ _ _ _ (xs ((4 * k) + 1)) (xs ((4 * k) + 2)) hI _ _ _) (vx_cwSW 4 hts gL_law_L_cheapest rfl rfl rfl hn_L_cheapest ⟨Nat.le_of_ble_eq_true rfl, Nat.le_of_ble_eq_true rfl⟩) rfl hl.1 rfl (Nat.le_of_ble_eq_true rfl) dL_law_1360 ⟨show _ ≤ 601024 by omega, show _ ≤ 7293034 by omega⟩ (fun H locs hP hD hS => ?_)
    rw [if_pos hE0] at hP hD
    have hP : va_P D vwCl (cW K a b t c g T (cheS T (tn (xs ((4 * k) + 1))) len) qu n cs ln sn Sv (oC K o (vp_updL of 0 ((oI (wyO (dst T (tn (xs ((4 * k) + 1))) 1 (tn (xs ((4 * k) + 2)))))).toInt64)) :: rfW K r th pn sn ln pm sta ms hs T sv cs pf fa [])) H := hP
    have hD : va_D A (cW K a b t c g T (cheS T (tn (xs ((4 * k) + 1))) len) qu n cs ln sn Sv (oC K o (vp_updL of 0 ((oI (wyO (dst T (tn (xs ((4 * k) + 1))) 1 (tn (xs ((4 * k) + 2)))))).toInt64)) :: rfW K r th pn sn ln pm sta ms hs T sv cs pf fa [])) := hD
    refine top_i (y := nI 0) (by rw [hE0]) ?_
    refine lv_istore (lv' := [(5, .int (nI 0)), (4, .int (nI (4 * k))), (0, .ref b9), (1, .ref (c 0)), (2, .ref (r 0)), (3, .ref o)]) hx hb dL_law_1363 hl (by decide) rfl (fun ls hl => ?_)
    refine lv_aload_n hx hb dL_law_1365 rfl (lv_at hl 4 rfl) ?_
    refine lv_aload_n hx hb dL_law_1366 rfl (lv_at hl 2 rfl) ?_
    refine lv_iload hx hb dL_law_1367 (lv_at hl 1 rfl) ?_
    refine lv_iconst (v := nI 1) hx hb dL_law_1369 (by decide) ?_
    refine nv_iadd (x := 4 * k) (y := 1) hx hb dL_law_1370 ?_
    refine va_sld hx hb hX hbl hbA hS (pk_in ((4 * k) + 1) L (by omega)) dL_law_1371 ?_
    rw [pk_cl ((4 * k) + 1)]
    refine lv_aload_n hx hb dL_law_1372 rfl (lv_at hl 2 rfl) ?_
    refine lv_iload hx hb dL_law_1373 (lv_at hl 1 rfl) ?_
    refine lv_iconst (v := nI 2) hx hb dL_law_1375 (by decide) ?_
    refine nv_iadd (x := 4 * k) (y := 2) hx hb dL_law_1376 ?_
    refine va_sld hx hb hX hbl hbA hS (pk_in ((4 * k) + 2) L (by omega)) dL_law_1377 ?_
    rw [pk_cl ((4 * k) + 2)]
    have hP := hP.perm lw_pm
    have hD := hD.perm lw_pm
    refine wr_V (rest := []) (ci := 4) (q0 := 0) ⟨hx, hb, hml, hown, hts⟩ hP hE hA hD hS (c_X4_cheapest l D K _ _ _ _ _ _ _ _ _ _ _ _ _ _ _ _ (xs ((4 * k) + 1)) (xs ((4 * k) + 2)) hI) (cwV 2 hts gL_law_X4_cheapest rfl rfl rfl hd_X4_cheapest ⟨Nat.le_of_ble_eq_true rfl, Nat.le_of_ble_eq_true rfl⟩) rfl rfl rfl rfl hl.1 rfl (Nat.le_of_ble_eq_true rfl) dL_law_1378 ⟨show _ ≤ 601024 by omega, show _ ≤ 7293034 by omega⟩ (fun H locs hP hD hS => ?_)
    rw [if_pos hE0] at hP hD
    have hP : va_P D vwCl (rfW K r (nI 0) pn sn ln pm sta ms hs T sv cs pf (dst T (tn (xs ((4 * k) + 1))) 1) (cW K a b t c g T (cheS T (tn (xs ((4 * k) + 1))) len) qu n cs ln sn Sv [oC K o (vp_updL of 0 ((oI (wyO (dst T (tn (xs ((4 * k) + 1))) 1 (tn (xs ((4 * k) + 2)))))).toInt64))])) H := hP
    have hD : va_D A (rfW K r (nI 0) pn sn ln pm sta ms hs T sv cs pf (dst T (tn (xs ((4 * k) + 1))) 1) (cW K a b t c g T (cheS T (tn (xs ((4 * k) + 1))) len) qu n cs ln sn Sv [oC K o (vp_updL of 0 ((oI (wyO (dst T (tn (xs ((4 * k) + 1))) 1 (tn (xs ((4 * k) + 2)))))).toInt64))])) := hD
    have hP := hP.perm lw_pm.symm
    have hD := hD.perm lw_pm.symm
    have hP : va_P D vwCl (cW K a b t c g T (cheS T (tn (xs ((4 * k) + 1))) len) qu n cs ln sn Sv (oC K o (vp_updL of 0 ((oI (wyO (dst T (tn (xs ((4 * k) + 1))) 1 (tn (xs ((4 * k) + 2)))))).toInt64)) :: rfW K r (nI 0) pn sn ln pm sta ms hs T sv cs pf (dst T (tn (xs ((4 * k) + 1))) 1) [])) H := hP
    have hD : va_D A (cW K a b t c g T (cheS T (tn (xs ((4 * k) + 1))) len) qu n cs ln sn Sv (oC K o (vp_updL of 0 ((oI (wyO (dst T (tn (xs ((4 * k) + 1))) 1 (tn (xs ((4 * k) + 2)))))).toInt64)) :: rfW K r (nI 0) pn sn ln pm sta ms hs T sv cs pf (dst T (tn (xs ((4 * k) + 1))) 1) [])) := hD
    refine top_i (y := oI (wyO (dst T (tn (xs ((4 * k) + 1))) 1 (tn (xs ((4 * k) + 2)))))) (if_pos hE0) ?_
    refine lv_istore (lv' := [(6, .int (oI (wyO (dst T (tn (xs ((4 * k) + 1))) 1 (tn (xs ((4 * k) + 2))))))), (5, .int (nI 0)), (4, .int (nI (4 * k))), (0, .ref b9), (1, .ref (c 0)), (2, .ref (r 0)), (3, .ref o)]) hx hb dL_law_1381 hl (by decide) rfl (fun ls hl => ?_)
    refine lv_aload_n hx hb dL_law_1383 rfl (lv_at hl 5 rfl) ?_
    have hP := hP.perm lw_pm
    have hD := hD.perm lw_pm
    refine wr_V (rest := []) (ci := 4) (q0 := 0) ⟨hx, hb, hml, hown, hts⟩ hP hE hA hD hS (c_X4_thrown l D K _ _ _ _ _ _ _ _ _ _ _ _ _ _ _ _ ) (cwV 0 hts gL_law_X4_thrown rfl rfl rfl hd_X4_thrown ⟨Nat.le_of_ble_eq_true rfl, Nat.le_of_ble_eq_true rfl⟩) rfl rfl rfl rfl hl.1 rfl (Nat.le_of_ble_eq_true rfl) dL_law_1384 ⟨show _ ≤ 601024 by omega, show _ ≤ 7293034 by omega⟩ (fun H locs hP hD hS => ?_)
    have hP : va_P D vwCl (rfW K r (nI 0) pn sn ln pm sta ms hs T sv cs pf (dst T (tn (xs ((4 * k) + 1))) 1) (cW K a b t c g T (cheS T (tn (xs ((4 * k) + 1))) len) qu n cs ln sn Sv [oC K o (vp_updL of 0 ((oI (wyO (dst T (tn (xs ((4 * k) + 1))) 1 (tn (xs ((4 * k) + 2)))))).toInt64))])) H := hP
    have hD : va_D A (rfW K r (nI 0) pn sn ln pm sta ms hs T sv cs pf (dst T (tn (xs ((4 * k) + 1))) 1) (cW K a b t c g T (cheS T (tn (xs ((4 * k) + 1))) len) qu n cs ln sn Sv [oC K o (vp_updL of 0 ((oI (wyO (dst T (tn (xs ((4 * k) + 1))) 1 (tn (xs ((4 * k) + 2)))))).toInt64))])) := hD
    have hP := hP.perm lw_pm.symm
    have hD := hD.perm lw_pm.symm
    have hP : va_P D vwCl (cW K a b t c g T (cheS T (tn (xs ((4 * k) + 1))) len) qu n cs ln sn Sv (oC K o (vp_updL of 0 ((oI (wyO (dst T (tn (xs ((4 * k) + 1))) 1 (tn (xs ((4 * k) + 2)))))).toInt64)) :: rfW K r (nI 0) pn sn ln pm sta ms hs T sv cs pf (dst T (tn (xs ((4 * k) + 1))) 1) [])) H := hP
    have hD : va_D A (cW K a b t c g T (cheS T (tn (xs ((4 * k) + 1))) len) qu n cs ln sn Sv (oC K o (vp_updL of 0 ((oI (wyO (dst T (tn (xs ((4 * k) + 1))) 1 (tn (xs ((4 * k) + 2)))))).toInt64)) :: rfW K r (nI 0) pn sn ln pm sta ms hs T sv cs pf (dst T (tn (xs ((4 * k) + 1))) 1) [])) := hD
    refine lv_iload hx hb dL_law_1387 (lv_at hl 1 rfl) ?_
    refine nv_icmp_eq (x := 0) (y := 0) (tgt := 1394) hx hb dL_law_1389 (by decide) (by decide) (by decide) (fun c_1 => ?_) (fun c_1 => ?_)
    · refine lv_iload hx hb dL_law_1394 (lv_at hl 1 rfl) ?_
      refine nv_if_ne (x := 0) (tgt := 1411) hx hb dL_law_1396 (by decide) (by decide) (fun c_2 => ?_) (fun c_2 => ?_)
      · exact absurd c_2 (by decide)
      have n_c_2 : ¬ 0 < 0 := by omega
      refine lv_aload_n hx hb dL_law_1399 rfl (lv_at hl 6 rfl) ?_
      refine lv_iconst (v := nI 0) hx hb dL_law_1400 (by decide) ?_
      refine nv_lald hx hb hE hP 91 rfl dL_law_1401 ?_
      refine top_l (y := (oI (wyO (dst T (tn (xs ((4 * k) + 1))) 1 (tn (xs ((4 * k) + 2)))))).toInt64) rfl ?_
      refine lv_iload hx hb dL_law_1402 (lv_at hl 0 rfl) ?_
      refine lv_i2l (v := (oI (wyO (dst T (tn (xs ((4 * k) + 1))) 1 (tn (xs ((4 * k) + 2)))))).toInt64) hx hb dL_law_1404 rfl ?_
      refine W.lcmp hx hb dL_law_1405 ?_
      refine top_i (y := nI 0) (lcmp_rf _) ?_
      refine nv_if_eq (x := 0) (tgt := 1411) hx hb dL_law_1406 (by decide) (by decide) (fun c_3 => ?_) (fun c_3 => ?_)
      · have n_c_3 : ¬ 0 < 0 := by omega
        refine lv_goto (tgt := 1550) hx hb dL_law_1411 (by decide) ?_
        refine W.widen (k := cells + 1) (n := slots + 6) (by omega) (by omega) ?_
        exact kk _ _ _ _ _ _ _ _ _ _ _ _ _ _ _ _ _ _ _ (hLI0) H locs ls hP hD hS (lv_sub hl [2, 3, 4, 5, 6] rfl)
      exact absurd c_3 (by decide)
    exact absurd c_1 (by decide)
  · refine lx_S (rest := []) ⟨hx, hb, hml, hown, hts⟩ hP hE hA hD hS hXw hZ hxn (c_L_cheapest l D K dp fs hst _ _ _ _ _ _ _ _ _ _ _ _ _ _ (xs ((4 * k) + 1)) (xs ((4 * k) + 2)) hI _ _ _) (vx_cwSW 4 hts gL_law_L_cheapest rfl rfl rfl hn_L_cheapest ⟨Nat.le_of_ble_eq_true rfl, Nat.le_of_ble_eq_true rfl⟩) rfl hl.1 rfl (Nat.le_of_ble_eq_true rfl) dL_law_1360 ⟨show _ ≤ 601024 by omega, show _ ≤ 7293034 by omega⟩ (fun H locs hP hD hS => ?_)
    rw [if_neg hE0] at hP hD
    have hP : va_P D vwCl (cW K a b t c g T len qu n cs ln sn Sv (oC K o of :: rfW K r th pn sn ln pm sta ms hs T sv cs pf fa [])) H := hP
    have hD : va_D A (cW K a b t c g T len qu n cs ln sn Sv (oC K o of :: rfW K r th pn sn ln pm sta ms hs T sv cs pf fa [])) := hD
    refine top_i (y := nI (awE (xs ((4 * k) + 1)) (xs ((4 * k) + 2)))) (rfl) ?_
    refine lv_istore (lv' := [(5, .int (nI (awE (xs ((4 * k) + 1)) (xs ((4 * k) + 2))))), (4, .int (nI (4 * k))), (0, .ref b9), (1, .ref (c 0)), (2, .ref (r 0)), (3, .ref o)]) hx hb dL_law_1363 hl (by decide) rfl (fun ls hl => ?_)
    refine lv_aload_n hx hb dL_law_1365 rfl (lv_at hl 4 rfl) ?_
    refine lv_aload_n hx hb dL_law_1366 rfl (lv_at hl 2 rfl) ?_
    refine lv_iload hx hb dL_law_1367 (lv_at hl 1 rfl) ?_
    refine lv_iconst (v := nI 1) hx hb dL_law_1369 (by decide) ?_
    refine nv_iadd (x := 4 * k) (y := 1) hx hb dL_law_1370 ?_
    refine va_sld hx hb hX hbl hbA hS (pk_in ((4 * k) + 1) L (by omega)) dL_law_1371 ?_
    rw [pk_cl ((4 * k) + 1)]
    refine lv_aload_n hx hb dL_law_1372 rfl (lv_at hl 2 rfl) ?_
    refine lv_iload hx hb dL_law_1373 (lv_at hl 1 rfl) ?_
    refine lv_iconst (v := nI 2) hx hb dL_law_1375 (by decide) ?_
    refine nv_iadd (x := 4 * k) (y := 2) hx hb dL_law_1376 ?_
    refine va_sld hx hb hX hbl hbA hS (pk_in ((4 * k) + 2) L (by omega)) dL_law_1377 ?_
    rw [pk_cl ((4 * k) + 2)]
    have hP := hP.perm lw_pm
    have hD := hD.perm lw_pm
    refine wr_V (rest := []) (ci := 4) (q0 := 0) ⟨hx, hb, hml, hown, hts⟩ hP hE hA hD hS (c_X4_cheapest l D K _ _ _ _ _ _ _ _ _ _ _ _ _ _ _ _ (xs ((4 * k) + 1)) (xs ((4 * k) + 2)) hI) (cwV 2 hts gL_law_X4_cheapest rfl rfl rfl hd_X4_cheapest ⟨Nat.le_of_ble_eq_true rfl, Nat.le_of_ble_eq_true rfl⟩) rfl rfl rfl rfl hl.1 rfl (Nat.le_of_ble_eq_true rfl) dL_law_1378 ⟨show _ ≤ 601024 by omega, show _ ≤ 7293034 by omega⟩ (fun H locs hP hD hS => ?_)
    rw [if_neg hE0] at hP hD
    have hP : va_P D vwCl (rfW K r (nI (awE (xs ((4 * k) + 1)) (xs ((4 * k) + 2)))) pn sn ln pm sta ms hs T sv cs pf fa (cW K a b t c g T len qu n cs ln sn Sv [oC K o of])) H := hP
    have hD : va_D A (rfW K r (nI (awE (xs ((4 * k) + 1)) (xs ((4 * k) + 2)))) pn sn ln pm sta ms hs T sv cs pf fa (cW K a b t c g T len qu n cs ln sn Sv [oC K o of])) := hD
    have hP := hP.perm lw_pm.symm
    have hD := hD.perm lw_pm.symm
    have hP : va_P D vwCl (cW K a b t c g T len qu n cs ln sn Sv (oC K o of :: rfW K r (nI (awE (xs ((4 * k) + 1)) (xs ((4 * k) + 2)))) pn sn ln pm sta ms hs T sv cs pf fa [])) H := hP
    have hD : va_D A (cW K a b t c g T len qu n cs ln sn Sv (oC K o of :: rfW K r (nI (awE (xs ((4 * k) + 1)) (xs ((4 * k) + 2)))) pn sn ln pm sta ms hs T sv cs pf fa [])) := hD
    refine top_i (y := 0) (if_neg hE0) ?_
    refine lv_istore (lv' := [(6, .int 0), (5, .int (nI (awE (xs ((4 * k) + 1)) (xs ((4 * k) + 2))))), (4, .int (nI (4 * k))), (0, .ref b9), (1, .ref (c 0)), (2, .ref (r 0)), (3, .ref o)]) hx hb dL_law_1381 hl (by decide) rfl (fun ls hl => ?_)
    refine lv_aload_n hx hb dL_law_1383 rfl (lv_at hl 5 rfl) ?_
    have hP := hP.perm lw_pm
    have hD := hD.perm lw_pm
    refine wr_V (rest := []) (ci := 4) (q0 := 0) ⟨hx, hb, hml, hown, hts⟩ hP hE hA hD hS (c_X4_thrown l D K _ _ _ _ _ _ _ _ _ _ _ _ _ _ _ _ ) (cwV 0 hts gL_law_X4_thrown rfl rfl rfl hd_X4_thrown ⟨Nat.le_of_ble_eq_true rfl, Nat.le_of_ble_eq_true rfl⟩) rfl rfl rfl rfl hl.1 rfl (Nat.le_of_ble_eq_true rfl) dL_law_1384 ⟨show _ ≤ 601024 by omega, show _ ≤ 7293034 by omega⟩ (fun H locs hP hD hS => ?_)
    have hP : va_P D vwCl (rfW K r (nI (awE (xs ((4 * k) + 1)) (xs ((4 * k) + 2)))) pn sn ln pm sta ms hs T sv cs pf fa (cW K a b t c g T len qu n cs ln sn Sv [oC K o of])) H := hP
    have hD : va_D A (rfW K r (nI (awE (xs ((4 * k) + 1)) (xs ((4 * k) + 2)))) pn sn ln pm sta ms hs T sv cs pf fa (cW K a b t c g T len qu n cs ln sn Sv [oC K o of])) := hD
    have hP := hP.perm lw_pm.symm
    have hD := hD.perm lw_pm.symm
    have hP : va_P D vwCl (cW K a b t c g T len qu n cs ln sn Sv (oC K o of :: rfW K r (nI (awE (xs ((4 * k) + 1)) (xs ((4 * k) + 2)))) pn sn ln pm sta ms hs T sv cs pf fa [])) H := hP
    have hD : va_D A (cW K a b t c g T len qu n cs ln sn Sv (oC K o of :: rfW K r (nI (awE (xs ((4 * k) + 1)) (xs ((4 * k) + 2)))) pn sn ln pm sta ms hs T sv cs pf fa [])) := hD
    refine lv_iload hx hb dL_law_1387 (lv_at hl 1 rfl) ?_
    refine lv_icmp_eq (x := nI (awE (xs ((4 * k) + 1)) (xs ((4 * k) + 2)))) (y := nI (awE (xs ((4 * k) + 1)) (xs ((4 * k) + 2)))) (tgt := 1394) hx hb dL_law_1389 (by decide) (fun c_4 => ?_) (fun c_4 => ?_)
    · refine lv_iload hx hb dL_law_1394 (lv_at hl 1 rfl) ?_
      refine nv_if_ne (x := awE (xs ((4 * k) + 1)) (xs ((4 * k) + 2))) (tgt := 1411) hx hb dL_law_1396 (by decide) (by omega) (fun c_5 => ?_) (fun c_5 => ?_)
      · have n_c_5 : ¬ awE (xs ((4 * k) + 1)) (xs ((4 * k) + 2)) = 0 := by omega
        refine lv_goto (tgt := 1550) hx hb dL_law_1411 (by decide) ?_
        refine W.widen (k := cells + 1) (n := slots + 6) (by omega) (by omega) ?_
        exact kk _ _ _ _ _ _ _ _ _ _ _ _ _ _ _ _ _ _ _ (hLI0) H locs ls hP hD hS (lv_sub hl [2, 3, 4, 5, 6] rfl)
      exact absurd c_5 hE0
    exact absurd rfl c_4
set_option maxHeartbeats 4000000 in
set_option maxRecDepth 100000 in
theorem lc_best {pr : Program} {l : Launch} {en : Env} {st : State} {md : MethodId} {ar : Array Value} {bl : List Frame} {mt : Method} {co : Code} {D : va_G} {K : Nat → ClassId} {A : Nat → Prop} {Q : State → Prop} {b9 : Nat} {a b t c r : Nat → Nat} {o : Nat} {dp fs L : Nat} {xs : Nat → Int32} (hx : pr.tables.exec = Jvm.exec) (hb : co.code = cL_law) (hml : co.maxLocals = 9) (hts : ∀ w ∈ wsL_law, w.before ar st = true) (hown : st.vm.findClass RL = some md.cls) (hst : l.stackTraces = false) (hE : ev D K st) (hXw : xw st) (hxn : xn st) (hZ : xst dp fs A st st.heap) (hA : ∀ q : Nat, st.heap.size ≤ q → A q) (hX : va_X b9 L xs st st.heap) (hbl : b9 < st.heap.size) (hbA : ¬ A b9) (k : Nat) (hk : 4 * k + 4 ≤ L) (hL : L ≤ 2048) (cells slots : Nat) (hc1 : cells + 1 ≤ 601024) (hc2 : slots + 6 ≤ 7293034) (kk : Nx pr l en st md ar bl mt co D K A Q b9 a b t c r o k (cells + 1) (slots + 6) 1550) : Nx pr l en st md ar bl mt co D K A Q b9 a b t c r o k cells slots 1414 := by
  intro T len qu n cs ln sn Sv g th pn pm sta ms hs sv pf fa of hLI H locs ls hP hD hS hl
  have hLI0 := hLI
  obtain ⟨hI, hK, hCB, hsn, hSV, hSI, hSH⟩ := hLI
  refine lv_aload_n hx hb dL_law_1414 rfl (lv_at hl 2 rfl) ?_
  refine lv_aload_n hx hb dL_law_1415 rfl (lv_at hl 1 rfl) ?_
  refine lv_iload hx hb dL_law_1416 (lv_at hl 0 rfl) ?_
  refine lv_iconst (v := nI 1) hx hb dL_law_1418 (by decide) ?_
  refine nv_iadd (x := 4 * k) (y := 1) hx hb dL_law_1419 ?_
  refine va_sld hx hb hX hbl hbA hS (pk_in ((4 * k) + 1) L (by omega)) dL_law_1420 ?_
  rw [pk_cl ((4 * k) + 1)]
  refine lv_aload_n hx hb dL_law_1421 rfl (lv_at hl 1 rfl) ?_
  refine lv_iload hx hb dL_law_1422 (lv_at hl 0 rfl) ?_
  refine lv_iconst (v := nI 2) hx hb dL_law_1424 (by decide) ?_
  refine nv_iadd (x := 4 * k) (y := 2) hx hb dL_law_1425 ?_
  refine va_sld hx hb hX hbl hbA hS (pk_in ((4 * k) + 2) L (by omega)) dL_law_1426 ?_
  rw [pk_cl ((4 * k) + 2)]
  refine lv_aload_n hx hb dL_law_1427 rfl (lv_at hl 4 rfl) ?_
  have hEl : q2 0 3 1 6 (xs ((4 * k) + 1)) (xs ((4 * k) + 2)) ≤ 2 := by unfold q2; (repeat' split) <;> omega
  by_cases hE0 : q2 0 3 1 6 (xs ((4 * k) + 1)) (xs ((4 * k) + 2)) = 0
  · refine lx_S (rest := []) ⟨hx, hb, hml, hown, hts⟩ hP hE hA hD hS hXw hZ hxn (c_L_best l D K dp fs hst _ _ _ _ _ _ _ _ _ _ _ _ _ _ (xs ((4 * k) + 1)) (xs ((4 * k) + 2)) hI hK _ _ _) (vx_cwSW 4 hts gL_law_L_best rfl rfl rfl hn_L_best ⟨Nat.le_of_ble_eq_true rfl, Nat.le_of_ble_eq_true rfl⟩) rfl hl.1 rfl (Nat.le_of_ble_eq_true rfl) dL_law_1428 ⟨show _ ≤ 601024 by omega, show _ ≤ 7293034 by omega⟩ (fun H locs hP hD hS => ?_)
    rw [if_pos hE0] at hP hD
    have hP : va_P D vwCl (cW K a b t c g T ((mfS T (tn (xs ((4 * k) + 1))) qu).1) ((mfS T (tn (xs ((4 * k) + 1))) qu).2.1) ((mfS T (tn (xs ((4 * k) + 1))) qu).2.2) cs ln sn Sv (oC K o (vp_updL of 0 ((oI (bdT T (tn (xs ((4 * k) + 1))) (tn (xs ((4 * k) + 2))))).toInt64)) :: rfW K r th pn sn ln pm sta ms hs T sv cs pf fa [])) H := hP
    have hD : va_D A (cW K a b t c g T ((mfS T (tn (xs ((4 * k) + 1))) qu).1) ((mfS T (tn (xs ((4 * k) + 1))) qu).2.1) ((mfS T (tn (xs ((4 * k) + 1))) qu).2.2) cs ln sn Sv (oC K o (vp_updL of 0 ((oI (bdT T (tn (xs ((4 * k) + 1))) (tn (xs ((4 * k) + 2))))).toInt64)) :: rfW K r th pn sn ln pm sta ms hs T sv cs pf fa [])) := hD
    refine top_i (y := nI 0) (by rw [hE0]) ?_
    refine lv_istore (lv' := [(5, .int (nI 0)), (4, .int (nI (4 * k))), (0, .ref b9), (1, .ref (c 0)), (2, .ref (r 0)), (3, .ref o)]) hx hb dL_law_1431 hl (by decide) rfl (fun ls hl => ?_)
    refine lv_aload_n hx hb dL_law_1433 rfl (lv_at hl 4 rfl) ?_
    refine lv_aload_n hx hb dL_law_1434 rfl (lv_at hl 2 rfl) ?_
    refine lv_iload hx hb dL_law_1435 (lv_at hl 1 rfl) ?_
    refine lv_iconst (v := nI 1) hx hb dL_law_1437 (by decide) ?_
    refine nv_iadd (x := 4 * k) (y := 1) hx hb dL_law_1438 ?_
    refine va_sld hx hb hX hbl hbA hS (pk_in ((4 * k) + 1) L (by omega)) dL_law_1439 ?_
    rw [pk_cl ((4 * k) + 1)]
    refine lv_aload_n hx hb dL_law_1440 rfl (lv_at hl 2 rfl) ?_
    refine lv_iload hx hb dL_law_1441 (lv_at hl 1 rfl) ?_
    refine lv_iconst (v := nI 2) hx hb dL_law_1443 (by decide) ?_
    refine nv_iadd (x := 4 * k) (y := 2) hx hb dL_law_1444 ?_
    refine va_sld hx hb hX hbl hbA hS (pk_in ((4 * k) + 2) L (by omega)) dL_law_1445 ?_
    rw [pk_cl ((4 * k) + 2)]
    have hP := hP.perm lw_pm
    have hD := hD.perm lw_pm
    refine wr_V (rest := []) (ci := 4) (q0 := 0) ⟨hx, hb, hml, hown, hts⟩ hP hE hA hD hS (c_X4_best l D K _ _ _ _ _ _ _ _ _ _ _ _ _ _ _ _ (xs ((4 * k) + 1)) (xs ((4 * k) + 2)) hI) (cwV 2 hts gL_law_X4_best rfl rfl rfl hd_X4_best ⟨Nat.le_of_ble_eq_true rfl, Nat.le_of_ble_eq_true rfl⟩) rfl rfl rfl rfl hl.1 rfl (Nat.le_of_ble_eq_true rfl) dL_law_1446 ⟨show _ ≤ 601024 by omega, show _ ≤ 7293034 by omega⟩ (fun H locs hP hD hS => ?_)
    rw [if_pos hE0] at hP hD
    have hP : va_P D vwCl (rfW K r (nI 0) pn sn ln pm sta (misM T (tn (xs ((4 * k) + 1))) 12) hs T sv cs pf ((bq T (tn (xs ((4 * k) + 1))) (tn (xs ((4 * k) + 2))) fa).2.2.2) (cW K a b t c g T ((mfS T (tn (xs ((4 * k) + 1))) qu).1) ((mfS T (tn (xs ((4 * k) + 1))) qu).2.1) ((mfS T (tn (xs ((4 * k) + 1))) qu).2.2) cs ln sn Sv [oC K o (vp_updL of 0 ((oI (bdT T (tn (xs ((4 * k) + 1))) (tn (xs ((4 * k) + 2))))).toInt64))])) H := hP
    have hD : va_D A (rfW K r (nI 0) pn sn ln pm sta (misM T (tn (xs ((4 * k) + 1))) 12) hs T sv cs pf ((bq T (tn (xs ((4 * k) + 1))) (tn (xs ((4 * k) + 2))) fa).2.2.2) (cW K a b t c g T ((mfS T (tn (xs ((4 * k) + 1))) qu).1) ((mfS T (tn (xs ((4 * k) + 1))) qu).2.1) ((mfS T (tn (xs ((4 * k) + 1))) qu).2.2) cs ln sn Sv [oC K o (vp_updL of 0 ((oI (bdT T (tn (xs ((4 * k) + 1))) (tn (xs ((4 * k) + 2))))).toInt64))])) := hD
    have hP := hP.perm lw_pm.symm
    have hD := hD.perm lw_pm.symm
    have hP : va_P D vwCl (cW K a b t c g T ((mfS T (tn (xs ((4 * k) + 1))) qu).1) ((mfS T (tn (xs ((4 * k) + 1))) qu).2.1) ((mfS T (tn (xs ((4 * k) + 1))) qu).2.2) cs ln sn Sv (oC K o (vp_updL of 0 ((oI (bdT T (tn (xs ((4 * k) + 1))) (tn (xs ((4 * k) + 2))))).toInt64)) :: rfW K r (nI 0) pn sn ln pm sta (misM T (tn (xs ((4 * k) + 1))) 12) hs T sv cs pf ((bq T (tn (xs ((4 * k) + 1))) (tn (xs ((4 * k) + 2))) fa).2.2.2) [])) H := hP
    have hD : va_D A (cW K a b t c g T ((mfS T (tn (xs ((4 * k) + 1))) qu).1) ((mfS T (tn (xs ((4 * k) + 1))) qu).2.1) ((mfS T (tn (xs ((4 * k) + 1))) qu).2.2) cs ln sn Sv (oC K o (vp_updL of 0 ((oI (bdT T (tn (xs ((4 * k) + 1))) (tn (xs ((4 * k) + 2))))).toInt64)) :: rfW K r (nI 0) pn sn ln pm sta (misM T (tn (xs ((4 * k) + 1))) 12) hs T sv cs pf ((bq T (tn (xs ((4 * k) + 1))) (tn (xs ((4 * k) + 2))) fa).2.2.2) [])) := hD
    refine top_i (y := oI (bdT T (tn (xs ((4 * k) + 1))) (tn (xs ((4 * k) + 2))))) ((if_pos hE0).trans (bq_bd _ _ _ _)) ?_
    refine lv_istore (lv' := [(6, .int (oI (bdT T (tn (xs ((4 * k) + 1))) (tn (xs ((4 * k) + 2)))))), (5, .int (nI 0)), (4, .int (nI (4 * k))), (0, .ref b9), (1, .ref (c 0)), (2, .ref (r 0)), (3, .ref o)]) hx hb dL_law_1449 hl (by decide) rfl (fun ls hl => ?_)
    refine lv_aload_n hx hb dL_law_1451 rfl (lv_at hl 5 rfl) ?_
    have hP := hP.perm lw_pm
    have hD := hD.perm lw_pm
    refine wr_V (rest := []) (ci := 4) (q0 := 0) ⟨hx, hb, hml, hown, hts⟩ hP hE hA hD hS (c_X4_thrown l D K _ _ _ _ _ _ _ _ _ _ _ _ _ _ _ _ ) (cwV 0 hts gL_law_X4_thrown rfl rfl rfl hd_X4_thrown ⟨Nat.le_of_ble_eq_true rfl, Nat.le_of_ble_eq_true rfl⟩) rfl rfl rfl rfl hl.1 rfl (Nat.le_of_ble_eq_true rfl) dL_law_1452 ⟨show _ ≤ 601024 by omega, show _ ≤ 7293034 by omega⟩ (fun H locs hP hD hS => ?_)
    have hP : va_P D vwCl (rfW K r (nI 0) pn sn ln pm sta (misM T (tn (xs ((4 * k) + 1))) 12) hs T sv cs pf ((bq T (tn (xs ((4 * k) + 1))) (tn (xs ((4 * k) + 2))) fa).2.2.2) (cW K a b t c g T ((mfS T (tn (xs ((4 * k) + 1))) qu).1) ((mfS T (tn (xs ((4 * k) + 1))) qu).2.1) ((mfS T (tn (xs ((4 * k) + 1))) qu).2.2) cs ln sn Sv [oC K o (vp_updL of 0 ((oI (bdT T (tn (xs ((4 * k) + 1))) (tn (xs ((4 * k) + 2))))).toInt64))])) H := hP
    have hD : va_D A (rfW K r (nI 0) pn sn ln pm sta (misM T (tn (xs ((4 * k) + 1))) 12) hs T sv cs pf ((bq T (tn (xs ((4 * k) + 1))) (tn (xs ((4 * k) + 2))) fa).2.2.2) (cW K a b t c g T ((mfS T (tn (xs ((4 * k) + 1))) qu).1) ((mfS T (tn (xs ((4 * k) + 1))) qu).2.1) ((mfS T (tn (xs ((4 * k) + 1))) qu).2.2) cs ln sn Sv [oC K o (vp_updL of 0 ((oI (bdT T (tn (xs ((4 * k) + 1))) (tn (xs ((4 * k) + 2))))).toInt64))])) := hD
    have hP := hP.perm lw_pm.symm
    have hD := hD.perm lw_pm.symm
    have hP : va_P D vwCl (cW K a b t c g T ((mfS T (tn (xs ((4 * k) + 1))) qu).1) ((mfS T (tn (xs ((4 * k) + 1))) qu).2.1) ((mfS T (tn (xs ((4 * k) + 1))) qu).2.2) cs ln sn Sv (oC K o (vp_updL of 0 ((oI (bdT T (tn (xs ((4 * k) + 1))) (tn (xs ((4 * k) + 2))))).toInt64)) :: rfW K r (nI 0) pn sn ln pm sta (misM T (tn (xs ((4 * k) + 1))) 12) hs T sv cs pf ((bq T (tn (xs ((4 * k) + 1))) (tn (xs ((4 * k) + 2))) fa).2.2.2) [])) H := hP
    have hD : va_D A (cW K a b t c g T ((mfS T (tn (xs ((4 * k) + 1))) qu).1) ((mfS T (tn (xs ((4 * k) + 1))) qu).2.1) ((mfS T (tn (xs ((4 * k) + 1))) qu).2.2) cs ln sn Sv (oC K o (vp_updL of 0 ((oI (bdT T (tn (xs ((4 * k) + 1))) (tn (xs ((4 * k) + 2))))).toInt64)) :: rfW K r (nI 0) pn sn ln pm sta (misM T (tn (xs ((4 * k) + 1))) 12) hs T sv cs pf ((bq T (tn (xs ((4 * k) + 1))) (tn (xs ((4 * k) + 2))) fa).2.2.2) [])) := hD
    refine lv_iload hx hb dL_law_1455 (lv_at hl 1 rfl) ?_
    refine nv_icmp_eq (x := 0) (y := 0) (tgt := 1462) hx hb dL_law_1457 (by decide) (by decide) (by decide) (fun c_1 => ?_) (fun c_1 => ?_)
    · refine lv_iload hx hb dL_law_1462 (lv_at hl 1 rfl) ?_
      refine nv_if_ne (x := 0) (tgt := 1479) hx hb dL_law_1464 (by decide) (by decide) (fun c_2 => ?_) (fun c_2 => ?_)
      · exact absurd c_2 (by decide)
      have n_c_2 : ¬ 0 < 0 := by omega
      refine lv_aload_n hx hb dL_law_1467 rfl (lv_at hl 6 rfl) ?_
      refine lv_iconst (v := nI 0) hx hb dL_law_1468 (by decide) ?_
      refine nv_lald hx hb hE hP 91 rfl dL_law_1469 ?_
      refine top_l (y := (oI (bdT T (tn (xs ((4 * k) + 1))) (tn (xs ((4 * k) + 2))))).toInt64) rfl ?_
      refine lv_iload hx hb dL_law_1470 (lv_at hl 0 rfl) ?_
      refine lv_i2l (v := (oI (bdT T (tn (xs ((4 * k) + 1))) (tn (xs ((4 * k) + 2))))).toInt64) hx hb dL_law_1472 rfl ?_
      refine W.lcmp hx hb dL_law_1473 ?_
      refine top_i (y := nI 0) (lcmp_rf _) ?_
      refine nv_if_eq (x := 0) (tgt := 1479) hx hb dL_law_1474 (by decide) (by decide) (fun c_3 => ?_) (fun c_3 => ?_)
      · have n_c_3 : ¬ 0 < 0 := by omega
        refine lv_goto (tgt := 1550) hx hb dL_law_1479 (by decide) ?_
        refine W.widen (k := cells + 1) (n := slots + 6) (by omega) (by omega) ?_
        exact kk _ _ _ _ _ _ _ _ _ _ _ _ _ _ _ _ _ _ _ (hLI0) H locs ls hP hD hS (lv_sub hl [2, 3, 4, 5, 6] rfl)
      exact absurd c_3 (by decide)
    exact absurd c_1 (by decide)
  · refine lx_S (rest := []) ⟨hx, hb, hml, hown, hts⟩ hP hE hA hD hS hXw hZ hxn (c_L_best l D K dp fs hst _ _ _ _ _ _ _ _ _ _ _ _ _ _ (xs ((4 * k) + 1)) (xs ((4 * k) + 2)) hI hK _ _ _) (vx_cwSW 4 hts gL_law_L_best rfl rfl rfl hn_L_best ⟨Nat.le_of_ble_eq_true rfl, Nat.le_of_ble_eq_true rfl⟩) rfl hl.1 rfl (Nat.le_of_ble_eq_true rfl) dL_law_1428 ⟨show _ ≤ 601024 by omega, show _ ≤ 7293034 by omega⟩ (fun H locs hP hD hS => ?_)
    rw [if_neg hE0] at hP hD
    have hP : va_P D vwCl (cW K a b t c g T len qu n cs ln sn Sv (oC K o of :: rfW K r th pn sn ln pm sta ms hs T sv cs pf fa [])) H := hP
    have hD : va_D A (cW K a b t c g T len qu n cs ln sn Sv (oC K o of :: rfW K r th pn sn ln pm sta ms hs T sv cs pf fa [])) := hD
    refine top_i (y := nI (q2 0 3 1 6 (xs ((4 * k) + 1)) (xs ((4 * k) + 2)))) (rfl) ?_
    refine lv_istore (lv' := [(5, .int (nI (q2 0 3 1 6 (xs ((4 * k) + 1)) (xs ((4 * k) + 2))))), (4, .int (nI (4 * k))), (0, .ref b9), (1, .ref (c 0)), (2, .ref (r 0)), (3, .ref o)]) hx hb dL_law_1431 hl (by decide) rfl (fun ls hl => ?_)
    refine lv_aload_n hx hb dL_law_1433 rfl (lv_at hl 4 rfl) ?_
    refine lv_aload_n hx hb dL_law_1434 rfl (lv_at hl 2 rfl) ?_
    refine lv_iload hx hb dL_law_1435 (lv_at hl 1 rfl) ?_
    refine lv_iconst (v := nI 1) hx hb dL_law_1437 (by decide) ?_
    refine nv_iadd (x := 4 * k) (y := 1) hx hb dL_law_1438 ?_
    refine va_sld hx hb hX hbl hbA hS (pk_in ((4 * k) + 1) L (by omega)) dL_law_1439 ?_
    rw [pk_cl ((4 * k) + 1)]
    refine lv_aload_n hx hb dL_law_1440 rfl (lv_at hl 2 rfl) ?_
    refine lv_iload hx hb dL_law_1441 (lv_at hl 1 rfl) ?_
    refine lv_iconst (v := nI 2) hx hb dL_law_1443 (by decide) ?_
    refine nv_iadd (x := 4 * k) (y := 2) hx hb dL_law_1444 ?_
    refine va_sld hx hb hX hbl hbA hS (pk_in ((4 * k) + 2) L (by omega)) dL_law_1445 ?_
    rw [pk_cl ((4 * k) + 2)]
    have hP := hP.perm lw_pm
    have hD := hD.perm lw_pm
    refine wr_V (rest := []) (ci := 4) (q0 := 0) ⟨hx, hb, hml, hown, hts⟩ hP hE hA hD hS (c_X4_best l D K _ _ _ _ _ _ _ _ _ _ _ _ _ _ _ _ (xs ((4 * k) + 1)) (xs ((4 * k) + 2)) hI) (cwV 2 hts gL_law_X4_best rfl rfl rfl hd_X4_best ⟨Nat.le_of_ble_eq_true rfl, Nat.le_of_ble_eq_true rfl⟩) rfl rfl rfl rfl hl.1 rfl (Nat.le_of_ble_eq_true rfl) dL_law_1446 ⟨show _ ≤ 601024 by omega, show _ ≤ 7293034 by omega⟩ (fun H locs hP hD hS => ?_)
    rw [if_neg hE0] at hP hD
    have hP : va_P D vwCl (rfW K r (nI (q2 0 3 1 6 (xs ((4 * k) + 1)) (xs ((4 * k) + 2)))) pn sn ln pm sta ms hs T sv cs pf fa (cW K a b t c g T len qu n cs ln sn Sv [oC K o of])) H := hP
    have hD : va_D A (rfW K r (nI (q2 0 3 1 6 (xs ((4 * k) + 1)) (xs ((4 * k) + 2)))) pn sn ln pm sta ms hs T sv cs pf fa (cW K a b t c g T len qu n cs ln sn Sv [oC K o of])) := hD
    have hP := hP.perm lw_pm.symm
    have hD := hD.perm lw_pm.symm
    have hP : va_P D vwCl (cW K a b t c g T len qu n cs ln sn Sv (oC K o of :: rfW K r (nI (q2 0 3 1 6 (xs ((4 * k) + 1)) (xs ((4 * k) + 2)))) pn sn ln pm sta ms hs T sv cs pf fa [])) H := hP
    have hD : va_D A (cW K a b t c g T len qu n cs ln sn Sv (oC K o of :: rfW K r (nI (q2 0 3 1 6 (xs ((4 * k) + 1)) (xs ((4 * k) + 2)))) pn sn ln pm sta ms hs T sv cs pf fa [])) := hD
    refine top_i (y := 0) (if_neg hE0) ?_
    refine lv_istore (lv' := [(6, .int 0), (5, .int (nI (q2 0 3 1 6 (xs ((4 * k) + 1)) (xs ((4 * k) + 2))))), (4, .int (nI (4 * k))), (0, .ref b9), (1, .ref (c 0)), (2, .ref (r 0)), (3, .ref o)]) hx hb dL_law_1449 hl (by decide) rfl (fun ls hl => ?_)
    refine lv_aload_n hx hb dL_law_1451 rfl (lv_at hl 5 rfl) ?_
    have hP := hP.perm lw_pm
    have hD := hD.perm lw_pm
    refine wr_V (rest := []) (ci := 4) (q0 := 0) ⟨hx, hb, hml, hown, hts⟩ hP hE hA hD hS (c_X4_thrown l D K _ _ _ _ _ _ _ _ _ _ _ _ _ _ _ _ ) (cwV 0 hts gL_law_X4_thrown rfl rfl rfl hd_X4_thrown ⟨Nat.le_of_ble_eq_true rfl, Nat.le_of_ble_eq_true rfl⟩) rfl rfl rfl rfl hl.1 rfl (Nat.le_of_ble_eq_true rfl) dL_law_1452 ⟨show _ ≤ 601024 by omega, show _ ≤ 7293034 by omega⟩ (fun H locs hP hD hS => ?_)
    have hP : va_P D vwCl (rfW K r (nI (q2 0 3 1 6 (xs ((4 * k) + 1)) (xs ((4 * k) + 2)))) pn sn ln pm sta ms hs T sv cs pf fa (cW K a b t c g T len qu n cs ln sn Sv [oC K o of])) H := hP
    have hD : va_D A (rfW K r (nI (q2 0 3 1 6 (xs ((4 * k) + 1)) (xs ((4 * k) + 2)))) pn sn ln pm sta ms hs T sv cs pf fa (cW K a b t c g T len qu n cs ln sn Sv [oC K o of])) := hD
    have hP := hP.perm lw_pm.symm
    have hD := hD.perm lw_pm.symm
    have hP : va_P D vwCl (cW K a b t c g T len qu n cs ln sn Sv (oC K o of :: rfW K r (nI (q2 0 3 1 6 (xs ((4 * k) + 1)) (xs ((4 * k) + 2)))) pn sn ln pm sta ms hs T sv cs pf fa [])) H := hP
    have hD : va_D A (cW K a b t c g T len qu n cs ln sn Sv (oC K o of :: rfW K r (nI (q2 0 3 1 6 (xs ((4 * k) + 1)) (xs ((4 * k) + 2)))) pn sn ln pm sta ms hs T sv cs pf fa [])) := hD
    refine lv_iload hx hb dL_law_1455 (lv_at hl 1 rfl) ?_
    refine lv_icmp_eq (x := nI (q2 0 3 1 6 (xs ((4 * k) + 1)) (xs ((4 * k) + 2)))) (y := nI (q2 0 3 1 6 (xs ((4 * k) + 1)) (xs ((4 * k) + 2)))) (tgt := 1462) hx hb dL_law_1457 (by decide) (fun c_4 => ?_) (fun c_4 => ?_)
    · refine lv_iload hx hb dL_law_1462 (lv_at hl 1 rfl) ?_
      refine nv_if_ne (x := q2 0 3 1 6 (xs ((4 * k) + 1)) (xs ((4 * k) + 2))) (tgt := 1479) hx hb dL_law_1464 (by decide) (by omega) (fun c_5 => ?_) (fun c_5 => ?_)
      · have n_c_5 : ¬ q2 0 3 1 6 (xs ((4 * k) + 1)) (xs ((4 * k) + 2)) = 0 := by omega
        refine lv_goto (tgt := 1550) hx hb dL_law_1479 (by decide) ?_
        refine W.widen (k := cells + 1) (n := slots + 6) (by omega) (by omega) ?_
        exact kk _ _ _ _ _ _ _ _ _ _ _ _ _ _ _ _ _ _ _ (hLI0) H locs ls hP hD hS (lv_sub hl [2, 3, 4, 5, 6] rfl)
      exact absurd c_5 hE0
    exact absurd rfl c_4
set_option maxHeartbeats 4000000 in
set_option maxRecDepth 100000 in
theorem lc_ahead {pr : Program} {l : Launch} {en : Env} {st : State} {md : MethodId} {ar : Array Value} {bl : List Frame} {mt : Method} {co : Code} {D : va_G} {K : Nat → ClassId} {A : Nat → Prop} {Q : State → Prop} {b9 : Nat} {a b t c r : Nat → Nat} {o : Nat} {dp fs L : Nat} {xs : Nat → Int32} (hx : pr.tables.exec = Jvm.exec) (hb : co.code = cL_law) (hml : co.maxLocals = 9) (hts : ∀ w ∈ wsL_law, w.before ar st = true) (hown : st.vm.findClass RL = some md.cls) (hst : l.stackTraces = false) (hE : ev D K st) (hXw : xw st) (hxn : xn st) (hZ : xst dp fs A st st.heap) (hA : ∀ q : Nat, st.heap.size ≤ q → A q) (hX : va_X b9 L xs st st.heap) (hbl : b9 < st.heap.size) (hbA : ¬ A b9) (k : Nat) (hk : 4 * k + 4 ≤ L) (hL : L ≤ 2048) (cells slots : Nat) (hc1 : cells + 1 ≤ 601024) (hc2 : slots + 6 ≤ 7293034) (kk : Nx pr l en st md ar bl mt co D K A Q b9 a b t c r o k (cells + 1) (slots + 6) 1550) : Nx pr l en st md ar bl mt co D K A Q b9 a b t c r o k cells slots 1482 := by
  intro T len qu n cs ln sn Sv g th pn pm sta ms hs sv pf fa of hLI H locs ls hP hD hS hl
  have hLI0 := hLI
  obtain ⟨hI, hK, hCB, hsn, hSV, hSI, hSH⟩ := hLI
  refine lv_aload_n hx hb dL_law_1482 rfl (lv_at hl 2 rfl) ?_
  refine rd_V (rest := []) (ci := 3) (q0 := 17) ⟨hx, hb, hml, hown, hts⟩ hP hE (c_X3_ahead l D K _ _ _ _ _ _ _ _ _ _ _ _ _ _ hI) (cwV 0 hts gL_law_X3_ahead rfl rfl rfl hd_X3_ahead ⟨Nat.le_of_ble_eq_true rfl, Nat.le_of_ble_eq_true rfl⟩) rfl rfl rfl rfl hl.1 rfl (Nat.le_of_ble_eq_true rfl) dL_law_1483 ⟨show _ ≤ 601024 by omega, show _ ≤ 7293034 by omega⟩ ?_
  refine lv_aload_n hx hb dL_law_1486 rfl (lv_at hl 3 rfl) ?_
  have hP := hP.perm lw_pm
  have hD := hD.perm lw_pm
  refine wr_V (rest := [.int (nI (ldT T 4))]) (ci := 4) (q0 := 0) ⟨hx, hb, hml, hown, hts⟩ hP hE hA hD hS (c_X4_ahead l D K _ _ _ _ _ _ _ _ _ _ _ _ _ _ _ _ hI) (cwV 0 hts gL_law_X4_ahead rfl rfl rfl hd_X4_ahead ⟨Nat.le_of_ble_eq_true rfl, Nat.le_of_ble_eq_true rfl⟩) rfl rfl rfl rfl hl.1 rfl (Nat.le_of_ble_eq_true rfl) dL_law_1487 ⟨show _ ≤ 601024 by omega, show _ ≤ 7293034 by omega⟩ (fun H locs hP hD hS => ?_)
  have hP : va_P D vwCl (rfW K r (nI 0) pn sn ln pm sta ms hs T sv cs pf fa (cW K a b t c g T len qu n cs ln sn Sv [oC K o of])) H := hP
  have hD : va_D A (rfW K r (nI 0) pn sn ln pm sta ms hs T sv cs pf fa (cW K a b t c g T len qu n cs ln sn Sv [oC K o of])) := hD
  have hP := hP.perm lw_pm.symm
  have hD := hD.perm lw_pm.symm
  have hP : va_P D vwCl (cW K a b t c g T len qu n cs ln sn Sv (oC K o of :: rfW K r (nI 0) pn sn ln pm sta ms hs T sv cs pf fa [])) H := hP
  have hD : va_D A (cW K a b t c g T len qu n cs ln sn Sv (oC K o of :: rfW K r (nI 0) pn sn ln pm sta ms hs T sv cs pf fa [])) := hD
  refine lv_icmp_eq (x := nI (ldT T 4)) (y := nI (ldT T 4)) (tgt := 1550) hx hb dL_law_1490 (by decide) (fun c_1 => ?_) (fun c_1 => ?_)
  · refine W.widen (k := cells + 1) (n := slots + 6) (by omega) (by omega) ?_
    exact kk _ _ _ _ _ _ _ _ _ _ _ _ _ _ _ _ _ _ _ (hLI0) H locs ls hP hD hS (lv_sub hl [0, 1, 2, 3, 4] rfl)
  exact absurd rfl c_1
set_option maxHeartbeats 4000000 in
set_option maxRecDepth 100000 in
theorem lc_shared {pr : Program} {l : Launch} {en : Env} {st : State} {md : MethodId} {ar : Array Value} {bl : List Frame} {mt : Method} {co : Code} {D : va_G} {K : Nat → ClassId} {A : Nat → Prop} {Q : State → Prop} {b9 : Nat} {a b t c r : Nat → Nat} {o : Nat} {dp fs L : Nat} {xs : Nat → Int32} (hx : pr.tables.exec = Jvm.exec) (hb : co.code = cL_law) (hml : co.maxLocals = 9) (hts : ∀ w ∈ wsL_law, w.before ar st = true) (hown : st.vm.findClass RL = some md.cls) (hst : l.stackTraces = false) (hE : ev D K st) (hXw : xw st) (hxn : xn st) (hZ : xst dp fs A st st.heap) (hA : ∀ q : Nat, st.heap.size ≤ q → A q) (hX : va_X b9 L xs st st.heap) (hbl : b9 < st.heap.size) (hbA : ¬ A b9) (k : Nat) (hk : 4 * k + 4 ≤ L) (hL : L ≤ 2048) (cells slots : Nat) (hc1 : cells + 1 ≤ 601024) (hc2 : slots + 6 ≤ 7293034) (kk : Nx pr l en st md ar bl mt co D K A Q b9 a b t c r o k (cells + 1) (slots + 6) 1550) : Nx pr l en st md ar bl mt co D K A Q b9 a b t c r o k cells slots 1495 := by
  intro T len qu n cs ln sn Sv g th pn pm sta ms hs sv pf fa of hLI H locs ls hP hD hS hl
  have hLI0 := hLI
  obtain ⟨hI, hK, hCB, hsn, hSV, hSI, hSH⟩ := hLI
  refine lv_aload_n hx hb dL_law_1495 rfl (lv_at hl 2 rfl) ?_
  refine rd_V (rest := []) (ci := 3) (q0 := 17) ⟨hx, hb, hml, hown, hts⟩ hP hE (c_X3_shared l D K _ _ _ _ _ _ _ _ _ _ _ _ _ _ hI) (cwV 0 hts gL_law_X3_shared rfl rfl rfl hd_X3_shared ⟨Nat.le_of_ble_eq_true rfl, Nat.le_of_ble_eq_true rfl⟩) rfl rfl rfl rfl hl.1 rfl (Nat.le_of_ble_eq_true rfl) dL_law_1496 ⟨show _ ≤ 601024 by omega, show _ ≤ 7293034 by omega⟩ ?_
  refine lv_dstore (lv' := [(5, .double (shD (swT T 2) (swT T 1))), (4, .int (nI (4 * k))), (0, .ref b9), (1, .ref (c 0)), (2, .ref (r 0)), (3, .ref o)]) hx hb dL_law_1499 hl (by decide) rfl (fun ls hl => ?_)
  refine lv_aload_n hx hb dL_law_1501 rfl (lv_at hl 4 rfl) ?_
  have hP := hP.perm lw_pm
  have hD := hD.perm lw_pm
  refine wr_V (rest := []) (ci := 4) (q0 := 0) ⟨hx, hb, hml, hown, hts⟩ hP hE hA hD hS (c_X4_shared l D K _ _ _ _ _ _ _ _ _ _ _ _ _ _ _ _ hI) (cwV 0 hts gL_law_X4_shared rfl rfl rfl hd_X4_shared ⟨Nat.le_of_ble_eq_true rfl, Nat.le_of_ble_eq_true rfl⟩) rfl rfl rfl rfl hl.1 rfl (Nat.le_of_ble_eq_true rfl) dL_law_1502 ⟨show _ ≤ 601024 by omega, show _ ≤ 7293034 by omega⟩ (fun H locs hP hD hS => ?_)
  have hP : va_P D vwCl (rfW K r (nI 0) pn sn ln pm sta ms hs T sv cs pf fa (cW K a b t c g T len qu n cs ln sn Sv [oC K o of])) H := hP
  have hD : va_D A (rfW K r (nI 0) pn sn ln pm sta ms hs T sv cs pf fa (cW K a b t c g T len qu n cs ln sn Sv [oC K o of])) := hD
  have hP := hP.perm lw_pm.symm
  have hD := hD.perm lw_pm.symm
  have hP : va_P D vwCl (cW K a b t c g T len qu n cs ln sn Sv (oC K o of :: rfW K r (nI 0) pn sn ln pm sta ms hs T sv cs pf fa [])) H := hP
  have hD : va_D A (cW K a b t c g T len qu n cs ln sn Sv (oC K o of :: rfW K r (nI 0) pn sn ln pm sta ms hs T sv cs pf fa [])) := hD
  refine lv_dstore (lv' := [(7, .double (shD (swT T 2) (swT T 1))), (5, .double (shD (swT T 2) (swT T 1))), (4, .int (nI (4 * k))), (0, .ref b9), (1, .ref (c 0)), (2, .ref (r 0)), (3, .ref o)]) hx hb dL_law_1505 hl (by decide) rfl (fun ls hl => ?_)
  refine lv_dload hx hb dL_law_1507 (lv_at hl 1 rfl) ?_
  refine lv_dload hx hb dL_law_1509 (lv_at hl 0 rfl) ?_
  refine lv_dcmp hx hb dL_law_1511 ?_
  refine lv_if_eq (x := Op.cmpValue (FP.dcmp (shD (swT T 2) (swT T 1)) (shD (swT T 2) (swT T 1))) .l) (tgt := 1533) hx hb dL_law_1512 (by decide) (fun c_1 => ?_) (fun c_1 => ?_)
  · refine lv_goto (tgt := 1550) hx hb dL_law_1533 (by decide) ?_
    refine W.widen (k := cells + 1) (n := slots + 6) (by omega) (by omega) ?_
    exact kk _ _ _ _ _ _ _ _ _ _ _ _ _ _ _ _ _ _ _ (hLI0) H locs ls hP hD hS (lv_sub hl [2, 3, 4, 5, 6] rfl)
  · refine lv_dload hx hb dL_law_1515 (lv_at hl 1 rfl) ?_
    refine lv_dload hx hb dL_law_1517 (lv_at hl 1 rfl) ?_
    refine lv_dcmp hx hb dL_law_1519 ?_
    refine lv_if_eq (x := Op.cmpValue (FP.dcmp (shD (swT T 2) (swT T 1)) (shD (swT T 2) (swT T 1))) .l) (tgt := 1531) hx hb dL_law_1520 (by decide) (fun c_2 => ?_) (fun c_2 => ?_)
    · exact absurd c_2 c_1
    refine lv_dload hx hb dL_law_1523 (lv_at hl 0 rfl) ?_
    refine lv_dload hx hb dL_law_1525 (lv_at hl 0 rfl) ?_
    refine lv_dcmp hx hb dL_law_1527 ?_
    refine lv_if_ne (x := Op.cmpValue (FP.dcmp (shD (swT T 2) (swT T 1)) (shD (swT T 2) (swT T 1))) .l) (tgt := 1533) hx hb dL_law_1528 (by decide) (fun c_3 => ?_) (fun c_3 => ?_)
    · refine lv_goto (tgt := 1550) hx hb dL_law_1533 (by decide) ?_
      refine W.widen (k := cells + 1) (n := slots + 6) (by omega) (by omega) ?_
      exact kk _ _ _ _ _ _ _ _ _ _ _ _ _ _ _ _ _ _ _ (hLI0) H locs ls hP hD hS (lv_sub hl [2, 3, 4, 5, 6] rfl)
    exact absurd c_3 c_1
set_option maxHeartbeats 4000000 in
set_option maxRecDepth 100000 in
theorem lc_digest {pr : Program} {l : Launch} {en : Env} {st : State} {md : MethodId} {ar : Array Value} {bl : List Frame} {mt : Method} {co : Code} {D : va_G} {K : Nat → ClassId} {A : Nat → Prop} {Q : State → Prop} {b9 : Nat} {a b t c r : Nat → Nat} {o : Nat} {dp fs L : Nat} {xs : Nat → Int32} (hx : pr.tables.exec = Jvm.exec) (hb : co.code = cL_law) (hml : co.maxLocals = 9) (hts : ∀ w ∈ wsL_law, w.before ar st = true) (hown : st.vm.findClass RL = some md.cls) (hst : l.stackTraces = false) (hE : ev D K st) (hXw : xw st) (hxn : xn st) (hZ : xst dp fs A st st.heap) (hA : ∀ q : Nat, st.heap.size ≤ q → A q) (hX : va_X b9 L xs st st.heap) (hbl : b9 < st.heap.size) (hbA : ¬ A b9) (k : Nat) (hk : 4 * k + 4 ≤ L) (hL : L ≤ 2048) (cells slots : Nat) (hc1 : cells + 1 ≤ 601024) (hc2 : slots + 6 ≤ 7293034) (kk : Nx pr l en st md ar bl mt co D K A Q b9 a b t c r o k (cells + 1) (slots + 6) 1550) : Nx pr l en st md ar bl mt co D K A Q b9 a b t c r o k cells slots 1536 := by
  intro T len qu n cs ln sn Sv g th pn pm sta ms hs sv pf fa of hLI H locs ls hP hD hS hl
  have hLI0 := hLI
  obtain ⟨hI, hK, hCB, hsn, hSV, hSI, hSH⟩ := hLI
  refine lv_aload_n hx hb dL_law_1536 rfl (lv_at hl 2 rfl) ?_
  refine wr_V (rest := []) (ci := 3) (q0 := 17) ⟨hx, hb, hml, hown, hts⟩ hP hE hA hD hS (c_X3_digest l D K _ _ _ _ _ _ _ _ _ _ _ _ _ _ _ hI hK hCB) (cwV 0 hts gL_law_X3_digest rfl rfl rfl hd_X3_digest ⟨Nat.le_of_ble_eq_true rfl, Nat.le_of_ble_eq_true rfl⟩) rfl rfl rfl rfl hl.1 rfl (Nat.le_of_ble_eq_true rfl) dL_law_1537 ⟨show _ ≤ 601024 by omega, show _ ≤ 7293034 by omega⟩ (fun H locs hP hD hS => ?_)
  have hP : va_P D vwCl (cW K a b t c g T ((wyD T 4 (len, qu, n)).1) ((wyD T 4 (len, qu, n)).2.1) ((wyD T 4 (len, qu, n)).2.2) cs ln sn Sv (oC K o of :: rfW K r th pn sn ln pm sta ms hs T sv cs pf fa [])) H := hP
  have hD : va_D A (cW K a b t c g T ((wyD T 4 (len, qu, n)).1) ((wyD T 4 (len, qu, n)).2.1) ((wyD T 4 (len, qu, n)).2.2) cs ln sn Sv (oC K o of :: rfW K r th pn sn ln pm sta ms hs T sv cs pf fa [])) := hD
  refine lv_aload_n hx hb dL_law_1540 rfl (lv_at hl 3 rfl) ?_
  have hP := hP.perm lw_pm
  have hD := hD.perm lw_pm
  refine wr_V (rest := [.long (dgT T sn cs ln)]) (ci := 4) (q0 := 0) ⟨hx, hb, hml, hown, hts⟩ hP hE hA hD hS (c_X4_digest l D K _ _ _ _ _ _ _ _ _ _ _ _ _ _ _ _ hI hCB) (cwV 0 hts gL_law_X4_digest rfl rfl rfl hd_X4_digest ⟨Nat.le_of_ble_eq_true rfl, Nat.le_of_ble_eq_true rfl⟩) rfl rfl rfl rfl hl.1 rfl (Nat.le_of_ble_eq_true rfl) dL_law_1541 ⟨show _ ≤ 601024 by omega, show _ ≤ 7293034 by omega⟩ (fun H locs hP hD hS => ?_)
  have hP : va_P D vwCl (rfW K r (nI 0) pn sn ln pm sta (msP T ms 4) (dgT T sn cs ln) T sv cs pf (faP T fa 4) (cW K a b t c g T ((wyD T 4 (len, qu, n)).1) ((wyD T 4 (len, qu, n)).2.1) ((wyD T 4 (len, qu, n)).2.2) cs ln sn Sv [oC K o of])) H := hP
  have hD : va_D A (rfW K r (nI 0) pn sn ln pm sta (msP T ms 4) (dgT T sn cs ln) T sv cs pf (faP T fa 4) (cW K a b t c g T ((wyD T 4 (len, qu, n)).1) ((wyD T 4 (len, qu, n)).2.1) ((wyD T 4 (len, qu, n)).2.2) cs ln sn Sv [oC K o of])) := hD
  have hP := hP.perm lw_pm.symm
  have hD := hD.perm lw_pm.symm
  have hP : va_P D vwCl (cW K a b t c g T ((wyD T 4 (len, qu, n)).1) ((wyD T 4 (len, qu, n)).2.1) ((wyD T 4 (len, qu, n)).2.2) cs ln sn Sv (oC K o of :: rfW K r (nI 0) pn sn ln pm sta (msP T ms 4) (dgT T sn cs ln) T sv cs pf (faP T fa 4) [])) H := hP
  have hD : va_D A (cW K a b t c g T ((wyD T 4 (len, qu, n)).1) ((wyD T 4 (len, qu, n)).2.1) ((wyD T 4 (len, qu, n)).2.2) cs ln sn Sv (oC K o of :: rfW K r (nI 0) pn sn ln pm sta (msP T ms 4) (dgT T sn cs ln) T sv cs pf (faP T fa 4) [])) := hD
  refine W.lcmp hx hb dL_law_1544 ?_
  refine top_i (y := nI 0) (lcmp_rf _) ?_
  refine nv_if_eq (x := 0) (tgt := 1550) hx hb dL_law_1545 (by decide) (by decide) (fun c_1 => ?_) (fun c_1 => ?_)
  · have n_c_1 : ¬ 0 < 0 := by omega
    refine W.widen (k := cells + 1) (n := slots + 6) (by omega) (by omega) ?_
    exact kk _ _ _ _ _ _ _ _ _ _ _ _ _ _ _ _ _ _ _ (hLI0) H locs ls hP hD hS (lv_sub hl [0, 1, 2, 3, 4] rfl)
  exact absurd c_1 (by decide)
