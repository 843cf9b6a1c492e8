/-! the law, cases 2 -/
set_option maxHeartbeats 4000000 in
set_option maxRecDepth 100000 in
theorem lc_takeUp {pr : Program} {l : Launch} {en : Env} {st : State} {md : MethodId} {ar : Array Value} {bl : List Frame} {mt : Method} {co : Code} {D : va_G} {K : Nat → ClassId} {A : Nat → Prop} {Q : State → Prop} {b9 : Nat} {a b t c r : Nat → Nat} {o : Nat} {dp fs L : Nat} {xs : Nat → Int32} (hx : pr.tables.exec = Jvm.exec) (hb : co.code = cL_law) (hml : co.maxLocals = 9) (hts : ∀ w ∈ wsL_law, w.before ar st = true) (hown : st.vm.findClass RL = some md.cls) (hst : l.stackTraces = false) (hE : ev D K st) (hXw : xw st) (hxn : xn st) (hZ : xst dp fs A st st.heap) (hA : ∀ q : Nat, st.heap.size ≤ q → A q) (hX : va_X b9 L xs st st.heap) (hbl : b9 < st.heap.size) (hbA : ¬ A b9) (k : Nat) (hk : 4 * k + 4 ≤ L) (hL : L ≤ 2048) (cells slots : Nat) (hc1 : cells + 1 ≤ 601024) (hc2 : slots + 6 ≤ 7293034) (kk : Nx pr l en st md ar bl mt co D K A Q b9 a b t c r o k (cells + 1) (slots + 6) 1550) : Nx pr l en st md ar bl mt co D K A Q b9 a b t c r o k cells slots 520 := by
  intro T len qu n cs ln sn Sv g th pn pm sta ms hs sv pf fa of hLI H locs ls hP hD hS hl
  have hLI0 := hLI
  obtain ⟨hI, hK, hCB, hsn, hSV, hSI, hSH⟩ := hLI
  refine lv_aload_n hx hb dL_law_520 rfl (lv_at hl 2 rfl) ?_
  refine lv_aload_n hx hb dL_law_521 rfl (lv_at hl 1 rfl) ?_
  refine lv_iload hx hb dL_law_522 (lv_at hl 0 rfl) ?_
  refine lv_iconst (v := nI 1) hx hb dL_law_524 (by decide) ?_
  refine nv_iadd (x := 4 * k) (y := 1) hx hb dL_law_525 ?_
  refine va_sld hx hb hX hbl hbA hS (pk_in ((4 * k) + 1) L (by omega)) dL_law_526 ?_
  rw [pk_cl ((4 * k) + 1)]
  refine lv_aload_n hx hb dL_law_527 rfl (lv_at hl 4 rfl) ?_
  have hEl : tuE (xs ((4 * k) + 1)) ≤ 1 := by unfold tuE; (repeat' split) <;> omega
  by_cases hE0 : tuE (xs ((4 * k) + 1)) = 0
  · refine lx_S (rest := []) ⟨hx, hb, hml, hown, hts⟩ hP hE hA hD hS hXw hZ hxn (c_L_takeUp l D K dp fs hst _ _ _ _ _ _ _ _ _ _ _ _ _ _ (xs ((4 * k) + 1)) hI hsn _ _ _) (vx_cwSW 3 hts gL_law_L_takeUp rfl rfl rfl hn_L_takeUp ⟨Nat.le_of_ble_eq_true rfl, Nat.le_of_ble_eq_true rfl⟩) rfl hl.1 rfl (Nat.le_of_ble_eq_true rfl) dL_law_528 ⟨show _ ≤ 601024 by omega, show _ ≤ 7293034 by omega⟩ (fun H locs hP hD hS => ?_)
    rw [if_pos hE0] at hP hD
    have hP : va_P D vwCl (cW K a b t c (svG g sn) (tkT T (tn (xs ((4 * k) + 1)))) len qu n cs ln (svN sn) (svV Sv sn T) (oC K o (vp_updL of 0 ((nI (tuC T (tn (xs ((4 * k) + 1))) 80)).toInt64)) :: rfW K r th pn sn ln pm sta ms hs T sv cs pf fa [])) H := hP
    have hD : va_D A (cW K a b t c (svG g sn) (tkT T (tn (xs ((4 * k) + 1)))) len qu n cs ln (svN sn) (svV Sv sn T) (oC K o (vp_updL of 0 ((nI (tuC T (tn (xs ((4 * k) + 1))) 80)).toInt64)) :: rfW K r th pn sn ln pm sta ms hs T sv cs pf fa [])) := hD
    refine top_i (y := nI 0) (by rw [hE0]) ?_
    refine lv_istore (lv' := [(5, .int (nI 0)), (4, .int (nI (4 * k))), (0, .ref b9), (1, .ref (c 0)), (2, .ref (r 0)), (3, .ref o)]) hx hb dL_law_531 hl (by decide) rfl (fun ls hl => ?_)
    refine lv_aload_n hx hb dL_law_533 rfl (lv_at hl 4 rfl) ?_
    refine lv_aload_n hx hb dL_law_534 rfl (lv_at hl 2 rfl) ?_
    refine lv_iload hx hb dL_law_535 (lv_at hl 1 rfl) ?_
    refine lv_iconst (v := nI 1) hx hb dL_law_537 (by decide) ?_
    refine nv_iadd (x := 4 * k) (y := 1) hx hb dL_law_538 ?_
    refine va_sld hx hb hX hbl hbA hS (pk_in ((4 * k) + 1) L (by omega)) dL_law_539 ?_
    rw [pk_cl ((4 * k) + 1)]
    have hP := hP.perm lw_pm
    have hD := hD.perm lw_pm
    refine wr_V (rest := []) (ci := 4) (q0 := 0) ⟨hx, hb, hml, hown, hts⟩ hP hE hA hD hS (c_X4_takeUp l D K _ _ _ _ _ _ _ _ _ _ _ _ _ _ _ _ (xs ((4 * k) + 1)) hI hsn) (cwV 1 hts gL_law_X4_takeUp rfl rfl rfl hd_X4_takeUp ⟨Nat.le_of_ble_eq_true rfl, Nat.le_of_ble_eq_true rfl⟩) rfl rfl rfl rfl hl.1 rfl (Nat.le_of_ble_eq_true rfl) dL_law_540 ⟨show _ ≤ 601024 by omega, show _ ≤ 7293034 by omega⟩ (fun H locs hP hD hS => ?_)
    rw [if_pos hE0] at hP hD
    have hP : va_P D vwCl (rfW K r (nI 0) pn (svN sn) ln pm sta ms hs (tkT T (tn (xs ((4 * k) + 1)))) (savS sv sn T) cs pf fa (cW K a b t c (svG g sn) (tkT T (tn (xs ((4 * k) + 1)))) len qu n cs ln (svN sn) (svV Sv sn T) [oC K o (vp_updL of 0 ((nI (tuC T (tn (xs ((4 * k) + 1))) 80)).toInt64))])) H := hP
    have hD : va_D A (rfW K r (nI 0) pn (svN sn) ln pm sta ms hs (tkT T (tn (xs ((4 * k) + 1)))) (savS sv sn T) cs pf fa (cW K a b t c (svG g sn) (tkT T (tn (xs ((4 * k) + 1)))) len qu n cs ln (svN sn) (svV Sv sn T) [oC K o (vp_updL of 0 ((nI (tuC T (tn (xs ((4 * k) + 1))) 80)).toInt64))])) := hD
    have hP := hP.perm lw_pm.symm
    have hD := hD.perm lw_pm.symm
    have hP : va_P D vwCl (cW K a b t c (svG g sn) (tkT T (tn (xs ((4 * k) + 1)))) len qu n cs ln (svN sn) (svV Sv sn T) (oC K o (vp_updL of 0 ((nI (tuC T (tn (xs ((4 * k) + 1))) 80)).toInt64)) :: rfW K r (nI 0) pn (svN sn) ln pm sta ms hs (tkT T (tn (xs ((4 * k) + 1)))) (savS sv sn T) cs pf fa [])) H := hP
    have hD : va_D A (cW K a b t c (svG g sn) (tkT T (tn (xs ((4 * k) + 1)))) len qu n cs ln (svN sn) (svV Sv sn T) (oC K o (vp_updL of 0 ((nI (tuC T (tn (xs ((4 * k) + 1))) 80)).toInt64)) :: rfW K r (nI 0) pn (svN sn) ln pm sta ms hs (tkT T (tn (xs ((4 * k) + 1)))) (savS sv sn T) cs pf fa [])) := hD
    refine top_i (y := nI (tuC T (tn (xs ((4 * k) + 1))) 80)) (if_pos hE0) ?_
    refine lv_istore (lv' := [(6, .int (nI (tuC T (tn (xs ((4 * k) + 1))) 80))), (5, .int (nI 0)), (4, .int (nI (4 * k))), (0, .ref b9), (1, .ref (c 0)), (2, .ref (r 0)), (3, .ref o)]) hx hb dL_law_543 hl (by decide) rfl (fun ls hl => ?_)
    refine lv_aload_n hx hb dL_law_545 rfl (lv_at hl 5 rfl) ?_
    have hP := hP.perm lw_pm
    have hD := hD.perm lw_pm
    refine wr_V (rest := []) (ci := 4) (q0 := 0) ⟨hx, hb, hml, hown, hts⟩ hP hE hA hD hS (c_X4_thrown l D K _ _ _ _ _ _ _ _ _ _ _ _ _ _ _ _ ) (cwV 0 hts gL_law_X4_thrown rfl rfl rfl hd_X4_thrown ⟨Nat.le_of_ble_eq_true rfl, Nat.le_of_ble_eq_true rfl⟩) rfl rfl rfl rfl hl.1 rfl (Nat.le_of_ble_eq_true rfl) dL_law_546 ⟨show _ ≤ 601024 by omega, show _ ≤ 7293034 by omega⟩ (fun H locs hP hD hS => ?_)
    have hP : va_P D vwCl (rfW K r (nI 0) pn (svN sn) ln pm sta ms hs (tkT T (tn (xs ((4 * k) + 1)))) (savS sv sn T) cs pf fa (cW K a b t c (svG g sn) (tkT T (tn (xs ((4 * k) + 1)))) len qu n cs ln (svN sn) (svV Sv sn T) [oC K o (vp_updL of 0 ((nI (tuC T (tn (xs ((4 * k) + 1))) 80)).toInt64))])) H := hP
    have hD : va_D A (rfW K r (nI 0) pn (svN sn) ln pm sta ms hs (tkT T (tn (xs ((4 * k) + 1)))) (savS sv sn T) cs pf fa (cW K a b t c (svG g sn) (tkT T (tn (xs ((4 * k) + 1)))) len qu n cs ln (svN sn) (svV Sv sn T) [oC K o (vp_updL of 0 ((nI (tuC T (tn (xs ((4 * k) + 1))) 80)).toInt64))])) := hD
    have hP := hP.perm lw_pm.symm
    have hD := hD.perm lw_pm.symm
    have hP : va_P D vwCl (cW K a b t c (svG g sn) (tkT T (tn (xs ((4 * k) + 1)))) len qu n cs ln (svN sn) (svV Sv sn T) (oC K o (vp_updL of 0 ((nI (tuC T (tn (xs ((4 * k) + 1))) 80)).toInt64)) :: rfW K r (nI 0) pn (svN sn) ln pm sta ms hs (tkT T (tn (xs ((4 * k) + 1)))) (savS sv sn T) cs pf fa [])) H := hP
    have hD : va_D A (cW K a b t c (svG g sn) (tkT T (tn (xs ((4 * k) + 1)))) len qu n cs ln (svN sn) (svV Sv sn T) (oC K o (vp_updL of 0 ((nI (tuC T (tn (xs ((4 * k) + 1))) 80)).toInt64)) :: rfW K r (nI 0) pn (svN sn) ln pm sta ms hs (tkT T (tn (xs ((4 * k) + 1)))) (savS sv sn T) cs pf fa [])) := hD
    refine lv_iload hx hb dL_law_549 (lv_at hl 1 rfl) ?_
    refine nv_icmp_eq (x := 0) (y := 0) (tgt := 556) hx hb dL_law_551 (by decide) (by decide) (by decide) (fun c_1 => ?_) (fun c_1 => ?_)
    · refine lv_iload hx hb dL_law_556 (lv_at hl 1 rfl) ?_
      refine nv_if_ne (x := 0) (tgt := 573) hx hb dL_law_558 (by decide) (by decide) (fun c_2 => ?_) (fun c_2 => ?_)
      · exact absurd c_2 (by decide)
      have n_c_2 : ¬ 0 < 0 := by omega
      refine lv_aload_n hx hb dL_law_561 rfl (lv_at hl 6 rfl) ?_
      refine lv_iconst (v := nI 0) hx hb dL_law_562 (by decide) ?_
      refine nv_lald hx hb hE hP 91 rfl dL_law_563 ?_
      refine top_l (y := (nI (tuC T (tn (xs ((4 * k) + 1))) 80)).toInt64) rfl ?_
      refine lv_iload hx hb dL_law_564 (lv_at hl 0 rfl) ?_
      refine lv_i2l (v := (nI (tuC T (tn (xs ((4 * k) + 1))) 80)).toInt64) hx hb dL_law_566 rfl ?_
      refine W.lcmp hx hb dL_law_567 ?_
      refine top_i (y := nI 0) (lcmp_rf _) ?_
      refine nv_if_eq (x := 0) (tgt := 573) hx hb dL_law_568 (by decide) (by decide) (fun c_3 => ?_) (fun c_3 => ?_)
      · have n_c_3 : ¬ 0 < 0 := by omega
        refine lv_goto (tgt := 1550) hx hb dL_law_573 (by decide) ?_
        refine W.widen (k := cells + 1) (n := slots + 6) (by omega) (by omega) ?_
        exact kk _ _ _ _ _ _ _ _ _ _ _ _ _ _ _ _ _ _ _ (hLI0.tak hE0) H locs ls hP hD hS (lv_sub hl [2, 3, 4, 5, 6] rfl)
      exact absurd c_3 (by decide)
    exact absurd c_1 (by decide)
  · refine lx_S (rest := []) ⟨hx, hb, hml, hown, hts⟩ hP hE hA hD hS hXw hZ hxn (c_L_takeUp l D K dp fs hst _ _ _ _ _ _ _ _ _ _ _ _ _ _ (xs ((4 * k) + 1)) hI hsn _ _ _) (vx_cwSW 3 hts gL_law_L_takeUp rfl rfl rfl hn_L_takeUp ⟨Nat.le_of_ble_eq_true rfl, Nat.le_of_ble_eq_true rfl⟩) rfl hl.1 rfl (Nat.le_of_ble_eq_true rfl) dL_law_528 ⟨show _ ≤ 601024 by omega, show _ ≤ 7293034 by omega⟩ (fun H locs hP hD hS => ?_)
    rw [if_neg hE0] at hP hD
    have hP : va_P D vwCl (cW K a b t c g T len qu n cs ln sn Sv (oC K o of :: rfW K r th pn sn ln pm sta ms hs T sv cs pf fa [])) H := hP
    have hD : va_D A (cW K a b t c g T len qu n cs ln sn Sv (oC K o of :: rfW K r th pn sn ln pm sta ms hs T sv cs pf fa [])) := hD
    refine top_i (y := nI (tuE (xs ((4 * k) + 1)))) (rfl) ?_
    refine lv_istore (lv' := [(5, .int (nI (tuE (xs ((4 * k) + 1))))), (4, .int (nI (4 * k))), (0, .ref b9), (1, .ref (c 0)), (2, .ref (r 0)), (3, .ref o)]) hx hb dL_law_531 hl (by decide) rfl (fun ls hl => ?_)
    refine lv_aload_n hx hb dL_law_533 rfl (lv_at hl 4 rfl) ?_
    refine lv_aload_n hx hb dL_law_534 rfl (lv_at hl 2 rfl) ?_
    refine lv_iload hx hb dL_law_535 (lv_at hl 1 rfl) ?_
    refine lv_iconst (v := nI 1) hx hb dL_law_537 (by decide) ?_
    refine nv_iadd (x := 4 * k) (y := 1) hx hb dL_law_538 ?_
    refine va_sld hx hb hX hbl hbA hS (pk_in ((4 * k) + 1) L (by omega)) dL_law_539 ?_
    rw [pk_cl ((4 * k) + 1)]
    have hP := hP.perm lw_pm
    have hD := hD.perm lw_pm
    refine wr_V (rest := []) (ci := 4) (q0 := 0) ⟨hx, hb, hml, hown, hts⟩ hP hE hA hD hS (c_X4_takeUp l D K _ _ _ _ _ _ _ _ _ _ _ _ _ _ _ _ (xs ((4 * k) + 1)) hI hsn) (cwV 1 hts gL_law_X4_takeUp rfl rfl rfl hd_X4_takeUp ⟨Nat.le_of_ble_eq_true rfl, Nat.le_of_ble_eq_true rfl⟩) rfl rfl rfl rfl hl.1 rfl (Nat.le_of_ble_eq_true rfl) dL_law_540 ⟨show _ ≤ 601024 by omega, show _ ≤ 7293034 by omega⟩ (fun H locs hP hD hS => ?_)
    rw [if_neg hE0] at hP hD
    have hP : va_P D vwCl (rfW K r (nI (tuE (xs ((4 * k) + 1)))) pn sn ln pm sta ms hs T sv cs pf fa (cW K a b t c g T len qu n cs ln sn Sv [oC K o of])) H := hP
    have hD : va_D A (rfW K r (nI (tuE (xs ((4 * k) + 1)))) pn sn ln pm sta ms hs T sv cs pf fa (cW K a b t c g T len qu n cs ln sn Sv [oC K o of])) := hD
    have hP := hP.perm lw_pm.symm
    have hD := hD.perm lw_pm.symm
    have hP : va_P D vwCl (cW K a b t c g T len qu n cs ln sn Sv (oC K o of :: rfW K r (nI (tuE (xs ((4 * k) + 1)))) pn sn ln pm sta ms hs T sv cs pf fa [])) H := hP
    have hD : va_D A (cW K a b t c g T len qu n cs ln sn Sv (oC K o of :: rfW K r (nI (tuE (xs ((4 * k) + 1)))) pn sn ln pm sta ms hs T sv cs pf fa [])) := hD
    refine top_i (y := 0) (if_neg hE0) ?_
    refine lv_istore (lv' := [(6, .int 0), (5, .int (nI (tuE (xs ((4 * k) + 1))))), (4, .int (nI (4 * k))), (0, .ref b9), (1, .ref (c 0)), (2, .ref (r 0)), (3, .ref o)]) hx hb dL_law_543 hl (by decide) rfl (fun ls hl => ?_)
    refine lv_aload_n hx hb dL_law_545 rfl (lv_at hl 5 rfl) ?_
    have hP := hP.perm lw_pm
    have hD := hD.perm lw_pm
    refine wr_V (rest := []) (ci := 4) (q0 := 0) ⟨hx, hb, hml, hown, hts⟩ hP hE hA hD hS (c_X4_thrown l D K _ _ _ _ _ _ _ _ _ _ _ _ _ _ _ _ ) (cwV 0 hts gL_law_X4_thrown rfl rfl rfl hd_X4_thrown ⟨Nat.le_of_ble_eq_true rfl, Nat.le_of_ble_eq_true rfl⟩) rfl rfl rfl rfl hl.1 rfl (Nat.le_of_ble_eq_true rfl) dL_law_546 ⟨show _ ≤ 601024 by omega, show _ ≤ 7293034 by omega⟩ (fun H locs hP hD hS => ?_)
    have hP : va_P D vwCl (rfW K r (nI (tuE (xs ((4 * k) + 1)))) pn sn ln pm sta ms hs T sv cs pf fa (cW K a b t c g T len qu n cs ln sn Sv [oC K o of])) H := hP
    have hD : va_D A (rfW K r (nI (tuE (xs ((4 * k) + 1)))) pn sn ln pm sta ms hs T sv cs pf fa (cW K a b t c g T len qu n cs ln sn Sv [oC K o of])) := hD
    have hP := hP.perm lw_pm.symm
    have hD := hD.perm lw_pm.symm
    have hP : va_P D vwCl (cW K a b t c g T len qu n cs ln sn Sv (oC K o of :: rfW K r (nI (tuE (xs ((4 * k) + 1)))) pn sn ln pm sta ms hs T sv cs pf fa [])) H := hP
    have hD : va_D A (cW K a b t c g T len qu n cs ln sn Sv (oC K o of :: rfW K r (nI (tuE (xs ((4 * k) + 1)))) pn sn ln pm sta ms hs T sv cs pf fa [])) := hD
    refine lv_iload hx hb dL_law_549 (lv_at hl 1 rfl) ?_
    refine lv_icmp_eq (x := nI (tuE (xs ((4 * k) + 1)))) (y := nI (tuE (xs ((4 * k) + 1)))) (tgt := 556) hx hb dL_law_551 (by decide) (fun c_4 => ?_) (fun c_4 => ?_)
    · refine lv_iload hx hb dL_law_556 (lv_at hl 1 rfl) ?_
      refine nv_if_ne (x := tuE (xs ((4 * k) + 1))) (tgt := 573) hx hb dL_law_558 (by decide) (by omega) (fun c_5 => ?_) (fun c_5 => ?_)
      · have n_c_5 : ¬ tuE (xs ((4 * k) + 1)) = 0 := by omega
        refine lv_goto (tgt := 1550) hx hb dL_law_573 (by decide) ?_
        refine W.widen (k := cells + 1) (n := slots + 6) (by omega) (by omega) ?_
        exact kk _ _ _ _ _ _ _ _ _ _ _ _ _ _ _ _ _ _ _ (hLI0) H locs ls hP hD hS (lv_sub hl [2, 3, 4, 5, 6] rfl)
      exact absurd c_5 hE0
    exact absurd rfl c_4
set_option maxHeartbeats 4000000 in
set_option maxRecDepth 100000 in
theorem lc_give {pr : Program} {l : Launch} {en : Env} {st : State} {md : MethodId} {ar : Array Value} {bl : List Frame} {mt : Method} {co : Code} {D : va_G} {K : Nat → ClassId} {A : Nat → Prop} {Q : State → Prop} {b9 : Nat} {a b t c r : Nat → Nat} {o : Nat} {dp fs L : Nat} {xs : Nat → Int32} (hx : pr.tables.exec = Jvm.exec) (hb : co.code = cL_law) (hml : co.maxLocals = 9) (hts : ∀ w ∈ wsL_law, w.before ar st = true) (hown : st.vm.findClass RL = some md.cls) (hst : l.stackTraces = false) (hE : ev D K st) (hXw : xw st) (hxn : xn st) (hZ : xst dp fs A st st.heap) (hA : ∀ q : Nat, st.heap.size ≤ q → A q) (hX : va_X b9 L xs st st.heap) (hbl : b9 < st.heap.size) (hbA : ¬ A b9) (k : Nat) (hk : 4 * k + 4 ≤ L) (hL : L ≤ 2048) (cells slots : Nat) (hc1 : cells + 1 ≤ 601024) (hc2 : slots + 6 ≤ 7293034) (kk : Nx pr l en st md ar bl mt co D K A Q b9 a b t c r o k (cells + 1) (slots + 6) 1550) : Nx pr l en st md ar bl mt co D K A Q b9 a b t c r o k cells slots 576 := by
  intro T len qu n cs ln sn Sv g th pn pm sta ms hs sv pf fa of hLI H locs ls hP hD hS hl
  have hLI0 := hLI
  obtain ⟨hI, hK, hCB, hsn, hSV, hSI, hSH⟩ := hLI
  refine lv_aload_n hx hb dL_law_576 rfl (lv_at hl 2 rfl) ?_
  refine lv_aload_n hx hb dL_law_577 rfl (lv_at hl 1 rfl) ?_
  refine lv_iload hx hb dL_law_578 (lv_at hl 0 rfl) ?_
  refine lv_iconst (v := nI 1) hx hb dL_law_580 (by decide) ?_
  refine nv_iadd (x := 4 * k) (y := 1) hx hb dL_law_581 ?_
  refine va_sld hx hb hX hbl hbA hS (pk_in ((4 * k) + 1) L (by omega)) dL_law_582 ?_
  rw [pk_cl ((4 * k) + 1)]
  refine lv_aload_n hx hb dL_law_583 rfl (lv_at hl 1 rfl) ?_
  refine lv_iload hx hb dL_law_584 (lv_at hl 0 rfl) ?_
  refine lv_iconst (v := nI 2) hx hb dL_law_586 (by decide) ?_
  refine nv_iadd (x := 4 * k) (y := 2) hx hb dL_law_587 ?_
  refine va_sld hx hb hX hbl hbA hS (pk_in ((4 * k) + 2) L (by omega)) dL_law_588 ?_
  rw [pk_cl ((4 * k) + 2)]
  refine lv_aload_n hx hb dL_law_589 rfl (lv_at hl 4 rfl) ?_
  have hEl : giE T (xs ((4 * k) + 1)) (xs ((4 * k) + 2)) ≤ 3 := by unfold giE; (repeat' split) <;> omega
  by_cases hE0 : giE T (xs ((4 * k) + 1)) (xs ((4 * k) + 2)) = 0
  · refine lx_S (rest := []) ⟨hx, hb, hml, hown, hts⟩ hP hE hA hD hS hXw hZ hxn (c_L_give l D K dp fs hst _ _ _ _ _ _ _ _ _ _ _ _ _ _ (xs ((4 * k) + 1)) (xs ((4 * k) + 2)) hI hsn _ _ _) (vx_cwSW 4 hts gL_law_L_give rfl rfl rfl hn_L_give ⟨Nat.le_of_ble_eq_true rfl, Nat.le_of_ble_eq_true rfl⟩) rfl hl.1 rfl (Nat.le_of_ble_eq_true rfl) dL_law_590 ⟨show _ ≤ 601024 by omega, show _ ≤ 7293034 by omega⟩ (fun H locs hP hD hS => ?_)
    rw [if_pos hE0] at hP hD
    have hP : va_P D vwCl (cW K a b t c (svG g sn) (setT T 5 (tn (xs ((4 * k) + 1))) (T 5 (tn (xs ((4 * k) + 1))) + (xs ((4 * k) + 2)))) len qu n cs ln (svN sn) (svV Sv sn T) (oC K o (vp_updL of 0 ((coT T (tn (xs ((4 * k) + 1))) + (xs ((4 * k) + 2))).toInt64)) :: rfW K r th pn sn ln pm sta ms hs T sv cs pf fa [])) H := hP
    have hD : va_D A (cW K a b t c (svG g sn) (setT T 5 (tn (xs ((4 * k) + 1))) (T 5 (tn (xs ((4 * k) + 1))) + (xs ((4 * k) + 2)))) len qu n cs ln (svN sn) (svV Sv sn T) (oC K o (vp_updL of 0 ((coT T (tn (xs ((4 * k) + 1))) + (xs ((4 * k) + 2))).toInt64)) :: rfW K r th pn sn ln pm sta ms hs T sv cs pf fa [])) := hD
    refine top_i (y := nI 0) (by rw [hE0]) ?_
    refine lv_istore (lv' := [(5, .int (nI 0)), (4, .int (nI (4 * k))), (0, .ref b9), (1, .ref (c 0)), (2, .ref (r 0)), (3, .ref o)]) hx hb dL_law_593 hl (by decide) rfl (fun ls hl => ?_)
    refine lv_aload_n hx hb dL_law_595 rfl (lv_at hl 4 rfl) ?_
    refine lv_aload_n hx hb dL_law_596 rfl (lv_at hl 2 rfl) ?_
    refine lv_iload hx hb dL_law_597 (lv_at hl 1 rfl) ?_
    refine lv_iconst (v := nI 1) hx hb dL_law_599 (by decide) ?_
    refine nv_iadd (x := 4 * k) (y := 1) hx hb dL_law_600 ?_
    refine va_sld hx hb hX hbl hbA hS (pk_in ((4 * k) + 1) L (by omega)) dL_law_601 ?_
    rw [pk_cl ((4 * k) + 1)]
    refine lv_aload_n hx hb dL_law_602 rfl (lv_at hl 2 rfl) ?_
    refine lv_iload hx hb dL_law_603 (lv_at hl 1 rfl) ?_
    refine lv_iconst (v := nI 2) hx hb dL_law_605 (by decide) ?_
    refine nv_iadd (x := 4 * k) (y := 2) hx hb dL_law_606 ?_
    refine va_sld hx hb hX hbl hbA hS (pk_in ((4 * k) + 2) L (by omega)) dL_law_607 ?_
    rw [pk_cl ((4 * k) + 2)]
    have hP := hP.perm lw_pm
    have hD := hD.perm lw_pm
    refine wr_V (rest := []) (ci := 4) (q0 := 0) ⟨hx, hb, hml, hown, hts⟩ hP hE hA hD hS (c_X4_give l D K _ _ _ _ _ _ _ _ _ _ _ _ _ _ _ _ (xs ((4 * k) + 1)) (xs ((4 * k) + 2)) hI hsn) (cwV 2 hts gL_law_X4_give rfl rfl rfl hd_X4_give ⟨Nat.le_of_ble_eq_true rfl, Nat.le_of_ble_eq_true rfl⟩) rfl rfl rfl rfl hl.1 rfl (Nat.le_of_ble_eq_true rfl) dL_law_608 ⟨show _ ≤ 601024 by omega, show _ ≤ 7293034 by omega⟩ (fun H locs hP hD hS => ?_)
    rw [if_pos hE0] at hP hD
    have hP : va_P D vwCl (rfW K r (nI 0) pn (svN sn) ln pm sta ms hs (setT T 5 (tn (xs ((4 * k) + 1))) (T 5 (tn (xs ((4 * k) + 1))) + (xs ((4 * k) + 2)))) (savS sv sn T) cs pf fa (cW K a b t c (svG g sn) (setT T 5 (tn (xs ((4 * k) + 1))) (T 5 (tn (xs ((4 * k) + 1))) + (xs ((4 * k) + 2)))) len qu n cs ln (svN sn) (svV Sv sn T) [oC K o (vp_updL of 0 ((coT T (tn (xs ((4 * k) + 1))) + (xs ((4 * k) + 2))).toInt64))])) H := hP
    have hD : va_D A (rfW K r (nI 0) pn (svN sn) ln pm sta ms hs (setT T 5 (tn (xs ((4 * k) + 1))) (T 5 (tn (xs ((4 * k) + 1))) + (xs ((4 * k) + 2)))) (savS sv sn T) cs pf fa (cW K a b t c (svG g sn) (setT T 5 (tn (xs ((4 * k) + 1))) (T 5 (tn (xs ((4 * k) + 1))) + (xs ((4 * k) + 2)))) len qu n cs ln (svN sn) (svV Sv sn T) [oC K o (vp_updL of 0 ((coT T (tn (xs ((4 * k) + 1))) + (xs ((4 * k) + 2))).toInt64))])) := hD
    have hP := hP.perm lw_pm.symm
    have hD := hD.perm lw_pm.symm
    have hP : va_P D vwCl (cW K a b t c (svG g sn) (setT T 5 (tn (xs ((4 * k) + 1))) (T 5 (tn (xs ((4 * k) + 1))) + (xs ((4 * k) + 2)))) len qu n cs ln (svN sn) (svV Sv sn T) (oC K o (vp_updL of 0 ((coT T (tn (xs ((4 * k) + 1))) + (xs ((4 * k) + 2))).toInt64)) :: rfW K r (nI 0) pn (svN sn) ln pm sta ms hs (setT T 5 (tn (xs ((4 * k) + 1))) (T 5 (tn (xs ((4 * k) + 1))) + (xs ((4 * k) + 2)))) (savS sv sn T) cs pf fa [])) H := hP
    have hD : va_D A (cW K a b t c (svG g sn) (setT T 5 (tn (xs ((4 * k) + 1))) (T 5 (tn (xs ((4 * k) + 1))) + (xs ((4 * k) + 2)))) len qu n cs ln (svN sn) (svV Sv sn T) (oC K o (vp_updL of 0 ((coT T (tn (xs ((4 * k) + 1))) + (xs ((4 * k) + 2))).toInt64)) :: rfW K r (nI 0) pn (svN sn) ln pm sta ms hs (setT T 5 (tn (xs ((4 * k) + 1))) (T 5 (tn (xs ((4 * k) + 1))) + (xs ((4 * k) + 2)))) (savS sv sn T) cs pf fa [])) := hD
    refine top_i (y := coT T (tn (xs ((4 * k) + 1))) + (xs ((4 * k) + 2))) (if_pos hE0) ?_
    refine lv_istore (lv' := [(6, .int (coT T (tn (xs ((4 * k) + 1))) + (xs ((4 * k) + 2)))), (5, .int (nI 0)), (4, .int (nI (4 * k))), (0, .ref b9), (1, .ref (c 0)), (2, .ref (r 0)), (3, .ref o)]) hx hb dL_law_611 hl (by decide) rfl (fun ls hl => ?_)
    refine lv_aload_n hx hb dL_law_613 rfl (lv_at hl 5 rfl) ?_
    have hP := hP.perm lw_pm
    have hD := hD.perm lw_pm
    refine wr_V (rest := []) (ci := 4) (q0 := 0) ⟨hx, hb, hml, hown, hts⟩ hP hE hA hD hS (c_X4_thrown l D K _ _ _ _ _ _ _ _ _ _ _ _ _ _ _ _ ) (cwV 0 hts gL_law_X4_thrown rfl rfl rfl hd_X4_thrown ⟨Nat.le_of_ble_eq_true rfl, Nat.le_of_ble_eq_true rfl⟩) rfl rfl rfl rfl hl.1 rfl (Nat.le_of_ble_eq_true rfl) dL_law_614 ⟨show _ ≤ 601024 by omega, show _ ≤ 7293034 by omega⟩ (fun H locs hP hD hS => ?_)
    have hP : va_P D vwCl (rfW K r (nI 0) pn (svN sn) ln pm sta ms hs (setT T 5 (tn (xs ((4 * k) + 1))) (T 5 (tn (xs ((4 * k) + 1))) + (xs ((4 * k) + 2)))) (savS sv sn T) cs pf fa (cW K a b t c (svG g sn) (setT T 5 (tn (xs ((4 * k) + 1))) (T 5 (tn (xs ((4 * k) + 1))) + (xs ((4 * k) + 2)))) len qu n cs ln (svN sn) (svV Sv sn T) [oC K o (vp_updL of 0 ((coT T (tn (xs ((4 * k) + 1))) + (xs ((4 * k) + 2))).toInt64))])) H := hP
    have hD : va_D A (rfW K r (nI 0) pn (svN sn) ln pm sta ms hs (setT T 5 (tn (xs ((4 * k) + 1))) (T 5 (tn (xs ((4 * k) + 1))) + (xs ((4 * k) + 2)))) (savS sv sn T) cs pf fa (cW K a b t c (svG g sn) (setT T 5 (tn (xs ((4 * k) + 1))) (T 5 (tn (xs ((4 * k) + 1))) + (xs ((4 * k) + 2)))) len qu n cs ln (svN sn) (svV Sv sn T) [oC K o (vp_updL of 0 ((coT T (tn (xs ((4 * k) + 1))) + (xs ((4 * k) + 2))).toInt64))])) := hD
    have hP := hP.perm lw_pm.symm
    have hD := hD.perm lw_pm.symm
    have hP : va_P D vwCl (cW K a b t c (svG g sn) (setT T 5 (tn (xs ((4 * k) + 1))) (T 5 (tn (xs ((4 * k) + 1))) + (xs ((4 * k) + 2)))) len qu n cs ln (svN sn) (svV Sv sn T) (oC K o (vp_updL of 0 ((coT T (tn (xs ((4 * k) + 1))) + (xs ((4 * k) + 2))).toInt64)) :: rfW K r (nI 0) pn (svN sn) ln pm sta ms hs (setT T 5 (tn (xs ((4 * k) + 1))) (T 5 (tn (xs ((4 * k) + 1))) + (xs ((4 * k) + 2)))) (savS sv sn T) cs pf fa [])) H := hP
    have hD : va_D A (cW K a b t c (svG g sn) (setT T 5 (tn (xs ((4 * k) + 1))) (T 5 (tn (xs ((4 * k) + 1))) + (xs ((4 * k) + 2)))) len qu n cs ln (svN sn) (svV Sv sn T) (oC K o (vp_updL of 0 ((coT T (tn (xs ((4 * k) + 1))) + (xs ((4 * k) + 2))).toInt64)) :: rfW K r (nI 0) pn (svN sn) ln pm sta ms hs (setT T 5 (tn (xs ((4 * k) + 1))) (T 5 (tn (xs ((4 * k) + 1))) + (xs ((4 * k) + 2)))) (savS sv sn T) cs pf fa [])) := hD
    refine lv_iload hx hb dL_law_617 (lv_at hl 1 rfl) ?_
    refine nv_icmp_eq (x := 0) (y := 0) (tgt := 624) hx hb dL_law_619 (by decide) (by decide) (by decide) (fun c_1 => ?_) (fun c_1 => ?_)
    · refine lv_iload hx hb dL_law_624 (lv_at hl 1 rfl) ?_
      refine nv_if_ne (x := 0) (tgt := 641) hx hb dL_law_626 (by decide) (by decide) (fun c_2 => ?_) (fun c_2 => ?_)
      · exact absurd c_2 (by decide)
      have n_c_2 : ¬ 0 < 0 := by omega
      refine lv_aload_n hx hb dL_law_629 rfl (lv_at hl 6 rfl) ?_
      refine lv_iconst (v := nI 0) hx hb dL_law_630 (by decide) ?_
      refine nv_lald hx hb hE hP 91 rfl dL_law_631 ?_
      refine top_l (y := (coT T (tn (xs ((4 * k) + 1))) + (xs ((4 * k) + 2))).toInt64) rfl ?_
      refine lv_iload hx hb dL_law_632 (lv_at hl 0 rfl) ?_
      refine lv_i2l (v := (coT T (tn (xs ((4 * k) + 1))) + (xs ((4 * k) + 2))).toInt64) hx hb dL_law_634 rfl ?_
      refine W.lcmp hx hb dL_law_635 ?_
      refine top_i (y := nI 0) (lcmp_rf _) ?_
      refine nv_if_eq (x := 0) (tgt := 641) hx hb dL_law_636 (by decide) (by decide) (fun c_3 => ?_) (fun c_3 => ?_)
      · have n_c_3 : ¬ 0 < 0 := by omega
        refine lv_goto (tgt := 1550) hx hb dL_law_641 (by decide) ?_
        refine W.widen (k := cells + 1) (n := slots + 6) (by omega) (by omega) ?_
        exact kk _ _ _ _ _ _ _ _ _ _ _ _ _ _ _ _ _ _ _ (hLI0.giv) H locs ls hP hD hS (lv_sub hl [2, 3, 4, 5, 6] rfl)
      exact absurd c_3 (by decide)
    exact absurd c_1 (by decide)
  · refine lx_S (rest := []) ⟨hx, hb, hml, hown, hts⟩ hP hE hA hD hS hXw hZ hxn (c_L_give l D K dp fs hst _ _ _ _ _ _ _ _ _ _ _ _ _ _ (xs ((4 * k) + 1)) (xs ((4 * k) + 2)) hI hsn _ _ _) (vx_cwSW 4 hts gL_law_L_give rfl rfl rfl hn_L_give ⟨Nat.le_of_ble_eq_true rfl, Nat.le_of_ble_eq_true rfl⟩) rfl hl.1 rfl (Nat.le_of_ble_eq_true rfl) dL_law_590 ⟨show _ ≤ 601024 by omega, show _ ≤ 7293034 by omega⟩ (fun H locs hP hD hS => ?_)
    rw [if_neg hE0] at hP hD
    have hP : va_P D vwCl (cW K a b t c g T len qu n cs ln sn Sv (oC K o of :: rfW K r th pn sn ln pm sta ms hs T sv cs pf fa [])) H := hP
    have hD : va_D A (cW K a b t c g T len qu n cs ln sn Sv (oC K o of :: rfW K r th pn sn ln pm sta ms hs T sv cs pf fa [])) := hD
    refine top_i (y := nI (giE T (xs ((4 * k) + 1)) (xs ((4 * k) + 2)))) (rfl) ?_
    refine lv_istore (lv' := [(5, .int (nI (giE T (xs ((4 * k) + 1)) (xs ((4 * k) + 2))))), (4, .int (nI (4 * k))), (0, .ref b9), (1, .ref (c 0)), (2, .ref (r 0)), (3, .ref o)]) hx hb dL_law_593 hl (by decide) rfl (fun ls hl => ?_)
    refine lv_aload_n hx hb dL_law_595 rfl (lv_at hl 4 rfl) ?_
    refine lv_aload_n hx hb dL_law_596 rfl (lv_at hl 2 rfl) ?_
    refine lv_iload hx hb dL_law_597 (lv_at hl 1 rfl) ?_
    refine lv_iconst (v := nI 1) hx hb dL_law_599 (by decide) ?_
    refine nv_iadd (x := 4 * k) (y := 1) hx hb dL_law_600 ?_
    refine va_sld hx hb hX hbl hbA hS (pk_in ((4 * k) + 1) L (by omega)) dL_law_601 ?_
    rw [pk_cl ((4 * k) + 1)]
    refine lv_aload_n hx hb dL_law_602 rfl (lv_at hl 2 rfl) ?_
    refine lv_iload hx hb dL_law_603 (lv_at hl 1 rfl) ?_
    refine lv_iconst (v := nI 2) hx hb dL_law_605 (by decide) ?_
    refine nv_iadd (x := 4 * k) (y := 2) hx hb dL_law_606 ?_
    refine va_sld hx hb hX hbl hbA hS (pk_in ((4 * k) + 2) L (by omega)) dL_law_607 ?_
    rw [pk_cl ((4 * k) + 2)]
    have hP := hP.perm lw_pm
    have hD := hD.perm lw_pm
    refine wr_V (rest := []) (ci := 4) (q0 := 0) ⟨hx, hb, hml, hown, hts⟩ hP hE hA hD hS (c_X4_give l D K _ _ _ _ _ _ _ _ _ _ _ _ _ _ _ _ (xs ((4 * k) + 1)) (xs ((4 * k) + 2)) hI hsn) (cwV 2 hts gL_law_X4_give rfl rfl rfl hd_X4_give ⟨Nat.le_of_ble_eq_true rfl, Nat.le_of_ble_eq_true rfl⟩) rfl rfl rfl rfl hl.1 rfl (Nat.le_of_ble_eq_true rfl) dL_law_608 ⟨show _ ≤ 601024 by omega, show _ ≤ 7293034 by omega⟩ (fun H locs hP hD hS => ?_)
    rw [if_neg hE0] at hP hD
    have hP : va_P D vwCl (rfW K r (nI (giE T (xs ((4 * k) + 1)) (xs ((4 * k) + 2)))) pn sn ln pm sta ms hs T sv cs pf fa (cW K a b t c g T len qu n cs ln sn Sv [oC K o of])) H := hP
    have hD : va_D A (rfW K r (nI (giE T (xs ((4 * k) + 1)) (xs ((4 * k) + 2)))) pn sn ln pm sta ms hs T sv cs pf fa (cW K a b t c g T len qu n cs ln sn Sv [oC K o of])) := hD
    have hP := hP.perm lw_pm.symm
    have hD := hD.perm lw_pm.symm
    have hP : va_P D vwCl (cW K a b t c g T len qu n cs ln sn Sv (oC K o of :: rfW K r (nI (giE T (xs ((4 * k) + 1)) (xs ((4 * k) + 2)))) pn sn ln pm sta ms hs T sv cs pf fa [])) H := hP
    have hD : va_D A (cW K a b t c g T len qu n cs ln sn Sv (oC K o of :: rfW K r (nI (giE T (xs ((4 * k) + 1)) (xs ((4 * k) + 2)))) pn sn ln pm sta ms hs T sv cs pf fa [])) := hD
    refine top_i (y := 0) (if_neg hE0) ?_
    refine lv_istore (lv' := [(6, .int 0), (5, .int (nI (giE T (xs ((4 * k) + 1)) (xs ((4 * k) + 2))))), (4, .int (nI (4 * k))), (0, .ref b9), (1, .ref (c 0)), (2, .ref (r 0)), (3, .ref o)]) hx hb dL_law_611 hl (by decide) rfl (fun ls hl => ?_)
    refine lv_aload_n hx hb dL_law_613 rfl (lv_at hl 5 rfl) ?_
    have hP := hP.perm lw_pm
    have hD := hD.perm lw_pm
    refine wr_V (rest := []) (ci := 4) (q0 := 0) ⟨hx, hb, hml, hown, hts⟩ hP hE hA hD hS (c_X4_thrown l D K _ _ _ _ _ _ _ _ _ _ _ _ _ _ _ _ ) (cwV 0 hts gL_law_X4_thrown rfl rfl rfl hd_X4_thrown ⟨Nat.le_of_ble_eq_true rfl, Nat.le_of_ble_eq_true rfl⟩) rfl rfl rfl rfl hl.1 rfl (Nat.le_of_ble_eq_true rfl) dL_law_614 ⟨show _ ≤ 601024 by omega, show _ ≤ 7293034 by omega⟩ (fun H locs hP hD hS => ?_)
    have hP : va_P D vwCl (rfW K r (nI (giE T (xs ((4 * k) + 1)) (xs ((4 * k) + 2)))) pn sn ln pm sta ms hs T sv cs pf fa (cW K a b t c g T len qu n cs ln sn Sv [oC K o of])) H := hP
    have hD : va_D A (rfW K r (nI (giE T (xs ((4 * k) + 1)) (xs ((4 * k) + 2)))) pn sn ln pm sta ms hs T sv cs pf fa (cW K a b t c g T len qu n cs ln sn Sv [oC K o of])) := hD
    have hP := hP.perm lw_pm.symm
    have hD := hD.perm lw_pm.symm
    have hP : va_P D vwCl (cW K a b t c g T len qu n cs ln sn Sv (oC K o of :: rfW K r (nI (giE T (xs ((4 * k) + 1)) (xs ((4 * k) + 2)))) pn sn ln pm sta ms hs T sv cs pf fa [])) H := hP
    have hD : va_D A (cW K a b t c g T len qu n cs ln sn Sv (oC K o of :: rfW K r (nI (giE T (xs ((4 * k) + 1)) (xs ((4 * k) + 2)))) pn sn ln pm sta ms hs T sv cs pf fa [])) := hD
    refine lv_iload hx hb dL_law_617 (lv_at hl 1 rfl) ?_
    refine lv_icmp_eq (x := nI (giE T (xs ((4 * k) + 1)) (xs ((4 * k) + 2)))) (y := nI (giE T (xs ((4 * k) + 1)) (xs ((4 * k) + 2)))) (tgt := 624) hx hb dL_law_619 (by decide) (fun c_4 => ?_) (fun c_4 => ?_)
    · refine lv_iload hx hb dL_law_624 (lv_at hl 1 rfl) ?_
      refine nv_if_ne (x := giE T (xs ((4 * k) + 1)) (xs ((4 * k) + 2))) (tgt := 641) hx hb dL_law_626 (by decide) (by omega) (fun c_5 => ?_) (fun c_5 => ?_)
      · have n_c_5 : ¬ giE T (xs ((4 * k) + 1)) (xs ((4 * k) + 2)) = 0 := by omega
        refine lv_goto (tgt := 1550) hx hb dL_law_641 (by decide) ?_
        refine W.widen (k := cells + 1) (n := slots + 6) (by omega) (by omega) ?_
        exact kk _ _ _ _ _ _ _ _ _ _ _ _ _ _ _ _ _ _ _ (hLI0) H locs ls hP hD hS (lv_sub hl [2, 3, 4, 5, 6] rfl)
      exact absurd c_5 hE0
    exact absurd rfl c_4
set_option maxHeartbeats 4000000 in
set_option maxRecDepth 100000 in
theorem lc_set {pr : Program} {l : Launch} {en : Env} {st : State} {md : MethodId} {ar : Array Value} {bl : List Frame} {mt : Method} {co : Code} {D : va_G} {K : Nat → ClassId} {A : Nat → Prop} {Q : State → Prop} {b9 : Nat} {a b t c r : Nat → Nat} {o : Nat} {dp fs L : Nat} {xs : Nat → Int32} (hx : pr.tables.exec = Jvm.exec) (hb : co.code = cL_law) (hml : co.maxLocals = 9) (hts : ∀ w ∈ wsL_law, w.before ar st = true) (hown : st.vm.findClass RL = some md.cls) (hst : l.stackTraces = false) (hE : ev D K st) (hXw : xw st) (hxn : xn st) (hZ : xst dp fs A st st.heap) (hA : ∀ q : Nat, st.heap.size ≤ q → A q) (hX : va_X b9 L xs st st.heap) (hbl : b9 < st.heap.size) (hbA : ¬ A b9) (k : Nat) (hk : 4 * k + 4 ≤ L) (hL : L ≤ 2048) (cells slots : Nat) (hc1 : cells + 1 ≤ 601024) (hc2 : slots + 6 ≤ 7293034) (kk : Nx pr l en st md ar bl mt co D K A Q b9 a b t c r o k (cells + 1) (slots + 6) 1550) : Nx pr l en st md ar bl mt co D K A Q b9 a b t c r o k cells slots 644 := by
  intro T len qu n cs ln sn Sv g th pn pm sta ms hs sv pf fa of hLI H locs ls hP hD hS hl
  have hLI0 := hLI
  obtain ⟨hI, hK, hCB, hsn, hSV, hSI, hSH⟩ := hLI
  refine lv_aload_n hx hb dL_law_644 rfl (lv_at hl 2 rfl) ?_
  refine lv_aload_n hx hb dL_law_645 rfl (lv_at hl 1 rfl) ?_
  refine lv_iload hx hb dL_law_646 (lv_at hl 0 rfl) ?_
  refine lv_iconst (v := nI 1) hx hb dL_law_648 (by decide) ?_
  refine nv_iadd (x := 4 * k) (y := 1) hx hb dL_law_649 ?_
  refine va_sld hx hb hX hbl hbA hS (pk_in ((4 * k) + 1) L (by omega)) dL_law_650 ?_
  rw [pk_cl ((4 * k) + 1)]
  refine lv_aload_n hx hb dL_law_651 rfl (lv_at hl 1 rfl) ?_
  refine lv_iload hx hb dL_law_652 (lv_at hl 0 rfl) ?_
  refine lv_iconst (v := nI 2) hx hb dL_law_654 (by decide) ?_
  refine nv_iadd (x := 4 * k) (y := 2) hx hb dL_law_655 ?_
  refine va_sld hx hb hX hbl hbA hS (pk_in ((4 * k) + 2) L (by omega)) dL_law_656 ?_
  rw [pk_cl ((4 * k) + 2)]
  refine lv_aload_n hx hb dL_law_657 rfl (lv_at hl 4 rfl) ?_
  have hEl : seE (xs ((4 * k) + 1)) (xs ((4 * k) + 2)) ≤ 2 := by unfold seE; (repeat' split) <;> omega
  by_cases hE0 : seE (xs ((4 * k) + 1)) (xs ((4 * k) + 2)) = 0
  · refine lx_S (rest := []) ⟨hx, hb, hml, hown, hts⟩ hP hE hA hD hS hXw hZ hxn (c_L_set l D K dp fs hst _ _ _ _ _ _ _ _ _ _ _ _ _ _ (xs ((4 * k) + 1)) (xs ((4 * k) + 2)) hI hsn _ _ _) (vx_cwSW 4 hts gL_law_L_set rfl rfl rfl hn_L_set ⟨Nat.le_of_ble_eq_true rfl, Nat.le_of_ble_eq_true rfl⟩) rfl hl.1 rfl (Nat.le_of_ble_eq_true rfl) dL_law_658 ⟨show _ ≤ 601024 by omega, show _ ≤ 7293034 by omega⟩ (fun H locs hP hD hS => ?_)
    rw [if_pos hE0] at hP hD
    have hP : va_P D vwCl (cW K a b t c (svG g sn) (setT T 10 (tn (xs ((4 * k) + 1))) (xs ((4 * k) + 2))) len qu n cs ln (svN sn) (svV Sv sn T) (oC K o (vp_updL of 0 ((nI (stT T (tn (xs ((4 * k) + 1))))).toInt64)) :: rfW K r th pn sn ln pm sta ms hs T sv cs pf fa [])) H := hP
    have hD : va_D A (cW K a b t c (svG g sn) (setT T 10 (tn (xs ((4 * k) + 1))) (xs ((4 * k) + 2))) len qu n cs ln (svN sn) (svV Sv sn T) (oC K o (vp_updL of 0 ((nI (stT T (tn (xs ((4 * k) + 1))))).toInt64)) :: rfW K r th pn sn ln pm sta ms hs T sv cs pf fa [])) := hD
    refine top_i (y := nI 0) (by rw [hE0]) ?_
    refine lv_istore (lv' := [(5, .int (nI 0)), (4, .int (nI (4 * k))), (0, .ref b9), (1, .ref (c 0)), (2, .ref (r 0)), (3, .ref o)]) hx hb dL_law_661 hl (by decide) rfl (fun ls hl => ?_)
    refine lv_aload_n hx hb dL_law_663 rfl (lv_at hl 4 rfl) ?_
    refine lv_aload_n hx hb dL_law_664 rfl (lv_at hl 2 rfl) ?_
    refine lv_iload hx hb dL_law_665 (lv_at hl 1 rfl) ?_
    refine lv_iconst (v := nI 1) hx hb dL_law_667 (by decide) ?_
    refine nv_iadd (x := 4 * k) (y := 1) hx hb dL_law_668 ?_
    refine va_sld hx hb hX hbl hbA hS (pk_in ((4 * k) + 1) L (by omega)) dL_law_669 ?_
    rw [pk_cl ((4 * k) + 1)]
    refine lv_aload_n hx hb dL_law_670 rfl (lv_at hl 2 rfl) ?_
    refine lv_iload hx hb dL_law_671 (lv_at hl 1 rfl) ?_
    refine lv_iconst (v := nI 2) hx hb dL_law_673 (by decide) ?_
    refine nv_iadd (x := 4 * k) (y := 2) hx hb dL_law_674 ?_
    refine va_sld hx hb hX hbl hbA hS (pk_in ((4 * k) + 2) L (by omega)) dL_law_675 ?_
    rw [pk_cl ((4 * k) + 2)]
    have hP := hP.perm lw_pm
    have hD := hD.perm lw_pm
    refine wr_V (rest := []) (ci := 4) (q0 := 0) ⟨hx, hb, hml, hown, hts⟩ hP hE hA hD hS (c_X4_set l D K _ _ _ _ _ _ _ _ _ _ _ _ _ _ _ _ (xs ((4 * k) + 1)) (xs ((4 * k) + 2)) hI hsn) (cwV 2 hts gL_law_X4_set rfl rfl rfl hd_X4_set ⟨Nat.le_of_ble_eq_true rfl, Nat.le_of_ble_eq_true rfl⟩) rfl rfl rfl rfl hl.1 rfl (Nat.le_of_ble_eq_true rfl) dL_law_676 ⟨show _ ≤ 601024 by omega, show _ ≤ 7293034 by omega⟩ (fun H locs hP hD hS => ?_)
    rw [if_pos hE0] at hP hD
    have hP : va_P D vwCl (rfW K r (nI 0) pn (svN sn) ln pm sta ms hs (setT T 10 (tn (xs ((4 * k) + 1))) (xs ((4 * k) + 2))) (savS sv sn T) cs pf fa (cW K a b t c (svG g sn) (setT T 10 (tn (xs ((4 * k) + 1))) (xs ((4 * k) + 2))) len qu n cs ln (svN sn) (svV Sv sn T) [oC K o (vp_updL of 0 ((nI (stT T (tn (xs ((4 * k) + 1))))).toInt64))])) H := hP
    have hD : va_D A (rfW K r (nI 0) pn (svN sn) ln pm sta ms hs (setT T 10 (tn (xs ((4 * k) + 1))) (xs ((4 * k) + 2))) (savS sv sn T) cs pf fa (cW K a b t c (svG g sn) (setT T 10 (tn (xs ((4 * k) + 1))) (xs ((4 * k) + 2))) len qu n cs ln (svN sn) (svV Sv sn T) [oC K o (vp_updL of 0 ((nI (stT T (tn (xs ((4 * k) + 1))))).toInt64))])) := hD
    have hP := hP.perm lw_pm.symm
    have hD := hD.perm lw_pm.symm
    have hP : va_P D vwCl (cW K a b t c (svG g sn) (setT T 10 (tn (xs ((4 * k) + 1))) (xs ((4 * k) + 2))) len qu n cs ln (svN sn) (svV Sv sn T) (oC K o (vp_updL of 0 ((nI (stT T (tn (xs ((4 * k) + 1))))).toInt64)) :: rfW K r (nI 0) pn (svN sn) ln pm sta ms hs (setT T 10 (tn (xs ((4 * k) + 1))) (xs ((4 * k) + 2))) (savS sv sn T) cs pf fa [])) H := hP
    have hD : va_D A (cW K a b t c (svG g sn) (setT T 10 (tn (xs ((4 * k) + 1))) (xs ((4 * k) + 2))) len qu n cs ln (svN sn) (svV Sv sn T) (oC K o (vp_updL of 0 ((nI (stT T (tn (xs ((4 * k) + 1))))).toInt64)) :: rfW K r (nI 0) pn (svN sn) ln pm sta ms hs (setT T 10 (tn (xs ((4 * k) + 1))) (xs ((4 * k) + 2))) (savS sv sn T) cs pf fa [])) := hD
    refine top_i (y := nI (stT T (tn (xs ((4 * k) + 1))))) (if_pos hE0) ?_
    refine lv_istore (lv' := [(6, .int (nI (stT T (tn (xs ((4 * k) + 1)))))), (5, .int (nI 0)), (4, .int (nI (4 * k))), (0, .ref b9), (1, .ref (c 0)), (2, .ref (r 0)), (3, .ref o)]) hx hb dL_law_679 hl (by decide) rfl (fun ls hl => ?_)
    refine lv_aload_n hx hb dL_law_681 rfl (lv_at hl 5 rfl) ?_
    have hP := hP.perm lw_pm
    have hD := hD.perm lw_pm
    refine wr_V (rest := []) (ci := 4) (q0 := 0) ⟨hx, hb, hml, hown, hts⟩ hP hE hA hD hS (c_X4_thrown l D K _ _ _ _ _ _ _ _ _ _ _ _ _ _ _ _ ) (cwV 0 hts gL_law_X4_thrown rfl rfl rfl hd_X4_thrown ⟨Nat.le_of_ble_eq_true rfl, Nat.le_of_ble_eq_true rfl⟩) rfl rfl rfl rfl hl.1 rfl (Nat.le_of_ble_eq_true rfl) dL_law_682 ⟨show _ ≤ 601024 by omega, show _ ≤ 7293034 by omega⟩ (fun H locs hP hD hS => ?_)
    have hP : va_P D vwCl (rfW K r (nI 0) pn (svN sn) ln pm sta ms hs (setT T 10 (tn (xs ((4 * k) + 1))) (xs ((4 * k) + 2))) (savS sv sn T) cs pf fa (cW K a b t c (svG g sn) (setT T 10 (tn (xs ((4 * k) + 1))) (xs ((4 * k) + 2))) len qu n cs ln (svN sn) (svV Sv sn T) [oC K o (vp_updL of 0 ((nI (stT T (tn (xs ((4 * k) + 1))))).toInt64))])) H := hP
    have hD : va_D A (rfW K r (nI 0) pn (svN sn) ln pm sta ms hs (setT T 10 (tn (xs ((4 * k) + 1))) (xs ((4 * k) + 2))) (savS sv sn T) cs pf fa (cW K a b t c (svG g sn) (setT T 10 (tn (xs ((4 * k) + 1))) (xs ((4 * k) + 2))) len qu n cs ln (svN sn) (svV Sv sn T) [oC K o (vp_updL of 0 ((nI (stT T (tn (xs ((4 * k) + 1))))).toInt64))])) := hD
    have hP := hP.perm lw_pm.symm
    have hD := hD.perm lw_pm.symm
    have hP : va_P D vwCl (cW K a b t c (svG g sn) (setT T 10 (tn (xs ((4 * k) + 1))) (xs ((4 * k) + 2))) len qu n cs ln (svN sn) (svV Sv sn T) (oC K o (vp_updL of 0 ((nI (stT T (tn (xs ((4 * k) + 1))))).toInt64)) :: rfW K r (nI 0) pn (svN sn) ln pm sta ms hs (setT T 10 (tn (xs ((4 * k) + 1))) (xs ((4 * k) + 2))) (savS sv sn T) cs pf fa [])) H := hP
    have hD : va_D A (cW K a b t c (svG g sn) (setT T 10 (tn (xs ((4 * k) + 1))) (xs ((4 * k) + 2))) len qu n cs ln (svN sn) (svV Sv sn T) (oC K o (vp_updL of 0 ((nI (stT T (tn (xs ((4 * k) + 1))))).toInt64)) :: rfW K r (nI 0) pn (svN sn) ln pm sta ms hs (setT T 10 (tn (xs ((4 * k) + 1))) (xs ((4 * k) + 2))) (savS sv sn T) cs pf fa [])) := hD
    refine lv_iload hx hb dL_law_685 (lv_at hl 1 rfl) ?_
    refine nv_icmp_eq (x := 0) (y := 0) (tgt := 692) hx hb dL_law_687 (by decide) (by decide) (by decide) (fun c_1 => ?_) (fun c_1 => ?_)
    · refine lv_iload hx hb dL_law_692 (lv_at hl 1 rfl) ?_
      refine nv_if_ne (x := 0) (tgt := 709) hx hb dL_law_694 (by decide) (by decide) (fun c_2 => ?_) (fun c_2 => ?_)
      · exact absurd c_2 (by decide)
      have n_c_2 : ¬ 0 < 0 := by omega
      refine lv_aload_n hx hb dL_law_697 rfl (lv_at hl 6 rfl) ?_
      refine lv_iconst (v := nI 0) hx hb dL_law_698 (by decide) ?_
      refine nv_lald hx hb hE hP 91 rfl dL_law_699 ?_
      refine top_l (y := (nI (stT T (tn (xs ((4 * k) + 1))))).toInt64) rfl ?_
      refine lv_iload hx hb dL_law_700 (lv_at hl 0 rfl) ?_
      refine lv_i2l (v := (nI (stT T (tn (xs ((4 * k) + 1))))).toInt64) hx hb dL_law_702 rfl ?_
      refine W.lcmp hx hb dL_law_703 ?_
      refine top_i (y := nI 0) (lcmp_rf _) ?_
      refine nv_if_eq (x := 0) (tgt := 709) hx hb dL_law_704 (by decide) (by decide) (fun c_3 => ?_) (fun c_3 => ?_)
      · have n_c_3 : ¬ 0 < 0 := by omega
        refine lv_goto (tgt := 1550) hx hb dL_law_709 (by decide) ?_
        refine W.widen (k := cells + 1) (n := slots + 6) (by omega) (by omega) ?_
        exact kk _ _ _ _ _ _ _ _ _ _ _ _ _ _ _ _ _ _ _ (hLI0.set hE0) H locs ls hP hD hS (lv_sub hl [2, 3, 4, 5, 6] rfl)
      exact absurd c_3 (by decide)
    exact absurd c_1 (by decide)
  · refine lx_S (rest := []) ⟨hx, hb, hml, hown, hts⟩ hP hE hA hD hS hXw hZ hxn (c_L_set l D K dp fs hst _ _ _ _ _ _ _ _ _ _ _ _ _ _ (xs ((4 * k) + 1)) (xs ((4 * k) + 2)) hI hsn _ _ _) (vx_cwSW 4 hts gL_law_L_set rfl rfl rfl hn_L_set ⟨Nat.le_of_ble_eq_true rfl, Nat.le_of_ble_eq_true rfl⟩) rfl hl.1 rfl (Nat.le_of_ble_eq_true rfl) dL_law_658 ⟨show _ ≤ 601024 by omega, show _ ≤ 7293034 by omega⟩ (fun H locs hP hD hS => ?_)
    rw [if_neg hE0] at hP hD
    have hP : va_P D vwCl (cW K a b t c g T len qu n cs ln sn Sv (oC K o of :: rfW K r th pn sn ln pm sta ms hs T sv cs pf fa [])) H := hP
    have hD : va_D A (cW K a b t c g T len qu n cs ln sn Sv (oC K o of :: rfW K r th pn sn ln pm sta ms hs T sv cs pf fa [])) := hD
    refine top_i (y := nI (seE (xs ((4 * k) + 1)) (xs ((4 * k) + 2)))) (rfl) ?_
    refine lv_istore (lv' := [(5, .int (nI (seE (xs ((4 * k) + 1)) (xs ((4 * k) + 2))))), (4, .int (nI (4 * k))), (0, .ref b9), (1, .ref (c 0)), (2, .ref (r 0)), (3, .ref o)]) hx hb dL_law_661 hl (by decide) rfl (fun ls hl => ?_)
    refine lv_aload_n hx hb dL_law_663 rfl (lv_at hl 4 rfl) ?_
    refine lv_aload_n hx hb dL_law_664 rfl (lv_at hl 2 rfl) ?_
    refine lv_iload hx hb dL_law_665 (lv_at hl 1 rfl) ?_
    refine lv_iconst (v := nI 1) hx hb dL_law_667 (by decide) ?_
    refine nv_iadd (x := 4 * k) (y := 1) hx hb dL_law_668 ?_
    refine va_sld hx hb hX hbl hbA hS (pk_in ((4 * k) + 1) L (by omega)) dL_law_669 ?_
    rw [pk_cl ((4 * k) + 1)]
    refine lv_aload_n hx hb dL_law_670 rfl (lv_at hl 2 rfl) ?_
    refine lv_iload hx hb dL_law_671 (lv_at hl 1 rfl) ?_
    refine lv_iconst (v := nI 2) hx hb dL_law_673 (by decide) ?_
    refine nv_iadd (x := 4 * k) (y := 2) hx hb dL_law_674 ?_
    refine va_sld hx hb hX hbl hbA hS (pk_in ((4 * k) + 2) L (by omega)) dL_law_675 ?_
    rw [pk_cl ((4 * k) + 2)]
    have hP := hP.perm lw_pm
    have hD := hD.perm lw_pm
    refine wr_V (rest := []) (ci := 4) (q0 := 0) ⟨hx, hb, hml, hown, hts⟩ hP hE hA hD hS (c_X4_set l D K _ _ _ _ _ _ _ _ _ _ _ _ _ _ _ _ (xs ((4 * k) + 1)) (xs ((4 * k) + 2)) hI hsn) (cwV 2 hts gL_law_X4_set rfl rfl rfl hd_X4_set ⟨Nat.le_of_ble_eq_true rfl, Nat.le_of_ble_eq_true rfl⟩) rfl rfl rfl rfl hl.1 rfl (Nat.le_of_ble_eq_true rfl) dL_law_676 ⟨show _ ≤ 601024 by omega, show _ ≤ 7293034 by omega⟩ (fun H locs hP hD hS => ?_)
    rw [if_neg hE0] at hP hD
    have hP : va_P D vwCl (rfW K r (nI (seE (xs ((4 * k) + 1)) (xs ((4 * k) + 2)))) pn sn ln pm sta ms hs T sv cs pf fa (cW K a b t c g T len qu n cs ln sn Sv [oC K o of])) H := hP
    have hD : va_D A (rfW K r (nI (seE (xs ((4 * k) + 1)) (xs ((4 * k) + 2)))) pn sn ln pm sta ms hs T sv cs pf fa (cW K a b t c g T len qu n cs ln sn Sv [oC K o of])) := hD
    have hP := hP.perm lw_pm.symm
    have hD := hD.perm lw_pm.symm
    have hP : va_P D vwCl (cW K a b t c g T len qu n cs ln sn Sv (oC K o of :: rfW K r (nI (seE (xs ((4 * k) + 1)) (xs ((4 * k) + 2)))) pn sn ln pm sta ms hs T sv cs pf fa [])) H := hP
    have hD : va_D A (cW K a b t c g T len qu n cs ln sn Sv (oC K o of :: rfW K r (nI (seE (xs ((4 * k) + 1)) (xs ((4 * k) + 2)))) pn sn ln pm sta ms hs T sv cs pf fa [])) := hD
    refine top_i (y := 0) (if_neg hE0) ?_
    refine lv_istore (lv' := [(6, .int 0), (5, .int (nI (seE (xs ((4 * k) + 1)) (xs ((4 * k) + 2))))), (4, .int (nI (4 * k))), (0, .ref b9), (1, .ref (c 0)), (2, .ref (r 0)), (3, .ref o)]) hx hb dL_law_679 hl (by decide) rfl (fun ls hl => ?_)
    refine lv_aload_n hx hb dL_law_681 rfl (lv_at hl 5 rfl) ?_
    have hP := hP.perm lw_pm
    have hD := hD.perm lw_pm
    refine wr_V (rest := []) (ci := 4) (q0 := 0) ⟨hx, hb, hml, hown, hts⟩ hP hE hA hD hS (c_X4_thrown l D K _ _ _ _ _ _ _ _ _ _ _ _ _ _ _ _ ) (cwV 0 hts gL_law_X4_thrown rfl rfl rfl hd_X4_thrown ⟨Nat.le_of_ble_eq_true rfl, Nat.le_of_ble_eq_true rfl⟩) rfl rfl rfl rfl hl.1 rfl (Nat.le_of_ble_eq_true rfl) dL_law_682 ⟨show _ ≤ 601024 by omega, show _ ≤ 7293034 by omega⟩ (fun H locs hP hD hS => ?_)
    have hP : va_P D vwCl (rfW K r (nI (seE (xs ((4 * k) + 1)) (xs ((4 * k) + 2)))) pn sn ln pm sta ms hs T sv cs pf fa (cW K a b t c g T len qu n cs ln sn Sv [oC K o of])) H := hP
    have hD : va_D A (rfW K r (nI (seE (xs ((4 * k) + 1)) (xs ((4 * k) + 2)))) pn sn ln pm sta ms hs T sv cs pf fa (cW K a b t c g T len qu n cs ln sn Sv [oC K o of])) := hD
    have hP := hP.perm lw_pm.symm
    have hD := hD.perm lw_pm.symm
    have hP : va_P D vwCl (cW K a b t c g T len qu n cs ln sn Sv (oC K o of :: rfW K r (nI (seE (xs ((4 * k) + 1)) (xs ((4 * k) + 2)))) pn sn ln pm sta ms hs T sv cs pf fa [])) H := hP
    have hD : va_D A (cW K a b t c g T len qu n cs ln sn Sv (oC K o of :: rfW K r (nI (seE (xs ((4 * k) + 1)) (xs ((4 * k) + 2)))) pn sn ln pm sta ms hs T sv cs pf fa [])) := hD
    refine lv_iload hx hb dL_law_685 (lv_at hl 1 rfl) ?_
    refine lv_icmp_eq (x := nI (seE (xs ((4 * k) + 1)) (xs ((4 * k) + 2)))) (y := nI (seE (xs ((4 * k) + 1)) (xs ((4 * k) + 2)))) (tgt := 692) hx hb dL_law_687 (by decide) (fun c_4 => ?_) (fun c_4 => ?_)
    · refine lv_iload hx hb dL_law_692 (lv_at hl 1 rfl) ?_
      refine nv_if_ne (x := seE (xs ((4 * k) + 1)) (xs ((4 * k) + 2))) (tgt := 709) hx hb dL_law_694 (by decide) (by omega) (fun c_5 => ?_) (fun c_5 => ?_)
      · have n_c_5 : ¬ seE (xs ((4 * k) + 1)) (xs ((4 * k) + 2)) = 0 := by omega
        refine lv_goto (tgt := 1550) hx hb dL_law_709 (by decide) ?_
        refine W.widen (k := cells + 1) (n := slots + 6) (by omega) (by omega) ?_
        exact kk _ _ _ _ _ _ _ _ _ _ _ _ _ _ _ _ _ _ _ (hLI0) H locs ls hP hD hS (lv_sub hl [2, 3, 4, 5, 6] rfl)
      exact absurd c_5 hE0
    exact absurd rfl c_4
set_option maxHeartbeats 4000000 in
set_option maxRecDepth 100000 in
theorem lc_append {pr : Program} {l : Launch} {en : Env} {st : State} {md : MethodId} {ar : Array Value} {bl : List Frame} {mt : Method} {co : Code} {D : va_G} {K : Nat → ClassId} {A : Nat → Prop} {Q : State → Prop} {b9 : Nat} {a b t c r : Nat → Nat} {o : Nat} {dp fs L : Nat} {xs : Nat → Int32} (hx : pr.tables.exec = Jvm.exec) (hb : co.code = cL_law) (hml : co.maxLocals = 9) (hts : ∀ w ∈ wsL_law, w.before ar st = true) (hown : st.vm.findClass RL = some md.cls) (hst : l.stackTraces = false) (hE : ev D K st) (hXw : xw st) (hxn : xn st) (hZ : xst dp fs A st st.heap) (hA : ∀ q : Nat, st.heap.size ≤ q → A q) (hX : va_X b9 L xs st st.heap) (hbl : b9 < st.heap.size) (hbA : ¬ A b9) (k : Nat) (hk : 4 * k + 4 ≤ L) (hL : L ≤ 2048) (cells slots : Nat) (hc1 : cells + 1 ≤ 601024) (hc2 : slots + 6 ≤ 7293034) (kk : Nx pr l en st md ar bl mt co D K A Q b9 a b t c r o k (cells + 1) (slots + 6) 1550) : Nx pr l en st md ar bl mt co D K A Q b9 a b t c r o k cells slots 712 := by
  intro T len qu n cs ln sn Sv g th pn pm sta ms hs sv pf fa of hLI H locs ls hP hD hS hl
  have hLI0 := hLI
  obtain ⟨hI, hK, hCB, hsn, hSV, hSI, hSH⟩ := hLI
  refine lv_aload_n hx hb dL_law_712 rfl (lv_at hl 2 rfl) ?_
  refine lv_aload_n hx hb dL_law_713 rfl (lv_at hl 1 rfl) ?_
  refine lv_iload hx hb dL_law_714 (lv_at hl 0 rfl) ?_
  refine lv_iconst (v := nI 1) hx hb dL_law_716 (by decide) ?_
  refine nv_iadd (x := 4 * k) (y := 1) hx hb dL_law_717 ?_
  refine va_sld hx hb hX hbl hbA hS (pk_in ((4 * k) + 1) L (by omega)) dL_law_718 ?_
  rw [pk_cl ((4 * k) + 1)]
  refine lv_aload_n hx hb dL_law_719 rfl (lv_at hl 4 rfl) ?_
  have hEl : apE ln (xs ((4 * k) + 1)) ≤ 2 := by unfold apE; (repeat' split) <;> omega
  by_cases hE0 : apE ln (xs ((4 * k) + 1)) = 0
  · refine lx_S (rest := []) ⟨hx, hb, hml, hown, hts⟩ hP hE hA hD hS hXw hZ hxn (c_L_append l D K dp fs hst _ _ _ _ _ _ _ _ _ _ _ _ _ _ (xs ((4 * k) + 1)) hCB _ _ _) (vx_cwSW 3 hts gL_law_L_append rfl rfl rfl hn_L_append ⟨Nat.le_of_ble_eq_true rfl, Nat.le_of_ble_eq_true rfl⟩) rfl hl.1 rfl (Nat.le_of_ble_eq_true rfl) dL_law_720 ⟨show _ ≤ 601024 by omega, show _ ≤ 7293034 by omega⟩ (fun H locs hP hD hS => ?_)
    rw [if_pos hE0] at hP hD
    have hP : va_P D vwCl (cW K a b t c g T len qu n (va_up cs ln (tn (xs ((4 * k) + 1)))) (ln + 1) sn Sv (oC K o (vp_updL of 0 ((nI (ln + 1)).toInt64)) :: rfW K r th pn sn ln pm sta ms hs T sv cs pf fa [])) H := hP
    have hD : va_D A (cW K a b t c g T len qu n (va_up cs ln (tn (xs ((4 * k) + 1)))) (ln + 1) sn Sv (oC K o (vp_updL of 0 ((nI (ln + 1)).toInt64)) :: rfW K r th pn sn ln pm sta ms hs T sv cs pf fa [])) := hD
    refine top_i (y := nI 0) (by rw [hE0]) ?_
    refine lv_istore (lv' := [(5, .int (nI 0)), (4, .int (nI (4 * k))), (0, .ref b9), (1, .ref (c 0)), (2, .ref (r 0)), (3, .ref o)]) hx hb dL_law_723 hl (by decide) rfl (fun ls hl => ?_)
    refine lv_aload_n hx hb dL_law_725 rfl (lv_at hl 4 rfl) ?_
    refine lv_aload_n hx hb dL_law_726 rfl (lv_at hl 2 rfl) ?_
    refine lv_iload hx hb dL_law_727 (lv_at hl 1 rfl) ?_
    refine lv_iconst (v := nI 1) hx hb dL_law_729 (by decide) ?_
    refine nv_iadd (x := 4 * k) (y := 1) hx hb dL_law_730 ?_
    refine va_sld hx hb hX hbl hbA hS (pk_in ((4 * k) + 1) L (by omega)) dL_law_731 ?_
    rw [pk_cl ((4 * k) + 1)]
    have hP := hP.perm lw_pm
    have hD := hD.perm lw_pm
    refine wr_V (rest := []) (ci := 4) (q0 := 0) ⟨hx, hb, hml, hown, hts⟩ hP hE hA hD hS (c_X4_append l D K _ _ _ _ _ _ _ _ _ _ _ _ _ _ _ _ (xs ((4 * k) + 1)) hCB) (cwV 1 hts gL_law_X4_append rfl rfl rfl hd_X4_append ⟨Nat.le_of_ble_eq_true rfl, Nat.le_of_ble_eq_true rfl⟩) rfl rfl rfl rfl hl.1 rfl (Nat.le_of_ble_eq_true rfl) dL_law_732 ⟨show _ ≤ 601024 by omega, show _ ≤ 7293034 by omega⟩ (fun H locs hP hD hS => ?_)
    rw [if_pos hE0] at hP hD
    have hP : va_P D vwCl (rfW K r (nI 0) pn sn (ln + 1) pm sta ms hs T sv (va_up cs ln (tn (xs ((4 * k) + 1)))) pf fa (cW K a b t c g T len qu n (va_up cs ln (tn (xs ((4 * k) + 1)))) (ln + 1) sn Sv [oC K o (vp_updL of 0 ((nI (ln + 1)).toInt64))])) H := hP
    have hD : va_D A (rfW K r (nI 0) pn sn (ln + 1) pm sta ms hs T sv (va_up cs ln (tn (xs ((4 * k) + 1)))) pf fa (cW K a b t c g T len qu n (va_up cs ln (tn (xs ((4 * k) + 1)))) (ln + 1) sn Sv [oC K o (vp_updL of 0 ((nI (ln + 1)).toInt64))])) := hD
    have hP := hP.perm lw_pm.symm
    have hD := hD.perm lw_pm.symm
    have hP : va_P D vwCl (cW K a b t c g T len qu n (va_up cs ln (tn (xs ((4 * k) + 1)))) (ln + 1) sn Sv (oC K o (vp_updL of 0 ((nI (ln + 1)).toInt64)) :: rfW K r (nI 0) pn sn (ln + 1) pm sta ms hs T sv (va_up cs ln (tn (xs ((4 * k) + 1)))) pf fa [])) H := hP
    have hD : va_D A (cW K a b t c g T len qu n (va_up cs ln (tn (xs ((4 * k) + 1)))) (ln + 1) sn Sv (oC K o (vp_updL of 0 ((nI (ln + 1)).toInt64)) :: rfW K r (nI 0) pn sn (ln + 1) pm sta ms hs T sv (va_up cs ln (tn (xs ((4 * k) + 1)))) pf fa [])) := hD
    refine top_i (y := nI (ln + 1)) (if_pos hE0) ?_
    refine lv_istore (lv' := [(6, .int (nI (ln + 1))), (5, .int (nI 0)), (4, .int (nI (4 * k))), (0, .ref b9), (1, .ref (c 0)), (2, .ref (r 0)), (3, .ref o)]) hx hb dL_law_735 hl (by decide) rfl (fun ls hl => ?_)
    refine lv_aload_n hx hb dL_law_737 rfl (lv_at hl 5 rfl) ?_
    have hP := hP.perm lw_pm
    have hD := hD.perm lw_pm
    refine wr_V (rest := []) (ci := 4) (q0 := 0) ⟨hx, hb, hml, hown, hts⟩ hP hE hA hD hS (c_X4_thrown l D K _ _ _ _ _ _ _ _ _ _ _ _ _ _ _ _ ) (cwV 0 hts gL_law_X4_thrown rfl rfl rfl hd_X4_thrown ⟨Nat.le_of_ble_eq_true rfl, Nat.le_of_ble_eq_true rfl⟩) rfl rfl rfl rfl hl.1 rfl (Nat.le_of_ble_eq_true rfl) dL_law_738 ⟨show _ ≤ 601024 by omega, show _ ≤ 7293034 by omega⟩ (fun H locs hP hD hS => ?_)
    have hP : va_P D vwCl (rfW K r (nI 0) pn sn (ln + 1) pm sta ms hs T sv (va_up cs ln (tn (xs ((4 * k) + 1)))) pf fa (cW K a b t c g T len qu n (va_up cs ln (tn (xs ((4 * k) + 1)))) (ln + 1) sn Sv [oC K o (vp_updL of 0 ((nI (ln + 1)).toInt64))])) H := hP
    have hD : va_D A (rfW K r (nI 0) pn sn (ln + 1) pm sta ms hs T sv (va_up cs ln (tn (xs ((4 * k) + 1)))) pf fa (cW K a b t c g T len qu n (va_up cs ln (tn (xs ((4 * k) + 1)))) (ln + 1) sn Sv [oC K o (vp_updL of 0 ((nI (ln + 1)).toInt64))])) := hD
    have hP := hP.perm lw_pm.symm
    have hD := hD.perm lw_pm.symm
    have hP : va_P D vwCl (cW K a b t c g T len qu n (va_up cs ln (tn (xs ((4 * k) + 1)))) (ln + 1) sn Sv (oC K o (vp_updL of 0 ((nI (ln + 1)).toInt64)) :: rfW K r (nI 0) pn sn (ln + 1) pm sta ms hs T sv (va_up cs ln (tn (xs ((4 * k) + 1)))) pf fa [])) H := hP
    have hD : va_D A (cW K a b t c g T len qu n (va_up cs ln (tn (xs ((4 * k) + 1)))) (ln + 1) sn Sv (oC K o (vp_updL of 0 ((nI (ln + 1)).toInt64)) :: rfW K r (nI 0) pn sn (ln + 1) pm sta ms hs T sv (va_up cs ln (tn (xs ((4 * k) + 1)))) pf fa [])) := hD
    refine lv_iload hx hb dL_law_741 (lv_at hl 1 rfl) ?_
    refine nv_icmp_eq (x := 0) (y := 0) (tgt := 748) hx hb dL_law_743 (by decide) (by decide) (by decide) (fun c_1 => ?_) (fun c_1 => ?_)
    · refine lv_iload hx hb dL_law_748 (lv_at hl 1 rfl) ?_
      refine nv_if_ne (x := 0) (tgt := 765) hx hb dL_law_750 (by decide) (by decide) (fun c_2 => ?_) (fun c_2 => ?_)
      · exact absurd c_2 (by decide)
      have n_c_2 : ¬ 0 < 0 := by omega
      refine lv_aload_n hx hb dL_law_753 rfl (lv_at hl 6 rfl) ?_
      refine lv_iconst (v := nI 0) hx hb dL_law_754 (by decide) ?_
      refine nv_lald hx hb hE hP 91 rfl dL_law_755 ?_
      refine top_l (y := (nI (ln + 1)).toInt64) rfl ?_
      refine lv_iload hx hb dL_law_756 (lv_at hl 0 rfl) ?_
      refine lv_i2l (v := (nI (ln + 1)).toInt64) hx hb dL_law_758 rfl ?_
      refine W.lcmp hx hb dL_law_759 ?_
      refine top_i (y := nI 0) (lcmp_rf _) ?_
      refine nv_if_eq (x := 0) (tgt := 765) hx hb dL_law_760 (by decide) (by decide) (fun c_3 => ?_) (fun c_3 => ?_)
      · have n_c_3 : ¬ 0 < 0 := by omega
        refine lv_goto (tgt := 1550) hx hb dL_law_765 (by decide) ?_
        refine W.widen (k := cells + 1) (n := slots + 6) (by omega) (by omega) ?_
        exact kk _ _ _ _ _ _ _ _ _ _ _ _ _ _ _ _ _ _ _ (hLI0.app hE0) H locs ls hP hD hS (lv_sub hl [2, 3, 4, 5, 6] rfl)
      exact absurd c_3 (by decide)
    exact absurd c_1 (by decide)
  · refine lx_S (rest := []) ⟨hx, hb, hml, hown, hts⟩ hP hE hA hD hS hXw hZ hxn (c_L_append l D K dp fs hst _ _ _ _ _ _ _ _ _ _ _ _ _ _ (xs ((4 * k) + 1)) hCB _ _ _) (vx_cwSW 3 hts gL_law_L_append rfl rfl rfl hn_L_append ⟨Nat.le_of_ble_eq_true rfl, Nat.le_of_ble_eq_true rfl⟩) rfl hl.1 rfl (Nat.le_of_ble_eq_true rfl) dL_law_720 ⟨show _ ≤ 601024 by omega, show _ ≤ 7293034 by omega⟩ (fun H locs hP hD hS => ?_)
    rw [if_neg hE0] at hP hD
    have hP : va_P D vwCl (cW K a b t c g T len qu n cs ln sn Sv (oC K o of :: rfW K r th pn sn ln pm sta ms hs T sv cs pf fa [])) H := hP
    have hD : va_D A (cW K a b t c g T len qu n cs ln sn Sv (oC K o of :: rfW K r th pn sn ln pm sta ms hs T sv cs pf fa [])) := hD
    refine top_i (y := nI (apE ln (xs ((4 * k) + 1)))) (rfl) ?_
    refine lv_istore (lv' := [(5, .int (nI (apE ln (xs ((4 * k) + 1))))), (4, .int (nI (4 * k))), (0, .ref b9), (1, .ref (c 0)), (2, .ref (r 0)), (3, .ref o)]) hx hb dL_law_723 hl (by decide) rfl (fun ls hl => ?_)
    refine lv_aload_n hx hb dL_law_725 rfl (lv_at hl 4 rfl) ?_
    refine lv_aload_n hx hb dL_law_726 rfl (lv_at hl 2 rfl) ?_
    refine lv_iload hx hb dL_law_727 (lv_at hl 1 rfl) ?_
    refine lv_iconst (v := nI 1) hx hb dL_law_729 (by decide) ?_
    refine nv_iadd (x := 4 * k) (y := 1) hx hb dL_law_730 ?_
    refine va_sld hx hb hX hbl hbA hS (pk_in ((4 * k) + 1) L (by omega)) dL_law_731 ?_
    rw [pk_cl ((4 * k) + 1)]
    have hP := hP.perm lw_pm
    have hD := hD.perm lw_pm
    refine wr_V (rest := []) (ci := 4) (q0 := 0) ⟨hx, hb, hml, hown, hts⟩ hP hE hA hD hS (c_X4_append l D K _ _ _ _ _ _ _ _ _ _ _ _ _ _ _ _ (xs ((4 * k) + 1)) hCB) (cwV 1 hts gL_law_X4_append rfl rfl rfl hd_X4_append ⟨Nat.le_of_ble_eq_true rfl, Nat.le_of_ble_eq_true rfl⟩) rfl rfl rfl rfl hl.1 rfl (Nat.le_of_ble_eq_true rfl) dL_law_732 ⟨show _ ≤ 601024 by omega, show _ ≤ 7293034 by omega⟩ (fun H locs hP hD hS => ?_)
    rw [if_neg hE0] at hP hD
    have hP : va_P D vwCl (rfW K r (nI (apE ln (xs ((4 * k) + 1)))) pn sn ln pm sta ms hs T sv cs pf fa (cW K a b t c g T len qu n cs ln sn Sv [oC K o of])) H := hP
    have hD : va_D A (rfW K r (nI (apE ln (xs ((4 * k) + 1)))) pn sn ln pm sta ms hs T sv cs pf fa (cW K a b t c g T len qu n cs ln sn Sv [oC K o of])) := hD
    have hP := hP.perm lw_pm.symm
    have hD := hD.perm lw_pm.symm
    have hP : va_P D vwCl (cW K a b t c g T len qu n cs ln sn Sv (oC K o of :: rfW K r (nI (apE ln (xs ((4 * k) + 1)))) pn sn ln pm sta ms hs T sv cs pf fa [])) H := hP
    have hD : va_D A (cW K a b t c g T len qu n cs ln sn Sv (oC K o of :: rfW K r (nI (apE ln (xs ((4 * k) + 1)))) pn sn ln pm sta ms hs T sv cs pf fa [])) := hD
    refine top_i (y := 0) (if_neg hE0) ?_
    refine lv_istore (lv' := [(6, .int 0), (5, .int (nI (apE ln (xs ((4 * k) + 1))))), (4, .int (nI (4 * k))), (0, .ref b9), (1, .ref (c 0)), (2, .ref (r 0)), (3, .ref o)]) hx hb dL_law_735 hl (by decide) rfl (fun ls hl => ?_)
    refine lv_aload_n hx hb dL_law_737 rfl (lv_at hl 5 rfl) ?_
    have hP := hP.perm lw_pm
    have hD := hD.perm lw_pm
    refine wr_V (rest := []) (ci := 4) (q0 := 0) ⟨hx, hb, hml, hown, hts⟩ hP hE hA hD hS (c_X4_thrown l D K _ _ _ _ _ _ _ _ _ _ _ _ _ _ _ _ ) (cwV 0 hts gL_law_X4_thrown rfl rfl rfl hd_X4_thrown ⟨Nat.le_of_ble_eq_true rfl, Nat.le_of_ble_eq_true rfl⟩) rfl rfl rfl rfl hl.1 rfl (Nat.le_of_ble_eq_true rfl) dL_law_738 ⟨show _ ≤ 601024 by omega, show _ ≤ 7293034 by omega⟩ (fun H locs hP hD hS => ?_)
    have hP : va_P D vwCl (rfW K r (nI (apE ln (xs ((4 * k) + 1)))) pn sn ln pm sta ms hs T sv cs pf fa (cW K a b t c g T len qu n cs ln sn Sv [oC K o of])) H := hP
    have hD : va_D A (rfW K r (nI (apE ln (xs ((4 * k) + 1)))) pn sn ln pm sta ms hs T sv cs pf fa (cW K a b t c g T len qu n cs ln sn Sv [oC K o of])) := hD
    have hP := hP.perm lw_pm.symm
    have hD := hD.perm lw_pm.symm
    have hP : va_P D vwCl (cW K a b t c g T len qu n cs ln sn Sv (oC K o of :: rfW K r (nI (apE ln (xs ((4 * k) + 1)))) pn sn ln pm sta ms hs T sv cs pf fa [])) H := hP
    have hD : va_D A (cW K a b t c g T len qu n cs ln sn Sv (oC K o of :: rfW K r (nI (apE ln (xs ((4 * k) + 1)))) pn sn ln pm sta ms hs T sv cs pf fa [])) := hD
    refine lv_iload hx hb dL_law_741 (lv_at hl 1 rfl) ?_
    refine lv_icmp_eq (x := nI (apE ln (xs ((4 * k) + 1)))) (y := nI (apE ln (xs ((4 * k) + 1)))) (tgt := 748) hx hb dL_law_743 (by decide) (fun c_4 => ?_) (fun c_4 => ?_)
    · refine lv_iload hx hb dL_law_748 (lv_at hl 1 rfl) ?_
      refine nv_if_ne (x := apE ln (xs ((4 * k) + 1))) (tgt := 765) hx hb dL_law_750 (by decide) (by omega) (fun c_5 => ?_) (fun c_5 => ?_)
      · have n_c_5 : ¬ apE ln (xs ((4 * k) + 1)) = 0 := by omega
        refine lv_goto (tgt := 1550) hx hb dL_law_765 (by decide) ?_
        refine W.widen (k := cells + 1) (n := slots + 6) (by omega) (by omega) ?_
        exact kk _ _ _ _ _ _ _ _ _ _ _ _ _ _ _ _ _ _ _ (hLI0) H locs ls hP hD hS (lv_sub hl [2, 3, 4, 5, 6] rfl)
      exact absurd c_5 hE0
    exact absurd rfl c_4
set_option maxHeartbeats 4000000 in
set_option maxRecDepth 100000 in
theorem lc_clearBuffer {pr : Program} {l : Launch} {en : Env} {st : State} {md : MethodId} {ar : Array Value} {bl : List Frame} {mt : Method} {co : Code} {D : va_G} {K : Nat → ClassId} {A : Nat → Prop} {Q : State → Prop} {b9 : Nat} {a b t c r : Nat → Nat} {o : Nat} {dp fs L : Nat} {xs : Nat → Int32} (hx : pr.tables.exec = Jvm.exec) (hb : co.code = cL_law) (hml : co.maxLocals = 9) (hts : ∀ w ∈ wsL_law, w.before ar st = true) (hown : st.vm.findClass RL = some md.cls) (hst : l.stackTraces = false) (hE : ev D K st) (hXw : xw st) (hxn : xn st) (hZ : xst dp fs A st st.heap) (hA : ∀ q : Nat, st.heap.size ≤ q → A q) (hX : va_X b9 L xs st st.heap) (hbl : b9 < st.heap.size) (hbA : ¬ A b9) (k : Nat) (hk : 4 * k + 4 ≤ L) (hL : L ≤ 2048) (cells slots : Nat) (hc1 : cells + 1 ≤ 601024) (hc2 : slots + 6 ≤ 7293034) (kk : Nx pr l en st md ar bl mt co D K A Q b9 a b t c r o k (cells + 1) (slots + 6) 1550) : Nx pr l en st md ar bl mt co D K A Q b9 a b t c r o k cells slots 768 := by
  intro T len qu n cs ln sn Sv g th pn pm sta ms hs sv pf fa of hLI H locs ls hP hD hS hl
  have hLI0 := hLI
  obtain ⟨hI, hK, hCB, hsn, hSV, hSI, hSH⟩ := hLI
  refine lv_aload_n hx hb dL_law_768 rfl (lv_at hl 2 rfl) ?_
  refine wr_V (rest := []) (ci := 3) (q0 := 17) ⟨hx, hb, hml, hown, hts⟩ hP hE hA hD hS (c_X3_clearBuffer l D K _ _ _ _ _ _ _ _ _ _ _ _ _ _ _ ) (cwV 0 hts gL_law_X3_clearBuffer rfl rfl rfl hd_X3_clearBuffer ⟨Nat.le_of_ble_eq_true rfl, Nat.le_of_ble_eq_true rfl⟩) rfl rfl rfl rfl hl.1 rfl (Nat.le_of_ble_eq_true rfl) dL_law_769 ⟨show _ ≤ 601024 by omega, show _ ≤ 7293034 by omega⟩ (fun H locs hP hD hS => ?_)
  have hP : va_P D vwCl (cW K a b t c g T len qu n cs 0 sn Sv (oC K o of :: rfW K r th pn sn ln pm sta ms hs T sv cs pf fa [])) H := hP
  have hD : va_D A (cW K a b t c g T len qu n cs 0 sn Sv (oC K o of :: rfW K r th pn sn ln pm sta ms hs T sv cs pf fa [])) := hD
  refine lv_aload_n hx hb dL_law_772 rfl (lv_at hl 3 rfl) ?_
  have hP := hP.perm lw_pm
  have hD := hD.perm lw_pm
  refine wr_V (rest := [.int (nI ln)]) (ci := 4) (q0 := 0) ⟨hx, hb, hml, hown, hts⟩ hP hE hA hD hS (c_X4_clearBuffer l D K _ _ _ _ _ _ _ _ _ _ _ _ _ _ _ _ ) (cwV 0 hts gL_law_X4_clearBuffer rfl rfl rfl hd_X4_clearBuffer ⟨Nat.le_of_ble_eq_true rfl, Nat.le_of_ble_eq_true rfl⟩) rfl rfl rfl rfl hl.1 rfl (Nat.le_of_ble_eq_true rfl) dL_law_773 ⟨show _ ≤ 601024 by omega, show _ ≤ 7293034 by omega⟩ (fun H locs hP hD hS => ?_)
  have hP : va_P D vwCl (rfW K r (nI 0) pn sn 0 pm sta ms hs T sv cs pf fa (cW K a b t c g T len qu n cs 0 sn Sv [oC K o of])) H := hP
  have hD : va_D A (rfW K r (nI 0) pn sn 0 pm sta ms hs T sv cs pf fa (cW K a b t c g T len qu n cs 0 sn Sv [oC K o of])) := hD
  have hP := hP.perm lw_pm.symm
  have hD := hD.perm lw_pm.symm
  have hP : va_P D vwCl (cW K a b t c g T len qu n cs 0 sn Sv (oC K o of :: rfW K r (nI 0) pn sn 0 pm sta ms hs T sv cs pf fa [])) H := hP
  have hD : va_D A (cW K a b t c g T len qu n cs 0 sn Sv (oC K o of :: rfW K r (nI 0) pn sn 0 pm sta ms hs T sv cs pf fa [])) := hD
  refine lv_icmp_eq (x := nI ln) (y := nI ln) (tgt := 1550) hx hb dL_law_776 (by decide) (fun c_1 => ?_) (fun c_1 => ?_)
  · refine W.widen (k := cells + 1) (n := slots + 6) (by omega) (by omega) ?_
    exact kk _ _ _ _ _ _ _ _ _ _ _ _ _ _ _ _ _ _ _ (hLI0.txt (CB.zero cs)) H locs ls hP hD hS (lv_sub hl [0, 1, 2, 3, 4] rfl)
  exact absurd rfl c_1
