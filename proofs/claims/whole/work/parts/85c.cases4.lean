/-! the law, cases 4 -/
set_option maxHeartbeats 4000000 in
set_option maxRecDepth 100000 in
theorem lc_player {pr : Program} {l : Launch} {en : Env} {st : State} {md : MethodId} {ar : Array Value} {bl : List Frame} {mt : Method} {co : Code} {D : va_G} {K : Nat → ClassId} {A : Nat → Prop} {Q : State → Prop} {b9 : Nat} {a b t c r : Nat → Nat} {o : Nat} {dp fs L : Nat} {xs : Nat → Int32} (hx : pr.tables.exec = Jvm.exec) (hb : co.code = cL_law) (hml : co.maxLocals = 9) (hts : ∀ w ∈ wsL_law, w.before ar st = true) (hown : st.vm.findClass RL = some md.cls) (hst : l.stackTraces = false) (hE : ev D K st) (hXw : xw st) (hxn : xn st) (hZ : xst dp fs A st st.heap) (hA : ∀ q : Nat, st.heap.size ≤ q → A q) (hX : va_X b9 L xs st st.heap) (hbl : b9 < st.heap.size) (hbA : ¬ A b9) (k : Nat) (hk : 4 * k + 4 ≤ L) (hL : L ≤ 2048) (cells slots : Nat) (hc1 : cells + 1 ≤ 601024) (hc2 : slots + 6 ≤ 7293034) (kk : Nx pr l en st md ar bl mt co D K A Q b9 a b t c r o k (cells + 1) (slots + 6) 1550) : Nx pr l en st md ar bl mt co D K A Q b9 a b t c r o k cells slots 1018 := by
  intro T len qu n cs ln sn Sv g th pn pm sta ms hs sv pf fa of hLI H locs ls hP hD hS hl
  have hLI0 := hLI
  obtain ⟨hI, hK, hCB, hsn, hSV, hSI, hSH⟩ := hLI
  refine lv_aload_n hx hb dL_law_1018 rfl (lv_at hl 2 rfl) ?_
  refine lv_aload_n hx hb dL_law_1019 rfl (lv_at hl 1 rfl) ?_
  refine lv_iload hx hb dL_law_1020 (lv_at hl 0 rfl) ?_
  refine lv_iconst (v := nI 1) hx hb dL_law_1022 (by decide) ?_
  refine nv_iadd (x := 4 * k) (y := 1) hx hb dL_law_1023 ?_
  refine va_sld hx hb hX hbl hbA hS (pk_in ((4 * k) + 1) L (by omega)) dL_law_1024 ?_
  rw [pk_cl ((4 * k) + 1)]
  refine lv_aload_n hx hb dL_law_1025 rfl (lv_at hl 1 rfl) ?_
  refine lv_iload hx hb dL_law_1026 (lv_at hl 0 rfl) ?_
  refine lv_iconst (v := nI 2) hx hb dL_law_1028 (by decide) ?_
  refine nv_iadd (x := 4 * k) (y := 2) hx hb dL_law_1029 ?_
  refine va_sld hx hb hX hbl hbA hS (pk_in ((4 * k) + 2) L (by omega)) dL_law_1030 ?_
  rw [pk_cl ((4 * k) + 2)]
  refine lv_aload_n hx hb dL_law_1031 rfl (lv_at hl 4 rfl) ?_
  have hEl : q2 0 3 0 9 (xs ((4 * k) + 1)) (xs ((4 * k) + 2)) ≤ 2 := by unfold q2; (repeat' split) <;> omega
  by_cases hE0 : q2 0 3 0 9 (xs ((4 * k) + 1)) (xs ((4 * k) + 2)) = 0
  · refine lx_S (rest := []) ⟨hx, hb, hml, hown, hts⟩ hP hE hA hD hS hXw hZ hxn (c_L_player l D K dp fs hst _ _ _ _ _ _ _ _ _ _ _ _ _ _ (xs ((4 * k) + 1)) (xs ((4 * k) + 2)) hI _ _ _) (vx_cwSW 4 hts gL_law_L_player rfl rfl rfl hn_L_player ⟨Nat.le_of_ble_eq_true rfl, Nat.le_of_ble_eq_true rfl⟩) rfl hl.1 rfl (Nat.le_of_ble_eq_true rfl) dL_law_1032 ⟨show _ ≤ 601024 by omega, show _ ≤ 7293034 by omega⟩ (fun H locs hP hD hS => ?_)
    rw [if_pos hE0] at hP hD
    have hP : va_P D vwCl (cW K a b t c g T len qu n cs ln sn Sv (oC K o (vp_updL of 0 ((ppT T (tn (xs ((4 * k) + 1))) (tn (xs ((4 * k) + 2)))).toInt64)) :: rfW K r th pn sn ln pm sta ms hs T sv cs pf fa [])) H := hP
    have hD : va_D A (cW K a b t c g T len qu n cs ln sn Sv (oC K o (vp_updL of 0 ((ppT T (tn (xs ((4 * k) + 1))) (tn (xs ((4 * k) + 2)))).toInt64)) :: rfW K r th pn sn ln pm sta ms hs T sv cs pf fa [])) := hD
    refine top_i (y := nI 0) (by rw [hE0]) ?_
    refine lv_istore (lv' := [(5, .int (nI 0)), (4, .int (nI (4 * k))), (0, .ref b9), (1, .ref (c 0)), (2, .ref (r 0)), (3, .ref o)]) hx hb dL_law_1035 hl (by decide) rfl (fun ls hl => ?_)
    refine lv_aload_n hx hb dL_law_1037 rfl (lv_at hl 4 rfl) ?_
    refine lv_aload_n hx hb dL_law_1038 rfl (lv_at hl 2 rfl) ?_
    refine lv_iload hx hb dL_law_1039 (lv_at hl 1 rfl) ?_
    refine lv_iconst (v := nI 1) hx hb dL_law_1041 (by decide) ?_
    refine nv_iadd (x := 4 * k) (y := 1) hx hb dL_law_1042 ?_
    refine va_sld hx hb hX hbl hbA hS (pk_in ((4 * k) + 1) L (by omega)) dL_law_1043 ?_
    rw [pk_cl ((4 * k) + 1)]
    refine lv_aload_n hx hb dL_law_1044 rfl (lv_at hl 2 rfl) ?_
    refine lv_iload hx hb dL_law_1045 (lv_at hl 1 rfl) ?_
    refine lv_iconst (v := nI 2) hx hb dL_law_1047 (by decide) ?_
    refine nv_iadd (x := 4 * k) (y := 2) hx hb dL_law_1048 ?_
    refine va_sld hx hb hX hbl hbA hS (pk_in ((4 * k) + 2) L (by omega)) dL_law_1049 ?_
    rw [pk_cl ((4 * k) + 2)]
    have hP := hP.perm lw_pm
    have hD := hD.perm lw_pm
    refine wr_V (rest := []) (ci := 4) (q0 := 0) ⟨hx, hb, hml, hown, hts⟩ hP hE hA hD hS (c_X4_player l D K _ _ _ _ _ _ _ _ _ _ _ _ _ _ _ _ (xs ((4 * k) + 1)) (xs ((4 * k) + 2)) hI) (cwV 2 hts gL_law_X4_player rfl rfl rfl hd_X4_player ⟨Nat.le_of_ble_eq_true rfl, Nat.le_of_ble_eq_true rfl⟩) rfl rfl rfl rfl hl.1 rfl (Nat.le_of_ble_eq_true rfl) dL_law_1050 ⟨show _ ≤ 601024 by omega, show _ ≤ 7293034 by omega⟩ (fun H locs hP hD hS => ?_)
    rw [if_pos hE0] at hP hD
    have hP : va_P D vwCl (rfW K r (nI 0) pn sn ln pm sta ms hs T sv cs pf fa (cW K a b t c g T len qu n cs ln sn Sv [oC K o (vp_updL of 0 ((ppT T (tn (xs ((4 * k) + 1))) (tn (xs ((4 * k) + 2)))).toInt64))])) H := hP
    have hD : va_D A (rfW K r (nI 0) pn sn ln pm sta ms hs T sv cs pf fa (cW K a b t c g T len qu n cs ln sn Sv [oC K o (vp_updL of 0 ((ppT T (tn (xs ((4 * k) + 1))) (tn (xs ((4 * k) + 2)))).toInt64))])) := hD
    have hP := hP.perm lw_pm.symm
    have hD := hD.perm lw_pm.symm
    have hP : va_P D vwCl (cW K a b t c g T len qu n cs ln sn Sv (oC K o (vp_updL of 0 ((ppT T (tn (xs ((4 * k) + 1))) (tn (xs ((4 * k) + 2)))).toInt64)) :: rfW K r (nI 0) pn sn ln pm sta ms hs T sv cs pf fa [])) H := hP
    have hD : va_D A (cW K a b t c g T len qu n cs ln sn Sv (oC K o (vp_updL of 0 ((ppT T (tn (xs ((4 * k) + 1))) (tn (xs ((4 * k) + 2)))).toInt64)) :: rfW K r (nI 0) pn sn ln pm sta ms hs T sv cs pf fa [])) := hD
    refine top_i (y := ppT T (tn (xs ((4 * k) + 1))) (tn (xs ((4 * k) + 2)))) (if_pos hE0) ?_
    refine lv_istore (lv' := [(6, .int (ppT T (tn (xs ((4 * k) + 1))) (tn (xs ((4 * k) + 2))))), (5, .int (nI 0)), (4, .int (nI (4 * k))), (0, .ref b9), (1, .ref (c 0)), (2, .ref (r 0)), (3, .ref o)]) hx hb dL_law_1053 hl (by decide) rfl (fun ls hl => ?_)
    refine lv_aload_n hx hb dL_law_1055 rfl (lv_at hl 5 rfl) ?_
    have hP := hP.perm lw_pm
    have hD := hD.perm lw_pm
    refine wr_V (rest := []) (ci := 4) (q0 := 0) ⟨hx, hb, hml, hown, hts⟩ hP hE hA hD hS (c_X4_thrown l D K _ _ _ _ _ _ _ _ _ _ _ _ _ _ _ _ ) (cwV 0 hts gL_law_X4_thrown rfl rfl rfl hd_X4_thrown ⟨Nat.le_of_ble_eq_true rfl, Nat.le_of_ble_eq_true rfl⟩) rfl rfl rfl rfl hl.1 rfl (Nat.le_of_ble_eq_true rfl) dL_law_1056 ⟨show _ ≤ 601024 by omega, show _ ≤ 7293034 by omega⟩ (fun H locs hP hD hS => ?_)
    have hP : va_P D vwCl (rfW K r (nI 0) pn sn ln pm sta ms hs T sv cs pf fa (cW K a b t c g T len qu n cs ln sn Sv [oC K o (vp_updL of 0 ((ppT T (tn (xs ((4 * k) + 1))) (tn (xs ((4 * k) + 2)))).toInt64))])) H := hP
    have hD : va_D A (rfW K r (nI 0) pn sn ln pm sta ms hs T sv cs pf fa (cW K a b t c g T len qu n cs ln sn Sv [oC K o (vp_updL of 0 ((ppT T (tn (xs ((4 * k) + 1))) (tn (xs ((4 * k) + 2)))).toInt64))])) := hD
    have hP := hP.perm lw_pm.symm
    have hD := hD.perm lw_pm.symm
    have hP : va_P D vwCl (cW K a b t c g T len qu n cs ln sn Sv (oC K o (vp_updL of 0 ((ppT T (tn (xs ((4 * k) + 1))) (tn (xs ((4 * k) + 2)))).toInt64)) :: rfW K r (nI 0) pn sn ln pm sta ms hs T sv cs pf fa [])) H := hP
    have hD : va_D A (cW K a b t c g T len qu n cs ln sn Sv (oC K o (vp_updL of 0 ((ppT T (tn (xs ((4 * k) + 1))) (tn (xs ((4 * k) + 2)))).toInt64)) :: rfW K r (nI 0) pn sn ln pm sta ms hs T sv cs pf fa [])) := hD
    refine lv_iload hx hb dL_law_1059 (lv_at hl 1 rfl) ?_
    refine nv_icmp_eq (x := 0) (y := 0) (tgt := 1066) hx hb dL_law_1061 (by decide) (by decide) (by decide) (fun c_1 => ?_) (fun c_1 => ?_)
    · refine lv_iload hx hb dL_law_1066 (lv_at hl 1 rfl) ?_
      refine nv_if_ne (x := 0) (tgt := 1083) hx hb dL_law_1068 (by decide) (by decide) (fun c_2 => ?_) (fun c_2 => ?_)
      · exact absurd c_2 (by decide)
      have n_c_2 : ¬ 0 < 0 := by omega
      refine lv_aload_n hx hb dL_law_1071 rfl (lv_at hl 6 rfl) ?_
      refine lv_iconst (v := nI 0) hx hb dL_law_1072 (by decide) ?_
      refine nv_lald hx hb hE hP 91 rfl dL_law_1073 ?_
      refine top_l (y := (ppT T (tn (xs ((4 * k) + 1))) (tn (xs ((4 * k) + 2)))).toInt64) rfl ?_
      refine lv_iload hx hb dL_law_1074 (lv_at hl 0 rfl) ?_
      refine lv_i2l (v := (ppT T (tn (xs ((4 * k) + 1))) (tn (xs ((4 * k) + 2)))).toInt64) hx hb dL_law_1076 rfl ?_
      refine W.lcmp hx hb dL_law_1077 ?_
      refine top_i (y := nI 0) (lcmp_rf _) ?_
      refine nv_if_eq (x := 0) (tgt := 1083) hx hb dL_law_1078 (by decide) (by decide) (fun c_3 => ?_) (fun c_3 => ?_)
      · have n_c_3 : ¬ 0 < 0 := by omega
        refine lv_goto (tgt := 1550) hx hb dL_law_1083 (by decide) ?_
        refine W.widen (k := cells + 1) (n := slots + 6) (by omega) (by omega) ?_
        exact kk _ _ _ _ _ _ _ _ _ _ _ _ _ _ _ _ _ _ _ (hLI0) H locs ls hP hD hS (lv_sub hl [2, 3, 4, 5, 6] rfl)
      exact absurd c_3 (by decide)
    exact absurd c_1 (by decide)
  · refine lx_S (rest := []) ⟨hx, hb, hml, hown, hts⟩ hP hE hA hD hS hXw hZ hxn (c_L_player l D K dp fs hst _ _ _ _ _ _ _ _ _ _ _ _ _ _ (xs ((4 * k) + 1)) (xs ((4 * k) + 2)) hI _ _ _) (vx_cwSW 4 hts gL_law_L_player rfl rfl rfl hn_L_player ⟨Nat.le_of_ble_eq_true rfl, Nat.le_of_ble_eq_true rfl⟩) rfl hl.1 rfl (Nat.le_of_ble_eq_true rfl) dL_law_1032 ⟨show _ ≤ 601024 by omega, show _ ≤ 7293034 by omega⟩ (fun H locs hP hD hS => ?_)
    rw [if_neg hE0] at hP hD
    have hP : va_P D vwCl (cW K a b t c g T len qu n cs ln sn Sv (oC K o of :: rfW K r th pn sn ln pm sta ms hs T sv cs pf fa [])) H := hP
    have hD : va_D A (cW K a b t c g T len qu n cs ln sn Sv (oC K o of :: rfW K r th pn sn ln pm sta ms hs T sv cs pf fa [])) := hD
    refine top_i (y := nI (q2 0 3 0 9 (xs ((4 * k) + 1)) (xs ((4 * k) + 2)))) (rfl) ?_
    refine lv_istore (lv' := [(5, .int (nI (q2 0 3 0 9 (xs ((4 * k) + 1)) (xs ((4 * k) + 2))))), (4, .int (nI (4 * k))), (0, .ref b9), (1, .ref (c 0)), (2, .ref (r 0)), (3, .ref o)]) hx hb dL_law_1035 hl (by decide) rfl (fun ls hl => ?_)
    refine lv_aload_n hx hb dL_law_1037 rfl (lv_at hl 4 rfl) ?_
    refine lv_aload_n hx hb dL_law_1038 rfl (lv_at hl 2 rfl) ?_
    refine lv_iload hx hb dL_law_1039 (lv_at hl 1 rfl) ?_
    refine lv_iconst (v := nI 1) hx hb dL_law_1041 (by decide) ?_
    refine nv_iadd (x := 4 * k) (y := 1) hx hb dL_law_1042 ?_
    refine va_sld hx hb hX hbl hbA hS (pk_in ((4 * k) + 1) L (by omega)) dL_law_1043 ?_
    rw [pk_cl ((4 * k) + 1)]
    refine lv_aload_n hx hb dL_law_1044 rfl (lv_at hl 2 rfl) ?_
    refine lv_iload hx hb dL_law_1045 (lv_at hl 1 rfl) ?_
    refine lv_iconst (v := nI 2) hx hb dL_law_1047 (by decide) ?_
    refine nv_iadd (x := 4 * k) (y := 2) hx hb dL_law_1048 ?_
    refine va_sld hx hb hX hbl hbA hS (pk_in ((4 * k) + 2) L (by omega)) dL_law_1049 ?_
    rw [pk_cl ((4 * k) + 2)]
    have hP := hP.perm lw_pm
    have hD := hD.perm lw_pm
    refine wr_V (rest := []) (ci := 4) (q0 := 0) ⟨hx, hb, hml, hown, hts⟩ hP hE hA hD hS (c_X4_player l D K _ _ _ _ _ _ _ _ _ _ _ _ _ _ _ _ (xs ((4 * k) + 1)) (xs ((4 * k) + 2)) hI) (cwV 2 hts gL_law_X4_player rfl rfl rfl hd_X4_player ⟨Nat.le_of_ble_eq_true rfl, Nat.le_of_ble_eq_true rfl⟩) rfl rfl rfl rfl hl.1 rfl (Nat.le_of_ble_eq_true rfl) dL_law_1050 ⟨show _ ≤ 601024 by omega, show _ ≤ 7293034 by omega⟩ (fun H locs hP hD hS => ?_)
    rw [if_neg hE0] at hP hD
    have hP : va_P D vwCl (rfW K r (nI (q2 0 3 0 9 (xs ((4 * k) + 1)) (xs ((4 * k) + 2)))) pn sn ln pm sta ms hs T sv cs pf fa (cW K a b t c g T len qu n cs ln sn Sv [oC K o of])) H := hP
    have hD : va_D A (rfW K r (nI (q2 0 3 0 9 (xs ((4 * k) + 1)) (xs ((4 * k) + 2)))) pn sn ln pm sta ms hs T sv cs pf fa (cW K a b t c g T len qu n cs ln sn Sv [oC K o of])) := hD
    have hP := hP.perm lw_pm.symm
    have hD := hD.perm lw_pm.symm
    have hP : va_P D vwCl (cW K a b t c g T len qu n cs ln sn Sv (oC K o of :: rfW K r (nI (q2 0 3 0 9 (xs ((4 * k) + 1)) (xs ((4 * k) + 2)))) pn sn ln pm sta ms hs T sv cs pf fa [])) H := hP
    have hD : va_D A (cW K a b t c g T len qu n cs ln sn Sv (oC K o of :: rfW K r (nI (q2 0 3 0 9 (xs ((4 * k) + 1)) (xs ((4 * k) + 2)))) pn sn ln pm sta ms hs T sv cs pf fa [])) := hD
    refine top_i (y := 0) (if_neg hE0) ?_
    refine lv_istore (lv' := [(6, .int 0), (5, .int (nI (q2 0 3 0 9 (xs ((4 * k) + 1)) (xs ((4 * k) + 2))))), (4, .int (nI (4 * k))), (0, .ref b9), (1, .ref (c 0)), (2, .ref (r 0)), (3, .ref o)]) hx hb dL_law_1053 hl (by decide) rfl (fun ls hl => ?_)
    refine lv_aload_n hx hb dL_law_1055 rfl (lv_at hl 5 rfl) ?_
    have hP := hP.perm lw_pm
    have hD := hD.perm lw_pm
    refine wr_V (rest := []) (ci := 4) (q0 := 0) ⟨hx, hb, hml, hown, hts⟩ hP hE hA hD hS (c_X4_thrown l D K _ _ _ _ _ _ _ _ _ _ _ _ _ _ _ _ ) (cwV 0 hts gL_law_X4_thrown rfl rfl rfl hd_X4_thrown ⟨Nat.le_of_ble_eq_true rfl, Nat.le_of_ble_eq_true rfl⟩) rfl rfl rfl rfl hl.1 rfl (Nat.le_of_ble_eq_true rfl) dL_law_1056 ⟨show _ ≤ 601024 by omega, show _ ≤ 7293034 by omega⟩ (fun H locs hP hD hS => ?_)
    have hP : va_P D vwCl (rfW K r (nI (q2 0 3 0 9 (xs ((4 * k) + 1)) (xs ((4 * k) + 2)))) pn sn ln pm sta ms hs T sv cs pf fa (cW K a b t c g T len qu n cs ln sn Sv [oC K o of])) H := hP
    have hD : va_D A (rfW K r (nI (q2 0 3 0 9 (xs ((4 * k) + 1)) (xs ((4 * k) + 2)))) pn sn ln pm sta ms hs T sv cs pf fa (cW K a b t c g T len qu n cs ln sn Sv [oC K o of])) := hD
    have hP := hP.perm lw_pm.symm
    have hD := hD.perm lw_pm.symm
    have hP : va_P D vwCl (cW K a b t c g T len qu n cs ln sn Sv (oC K o of :: rfW K r (nI (q2 0 3 0 9 (xs ((4 * k) + 1)) (xs ((4 * k) + 2)))) pn sn ln pm sta ms hs T sv cs pf fa [])) H := hP
    have hD : va_D A (cW K a b t c g T len qu n cs ln sn Sv (oC K o of :: rfW K r (nI (q2 0 3 0 9 (xs ((4 * k) + 1)) (xs ((4 * k) + 2)))) pn sn ln pm sta ms hs T sv cs pf fa [])) := hD
    refine lv_iload hx hb dL_law_1059 (lv_at hl 1 rfl) ?_
    refine lv_icmp_eq (x := nI (q2 0 3 0 9 (xs ((4 * k) + 1)) (xs ((4 * k) + 2)))) (y := nI (q2 0 3 0 9 (xs ((4 * k) + 1)) (xs ((4 * k) + 2)))) (tgt := 1066) hx hb dL_law_1061 (by decide) (fun c_4 => ?_) (fun c_4 => ?_)
    · refine lv_iload hx hb dL_law_1066 (lv_at hl 1 rfl) ?_
      refine nv_if_ne (x := q2 0 3 0 9 (xs ((4 * k) + 1)) (xs ((4 * k) + 2))) (tgt := 1083) hx hb dL_law_1068 (by decide) (by omega) (fun c_5 => ?_) (fun c_5 => ?_)
      · have n_c_5 : ¬ q2 0 3 0 9 (xs ((4 * k) + 1)) (xs ((4 * k) + 2)) = 0 := by omega
        refine lv_goto (tgt := 1550) hx hb dL_law_1083 (by decide) ?_
        refine W.widen (k := cells + 1) (n := slots + 6) (by omega) (by omega) ?_
        exact kk _ _ _ _ _ _ _ _ _ _ _ _ _ _ _ _ _ _ _ (hLI0) H locs ls hP hD hS (lv_sub hl [2, 3, 4, 5, 6] rfl)
      exact absurd c_5 hE0
    exact absurd rfl c_4
set_option maxHeartbeats 4000000 in
set_option maxRecDepth 100000 in
theorem lc_refusal {pr : Program} {l : Launch} {en : Env} {st : State} {md : MethodId} {ar : Array Value} {bl : List Frame} {mt : Method} {co : Code} {D : va_G} {K : Nat → ClassId} {A : Nat → Prop} {Q : State → Prop} {b9 : Nat} {a b t c r : Nat → Nat} {o : Nat} {dp fs L : Nat} {xs : Nat → Int32} (hx : pr.tables.exec = Jvm.exec) (hb : co.code = cL_law) (hml : co.maxLocals = 9) (hts : ∀ w ∈ wsL_law, w.before ar st = true) (hown : st.vm.findClass RL = some md.cls) (hst : l.stackTraces = false) (hE : ev D K st) (hXw : xw st) (hxn : xn st) (hZ : xst dp fs A st st.heap) (hA : ∀ q : Nat, st.heap.size ≤ q → A q) (hX : va_X b9 L xs st st.heap) (hbl : b9 < st.heap.size) (hbA : ¬ A b9) (k : Nat) (hk : 4 * k + 4 ≤ L) (hL : L ≤ 2048) (cells slots : Nat) (hc1 : cells + 1 ≤ 601024) (hc2 : slots + 6 ≤ 7293034) (kk : Nx pr l en st md ar bl mt co D K A Q b9 a b t c r o k (cells + 1) (slots + 6) 1550) : Nx pr l en st md ar bl mt co D K A Q b9 a b t c r o k cells slots 1086 := by
  intro T len qu n cs ln sn Sv g th pn pm sta ms hs sv pf fa of hLI H locs ls hP hD hS hl
  have hLI0 := hLI
  obtain ⟨hI, hK, hCB, hsn, hSV, hSI, hSH⟩ := hLI
  refine lv_aload_n hx hb dL_law_1086 rfl (lv_at hl 2 rfl) ?_
  refine lv_aload_n hx hb dL_law_1087 rfl (lv_at hl 1 rfl) ?_
  refine lv_iload hx hb dL_law_1088 (lv_at hl 0 rfl) ?_
  refine lv_iconst (v := nI 1) hx hb dL_law_1090 (by decide) ?_
  refine nv_iadd (x := 4 * k) (y := 1) hx hb dL_law_1091 ?_
  refine va_sld hx hb hX hbl hbA hS (pk_in ((4 * k) + 1) L (by omega)) dL_law_1092 ?_
  rw [pk_cl ((4 * k) + 1)]
  refine lv_aload_n hx hb dL_law_1093 rfl (lv_at hl 1 rfl) ?_
  refine lv_iload hx hb dL_law_1094 (lv_at hl 0 rfl) ?_
  refine lv_iconst (v := nI 2) hx hb dL_law_1096 (by decide) ?_
  refine nv_iadd (x := 4 * k) (y := 2) hx hb dL_law_1097 ?_
  refine va_sld hx hb hX hbl hbA hS (pk_in ((4 * k) + 2) L (by omega)) dL_law_1098 ?_
  rw [pk_cl ((4 * k) + 2)]
  refine lv_aload_n hx hb dL_law_1099 rfl (lv_at hl 1 rfl) ?_
  refine lv_iload hx hb dL_law_1100 (lv_at hl 0 rfl) ?_
  refine lv_iconst (v := nI 3) hx hb dL_law_1102 (by decide) ?_
  refine nv_iadd (x := 4 * k) (y := 3) hx hb dL_law_1103 ?_
  refine va_sld hx hb hX hbl hbA hS (pk_in ((4 * k) + 3) L (by omega)) dL_law_1104 ?_
  rw [pk_cl ((4 * k) + 3)]
  refine lv_aload_n hx hb dL_law_1105 rfl (lv_at hl 4 rfl) ?_
  have hEl : rfE (xs ((4 * k) + 1)) (xs ((4 * k) + 2)) (xs ((4 * k) + 3)) ≤ 2 := by unfold rfE; (repeat' split) <;> omega
  by_cases hE0 : rfE (xs ((4 * k) + 1)) (xs ((4 * k) + 2)) (xs ((4 * k) + 3)) = 0
  · refine lx_S (rest := []) ⟨hx, hb, hml, hown, hts⟩ hP hE hA hD hS hXw hZ hxn (c_L_refusal l D K dp fs hst _ _ _ _ _ _ _ _ _ _ _ _ _ _ (xs ((4 * k) + 1)) (xs ((4 * k) + 2)) (xs ((4 * k) + 3)) hI _ _ _) (vx_cwSW 5 hts gL_law_L_refusal rfl rfl rfl hn_L_refusal ⟨Nat.le_of_ble_eq_true rfl, Nat.le_of_ble_eq_true rfl⟩) rfl hl.1 rfl (Nat.le_of_ble_eq_true rfl) dL_law_1106 ⟨show _ ≤ 601024 by omega, show _ ≤ 7293034 by omega⟩ (fun H locs hP hD hS => ?_)
    rw [if_pos hE0] at hP hD
    have hP : va_P D vwCl (cW K a b t c g T len qu n cs ln sn Sv (oC K o (vp_updL of 0 ((nI (whyT T (tn (xs ((4 * k) + 1))) (hdT T (tn (xs ((4 * k) + 1)))) (tn (xs ((4 * k) + 2))) (tn (xs ((4 * k) + 3))))).toInt64)) :: rfW K r th pn sn ln pm sta ms hs T sv cs pf fa [])) H := hP
    have hD : va_D A (cW K a b t c g T len qu n cs ln sn Sv (oC K o (vp_updL of 0 ((nI (whyT T (tn (xs ((4 * k) + 1))) (hdT T (tn (xs ((4 * k) + 1)))) (tn (xs ((4 * k) + 2))) (tn (xs ((4 * k) + 3))))).toInt64)) :: rfW K r th pn sn ln pm sta ms hs T sv cs pf fa [])) := hD
    refine top_i (y := nI 0) (by rw [hE0]) ?_
    refine lv_istore (lv' := [(5, .int (nI 0)), (4, .int (nI (4 * k))), (0, .ref b9), (1, .ref (c 0)), (2, .ref (r 0)), (3, .ref o)]) hx hb dL_law_1109 hl (by decide) rfl (fun ls hl => ?_)
    refine lv_aload_n hx hb dL_law_1111 rfl (lv_at hl 4 rfl) ?_
    refine lv_aload_n hx hb dL_law_1112 rfl (lv_at hl 2 rfl) ?_
    refine lv_iload hx hb dL_law_1113 (lv_at hl 1 rfl) ?_
    refine lv_iconst (v := nI 1) hx hb dL_law_1115 (by decide) ?_
    refine nv_iadd (x := 4 * k) (y := 1) hx hb dL_law_1116 ?_
    refine va_sld hx hb hX hbl hbA hS (pk_in ((4 * k) + 1) L (by omega)) dL_law_1117 ?_
    rw [pk_cl ((4 * k) + 1)]
    refine lv_aload_n hx hb dL_law_1118 rfl (lv_at hl 2 rfl) ?_
    refine lv_iload hx hb dL_law_1119 (lv_at hl 1 rfl) ?_
    refine lv_iconst (v := nI 2) hx hb dL_law_1121 (by decide) ?_
    refine nv_iadd (x := 4 * k) (y := 2) hx hb dL_law_1122 ?_
    refine va_sld hx hb hX hbl hbA hS (pk_in ((4 * k) + 2) L (by omega)) dL_law_1123 ?_
    rw [pk_cl ((4 * k) + 2)]
    refine lv_aload_n hx hb dL_law_1124 rfl (lv_at hl 2 rfl) ?_
    refine lv_iload hx hb dL_law_1125 (lv_at hl 1 rfl) ?_
    refine lv_iconst (v := nI 3) hx hb dL_law_1127 (by decide) ?_
    refine nv_iadd (x := 4 * k) (y := 3) hx hb dL_law_1128 ?_
    refine va_sld hx hb hX hbl hbA hS (pk_in ((4 * k) + 3) L (by omega)) dL_law_1129 ?_
    rw [pk_cl ((4 * k) + 3)]
    have hP := hP.perm lw_pm
    have hD := hD.perm lw_pm
    refine wr_V (rest := []) (ci := 4) (q0 := 0) ⟨hx, hb, hml, hown, hts⟩ hP hE hA hD hS (c_X4_refusal l D K _ _ _ _ _ _ _ _ _ _ _ _ _ _ _ _ (xs ((4 * k) + 1)) (xs ((4 * k) + 2)) (xs ((4 * k) + 3)) hI) (cwV 3 hts gL_law_X4_refusal rfl rfl rfl hd_X4_refusal ⟨Nat.le_of_ble_eq_true rfl, Nat.le_of_ble_eq_true rfl⟩) rfl rfl rfl rfl hl.1 rfl (Nat.le_of_ble_eq_true rfl) dL_law_1130 ⟨show _ ≤ 601024 by omega, show _ ≤ 7293034 by omega⟩ (fun H locs hP hD hS => ?_)
    rw [if_pos hE0] at hP hD
    have hP : va_P D vwCl (rfW K r (nI 0) pn sn ln pm sta ms hs T sv cs pf fa (cW K a b t c g T len qu n cs ln sn Sv [oC K o (vp_updL of 0 ((nI (whyT T (tn (xs ((4 * k) + 1))) (hdT T (tn (xs ((4 * k) + 1)))) (tn (xs ((4 * k) + 2))) (tn (xs ((4 * k) + 3))))).toInt64))])) H := hP
    have hD : va_D A (rfW K r (nI 0) pn sn ln pm sta ms hs T sv cs pf fa (cW K a b t c g T len qu n cs ln sn Sv [oC K o (vp_updL of 0 ((nI (whyT T (tn (xs ((4 * k) + 1))) (hdT T (tn (xs ((4 * k) + 1)))) (tn (xs ((4 * k) + 2))) (tn (xs ((4 * k) + 3))))).toInt64))])) := hD
    have hP := hP.perm lw_pm.symm
    have hD := hD.perm lw_pm.symm
    have hP : va_P D vwCl (cW K a b t c g T len qu n cs ln sn Sv (oC K o (vp_updL of 0 ((nI (whyT T (tn (xs ((4 * k) + 1))) (hdT T (tn (xs ((4 * k) + 1)))) (tn (xs ((4 * k) + 2))) (tn (xs ((4 * k) + 3))))).toInt64)) :: rfW K r (nI 0) pn sn ln pm sta ms hs T sv cs pf fa [])) H := hP
    have hD : va_D A (cW K a b t c g T len qu n cs ln sn Sv (oC K o (vp_updL of 0 ((nI (whyT T (tn (xs ((4 * k) + 1))) (hdT T (tn (xs ((4 * k) + 1)))) (tn (xs ((4 * k) + 2))) (tn (xs ((4 * k) + 3))))).toInt64)) :: rfW K r (nI 0) pn sn ln pm sta ms hs T sv cs pf fa [])) := hD
    refine top_i (y := nI (whyT T (tn (xs ((4 * k) + 1))) (hdT T (tn (xs ((4 * k) + 1)))) (tn (xs ((4 * k) + 2))) (tn (xs ((4 * k) + 3))))) (if_pos hE0) ?_
    refine lv_istore (lv' := [(6, .int (nI (whyT T (tn (xs ((4 * k) + 1))) (hdT T (tn (xs ((4 * k) + 1)))) (tn (xs ((4 * k) + 2))) (tn (xs ((4 * k) + 3)))))), (5, .int (nI 0)), (4, .int (nI (4 * k))), (0, .ref b9), (1, .ref (c 0)), (2, .ref (r 0)), (3, .ref o)]) hx hb dL_law_1133 hl (by decide) rfl (fun ls hl => ?_)
    refine lv_aload_n hx hb dL_law_1135 rfl (lv_at hl 5 rfl) ?_
    have hP := hP.perm lw_pm
    have hD := hD.perm lw_pm
    refine wr_V (rest := []) (ci := 4) (q0 := 0) ⟨hx, hb, hml, hown, hts⟩ hP hE hA hD hS (c_X4_thrown l D K _ _ _ _ _ _ _ _ _ _ _ _ _ _ _ _ ) (cwV 0 hts gL_law_X4_thrown rfl rfl rfl hd_X4_thrown ⟨Nat.le_of_ble_eq_true rfl, Nat.le_of_ble_eq_true rfl⟩) rfl rfl rfl rfl hl.1 rfl (Nat.le_of_ble_eq_true rfl) dL_law_1136 ⟨show _ ≤ 601024 by omega, show _ ≤ 7293034 by omega⟩ (fun H locs hP hD hS => ?_)
    have hP : va_P D vwCl (rfW K r (nI 0) pn sn ln pm sta ms hs T sv cs pf fa (cW K a b t c g T len qu n cs ln sn Sv [oC K o (vp_updL of 0 ((nI (whyT T (tn (xs ((4 * k) + 1))) (hdT T (tn (xs ((4 * k) + 1)))) (tn (xs ((4 * k) + 2))) (tn (xs ((4 * k) + 3))))).toInt64))])) H := hP
    have hD : va_D A (rfW K r (nI 0) pn sn ln pm sta ms hs T sv cs pf fa (cW K a b t c g T len qu n cs ln sn Sv [oC K o (vp_updL of 0 ((nI (whyT T (tn (xs ((4 * k) + 1))) (hdT T (tn (xs ((4 * k) + 1)))) (tn (xs ((4 * k) + 2))) (tn (xs ((4 * k) + 3))))).toInt64))])) := hD
    have hP := hP.perm lw_pm.symm
    have hD := hD.perm lw_pm.symm
    have hP : va_P D vwCl (cW K a b t c g T len qu n cs ln sn Sv (oC K o (vp_updL of 0 ((nI (whyT T (tn (xs ((4 * k) + 1))) (hdT T (tn (xs ((4 * k) + 1)))) (tn (xs ((4 * k) + 2))) (tn (xs ((4 * k) + 3))))).toInt64)) :: rfW K r (nI 0) pn sn ln pm sta ms hs T sv cs pf fa [])) H := hP
    have hD : va_D A (cW K a b t c g T len qu n cs ln sn Sv (oC K o (vp_updL of 0 ((nI (whyT T (tn (xs ((4 * k) + 1))) (hdT T (tn (xs ((4 * k) + 1)))) (tn (xs ((4 * k) + 2))) (tn (xs ((4 * k) + 3))))).toInt64)) :: rfW K r (nI 0) pn sn ln pm sta ms hs T sv cs pf fa [])) := hD
    refine lv_iload hx hb dL_law_1139 (lv_at hl 1 rfl) ?_
    refine nv_icmp_eq (x := 0) (y := 0) (tgt := 1146) hx hb dL_law_1141 (by decide) (by decide) (by decide) (fun c_1 => ?_) (fun c_1 => ?_)
    · refine lv_iload hx hb dL_law_1146 (lv_at hl 1 rfl) ?_
      refine nv_if_ne (x := 0) (tgt := 1163) hx hb dL_law_1148 (by decide) (by decide) (fun c_2 => ?_) (fun c_2 => ?_)
      · exact absurd c_2 (by decide)
      have n_c_2 : ¬ 0 < 0 := by omega
      refine lv_aload_n hx hb dL_law_1151 rfl (lv_at hl 6 rfl) ?_
      refine lv_iconst (v := nI 0) hx hb dL_law_1152 (by decide) ?_
      refine nv_lald hx hb hE hP 91 rfl dL_law_1153 ?_
      refine top_l (y := (nI (whyT T (tn (xs ((4 * k) + 1))) (hdT T (tn (xs ((4 * k) + 1)))) (tn (xs ((4 * k) + 2))) (tn (xs ((4 * k) + 3))))).toInt64) rfl ?_
      refine lv_iload hx hb dL_law_1154 (lv_at hl 0 rfl) ?_
      refine lv_i2l (v := (nI (whyT T (tn (xs ((4 * k) + 1))) (hdT T (tn (xs ((4 * k) + 1)))) (tn (xs ((4 * k) + 2))) (tn (xs ((4 * k) + 3))))).toInt64) hx hb dL_law_1156 rfl ?_
      refine W.lcmp hx hb dL_law_1157 ?_
      refine top_i (y := nI 0) (lcmp_rf _) ?_
      refine nv_if_eq (x := 0) (tgt := 1163) hx hb dL_law_1158 (by decide) (by decide) (fun c_3 => ?_) (fun c_3 => ?_)
      · have n_c_3 : ¬ 0 < 0 := by omega
        refine lv_goto (tgt := 1550) hx hb dL_law_1163 (by decide) ?_
        refine W.widen (k := cells + 1) (n := slots + 6) (by omega) (by omega) ?_
        exact kk _ _ _ _ _ _ _ _ _ _ _ _ _ _ _ _ _ _ _ (hLI0) H locs ls hP hD hS (lv_sub hl [2, 3, 4, 5, 6] rfl)
      exact absurd c_3 (by decide)
    exact absurd c_1 (by decide)
  · refine lx_S (rest := []) ⟨hx, hb, hml, hown, hts⟩ hP hE hA hD hS hXw hZ hxn (c_L_refusal l D K dp fs hst _ _ _ _ _ _ _ _ _ _ _ _ _ _ (xs ((4 * k) + 1)) (xs ((4 * k) + 2)) (xs ((4 * k) + 3)) hI _ _ _) (vx_cwSW 5 hts gL_law_L_refusal rfl rfl rfl hn_L_refusal ⟨Nat.le_of_ble_eq_true rfl, Nat.le_of_ble_eq_true rfl⟩) rfl hl.1 rfl (Nat.le_of_ble_eq_true rfl) dL_law_1106 ⟨show _ ≤ 601024 by omega, show _ ≤ 7293034 by omega⟩ (fun H locs hP hD hS => ?_)
    rw [if_neg hE0] at hP hD
    have hP : va_P D vwCl (cW K a b t c g T len qu n cs ln sn Sv (oC K o of :: rfW K r th pn sn ln pm sta ms hs T sv cs pf fa [])) H := hP
    have hD : va_D A (cW K a b t c g T len qu n cs ln sn Sv (oC K o of :: rfW K r th pn sn ln pm sta ms hs T sv cs pf fa [])) := hD
    refine top_i (y := nI (rfE (xs ((4 * k) + 1)) (xs ((4 * k) + 2)) (xs ((4 * k) + 3)))) (rfl) ?_
    refine lv_istore (lv' := [(5, .int (nI (rfE (xs ((4 * k) + 1)) (xs ((4 * k) + 2)) (xs ((4 * k) + 3))))), (4, .int (nI (4 * k))), (0, .ref b9), (1, .ref (c 0)), (2, .ref (r 0)), (3, .ref o)]) hx hb dL_law_1109 hl (by decide) rfl (fun ls hl => ?_)
    refine lv_aload_n hx hb dL_law_1111 rfl (lv_at hl 4 rfl) ?_
    refine lv_aload_n hx hb dL_law_1112 rfl (lv_at hl 2 rfl) ?_
    refine lv_iload hx hb dL_law_1113 (lv_at hl 1 rfl) ?_
    refine lv_iconst (v := nI 1) hx hb dL_law_1115 (by decide) ?_
    refine nv_iadd (x := 4 * k) (y := 1) hx hb dL_law_1116 ?_
    refine va_sld hx hb hX hbl hbA hS (pk_in ((4 * k) + 1) L (by omega)) dL_law_1117 ?_
    rw [pk_cl ((4 * k) + 1)]
    refine lv_aload_n hx hb dL_law_1118 rfl (lv_at hl 2 rfl) ?_
    refine lv_iload hx hb dL_law_1119 (lv_at hl 1 rfl) ?_
    refine lv_iconst (v := nI 2) hx hb dL_law_1121 (by decide) ?_
    refine nv_iadd (x := 4 * k) (y := 2) hx hb dL_law_1122 ?_
    refine va_sld hx hb hX hbl hbA hS (pk_in ((4 * k) + 2) L (by omega)) dL_law_1123 ?_
    rw [pk_cl ((4 * k) + 2)]
    refine lv_aload_n hx hb dL_law_1124 rfl (lv_at hl 2 rfl) ?_
    refine lv_iload hx hb dL_law_1125 (lv_at hl 1 rfl) ?_
    refine lv_iconst (v := nI 3) hx hb dL_law_1127 (by decide) ?_
    refine nv_iadd (x := 4 * k) (y := 3) hx hb dL_law_1128 ?_
    refine va_sld hx hb hX hbl hbA hS (pk_in ((4 * k) + 3) L (by omega)) dL_law_1129 ?_
    rw [pk_cl ((4 * k) + 3)]
    have hP := hP.perm lw_pm
    have hD := hD.perm lw_pm
    refine wr_V (rest := []) (ci := 4) (q0 := 0) ⟨hx, hb, hml, hown, hts⟩ hP hE hA hD hS (c_X4_refusal l D K _ _ _ _ _ _ _ _ _ _ _ _ _ _ _ _ (xs ((4 * k) + 1)) (xs ((4 * k) + 2)) (xs ((4 * k) + 3)) hI) (cwV 3 hts gL_law_X4_refusal rfl rfl rfl hd_X4_refusal ⟨Nat.le_of_ble_eq_true rfl, Nat.le_of_ble_eq_true rfl⟩) rfl rfl rfl rfl hl.1 rfl (Nat.le_of_ble_eq_true rfl) dL_law_1130 ⟨show _ ≤ 601024 by omega, show _ ≤ 7293034 by omega⟩ (fun H locs hP hD hS => ?_)
    rw [if_neg hE0] at hP hD
    have hP : va_P D vwCl (rfW K r (nI (rfE (xs ((4 * k) + 1)) (xs ((4 * k) + 2)) (xs ((4 * k) + 3)))) pn sn ln pm sta ms hs T sv cs pf fa (cW K a b t c g T len qu n cs ln sn Sv [oC K o of])) H := hP
    have hD : va_D A (rfW K r (nI (rfE (xs ((4 * k) + 1)) (xs ((4 * k) + 2)) (xs ((4 * k) + 3)))) pn sn ln pm sta ms hs T sv cs pf fa (cW K a b t c g T len qu n cs ln sn Sv [oC K o of])) := hD
    have hP := hP.perm lw_pm.symm
    have hD := hD.perm lw_pm.symm
    have hP : va_P D vwCl (cW K a b t c g T len qu n cs ln sn Sv (oC K o of :: rfW K r (nI (rfE (xs ((4 * k) + 1)) (xs ((4 * k) + 2)) (xs ((4 * k) + 3)))) pn sn ln pm sta ms hs T sv cs pf fa [])) H := hP
    have hD : va_D A (cW K a b t c g T len qu n cs ln sn Sv (oC K o of :: rfW K r (nI (rfE (xs ((4 * k) + 1)) (xs ((4 * k) + 2)) (xs ((4 * k) + 3)))) pn sn ln pm sta ms hs T sv cs pf fa [])) := hD
    refine top_i (y := 0) (if_neg hE0) ?_
    refine lv_istore (lv' := [(6, .int 0), (5, .int (nI (rfE (xs ((4 * k) + 1)) (xs ((4 * k) + 2)) (xs ((4 * k) + 3))))), (4, .int (nI (4 * k))), (0, .ref b9), (1, .ref (c 0)), (2, .ref (r 0)), (3, .ref o)]) hx hb dL_law_1133 hl (by decide) rfl (fun ls hl => ?_)
    refine lv_aload_n hx hb dL_law_1135 rfl (lv_at hl 5 rfl) ?_
    have hP := hP.perm lw_pm
    have hD := hD.perm lw_pm
    refine wr_V (rest := []) (ci := 4) (q0 := 0) ⟨hx, hb, hml, hown, hts⟩ hP hE hA hD hS (c_X4_thrown l D K _ _ _ _ _ _ _ _ _ _ _ _ _ _ _ _ ) (cwV 0 hts gL_law_X4_thrown rfl rfl rfl hd_X4_thrown ⟨Nat.le_of_ble_eq_true rfl, Nat.le_of_ble_eq_true rfl⟩) rfl rfl rfl rfl hl.1 rfl (Nat.le_of_ble_eq_true rfl) dL_law_1136 ⟨show _ ≤ 601024 by omega, show _ ≤ 7293034 by omega⟩ (fun H locs hP hD hS => ?_)
    have hP : va_P D vwCl (rfW K r (nI (rfE (xs ((4 * k) + 1)) (xs ((4 * k) + 2)) (xs ((4 * k) + 3)))) pn sn ln pm sta ms hs T sv cs pf fa (cW K a b t c g T len qu n cs ln sn Sv [oC K o of])) H := hP
    have hD : va_D A (rfW K r (nI (rfE (xs ((4 * k) + 1)) (xs ((4 * k) + 2)) (xs ((4 * k) + 3)))) pn sn ln pm sta ms hs T sv cs pf fa (cW K a b t c g T len qu n cs ln sn Sv [oC K o of])) := hD
    have hP := hP.perm lw_pm.symm
    have hD := hD.perm lw_pm.symm
    have hP : va_P D vwCl (cW K a b t c g T len qu n cs ln sn Sv (oC K o of :: rfW K r (nI (rfE (xs ((4 * k) + 1)) (xs ((4 * k) + 2)) (xs ((4 * k) + 3)))) pn sn ln pm sta ms hs T sv cs pf fa [])) H := hP
    have hD : va_D A (cW K a b t c g T len qu n cs ln sn Sv (oC K o of :: rfW K r (nI (rfE (xs ((4 * k) + 1)) (xs ((4 * k) + 2)) (xs ((4 * k) + 3)))) pn sn ln pm sta ms hs T sv cs pf fa [])) := hD
    refine lv_iload hx hb dL_law_1139 (lv_at hl 1 rfl) ?_
    refine lv_icmp_eq (x := nI (rfE (xs ((4 * k) + 1)) (xs ((4 * k) + 2)) (xs ((4 * k) + 3)))) (y := nI (rfE (xs ((4 * k) + 1)) (xs ((4 * k) + 2)) (xs ((4 * k) + 3)))) (tgt := 1146) hx hb dL_law_1141 (by decide) (fun c_4 => ?_) (fun c_4 => ?_)
    · refine lv_iload hx hb dL_law_1146 (lv_at hl 1 rfl) ?_
      refine nv_if_ne (x := rfE (xs ((4 * k) + 1)) (xs ((4 * k) + 2)) (xs ((4 * k) + 3))) (tgt := 1163) hx hb dL_law_1148 (by decide) (by omega) (fun c_5 => ?_) (fun c_5 => ?_)
      · have n_c_5 : ¬ rfE (xs ((4 * k) + 1)) (xs ((4 * k) + 2)) (xs ((4 * k) + 3)) = 0 := by omega
        refine lv_goto (tgt := 1550) hx hb dL_law_1163 (by decide) ?_
        refine W.widen (k := cells + 1) (n := slots + 6) (by omega) (by omega) ?_
        exact kk _ _ _ _ _ _ _ _ _ _ _ _ _ _ _ _ _ _ _ (hLI0) H locs ls hP hD hS (lv_sub hl [2, 3, 4, 5, 6] rfl)
      exact absurd c_5 hE0
    exact absurd rfl c_4
set_option maxHeartbeats 4000000 in
set_option maxRecDepth 100000 in
theorem lc_count {pr : Program} {l : Launch} {en : Env} {st : State} {md : MethodId} {ar : Array Value} {bl : List Frame} {mt : Method} {co : Code} {D : va_G} {K : Nat → ClassId} {A : Nat → Prop} {Q : State → Prop} {b9 : Nat} {a b t c r : Nat → Nat} {o : Nat} {dp fs L : Nat} {xs : Nat → Int32} (hx : pr.tables.exec = Jvm.exec) (hb : co.code = cL_law) (hml : co.maxLocals = 9) (hts : ∀ w ∈ wsL_law, w.before ar st = true) (hown : st.vm.findClass RL = some md.cls) (hst : l.stackTraces = false) (hE : ev D K st) (hXw : xw st) (hxn : xn st) (hZ : xst dp fs A st st.heap) (hA : ∀ q : Nat, st.heap.size ≤ q → A q) (hX : va_X b9 L xs st st.heap) (hbl : b9 < st.heap.size) (hbA : ¬ A b9) (k : Nat) (hk : 4 * k + 4 ≤ L) (hL : L ≤ 2048) (cells slots : Nat) (hc1 : cells + 1 ≤ 601024) (hc2 : slots + 6 ≤ 7293034) (kk : Nx pr l en st md ar bl mt co D K A Q b9 a b t c r o k (cells + 1) (slots + 6) 1550) : Nx pr l en st md ar bl mt co D K A Q b9 a b t c r o k cells slots 1166 := by
  intro T len qu n cs ln sn Sv g th pn pm sta ms hs sv pf fa of hLI H locs ls hP hD hS hl
  have hLI0 := hLI
  obtain ⟨hI, hK, hCB, hsn, hSV, hSI, hSH⟩ := hLI
  refine lv_aload_n hx hb dL_law_1166 rfl (lv_at hl 2 rfl) ?_
  refine lv_aload_n hx hb dL_law_1167 rfl (lv_at hl 1 rfl) ?_
  refine lv_iload hx hb dL_law_1168 (lv_at hl 0 rfl) ?_
  refine lv_iconst (v := nI 1) hx hb dL_law_1170 (by decide) ?_
  refine nv_iadd (x := 4 * k) (y := 1) hx hb dL_law_1171 ?_
  refine va_sld hx hb hX hbl hbA hS (pk_in ((4 * k) + 1) L (by omega)) dL_law_1172 ?_
  rw [pk_cl ((4 * k) + 1)]
  refine lv_aload_n hx hb dL_law_1173 rfl (lv_at hl 4 rfl) ?_
  have hEl : q1 0 7 (xs ((4 * k) + 1)) ≤ 1 := by unfold q1; (repeat' split) <;> omega
  by_cases hE0 : q1 0 7 (xs ((4 * k) + 1)) = 0
  · refine lx_S (rest := []) ⟨hx, hb, hml, hown, hts⟩ hP hE hA hD hS hXw hZ hxn (c_L_count l D K dp fs hst _ _ _ _ _ _ _ _ _ _ _ _ _ _ (xs ((4 * k) + 1)) hI _ _ _) (vx_cwSW 3 hts gL_law_L_count rfl rfl rfl hn_L_count ⟨Nat.le_of_ble_eq_true rfl, Nat.le_of_ble_eq_true rfl⟩) rfl hl.1 rfl (Nat.le_of_ble_eq_true rfl) dL_law_1174 ⟨show _ ≤ 601024 by omega, show _ ≤ 7293034 by omega⟩ (fun H locs hP hD hS => ?_)
    rw [if_pos hE0] at hP hD
    have hP : va_P D vwCl (cW K a b t c g T len qu n cs ln sn Sv (oC K o (vp_updL of 0 ((nbrT T sn (tn (xs ((4 * k) + 1)))).toInt64)) :: rfW K r th pn sn ln pm sta ms hs T sv cs pf fa [])) H := hP
    have hD : va_D A (cW K a b t c g T len qu n cs ln sn Sv (oC K o (vp_updL of 0 ((nbrT T sn (tn (xs ((4 * k) + 1)))).toInt64)) :: rfW K r th pn sn ln pm sta ms hs T sv cs pf fa [])) := hD
    refine top_i (y := nI 0) (by rw [hE0]) ?_
    refine lv_istore (lv' := [(5, .int (nI 0)), (4, .int (nI (4 * k))), (0, .ref b9), (1, .ref (c 0)), (2, .ref (r 0)), (3, .ref o)]) hx hb dL_law_1177 hl (by decide) rfl (fun ls hl => ?_)
    refine lv_aload_n hx hb dL_law_1179 rfl (lv_at hl 4 rfl) ?_
    refine lv_aload_n hx hb dL_law_1180 rfl (lv_at hl 2 rfl) ?_
    refine lv_iload hx hb dL_law_1181 (lv_at hl 1 rfl) ?_
    refine lv_iconst (v := nI 1) hx hb dL_law_1183 (by decide) ?_
    refine nv_iadd (x := 4 * k) (y := 1) hx hb dL_law_1184 ?_
    refine va_sld hx hb hX hbl hbA hS (pk_in ((4 * k) + 1) L (by omega)) dL_law_1185 ?_
    rw [pk_cl ((4 * k) + 1)]
    have hP := hP.perm lw_pm
    have hD := hD.perm lw_pm
    refine wr_V (rest := []) (ci := 4) (q0 := 0) ⟨hx, hb, hml, hown, hts⟩ hP hE hA hD hS (c_X4_count l D K _ _ _ _ _ _ _ _ _ _ _ _ _ _ _ _ (xs ((4 * k) + 1)) hI) (cwV 1 hts gL_law_X4_count rfl rfl rfl hd_X4_count ⟨Nat.le_of_ble_eq_true rfl, Nat.le_of_ble_eq_true rfl⟩) rfl rfl rfl rfl hl.1 rfl (Nat.le_of_ble_eq_true rfl) dL_law_1186 ⟨show _ ≤ 601024 by omega, show _ ≤ 7293034 by omega⟩ (fun H locs hP hD hS => ?_)
    rw [if_pos hE0] at hP hD
    have hP : va_P D vwCl (rfW K r (nI 0) pn sn ln pm sta ms hs T sv cs pf fa (cW K a b t c g T len qu n cs ln sn Sv [oC K o (vp_updL of 0 ((nbrT T sn (tn (xs ((4 * k) + 1)))).toInt64))])) H := hP
    have hD : va_D A (rfW K r (nI 0) pn sn ln pm sta ms hs T sv cs pf fa (cW K a b t c g T len qu n cs ln sn Sv [oC K o (vp_updL of 0 ((nbrT T sn (tn (xs ((4 * k) + 1)))).toInt64))])) := hD
    have hP := hP.perm lw_pm.symm
    have hD := hD.perm lw_pm.symm
    have hP : va_P D vwCl (cW K a b t c g T len qu n cs ln sn Sv (oC K o (vp_updL of 0 ((nbrT T sn (tn (xs ((4 * k) + 1)))).toInt64)) :: rfW K r (nI 0) pn sn ln pm sta ms hs T sv cs pf fa [])) H := hP
    have hD : va_D A (cW K a b t c g T len qu n cs ln sn Sv (oC K o (vp_updL of 0 ((nbrT T sn (tn (xs ((4 * k) + 1)))).toInt64)) :: rfW K r (nI 0) pn sn ln pm sta ms hs T sv cs pf fa [])) := hD
    refine top_i (y := nbrT T sn (tn (xs ((4 * k) + 1)))) (if_pos hE0) ?_
    refine lv_istore (lv' := [(6, .int (nbrT T sn (tn (xs ((4 * k) + 1))))), (5, .int (nI 0)), (4, .int (nI (4 * k))), (0, .ref b9), (1, .ref (c 0)), (2, .ref (r 0)), (3, .ref o)]) hx hb dL_law_1189 hl (by decide) rfl (fun ls hl => ?_)
    refine lv_aload_n hx hb dL_law_1191 rfl (lv_at hl 5 rfl) ?_
    have hP := hP.perm lw_pm
    have hD := hD.perm lw_pm
    refine wr_V (rest := []) (ci := 4) (q0 := 0) ⟨hx, hb, hml, hown, hts⟩ hP hE hA hD hS (c_X4_thrown l D K _ _ _ _ _ _ _ _ _ _ _ _ _ _ _ _ ) (cwV 0 hts gL_law_X4_thrown rfl rfl rfl hd_X4_thrown ⟨Nat.le_of_ble_eq_true rfl, Nat.le_of_ble_eq_true rfl⟩) rfl rfl rfl rfl hl.1 rfl (Nat.le_of_ble_eq_true rfl) dL_law_1192 ⟨show _ ≤ 601024 by omega, show _ ≤ 7293034 by omega⟩ (fun H locs hP hD hS => ?_)
    have hP : va_P D vwCl (rfW K r (nI 0) pn sn ln pm sta ms hs T sv cs pf fa (cW K a b t c g T len qu n cs ln sn Sv [oC K o (vp_updL of 0 ((nbrT T sn (tn (xs ((4 * k) + 1)))).toInt64))])) H := hP
    have hD : va_D A (rfW K r (nI 0) pn sn ln pm sta ms hs T sv cs pf fa (cW K a b t c g T len qu n cs ln sn Sv [oC K o (vp_updL of 0 ((nbrT T sn (tn (xs ((4 * k) + 1)))).toInt64))])) := hD
    have hP := hP.perm lw_pm.symm
    have hD := hD.perm lw_pm.symm
    have hP : va_P D vwCl (cW K a b t c g T len qu n cs ln sn Sv (oC K o (vp_updL of 0 ((nbrT T sn (tn (xs ((4 * k) + 1)))).toInt64)) :: rfW K r (nI 0) pn sn ln pm sta ms hs T sv cs pf fa [])) H := hP
    have hD : va_D A (cW K a b t c g T len qu n cs ln sn Sv (oC K o (vp_updL of 0 ((nbrT T sn (tn (xs ((4 * k) + 1)))).toInt64)) :: rfW K r (nI 0) pn sn ln pm sta ms hs T sv cs pf fa [])) := hD
    refine lv_iload hx hb dL_law_1195 (lv_at hl 1 rfl) ?_
    refine nv_icmp_eq (x := 0) (y := 0) (tgt := 1202) hx hb dL_law_1197 (by decide) (by decide) (by decide) (fun c_1 => ?_) (fun c_1 => ?_)
    · refine lv_iload hx hb dL_law_1202 (lv_at hl 1 rfl) ?_
      refine nv_if_ne (x := 0) (tgt := 1219) hx hb dL_law_1204 (by decide) (by decide) (fun c_2 => ?_) (fun c_2 => ?_)
      · exact absurd c_2 (by decide)
      have n_c_2 : ¬ 0 < 0 := by omega
      refine lv_aload_n hx hb dL_law_1207 rfl (lv_at hl 6 rfl) ?_
      refine lv_iconst (v := nI 0) hx hb dL_law_1208 (by decide) ?_
      refine nv_lald hx hb hE hP 91 rfl dL_law_1209 ?_
      refine top_l (y := (nbrT T sn (tn (xs ((4 * k) + 1)))).toInt64) rfl ?_
      refine lv_iload hx hb dL_law_1210 (lv_at hl 0 rfl) ?_
      refine lv_i2l (v := (nbrT T sn (tn (xs ((4 * k) + 1)))).toInt64) hx hb dL_law_1212 rfl ?_
      refine W.lcmp hx hb dL_law_1213 ?_
      refine top_i (y := nI 0) (lcmp_rf _) ?_
      refine nv_if_eq (x := 0) (tgt := 1219) hx hb dL_law_1214 (by decide) (by decide) (fun c_3 => ?_) (fun c_3 => ?_)
      · have n_c_3 : ¬ 0 < 0 := by omega
        refine lv_goto (tgt := 1550) hx hb dL_law_1219 (by decide) ?_
        refine W.widen (k := cells + 1) (n := slots + 6) (by omega) (by omega) ?_
        exact kk _ _ _ _ _ _ _ _ _ _ _ _ _ _ _ _ _ _ _ (hLI0) H locs ls hP hD hS (lv_sub hl [2, 3, 4, 5, 6] rfl)
      exact absurd c_3 (by decide)
    exact absurd c_1 (by decide)
  · refine lx_S (rest := []) ⟨hx, hb, hml, hown, hts⟩ hP hE hA hD hS hXw hZ hxn (c_L_count l D K dp fs hst _ _ _ _ _ _ _ _ _ _ _ _ _ _ (xs ((4 * k) + 1)) hI _ _ _) (vx_cwSW 3 hts gL_law_L_count rfl rfl rfl hn_L_count ⟨Nat.le_of_ble_eq_true rfl, Nat.le_of_ble_eq_true rfl⟩) rfl hl.1 rfl (Nat.le_of_ble_eq_true rfl) dL_law_1174 ⟨show _ ≤ 601024 by omega, show _ ≤ 7293034 by omega⟩ (fun H locs hP hD hS => ?_)
    rw [if_neg hE0] at hP hD
    have hP : va_P D vwCl (cW K a b t c g T len qu n cs ln sn Sv (oC K o of :: rfW K r th pn sn ln pm sta ms hs T sv cs pf fa [])) H := hP
    have hD : va_D A (cW K a b t c g T len qu n cs ln sn Sv (oC K o of :: rfW K r th pn sn ln pm sta ms hs T sv cs pf fa [])) := hD
    refine top_i (y := nI (q1 0 7 (xs ((4 * k) + 1)))) (rfl) ?_
    refine lv_istore (lv' := [(5, .int (nI (q1 0 7 (xs ((4 * k) + 1))))), (4, .int (nI (4 * k))), (0, .ref b9), (1, .ref (c 0)), (2, .ref (r 0)), (3, .ref o)]) hx hb dL_law_1177 hl (by decide) rfl (fun ls hl => ?_)
    refine lv_aload_n hx hb dL_law_1179 rfl (lv_at hl 4 rfl) ?_
    refine lv_aload_n hx hb dL_law_1180 rfl (lv_at hl 2 rfl) ?_
    refine lv_iload hx hb dL_law_1181 (lv_at hl 1 rfl) ?_
    refine lv_iconst (v := nI 1) hx hb dL_law_1183 (by decide) ?_
    refine nv_iadd (x := 4 * k) (y := 1) hx hb dL_law_1184 ?_
    refine va_sld hx hb hX hbl hbA hS (pk_in ((4 * k) + 1) L (by omega)) dL_law_1185 ?_
    rw [pk_cl ((4 * k) + 1)]
    have hP := hP.perm lw_pm
    have hD := hD.perm lw_pm
    refine wr_V (rest := []) (ci := 4) (q0 := 0) ⟨hx, hb, hml, hown, hts⟩ hP hE hA hD hS (c_X4_count l D K _ _ _ _ _ _ _ _ _ _ _ _ _ _ _ _ (xs ((4 * k) + 1)) hI) (cwV 1 hts gL_law_X4_count rfl rfl rfl hd_X4_count ⟨Nat.le_of_ble_eq_true rfl, Nat.le_of_ble_eq_true rfl⟩) rfl rfl rfl rfl hl.1 rfl (Nat.le_of_ble_eq_true rfl) dL_law_1186 ⟨show _ ≤ 601024 by omega, show _ ≤ 7293034 by omega⟩ (fun H locs hP hD hS => ?_)
    rw [if_neg hE0] at hP hD
    have hP : va_P D vwCl (rfW K r (nI (q1 0 7 (xs ((4 * k) + 1)))) pn sn ln pm sta ms hs T sv cs pf fa (cW K a b t c g T len qu n cs ln sn Sv [oC K o of])) H := hP
    have hD : va_D A (rfW K r (nI (q1 0 7 (xs ((4 * k) + 1)))) pn sn ln pm sta ms hs T sv cs pf fa (cW K a b t c g T len qu n cs ln sn Sv [oC K o of])) := hD
    have hP := hP.perm lw_pm.symm
    have hD := hD.perm lw_pm.symm
    have hP : va_P D vwCl (cW K a b t c g T len qu n cs ln sn Sv (oC K o of :: rfW K r (nI (q1 0 7 (xs ((4 * k) + 1)))) pn sn ln pm sta ms hs T sv cs pf fa [])) H := hP
    have hD : va_D A (cW K a b t c g T len qu n cs ln sn Sv (oC K o of :: rfW K r (nI (q1 0 7 (xs ((4 * k) + 1)))) pn sn ln pm sta ms hs T sv cs pf fa [])) := hD
    refine top_i (y := 0) (if_neg hE0) ?_
    refine lv_istore (lv' := [(6, .int 0), (5, .int (nI (q1 0 7 (xs ((4 * k) + 1))))), (4, .int (nI (4 * k))), (0, .ref b9), (1, .ref (c 0)), (2, .ref (r 0)), (3, .ref o)]) hx hb dL_law_1189 hl (by decide) rfl (fun ls hl => ?_)
    refine lv_aload_n hx hb dL_law_1191 rfl (lv_at hl 5 rfl) ?_
    have hP := hP.perm lw_pm
    have hD := hD.perm lw_pm
    refine wr_V (rest := []) (ci := 4) (q0 := 0) ⟨hx, hb, hml, hown, hts⟩ hP hE hA hD hS (c_X4_thrown l D K _ _ _ _ _ _ _ _ _ _ _ _ _ _ _ _ ) (cwV 0 hts gL_law_X4_thrown rfl rfl rfl hd_X4_thrown ⟨Nat.le_of_ble_eq_true rfl, Nat.le_of_ble_eq_true rfl⟩) rfl rfl rfl rfl hl.1 rfl (Nat.le_of_ble_eq_true rfl) dL_law_1192 ⟨show _ ≤ 601024 by omega, show _ ≤ 7293034 by omega⟩ (fun H locs hP hD hS => ?_)
    have hP : va_P D vwCl (rfW K r (nI (q1 0 7 (xs ((4 * k) + 1)))) pn sn ln pm sta ms hs T sv cs pf fa (cW K a b t c g T len qu n cs ln sn Sv [oC K o of])) H := hP
    have hD : va_D A (rfW K r (nI (q1 0 7 (xs ((4 * k) + 1)))) pn sn ln pm sta ms hs T sv cs pf fa (cW K a b t c g T len qu n cs ln sn Sv [oC K o of])) := hD
    have hP := hP.perm lw_pm.symm
    have hD := hD.perm lw_pm.symm
    have hP : va_P D vwCl (cW K a b t c g T len qu n cs ln sn Sv (oC K o of :: rfW K r (nI (q1 0 7 (xs ((4 * k) + 1)))) pn sn ln pm sta ms hs T sv cs pf fa [])) H := hP
    have hD : va_D A (cW K a b t c g T len qu n cs ln sn Sv (oC K o of :: rfW K r (nI (q1 0 7 (xs ((4 * k) + 1)))) pn sn ln pm sta ms hs T sv cs pf fa [])) := hD
    refine lv_iload hx hb dL_law_1195 (lv_at hl 1 rfl) ?_
    refine lv_icmp_eq (x := nI (q1 0 7 (xs ((4 * k) + 1)))) (y := nI (q1 0 7 (xs ((4 * k) + 1)))) (tgt := 1202) hx hb dL_law_1197 (by decide) (fun c_4 => ?_) (fun c_4 => ?_)
    · refine lv_iload hx hb dL_law_1202 (lv_at hl 1 rfl) ?_
      refine nv_if_ne (x := q1 0 7 (xs ((4 * k) + 1))) (tgt := 1219) hx hb dL_law_1204 (by decide) (by omega) (fun c_5 => ?_) (fun c_5 => ?_)
      · have n_c_5 : ¬ q1 0 7 (xs ((4 * k) + 1)) = 0 := by omega
        refine lv_goto (tgt := 1550) hx hb dL_law_1219 (by decide) ?_
        refine W.widen (k := cells + 1) (n := slots + 6) (by omega) (by omega) ?_
        exact kk _ _ _ _ _ _ _ _ _ _ _ _ _ _ _ _ _ _ _ (hLI0) H locs ls hP hD hS (lv_sub hl [2, 3, 4, 5, 6] rfl)
      exact absurd c_5 hE0
    exact absurd rfl c_4
set_option maxHeartbeats 4000000 in
set_option maxRecDepth 100000 in
theorem lc_setting {pr : Program} {l : Launch} {en : Env} {st : State} {md : MethodId} {ar : Array Value} {bl : List Frame} {mt : Method} {co : Code} {D : va_G} {K : Nat → ClassId} {A : Nat → Prop} {Q : State → Prop} {b9 : Nat} {a b t c r : Nat → Nat} {o : Nat} {dp fs L : Nat} {xs : Nat → Int32} (hx : pr.tables.exec = Jvm.exec) (hb : co.code = cL_law) (hml : co.maxLocals = 9) (hts : ∀ w ∈ wsL_law, w.before ar st = true) (hown : st.vm.findClass RL = some md.cls) (hst : l.stackTraces = false) (hE : ev D K st) (hXw : xw st) (hxn : xn st) (hZ : xst dp fs A st st.heap) (hA : ∀ q : Nat, st.heap.size ≤ q → A q) (hX : va_X b9 L xs st st.heap) (hbl : b9 < st.heap.size) (hbA : ¬ A b9) (k : Nat) (hk : 4 * k + 4 ≤ L) (hL : L ≤ 2048) (cells slots : Nat) (hc1 : cells + 1 ≤ 601024) (hc2 : slots + 6 ≤ 7293034) (kk : Nx pr l en st md ar bl mt co D K A Q b9 a b t c r o k (cells + 1) (slots + 6) 1550) : Nx pr l en st md ar bl mt co D K A Q b9 a b t c r o k cells slots 1222 := by
  intro T len qu n cs ln sn Sv g th pn pm sta ms hs sv pf fa of hLI H locs ls hP hD hS hl
  have hLI0 := hLI
  obtain ⟨hI, hK, hCB, hsn, hSV, hSI, hSH⟩ := hLI
  refine lv_aload_n hx hb dL_law_1222 rfl (lv_at hl 2 rfl) ?_
  refine lv_aload_n hx hb dL_law_1223 rfl (lv_at hl 1 rfl) ?_
  refine lv_iload hx hb dL_law_1224 (lv_at hl 0 rfl) ?_
  refine lv_iconst (v := nI 1) hx hb dL_law_1226 (by decide) ?_
  refine nv_iadd (x := 4 * k) (y := 1) hx hb dL_law_1227 ?_
  refine va_sld hx hb hX hbl hbA hS (pk_in ((4 * k) + 1) L (by omega)) dL_law_1228 ?_
  rw [pk_cl ((4 * k) + 1)]
  refine lv_aload_n hx hb dL_law_1229 rfl (lv_at hl 4 rfl) ?_
  have hEl : q1 0 2 (xs ((4 * k) + 1)) ≤ 1 := by unfold q1; (repeat' split) <;> omega
  by_cases hE0 : q1 0 2 (xs ((4 * k) + 1)) = 0
  · refine lx_S (rest := []) ⟨hx, hb, hml, hown, hts⟩ hP hE hA hD hS hXw hZ hxn (c_L_setting l D K dp fs hst _ _ _ _ _ _ _ _ _ _ _ _ _ _ (xs ((4 * k) + 1)) hI _ _ _) (vx_cwSW 3 hts gL_law_L_setting rfl rfl rfl hn_L_setting ⟨Nat.le_of_ble_eq_true rfl, Nat.le_of_ble_eq_true rfl⟩) rfl hl.1 rfl (Nat.le_of_ble_eq_true rfl) dL_law_1230 ⟨show _ ≤ 601024 by omega, show _ ≤ 7293034 by omega⟩ (fun H locs hP hD hS => ?_)
    rw [if_pos hE0] at hP hD
    have hP : va_P D vwCl (cW K a b t c g T len qu n cs ln sn Sv (oC K o (vp_updL of 0 ((nI (stT T (tn (xs ((4 * k) + 1))))).toInt64)) :: rfW K r th pn sn ln pm sta ms hs T sv cs pf fa [])) H := hP
    have hD : va_D A (cW K a b t c g T len qu n cs ln sn Sv (oC K o (vp_updL of 0 ((nI (stT T (tn (xs ((4 * k) + 1))))).toInt64)) :: rfW K r th pn sn ln pm sta ms hs T sv cs pf fa [])) := hD
    refine top_i (y := nI 0) (by rw [hE0]) ?_
    refine lv_istore (lv' := [(5, .int (nI 0)), (4, .int (nI (4 * k))), (0, .ref b9), (1, .ref (c 0)), (2, .ref (r 0)), (3, .ref o)]) hx hb dL_law_1233 hl (by decide) rfl (fun ls hl => ?_)
    refine lv_aload_n hx hb dL_law_1235 rfl (lv_at hl 4 rfl) ?_
    refine lv_aload_n hx hb dL_law_1236 rfl (lv_at hl 2 rfl) ?_
    refine lv_iload hx hb dL_law_1237 (lv_at hl 1 rfl) ?_
    refine lv_iconst (v := nI 1) hx hb dL_law_1239 (by decide) ?_
    refine nv_iadd (x := 4 * k) (y := 1) hx hb dL_law_1240 ?_
    refine va_sld hx hb hX hbl hbA hS (pk_in ((4 * k) + 1) L (by omega)) dL_law_1241 ?_
    rw [pk_cl ((4 * k) + 1)]
    have hP := hP.perm lw_pm
    have hD := hD.perm lw_pm
    refine wr_V (rest := []) (ci := 4) (q0 := 0) ⟨hx, hb, hml, hown, hts⟩ hP hE hA hD hS (c_X4_setting l D K _ _ _ _ _ _ _ _ _ _ _ _ _ _ _ _ (xs ((4 * k) + 1)) hI) (cwV 1 hts gL_law_X4_setting rfl rfl rfl hd_X4_setting ⟨Nat.le_of_ble_eq_true rfl, Nat.le_of_ble_eq_true rfl⟩) rfl rfl rfl rfl hl.1 rfl (Nat.le_of_ble_eq_true rfl) dL_law_1242 ⟨show _ ≤ 601024 by omega, show _ ≤ 7293034 by omega⟩ (fun H locs hP hD hS => ?_)
    rw [if_pos hE0] at hP hD
    have hP : va_P D vwCl (rfW K r (nI 0) pn sn ln pm sta ms hs T sv cs pf fa (cW K a b t c g T len qu n cs ln sn Sv [oC K o (vp_updL of 0 ((nI (stT T (tn (xs ((4 * k) + 1))))).toInt64))])) H := hP
    have hD : va_D A (rfW K r (nI 0) pn sn ln pm sta ms hs T sv cs pf fa (cW K a b t c g T len qu n cs ln sn Sv [oC K o (vp_updL of 0 ((nI (stT T (tn (xs ((4 * k) + 1))))).toInt64))])) := hD
    have hP := hP.perm lw_pm.symm
    have hD := hD.perm lw_pm.symm
    have hP : va_P D vwCl (cW K a b t c g T len qu n cs ln sn Sv (oC K o (vp_updL of 0 ((nI (stT T (tn (xs ((4 * k) + 1))))).toInt64)) :: rfW K r (nI 0) pn sn ln pm sta ms hs T sv cs pf fa [])) H := hP
    have hD : va_D A (cW K a b t c g T len qu n cs ln sn Sv (oC K o (vp_updL of 0 ((nI (stT T (tn (xs ((4 * k) + 1))))).toInt64)) :: rfW K r (nI 0) pn sn ln pm sta ms hs T sv cs pf fa [])) := hD
    refine top_i (y := nI (stT T (tn (xs ((4 * k) + 1))))) (if_pos hE0) ?_
    refine lv_istore (lv' := [(6, .int (nI (stT T (tn (xs ((4 * k) + 1)))))), (5, .int (nI 0)), (4, .int (nI (4 * k))), (0, .ref b9), (1, .ref (c 0)), (2, .ref (r 0)), (3, .ref o)]) hx hb dL_law_1245 hl (by decide) rfl (fun ls hl => ?_)
    refine lv_aload_n hx hb dL_law_1247 rfl (lv_at hl 5 rfl) ?_
    have hP := hP.perm lw_pm
    have hD := hD.perm lw_pm
    refine wr_V (rest := []) (ci := 4) (q0 := 0) ⟨hx, hb, hml, hown, hts⟩ hP hE hA hD hS (c_X4_thrown l D K _ _ _ _ _ _ _ _ _ _ _ _ _ _ _ _ ) (cwV 0 hts gL_law_X4_thrown rfl rfl rfl hd_X4_thrown ⟨Nat.le_of_ble_eq_true rfl, Nat.le_of_ble_eq_true rfl⟩) rfl rfl rfl rfl hl.1 rfl (Nat.le_of_ble_eq_true rfl) dL_law_1248 ⟨show _ ≤ 601024 by omega, show _ ≤ 7293034 by omega⟩ (fun H locs hP hD hS => ?_)
    have hP : va_P D vwCl (rfW K r (nI 0) pn sn ln pm sta ms hs T sv cs pf fa (cW K a b t c g T len qu n cs ln sn Sv [oC K o (vp_updL of 0 ((nI (stT T (tn (xs ((4 * k) + 1))))).toInt64))])) H := hP
    have hD : va_D A (rfW K r (nI 0) pn sn ln pm sta ms hs T sv cs pf fa (cW K a b t c g T len qu n cs ln sn Sv [oC K o (vp_updL of 0 ((nI (stT T (tn (xs ((4 * k) + 1))))).toInt64))])) := hD
    have hP := hP.perm lw_pm.symm
    have hD := hD.perm lw_pm.symm
    have hP : va_P D vwCl (cW K a b t c g T len qu n cs ln sn Sv (oC K o (vp_updL of 0 ((nI (stT T (tn (xs ((4 * k) + 1))))).toInt64)) :: rfW K r (nI 0) pn sn ln pm sta ms hs T sv cs pf fa [])) H := hP
    have hD : va_D A (cW K a b t c g T len qu n cs ln sn Sv (oC K o (vp_updL of 0 ((nI (stT T (tn (xs ((4 * k) + 1))))).toInt64)) :: rfW K r (nI 0) pn sn ln pm sta ms hs T sv cs pf fa [])) := hD
    refine lv_iload hx hb dL_law_1251 (lv_at hl 1 rfl) ?_
    refine nv_icmp_eq (x := 0) (y := 0) (tgt := 1258) hx hb dL_law_1253 (by decide) (by decide) (by decide) (fun c_1 => ?_) (fun c_1 => ?_)
    · refine lv_iload hx hb dL_law_1258 (lv_at hl 1 rfl) ?_
      refine nv_if_ne (x := 0) (tgt := 1275) hx hb dL_law_1260 (by decide) (by decide) (fun c_2 => ?_) (fun c_2 => ?_)
      · exact absurd c_2 (by decide)
      have n_c_2 : ¬ 0 < 0 := by omega
      refine lv_aload_n hx hb dL_law_1263 rfl (lv_at hl 6 rfl) ?_
      refine lv_iconst (v := nI 0) hx hb dL_law_1264 (by decide) ?_
      refine nv_lald hx hb hE hP 91 rfl dL_law_1265 ?_
      refine top_l (y := (nI (stT T (tn (xs ((4 * k) + 1))))).toInt64) rfl ?_
      refine lv_iload hx hb dL_law_1266 (lv_at hl 0 rfl) ?_
      refine lv_i2l (v := (nI (stT T (tn (xs ((4 * k) + 1))))).toInt64) hx hb dL_law_1268 rfl ?_
      refine W.lcmp hx hb dL_law_1269 ?_
      refine top_i (y := nI 0) (lcmp_rf _) ?_
      refine nv_if_eq (x := 0) (tgt := 1275) hx hb dL_law_1270 (by decide) (by decide) (fun c_3 => ?_) (fun c_3 => ?_)
      · have n_c_3 : ¬ 0 < 0 := by omega
        refine lv_goto (tgt := 1550) hx hb dL_law_1275 (by decide) ?_
        refine W.widen (k := cells + 1) (n := slots + 6) (by omega) (by omega) ?_
        exact kk _ _ _ _ _ _ _ _ _ _ _ _ _ _ _ _ _ _ _ (hLI0) H locs ls hP hD hS (lv_sub hl [2, 3, 4, 5, 6] rfl)
      exact absurd c_3 (by decide)
    exact absurd c_1 (by decide)
  · refine lx_S (rest := []) ⟨hx, hb, hml, hown, hts⟩ hP hE hA hD hS hXw hZ hxn (c_L_setting l D K dp fs hst _ _ _ _ _ _ _ _ _ _ _ _ _ _ (xs ((4 * k) + 1)) hI _ _ _) (vx_cwSW 3 hts gL_law_L_setting rfl rfl rfl hn_L_setting ⟨Nat.le_of_ble_eq_true rfl, Nat.le_of_ble_eq_true rfl⟩) rfl hl.1 rfl (Nat.le_of_ble_eq_true rfl) dL_law_1230 ⟨show _ ≤ 601024 by omega, show _ ≤ 7293034 by omega⟩ (fun H locs hP hD hS => ?_)
    rw [if_neg hE0] at hP hD
    have hP : va_P D vwCl (cW K a b t c g T len qu n cs ln sn Sv (oC K o of :: rfW K r th pn sn ln pm sta ms hs T sv cs pf fa [])) H := hP
    have hD : va_D A (cW K a b t c g T len qu n cs ln sn Sv (oC K o of :: rfW K r th pn sn ln pm sta ms hs T sv cs pf fa [])) := hD
    refine top_i (y := nI (q1 0 2 (xs ((4 * k) + 1)))) (rfl) ?_
    refine lv_istore (lv' := [(5, .int (nI (q1 0 2 (xs ((4 * k) + 1))))), (4, .int (nI (4 * k))), (0, .ref b9), (1, .ref (c 0)), (2, .ref (r 0)), (3, .ref o)]) hx hb dL_law_1233 hl (by decide) rfl (fun ls hl => ?_)
    refine lv_aload_n hx hb dL_law_1235 rfl (lv_at hl 4 rfl) ?_
    refine lv_aload_n hx hb dL_law_1236 rfl (lv_at hl 2 rfl) ?_
    refine lv_iload hx hb dL_law_1237 (lv_at hl 1 rfl) ?_
    refine lv_iconst (v := nI 1) hx hb dL_law_1239 (by decide) ?_
    refine nv_iadd (x := 4 * k) (y := 1) hx hb dL_law_1240 ?_
    refine va_sld hx hb hX hbl hbA hS (pk_in ((4 * k) + 1) L (by omega)) dL_law_1241 ?_
    rw [pk_cl ((4 * k) + 1)]
    have hP := hP.perm lw_pm
    have hD := hD.perm lw_pm
    refine wr_V (rest := []) (ci := 4) (q0 := 0) ⟨hx, hb, hml, hown, hts⟩ hP hE hA hD hS (c_X4_setting l D K _ _ _ _ _ _ _ _ _ _ _ _ _ _ _ _ (xs ((4 * k) + 1)) hI) (cwV 1 hts gL_law_X4_setting rfl rfl rfl hd_X4_setting ⟨Nat.le_of_ble_eq_true rfl, Nat.le_of_ble_eq_true rfl⟩) rfl rfl rfl rfl hl.1 rfl (Nat.le_of_ble_eq_true rfl) dL_law_1242 ⟨show _ ≤ 601024 by omega, show _ ≤ 7293034 by omega⟩ (fun H locs hP hD hS => ?_)
    rw [if_neg hE0] at hP hD
    have hP : va_P D vwCl (rfW K r (nI (q1 0 2 (xs ((4 * k) + 1)))) pn sn ln pm sta ms hs T sv cs pf fa (cW K a b t c g T len qu n cs ln sn Sv [oC K o of])) H := hP
    have hD : va_D A (rfW K r (nI (q1 0 2 (xs ((4 * k) + 1)))) pn sn ln pm sta ms hs T sv cs pf fa (cW K a b t c g T len qu n cs ln sn Sv [oC K o of])) := hD
    have hP := hP.perm lw_pm.symm
    have hD := hD.perm lw_pm.symm
    have hP : va_P D vwCl (cW K a b t c g T len qu n cs ln sn Sv (oC K o of :: rfW K r (nI (q1 0 2 (xs ((4 * k) + 1)))) pn sn ln pm sta ms hs T sv cs pf fa [])) H := hP
    have hD : va_D A (cW K a b t c g T len qu n cs ln sn Sv (oC K o of :: rfW K r (nI (q1 0 2 (xs ((4 * k) + 1)))) pn sn ln pm sta ms hs T sv cs pf fa [])) := hD
    refine top_i (y := 0) (if_neg hE0) ?_
    refine lv_istore (lv' := [(6, .int 0), (5, .int (nI (q1 0 2 (xs ((4 * k) + 1))))), (4, .int (nI (4 * k))), (0, .ref b9), (1, .ref (c 0)), (2, .ref (r 0)), (3, .ref o)]) hx hb dL_law_1245 hl (by decide) rfl (fun ls hl => ?_)
    refine lv_aload_n hx hb dL_law_1247 rfl (lv_at hl 5 rfl) ?_
    have hP := hP.perm lw_pm
    have hD := hD.perm lw_pm
    refine wr_V (rest := []) (ci := 4) (q0 := 0) ⟨hx, hb, hml, hown, hts⟩ hP hE hA hD hS (c_X4_thrown l D K _ _ _ _ _ _ _ _ _ _ _ _ _ _ _ _ ) (cwV 0 hts gL_law_X4_thrown rfl rfl rfl hd_X4_thrown ⟨Nat.le_of_ble_eq_true rfl, Nat.le_of_ble_eq_true rfl⟩) rfl rfl rfl rfl hl.1 rfl (Nat.le_of_ble_eq_true rfl) dL_law_1248 ⟨show _ ≤ 601024 by omega, show _ ≤ 7293034 by omega⟩ (fun H locs hP hD hS => ?_)
    have hP : va_P D vwCl (rfW K r (nI (q1 0 2 (xs ((4 * k) + 1)))) pn sn ln pm sta ms hs T sv cs pf fa (cW K a b t c g T len qu n cs ln sn Sv [oC K o of])) H := hP
    have hD : va_D A (rfW K r (nI (q1 0 2 (xs ((4 * k) + 1)))) pn sn ln pm sta ms hs T sv cs pf fa (cW K a b t c g T len qu n cs ln sn Sv [oC K o of])) := hD
    have hP := hP.perm lw_pm.symm
    have hD := hD.perm lw_pm.symm
    have hP : va_P D vwCl (cW K a b t c g T len qu n cs ln sn Sv (oC K o of :: rfW K r (nI (q1 0 2 (xs ((4 * k) + 1)))) pn sn ln pm sta ms hs T sv cs pf fa [])) H := hP
    have hD : va_D A (cW K a b t c g T len qu n cs ln sn Sv (oC K o of :: rfW K r (nI (q1 0 2 (xs ((4 * k) + 1)))) pn sn ln pm sta ms hs T sv cs pf fa [])) := hD
    refine lv_iload hx hb dL_law_1251 (lv_at hl 1 rfl) ?_
    refine lv_icmp_eq (x := nI (q1 0 2 (xs ((4 * k) + 1)))) (y := nI (q1 0 2 (xs ((4 * k) + 1)))) (tgt := 1258) hx hb dL_law_1253 (by decide) (fun c_4 => ?_) (fun c_4 => ?_)
    · refine lv_iload hx hb dL_law_1258 (lv_at hl 1 rfl) ?_
      refine nv_if_ne (x := q1 0 2 (xs ((4 * k) + 1))) (tgt := 1275) hx hb dL_law_1260 (by decide) (by omega) (fun c_5 => ?_) (fun c_5 => ?_)
      · have n_c_5 : ¬ q1 0 2 (xs ((4 * k) + 1)) = 0 := by omega
        refine lv_goto (tgt := 1550) hx hb dL_law_1275 (by decide) ?_
        refine W.widen (k := cells + 1) (n := slots + 6) (by omega) (by omega) ?_
        exact kk _ _ _ _ _ _ _ _ _ _ _ _ _ _ _ _ _ _ _ (hLI0) H locs ls hP hD hS (lv_sub hl [2, 3, 4, 5, 6] rfl)
      exact absurd c_5 hE0
    exact absurd rfl c_4
set_option maxHeartbeats 4000000 in
set_option maxRecDepth 100000 in
theorem lc_away {pr : Program} {l : Launch} {en : Env} {st : State} {md : MethodId} {ar : Array Value} {bl : List Frame} {mt : Method} {co : Code} {D : va_G} {K : Nat → ClassId} {A : Nat → Prop} {Q : State → Prop} {b9 : Nat} {a b t c r : Nat → Nat} {o : Nat} {dp fs L : Nat} {xs : Nat → Int32} (hx : pr.tables.exec = Jvm.exec) (hb : co.code = cL_law) (hml : co.maxLocals = 9) (hts : ∀ w ∈ wsL_law, w.before ar st = true) (hown : st.vm.findClass RL = some md.cls) (hst : l.stackTraces = false) (hE : ev D K st) (hXw : xw st) (hxn : xn st) (hZ : xst dp fs A st st.heap) (hA : ∀ q : Nat, st.heap.size ≤ q → A q) (hX : va_X b9 L xs st st.heap) (hbl : b9 < st.heap.size) (hbA : ¬ A b9) (k : Nat) (hk : 4 * k + 4 ≤ L) (hL : L ≤ 2048) (cells slots : Nat) (hc1 : cells + 1 ≤ 601024) (hc2 : slots + 6 ≤ 7293034) (kk : Nx pr l en st md ar bl mt co D K A Q b9 a b t c r o k (cells + 1) (slots + 6) 1550) : Nx pr l en st md ar bl mt co D K A Q b9 a b t c r o k cells slots 1278 := by
  intro T len qu n cs ln sn Sv g th pn pm sta ms hs sv pf fa of hLI H locs ls hP hD hS hl
  have hLI0 := hLI
  obtain ⟨hI, hK, hCB, hsn, hSV, hSI, hSH⟩ := hLI
  refine lv_aload_n hx hb dL_law_1278 rfl (lv_at hl 2 rfl) ?_
  refine lv_aload_n hx hb dL_law_1279 rfl (lv_at hl 1 rfl) ?_
  refine lv_iload hx hb dL_law_1280 (lv_at hl 0 rfl) ?_
  refine lv_iconst (v := nI 1) hx hb dL_law_1282 (by decide) ?_
  refine nv_iadd (x := 4 * k) (y := 1) hx hb dL_law_1283 ?_
  refine va_sld hx hb hX hbl hbA hS (pk_in ((4 * k) + 1) L (by omega)) dL_law_1284 ?_
  rw [pk_cl ((4 * k) + 1)]
  refine lv_aload_n hx hb dL_law_1285 rfl (lv_at hl 1 rfl) ?_
  refine lv_iload hx hb dL_law_1286 (lv_at hl 0 rfl) ?_
  refine lv_iconst (v := nI 2) hx hb dL_law_1288 (by decide) ?_
  refine nv_iadd (x := 4 * k) (y := 2) hx hb dL_law_1289 ?_
  refine va_sld hx hb hX hbl hbA hS (pk_in ((4 * k) + 2) L (by omega)) dL_law_1290 ?_
  rw [pk_cl ((4 * k) + 2)]
  refine lv_aload_n hx hb dL_law_1291 rfl (lv_at hl 4 rfl) ?_
  have hEl : awE (xs ((4 * k) + 1)) (xs ((4 * k) + 2)) ≤ 1 := by unfold awE; (repeat' split) <;> omega
  by_cases hE0 : awE (xs ((4 * k) + 1)) (xs ((4 * k) + 2)) = 0
  · refine lx_S (rest := []) ⟨hx, hb, hml, hown, hts⟩ hP hE hA hD hS hXw hZ hxn (c_L_away l D K dp fs hst _ _ _ _ _ _ _ _ _ _ _ _ _ _ (xs ((4 * k) + 1)) (xs ((4 * k) + 2)) hI hK _ _ _) (vx_cwSW 4 hts gL_law_L_away rfl rfl rfl hn_L_away ⟨Nat.le_of_ble_eq_true rfl, Nat.le_of_ble_eq_true rfl⟩) rfl hl.1 rfl (Nat.le_of_ble_eq_true rfl) dL_law_1292 ⟨show _ ≤ 601024 by omega, show _ ≤ 7293034 by omega⟩ (fun H locs hP hD hS => ?_)
    rw [if_pos hE0] at hP hD
    have hP : va_P D vwCl (cW K a b t c g T ((fewS T (tn (xs ((4 * k) + 1))) qu).1) ((fewS T (tn (xs ((4 * k) + 1))) qu).2.1) ((fewS T (tn (xs ((4 * k) + 1))) qu).2.2) cs ln sn Sv (oC K o (vp_updL of 0 ((oI (wyO (dst T (tn (xs ((4 * k) + 1))) 0 (tn (xs ((4 * k) + 2)))))).toInt64)) :: rfW K r th pn sn ln pm sta ms hs T sv cs pf fa [])) H := hP
    have hD : va_D A (cW K a b t c g T ((fewS T (tn (xs ((4 * k) + 1))) qu).1) ((fewS T (tn (xs ((4 * k) + 1))) qu).2.1) ((fewS T (tn (xs ((4 * k) + 1))) qu).2.2) cs ln sn Sv (oC K o (vp_updL of 0 ((oI (wyO (dst T (tn (xs ((4 * k) + 1))) 0 (tn (xs ((4 * k) + 2)))))).toInt64)) :: rfW K r th pn sn ln pm sta ms hs T sv cs pf fa [])) := hD
    refine top_i (y := nI 0) (by rw [hE0]) ?_
    refine lv_istore (lv' := [(5, .int (nI 0)), (4, .int (nI (4 * k))), (0, .ref b9), (1, .ref (c 0)), (2, .ref (r 0)), (3, .ref o)]) hx hb dL_law_1295 hl (by decide) rfl (fun ls hl => ?_)
    refine lv_aload_n hx hb dL_law_1297 rfl (lv_at hl 4 rfl) ?_
    refine lv_aload_n hx hb dL_law_1298 rfl (lv_at hl 2 rfl) ?_
    refine lv_iload hx hb dL_law_1299 (lv_at hl 1 rfl) ?_
    refine lv_iconst (v := nI 1) hx hb dL_law_1301 (by decide) ?_
    refine nv_iadd (x := 4 * k) (y := 1) hx hb dL_law_1302 ?_
    refine va_sld hx hb hX hbl hbA hS (pk_in ((4 * k) + 1) L (by omega)) dL_law_1303 ?_
    rw [pk_cl ((4 * k) + 1)]
    refine lv_aload_n hx hb dL_law_1304 rfl (lv_at hl 2 rfl) ?_
    refine lv_iload hx hb dL_law_1305 (lv_at hl 1 rfl) ?_
    refine lv_iconst (v := nI 2) hx hb dL_law_1307 (by decide) ?_
    refine nv_iadd (x := 4 * k) (y := 2) hx hb dL_law_1308 ?_
    refine va_sld hx hb hX hbl hbA hS (pk_in ((4 * k) + 2) L (by omega)) dL_law_1309 ?_
    rw [pk_cl ((4 * k) + 2)]
    have hP := hP.perm lw_pm
    have hD := hD.perm lw_pm
    refine wr_V (rest := []) (ci := 4) (q0 := 0) ⟨hx, hb, hml, hown, hts⟩ hP hE hA hD hS (c_X4_away l D K _ _ _ _ _ _ _ _ _ _ _ _ _ _ _ _ (xs ((4 * k) + 1)) (xs ((4 * k) + 2)) hI) (cwV 2 hts gL_law_X4_away rfl rfl rfl hd_X4_away ⟨Nat.le_of_ble_eq_true rfl, Nat.le_of_ble_eq_true rfl⟩) rfl rfl rfl rfl hl.1 rfl (Nat.le_of_ble_eq_true rfl) dL_law_1310 ⟨show _ ≤ 601024 by omega, show _ ≤ 7293034 by omega⟩ (fun H locs hP hD hS => ?_)
    rw [if_pos hE0] at hP hD
    have hP : va_P D vwCl (rfW K r (nI 0) pn sn ln pm sta ms hs T sv cs pf (dst T (tn (xs ((4 * k) + 1))) 0) (cW K a b t c g T ((fewS T (tn (xs ((4 * k) + 1))) qu).1) ((fewS T (tn (xs ((4 * k) + 1))) qu).2.1) ((fewS T (tn (xs ((4 * k) + 1))) qu).2.2) cs ln sn Sv [oC K o (vp_updL of 0 ((oI (wyO (dst T (tn (xs ((4 * k) + 1))) 0 (tn (xs ((4 * k) + 2)))))).toInt64))])) H := hP
    have hD : va_D A (rfW K r (nI 0) pn sn ln pm sta ms hs T sv cs pf (dst T (tn (xs ((4 * k) + 1))) 0) (cW K a b t c g T ((fewS T (tn (xs ((4 * k) + 1))) qu).1) ((fewS T (tn (xs ((4 * k) + 1))) qu).2.1) ((fewS T (tn (xs ((4 * k) + 1))) qu).2.2) cs ln sn Sv [oC K o (vp_updL of 0 ((oI (wyO (dst T (tn (xs ((4 * k) + 1))) 0 (tn (xs ((4 * k) + 2)))))).toInt64))])) := hD
    have hP := hP.perm lw_pm.symm
    have hD := hD.perm lw_pm.symm
    have hP : va_P D vwCl (cW K a b t c g T ((fewS T (tn (xs ((4 * k) + 1))) qu).1) ((fewS T (tn (xs ((4 * k) + 1))) qu).2.1) ((fewS T (tn (xs ((4 * k) + 1))) qu).2.2) cs ln sn Sv (oC K o (vp_updL of 0 ((oI (wyO (dst T (tn (xs ((4 * k) + 1))) 0 (tn (xs ((4 * k) + 2)))))).toInt64)) :: rfW K r (nI 0) pn sn ln pm sta ms hs T sv cs pf (dst T (tn (xs ((4 * k) + 1))) 0) [])) H := hP
    have hD : va_D A (cW K a b t c g T ((fewS T (tn (xs ((4 * k) + 1))) qu).1) ((fewS T (tn (xs ((4 * k) + 1))) qu).2.1) ((fewS T (tn (xs ((4 * k) + 1))) qu).2.2) cs ln sn Sv (oC K o (vp_updL of 0 ((oI (wyO (dst T (tn (xs ((4 * k) + 1))) 0 (tn (xs ((4 * k) + 2)))))).toInt64)) :: rfW K r (nI 0) pn sn ln pm sta ms hs T sv cs pf (dst T (tn (xs ((4 * k) + 1))) 0) [])) := hD
    refine top_i (y := oI (wyO (dst T (tn (xs ((4 * k) + 1))) 0 (tn (xs ((4 * k) + 2)))))) (if_pos hE0) ?_
    refine lv_istore (lv' := [(6, .int (oI (wyO (dst T (tn (xs ((4 * k) + 1))) 0 (tn (xs ((4 * k) + 2))))))), (5, .int (nI 0)), (4, .int (nI (4 * k))), (0, .ref b9), (1, .ref (c 0)), (2, .ref (r 0)), (3, .ref o)]) hx hb dL_law_1313 hl (by decide) rfl (fun ls hl => ?_)
    refine lv_aload_n hx hb dL_law_1315 rfl (lv_at hl 5 rfl) ?_
    have hP := hP.perm lw_pm
    have hD := hD.perm lw_pm
    refine wr_V (rest := []) (ci := 4) (q0 := 0) ⟨hx, hb, hml, hown, hts⟩ hP hE hA hD hS (c_X4_thrown l D K _ _ _ _ _ _ _ _ _ _ _ _ _ _ _ _ ) (cwV 0 hts gL_law_X4_thrown rfl rfl rfl hd_X4_thrown ⟨Nat.le_of_ble_eq_true rfl, Nat.le_of_ble_eq_true rfl⟩) rfl rfl rfl rfl hl.1 rfl (Nat.le_of_ble_eq_true rfl) dL_law_1316 ⟨show _ ≤ 601024 by omega, show _ ≤ 7293034 by omega⟩ (fun H locs hP hD hS => ?_)
    have hP : va_P D vwCl (rfW K r (nI 0) pn sn ln pm sta ms hs T sv cs pf (dst T (tn (xs ((4 * k) + 1))) 0) (cW K a b t c g T ((fewS T (tn (xs ((4 * k) + 1))) qu).1) ((fewS T (tn (xs ((4 * k) + 1))) qu).2.1) ((fewS T (tn (xs ((4 * k) + 1))) qu).2.2) cs ln sn Sv [oC K o (vp_updL of 0 ((oI (wyO (dst T (tn (xs ((4 * k) + 1))) 0 (tn (xs ((4 * k) + 2)))))).toInt64))])) H := hP
    have hD : va_D A (rfW K r (nI 0) pn sn ln pm sta ms hs T sv cs pf (dst T (tn (xs ((4 * k) + 1))) 0) (cW K a b t c g T ((fewS T (tn (xs ((4 * k) + 1))) qu).1) ((fewS T (tn (xs ((4 * k) + 1))) qu).2.1) ((fewS T (tn (xs ((4 * k) + 1))) qu).2.2) cs ln sn Sv [oC K o (vp_updL of 0 ((oI (wyO (dst T (tn (xs ((4 * k) + 1))) 0 (tn (xs ((4 * k) + 2)))))).toInt64))])) := hD
    have hP := hP.perm lw_pm.symm
    have hD := hD.perm lw_pm.symm
    have hP : va_P D vwCl (cW K a b t c g T ((fewS T (tn (xs ((4 * k) + 1))) qu).1) ((fewS T (tn (xs ((4 * k) + 1))) qu).2.1) ((fewS T (tn (xs ((4 * k) + 1))) qu).2.2) cs ln sn Sv (oC K o (vp_updL of 0 ((oI (wyO (dst T (tn (xs ((4 * k) + 1))) 0 (tn (xs ((4 * k) + 2)))))).toInt64)) :: rfW K r (nI 0) pn sn ln pm sta ms hs T sv cs pf (dst T (tn (xs ((4 * k) + 1))) 0) [])) H := hP
    have hD : va_D A (cW K a b t c g T ((fewS T (tn (xs ((4 * k) + 1))) qu).1) ((fewS T (tn (xs ((4 * k) + 1))) qu).2.1) ((fewS T (tn (xs ((4 * k) + 1))) qu).2.2) cs ln sn Sv (oC K o (vp_updL of 0 ((oI (wyO (dst T (tn (xs ((4 * k) + 1))) 0 (tn (xs ((4 * k) + 2)))))).toInt64)) :: rfW K r (nI 0) pn sn ln pm sta ms hs T sv cs pf (dst T (tn (xs ((4 * k) + 1))) 0) [])) := hD
    refine lv_iload hx hb dL_law_1319 (lv_at hl 1 rfl) ?_
    refine nv_icmp_eq (x := 0) (y := 0) (tgt := 1326) hx hb dL_law_1321 (by decide) (by decide) (by decide) (fun c_1 => ?_) (fun c_1 => ?_)
    · refine lv_iload hx hb dL_law_1326 (lv_at hl 1 rfl) ?_
      refine nv_if_ne (x := 0) (tgt := 1343) hx hb dL_law_1328 (by decide) (by decide) (fun c_2 => ?_) (fun c_2 => ?_)
      · exact absurd c_2 (by decide)
      have n_c_2 : ¬ 0 < 0 := by omega
      refine lv_aload_n hx hb dL_law_1331 rfl (lv_at hl 6 rfl) ?_
      refine lv_iconst (v := nI 0) hx hb dL_law_1332 (by decide) ?_
      refine nv_lald hx hb hE hP 91 rfl dL_law_1333 ?_
      refine top_l (y := (oI (wyO (dst T (tn (xs ((4 * k) + 1))) 0 (tn (xs ((4 * k) + 2)))))).toInt64) rfl ?_
      refine lv_iload hx hb dL_law_1334 (lv_at hl 0 rfl) ?_
      refine lv_i2l (v := (oI (wyO (dst T (tn (xs ((4 * k) + 1))) 0 (tn (xs ((4 * k) + 2)))))).toInt64) hx hb dL_law_1336 rfl ?_
      refine W.lcmp hx hb dL_law_1337 ?_
      refine top_i (y := nI 0) (lcmp_rf _) ?_
      refine nv_if_eq (x := 0) (tgt := 1343) hx hb dL_law_1338 (by decide) (by decide) (fun c_3 => ?_) (fun c_3 => ?_)
      · have n_c_3 : ¬ 0 < 0 := by omega
        refine lv_goto (tgt := 1550) hx hb dL_law_1343 (by decide) ?_
        refine W.widen (k := cells + 1) (n := slots + 6) (by omega) (by omega) ?_
        exact kk _ _ _ _ _ _ _ _ _ _ _ _ _ _ _ _ _ _ _ (hLI0) H locs ls hP hD hS (lv_sub hl [2, 3, 4, 5, 6] rfl)
      exact absurd c_3 (by decide)
    exact absurd c_1 (by decide)
  · refine lx_S (rest := []) ⟨hx, hb, hml, hown, hts⟩ hP hE hA hD hS hXw hZ hxn (c_L_away l D K dp fs hst _ _ _ _ _ _ _ _ _ _ _ _ _ _ (xs ((4 * k) + 1)) (xs ((4 * k) + 2)) hI hK _ _ _) (vx_cwSW 4 hts gL_law_L_away rfl rfl rfl hn_L_away ⟨Nat.le_of_ble_eq_true rfl, Nat.le_of_ble_eq_true rfl⟩) rfl hl.1 rfl (Nat.le_of_ble_eq_true rfl) dL_law_1292 ⟨show _ ≤ 601024 by omega, show _ ≤ 7293034 by omega⟩ (fun H locs hP hD hS => ?_)
    rw [if_neg hE0] at hP hD
    have hP : va_P D vwCl (cW K a b t c g T len qu n cs ln sn Sv (oC K o of :: rfW K r th pn sn ln pm sta ms hs T sv cs pf fa [])) H := hP
    have hD : va_D A (cW K a b t c g T len qu n cs ln sn Sv (oC K o of :: rfW K r th pn sn ln pm sta ms hs T sv cs pf fa [])) := hD
    refine top_i (y := nI (awE (xs ((4 * k) + 1)) (xs ((4 * k) + 2)))) (rfl) ?_
    refine lv_istore (lv' := [(5, .int (nI (awE (xs ((4 * k) + 1)) (xs ((4 * k) + 2))))), (4, .int (nI (4 * k))), (0, .ref b9), (1, .ref (c 0)), (2, .ref (r 0)), (3, .ref o)]) hx hb dL_law_1295 hl (by decide) rfl (fun ls hl => ?_)
    refine lv_aload_n hx hb dL_law_1297 rfl (lv_at hl 4 rfl) ?_
    refine lv_aload_n hx hb dL_law_1298 rfl (lv_at hl 2 rfl) ?_
    refine lv_iload hx hb dL_law_1299 (lv_at hl 1 rfl) ?_
    refine lv_iconst (v := nI 1) hx hb dL_law_1301 (by decide) ?_
    refine nv_iadd (x := 4 * k) (y := 1) hx hb dL_law_1302 ?_
    refine va_sld hx hb hX hbl hbA hS (pk_in ((4 * k) + 1) L (by omega)) dL_law_1303 ?_
    rw [pk_cl ((4 * k) + 1)]
    refine lv_aload_n hx hb dL_law_1304 rfl (lv_at hl 2 rfl) ?_
    refine lv_iload hx hb dL_law_1305 (lv_at hl 1 rfl) ?_
    refine lv_iconst (v := nI 2) hx hb dL_law_1307 (by decide) ?_
    refine nv_iadd (x := 4 * k) (y := 2) hx hb dL_law_1308 ?_
    refine va_sld hx hb hX hbl hbA hS (pk_in ((4 * k) + 2) L (by omega)) dL_law_1309 ?_
    rw [pk_cl ((4 * k) + 2)]
    have hP := hP.perm lw_pm
    have hD := hD.perm lw_pm
    refine wr_V (rest := []) (ci := 4) (q0 := 0) ⟨hx, hb, hml, hown, hts⟩ hP hE hA hD hS (c_X4_away l D K _ _ _ _ _ _ _ _ _ _ _ _ _ _ _ _ (xs ((4 * k) + 1)) (xs ((4 * k) + 2)) hI) (cwV 2 hts gL_law_X4_away rfl rfl rfl hd_X4_away ⟨Nat.le_of_ble_eq_true rfl, Nat.le_of_ble_eq_true rfl⟩) rfl rfl rfl rfl hl.1 rfl (Nat.le_of_ble_eq_true rfl) dL_law_1310 ⟨show _ ≤ 601024 by omega, show _ ≤ 7293034 by omega⟩ (fun H locs hP hD hS => ?_)
    rw [if_neg hE0] at hP hD
    have hP : va_P D vwCl (rfW K r (nI (awE (xs ((4 * k) + 1)) (xs ((4 * k) + 2)))) pn sn ln pm sta ms hs T sv cs pf fa (cW K a b t c g T len qu n cs ln sn Sv [oC K o of])) H := hP
    have hD : va_D A (rfW K r (nI (awE (xs ((4 * k) + 1)) (xs ((4 * k) + 2)))) pn sn ln pm sta ms hs T sv cs pf fa (cW K a b t c g T len qu n cs ln sn Sv [oC K o of])) := hD
    have hP := hP.perm lw_pm.symm
    have hD := hD.perm lw_pm.symm
    have hP : va_P D vwCl (cW K a b t c g T len qu n cs ln sn Sv (oC K o of :: rfW K r (nI (awE (xs ((4 * k) + 1)) (xs ((4 * k) + 2)))) pn sn ln pm sta ms hs T sv cs pf fa [])) H := hP
    have hD : va_D A (cW K a b t c g T len qu n cs ln sn Sv (oC K o of :: rfW K r (nI (awE (xs ((4 * k) + 1)) (xs ((4 * k) + 2)))) pn sn ln pm sta ms hs T sv cs pf fa [])) := hD
    refine top_i (y := 0) (if_neg hE0) ?_
    refine lv_istore (lv' := [(6, .int 0), (5, .int (nI (awE (xs ((4 * k) + 1)) (xs ((4 * k) + 2))))), (4, .int (nI (4 * k))), (0, .ref b9), (1, .ref (c 0)), (2, .ref (r 0)), (3, .ref o)]) hx hb dL_law_1313 hl (by decide) rfl (fun ls hl => ?_)
    refine lv_aload_n hx hb dL_law_1315 rfl (lv_at hl 5 rfl) ?_
    have hP := hP.perm lw_pm
    have hD := hD.perm lw_pm
    refine wr_V (rest := []) (ci := 4) (q0 := 0) ⟨hx, hb, hml, hown, hts⟩ hP hE hA hD hS (c_X4_thrown l D K _ _ _ _ _ _ _ _ _ _ _ _ _ _ _ _ ) (cwV 0 hts gL_law_X4_thrown rfl rfl rfl hd_X4_thrown ⟨Nat.le_of_ble_eq_true rfl, Nat.le_of_ble_eq_true rfl⟩) rfl rfl rfl rfl hl.1 rfl (Nat.le_of_ble_eq_true rfl) dL_law_1316 ⟨show _ ≤ 601024 by omega, show _ ≤ 7293034 by omega⟩ (fun H locs hP hD hS => ?_)
    have hP : va_P D vwCl (rfW K r (nI (awE (xs ((4 * k) + 1)) (xs ((4 * k) + 2)))) pn sn ln pm sta ms hs T sv cs pf fa (cW K a b t c g T len qu n cs ln sn Sv [oC K o of])) H := hP
    have hD : va_D A (rfW K r (nI (awE (xs ((4 * k) + 1)) (xs ((4 * k) + 2)))) pn sn ln pm sta ms hs T sv cs pf fa (cW K a b t c g T len qu n cs ln sn Sv [oC K o of])) := hD
    have hP := hP.perm lw_pm.symm
    have hD := hD.perm lw_pm.symm
    have hP : va_P D vwCl (cW K a b t c g T len qu n cs ln sn Sv (oC K o of :: rfW K r (nI (awE (xs ((4 * k) + 1)) (xs ((4 * k) + 2)))) pn sn ln pm sta ms hs T sv cs pf fa [])) H := hP
    have hD : va_D A (cW K a b t c g T len qu n cs ln sn Sv (oC K o of :: rfW K r (nI (awE (xs ((4 * k) + 1)) (xs ((4 * k) + 2)))) pn sn ln pm sta ms hs T sv cs pf fa [])) := hD
    refine lv_iload hx hb dL_law_1319 (lv_at hl 1 rfl) ?_
    refine lv_icmp_eq (x := nI (awE (xs ((4 * k) + 1)) (xs ((4 * k) + 2)))) (y := nI (awE (xs ((4 * k) + 1)) (xs ((4 * k) + 2)))) (tgt := 1326) hx hb dL_law_1321 (by decide) (fun c_4 => ?_) (fun c_4 => ?_)
    · refine lv_iload hx hb dL_law_1326 (lv_at hl 1 rfl) ?_
      refine nv_if_ne (x := awE (xs ((4 * k) + 1)) (xs ((4 * k) + 2))) (tgt := 1343) hx hb dL_law_1328 (by decide) (by omega) (fun c_5 => ?_) (fun c_5 => ?_)
      · have n_c_5 : ¬ awE (xs ((4 * k) + 1)) (xs ((4 * k) + 2)) = 0 := by omega
        refine lv_goto (tgt := 1550) hx hb dL_law_1343 (by decide) ?_
        refine W.widen (k := cells + 1) (n := slots + 6) (by omega) (by omega) ?_
        exact kk _ _ _ _ _ _ _ _ _ _ _ _ _ _ _ _ _ _ _ (hLI0) H locs ls hP hD hS (lv_sub hl [2, 3, 4, 5, 6] rfl)
      exact absurd c_5 hE0
    exact absurd rfl c_4
