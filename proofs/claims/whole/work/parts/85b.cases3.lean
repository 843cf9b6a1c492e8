/-! the law, cases 3 -/
set_option maxHeartbeats 4000000 in
set_option maxRecDepth 100000 in
theorem lc_firstError {pr : Program} {l : Launch} {en : Env} {st : State} {md : MethodId} {ar : Array Value} {bl : List Frame} {mt : Method} {co : Code} {D : va_G} {K : Nat → ClassId} {A : Nat → Prop} {Q : State → Prop} {b9 : Nat} {a b t c r : Nat → Nat} {o : Nat} {dp fs L : Nat} {xs : Nat → Int32} (hx : pr.tables.exec = Jvm.exec) (hb : co.code = cL_law) (hml : co.maxLocals = 9) (hts : ∀ w ∈ wsL_law, w.before ar st = true) (hown : st.vm.findClass RL = some md.cls) (hst : l.stackTraces = false) (hE : ev D K st) (hXw : xw st) (hxn : xn st) (hZ : xst dp fs A st st.heap) (hA : ∀ q : Nat, st.heap.size ≤ q → A q) (hX : va_X b9 L xs st st.heap) (hbl : b9 < st.heap.size) (hbA : ¬ A b9) (k : Nat) (hk : 4 * k + 4 ≤ L) (hL : L ≤ 2048) (cells slots : Nat) (hc1 : cells + 1 ≤ 601024) (hc2 : slots + 6 ≤ 7293034) (kk : Nx pr l en st md ar bl mt co D K A Q b9 a b t c r o k (cells + 1) (slots + 6) 1550) : Nx pr l en st md ar bl mt co D K A Q b9 a b t c r o k cells slots 781 := by
  intro T len qu n cs ln sn Sv g th pn pm sta ms hs sv pf fa of hLI H locs ls hP hD hS hl
  have hLI0 := hLI
  obtain ⟨hI, hK, hCB, hsn, hSV, hSI, hSH⟩ := hLI
  refine lv_aload_n hx hb dL_law_781 rfl (lv_at hl 2 rfl) ?_
  refine rd_V (rest := []) (ci := 3) (q0 := 17) ⟨hx, hb, hml, hown, hts⟩ hP hE (c_X3_firstError l D K _ _ _ _ _ _ _ _ _ _ _ _ _ _ hCB) (cwV 0 hts gL_law_X3_firstError rfl rfl rfl hd_X3_firstError ⟨Nat.le_of_ble_eq_true rfl, Nat.le_of_ble_eq_true rfl⟩) rfl rfl rfl rfl hl.1 rfl (Nat.le_of_ble_eq_true rfl) dL_law_782 ⟨show _ ≤ 601024 by omega, show _ ≤ 7293034 by omega⟩ ?_
  refine lv_aload_n hx hb dL_law_785 rfl (lv_at hl 3 rfl) ?_
  have hP := hP.perm lw_pm
  have hD := hD.perm lw_pm
  refine wr_V (rest := [.int (nI (errS cs ln))]) (ci := 4) (q0 := 0) ⟨hx, hb, hml, hown, hts⟩ hP hE hA hD hS (c_X4_firstError l D K _ _ _ _ _ _ _ _ _ _ _ _ _ _ _ _ hCB) (cwV 0 hts gL_law_X4_firstError rfl rfl rfl hd_X4_firstError ⟨Nat.le_of_ble_eq_true rfl, Nat.le_of_ble_eq_true rfl⟩) rfl rfl rfl rfl hl.1 rfl (Nat.le_of_ble_eq_true rfl) dL_law_786 ⟨show _ ≤ 601024 by omega, show _ ≤ 7293034 by omega⟩ (fun H locs hP hD hS => ?_)
  have hP : va_P D vwCl (rfW K r (nI 0) ((rbS cs ln pn pf).2.2.2.1) sn ln ((rbS cs ln pn pf).2.1) ((rbS cs ln pn pf).2.2.1) ms hs T sv cs ((rbS cs ln pn pf).2.2.2.2) fa (cW K a b t c g T len qu n cs ln sn Sv [oC K o of])) H := hP
  have hD : va_D A (rfW K r (nI 0) ((rbS cs ln pn pf).2.2.2.1) sn ln ((rbS cs ln pn pf).2.1) ((rbS cs ln pn pf).2.2.1) ms hs T sv cs ((rbS cs ln pn pf).2.2.2.2) fa (cW K a b t c g T len qu n cs ln sn Sv [oC K o of])) := hD
  have hP := hP.perm lw_pm.symm
  have hD := hD.perm lw_pm.symm
  have hP : va_P D vwCl (cW K a b t c g T len qu n cs ln sn Sv (oC K o of :: rfW K r (nI 0) ((rbS cs ln pn pf).2.2.2.1) sn ln ((rbS cs ln pn pf).2.1) ((rbS cs ln pn pf).2.2.1) ms hs T sv cs ((rbS cs ln pn pf).2.2.2.2) fa [])) H := hP
  have hD : va_D A (cW K a b t c g T len qu n cs ln sn Sv (oC K o of :: rfW K r (nI 0) ((rbS cs ln pn pf).2.2.2.1) sn ln ((rbS cs ln pn pf).2.1) ((rbS cs ln pn pf).2.2.1) ms hs T sv cs ((rbS cs ln pn pf).2.2.2.2) fa [])) := hD
  refine top_i (y := nI (errS cs ln)) (congrArg nI (rb_err hCB pn pf)) ?_
  refine lv_icmp_eq (x := nI (errS cs ln)) (y := nI (errS cs ln)) (tgt := 1550) hx hb dL_law_789 (by decide) (fun c_1 => ?_) (fun c_1 => ?_)
  · refine W.widen (k := cells + 1) (n := slots + 6) (by omega) (by omega) ?_
    exact kk _ _ _ _ _ _ _ _ _ _ _ _ _ _ _ _ _ _ _ (hLI0) H locs ls hP hD hS (lv_sub hl [0, 1, 2, 3, 4] rfl)
  exact absurd rfl c_1
set_option maxHeartbeats 4000000 in
set_option maxRecDepth 100000 in
theorem lc_play {pr : Program} {l : Launch} {en : Env} {st : State} {md : MethodId} {ar : Array Value} {bl : List Frame} {mt : Method} {co : Code} {D : va_G} {K : Nat → ClassId} {A : Nat → Prop} {Q : State → Prop} {b9 : Nat} {a b t c r : Nat → Nat} {o : Nat} {dp fs L : Nat} {xs : Nat → Int32} (hx : pr.tables.exec = Jvm.exec) (hb : co.code = cL_law) (hml : co.maxLocals = 9) (hts : ∀ w ∈ wsL_law, w.before ar st = true) (hown : st.vm.findClass RL = some md.cls) (hst : l.stackTraces = false) (hE : ev D K st) (hXw : xw st) (hxn : xn st) (hZ : xst dp fs A st st.heap) (hA : ∀ q : Nat, st.heap.size ≤ q → A q) (hX : va_X b9 L xs st st.heap) (hbl : b9 < st.heap.size) (hbA : ¬ A b9) (k : Nat) (hk : 4 * k + 4 ≤ L) (hL : L ≤ 2048) (cells slots : Nat) (hc1 : cells + 1 ≤ 601024) (hc2 : slots + 6 ≤ 7293034) (kk : Nx pr l en st md ar bl mt co D K A Q b9 a b t c r o k (cells + 1) (slots + 6) 1550) : Nx pr l en st md ar bl mt co D K A Q b9 a b t c r o k cells slots 794 := by
  intro T len qu n cs ln sn Sv g th pn pm sta ms hs sv pf fa of hLI H locs ls hP hD hS hl
  have hLI0 := hLI
  obtain ⟨hI, hK, hCB, hsn, hSV, hSI, hSH⟩ := hLI
  refine lv_aload_n hx hb dL_law_794 rfl (lv_at hl 2 rfl) ?_
  refine lv_aload_n hx hb dL_law_795 rfl (lv_at hl 4 rfl) ?_
  have hEl : (if cmpS cs ln = true then 0 else 1) ≤ 1 := by (repeat' split) <;> omega
  by_cases hE0 : (if cmpS cs ln = true then 0 else 1) = 0
  · refine lx_S (rest := []) ⟨hx, hb, hml, hown, hts⟩ hP hE hA hD hS hXw hZ hxn (c_L_play l D K dp fs hst _ _ _ _ _ _ _ _ _ _ _ _ _ _ hI hsn hCB _ _ _) (vx_cwSW 2 hts gL_law_L_play rfl rfl rfl hn_L_play ⟨Nat.le_of_ble_eq_true rfl, Nat.le_of_ble_eq_true rfl⟩) rfl hl.1 rfl (Nat.le_of_ble_eq_true rfl) dL_law_796 ⟨show _ ≤ 601024 by omega, show _ ≤ 7293034 by omega⟩ (fun H locs hP hD hS => ?_)
    rw [if_pos hE0] at hP hD
    have hP : va_P D vwCl (cW K a b t c (svG g sn) ((plyS cs ln T).1) len qu n cs 0 (svN sn) (svV Sv sn T) (oC K o (vp_updL of 0 ((nI (plyS cs ln T).2).toInt64)) :: rfW K r th pn sn ln pm sta ms hs T sv cs pf fa [])) H := hP
    have hD : va_D A (cW K a b t c (svG g sn) ((plyS cs ln T).1) len qu n cs 0 (svN sn) (svV Sv sn T) (oC K o (vp_updL of 0 ((nI (plyS cs ln T).2).toInt64)) :: rfW K r th pn sn ln pm sta ms hs T sv cs pf fa [])) := hD
    have hcm9 : cmpS cs ln = true := by cases q : cmpS cs ln with | true => rfl | false => exfalso; revert hE0; rw [q]; decide
    refine top_i (y := nI 0) (by rw [hE0]) ?_
    refine lv_istore (lv' := [(5, .int (nI 0)), (4, .int (nI (4 * k))), (0, .ref b9), (1, .ref (c 0)), (2, .ref (r 0)), (3, .ref o)]) hx hb dL_law_799 hl (by decide) rfl (fun ls hl => ?_)
    refine lv_aload_n hx hb dL_law_801 rfl (lv_at hl 4 rfl) ?_
    have hP := hP.perm lw_pm
    have hD := hD.perm lw_pm
    refine wr_V (rest := []) (ci := 4) (q0 := 0) ⟨hx, hb, hml, hown, hts⟩ hP hE hA hD hS (c_X4_play l D K _ _ _ _ _ _ _ _ _ _ _ _ _ _ _ _ hCB hI hsn (wh_pc hCB pn pf)) (cwV 0 hts gL_law_X4_play rfl rfl rfl hd_X4_play ⟨Nat.le_of_ble_eq_true rfl, Nat.le_of_ble_eq_true rfl⟩) rfl rfl rfl rfl hl.1 rfl (Nat.le_of_ble_eq_true rfl) dL_law_802 ⟨show _ ≤ 601024 by omega, show _ ≤ 7293034 by omega⟩ (fun H locs hP hD hS => ?_)
    have hw9 : whS cs ln pn pf = true := wh_is hCB pn pf (by cases q : cmpS cs ln with | true => rfl | false => exfalso; revert hE0; rw [q]; decide)
    have hq9 := (ply_eq hCB (by rw [← wh_cmp hCB pn pf]; exact hw9) pn pf).2 T
    rw [if_pos hw9, hq9] at hP hD
    have hP : va_P D vwCl (rfW K r (nI 0) ((rbS cs ln pn pf).2.2.2.1) (svN sn) 0 ((rbS cs ln pn pf).2.1) ((rbS cs ln pn pf).2.2.1) ms hs ((plyS cs ln T).1) (savS sv sn T) cs ((rbS cs ln pn pf).2.2.2.2) fa (cW K a b t c (svG g sn) ((plyS cs ln T).1) len qu n cs 0 (svN sn) (svV Sv sn T) [oC K o (vp_updL of 0 ((nI (plyS cs ln T).2).toInt64))])) H := hP
    have hD : va_D A (rfW K r (nI 0) ((rbS cs ln pn pf).2.2.2.1) (svN sn) 0 ((rbS cs ln pn pf).2.1) ((rbS cs ln pn pf).2.2.1) ms hs ((plyS cs ln T).1) (savS sv sn T) cs ((rbS cs ln pn pf).2.2.2.2) fa (cW K a b t c (svG g sn) ((plyS cs ln T).1) len qu n cs 0 (svN sn) (svV Sv sn T) [oC K o (vp_updL of 0 ((nI (plyS cs ln T).2).toInt64))])) := hD
    have hP := hP.perm lw_pm.symm
    have hD := hD.perm lw_pm.symm
    have hP : va_P D vwCl (cW K a b t c (svG g sn) ((plyS cs ln T).1) len qu n cs 0 (svN sn) (svV Sv sn T) (oC K o (vp_updL of 0 ((nI (plyS cs ln T).2).toInt64)) :: rfW K r (nI 0) ((rbS cs ln pn pf).2.2.2.1) (svN sn) 0 ((rbS cs ln pn pf).2.1) ((rbS cs ln pn pf).2.2.1) ms hs ((plyS cs ln T).1) (savS sv sn T) cs ((rbS cs ln pn pf).2.2.2.2) fa [])) H := hP
    have hD : va_D A (cW K a b t c (svG g sn) ((plyS cs ln T).1) len qu n cs 0 (svN sn) (svV Sv sn T) (oC K o (vp_updL of 0 ((nI (plyS cs ln T).2).toInt64)) :: rfW K r (nI 0) ((rbS cs ln pn pf).2.2.2.1) (svN sn) 0 ((rbS cs ln pn pf).2.1) ((rbS cs ln pn pf).2.2.1) ms hs ((plyS cs ln T).1) (savS sv sn T) cs ((rbS cs ln pn pf).2.2.2.2) fa [])) := hD
    refine top_i (y := nI (plyS cs ln T).2) (by rw [if_pos hw9, hq9]) ?_
    refine lv_istore (lv' := [(6, .int (nI (plyS cs ln T).2)), (5, .int (nI 0)), (4, .int (nI (4 * k))), (0, .ref b9), (1, .ref (c 0)), (2, .ref (r 0)), (3, .ref o)]) hx hb dL_law_805 hl (by decide) rfl (fun ls hl => ?_)
    refine lv_aload_n hx hb dL_law_807 rfl (lv_at hl 5 rfl) ?_
    have hP := hP.perm lw_pm
    have hD := hD.perm lw_pm
    refine wr_V (rest := []) (ci := 4) (q0 := 0) ⟨hx, hb, hml, hown, hts⟩ hP hE hA hD hS (c_X4_thrown l D K _ _ _ _ _ _ _ _ _ _ _ _ _ _ _ _ ) (cwV 0 hts gL_law_X4_thrown rfl rfl rfl hd_X4_thrown ⟨Nat.le_of_ble_eq_true rfl, Nat.le_of_ble_eq_true rfl⟩) rfl rfl rfl rfl hl.1 rfl (Nat.le_of_ble_eq_true rfl) dL_law_808 ⟨show _ ≤ 601024 by omega, show _ ≤ 7293034 by omega⟩ (fun H locs hP hD hS => ?_)
    have hP : va_P D vwCl (rfW K r (nI 0) ((rbS cs ln pn pf).2.2.2.1) (svN sn) 0 ((rbS cs ln pn pf).2.1) ((rbS cs ln pn pf).2.2.1) ms hs ((plyS cs ln T).1) (savS sv sn T) cs ((rbS cs ln pn pf).2.2.2.2) fa (cW K a b t c (svG g sn) ((plyS cs ln T).1) len qu n cs 0 (svN sn) (svV Sv sn T) [oC K o (vp_updL of 0 ((nI (plyS cs ln T).2).toInt64))])) H := hP
    have hD : va_D A (rfW K r (nI 0) ((rbS cs ln pn pf).2.2.2.1) (svN sn) 0 ((rbS cs ln pn pf).2.1) ((rbS cs ln pn pf).2.2.1) ms hs ((plyS cs ln T).1) (savS sv sn T) cs ((rbS cs ln pn pf).2.2.2.2) fa (cW K a b t c (svG g sn) ((plyS cs ln T).1) len qu n cs 0 (svN sn) (svV Sv sn T) [oC K o (vp_updL of 0 ((nI (plyS cs ln T).2).toInt64))])) := hD
    have hP := hP.perm lw_pm.symm
    have hD := hD.perm lw_pm.symm
    have hP : va_P D vwCl (cW K a b t c (svG g sn) ((plyS cs ln T).1) len qu n cs 0 (svN sn) (svV Sv sn T) (oC K o (vp_updL of 0 ((nI (plyS cs ln T).2).toInt64)) :: rfW K r (nI 0) ((rbS cs ln pn pf).2.2.2.1) (svN sn) 0 ((rbS cs ln pn pf).2.1) ((rbS cs ln pn pf).2.2.1) ms hs ((plyS cs ln T).1) (savS sv sn T) cs ((rbS cs ln pn pf).2.2.2.2) fa [])) H := hP
    have hD : va_D A (cW K a b t c (svG g sn) ((plyS cs ln T).1) len qu n cs 0 (svN sn) (svV Sv sn T) (oC K o (vp_updL of 0 ((nI (plyS cs ln T).2).toInt64)) :: rfW K r (nI 0) ((rbS cs ln pn pf).2.2.2.1) (svN sn) 0 ((rbS cs ln pn pf).2.1) ((rbS cs ln pn pf).2.2.1) ms hs ((plyS cs ln T).1) (savS sv sn T) cs ((rbS cs ln pn pf).2.2.2.2) fa [])) := hD
    refine lv_iload hx hb dL_law_811 (lv_at hl 1 rfl) ?_
    refine nv_icmp_eq (x := 0) (y := 0) (tgt := 818) hx hb dL_law_813 (by decide) (by decide) (by decide) (fun c_1 => ?_) (fun c_1 => ?_)
    · refine lv_iload hx hb dL_law_818 (lv_at hl 1 rfl) ?_
      refine nv_if_ne (x := 0) (tgt := 835) hx hb dL_law_820 (by decide) (by decide) (fun c_2 => ?_) (fun c_2 => ?_)
      · exact absurd c_2 (by decide)
      have n_c_2 : ¬ 0 < 0 := by omega
      refine lv_aload_n hx hb dL_law_823 rfl (lv_at hl 6 rfl) ?_
      refine lv_iconst (v := nI 0) hx hb dL_law_824 (by decide) ?_
      refine nv_lald hx hb hE hP 91 rfl dL_law_825 ?_
      refine top_l (y := (nI (plyS cs ln T).2).toInt64) rfl ?_
      refine lv_iload hx hb dL_law_826 (lv_at hl 0 rfl) ?_
      refine lv_i2l (v := (nI (plyS cs ln T).2).toInt64) hx hb dL_law_828 rfl ?_
      refine W.lcmp hx hb dL_law_829 ?_
      refine top_i (y := nI 0) (lcmp_rf _) ?_
      refine nv_if_eq (x := 0) (tgt := 835) hx hb dL_law_830 (by decide) (by decide) (fun c_3 => ?_) (fun c_3 => ?_)
      · have n_c_3 : ¬ 0 < 0 := by omega
        refine lv_goto (tgt := 1550) hx hb dL_law_835 (by decide) ?_
        refine W.widen (k := cells + 1) (n := slots + 6) (by omega) (by omega) ?_
        exact kk _ _ _ _ _ _ _ _ _ _ _ _ _ _ _ _ _ _ _ (hLI0.ply hcm9) H locs ls hP hD hS (lv_sub hl [2, 3, 4, 5, 6] rfl)
      exact absurd c_3 (by decide)
    exact absurd c_1 (by decide)
  · refine lx_S (rest := []) ⟨hx, hb, hml, hown, hts⟩ hP hE hA hD hS hXw hZ hxn (c_L_play l D K dp fs hst _ _ _ _ _ _ _ _ _ _ _ _ _ _ hI hsn hCB _ _ _) (vx_cwSW 2 hts gL_law_L_play rfl rfl rfl hn_L_play ⟨Nat.le_of_ble_eq_true rfl, Nat.le_of_ble_eq_true rfl⟩) rfl hl.1 rfl (Nat.le_of_ble_eq_true rfl) dL_law_796 ⟨show _ ≤ 601024 by omega, show _ ≤ 7293034 by omega⟩ (fun H locs hP hD hS => ?_)
    rw [if_neg hE0] at hP hD
    have hP : va_P D vwCl (cW K a b t c g T len qu n cs ln sn Sv (oC K o of :: rfW K r th pn sn ln pm sta ms hs T sv cs pf fa [])) H := hP
    have hD : va_D A (cW K a b t c g T len qu n cs ln sn Sv (oC K o of :: rfW K r th pn sn ln pm sta ms hs T sv cs pf fa [])) := hD
    refine top_i (y := nI 1) (congrArg nI (Nat.le_antisymm hEl (Nat.pos_of_ne_zero hE0))) ?_
    refine lv_istore (lv' := [(5, .int (nI 1)), (4, .int (nI (4 * k))), (0, .ref b9), (1, .ref (c 0)), (2, .ref (r 0)), (3, .ref o)]) hx hb dL_law_799 hl (by decide) rfl (fun ls hl => ?_)
    refine lv_aload_n hx hb dL_law_801 rfl (lv_at hl 4 rfl) ?_
    have hP := hP.perm lw_pm
    have hD := hD.perm lw_pm
    refine wr_V (rest := []) (ci := 4) (q0 := 0) ⟨hx, hb, hml, hown, hts⟩ hP hE hA hD hS (c_X4_play l D K _ _ _ _ _ _ _ _ _ _ _ _ _ _ _ _ hCB hI hsn (wh_pc hCB pn pf)) (cwV 0 hts gL_law_X4_play rfl rfl rfl hd_X4_play ⟨Nat.le_of_ble_eq_true rfl, Nat.le_of_ble_eq_true rfl⟩) rfl rfl rfl rfl hl.1 rfl (Nat.le_of_ble_eq_true rfl) dL_law_802 ⟨show _ ≤ 601024 by omega, show _ ≤ 7293034 by omega⟩ (fun H locs hP hD hS => ?_)
    have hw9 : ¬ whS cs ln pn pf = true := fun q => hE0 (by rw [← wh_cmp hCB pn pf, q]; rfl)
    rw [if_neg hw9] at hP hD
    have hP : va_P D vwCl (rfW K r (nI 1) ((rbS cs ln pn pf).2.2.2.1) sn ln ((rbS cs ln pn pf).2.1) ((rbS cs ln pn pf).2.2.1) ms hs T sv cs ((rbS cs ln pn pf).2.2.2.2) fa (cW K a b t c g T len qu n cs ln sn Sv [oC K o of])) H := hP
    have hD : va_D A (rfW K r (nI 1) ((rbS cs ln pn pf).2.2.2.1) sn ln ((rbS cs ln pn pf).2.1) ((rbS cs ln pn pf).2.2.1) ms hs T sv cs ((rbS cs ln pn pf).2.2.2.2) fa (cW K a b t c g T len qu n cs ln sn Sv [oC K o of])) := hD
    have hP := hP.perm lw_pm.symm
    have hD := hD.perm lw_pm.symm
    have hP : va_P D vwCl (cW K a b t c g T len qu n cs ln sn Sv (oC K o of :: rfW K r (nI 1) ((rbS cs ln pn pf).2.2.2.1) sn ln ((rbS cs ln pn pf).2.1) ((rbS cs ln pn pf).2.2.1) ms hs T sv cs ((rbS cs ln pn pf).2.2.2.2) fa [])) H := hP
    have hD : va_D A (cW K a b t c g T len qu n cs ln sn Sv (oC K o of :: rfW K r (nI 1) ((rbS cs ln pn pf).2.2.2.1) sn ln ((rbS cs ln pn pf).2.1) ((rbS cs ln pn pf).2.2.1) ms hs T sv cs ((rbS cs ln pn pf).2.2.2.2) fa [])) := hD
    refine top_i (y := 0) (by rw [if_neg hw9]; rfl) ?_
    refine lv_istore (lv' := [(6, .int 0), (5, .int (nI 1)), (4, .int (nI (4 * k))), (0, .ref b9), (1, .ref (c 0)), (2, .ref (r 0)), (3, .ref o)]) hx hb dL_law_805 hl (by decide) rfl (fun ls hl => ?_)
    refine lv_aload_n hx hb dL_law_807 rfl (lv_at hl 5 rfl) ?_
    have hP := hP.perm lw_pm
    have hD := hD.perm lw_pm
    refine wr_V (rest := []) (ci := 4) (q0 := 0) ⟨hx, hb, hml, hown, hts⟩ hP hE hA hD hS (c_X4_thrown l D K _ _ _ _ _ _ _ _ _ _ _ _ _ _ _ _ ) (cwV 0 hts gL_law_X4_thrown rfl rfl rfl hd_X4_thrown ⟨Nat.le_of_ble_eq_true rfl, Nat.le_of_ble_eq_true rfl⟩) rfl rfl rfl rfl hl.1 rfl (Nat.le_of_ble_eq_true rfl) dL_law_808 ⟨show _ ≤ 601024 by omega, show _ ≤ 7293034 by omega⟩ (fun H locs hP hD hS => ?_)
    have hP : va_P D vwCl (rfW K r (nI 1) ((rbS cs ln pn pf).2.2.2.1) sn ln ((rbS cs ln pn pf).2.1) ((rbS cs ln pn pf).2.2.1) ms hs T sv cs ((rbS cs ln pn pf).2.2.2.2) fa (cW K a b t c g T len qu n cs ln sn Sv [oC K o of])) H := hP
    have hD : va_D A (rfW K r (nI 1) ((rbS cs ln pn pf).2.2.2.1) sn ln ((rbS cs ln pn pf).2.1) ((rbS cs ln pn pf).2.2.1) ms hs T sv cs ((rbS cs ln pn pf).2.2.2.2) fa (cW K a b t c g T len qu n cs ln sn Sv [oC K o of])) := hD
    have hP := hP.perm lw_pm.symm
    have hD := hD.perm lw_pm.symm
    have hP : va_P D vwCl (cW K a b t c g T len qu n cs ln sn Sv (oC K o of :: rfW K r (nI 1) ((rbS cs ln pn pf).2.2.2.1) sn ln ((rbS cs ln pn pf).2.1) ((rbS cs ln pn pf).2.2.1) ms hs T sv cs ((rbS cs ln pn pf).2.2.2.2) fa [])) H := hP
    have hD : va_D A (cW K a b t c g T len qu n cs ln sn Sv (oC K o of :: rfW K r (nI 1) ((rbS cs ln pn pf).2.2.2.1) sn ln ((rbS cs ln pn pf).2.1) ((rbS cs ln pn pf).2.2.1) ms hs T sv cs ((rbS cs ln pn pf).2.2.2.2) fa [])) := hD
    refine lv_iload hx hb dL_law_811 (lv_at hl 1 rfl) ?_
    refine nv_icmp_eq (x := 1) (y := 1) (tgt := 818) hx hb dL_law_813 (by decide) (by decide) (by decide) (fun c_4 => ?_) (fun c_4 => ?_)
    · refine lv_iload hx hb dL_law_818 (lv_at hl 1 rfl) ?_
      refine nv_if_ne (x := 1) (tgt := 835) hx hb dL_law_820 (by decide) (by decide) (fun c_5 => ?_) (fun c_5 => ?_)
      · have n_c_5 : ¬ 1 = 0 := by omega
        refine lv_goto (tgt := 1550) hx hb dL_law_835 (by decide) ?_
        refine W.widen (k := cells + 1) (n := slots + 6) (by omega) (by omega) ?_
        exact kk _ _ _ _ _ _ _ _ _ _ _ _ _ _ _ _ _ _ _ (hLI0) H locs ls hP hD hS (lv_sub hl [2, 3, 4, 5, 6] rfl)
      exact absurd c_5 (by decide)
    exact absurd c_4 (by decide)
set_option maxHeartbeats 4000000 in
set_option maxRecDepth 100000 in
theorem lc_undo {pr : Program} {l : Launch} {en : Env} {st : State} {md : MethodId} {ar : Array Value} {bl : List Frame} {mt : Method} {co : Code} {D : va_G} {K : Nat → ClassId} {A : Nat → Prop} {Q : State → Prop} {b9 : Nat} {a b t c r : Nat → Nat} {o : Nat} {dp fs L : Nat} {xs : Nat → Int32} (hx : pr.tables.exec = Jvm.exec) (hb : co.code = cL_law) (hml : co.maxLocals = 9) (hts : ∀ w ∈ wsL_law, w.before ar st = true) (hown : st.vm.findClass RL = some md.cls) (hst : l.stackTraces = false) (hE : ev D K st) (hXw : xw st) (hxn : xn st) (hZ : xst dp fs A st st.heap) (hA : ∀ q : Nat, st.heap.size ≤ q → A q) (hX : va_X b9 L xs st st.heap) (hbl : b9 < st.heap.size) (hbA : ¬ A b9) (k : Nat) (hk : 4 * k + 4 ≤ L) (hL : L ≤ 2048) (cells slots : Nat) (hc1 : cells + 1 ≤ 601024) (hc2 : slots + 6 ≤ 7293034) (kk : Nx pr l en st md ar bl mt co D K A Q b9 a b t c r o k (cells + 1) (slots + 6) 1550) : Nx pr l en st md ar bl mt co D K A Q b9 a b t c r o k cells slots 838 := by
  intro T len qu n cs ln sn Sv g th pn pm sta ms hs sv pf fa of hLI H locs ls hP hD hS hl
  have hLI0 := hLI
  obtain ⟨hI, hK, hCB, hsn, hSV, hSI, hSH⟩ := hLI
  refine lv_aload_n hx hb dL_law_838 rfl (lv_at hl 2 rfl) ?_
  refine lv_aload_n hx hb dL_law_839 rfl (lv_at hl 4 rfl) ?_
  have hEl : (if sn = 0 then 1 else 0) ≤ 1 := by (repeat' split) <;> omega
  by_cases hE0 : (if sn = 0 then 1 else 0) = 0
  · refine lx_S (rest := []) ⟨hx, hb, hml, hown, hts⟩ hP hE hA hD hS hXw hZ hxn (c_L_undo l D K dp fs hst _ _ _ _ _ _ _ _ _ _ _ _ _ _ hsn _ _ _) (vx_cwSW 2 hts gL_law_L_undo rfl rfl rfl hn_L_undo ⟨Nat.le_of_ble_eq_true rfl, Nat.le_of_ble_eq_true rfl⟩) rfl hl.1 rfl (Nat.le_of_ble_eq_true rfl) dL_law_840 ⟨show _ ≤ 601024 by omega, show _ ≤ 7293034 by omega⟩ (fun H locs hP hD hS => ?_)
    rw [if_pos hE0] at hP hD
    have hP : va_P D vwCl (cW K a b t c g (Sv (sn - 1)) len qu n cs ln (sn - 1) Sv (oC K o (vp_updL of 0 ((nI (sn - 1)).toInt64)) :: rfW K r th pn sn ln pm sta ms hs T sv cs pf fa [])) H := hP
    have hD : va_D A (cW K a b t c g (Sv (sn - 1)) len qu n cs ln (sn - 1) Sv (oC K o (vp_updL of 0 ((nI (sn - 1)).toInt64)) :: rfW K r th pn sn ln pm sta ms hs T sv cs pf fa [])) := hD
    have h9s : ¬ sn = 0 := fun q => by rw [if_pos q] at hE0; cases hE0
    refine top_i (y := nI 0) (by rw [hE0]) ?_
    refine lv_istore (lv' := [(5, .int (nI 0)), (4, .int (nI (4 * k))), (0, .ref b9), (1, .ref (c 0)), (2, .ref (r 0)), (3, .ref o)]) hx hb dL_law_843 hl (by decide) rfl (fun ls hl => ?_)
    refine lv_aload_n hx hb dL_law_845 rfl (lv_at hl 4 rfl) ?_
    have hP := hP.perm lw_pm
    have hD := hD.perm lw_pm
    refine wr_V (rest := []) (ci := 4) (q0 := 0) ⟨hx, hb, hml, hown, hts⟩ hP hE hA hD hS (c_X4_undo l D K _ _ _ _ _ _ _ _ _ _ _ _ _ _ _ _ hsn (Sv (sn - 1)) (fun k hk => hSV (sn - 1) (by omega) k hk)) (cwV 0 hts gL_law_X4_undo rfl rfl rfl hd_X4_undo ⟨Nat.le_of_ble_eq_true rfl, Nat.le_of_ble_eq_true rfl⟩) rfl rfl rfl rfl hl.1 rfl (Nat.le_of_ble_eq_true rfl) dL_law_846 ⟨show _ ≤ 601024 by omega, show _ ≤ 7293034 by omega⟩ (fun H locs hP hD hS => ?_)
    rw [if_neg h9s] at hP hD
    have hP : va_P D vwCl (rfW K r (nI 0) pn (sn - 1) ln pm sta ms hs (Sv (sn - 1)) sv cs pf fa (cW K a b t c g (Sv (sn - 1)) len qu n cs ln (sn - 1) Sv [oC K o (vp_updL of 0 ((nI (sn - 1)).toInt64))])) H := hP
    have hD : va_D A (rfW K r (nI 0) pn (sn - 1) ln pm sta ms hs (Sv (sn - 1)) sv cs pf fa (cW K a b t c g (Sv (sn - 1)) len qu n cs ln (sn - 1) Sv [oC K o (vp_updL of 0 ((nI (sn - 1)).toInt64))])) := hD
    have hP := hP.perm lw_pm.symm
    have hD := hD.perm lw_pm.symm
    have hP : va_P D vwCl (cW K a b t c g (Sv (sn - 1)) len qu n cs ln (sn - 1) Sv (oC K o (vp_updL of 0 ((nI (sn - 1)).toInt64)) :: rfW K r (nI 0) pn (sn - 1) ln pm sta ms hs (Sv (sn - 1)) sv cs pf fa [])) H := hP
    have hD : va_D A (cW K a b t c g (Sv (sn - 1)) len qu n cs ln (sn - 1) Sv (oC K o (vp_updL of 0 ((nI (sn - 1)).toInt64)) :: rfW K r (nI 0) pn (sn - 1) ln pm sta ms hs (Sv (sn - 1)) sv cs pf fa [])) := hD
    refine top_i (y := nI (sn - 1)) (rfl) ?_
    refine lv_istore (lv' := [(6, .int (nI (sn - 1))), (5, .int (nI 0)), (4, .int (nI (4 * k))), (0, .ref b9), (1, .ref (c 0)), (2, .ref (r 0)), (3, .ref o)]) hx hb dL_law_849 hl (by decide) rfl (fun ls hl => ?_)
    refine lv_aload_n hx hb dL_law_851 rfl (lv_at hl 5 rfl) ?_
    have hP := hP.perm lw_pm
    have hD := hD.perm lw_pm
    refine wr_V (rest := []) (ci := 4) (q0 := 0) ⟨hx, hb, hml, hown, hts⟩ hP hE hA hD hS (c_X4_thrown l D K _ _ _ _ _ _ _ _ _ _ _ _ _ _ _ _ ) (cwV 0 hts gL_law_X4_thrown rfl rfl rfl hd_X4_thrown ⟨Nat.le_of_ble_eq_true rfl, Nat.le_of_ble_eq_true rfl⟩) rfl rfl rfl rfl hl.1 rfl (Nat.le_of_ble_eq_true rfl) dL_law_852 ⟨show _ ≤ 601024 by omega, show _ ≤ 7293034 by omega⟩ (fun H locs hP hD hS => ?_)
    have hP : va_P D vwCl (rfW K r (nI 0) pn (sn - 1) ln pm sta ms hs (Sv (sn - 1)) sv cs pf fa (cW K a b t c g (Sv (sn - 1)) len qu n cs ln (sn - 1) Sv [oC K o (vp_updL of 0 ((nI (sn - 1)).toInt64))])) H := hP
    have hD : va_D A (rfW K r (nI 0) pn (sn - 1) ln pm sta ms hs (Sv (sn - 1)) sv cs pf fa (cW K a b t c g (Sv (sn - 1)) len qu n cs ln (sn - 1) Sv [oC K o (vp_updL of 0 ((nI (sn - 1)).toInt64))])) := hD
    have hP := hP.perm lw_pm.symm
    have hD := hD.perm lw_pm.symm
    have hP : va_P D vwCl (cW K a b t c g (Sv (sn - 1)) len qu n cs ln (sn - 1) Sv (oC K o (vp_updL of 0 ((nI (sn - 1)).toInt64)) :: rfW K r (nI 0) pn (sn - 1) ln pm sta ms hs (Sv (sn - 1)) sv cs pf fa [])) H := hP
    have hD : va_D A (cW K a b t c g (Sv (sn - 1)) len qu n cs ln (sn - 1) Sv (oC K o (vp_updL of 0 ((nI (sn - 1)).toInt64)) :: rfW K r (nI 0) pn (sn - 1) ln pm sta ms hs (Sv (sn - 1)) sv cs pf fa [])) := hD
    refine lv_iload hx hb dL_law_855 (lv_at hl 1 rfl) ?_
    refine nv_icmp_eq (x := 0) (y := 0) (tgt := 862) hx hb dL_law_857 (by decide) (by decide) (by decide) (fun c_1 => ?_) (fun c_1 => ?_)
    · refine lv_iload hx hb dL_law_862 (lv_at hl 1 rfl) ?_
      refine nv_if_ne (x := 0) (tgt := 879) hx hb dL_law_864 (by decide) (by decide) (fun c_2 => ?_) (fun c_2 => ?_)
      · exact absurd c_2 (by decide)
      have n_c_2 : ¬ 0 < 0 := by omega
      refine lv_aload_n hx hb dL_law_867 rfl (lv_at hl 6 rfl) ?_
      refine lv_iconst (v := nI 0) hx hb dL_law_868 (by decide) ?_
      refine nv_lald hx hb hE hP 91 rfl dL_law_869 ?_
      refine top_l (y := (nI (sn - 1)).toInt64) rfl ?_
      refine lv_iload hx hb dL_law_870 (lv_at hl 0 rfl) ?_
      refine lv_i2l (v := (nI (sn - 1)).toInt64) hx hb dL_law_872 rfl ?_
      refine W.lcmp hx hb dL_law_873 ?_
      refine top_i (y := nI 0) (lcmp_rf _) ?_
      refine nv_if_eq (x := 0) (tgt := 879) hx hb dL_law_874 (by decide) (by decide) (fun c_3 => ?_) (fun c_3 => ?_)
      · have n_c_3 : ¬ 0 < 0 := by omega
        refine lv_goto (tgt := 1550) hx hb dL_law_879 (by decide) ?_
        refine W.widen (k := cells + 1) (n := slots + 6) (by omega) (by omega) ?_
        exact kk _ _ _ _ _ _ _ _ _ _ _ _ _ _ _ _ _ _ _ (hLI0.und h9s) H locs ls hP hD hS (lv_sub hl [2, 3, 4, 5, 6] rfl)
      exact absurd c_3 (by decide)
    exact absurd c_1 (by decide)
  · refine lx_S (rest := []) ⟨hx, hb, hml, hown, hts⟩ hP hE hA hD hS hXw hZ hxn (c_L_undo l D K dp fs hst _ _ _ _ _ _ _ _ _ _ _ _ _ _ hsn _ _ _) (vx_cwSW 2 hts gL_law_L_undo rfl rfl rfl hn_L_undo ⟨Nat.le_of_ble_eq_true rfl, Nat.le_of_ble_eq_true rfl⟩) rfl hl.1 rfl (Nat.le_of_ble_eq_true rfl) dL_law_840 ⟨show _ ≤ 601024 by omega, show _ ≤ 7293034 by omega⟩ (fun H locs hP hD hS => ?_)
    rw [if_neg hE0] at hP hD
    have hP : va_P D vwCl (cW K a b t c g T len qu n cs ln sn Sv (oC K o of :: rfW K r th pn sn ln pm sta ms hs T sv cs pf fa [])) H := hP
    have hD : va_D A (cW K a b t c g T len qu n cs ln sn Sv (oC K o of :: rfW K r th pn sn ln pm sta ms hs T sv cs pf fa [])) := hD
    have h9s : sn = 0 := Decidable.byContradiction fun q => hE0 (if_neg q)
    refine top_i (y := nI 1) (congrArg nI (Nat.le_antisymm hEl (Nat.pos_of_ne_zero hE0))) ?_
    refine lv_istore (lv' := [(5, .int (nI 1)), (4, .int (nI (4 * k))), (0, .ref b9), (1, .ref (c 0)), (2, .ref (r 0)), (3, .ref o)]) hx hb dL_law_843 hl (by decide) rfl (fun ls hl => ?_)
    refine lv_aload_n hx hb dL_law_845 rfl (lv_at hl 4 rfl) ?_
    have hP := hP.perm lw_pm
    have hD := hD.perm lw_pm
    refine wr_V (rest := []) (ci := 4) (q0 := 0) ⟨hx, hb, hml, hown, hts⟩ hP hE hA hD hS (c_X4_undo l D K _ _ _ _ _ _ _ _ _ _ _ _ _ _ _ _ hsn (unz sv) (fun k hk => by rw [h9s, show (0 - 1) * 288 + k = k from by omega]; exact unz_z sv hk)) (cwV 0 hts gL_law_X4_undo rfl rfl rfl hd_X4_undo ⟨Nat.le_of_ble_eq_true rfl, Nat.le_of_ble_eq_true rfl⟩) rfl rfl rfl rfl hl.1 rfl (Nat.le_of_ble_eq_true rfl) dL_law_846 ⟨show _ ≤ 601024 by omega, show _ ≤ 7293034 by omega⟩ (fun H locs hP hD hS => ?_)
    rw [if_pos h9s] at hP hD
    have hP : va_P D vwCl (rfW K r (nI 1) pn sn ln pm sta ms hs T sv cs pf fa (cW K a b t c g T len qu n cs ln sn Sv [oC K o of])) H := hP
    have hD : va_D A (rfW K r (nI 1) pn sn ln pm sta ms hs T sv cs pf fa (cW K a b t c g T len qu n cs ln sn Sv [oC K o of])) := hD
    have hP := hP.perm lw_pm.symm
    have hD := hD.perm lw_pm.symm
    have hP : va_P D vwCl (cW K a b t c g T len qu n cs ln sn Sv (oC K o of :: rfW K r (nI 1) pn sn ln pm sta ms hs T sv cs pf fa [])) H := hP
    have hD : va_D A (cW K a b t c g T len qu n cs ln sn Sv (oC K o of :: rfW K r (nI 1) pn sn ln pm sta ms hs T sv cs pf fa [])) := hD
    refine top_i (y := nI (sn - 1)) (rfl) ?_
    refine lv_istore (lv' := [(6, .int (nI (sn - 1))), (5, .int (nI 1)), (4, .int (nI (4 * k))), (0, .ref b9), (1, .ref (c 0)), (2, .ref (r 0)), (3, .ref o)]) hx hb dL_law_849 hl (by decide) rfl (fun ls hl => ?_)
    refine lv_aload_n hx hb dL_law_851 rfl (lv_at hl 5 rfl) ?_
    have hP := hP.perm lw_pm
    have hD := hD.perm lw_pm
    refine wr_V (rest := []) (ci := 4) (q0 := 0) ⟨hx, hb, hml, hown, hts⟩ hP hE hA hD hS (c_X4_thrown l D K _ _ _ _ _ _ _ _ _ _ _ _ _ _ _ _ ) (cwV 0 hts gL_law_X4_thrown rfl rfl rfl hd_X4_thrown ⟨Nat.le_of_ble_eq_true rfl, Nat.le_of_ble_eq_true rfl⟩) rfl rfl rfl rfl hl.1 rfl (Nat.le_of_ble_eq_true rfl) dL_law_852 ⟨show _ ≤ 601024 by omega, show _ ≤ 7293034 by omega⟩ (fun H locs hP hD hS => ?_)
    have hP : va_P D vwCl (rfW K r (nI 1) pn sn ln pm sta ms hs T sv cs pf fa (cW K a b t c g T len qu n cs ln sn Sv [oC K o of])) H := hP
    have hD : va_D A (rfW K r (nI 1) pn sn ln pm sta ms hs T sv cs pf fa (cW K a b t c g T len qu n cs ln sn Sv [oC K o of])) := hD
    have hP := hP.perm lw_pm.symm
    have hD := hD.perm lw_pm.symm
    have hP : va_P D vwCl (cW K a b t c g T len qu n cs ln sn Sv (oC K o of :: rfW K r (nI 1) pn sn ln pm sta ms hs T sv cs pf fa [])) H := hP
    have hD : va_D A (cW K a b t c g T len qu n cs ln sn Sv (oC K o of :: rfW K r (nI 1) pn sn ln pm sta ms hs T sv cs pf fa [])) := hD
    refine lv_iload hx hb dL_law_855 (lv_at hl 1 rfl) ?_
    refine nv_icmp_eq (x := 1) (y := 1) (tgt := 862) hx hb dL_law_857 (by decide) (by decide) (by decide) (fun c_4 => ?_) (fun c_4 => ?_)
    · refine lv_iload hx hb dL_law_862 (lv_at hl 1 rfl) ?_
      refine nv_if_ne (x := 1) (tgt := 879) hx hb dL_law_864 (by decide) (by decide) (fun c_5 => ?_) (fun c_5 => ?_)
      · have n_c_5 : ¬ 1 = 0 := by omega
        refine lv_goto (tgt := 1550) hx hb dL_law_879 (by decide) ?_
        refine W.widen (k := cells + 1) (n := slots + 6) (by omega) (by omega) ?_
        exact kk _ _ _ _ _ _ _ _ _ _ _ _ _ _ _ _ _ _ _ (hLI0) H locs ls hP hD hS (lv_sub hl [2, 3, 4, 5, 6] rfl)
      exact absurd c_5 (by decide)
    exact absurd c_4 (by decide)
set_option maxHeartbeats 4000000 in
set_option maxRecDepth 100000 in
theorem lc_square {pr : Program} {l : Launch} {en : Env} {st : State} {md : MethodId} {ar : Array Value} {bl : List Frame} {mt : Method} {co : Code} {D : va_G} {K : Nat → ClassId} {A : Nat → Prop} {Q : State → Prop} {b9 : Nat} {a b t c r : Nat → Nat} {o : Nat} {dp fs L : Nat} {xs : Nat → Int32} (hx : pr.tables.exec = Jvm.exec) (hb : co.code = cL_law) (hml : co.maxLocals = 9) (hts : ∀ w ∈ wsL_law, w.before ar st = true) (hown : st.vm.findClass RL = some md.cls) (hst : l.stackTraces = false) (hE : ev D K st) (hXw : xw st) (hxn : xn st) (hZ : xst dp fs A st st.heap) (hA : ∀ q : Nat, st.heap.size ≤ q → A q) (hX : va_X b9 L xs st st.heap) (hbl : b9 < st.heap.size) (hbA : ¬ A b9) (k : Nat) (hk : 4 * k + 4 ≤ L) (hL : L ≤ 2048) (cells slots : Nat) (hc1 : cells + 1 ≤ 601024) (hc2 : slots + 6 ≤ 7293034) (kk : Nx pr l en st md ar bl mt co D K A Q b9 a b t c r o k (cells + 1) (slots + 6) 1550) : Nx pr l en st md ar bl mt co D K A Q b9 a b t c r o k cells slots 882 := by
  intro T len qu n cs ln sn Sv g th pn pm sta ms hs sv pf fa of hLI H locs ls hP hD hS hl
  have hLI0 := hLI
  obtain ⟨hI, hK, hCB, hsn, hSV, hSI, hSH⟩ := hLI
  refine lv_aload_n hx hb dL_law_882 rfl (lv_at hl 2 rfl) ?_
  refine lv_aload_n hx hb dL_law_883 rfl (lv_at hl 1 rfl) ?_
  refine lv_iload hx hb dL_law_884 (lv_at hl 0 rfl) ?_
  refine lv_iconst (v := nI 1) hx hb dL_law_886 (by decide) ?_
  refine nv_iadd (x := 4 * k) (y := 1) hx hb dL_law_887 ?_
  refine va_sld hx hb hX hbl hbA hS (pk_in ((4 * k) + 1) L (by omega)) dL_law_888 ?_
  rw [pk_cl ((4 * k) + 1)]
  refine lv_aload_n hx hb dL_law_889 rfl (lv_at hl 1 rfl) ?_
  refine lv_iload hx hb dL_law_890 (lv_at hl 0 rfl) ?_
  refine lv_iconst (v := nI 2) hx hb dL_law_892 (by decide) ?_
  refine nv_iadd (x := 4 * k) (y := 2) hx hb dL_law_893 ?_
  refine va_sld hx hb hX hbl hbA hS (pk_in ((4 * k) + 2) L (by omega)) dL_law_894 ?_
  rw [pk_cl ((4 * k) + 2)]
  refine lv_aload_n hx hb dL_law_895 rfl (lv_at hl 4 rfl) ?_
  have hEl : q2 0 79 0 3 (xs ((4 * k) + 1)) (xs ((4 * k) + 2)) ≤ 2 := by unfold q2; (repeat' split) <;> omega
  by_cases hE0 : q2 0 79 0 3 (xs ((4 * k) + 1)) (xs ((4 * k) + 2)) = 0
  · refine lx_S (rest := []) ⟨hx, hb, hml, hown, hts⟩ hP hE hA hD hS hXw hZ hxn (c_L_square l D K dp fs hst _ _ _ _ _ _ _ _ _ _ _ _ _ _ (xs ((4 * k) + 1)) (xs ((4 * k) + 2)) hI _ _ _) (vx_cwSW 4 hts gL_law_L_square rfl rfl rfl hn_L_square ⟨Nat.le_of_ble_eq_true rfl, Nat.le_of_ble_eq_true rfl⟩) rfl hl.1 rfl (Nat.le_of_ble_eq_true rfl) dL_law_896 ⟨show _ ≤ 601024 by omega, show _ ≤ 7293034 by omega⟩ (fun H locs hP hD hS => ?_)
    rw [if_pos hE0] at hP hD
    have hP : va_P D vwCl (cW K a b t c g T len qu n cs ln sn Sv (oC K o (vp_updL of 0 ((psT T (tn (xs ((4 * k) + 1))) (tn (xs ((4 * k) + 2)))).toInt64)) :: rfW K r th pn sn ln pm sta ms hs T sv cs pf fa [])) H := hP
    have hD : va_D A (cW K a b t c g T len qu n cs ln sn Sv (oC K o (vp_updL of 0 ((psT T (tn (xs ((4 * k) + 1))) (tn (xs ((4 * k) + 2)))).toInt64)) :: rfW K r th pn sn ln pm sta ms hs T sv cs pf fa [])) := hD
    refine top_i (y := nI 0) (by rw [hE0]) ?_
    refine lv_istore (lv' := [(5, .int (nI 0)), (4, .int (nI (4 * k))), (0, .ref b9), (1, .ref (c 0)), (2, .ref (r 0)), (3, .ref o)]) hx hb dL_law_899 hl (by decide) rfl (fun ls hl => ?_)
    refine lv_aload_n hx hb dL_law_901 rfl (lv_at hl 4 rfl) ?_
    refine lv_aload_n hx hb dL_law_902 rfl (lv_at hl 2 rfl) ?_
    refine lv_iload hx hb dL_law_903 (lv_at hl 1 rfl) ?_
    refine lv_iconst (v := nI 1) hx hb dL_law_905 (by decide) ?_
    refine nv_iadd (x := 4 * k) (y := 1) hx hb dL_law_906 ?_
    refine va_sld hx hb hX hbl hbA hS (pk_in ((4 * k) + 1) L (by omega)) dL_law_907 ?_
    rw [pk_cl ((4 * k) + 1)]
    refine lv_aload_n hx hb dL_law_908 rfl (lv_at hl 2 rfl) ?_
    refine lv_iload hx hb dL_law_909 (lv_at hl 1 rfl) ?_
    refine lv_iconst (v := nI 2) hx hb dL_law_911 (by decide) ?_
    refine nv_iadd (x := 4 * k) (y := 2) hx hb dL_law_912 ?_
    refine va_sld hx hb hX hbl hbA hS (pk_in ((4 * k) + 2) L (by omega)) dL_law_913 ?_
    rw [pk_cl ((4 * k) + 2)]
    have hP := hP.perm lw_pm
    have hD := hD.perm lw_pm
    refine wr_V (rest := []) (ci := 4) (q0 := 0) ⟨hx, hb, hml, hown, hts⟩ hP hE hA hD hS (c_X4_square l D K _ _ _ _ _ _ _ _ _ _ _ _ _ _ _ _ (xs ((4 * k) + 1)) (xs ((4 * k) + 2)) hI) (cwV 2 hts gL_law_X4_square rfl rfl rfl hd_X4_square ⟨Nat.le_of_ble_eq_true rfl, Nat.le_of_ble_eq_true rfl⟩) rfl rfl rfl rfl hl.1 rfl (Nat.le_of_ble_eq_true rfl) dL_law_914 ⟨show _ ≤ 601024 by omega, show _ ≤ 7293034 by omega⟩ (fun H locs hP hD hS => ?_)
    rw [if_pos hE0] at hP hD
    have hP : va_P D vwCl (rfW K r (nI 0) pn sn ln pm sta ms hs T sv cs pf fa (cW K a b t c g T len qu n cs ln sn Sv [oC K o (vp_updL of 0 ((psT T (tn (xs ((4 * k) + 1))) (tn (xs ((4 * k) + 2)))).toInt64))])) H := hP
    have hD : va_D A (rfW K r (nI 0) pn sn ln pm sta ms hs T sv cs pf fa (cW K a b t c g T len qu n cs ln sn Sv [oC K o (vp_updL of 0 ((psT T (tn (xs ((4 * k) + 1))) (tn (xs ((4 * k) + 2)))).toInt64))])) := hD
    have hP := hP.perm lw_pm.symm
    have hD := hD.perm lw_pm.symm
    have hP : va_P D vwCl (cW K a b t c g T len qu n cs ln sn Sv (oC K o (vp_updL of 0 ((psT T (tn (xs ((4 * k) + 1))) (tn (xs ((4 * k) + 2)))).toInt64)) :: rfW K r (nI 0) pn sn ln pm sta ms hs T sv cs pf fa [])) H := hP
    have hD : va_D A (cW K a b t c g T len qu n cs ln sn Sv (oC K o (vp_updL of 0 ((psT T (tn (xs ((4 * k) + 1))) (tn (xs ((4 * k) + 2)))).toInt64)) :: rfW K r (nI 0) pn sn ln pm sta ms hs T sv cs pf fa [])) := hD
    refine top_i (y := psT T (tn (xs ((4 * k) + 1))) (tn (xs ((4 * k) + 2)))) (if_pos hE0) ?_
    refine lv_istore (lv' := [(6, .int (psT T (tn (xs ((4 * k) + 1))) (tn (xs ((4 * k) + 2))))), (5, .int (nI 0)), (4, .int (nI (4 * k))), (0, .ref b9), (1, .ref (c 0)), (2, .ref (r 0)), (3, .ref o)]) hx hb dL_law_917 hl (by decide) rfl (fun ls hl => ?_)
    refine lv_aload_n hx hb dL_law_919 rfl (lv_at hl 5 rfl) ?_
    have hP := hP.perm lw_pm
    have hD := hD.perm lw_pm
    refine wr_V (rest := []) (ci := 4) (q0 := 0) ⟨hx, hb, hml, hown, hts⟩ hP hE hA hD hS (c_X4_thrown l D K _ _ _ _ _ _ _ _ _ _ _ _ _ _ _ _ ) (cwV 0 hts gL_law_X4_thrown rfl rfl rfl hd_X4_thrown ⟨Nat.le_of_ble_eq_true rfl, Nat.le_of_ble_eq_true rfl⟩) rfl rfl rfl rfl hl.1 rfl (Nat.le_of_ble_eq_true rfl) dL_law_920 ⟨show _ ≤ 601024 by omega, show _ ≤ 7293034 by omega⟩ (fun H locs hP hD hS => ?_)
    have hP : va_P D vwCl (rfW K r (nI 0) pn sn ln pm sta ms hs T sv cs pf fa (cW K a b t c g T len qu n cs ln sn Sv [oC K o (vp_updL of 0 ((psT T (tn (xs ((4 * k) + 1))) (tn (xs ((4 * k) + 2)))).toInt64))])) H := hP
    have hD : va_D A (rfW K r (nI 0) pn sn ln pm sta ms hs T sv cs pf fa (cW K a b t c g T len qu n cs ln sn Sv [oC K o (vp_updL of 0 ((psT T (tn (xs ((4 * k) + 1))) (tn (xs ((4 * k) + 2)))).toInt64))])) := hD
    have hP := hP.perm lw_pm.symm
    have hD := hD.perm lw_pm.symm
    have hP : va_P D vwCl (cW K a b t c g T len qu n cs ln sn Sv (oC K o (vp_updL of 0 ((psT T (tn (xs ((4 * k) + 1))) (tn (xs ((4 * k) + 2)))).toInt64)) :: rfW K r (nI 0) pn sn ln pm sta ms hs T sv cs pf fa [])) H := hP
    have hD : va_D A (cW K a b t c g T len qu n cs ln sn Sv (oC K o (vp_updL of 0 ((psT T (tn (xs ((4 * k) + 1))) (tn (xs ((4 * k) + 2)))).toInt64)) :: rfW K r (nI 0) pn sn ln pm sta ms hs T sv cs pf fa [])) := hD
    refine lv_iload hx hb dL_law_923 (lv_at hl 1 rfl) ?_
    refine nv_icmp_eq (x := 0) (y := 0) (tgt := 930) hx hb dL_law_925 (by decide) (by decide) (by decide) (fun c_1 => ?_) (fun c_1 => ?_)
    · refine lv_iload hx hb dL_law_930 (lv_at hl 1 rfl) ?_
      refine nv_if_ne (x := 0) (tgt := 947) hx hb dL_law_932 (by decide) (by decide) (fun c_2 => ?_) (fun c_2 => ?_)
      · exact absurd c_2 (by decide)
      have n_c_2 : ¬ 0 < 0 := by omega
      refine lv_aload_n hx hb dL_law_935 rfl (lv_at hl 6 rfl) ?_
      refine lv_iconst (v := nI 0) hx hb dL_law_936 (by decide) ?_
      refine nv_lald hx hb hE hP 91 rfl dL_law_937 ?_
      refine top_l (y := (psT T (tn (xs ((4 * k) + 1))) (tn (xs ((4 * k) + 2)))).toInt64) rfl ?_
      refine lv_iload hx hb dL_law_938 (lv_at hl 0 rfl) ?_
      refine lv_i2l (v := (psT T (tn (xs ((4 * k) + 1))) (tn (xs ((4 * k) + 2)))).toInt64) hx hb dL_law_940 rfl ?_
      refine W.lcmp hx hb dL_law_941 ?_
      refine top_i (y := nI 0) (lcmp_rf _) ?_
      refine nv_if_eq (x := 0) (tgt := 947) hx hb dL_law_942 (by decide) (by decide) (fun c_3 => ?_) (fun c_3 => ?_)
      · have n_c_3 : ¬ 0 < 0 := by omega
        refine lv_goto (tgt := 1550) hx hb dL_law_947 (by decide) ?_
        refine W.widen (k := cells + 1) (n := slots + 6) (by omega) (by omega) ?_
        exact kk _ _ _ _ _ _ _ _ _ _ _ _ _ _ _ _ _ _ _ (hLI0) H locs ls hP hD hS (lv_sub hl [2, 3, 4, 5, 6] rfl)
      exact absurd c_3 (by decide)
    exact absurd c_1 (by decide)
  · refine lx_S (rest := []) ⟨hx, hb, hml, hown, hts⟩ hP hE hA hD hS hXw hZ hxn (c_L_square l D K dp fs hst _ _ _ _ _ _ _ _ _ _ _ _ _ _ (xs ((4 * k) + 1)) (xs ((4 * k) + 2)) hI _ _ _) (vx_cwSW 4 hts gL_law_L_square rfl rfl rfl hn_L_square ⟨Nat.le_of_ble_eq_true rfl, Nat.le_of_ble_eq_true rfl⟩) rfl hl.1 rfl (Nat.le_of_ble_eq_true rfl) dL_law_896 ⟨show _ ≤ 601024 by omega, show _ ≤ 7293034 by omega⟩ (fun H locs hP hD hS => ?_)
    rw [if_neg hE0] at hP hD
    have hP : va_P D vwCl (cW K a b t c g T len qu n cs ln sn Sv (oC K o of :: rfW K r th pn sn ln pm sta ms hs T sv cs pf fa [])) H := hP
    have hD : va_D A (cW K a b t c g T len qu n cs ln sn Sv (oC K o of :: rfW K r th pn sn ln pm sta ms hs T sv cs pf fa [])) := hD
    refine top_i (y := nI (q2 0 79 0 3 (xs ((4 * k) + 1)) (xs ((4 * k) + 2)))) (rfl) ?_
    refine lv_istore (lv' := [(5, .int (nI (q2 0 79 0 3 (xs ((4 * k) + 1)) (xs ((4 * k) + 2))))), (4, .int (nI (4 * k))), (0, .ref b9), (1, .ref (c 0)), (2, .ref (r 0)), (3, .ref o)]) hx hb dL_law_899 hl (by decide) rfl (fun ls hl => ?_)
    refine lv_aload_n hx hb dL_law_901 rfl (lv_at hl 4 rfl) ?_
    refine lv_aload_n hx hb dL_law_902 rfl (lv_at hl 2 rfl) ?_
    refine lv_iload hx hb dL_law_903 (lv_at hl 1 rfl) ?_
    refine lv_iconst (v := nI 1) hx hb dL_law_905 (by decide) ?_
    refine nv_iadd (x := 4 * k) (y := 1) hx hb dL_law_906 ?_
    refine va_sld hx hb hX hbl hbA hS (pk_in ((4 * k) + 1) L (by omega)) dL_law_907 ?_
    rw [pk_cl ((4 * k) + 1)]
    refine lv_aload_n hx hb dL_law_908 rfl (lv_at hl 2 rfl) ?_
    refine lv_iload hx hb dL_law_909 (lv_at hl 1 rfl) ?_
    refine lv_iconst (v := nI 2) hx hb dL_law_911 (by decide) ?_
    refine nv_iadd (x := 4 * k) (y := 2) hx hb dL_law_912 ?_
    refine va_sld hx hb hX hbl hbA hS (pk_in ((4 * k) + 2) L (by omega)) dL_law_913 ?_
    rw [pk_cl ((4 * k) + 2)]
    have hP := hP.perm lw_pm
    have hD := hD.perm lw_pm
    refine wr_V (rest := []) (ci := 4) (q0 := 0) ⟨hx, hb, hml, hown, hts⟩ hP hE hA hD hS (c_X4_square l D K _ _ _ _ _ _ _ _ _ _ _ _ _ _ _ _ (xs ((4 * k) + 1)) (xs ((4 * k) + 2)) hI) (cwV 2 hts gL_law_X4_square rfl rfl rfl hd_X4_square ⟨Nat.le_of_ble_eq_true rfl, Nat.le_of_ble_eq_true rfl⟩) rfl rfl rfl rfl hl.1 rfl (Nat.le_of_ble_eq_true rfl) dL_law_914 ⟨show _ ≤ 601024 by omega, show _ ≤ 7293034 by omega⟩ (fun H locs hP hD hS => ?_)
    rw [if_neg hE0] at hP hD
    have hP : va_P D vwCl (rfW K r (nI (q2 0 79 0 3 (xs ((4 * k) + 1)) (xs ((4 * k) + 2)))) pn sn ln pm sta ms hs T sv cs pf fa (cW K a b t c g T len qu n cs ln sn Sv [oC K o of])) H := hP
    have hD : va_D A (rfW K r (nI (q2 0 79 0 3 (xs ((4 * k) + 1)) (xs ((4 * k) + 2)))) pn sn ln pm sta ms hs T sv cs pf fa (cW K a b t c g T len qu n cs ln sn Sv [oC K o of])) := hD
    have hP := hP.perm lw_pm.symm
    have hD := hD.perm lw_pm.symm
    have hP : va_P D vwCl (cW K a b t c g T len qu n cs ln sn Sv (oC K o of :: rfW K r (nI (q2 0 79 0 3 (xs ((4 * k) + 1)) (xs ((4 * k) + 2)))) pn sn ln pm sta ms hs T sv cs pf fa [])) H := hP
    have hD : va_D A (cW K a b t c g T len qu n cs ln sn Sv (oC K o of :: rfW K r (nI (q2 0 79 0 3 (xs ((4 * k) + 1)) (xs ((4 * k) + 2)))) pn sn ln pm sta ms hs T sv cs pf fa [])) := hD
    refine top_i (y := 0) (if_neg hE0) ?_
    refine lv_istore (lv' := [(6, .int 0), (5, .int (nI (q2 0 79 0 3 (xs ((4 * k) + 1)) (xs ((4 * k) + 2))))), (4, .int (nI (4 * k))), (0, .ref b9), (1, .ref (c 0)), (2, .ref (r 0)), (3, .ref o)]) hx hb dL_law_917 hl (by decide) rfl (fun ls hl => ?_)
    refine lv_aload_n hx hb dL_law_919 rfl (lv_at hl 5 rfl) ?_
    have hP := hP.perm lw_pm
    have hD := hD.perm lw_pm
    refine wr_V (rest := []) (ci := 4) (q0 := 0) ⟨hx, hb, hml, hown, hts⟩ hP hE hA hD hS (c_X4_thrown l D K _ _ _ _ _ _ _ _ _ _ _ _ _ _ _ _ ) (cwV 0 hts gL_law_X4_thrown rfl rfl rfl hd_X4_thrown ⟨Nat.le_of_ble_eq_true rfl, Nat.le_of_ble_eq_true rfl⟩) rfl rfl rfl rfl hl.1 rfl (Nat.le_of_ble_eq_true rfl) dL_law_920 ⟨show _ ≤ 601024 by omega, show _ ≤ 7293034 by omega⟩ (fun H locs hP hD hS => ?_)
    have hP : va_P D vwCl (rfW K r (nI (q2 0 79 0 3 (xs ((4 * k) + 1)) (xs ((4 * k) + 2)))) pn sn ln pm sta ms hs T sv cs pf fa (cW K a b t c g T len qu n cs ln sn Sv [oC K o of])) H := hP
    have hD : va_D A (rfW K r (nI (q2 0 79 0 3 (xs ((4 * k) + 1)) (xs ((4 * k) + 2)))) pn sn ln pm sta ms hs T sv cs pf fa (cW K a b t c g T len qu n cs ln sn Sv [oC K o of])) := hD
    have hP := hP.perm lw_pm.symm
    have hD := hD.perm lw_pm.symm
    have hP : va_P D vwCl (cW K a b t c g T len qu n cs ln sn Sv (oC K o of :: rfW K r (nI (q2 0 79 0 3 (xs ((4 * k) + 1)) (xs ((4 * k) + 2)))) pn sn ln pm sta ms hs T sv cs pf fa [])) H := hP
    have hD : va_D A (cW K a b t c g T len qu n cs ln sn Sv (oC K o of :: rfW K r (nI (q2 0 79 0 3 (xs ((4 * k) + 1)) (xs ((4 * k) + 2)))) pn sn ln pm sta ms hs T sv cs pf fa [])) := hD
    refine lv_iload hx hb dL_law_923 (lv_at hl 1 rfl) ?_
    refine lv_icmp_eq (x := nI (q2 0 79 0 3 (xs ((4 * k) + 1)) (xs ((4 * k) + 2)))) (y := nI (q2 0 79 0 3 (xs ((4 * k) + 1)) (xs ((4 * k) + 2)))) (tgt := 930) hx hb dL_law_925 (by decide) (fun c_4 => ?_) (fun c_4 => ?_)
    · refine lv_iload hx hb dL_law_930 (lv_at hl 1 rfl) ?_
      refine nv_if_ne (x := q2 0 79 0 3 (xs ((4 * k) + 1)) (xs ((4 * k) + 2))) (tgt := 947) hx hb dL_law_932 (by decide) (by omega) (fun c_5 => ?_) (fun c_5 => ?_)
      · have n_c_5 : ¬ q2 0 79 0 3 (xs ((4 * k) + 1)) (xs ((4 * k) + 2)) = 0 := by omega
        refine lv_goto (tgt := 1550) hx hb dL_law_947 (by decide) ?_
        refine W.widen (k := cells + 1) (n := slots + 6) (by omega) (by omega) ?_
        exact kk _ _ _ _ _ _ _ _ _ _ _ _ _ _ _ _ _ _ _ (hLI0) H locs ls hP hD hS (lv_sub hl [2, 3, 4, 5, 6] rfl)
      exact absurd c_5 hE0
    exact absurd rfl c_4
set_option maxHeartbeats 4000000 in
set_option maxRecDepth 100000 in
theorem lc_stopOf {pr : Program} {l : Launch} {en : Env} {st : State} {md : MethodId} {ar : Array Value} {bl : List Frame} {mt : Method} {co : Code} {D : va_G} {K : Nat → ClassId} {A : Nat → Prop} {Q : State → Prop} {b9 : Nat} {a b t c r : Nat → Nat} {o : Nat} {dp fs L : Nat} {xs : Nat → Int32} (hx : pr.tables.exec = Jvm.exec) (hb : co.code = cL_law) (hml : co.maxLocals = 9) (hts : ∀ w ∈ wsL_law, w.before ar st = true) (hown : st.vm.findClass RL = some md.cls) (hst : l.stackTraces = false) (hE : ev D K st) (hXw : xw st) (hxn : xn st) (hZ : xst dp fs A st st.heap) (hA : ∀ q : Nat, st.heap.size ≤ q → A q) (hX : va_X b9 L xs st st.heap) (hbl : b9 < st.heap.size) (hbA : ¬ A b9) (k : Nat) (hk : 4 * k + 4 ≤ L) (hL : L ≤ 2048) (cells slots : Nat) (hc1 : cells + 1 ≤ 601024) (hc2 : slots + 6 ≤ 7293034) (kk : Nx pr l en st md ar bl mt co D K A Q b9 a b t c r o k (cells + 1) (slots + 6) 1550) : Nx pr l en st md ar bl mt co D K A Q b9 a b t c r o k cells slots 950 := by
  intro T len qu n cs ln sn Sv g th pn pm sta ms hs sv pf fa of hLI H locs ls hP hD hS hl
  have hLI0 := hLI
  obtain ⟨hI, hK, hCB, hsn, hSV, hSI, hSH⟩ := hLI
  refine lv_aload_n hx hb dL_law_950 rfl (lv_at hl 2 rfl) ?_
  refine lv_aload_n hx hb dL_law_951 rfl (lv_at hl 1 rfl) ?_
  refine lv_iload hx hb dL_law_952 (lv_at hl 0 rfl) ?_
  refine lv_iconst (v := nI 1) hx hb dL_law_954 (by decide) ?_
  refine nv_iadd (x := 4 * k) (y := 1) hx hb dL_law_955 ?_
  refine va_sld hx hb hX hbl hbA hS (pk_in ((4 * k) + 1) L (by omega)) dL_law_956 ?_
  rw [pk_cl ((4 * k) + 1)]
  refine lv_aload_n hx hb dL_law_957 rfl (lv_at hl 1 rfl) ?_
  refine lv_iload hx hb dL_law_958 (lv_at hl 0 rfl) ?_
  refine lv_iconst (v := nI 2) hx hb dL_law_960 (by decide) ?_
  refine nv_iadd (x := 4 * k) (y := 2) hx hb dL_law_961 ?_
  refine va_sld hx hb hX hbl hbA hS (pk_in ((4 * k) + 2) L (by omega)) dL_law_962 ?_
  rw [pk_cl ((4 * k) + 2)]
  refine lv_aload_n hx hb dL_law_963 rfl (lv_at hl 4 rfl) ?_
  have hEl : q2 0 11 0 2 (xs ((4 * k) + 1)) (xs ((4 * k) + 2)) ≤ 2 := by unfold q2; (repeat' split) <;> omega
  by_cases hE0 : q2 0 11 0 2 (xs ((4 * k) + 1)) (xs ((4 * k) + 2)) = 0
  · refine lx_S (rest := []) ⟨hx, hb, hml, hown, hts⟩ hP hE hA hD hS hXw hZ hxn (c_L_stopOf l D K dp fs hst _ _ _ _ _ _ _ _ _ _ _ _ _ _ (xs ((4 * k) + 1)) (xs ((4 * k) + 2)) hI _ _ _) (vx_cwSW 4 hts gL_law_L_stopOf rfl rfl rfl hn_L_stopOf ⟨Nat.le_of_ble_eq_true rfl, Nat.le_of_ble_eq_true rfl⟩) rfl hl.1 rfl (Nat.le_of_ble_eq_true rfl) dL_law_964 ⟨show _ ≤ 601024 by omega, show _ ≤ 7293034 by omega⟩ (fun H locs hP hD hS => ?_)
    rw [if_pos hE0] at hP hD
    have hP : va_P D vwCl (cW K a b t c g T len qu n cs ln sn Sv (oC K o (vp_updL of 0 ((ptT T (tn (xs ((4 * k) + 1))) (tn (xs ((4 * k) + 2)))).toInt64)) :: rfW K r th pn sn ln pm sta ms hs T sv cs pf fa [])) H := hP
    have hD : va_D A (cW K a b t c g T len qu n cs ln sn Sv (oC K o (vp_updL of 0 ((ptT T (tn (xs ((4 * k) + 1))) (tn (xs ((4 * k) + 2)))).toInt64)) :: rfW K r th pn sn ln pm sta ms hs T sv cs pf fa [])) := hD
    refine top_i (y := nI 0) (by rw [hE0]) ?_
    refine lv_istore (lv' := [(5, .int (nI 0)), (4, .int (nI (4 * k))), (0, .ref b9), (1, .ref (c 0)), (2, .ref (r 0)), (3, .ref o)]) hx hb dL_law_967 hl (by decide) rfl (fun ls hl => ?_)
    refine lv_aload_n hx hb dL_law_969 rfl (lv_at hl 4 rfl) ?_
    refine lv_aload_n hx hb dL_law_970 rfl (lv_at hl 2 rfl) ?_
    refine lv_iload hx hb dL_law_971 (lv_at hl 1 rfl) ?_
    refine lv_iconst (v := nI 1) hx hb dL_law_973 (by decide) ?_
    refine nv_iadd (x := 4 * k) (y := 1) hx hb dL_law_974 ?_
    refine va_sld hx hb hX hbl hbA hS (pk_in ((4 * k) + 1) L (by omega)) dL_law_975 ?_
    rw [pk_cl ((4 * k) + 1)]
    refine lv_aload_n hx hb dL_law_976 rfl (lv_at hl 2 rfl) ?_
    refine lv_iload hx hb dL_law_977 (lv_at hl 1 rfl) ?_
    refine lv_iconst (v := nI 2) hx hb dL_law_979 (by decide) ?_
    refine nv_iadd (x := 4 * k) (y := 2) hx hb dL_law_980 ?_
    refine va_sld hx hb hX hbl hbA hS (pk_in ((4 * k) + 2) L (by omega)) dL_law_981 ?_
    rw [pk_cl ((4 * k) + 2)]
    have hP := hP.perm lw_pm
    have hD := hD.perm lw_pm
    refine wr_V (rest := []) (ci := 4) (q0 := 0) ⟨hx, hb, hml, hown, hts⟩ hP hE hA hD hS (c_X4_stopOf l D K _ _ _ _ _ _ _ _ _ _ _ _ _ _ _ _ (xs ((4 * k) + 1)) (xs ((4 * k) + 2)) hI) (cwV 2 hts gL_law_X4_stopOf rfl rfl rfl hd_X4_stopOf ⟨Nat.le_of_ble_eq_true rfl, Nat.le_of_ble_eq_true rfl⟩) rfl rfl rfl rfl hl.1 rfl (Nat.le_of_ble_eq_true rfl) dL_law_982 ⟨show _ ≤ 601024 by omega, show _ ≤ 7293034 by omega⟩ (fun H locs hP hD hS => ?_)
    rw [if_pos hE0] at hP hD
    have hP : va_P D vwCl (rfW K r (nI 0) pn sn ln pm sta ms hs T sv cs pf fa (cW K a b t c g T len qu n cs ln sn Sv [oC K o (vp_updL of 0 ((ptT T (tn (xs ((4 * k) + 1))) (tn (xs ((4 * k) + 2)))).toInt64))])) H := hP
    have hD : va_D A (rfW K r (nI 0) pn sn ln pm sta ms hs T sv cs pf fa (cW K a b t c g T len qu n cs ln sn Sv [oC K o (vp_updL of 0 ((ptT T (tn (xs ((4 * k) + 1))) (tn (xs ((4 * k) + 2)))).toInt64))])) := hD
    have hP := hP.perm lw_pm.symm
    have hD := hD.perm lw_pm.symm
    have hP : va_P D vwCl (cW K a b t c g T len qu n cs ln sn Sv (oC K o (vp_updL of 0 ((ptT T (tn (xs ((4 * k) + 1))) (tn (xs ((4 * k) + 2)))).toInt64)) :: rfW K r (nI 0) pn sn ln pm sta ms hs T sv cs pf fa [])) H := hP
    have hD : va_D A (cW K a b t c g T len qu n cs ln sn Sv (oC K o (vp_updL of 0 ((ptT T (tn (xs ((4 * k) + 1))) (tn (xs ((4 * k) + 2)))).toInt64)) :: rfW K r (nI 0) pn sn ln pm sta ms hs T sv cs pf fa [])) := hD
    refine top_i (y := ptT T (tn (xs ((4 * k) + 1))) (tn (xs ((4 * k) + 2)))) (if_pos hE0) ?_
    refine lv_istore (lv' := [(6, .int (ptT T (tn (xs ((4 * k) + 1))) (tn (xs ((4 * k) + 2))))), (5, .int (nI 0)), (4, .int (nI (4 * k))), (0, .ref b9), (1, .ref (c 0)), (2, .ref (r 0)), (3, .ref o)]) hx hb dL_law_985 hl (by decide) rfl (fun ls hl => ?_)
    refine lv_aload_n hx hb dL_law_987 rfl (lv_at hl 5 rfl) ?_
    have hP := hP.perm lw_pm
    have hD := hD.perm lw_pm
    refine wr_V (rest := []) (ci := 4) (q0 := 0) ⟨hx, hb, hml, hown, hts⟩ hP hE hA hD hS (c_X4_thrown l D K _ _ _ _ _ _ _ _ _ _ _ _ _ _ _ _ ) (cwV 0 hts gL_law_X4_thrown rfl rfl rfl hd_X4_thrown ⟨Nat.le_of_ble_eq_true rfl, Nat.le_of_ble_eq_true rfl⟩) rfl rfl rfl rfl hl.1 rfl (Nat.le_of_ble_eq_true rfl) dL_law_988 ⟨show _ ≤ 601024 by omega, show _ ≤ 7293034 by omega⟩ (fun H locs hP hD hS => ?_)
    have hP : va_P D vwCl (rfW K r (nI 0) pn sn ln pm sta ms hs T sv cs pf fa (cW K a b t c g T len qu n cs ln sn Sv [oC K o (vp_updL of 0 ((ptT T (tn (xs ((4 * k) + 1))) (tn (xs ((4 * k) + 2)))).toInt64))])) H := hP
    have hD : va_D A (rfW K r (nI 0) pn sn ln pm sta ms hs T sv cs pf fa (cW K a b t c g T len qu n cs ln sn Sv [oC K o (vp_updL of 0 ((ptT T (tn (xs ((4 * k) + 1))) (tn (xs ((4 * k) + 2)))).toInt64))])) := hD
    have hP := hP.perm lw_pm.symm
    have hD := hD.perm lw_pm.symm
    have hP : va_P D vwCl (cW K a b t c g T len qu n cs ln sn Sv (oC K o (vp_updL of 0 ((ptT T (tn (xs ((4 * k) + 1))) (tn (xs ((4 * k) + 2)))).toInt64)) :: rfW K r (nI 0) pn sn ln pm sta ms hs T sv cs pf fa [])) H := hP
    have hD : va_D A (cW K a b t c g T len qu n cs ln sn Sv (oC K o (vp_updL of 0 ((ptT T (tn (xs ((4 * k) + 1))) (tn (xs ((4 * k) + 2)))).toInt64)) :: rfW K r (nI 0) pn sn ln pm sta ms hs T sv cs pf fa [])) := hD
    refine lv_iload hx hb dL_law_991 (lv_at hl 1 rfl) ?_
    refine nv_icmp_eq (x := 0) (y := 0) (tgt := 998) hx hb dL_law_993 (by decide) (by decide) (by decide) (fun c_1 => ?_) (fun c_1 => ?_)
    · refine lv_iload hx hb dL_law_998 (lv_at hl 1 rfl) ?_
      refine nv_if_ne (x := 0) (tgt := 1015) hx hb dL_law_1000 (by decide) (by decide) (fun c_2 => ?_) (fun c_2 => ?_)
      · exact absurd c_2 (by decide)
      have n_c_2 : ¬ 0 < 0 := by omega
      refine lv_aload_n hx hb dL_law_1003 rfl (lv_at hl 6 rfl) ?_
      refine lv_iconst (v := nI 0) hx hb dL_law_1004 (by decide) ?_
      refine nv_lald hx hb hE hP 91 rfl dL_law_1005 ?_
      refine top_l (y := (ptT T (tn (xs ((4 * k) + 1))) (tn (xs ((4 * k) + 2)))).toInt64) rfl ?_
      refine lv_iload hx hb dL_law_1006 (lv_at hl 0 rfl) ?_
      refine lv_i2l (v := (ptT T (tn (xs ((4 * k) + 1))) (tn (xs ((4 * k) + 2)))).toInt64) hx hb dL_law_1008 rfl ?_
      refine W.lcmp hx hb dL_law_1009 ?_
      refine top_i (y := nI 0) (lcmp_rf _) ?_
      refine nv_if_eq (x := 0) (tgt := 1015) hx hb dL_law_1010 (by decide) (by decide) (fun c_3 => ?_) (fun c_3 => ?_)
      · have n_c_3 : ¬ 0 < 0 := by omega
        refine lv_goto (tgt := 1550) hx hb dL_law_1015 (by decide) ?_
        refine W.widen (k := cells + 1) (n := slots + 6) (by omega) (by omega) ?_
        exact kk _ _ _ _ _ _ _ _ _ _ _ _ _ _ _ _ _ _ _ (hLI0) H locs ls hP hD hS (lv_sub hl [2, 3, 4, 5, 6] rfl)
      exact absurd c_3 (by decide)
    exact absurd c_1 (by decide)
  · refine lx_S (rest := []) ⟨hx, hb, hml, hown, hts⟩ hP hE hA hD hS hXw hZ hxn (c_L_stopOf l D K dp fs hst _ _ _ _ _ _ _ _ _ _ _ _ _ _ (xs ((4 * k) + 1)) (xs ((4 * k) + 2)) hI _ _ _) (vx_cwSW 4 hts gL_law_L_stopOf rfl rfl rfl hn_L_stopOf ⟨Nat.le_of_ble_eq_true rfl, Nat.le_of_ble_eq_true rfl⟩) rfl hl.1 rfl (Nat.le_of_ble_eq_true rfl) dL_law_964 ⟨show _ ≤ 601024 by omega, show _ ≤ 7293034 by omega⟩ (fun H locs hP hD hS => ?_)
    rw [if_neg hE0] at hP hD
    have hP : va_P D vwCl (cW K a b t c g T len qu n cs ln sn Sv (oC K o of :: rfW K r th pn sn ln pm sta ms hs T sv cs pf fa [])) H := hP
    have hD : va_D A (cW K a b t c g T len qu n cs ln sn Sv (oC K o of :: rfW K r th pn sn ln pm sta ms hs T sv cs pf fa [])) := hD
    refine top_i (y := nI (q2 0 11 0 2 (xs ((4 * k) + 1)) (xs ((4 * k) + 2)))) (rfl) ?_
    refine lv_istore (lv' := [(5, .int (nI (q2 0 11 0 2 (xs ((4 * k) + 1)) (xs ((4 * k) + 2))))), (4, .int (nI (4 * k))), (0, .ref b9), (1, .ref (c 0)), (2, .ref (r 0)), (3, .ref o)]) hx hb dL_law_967 hl (by decide) rfl (fun ls hl => ?_)
    refine lv_aload_n hx hb dL_law_969 rfl (lv_at hl 4 rfl) ?_
    refine lv_aload_n hx hb dL_law_970 rfl (lv_at hl 2 rfl) ?_
    refine lv_iload hx hb dL_law_971 (lv_at hl 1 rfl) ?_
    refine lv_iconst (v := nI 1) hx hb dL_law_973 (by decide) ?_
    refine nv_iadd (x := 4 * k) (y := 1) hx hb dL_law_974 ?_
    refine va_sld hx hb hX hbl hbA hS (pk_in ((4 * k) + 1) L (by omega)) dL_law_975 ?_
    rw [pk_cl ((4 * k) + 1)]
    refine lv_aload_n hx hb dL_law_976 rfl (lv_at hl 2 rfl) ?_
    refine lv_iload hx hb dL_law_977 (lv_at hl 1 rfl) ?_
    refine lv_iconst (v := nI 2) hx hb dL_law_979 (by decide) ?_
    refine nv_iadd (x := 4 * k) (y := 2) hx hb dL_law_980 ?_
    refine va_sld hx hb hX hbl hbA hS (pk_in ((4 * k) + 2) L (by omega)) dL_law_981 ?_
    rw [pk_cl ((4 * k) + 2)]
    have hP := hP.perm lw_pm
    have hD := hD.perm lw_pm
    refine wr_V (rest := []) (ci := 4) (q0 := 0) ⟨hx, hb, hml, hown, hts⟩ hP hE hA hD hS (c_X4_stopOf l D K _ _ _ _ _ _ _ _ _ _ _ _ _ _ _ _ (xs ((4 * k) + 1)) (xs ((4 * k) + 2)) hI) (cwV 2 hts gL_law_X4_stopOf rfl rfl rfl hd_X4_stopOf ⟨Nat.le_of_ble_eq_true rfl, Nat.le_of_ble_eq_true rfl⟩) rfl rfl rfl rfl hl.1 rfl (Nat.le_of_ble_eq_true rfl) dL_law_982 ⟨show _ ≤ 601024 by omega, show _ ≤ 7293034 by omega⟩ (fun H locs hP hD hS => ?_)
    rw [if_neg hE0] at hP hD
    have hP : va_P D vwCl (rfW K r (nI (q2 0 11 0 2 (xs ((4 * k) + 1)) (xs ((4 * k) + 2)))) pn sn ln pm sta ms hs T sv cs pf fa (cW K a b t c g T len qu n cs ln sn Sv [oC K o of])) H := hP
    have hD : va_D A (rfW K r (nI (q2 0 11 0 2 (xs ((4 * k) + 1)) (xs ((4 * k) + 2)))) pn sn ln pm sta ms hs T sv cs pf fa (cW K a b t c g T len qu n cs ln sn Sv [oC K o of])) := hD
    have hP := hP.perm lw_pm.symm
    have hD := hD.perm lw_pm.symm
    have hP : va_P D vwCl (cW K a b t c g T len qu n cs ln sn Sv (oC K o of :: rfW K r (nI (q2 0 11 0 2 (xs ((4 * k) + 1)) (xs ((4 * k) + 2)))) pn sn ln pm sta ms hs T sv cs pf fa [])) H := hP
    have hD : va_D A (cW K a b t c g T len qu n cs ln sn Sv (oC K o of :: rfW K r (nI (q2 0 11 0 2 (xs ((4 * k) + 1)) (xs ((4 * k) + 2)))) pn sn ln pm sta ms hs T sv cs pf fa [])) := hD
    refine top_i (y := 0) (if_neg hE0) ?_
    refine lv_istore (lv' := [(6, .int 0), (5, .int (nI (q2 0 11 0 2 (xs ((4 * k) + 1)) (xs ((4 * k) + 2))))), (4, .int (nI (4 * k))), (0, .ref b9), (1, .ref (c 0)), (2, .ref (r 0)), (3, .ref o)]) hx hb dL_law_985 hl (by decide) rfl (fun ls hl => ?_)
    refine lv_aload_n hx hb dL_law_987 rfl (lv_at hl 5 rfl) ?_
    have hP := hP.perm lw_pm
    have hD := hD.perm lw_pm
    refine wr_V (rest := []) (ci := 4) (q0 := 0) ⟨hx, hb, hml, hown, hts⟩ hP hE hA hD hS (c_X4_thrown l D K _ _ _ _ _ _ _ _ _ _ _ _ _ _ _ _ ) (cwV 0 hts gL_law_X4_thrown rfl rfl rfl hd_X4_thrown ⟨Nat.le_of_ble_eq_true rfl, Nat.le_of_ble_eq_true rfl⟩) rfl rfl rfl rfl hl.1 rfl (Nat.le_of_ble_eq_true rfl) dL_law_988 ⟨show _ ≤ 601024 by omega, show _ ≤ 7293034 by omega⟩ (fun H locs hP hD hS => ?_)
    have hP : va_P D vwCl (rfW K r (nI (q2 0 11 0 2 (xs ((4 * k) + 1)) (xs ((4 * k) + 2)))) pn sn ln pm sta ms hs T sv cs pf fa (cW K a b t c g T len qu n cs ln sn Sv [oC K o of])) H := hP
    have hD : va_D A (rfW K r (nI (q2 0 11 0 2 (xs ((4 * k) + 1)) (xs ((4 * k) + 2)))) pn sn ln pm sta ms hs T sv cs pf fa (cW K a b t c g T len qu n cs ln sn Sv [oC K o of])) := hD
    have hP := hP.perm lw_pm.symm
    have hD := hD.perm lw_pm.symm
    have hP : va_P D vwCl (cW K a b t c g T len qu n cs ln sn Sv (oC K o of :: rfW K r (nI (q2 0 11 0 2 (xs ((4 * k) + 1)) (xs ((4 * k) + 2)))) pn sn ln pm sta ms hs T sv cs pf fa [])) H := hP
    have hD : va_D A (cW K a b t c g T len qu n cs ln sn Sv (oC K o of :: rfW K r (nI (q2 0 11 0 2 (xs ((4 * k) + 1)) (xs ((4 * k) + 2)))) pn sn ln pm sta ms hs T sv cs pf fa [])) := hD
    refine lv_iload hx hb dL_law_991 (lv_at hl 1 rfl) ?_
    refine lv_icmp_eq (x := nI (q2 0 11 0 2 (xs ((4 * k) + 1)) (xs ((4 * k) + 2)))) (y := nI (q2 0 11 0 2 (xs ((4 * k) + 1)) (xs ((4 * k) + 2)))) (tgt := 998) hx hb dL_law_993 (by decide) (fun c_4 => ?_) (fun c_4 => ?_)
    · refine lv_iload hx hb dL_law_998 (lv_at hl 1 rfl) ?_
      refine nv_if_ne (x := q2 0 11 0 2 (xs ((4 * k) + 1)) (xs ((4 * k) + 2))) (tgt := 1015) hx hb dL_law_1000 (by decide) (by omega) (fun c_5 => ?_) (fun c_5 => ?_)
      · have n_c_5 : ¬ q2 0 11 0 2 (xs ((4 * k) + 1)) (xs ((4 * k) + 2)) = 0 := by omega
        refine lv_goto (tgt := 1550) hx hb dL_law_1015 (by decide) ?_
        refine W.widen (k := cells + 1) (n := slots + 6) (by omega) (by omega) ?_
        exact kk _ _ _ _ _ _ _ _ _ _ _ _ _ _ _ _ _ _ _ (hLI0) H locs ls hP hD hS (lv_sub hl [2, 3, 4, 5, 6] rfl)
      exact absurd c_5 hE0
    exact absurd rfl c_4
