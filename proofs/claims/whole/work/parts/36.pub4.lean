theorem hd_X4_drop : yX4_drop.cls = RX4 ∧ yX4_drop.cls ≠ "java/lang/invoke/MethodHandle" ∧ yX4_drop.cls ≠ "java/lang/invoke/VarHandle" ∧ (parseMethodDescriptor yX4_drop.desc).map (fun d => d.parameters.length) = some 1 := by decide +kernel
theorem hn_X4_drop : yX4_drop.cls ≠ "java/lang/invoke/MethodHandle" ∧ yX4_drop.cls ≠ "java/lang/invoke/VarHandle" ∧ (parseMethodDescriptor yX4_drop.desc).map (fun d => d.parameters.length) = some 1 := hd_X4_drop.2
set_option maxHeartbeats 4000000 in
set_option maxRecDepth 100000 in
theorem c_X4_isStop_x (l : Launch) (D : va_G) (K : Nat → ClassId) (r : Nat → Nat) (th sm ty pm pn sta ms : Int32) (hs : Int64) (T : TW) (Y : va_W) (x : Int32) (hI : Inv T) : Rd l yX4_isStop wsX4_isStop ({ frames := 2, cells := 0, slots := 0, locals := 34 } : Room) D K (refO r th sm ty pm pn sta ms hs :: zC K r T :: Y) [.ref (r 0), .int x] (.int (bI (isS T x))) := by
  refine rd_intro (cc := cX4_isStop) (maxL := 2) (ret := (some .boolean)) (by decide) rfl (Nat.le_of_ble_eq_true rfl) ?_
  intro pr en st md ar bl mt co hx hb hml hr hts hown hk hP hE ls hl
  have hown : st.vm.findClass RX4 = some md.cls := hown
  have hl : lv_has ls 2 [(0, .ref (r 0)), (1, .int x)] := hl
  refine lv_iload_n hx hb dX4_isStop_0 rfl (lv_at hl 1 rfl) ?_
  refine lv_iconst (v := nI 0) hx hb dX4_isStop_1 (by decide) ?_
  refine lv_bipush (v := nI 11) hx hb dX4_isStop_2 (by decide) ?_
  refine rd_S (rest := []) ⟨hx, hb, hml, hown, hts⟩ hP hE (c_X4_in l D K _ x 0 11) (va_cwS 3 hts gX4_isStop_X4_in rfl rfl rfl hn_X4_in ⟨Nat.le_of_ble_eq_true rfl, Nat.le_of_ble_eq_true rfl⟩) rfl hl.1 rfl (Nat.le_of_ble_eq_true rfl) dX4_isStop_4 ⟨Nat.zero_le _, Nat.zero_le _⟩ ?_
  refine bv_if_eq (x := inR 0 11 x) (tgt := 23) hx hb dX4_isStop_7 (by decide) (fun c_1 => ?_) (fun c_1 => ?_)
  · refine lv_iconst (v := nI 0) hx hb dX4_isStop_23 (by decide) ?_
    exact rd_zret hx hb hr hk dX4_isStop_24 (by simp [isS, bI_t, bI_f, nI_0, nI_one, ni0, c_1] <;> rfl)
  · obtain ⟨s9, lo_s9, hi_s9, e_s9⟩ := inR_nL (a := 0) (b := 11) rfl rfl (by decide) (by decide) c_1
    subst e_s9
    have t_s9 := tn_nI (n := s9) (by omega)
    refine lv_aload_n hx hb dX4_isStop_10 rfl (lv_at hl 0 rfl) ?_
    refine lv_iload_n hx hb dX4_isStop_11 rfl (lv_at hl 1 rfl) ?_
    refine rd_V (rest := []) (ci := 4) (q0 := 0) ⟨hx, hb, hml, hown, hts⟩ hP hE (c_X4_stopSquare l D K _ _ _ _ _ _ _ _ _ _ _ s9 hI (by omega)) (cwV 1 hts gX4_isStop_X4_stopSquare rfl rfl rfl hd_X4_stopSquare ⟨Nat.le_of_ble_eq_true rfl, Nat.le_of_ble_eq_true rfl⟩) rfl rfl rfl rfl hl.1 rfl (Nat.le_of_ble_eq_true rfl) dX4_isStop_12 ⟨Nat.zero_le _, Nat.zero_le _⟩ ?_
    refine lv_iconst (v := -1) hx hb dX4_isStop_15 (by decide) ?_
    refine ov_icmp_eq (tgt := 23) hx hb dX4_isStop_16 (by decide) (lt31 (sq_lt hI (t := s9) (by omega)) (by decide)) (fun c_2 => ?_) (fun k_3 c_2 => ?_)
    · refine lv_iconst (v := nI 0) hx hb dX4_isStop_23 (by decide) ?_
      exact rd_zret hx hb hr hk dX4_isStop_24 (by simp [isS, bI_t, bI_f, nI_0, nI_one, ni0, c_1, t_s9, c_2] <;> rfl)
    · have hk_c_2 := (sq_lt hI (t := s9) (by omega)) k_3 c_2
      refine lv_iconst (v := nI 1) hx hb dX4_isStop_19 (by decide) ?_
      refine lv_goto (tgt := 24) hx hb dX4_isStop_20 (by decide) ?_
      exact rd_zret hx hb hr hk dX4_isStop_24 (by simp [isS, bI_t, bI_f, nI_0, nI_one, ni0, c_1, t_s9, c_2] <;> rfl)
set_option maxHeartbeats 4000000 in
set_option maxRecDepth 100000 in
theorem c_X4_drop (l : Launch) (D : va_G) (K : Nat → ClassId) (sz : Nat) (r : Nat → Nat) (th pn : Int32) (sn ln pm sta ms : Nat) (hs : Int64) (T : TW) (sv : Nat → Int32) (cs : Nat → Nat) (pf : Nat → Int32) (fa : Nat → Nat) (Y : va_W) (x : Int32) (hI : Inv T) (hsn : sn ≤ 6) : Wr l yX4_drop wsX4_drop ({ frames := 3, cells := 0, slots := 0, locals := 55 } : Room) D K (refO r th (nI sn) (nI ln) (nI pm) pn (nI sta) (nI ms) hs :: zC K r T :: sC K r sv :: bC K r cs :: pC K r pf :: fC K r fa :: Y) sz [.ref (r 0), .int x] (if drE T x = 0 then refO r (nI 0) (nI (svN sn)) (nI ln) (nI pm) pn (nI sta) (nI ms) hs :: zC K r (drpT T (tn x)) :: sC K r (savS sv sn T) :: bC K r cs :: pC K r pf :: fC K r fa :: Y else refO r (nI (drE T x)) (nI sn) (nI ln) (nI pm) pn (nI sta) (nI ms) hs :: zC K r T :: sC K r sv :: bC K r cs :: pC K r pf :: fC K r fa :: Y) (some (.int (if drE T x = 0 then oI (sqT T (tn x)) else 0))) 0 0 := by
  refine wr_intro (cc := cX4_drop) (maxL := 3) (ret := (some .int)) (by decide) rfl (Nat.le_of_ble_eq_true rfl) ?_
  intro pr en st md ar bl mt co A hx hb hml hr hts hown hk hsz hAe hP hE hD hS hA hin ls hl
  have hown : st.vm.findClass RX4 = some md.cls := hown
  have hl : lv_has ls 3 [(0, .ref (r 0)), (1, .int x)] := hl
  obtain ⟨H, hH⟩ : ∃ z, z = st.heap := ⟨_, rfl⟩
  obtain ⟨locs, hlo⟩ : ∃ z : List Loc, z = [] := ⟨_, rfl⟩
  have hP : va_P D vwCl (refO r th (nI sn) (nI ln) (nI pm) pn (nI sta) (nI ms) hs :: zC K r T :: sC K r sv :: bC K r cs :: pC K r pf :: fC K r fa :: Y) H := by rw [hH]; exact hP
  have hS : va_S A st.heap H locs := by rw [hH, hlo]; exact hS
  suffices go : W pr l en (headSpec wsX4_drop ({ frames := 3, cells := 0, slots := 0, locals := 55 } : Room)).room st md ar bl mt co H locs 0 0 (MQ bl (wrQ D (refO r th (nI sn) (nI ln) (nI pm) pn (nI sta) (nI ms) hs :: zC K r T :: sC K r sv :: bC K r cs :: pC K r pf :: fC K r fa :: Y) (if drE T x = 0 then refO r (nI 0) (nI (svN sn)) (nI ln) (nI pm) pn (nI sta) (nI ms) hs :: zC K r (drpT T (tn x)) :: sC K r (savS sv sn T) :: bC K r cs :: pC K r pf :: fC K r fa :: Y else refO r (nI (drE T x)) (nI sn) (nI ln) (nI pm) pn (nI sta) (nI ms) hs :: zC K r T :: sC K r sv :: bC K r cs :: pC K r pf :: fC K r fa :: Y) sz (some (.int (if drE T x = 0 then oI (sqT T (tn x)) else 0)))) ar st 0 0 A) (F0 md 0 ls []) by rw [hH, hlo] at go; exact go
  clear hH hlo
  have F29 : (Cond.fieldLink RX4 29 "TramTollsModel" "thrown" "I").before ar st = true := hts _ (List.mem_of_getElem? (i := 1) rfl)
  have inX4 : ∀ w ∈ u_ws RX4 TX4 13, w ∈ wsX4_drop := fun w h => List.mem_cons_of_mem _ (List.mem_append_right _ h)
  have F7 : (Cond.fieldLink RX4 7 "TramTollsModel" "z" "[I").before ar st = true := hts _ (List.mem_of_getElem? (i := 2) rfl)
  refine lv_aload_n hx hb dX4_drop_0 rfl (lv_at hl 0 rfl) ?_
  refine lv_aload_n hx hb dX4_drop_1 rfl (lv_at hl 0 rfl) ?_
  refine lv_iload_n hx hb dX4_drop_2 rfl (lv_at hl 1 rfl) ?_
  refine rd_V (rest := [.ref (r 0)]) (ci := 4) (q0 := 0) ⟨hx, hb, hml, hown, hts⟩ hP hE (c_X4_isStop_x l D K _ _ _ _ _ _ _ _ _ _ _ x hI) (cwV 1 hts gX4_drop_X4_isStop rfl rfl rfl hd_X4_isStop ⟨Nat.le_of_ble_eq_true rfl, Nat.le_of_ble_eq_true rfl⟩) rfl rfl rfl rfl hl.1 rfl (Nat.le_of_ble_eq_true rfl) dX4_drop_3 ⟨Nat.le_of_ble_eq_true rfl, Nat.le_of_ble_eq_true rfl⟩ ?_
  refine bv_if_eq (x := isS T x) (tgt := 13) hx hb dX4_drop_6 (by decide) (fun c_1 => ?_) (fun c_1 => ?_)
  · refine lv_iconst (v := nI 1) hx hb dX4_drop_13 (by decide) ?_
    refine va_put (D := D) (ci := 4) (v := .int (nI 1)) (ty := .int) (C := RX4) (T := TX4) (N := 13) hx hb hts inX4 tyX4 tyX4_ok nmX4 hown hE.1 hP hD hS 0 rfl rfl 0 (by decide) F29 (fun _ h9 => h9) rfl (by decide +kernel) rfl rfl (Nat.le_of_ble_eq_true rfl) dX4_drop_14 (fun H locs hP hD hS => ?_)
    have hP : va_P D vwCl (refO r (nI 1) (nI sn) (nI ln) (nI pm) pn (nI sta) (nI ms) hs :: zC K r T :: sC K r sv :: bC K r cs :: pC K r pf :: fC K r fa :: Y) H := hP
    have hD : va_D A (refO r (nI 1) (nI sn) (nI ln) (nI pm) pn (nI sta) (nI ms) hs :: zC K r T :: sC K r sv :: bC K r cs :: pC K r pf :: fC K r fa :: Y) := hD
    refine lv_aload_n hx hb dX4_drop_17 rfl (lv_at hl 0 rfl) ?_
    refine va_get (D := D) (ci := 4) (v := .int (nI 1)) (C := RX4) (T := TX4) (N := 13) hx hb hts inX4 hown hE.1 hP 0 rfl rfl 0 (by decide) F29 (fun _ h9 => h9) rfl dX4_drop_18 ?_
    refine nv_if_le (x := 1) (tgt := 26) hx hb dX4_drop_21 (by decide) (by decide) (fun c_2 => ?_) (fun c_2 => ?_)
    · exact absurd c_2 (by decide)
    have n_c_2 : ¬ 1 = 0 := by omega
    refine lv_iconst (v := nI 0) hx hb dX4_drop_24 (by decide) ?_
    have ew : (refO r (nI 1) (nI sn) (nI ln) (nI pm) pn (nI sta) (nI ms) hs :: zC K r T :: sC K r sv :: bC K r cs :: pC K r pf :: fC K r fa :: Y) = (if drE T x = 0 then refO r (nI 0) (nI (svN sn)) (nI ln) (nI pm) pn (nI sta) (nI ms) hs :: zC K r (drpT T (tn x)) :: sC K r (savS sv sn T) :: bC K r cs :: pC K r pf :: fC K r fa :: Y else refO r (nI (drE T x)) (nI sn) (nI ln) (nI pm) pn (nI sta) (nI ms) hs :: zC K r T :: sC K r sv :: bC K r cs :: pC K r pf :: fC K r fa :: Y) := by have e9 : drE T x = 1 := (by first | (simp [drE, c_1, c_2, n_c_2]; done) | (subst_vars; simp [drE, c_1, c_2, n_c_2])); rw [e9]; simp [ni0, bI_t, bI_f, nI_one, setT_eq, c_1, c_2, n_c_2] <;> rfl
    rw [ew] at hP hD
    exact wr_iret hAe hP hD hS hx hb hr hk dX4_drop_25 ⟨Nat.le_of_ble_eq_true rfl, Nat.le_of_ble_eq_true rfl⟩ (by have e9 : drE T x = 1 := (by first | (simp [drE, c_1, c_2, n_c_2]; done) | (subst_vars; simp [drE, c_1, c_2, n_c_2])); rw [e9]; simp [ni0, bI_t, bI_f, nI_one, setT_eq, c_1, c_2, n_c_2] <;> rfl)
  · obtain ⟨s9, lo_s9, hi_s9, e_s9⟩ := inR_nL (a := 0) (b := 11) rfl rfl (by decide) (by decide) (isS_in c_1)
    subst e_s9
    have t_s9 := tn_nI (n := s9) (by omega)
    refine lv_iconst (v := nI 0) hx hb dX4_drop_9 (by decide) ?_
    refine lv_goto (tgt := 14) hx hb dX4_drop_10 (by decide) ?_
    refine va_put (D := D) (ci := 4) (v := .int (nI 0)) (ty := .int) (C := RX4) (T := TX4) (N := 13) hx hb hts inX4 tyX4 tyX4_ok nmX4 hown hE.1 hP hD hS 0 rfl rfl 0 (by decide) F29 (fun _ h9 => h9) rfl (by decide +kernel) rfl rfl (Nat.le_of_ble_eq_true rfl) dX4_drop_14 (fun H locs hP hD hS => ?_)
    have hP : va_P D vwCl (refO r (nI 0) (nI sn) (nI ln) (nI pm) pn (nI sta) (nI ms) hs :: zC K r T :: sC K r sv :: bC K r cs :: pC K r pf :: fC K r fa :: Y) H := hP
    have hD : va_D A (refO r (nI 0) (nI sn) (nI ln) (nI pm) pn (nI sta) (nI ms) hs :: zC K r T :: sC K r sv :: bC K r cs :: pC K r pf :: fC K r fa :: Y) := hD
    refine lv_aload_n hx hb dX4_drop_17 rfl (lv_at hl 0 rfl) ?_
    refine va_get (D := D) (ci := 4) (v := .int (nI 0)) (C := RX4) (T := TX4) (N := 13) hx hb hts inX4 hown hE.1 hP 0 rfl rfl 0 (by decide) F29 (fun _ h9 => h9) rfl dX4_drop_18 ?_
    refine nv_if_le (x := 0) (tgt := 26) hx hb dX4_drop_21 (by decide) (by decide) (fun c_3 => ?_) (fun c_3 => ?_)
    · have n_c_3 : ¬ 0 < 0 := by omega
      refine lv_aload_n hx hb dX4_drop_26 rfl (lv_at hl 0 rfl) ?_
      refine wr_V (rest := []) (ci := 4) (q0 := 0) ⟨hx, hb, hml, hown, hts⟩ hP hE hA hD hS (c_X4_save l D K _ _ _ _ sn _ _ _ _ _ _ _ _ _ _ _ hsn) (cwV 0 hts gX4_drop_X4_save rfl rfl rfl hd_X4_save ⟨Nat.le_of_ble_eq_true rfl, Nat.le_of_ble_eq_true rfl⟩) rfl rfl rfl rfl hl.1 rfl (Nat.le_of_ble_eq_true rfl) dX4_drop_27 ⟨Nat.le_of_ble_eq_true rfl, Nat.le_of_ble_eq_true rfl⟩ (fun H locs hP hD hS => ?_)
      have hP : va_P D vwCl (refO r (nI 0) (nI (svN sn)) (nI ln) (nI pm) pn (nI sta) (nI ms) hs :: zC K r T :: sC K r (savS sv sn T) :: bC K r cs :: pC K r pf :: fC K r fa :: Y) H := hP
      have hD : va_D A (refO r (nI 0) (nI (svN sn)) (nI ln) (nI pm) pn (nI sta) (nI ms) hs :: zC K r T :: sC K r (savS sv sn T) :: bC K r cs :: pC K r pf :: fC K r fa :: Y) := hD
      refine lv_aload_n hx hb dX4_drop_30 rfl (lv_at hl 0 rfl) ?_
      refine lv_iload_n hx hb dX4_drop_31 rfl (lv_at hl 1 rfl) ?_
      refine rd_V (rest := []) (ci := 4) (q0 := 0) ⟨hx, hb, hml, hown, hts⟩ hP hE (c_X4_stopSquare l D K _ _ _ _ _ _ _ _ _ _ _ s9 hI (by omega)) (cwV 1 hts gX4_drop_X4_stopSquare rfl rfl rfl hd_X4_stopSquare ⟨Nat.le_of_ble_eq_true rfl, Nat.le_of_ble_eq_true rfl⟩) rfl rfl rfl rfl hl.1 rfl (Nat.le_of_ble_eq_true rfl) dX4_drop_32 ⟨Nat.le_of_ble_eq_true rfl, Nat.le_of_ble_eq_true rfl⟩ ?_
      refine lv_istore_n (lv' := [(2, .int (oI (sqT T s9))), (0, .ref (r 0)), (1, .int (nI s9))]) hx hb dX4_drop_35 rfl hl (by decide) rfl (fun ls hl => ?_)
      refine lv_aload_n hx hb dX4_drop_36 rfl (lv_at hl 1 rfl) ?_
      refine va_get (D := D) (ci := 4) (v := .ref (r 1)) (C := RX4) (T := TX4) (N := 13) hx hb hts inX4 hown hE.1 hP 0 rfl rfl 1 (by decide) F7 (fun _ h9 => h9) rfl dX4_drop_37 ?_
      refine lv_sipush (v := nI 244) hx hb dX4_drop_40 (by decide) ?_
      refine lv_iconst (v := nI 2) hx hb dX4_drop_43 (by decide) ?_
      refine lv_iload_n hx hb dX4_drop_44 rfl (lv_at hl 2 rfl) ?_
      refine nv_imul (x := 2) (y := s9) hx hb dX4_drop_45 ?_
      refine nv_iadd (x := 244) (y := 2 * s9) hx hb dX4_drop_46 ?_
      refine lv_iconst (v := -1) hx hb dX4_drop_47 (by decide) ?_
      refine va_iast hx hb hE.1 hP hD hS 1 0 rfl rfl (pk_in (244 + (2 * s9)) 288 (by omega)) dX4_drop_48 (fun H locs hP hD hS => ?_)
      rw [pk_cl (244 + (2 * s9))] at hP hD
      rw [show upd (zT T) (244 + (2 * s9)) (-1) = zT (setT T 3 s9 (-1)) from (congrArg (fun k_ => upd (zT T) k_ (-1)) (show 244 + (2 * s9) = 244 + 2 * s9 from by omega)).trans (zU_sq (by omega))] at hP hD
      have hP : va_P D vwCl (refO r (nI 0) (nI (svN sn)) (nI ln) (nI pm) pn (nI sta) (nI ms) hs :: zC K r (setT T 3 s9 (-1)) :: sC K r (savS sv sn T) :: bC K r cs :: pC K r pf :: fC K r fa :: Y) H := hP
      have hD : va_D A (refO r (nI 0) (nI (svN sn)) (nI ln) (nI pm) pn (nI sta) (nI ms) hs :: zC K r (setT T 3 s9 (-1)) :: sC K r (savS sv sn T) :: bC K r cs :: pC K r pf :: fC K r fa :: Y) := hD
      refine lv_aload_n hx hb dX4_drop_49 rfl (lv_at hl 1 rfl) ?_
      refine va_get (D := D) (ci := 4) (v := .ref (r 1)) (C := RX4) (T := TX4) (N := 13) hx hb hts inX4 hown hE.1 hP 0 rfl rfl 1 (by decide) F7 (fun _ h9 => h9) rfl dX4_drop_50 ?_
      refine lv_sipush (v := nI 244) hx hb dX4_drop_53 (by decide) ?_
      refine lv_iconst (v := nI 2) hx hb dX4_drop_56 (by decide) ?_
      refine lv_iload_n hx hb dX4_drop_57 rfl (lv_at hl 2 rfl) ?_
      refine nv_imul (x := 2) (y := s9) hx hb dX4_drop_58 ?_
      refine nv_iadd (x := 244) (y := 2 * s9) hx hb dX4_drop_59 ?_
      refine lv_iconst (v := nI 1) hx hb dX4_drop_60 (by decide) ?_
      refine nv_iadd (x := 244 + (2 * s9)) (y := 1) hx hb dX4_drop_61 ?_
      refine lv_iconst (v := -1) hx hb dX4_drop_62 (by decide) ?_
      refine va_iast hx hb hE.1 hP hD hS 1 0 rfl rfl (pk_in ((244 + (2 * s9)) + 1) 288 (by omega)) dX4_drop_63 (fun H locs hP hD hS => ?_)
      rw [pk_cl ((244 + (2 * s9)) + 1)] at hP hD
      rw [show upd (zT (setT T 3 s9 (-1))) ((244 + (2 * s9)) + 1) (-1) = zT (setT (setT T 3 s9 (-1)) 4 s9 (-1)) from (congrArg (fun k_ => upd (zT (setT T 3 s9 (-1))) k_ (-1)) (show (244 + (2 * s9)) + 1 = 244 + 2 * s9 + 1 from by omega)).trans (zU_pl (by omega))] at hP hD
      have hP : va_P D vwCl (refO r (nI 0) (nI (svN sn)) (nI ln) (nI pm) pn (nI sta) (nI ms) hs :: zC K r (setT (setT T 3 s9 (-1)) 4 s9 (-1)) :: sC K r (savS sv sn T) :: bC K r cs :: pC K r pf :: fC K r fa :: Y) H := hP
      have hD : va_D A (refO r (nI 0) (nI (svN sn)) (nI ln) (nI pm) pn (nI sta) (nI ms) hs :: zC K r (setT (setT T 3 s9 (-1)) 4 s9 (-1)) :: sC K r (savS sv sn T) :: bC K r cs :: pC K r pf :: fC K r fa :: Y) := hD
      refine lv_iload_n hx hb dX4_drop_64 rfl (lv_at hl 0 rfl) ?_
      have ew : (refO r (nI 0) (nI (svN sn)) (nI ln) (nI pm) pn (nI sta) (nI ms) hs :: zC K r (setT (setT T 3 s9 (-1)) 4 s9 (-1)) :: sC K r (savS sv sn T) :: bC K r cs :: pC K r pf :: fC K r fa :: Y) = (if drE T (nI s9) = 0 then refO r (nI 0) (nI (svN sn)) (nI ln) (nI pm) pn (nI sta) (nI ms) hs :: zC K r (drpT T (tn (nI s9))) :: sC K r (savS sv sn T) :: bC K r cs :: pC K r pf :: fC K r fa :: Y else refO r (nI (drE T (nI s9))) (nI sn) (nI ln) (nI pm) pn (nI sta) (nI ms) hs :: zC K r T :: sC K r sv :: bC K r cs :: pC K r pf :: fC K r fa :: Y) := by have e9 : drE T (nI s9) = 0 := (by first | (simp [drE, c_1, t_s9, c_3, n_c_3]; done) | (subst_vars; simp [drE, c_1, t_s9, c_3, n_c_3])); rw [e9]; simp [ni0, bI_t, bI_f, nI_one, setT_eq, c_1, t_s9, c_3, n_c_3] <;> rfl
      rw [ew] at hP hD
      exact wr_iret hAe hP hD hS hx hb hr hk dX4_drop_65 ⟨Nat.le_of_ble_eq_true rfl, Nat.le_of_ble_eq_true rfl⟩ (by have e9 : drE T (nI s9) = 0 := (by first | (simp [drE, c_1, t_s9, c_3, n_c_3]; done) | (subst_vars; simp [drE, c_1, t_s9, c_3, n_c_3])); rw [e9]; simp [ni0, bI_t, bI_f, nI_one, setT_eq, c_1, t_s9, c_3, n_c_3] <;> rfl)
    exact absurd c_3 (by decide)
