theorem hd_X4_square : yX4_square.cls = RX4 ∧ yX4_square.cls ≠ "java/lang/invoke/MethodHandle" ∧ yX4_square.cls ≠ "java/lang/invoke/VarHandle" ∧ (parseMethodDescriptor yX4_square.desc).map (fun d => d.parameters.length) = some 2 := by decide +kernel
theorem hn_X4_square : yX4_square.cls ≠ "java/lang/invoke/MethodHandle" ∧ yX4_square.cls ≠ "java/lang/invoke/VarHandle" ∧ (parseMethodDescriptor yX4_square.desc).map (fun d => d.parameters.length) = some 2 := hd_X4_square.2
theorem hd_X4_stopOf : yX4_stopOf.cls = RX4 ∧ yX4_stopOf.cls ≠ "java/lang/invoke/MethodHandle" ∧ yX4_stopOf.cls ≠ "java/lang/invoke/VarHandle" ∧ (parseMethodDescriptor yX4_stopOf.desc).map (fun d => d.parameters.length) = some 2 := by decide +kernel
theorem hn_X4_stopOf : yX4_stopOf.cls ≠ "java/lang/invoke/MethodHandle" ∧ yX4_stopOf.cls ≠ "java/lang/invoke/VarHandle" ∧ (parseMethodDescriptor yX4_stopOf.desc).map (fun d => d.parameters.length) = some 2 := hd_X4_stopOf.2
theorem hd_X4_player : yX4_player.cls = RX4 ∧ yX4_player.cls ≠ "java/lang/invoke/MethodHandle" ∧ yX4_player.cls ≠ "java/lang/invoke/VarHandle" ∧ (parseMethodDescriptor yX4_player.desc).map (fun d => d.parameters.length) = some 2 := by decide +kernel
theorem hn_X4_player : yX4_player.cls ≠ "java/lang/invoke/MethodHandle" ∧ yX4_player.cls ≠ "java/lang/invoke/VarHandle" ∧ (parseMethodDescriptor yX4_player.desc).map (fun d => d.parameters.length) = some 2 := hd_X4_player.2
theorem hd_X4_count : yX4_count.cls = RX4 ∧ yX4_count.cls ≠ "java/lang/invoke/MethodHandle" ∧ yX4_count.cls ≠ "java/lang/invoke/VarHandle" ∧ (parseMethodDescriptor yX4_count.desc).map (fun d => d.parameters.length) = some 1 := by decide +kernel
theorem hn_X4_count : yX4_count.cls ≠ "java/lang/invoke/MethodHandle" ∧ yX4_count.cls ≠ "java/lang/invoke/VarHandle" ∧ (parseMethodDescriptor yX4_count.desc).map (fun d => d.parameters.length) = some 1 := hd_X4_count.2
theorem hd_X4_setting : yX4_setting.cls = RX4 ∧ yX4_setting.cls ≠ "java/lang/invoke/MethodHandle" ∧ yX4_setting.cls ≠ "java/lang/invoke/VarHandle" ∧ (parseMethodDescriptor yX4_setting.desc).map (fun d => d.parameters.length) = some 1 := by decide +kernel
theorem hn_X4_setting : yX4_setting.cls ≠ "java/lang/invoke/MethodHandle" ∧ yX4_setting.cls ≠ "java/lang/invoke/VarHandle" ∧ (parseMethodDescriptor yX4_setting.desc).map (fun d => d.parameters.length) = some 1 := hd_X4_setting.2
set_option maxHeartbeats 4000000 in
set_option maxRecDepth 100000 in
theorem c_X4_square (l : Launch) (D : va_G) (K : Nat → ClassId) (sz : Nat) (r : Nat → Nat) (th pn : Int32) (sn ln pm sta ms : Nat) (hs : Int64) (T : TW) (sv : Nat → Int32) (cs : Nat → Nat) (pf : Nat → Int32) (fa : Nat → Nat) (Y : va_W) (x w9 : Int32) (hI : Inv T) : Wr l yX4_square wsX4_square ({ frames := 4, cells := 0, slots := 0, locals := 79 } : Room) D K (refO r th (nI sn) (nI ln) (nI pm) pn (nI sta) (nI ms) hs :: zC K r T :: sC K r sv :: bC K r cs :: pC K r pf :: fC K r fa :: Y) sz [.ref (r 0), .int x, .int w9] (if q2 0 79 0 3 x w9 = 0 then refO r (nI 0) (nI sn) (nI ln) (nI pm) pn (nI sta) (nI ms) hs :: zC K r T :: sC K r sv :: bC K r cs :: pC K r pf :: fC K r fa :: Y else refO r (nI (q2 0 79 0 3 x w9)) (nI sn) (nI ln) (nI pm) pn (nI sta) (nI ms) hs :: zC K r T :: sC K r sv :: bC K r cs :: pC K r pf :: fC K r fa :: Y) (some (.int (if q2 0 79 0 3 x w9 = 0 then psT T (tn x) (tn w9) else 0))) 0 0 := by
  refine wr_intro (cc := cX4_square) (maxL := 3) (ret := (some .int)) (by decide) rfl (Nat.le_of_ble_eq_true rfl) ?_
  intro pr en st md ar bl mt co A hx hb hml hr hts hown hk hsz hAe hP hE hD hS hA hin ls hl
  have hown : st.vm.findClass RX4 = some md.cls := hown
  have hl : lv_has ls 3 [(0, .ref (r 0)), (1, .int x), (2, .int w9)] := hl
  obtain ⟨H, hH⟩ : ∃ z, z = st.heap := ⟨_, rfl⟩
  obtain ⟨locs, hlo⟩ : ∃ z : List Loc, z = [] := ⟨_, rfl⟩
  have hP : va_P D vwCl (refO r th (nI sn) (nI ln) (nI pm) pn (nI sta) (nI ms) hs :: zC K r T :: sC K r sv :: bC K r cs :: pC K r pf :: fC K r fa :: Y) H := by rw [hH]; exact hP
  have hS : va_S A st.heap H locs := by rw [hH, hlo]; exact hS
  suffices go : W pr l en (headSpec wsX4_square ({ frames := 4, cells := 0, slots := 0, locals := 79 } : Room)).room st md ar bl mt co H locs 0 0 (MQ bl (wrQ D (refO r th (nI sn) (nI ln) (nI pm) pn (nI sta) (nI ms) hs :: zC K r T :: sC K r sv :: bC K r cs :: pC K r pf :: fC K r fa :: Y) (if q2 0 79 0 3 x w9 = 0 then refO r (nI 0) (nI sn) (nI ln) (nI pm) pn (nI sta) (nI ms) hs :: zC K r T :: sC K r sv :: bC K r cs :: pC K r pf :: fC K r fa :: Y else refO r (nI (q2 0 79 0 3 x w9)) (nI sn) (nI ln) (nI pm) pn (nI sta) (nI ms) hs :: zC K r T :: sC K r sv :: bC K r cs :: pC K r pf :: fC K r fa :: Y) sz (some (.int (if q2 0 79 0 3 x w9 = 0 then psT T (tn x) (tn w9) else 0)))) ar st 0 0 A) (F0 md 0 ls []) by rw [hH, hlo] at go; exact go
  clear hH hlo
  have F29 : (Cond.fieldLink RX4 29 "TramTollsModel" "thrown" "I").before ar st = true := hts _ (List.mem_of_getElem? (i := 1) rfl)
  have inX4 : ∀ w ∈ u_ws RX4 TX4 13, w ∈ wsX4_square := fun w h => List.mem_cons_of_mem _ (List.mem_append_right _ h)
  refine lv_aload_n hx hb dX4_square_0 rfl (lv_at hl 0 rfl) ?_
  refine lv_iload_n hx hb dX4_square_1 rfl (lv_at hl 1 rfl) ?_
  refine rd_S (rest := [.ref (r 0)]) ⟨hx, hb, hml, hown, hts⟩ hP hE (c_X4_isSquare l D K _ x) (va_cwS 1 hts gX4_square_X4_isSquare rfl rfl rfl hn_X4_isSquare ⟨Nat.le_of_ble_eq_true rfl, Nat.le_of_ble_eq_true rfl⟩) rfl hl.1 rfl (Nat.le_of_ble_eq_true rfl) dX4_square_2 ⟨Nat.le_of_ble_eq_true rfl, Nat.le_of_ble_eq_true rfl⟩ ?_
  refine bv_if_ne (x := inR 0 79 x) (tgt := 12) hx hb dX4_square_5 (by decide) (fun c_1 => ?_) (fun c_1 => ?_)
  · obtain ⟨s9, lo_s9, hi_s9, e_s9⟩ := inR_nL (a := 0) (b := 79) rfl rfl (by decide) (by decide) c_1
    subst e_s9
    have t_s9 := tn_nI (n := s9) (by omega)
    refine lv_iload_n hx hb dX4_square_12 rfl (lv_at hl 2 rfl) ?_
    refine lv_iconst (v := nI 0) hx hb dX4_square_13 (by decide) ?_
    refine lv_iconst (v := nI 3) hx hb dX4_square_14 (by decide) ?_
    refine rd_S (rest := [.ref (r 0)]) ⟨hx, hb, hml, hown, hts⟩ hP hE (c_X4_in l D K _ w9 0 3) (va_cwS 3 hts gX4_square_X4_in rfl rfl rfl hn_X4_in ⟨Nat.le_of_ble_eq_true rfl, Nat.le_of_ble_eq_true rfl⟩) rfl hl.1 rfl (Nat.le_of_ble_eq_true rfl) dX4_square_15 ⟨Nat.le_of_ble_eq_true rfl, Nat.le_of_ble_eq_true rfl⟩ ?_
    refine bv_if_eq (x := inR 0 3 w9) (tgt := 25) hx hb dX4_square_18 (by decide) (fun c_2 => ?_) (fun c_2 => ?_)
    · refine lv_iconst (v := nI 2) hx hb dX4_square_25 (by decide) ?_
      refine va_put (D := D) (ci := 4) (v := .int (nI 2)) (ty := .int) (C := RX4) (T := TX4) (N := 13) hx hb hts inX4 tyX4 tyX4_ok nmX4 hown hE.1 hP hD hS 0 rfl rfl 0 (by decide) F29 (fun _ h9 => h9) rfl (by decide +kernel) rfl rfl (Nat.le_of_ble_eq_true rfl) dX4_square_26 (fun H locs hP hD hS => ?_)
      have hP : va_P D vwCl (refO r (nI 2) (nI sn) (nI ln) (nI pm) pn (nI sta) (nI ms) hs :: zC K r T :: sC K r sv :: bC K r cs :: pC K r pf :: fC K r fa :: Y) H := hP
      have hD : va_D A (refO r (nI 2) (nI sn) (nI ln) (nI pm) pn (nI sta) (nI ms) hs :: zC K r T :: sC K r sv :: bC K r cs :: pC K r pf :: fC K r fa :: Y) := hD
      refine lv_aload_n hx hb dX4_square_29 rfl (lv_at hl 0 rfl) ?_
      refine va_get (D := D) (ci := 4) (v := .int (nI 2)) (C := RX4) (T := TX4) (N := 13) hx hb hts inX4 hown hE.1 hP 0 rfl rfl 0 (by decide) F29 (fun _ h9 => h9) rfl dX4_square_30 ?_
      refine nv_if_le (x := 2) (tgt := 40) hx hb dX4_square_33 (by decide) (by decide) (fun c_3 => ?_) (fun c_3 => ?_)
      · exact absurd c_3 (by decide)
      have n_c_3 : ¬ 2 = 0 := by omega
      refine lv_iconst (v := nI 0) hx hb dX4_square_36 (by decide) ?_
      refine lv_goto (tgt := 46) hx hb dX4_square_37 (by decide) ?_
      have ew : (refO r (nI 2) (nI sn) (nI ln) (nI pm) pn (nI sta) (nI ms) hs :: zC K r T :: sC K r sv :: bC K r cs :: pC K r pf :: fC K r fa :: Y) = (if q2 0 79 0 3 (nI s9) w9 = 0 then refO r (nI 0) (nI sn) (nI ln) (nI pm) pn (nI sta) (nI ms) hs :: zC K r T :: sC K r sv :: bC K r cs :: pC K r pf :: fC K r fa :: Y else refO r (nI (q2 0 79 0 3 (nI s9) w9)) (nI sn) (nI ln) (nI pm) pn (nI sta) (nI ms) hs :: zC K r T :: sC K r sv :: bC K r cs :: pC K r pf :: fC K r fa :: Y) := by have e9 : q2 0 79 0 3 (nI s9) w9 = 2 := (by first | (simp [q2, c_1, t_s9, c_2, c_3, n_c_3]; done) | (subst_vars; simp [q2, c_1, t_s9, c_2, c_3, n_c_3])); rw [e9]; simp [ni0, bI_t, bI_f, nI_one, setT_eq, c_1, t_s9, c_2, c_3, n_c_3] <;> rfl
      rw [ew] at hP hD
      exact wr_iret hAe hP hD hS hx hb hr hk dX4_square_46 ⟨Nat.le_of_ble_eq_true rfl, Nat.le_of_ble_eq_true rfl⟩ (by have e9 : q2 0 79 0 3 (nI s9) w9 = 2 := (by first | (simp [q2, c_1, t_s9, c_2, c_3, n_c_3]; done) | (subst_vars; simp [q2, c_1, t_s9, c_2, c_3, n_c_3])); rw [e9]; simp [ni0, bI_t, bI_f, nI_one, setT_eq, c_1, t_s9, c_2, c_3, n_c_3] <;> rfl)
    · obtain ⟨k9, lo_k9, hi_k9, e_k9⟩ := inR_nL (a := 0) (b := 3) rfl rfl (by decide) (by decide) c_2
      subst e_k9
      have t_k9 := tn_nI (n := k9) (by omega)
      refine lv_iconst (v := nI 0) hx hb dX4_square_21 (by decide) ?_
      refine lv_goto (tgt := 26) hx hb dX4_square_22 (by decide) ?_
      refine va_put (D := D) (ci := 4) (v := .int (nI 0)) (ty := .int) (C := RX4) (T := TX4) (N := 13) hx hb hts inX4 tyX4 tyX4_ok nmX4 hown hE.1 hP hD hS 0 rfl rfl 0 (by decide) F29 (fun _ h9 => h9) rfl (by decide +kernel) rfl rfl (Nat.le_of_ble_eq_true rfl) dX4_square_26 (fun H locs hP hD hS => ?_)
      have hP : va_P D vwCl (refO r (nI 0) (nI sn) (nI ln) (nI pm) pn (nI sta) (nI ms) hs :: zC K r T :: sC K r sv :: bC K r cs :: pC K r pf :: fC K r fa :: Y) H := hP
      have hD : va_D A (refO r (nI 0) (nI sn) (nI ln) (nI pm) pn (nI sta) (nI ms) hs :: zC K r T :: sC K r sv :: bC K r cs :: pC K r pf :: fC K r fa :: Y) := hD
      refine lv_aload_n hx hb dX4_square_29 rfl (lv_at hl 0 rfl) ?_
      refine va_get (D := D) (ci := 4) (v := .int (nI 0)) (C := RX4) (T := TX4) (N := 13) hx hb hts inX4 hown hE.1 hP 0 rfl rfl 0 (by decide) F29 (fun _ h9 => h9) rfl dX4_square_30 ?_
      refine nv_if_le (x := 0) (tgt := 40) hx hb dX4_square_33 (by decide) (by decide) (fun c_4 => ?_) (fun c_4 => ?_)
      · have n_c_4 : ¬ 0 < 0 := by omega
        refine lv_aload_n hx hb dX4_square_40 rfl (lv_at hl 0 rfl) ?_
        refine lv_iload_n hx hb dX4_square_41 rfl (lv_at hl 1 rfl) ?_
        refine lv_iload_n hx hb dX4_square_42 rfl (lv_at hl 2 rfl) ?_
        refine rd_V (rest := []) (ci := 4) (q0 := 0) ⟨hx, hb, hml, hown, hts⟩ hP hE (c_X4_toldSquare l D K _ _ _ _ _ _ _ _ _ _ _ s9 k9 hI (by omega) (by omega)) (cwV 2 hts gX4_square_X4_toldSquare rfl rfl rfl hd_X4_toldSquare ⟨Nat.le_of_ble_eq_true rfl, Nat.le_of_ble_eq_true rfl⟩) rfl rfl rfl rfl hl.1 rfl (Nat.le_of_ble_eq_true rfl) dX4_square_43 ⟨Nat.le_of_ble_eq_true rfl, Nat.le_of_ble_eq_true rfl⟩ ?_
        have ew : (refO r (nI 0) (nI sn) (nI ln) (nI pm) pn (nI sta) (nI ms) hs :: zC K r T :: sC K r sv :: bC K r cs :: pC K r pf :: fC K r fa :: Y) = (if q2 0 79 0 3 (nI s9) (nI k9) = 0 then refO r (nI 0) (nI sn) (nI ln) (nI pm) pn (nI sta) (nI ms) hs :: zC K r T :: sC K r sv :: bC K r cs :: pC K r pf :: fC K r fa :: Y else refO r (nI (q2 0 79 0 3 (nI s9) (nI k9))) (nI sn) (nI ln) (nI pm) pn (nI sta) (nI ms) hs :: zC K r T :: sC K r sv :: bC K r cs :: pC K r pf :: fC K r fa :: Y) := by have e9 : q2 0 79 0 3 (nI s9) (nI k9) = 0 := (by first | (simp [q2, c_1, t_s9, c_2, t_k9, c_4, n_c_4]; done) | (subst_vars; simp [q2, c_1, t_s9, c_2, t_k9, c_4, n_c_4])); rw [e9]; simp [ni0, bI_t, bI_f, nI_one, setT_eq, c_1, t_s9, c_2, t_k9, c_4, n_c_4] <;> rfl
        rw [ew] at hP hD
        exact wr_iret hAe hP hD hS hx hb hr hk dX4_square_46 ⟨Nat.le_of_ble_eq_true rfl, Nat.le_of_ble_eq_true rfl⟩ (by have e9 : q2 0 79 0 3 (nI s9) (nI k9) = 0 := (by first | (simp [q2, c_1, t_s9, c_2, t_k9, c_4, n_c_4]; done) | (subst_vars; simp [q2, c_1, t_s9, c_2, t_k9, c_4, n_c_4])); rw [e9]; simp [ni0, bI_t, bI_f, nI_one, setT_eq, c_1, t_s9, c_2, t_k9, c_4, n_c_4] <;> rfl)
      exact absurd c_4 (by decide)
  · refine lv_iconst (v := nI 1) hx hb dX4_square_8 (by decide) ?_
    refine lv_goto (tgt := 26) hx hb dX4_square_9 (by decide) ?_
    refine va_put (D := D) (ci := 4) (v := .int (nI 1)) (ty := .int) (C := RX4) (T := TX4) (N := 13) hx hb hts inX4 tyX4 tyX4_ok nmX4 hown hE.1 hP hD hS 0 rfl rfl 0 (by decide) F29 (fun _ h9 => h9) rfl (by decide +kernel) rfl rfl (Nat.le_of_ble_eq_true rfl) dX4_square_26 (fun H locs hP hD hS => ?_)
    have hP : va_P D vwCl (refO r (nI 1) (nI sn) (nI ln) (nI pm) pn (nI sta) (nI ms) hs :: zC K r T :: sC K r sv :: bC K r cs :: pC K r pf :: fC K r fa :: Y) H := hP
    have hD : va_D A (refO r (nI 1) (nI sn) (nI ln) (nI pm) pn (nI sta) (nI ms) hs :: zC K r T :: sC K r sv :: bC K r cs :: pC K r pf :: fC K r fa :: Y) := hD
    refine lv_aload_n hx hb dX4_square_29 rfl (lv_at hl 0 rfl) ?_
    refine va_get (D := D) (ci := 4) (v := .int (nI 1)) (C := RX4) (T := TX4) (N := 13) hx hb hts inX4 hown hE.1 hP 0 rfl rfl 0 (by decide) F29 (fun _ h9 => h9) rfl dX4_square_30 ?_
    refine nv_if_le (x := 1) (tgt := 40) hx hb dX4_square_33 (by decide) (by decide) (fun c_5 => ?_) (fun c_5 => ?_)
    · exact absurd c_5 (by decide)
    have n_c_5 : ¬ 1 = 0 := by omega
    refine lv_iconst (v := nI 0) hx hb dX4_square_36 (by decide) ?_
    refine lv_goto (tgt := 46) hx hb dX4_square_37 (by decide) ?_
    have ew : (refO r (nI 1) (nI sn) (nI ln) (nI pm) pn (nI sta) (nI ms) hs :: zC K r T :: sC K r sv :: bC K r cs :: pC K r pf :: fC K r fa :: Y) = (if q2 0 79 0 3 x w9 = 0 then refO r (nI 0) (nI sn) (nI ln) (nI pm) pn (nI sta) (nI ms) hs :: zC K r T :: sC K r sv :: bC K r cs :: pC K r pf :: fC K r fa :: Y else refO r (nI (q2 0 79 0 3 x w9)) (nI sn) (nI ln) (nI pm) pn (nI sta) (nI ms) hs :: zC K r T :: sC K r sv :: bC K r cs :: pC K r pf :: fC K r fa :: Y) := by have e9 : q2 0 79 0 3 x w9 = 1 := (by first | (simp [q2, c_1, c_5, n_c_5]; done) | (subst_vars; simp [q2, c_1, c_5, n_c_5])); rw [e9]; simp [ni0, bI_t, bI_f, nI_one, setT_eq, c_1, c_5, n_c_5] <;> rfl
    rw [ew] at hP hD
    exact wr_iret hAe hP hD hS hx hb hr hk dX4_square_46 ⟨Nat.le_of_ble_eq_true rfl, Nat.le_of_ble_eq_true rfl⟩ (by have e9 : q2 0 79 0 3 x w9 = 1 := (by first | (simp [q2, c_1, c_5, n_c_5]; done) | (subst_vars; simp [q2, c_1, c_5, n_c_5])); rw [e9]; simp [ni0, bI_t, bI_f, nI_one, setT_eq, c_1, c_5, n_c_5] <;> rfl)
set_option maxHeartbeats 4000000 in
set_option maxRecDepth 100000 in
theorem c_X4_stopOf (l : Launch) (D : va_G) (K : Nat → ClassId) (sz : Nat) (r : Nat → Nat) (th pn : Int32) (sn ln pm sta ms : Nat) (hs : Int64) (T : TW) (sv : Nat → Int32) (cs : Nat → Nat) (pf : Nat → Int32) (fa : Nat → Nat) (Y : va_W) (x w9 : Int32) (hI : Inv T) : Wr l yX4_stopOf wsX4_stopOf ({ frames := 4, cells := 0, slots := 0, locals := 77 } : Room) D K (refO r th (nI sn) (nI ln) (nI pm) pn (nI sta) (nI ms) hs :: zC K r T :: sC K r sv :: bC K r cs :: pC K r pf :: fC K r fa :: Y) sz [.ref (r 0), .int x, .int w9] (if q2 0 11 0 2 x w9 = 0 then refO r (nI 0) (nI sn) (nI ln) (nI pm) pn (nI sta) (nI ms) hs :: zC K r T :: sC K r sv :: bC K r cs :: pC K r pf :: fC K r fa :: Y else refO r (nI (q2 0 11 0 2 x w9)) (nI sn) (nI ln) (nI pm) pn (nI sta) (nI ms) hs :: zC K r T :: sC K r sv :: bC K r cs :: pC K r pf :: fC K r fa :: Y) (some (.int (if q2 0 11 0 2 x w9 = 0 then ptT T (tn x) (tn w9) else 0))) 0 0 := by
  refine wr_intro (cc := cX4_stopOf) (maxL := 3) (ret := (some .int)) (by decide) rfl (Nat.le_of_ble_eq_true rfl) ?_
  intro pr en st md ar bl mt co A hx hb hml hr hts hown hk hsz hAe hP hE hD hS hA hin ls hl
  have hown : st.vm.findClass RX4 = some md.cls := hown
  have hl : lv_has ls 3 [(0, .ref (r 0)), (1, .int x), (2, .int w9)] := hl
  obtain ⟨H, hH⟩ : ∃ z, z = st.heap := ⟨_, rfl⟩
  obtain ⟨locs, hlo⟩ : ∃ z : List Loc, z = [] := ⟨_, rfl⟩
  have hP : va_P D vwCl (refO r th (nI sn) (nI ln) (nI pm) pn (nI sta) (nI ms) hs :: zC K r T :: sC K r sv :: bC K r cs :: pC K r pf :: fC K r fa :: Y) H := by rw [hH]; exact hP
  have hS : va_S A st.heap H locs := by rw [hH, hlo]; exact hS
  suffices go : W pr l en (headSpec wsX4_stopOf ({ frames := 4, cells := 0, slots := 0, locals := 77 } : Room)).room st md ar bl mt co H locs 0 0 (MQ bl (wrQ D (refO r th (nI sn) (nI ln) (nI pm) pn (nI sta) (nI ms) hs :: zC K r T :: sC K r sv :: bC K r cs :: pC K r pf :: fC K r fa :: Y) (if q2 0 11 0 2 x w9 = 0 then refO r (nI 0) (nI sn) (nI ln) (nI pm) pn (nI sta) (nI ms) hs :: zC K r T :: sC K r sv :: bC K r cs :: pC K r pf :: fC K r fa :: Y else refO r (nI (q2 0 11 0 2 x w9)) (nI sn) (nI ln) (nI pm) pn (nI sta) (nI ms) hs :: zC K r T :: sC K r sv :: bC K r cs :: pC K r pf :: fC K r fa :: Y) sz (some (.int (if q2 0 11 0 2 x w9 = 0 then ptT T (tn x) (tn w9) else 0)))) ar st 0 0 A) (F0 md 0 ls []) by rw [hH, hlo] at go; exact go
  clear hH hlo
  have F29 : (Cond.fieldLink RX4 29 "TramTollsModel" "thrown" "I").before ar st = true := hts _ (List.mem_of_getElem? (i := 1) rfl)
  have inX4 : ∀ w ∈ u_ws RX4 TX4 13, w ∈ wsX4_stopOf := fun w h => List.mem_cons_of_mem _ (List.mem_append_right _ h)
  refine lv_aload_n hx hb dX4_stopOf_0 rfl (lv_at hl 0 rfl) ?_
  refine lv_iload_n hx hb dX4_stopOf_1 rfl (lv_at hl 1 rfl) ?_
  refine lv_iconst (v := nI 0) hx hb dX4_stopOf_2 (by decide) ?_
  refine lv_bipush (v := nI 11) hx hb dX4_stopOf_3 (by decide) ?_
  refine rd_S (rest := [.ref (r 0)]) ⟨hx, hb, hml, hown, hts⟩ hP hE (c_X4_in l D K _ x 0 11) (va_cwS 3 hts gX4_stopOf_X4_in rfl rfl rfl hn_X4_in ⟨Nat.le_of_ble_eq_true rfl, Nat.le_of_ble_eq_true rfl⟩) rfl hl.1 rfl (Nat.le_of_ble_eq_true rfl) dX4_stopOf_5 ⟨Nat.le_of_ble_eq_true rfl, Nat.le_of_ble_eq_true rfl⟩ ?_
  refine bv_if_ne (x := inR 0 11 x) (tgt := 15) hx hb dX4_stopOf_8 (by decide) (fun c_1 => ?_) (fun c_1 => ?_)
  · obtain ⟨s9, lo_s9, hi_s9, e_s9⟩ := inR_nL (a := 0) (b := 11) rfl rfl (by decide) (by decide) c_1
    subst e_s9
    have t_s9 := tn_nI (n := s9) (by omega)
    refine lv_iload_n hx hb dX4_stopOf_15 rfl (lv_at hl 2 rfl) ?_
    refine lv_iconst (v := nI 0) hx hb dX4_stopOf_16 (by decide) ?_
    refine lv_iconst (v := nI 2) hx hb dX4_stopOf_17 (by decide) ?_
    refine rd_S (rest := [.ref (r 0)]) ⟨hx, hb, hml, hown, hts⟩ hP hE (c_X4_in l D K _ w9 0 2) (va_cwS 3 hts gX4_stopOf_X4_in rfl rfl rfl hn_X4_in ⟨Nat.le_of_ble_eq_true rfl, Nat.le_of_ble_eq_true rfl⟩) rfl hl.1 rfl (Nat.le_of_ble_eq_true rfl) dX4_stopOf_18 ⟨Nat.le_of_ble_eq_true rfl, Nat.le_of_ble_eq_true rfl⟩ ?_
    refine bv_if_eq (x := inR 0 2 w9) (tgt := 28) hx hb dX4_stopOf_21 (by decide) (fun c_2 => ?_) (fun c_2 => ?_)
    · refine lv_iconst (v := nI 2) hx hb dX4_stopOf_28 (by decide) ?_
      refine va_put (D := D) (ci := 4) (v := .int (nI 2)) (ty := .int) (C := RX4) (T := TX4) (N := 13) hx hb hts inX4 tyX4 tyX4_ok nmX4 hown hE.1 hP hD hS 0 rfl rfl 0 (by decide) F29 (fun _ h9 => h9) rfl (by decide +kernel) rfl rfl (Nat.le_of_ble_eq_true rfl) dX4_stopOf_29 (fun H locs hP hD hS => ?_)
      have hP : va_P D vwCl (refO r (nI 2) (nI sn) (nI ln) (nI pm) pn (nI sta) (nI ms) hs :: zC K r T :: sC K r sv :: bC K r cs :: pC K r pf :: fC K r fa :: Y) H := hP
      have hD : va_D A (refO r (nI 2) (nI sn) (nI ln) (nI pm) pn (nI sta) (nI ms) hs :: zC K r T :: sC K r sv :: bC K r cs :: pC K r pf :: fC K r fa :: Y) := hD
      refine lv_aload_n hx hb dX4_stopOf_32 rfl (lv_at hl 0 rfl) ?_
      refine va_get (D := D) (ci := 4) (v := .int (nI 2)) (C := RX4) (T := TX4) (N := 13) hx hb hts inX4 hown hE.1 hP 0 rfl rfl 0 (by decide) F29 (fun _ h9 => h9) rfl dX4_stopOf_33 ?_
      refine nv_if_le (x := 2) (tgt := 43) hx hb dX4_stopOf_36 (by decide) (by decide) (fun c_3 => ?_) (fun c_3 => ?_)
      · exact absurd c_3 (by decide)
      have n_c_3 : ¬ 2 = 0 := by omega
      refine lv_iconst (v := nI 0) hx hb dX4_stopOf_39 (by decide) ?_
      refine lv_goto (tgt := 49) hx hb dX4_stopOf_40 (by decide) ?_
      have ew : (refO r (nI 2) (nI sn) (nI ln) (nI pm) pn (nI sta) (nI ms) hs :: zC K r T :: sC K r sv :: bC K r cs :: pC K r pf :: fC K r fa :: Y) = (if q2 0 11 0 2 (nI s9) w9 = 0 then refO r (nI 0) (nI sn) (nI ln) (nI pm) pn (nI sta) (nI ms) hs :: zC K r T :: sC K r sv :: bC K r cs :: pC K r pf :: fC K r fa :: Y else refO r (nI (q2 0 11 0 2 (nI s9) w9)) (nI sn) (nI ln) (nI pm) pn (nI sta) (nI ms) hs :: zC K r T :: sC K r sv :: bC K r cs :: pC K r pf :: fC K r fa :: Y) := by have e9 : q2 0 11 0 2 (nI s9) w9 = 2 := (by first | (simp [q2, c_1, t_s9, c_2, c_3, n_c_3]; done) | (subst_vars; simp [q2, c_1, t_s9, c_2, c_3, n_c_3])); rw [e9]; simp [ni0, bI_t, bI_f, nI_one, setT_eq, c_1, t_s9, c_2, c_3, n_c_3] <;> rfl
      rw [ew] at hP hD
      exact wr_iret hAe hP hD hS hx hb hr hk dX4_stopOf_49 ⟨Nat.le_of_ble_eq_true rfl, Nat.le_of_ble_eq_true rfl⟩ (by have e9 : q2 0 11 0 2 (nI s9) w9 = 2 := (by first | (simp [q2, c_1, t_s9, c_2, c_3, n_c_3]; done) | (subst_vars; simp [q2, c_1, t_s9, c_2, c_3, n_c_3])); rw [e9]; simp [ni0, bI_t, bI_f, nI_one, setT_eq, c_1, t_s9, c_2, c_3, n_c_3] <;> rfl)
    · obtain ⟨k9, lo_k9, hi_k9, e_k9⟩ := inR_nL (a := 0) (b := 2) rfl rfl (by decide) (by decide) c_2
      subst e_k9
      have t_k9 := tn_nI (n := k9) (by omega)
      refine lv_iconst (v := nI 0) hx hb dX4_stopOf_24 (by decide) ?_
      refine lv_goto (tgt := 29) hx hb dX4_stopOf_25 (by decide) ?_
      refine va_put (D := D) (ci := 4) (v := .int (nI 0)) (ty := .int) (C := RX4) (T := TX4) (N := 13) hx hb hts inX4 tyX4 tyX4_ok nmX4 hown hE.1 hP hD hS 0 rfl rfl 0 (by decide) F29 (fun _ h9 => h9) rfl (by decide +kernel) rfl rfl (Nat.le_of_ble_eq_true rfl) dX4_stopOf_29 (fun H locs hP hD hS => ?_)
      have hP : va_P D vwCl (refO r (nI 0) (nI sn) (nI ln) (nI pm) pn (nI sta) (nI ms) hs :: zC K r T :: sC K r sv :: bC K r cs :: pC K r pf :: fC K r fa :: Y) H := hP
      have hD : va_D A (refO r (nI 0) (nI sn) (nI ln) (nI pm) pn (nI sta) (nI ms) hs :: zC K r T :: sC K r sv :: bC K r cs :: pC K r pf :: fC K r fa :: Y) := hD
      refine lv_aload_n hx hb dX4_stopOf_32 rfl (lv_at hl 0 rfl) ?_
      refine va_get (D := D) (ci := 4) (v := .int (nI 0)) (C := RX4) (T := TX4) (N := 13) hx hb hts inX4 hown hE.1 hP 0 rfl rfl 0 (by decide) F29 (fun _ h9 => h9) rfl dX4_stopOf_33 ?_
      refine nv_if_le (x := 0) (tgt := 43) hx hb dX4_stopOf_36 (by decide) (by decide) (fun c_4 => ?_) (fun c_4 => ?_)
      · have n_c_4 : ¬ 0 < 0 := by omega
        refine lv_aload_n hx hb dX4_stopOf_43 rfl (lv_at hl 0 rfl) ?_
        refine lv_iload_n hx hb dX4_stopOf_44 rfl (lv_at hl 1 rfl) ?_
        refine lv_iload_n hx hb dX4_stopOf_45 rfl (lv_at hl 2 rfl) ?_
        refine rd_V (rest := []) (ci := 4) (q0 := 0) ⟨hx, hb, hml, hown, hts⟩ hP hE (c_X4_toldStop l D K _ _ _ _ _ _ _ _ _ _ _ s9 k9 hI (by omega) (by omega)) (cwV 2 hts gX4_stopOf_X4_toldStop rfl rfl rfl hd_X4_toldStop ⟨Nat.le_of_ble_eq_true rfl, Nat.le_of_ble_eq_true rfl⟩) rfl rfl rfl rfl hl.1 rfl (Nat.le_of_ble_eq_true rfl) dX4_stopOf_46 ⟨Nat.le_of_ble_eq_true rfl, Nat.le_of_ble_eq_true rfl⟩ ?_
        have ew : (refO r (nI 0) (nI sn) (nI ln) (nI pm) pn (nI sta) (nI ms) hs :: zC K r T :: sC K r sv :: bC K r cs :: pC K r pf :: fC K r fa :: Y) = (if q2 0 11 0 2 (nI s9) (nI k9) = 0 then refO r (nI 0) (nI sn) (nI ln) (nI pm) pn (nI sta) (nI ms) hs :: zC K r T :: sC K r sv :: bC K r cs :: pC K r pf :: fC K r fa :: Y else refO r (nI (q2 0 11 0 2 (nI s9) (nI k9))) (nI sn) (nI ln) (nI pm) pn (nI sta) (nI ms) hs :: zC K r T :: sC K r sv :: bC K r cs :: pC K r pf :: fC K r fa :: Y) := by have e9 : q2 0 11 0 2 (nI s9) (nI k9) = 0 := (by first | (simp [q2, c_1, t_s9, c_2, t_k9, c_4, n_c_4]; done) | (subst_vars; simp [q2, c_1, t_s9, c_2, t_k9, c_4, n_c_4])); rw [e9]; simp [ni0, bI_t, bI_f, nI_one, setT_eq, c_1, t_s9, c_2, t_k9, c_4, n_c_4] <;> rfl
        rw [ew] at hP hD
        exact wr_iret hAe hP hD hS hx hb hr hk dX4_stopOf_49 ⟨Nat.le_of_ble_eq_true rfl, Nat.le_of_ble_eq_true rfl⟩ (by have e9 : q2 0 11 0 2 (nI s9) (nI k9) = 0 := (by first | (simp [q2, c_1, t_s9, c_2, t_k9, c_4, n_c_4]; done) | (subst_vars; simp [q2, c_1, t_s9, c_2, t_k9, c_4, n_c_4])); rw [e9]; simp [ni0, bI_t, bI_f, nI_one, setT_eq, c_1, t_s9, c_2, t_k9, c_4, n_c_4] <;> rfl)
      exact absurd c_4 (by decide)
  · refine lv_iconst (v := nI 1) hx hb dX4_stopOf_11 (by decide) ?_
    refine lv_goto (tgt := 29) hx hb dX4_stopOf_12 (by decide) ?_
    refine va_put (D := D) (ci := 4) (v := .int (nI 1)) (ty := .int) (C := RX4) (T := TX4) (N := 13) hx hb hts inX4 tyX4 tyX4_ok nmX4 hown hE.1 hP hD hS 0 rfl rfl 0 (by decide) F29 (fun _ h9 => h9) rfl (by decide +kernel) rfl rfl (Nat.le_of_ble_eq_true rfl) dX4_stopOf_29 (fun H locs hP hD hS => ?_)
    have hP : va_P D vwCl (refO r (nI 1) (nI sn) (nI ln) (nI pm) pn (nI sta) (nI ms) hs :: zC K r T :: sC K r sv :: bC K r cs :: pC K r pf :: fC K r fa :: Y) H := hP
    have hD : va_D A (refO r (nI 1) (nI sn) (nI ln) (nI pm) pn (nI sta) (nI ms) hs :: zC K r T :: sC K r sv :: bC K r cs :: pC K r pf :: fC K r fa :: Y) := hD
    refine lv_aload_n hx hb dX4_stopOf_32 rfl (lv_at hl 0 rfl) ?_
    refine va_get (D := D) (ci := 4) (v := .int (nI 1)) (C := RX4) (T := TX4) (N := 13) hx hb hts inX4 hown hE.1 hP 0 rfl rfl 0 (by decide) F29 (fun _ h9 => h9) rfl dX4_stopOf_33 ?_
    refine nv_if_le (x := 1) (tgt := 43) hx hb dX4_stopOf_36 (by decide) (by decide) (fun c_5 => ?_) (fun c_5 => ?_)
    · exact absurd c_5 (by decide)
    have n_c_5 : ¬ 1 = 0 := by omega
    refine lv_iconst (v := nI 0) hx hb dX4_stopOf_39 (by decide) ?_
    refine lv_goto (tgt := 49) hx hb dX4_stopOf_40 (by decide) ?_
    have ew : (refO r (nI 1) (nI sn) (nI ln) (nI pm) pn (nI sta) (nI ms) hs :: zC K r T :: sC K r sv :: bC K r cs :: pC K r pf :: fC K r fa :: Y) = (if q2 0 11 0 2 x w9 = 0 then refO r (nI 0) (nI sn) (nI ln) (nI pm) pn (nI sta) (nI ms) hs :: zC K r T :: sC K r sv :: bC K r cs :: pC K r pf :: fC K r fa :: Y else refO r (nI (q2 0 11 0 2 x w9)) (nI sn) (nI ln) (nI pm) pn (nI sta) (nI ms) hs :: zC K r T :: sC K r sv :: bC K r cs :: pC K r pf :: fC K r fa :: Y) := by have e9 : q2 0 11 0 2 x w9 = 1 := (by first | (simp [q2, c_1, c_5, n_c_5]; done) | (subst_vars; simp [q2, c_1, c_5, n_c_5])); rw [e9]; simp [ni0, bI_t, bI_f, nI_one, setT_eq, c_1, c_5, n_c_5] <;> rfl
    rw [ew] at hP hD
    exact wr_iret hAe hP hD hS hx hb hr hk dX4_stopOf_49 ⟨Nat.le_of_ble_eq_true rfl, Nat.le_of_ble_eq_true rfl⟩ (by have e9 : q2 0 11 0 2 x w9 = 1 := (by first | (simp [q2, c_1, c_5, n_c_5]; done) | (subst_vars; simp [q2, c_1, c_5, n_c_5])); rw [e9]; simp [ni0, bI_t, bI_f, nI_one, setT_eq, c_1, c_5, n_c_5] <;> rfl)
set_option maxHeartbeats 4000000 in
set_option maxRecDepth 100000 in
theorem c_X4_player (l : Launch) (D : va_G) (K : Nat → ClassId) (sz : Nat) (r : Nat → Nat) (th pn : Int32) (sn ln pm sta ms : Nat) (hs : Int64) (T : TW) (sv : Nat → Int32) (cs : Nat → Nat) (pf : Nat → Int32) (fa : Nat → Nat) (Y : va_W) (x w9 : Int32) (hI : Inv T) : Wr l yX4_player wsX4_player ({ frames := 6, cells := 0, slots := 0, locals := 122 } : Room) D K (refO r th (nI sn) (nI ln) (nI pm) pn (nI sta) (nI ms) hs :: zC K r T :: sC K r sv :: bC K r cs :: pC K r pf :: fC K r fa :: Y) sz [.ref (r 0), .int x, .int w9] (if q2 0 3 0 9 x w9 = 0 then refO r (nI 0) (nI sn) (nI ln) (nI pm) pn (nI sta) (nI ms) hs :: zC K r T :: sC K r sv :: bC K r cs :: pC K r pf :: fC K r fa :: Y else refO r (nI (q2 0 3 0 9 x w9)) (nI sn) (nI ln) (nI pm) pn (nI sta) (nI ms) hs :: zC K r T :: sC K r sv :: bC K r cs :: pC K r pf :: fC K r fa :: Y) (some (.int (if q2 0 3 0 9 x w9 = 0 then ppT T (tn x) (tn w9) else 0))) 0 0 := by
  refine wr_intro (cc := cX4_player) (maxL := 3) (ret := (some .int)) (by decide) rfl (Nat.le_of_ble_eq_true rfl) ?_
  intro pr en st md ar bl mt co A hx hb hml hr hts hown hk hsz hAe hP hE hD hS hA hin ls hl
  have hown : st.vm.findClass RX4 = some md.cls := hown
  have hl : lv_has ls 3 [(0, .ref (r 0)), (1, .int x), (2, .int w9)] := hl
  obtain ⟨H, hH⟩ : ∃ z, z = st.heap := ⟨_, rfl⟩
  obtain ⟨locs, hlo⟩ : ∃ z : List Loc, z = [] := ⟨_, rfl⟩
  have hP : va_P D vwCl (refO r th (nI sn) (nI ln) (nI pm) pn (nI sta) (nI ms) hs :: zC K r T :: sC K r sv :: bC K r cs :: pC K r pf :: fC K r fa :: Y) H := by rw [hH]; exact hP
  have hS : va_S A st.heap H locs := by rw [hH, hlo]; exact hS
  suffices go : W pr l en (headSpec wsX4_player ({ frames := 6, cells := 0, slots := 0, locals := 122 } : Room)).room st md ar bl mt co H locs 0 0 (MQ bl (wrQ D (refO r th (nI sn) (nI ln) (nI pm) pn (nI sta) (nI ms) hs :: zC K r T :: sC K r sv :: bC K r cs :: pC K r pf :: fC K r fa :: Y) (if q2 0 3 0 9 x w9 = 0 then refO r (nI 0) (nI sn) (nI ln) (nI pm) pn (nI sta) (nI ms) hs :: zC K r T :: sC K r sv :: bC K r cs :: pC K r pf :: fC K r fa :: Y else refO r (nI (q2 0 3 0 9 x w9)) (nI sn) (nI ln) (nI pm) pn (nI sta) (nI ms) hs :: zC K r T :: sC K r sv :: bC K r cs :: pC K r pf :: fC K r fa :: Y) sz (some (.int (if q2 0 3 0 9 x w9 = 0 then ppT T (tn x) (tn w9) else 0)))) ar st 0 0 A) (F0 md 0 ls []) by rw [hH, hlo] at go; exact go
  clear hH hlo
  have F29 : (Cond.fieldLink RX4 29 "TramTollsModel" "thrown" "I").before ar st = true := hts _ (List.mem_of_getElem? (i := 1) rfl)
  have inX4 : ∀ w ∈ u_ws RX4 TX4 13, w ∈ wsX4_player := fun w h => List.mem_cons_of_mem _ (List.mem_append_right _ h)
  refine lv_aload_n hx hb dX4_player_0 rfl (lv_at hl 0 rfl) ?_
  refine lv_iload_n hx hb dX4_player_1 rfl (lv_at hl 1 rfl) ?_
  refine rd_S (rest := [.ref (r 0)]) ⟨hx, hb, hml, hown, hts⟩ hP hE (c_X4_isPlayer l D K _ x) (va_cwS 1 hts gX4_player_X4_isPlayer rfl rfl rfl hn_X4_isPlayer ⟨Nat.le_of_ble_eq_true rfl, Nat.le_of_ble_eq_true rfl⟩) rfl hl.1 rfl (Nat.le_of_ble_eq_true rfl) dX4_player_2 ⟨Nat.le_of_ble_eq_true rfl, Nat.le_of_ble_eq_true rfl⟩ ?_
  refine bv_if_ne (x := inR 0 3 x) (tgt := 12) hx hb dX4_player_5 (by decide) (fun c_1 => ?_) (fun c_1 => ?_)
  · obtain ⟨s9, lo_s9, hi_s9, e_s9⟩ := inR_nL (a := 0) (b := 3) rfl rfl (by decide) (by decide) c_1
    subst e_s9
    have t_s9 := tn_nI (n := s9) (by omega)
    refine lv_iload_n hx hb dX4_player_12 rfl (lv_at hl 2 rfl) ?_
    refine lv_iconst (v := nI 0) hx hb dX4_player_13 (by decide) ?_
    refine lv_bipush (v := nI 9) hx hb dX4_player_14 (by decide) ?_
    refine rd_S (rest := [.ref (r 0)]) ⟨hx, hb, hml, hown, hts⟩ hP hE (c_X4_in l D K _ w9 0 9) (va_cwS 3 hts gX4_player_X4_in rfl rfl rfl hn_X4_in ⟨Nat.le_of_ble_eq_true rfl, Nat.le_of_ble_eq_true rfl⟩) rfl hl.1 rfl (Nat.le_of_ble_eq_true rfl) dX4_player_16 ⟨Nat.le_of_ble_eq_true rfl, Nat.le_of_ble_eq_true rfl⟩ ?_
    refine bv_if_eq (x := inR 0 9 w9) (tgt := 26) hx hb dX4_player_19 (by decide) (fun c_2 => ?_) (fun c_2 => ?_)
    · refine lv_iconst (v := nI 2) hx hb dX4_player_26 (by decide) ?_
      refine va_put (D := D) (ci := 4) (v := .int (nI 2)) (ty := .int) (C := RX4) (T := TX4) (N := 13) hx hb hts inX4 tyX4 tyX4_ok nmX4 hown hE.1 hP hD hS 0 rfl rfl 0 (by decide) F29 (fun _ h9 => h9) rfl (by decide +kernel) rfl rfl (Nat.le_of_ble_eq_true rfl) dX4_player_27 (fun H locs hP hD hS => ?_)
      have hP : va_P D vwCl (refO r (nI 2) (nI sn) (nI ln) (nI pm) pn (nI sta) (nI ms) hs :: zC K r T :: sC K r sv :: bC K r cs :: pC K r pf :: fC K r fa :: Y) H := hP
      have hD : va_D A (refO r (nI 2) (nI sn) (nI ln) (nI pm) pn (nI sta) (nI ms) hs :: zC K r T :: sC K r sv :: bC K r cs :: pC K r pf :: fC K r fa :: Y) := hD
      refine lv_aload_n hx hb dX4_player_30 rfl (lv_at hl 0 rfl) ?_
      refine va_get (D := D) (ci := 4) (v := .int (nI 2)) (C := RX4) (T := TX4) (N := 13) hx hb hts inX4 hown hE.1 hP 0 rfl rfl 0 (by decide) F29 (fun _ h9 => h9) rfl dX4_player_31 ?_
      refine nv_if_le (x := 2) (tgt := 41) hx hb dX4_player_34 (by decide) (by decide) (fun c_3 => ?_) (fun c_3 => ?_)
      · exact absurd c_3 (by decide)
      have n_c_3 : ¬ 2 = 0 := by omega
      refine lv_iconst (v := nI 0) hx hb dX4_player_37 (by decide) ?_
      refine lv_goto (tgt := 47) hx hb dX4_player_38 (by decide) ?_
      have ew : (refO r (nI 2) (nI sn) (nI ln) (nI pm) pn (nI sta) (nI ms) hs :: zC K r T :: sC K r sv :: bC K r cs :: pC K r pf :: fC K r fa :: Y) = (if q2 0 3 0 9 (nI s9) w9 = 0 then refO r (nI 0) (nI sn) (nI ln) (nI pm) pn (nI sta) (nI ms) hs :: zC K r T :: sC K r sv :: bC K r cs :: pC K r pf :: fC K r fa :: Y else refO r (nI (q2 0 3 0 9 (nI s9) w9)) (nI sn) (nI ln) (nI pm) pn (nI sta) (nI ms) hs :: zC K r T :: sC K r sv :: bC K r cs :: pC K r pf :: fC K r fa :: Y) := by have e9 : q2 0 3 0 9 (nI s9) w9 = 2 := (by first | (simp [q2, c_1, t_s9, c_2, c_3, n_c_3]; done) | (subst_vars; simp [q2, c_1, t_s9, c_2, c_3, n_c_3])); rw [e9]; simp [ni0, bI_t, bI_f, nI_one, setT_eq, c_1, t_s9, c_2, c_3, n_c_3] <;> rfl
      rw [ew] at hP hD
      exact wr_iret hAe hP hD hS hx hb hr hk dX4_player_47 ⟨Nat.le_of_ble_eq_true rfl, Nat.le_of_ble_eq_true rfl⟩ (by have e9 : q2 0 3 0 9 (nI s9) w9 = 2 := (by first | (simp [q2, c_1, t_s9, c_2, c_3, n_c_3]; done) | (subst_vars; simp [q2, c_1, t_s9, c_2, c_3, n_c_3])); rw [e9]; simp [ni0, bI_t, bI_f, nI_one, setT_eq, c_1, t_s9, c_2, c_3, n_c_3] <;> rfl)
    · obtain ⟨k9, lo_k9, hi_k9, e_k9⟩ := inR_nL (a := 0) (b := 9) rfl rfl (by decide) (by decide) c_2
      subst e_k9
      have t_k9 := tn_nI (n := k9) (by omega)
      refine lv_iconst (v := nI 0) hx hb dX4_player_22 (by decide) ?_
      refine lv_goto (tgt := 27) hx hb dX4_player_23 (by decide) ?_
      refine va_put (D := D) (ci := 4) (v := .int (nI 0)) (ty := .int) (C := RX4) (T := TX4) (N := 13) hx hb hts inX4 tyX4 tyX4_ok nmX4 hown hE.1 hP hD hS 0 rfl rfl 0 (by decide) F29 (fun _ h9 => h9) rfl (by decide +kernel) rfl rfl (Nat.le_of_ble_eq_true rfl) dX4_player_27 (fun H locs hP hD hS => ?_)
      have hP : va_P D vwCl (refO r (nI 0) (nI sn) (nI ln) (nI pm) pn (nI sta) (nI ms) hs :: zC K r T :: sC K r sv :: bC K r cs :: pC K r pf :: fC K r fa :: Y) H := hP
      have hD : va_D A (refO r (nI 0) (nI sn) (nI ln) (nI pm) pn (nI sta) (nI ms) hs :: zC K r T :: sC K r sv :: bC K r cs :: pC K r pf :: fC K r fa :: Y) := hD
      refine lv_aload_n hx hb dX4_player_30 rfl (lv_at hl 0 rfl) ?_
      refine va_get (D := D) (ci := 4) (v := .int (nI 0)) (C := RX4) (T := TX4) (N := 13) hx hb hts inX4 hown hE.1 hP 0 rfl rfl 0 (by decide) F29 (fun _ h9 => h9) rfl dX4_player_31 ?_
      refine nv_if_le (x := 0) (tgt := 41) hx hb dX4_player_34 (by decide) (by decide) (fun c_4 => ?_) (fun c_4 => ?_)
      · have n_c_4 : ¬ 0 < 0 := by omega
        refine lv_aload_n hx hb dX4_player_41 rfl (lv_at hl 0 rfl) ?_
        refine lv_iload_n hx hb dX4_player_42 rfl (lv_at hl 1 rfl) ?_
        refine lv_iload_n hx hb dX4_player_43 rfl (lv_at hl 2 rfl) ?_
        refine rd_V (rest := []) (ci := 4) (q0 := 0) ⟨hx, hb, hml, hown, hts⟩ hP hE (c_X4_toldPlayer l D K _ _ _ _ _ _ _ _ _ _ _ s9 k9 hI (by omega) (by omega)) (cwV 2 hts gX4_player_X4_toldPlayer rfl rfl rfl hd_X4_toldPlayer ⟨Nat.le_of_ble_eq_true rfl, Nat.le_of_ble_eq_true rfl⟩) rfl rfl rfl rfl hl.1 rfl (Nat.le_of_ble_eq_true rfl) dX4_player_44 ⟨Nat.le_of_ble_eq_true rfl, Nat.le_of_ble_eq_true rfl⟩ ?_
        have ew : (refO r (nI 0) (nI sn) (nI ln) (nI pm) pn (nI sta) (nI ms) hs :: zC K r T :: sC K r sv :: bC K r cs :: pC K r pf :: fC K r fa :: Y) = (if q2 0 3 0 9 (nI s9) (nI k9) = 0 then refO r (nI 0) (nI sn) (nI ln) (nI pm) pn (nI sta) (nI ms) hs :: zC K r T :: sC K r sv :: bC K r cs :: pC K r pf :: fC K r fa :: Y else refO r (nI (q2 0 3 0 9 (nI s9) (nI k9))) (nI sn) (nI ln) (nI pm) pn (nI sta) (nI ms) hs :: zC K r T :: sC K r sv :: bC K r cs :: pC K r pf :: fC K r fa :: Y) := by have e9 : q2 0 3 0 9 (nI s9) (nI k9) = 0 := (by first | (simp [q2, c_1, t_s9, c_2, t_k9, c_4, n_c_4]; done) | (subst_vars; simp [q2, c_1, t_s9, c_2, t_k9, c_4, n_c_4])); rw [e9]; simp [ni0, bI_t, bI_f, nI_one, setT_eq, c_1, t_s9, c_2, t_k9, c_4, n_c_4] <;> rfl
        rw [ew] at hP hD
        exact wr_iret hAe hP hD hS hx hb hr hk dX4_player_47 ⟨Nat.le_of_ble_eq_true rfl, Nat.le_of_ble_eq_true rfl⟩ (by have e9 : q2 0 3 0 9 (nI s9) (nI k9) = 0 := (by first | (simp [q2, c_1, t_s9, c_2, t_k9, c_4, n_c_4]; done) | (subst_vars; simp [q2, c_1, t_s9, c_2, t_k9, c_4, n_c_4])); rw [e9]; simp [ni0, bI_t, bI_f, nI_one, setT_eq, c_1, t_s9, c_2, t_k9, c_4, n_c_4] <;> rfl)
      exact absurd c_4 (by decide)
  · refine lv_iconst (v := nI 1) hx hb dX4_player_8 (by decide) ?_
    refine lv_goto (tgt := 27) hx hb dX4_player_9 (by decide) ?_
    refine va_put (D := D) (ci := 4) (v := .int (nI 1)) (ty := .int) (C := RX4) (T := TX4) (N := 13) hx hb hts inX4 tyX4 tyX4_ok nmX4 hown hE.1 hP hD hS 0 rfl rfl 0 (by decide) F29 (fun _ h9 => h9) rfl (by decide +kernel) rfl rfl (Nat.le_of_ble_eq_true rfl) dX4_player_27 (fun H locs hP hD hS => ?_)
    have hP : va_P D vwCl (refO r (nI 1) (nI sn) (nI ln) (nI pm) pn (nI sta) (nI ms) hs :: zC K r T :: sC K r sv :: bC K r cs :: pC K r pf :: fC K r fa :: Y) H := hP
    have hD : va_D A (refO r (nI 1) (nI sn) (nI ln) (nI pm) pn (nI sta) (nI ms) hs :: zC K r T :: sC K r sv :: bC K r cs :: pC K r pf :: fC K r fa :: Y) := hD
    refine lv_aload_n hx hb dX4_player_30 rfl (lv_at hl 0 rfl) ?_
    refine va_get (D := D) (ci := 4) (v := .int (nI 1)) (C := RX4) (T := TX4) (N := 13) hx hb hts inX4 hown hE.1 hP 0 rfl rfl 0 (by decide) F29 (fun _ h9 => h9) rfl dX4_player_31 ?_
    refine nv_if_le (x := 1) (tgt := 41) hx hb dX4_player_34 (by decide) (by decide) (fun c_5 => ?_) (fun c_5 => ?_)
    · exact absurd c_5 (by decide)
    have n_c_5 : ¬ 1 = 0 := by omega
    refine lv_iconst (v := nI 0) hx hb dX4_player_37 (by decide) ?_
    refine lv_goto (tgt := 47) hx hb dX4_player_38 (by decide) ?_
    have ew : (refO r (nI 1) (nI sn) (nI ln) (nI pm) pn (nI sta) (nI ms) hs :: zC K r T :: sC K r sv :: bC K r cs :: pC K r pf :: fC K r fa :: Y) = (if q2 0 3 0 9 x w9 = 0 then refO r (nI 0) (nI sn) (nI ln) (nI pm) pn (nI sta) (nI ms) hs :: zC K r T :: sC K r sv :: bC K r cs :: pC K r pf :: fC K r fa :: Y else refO r (nI (q2 0 3 0 9 x w9)) (nI sn) (nI ln) (nI pm) pn (nI sta) (nI ms) hs :: zC K r T :: sC K r sv :: bC K r cs :: pC K r pf :: fC K r fa :: Y) := by have e9 : q2 0 3 0 9 x w9 = 1 := (by first | (simp [q2, c_1, c_5, n_c_5]; done) | (subst_vars; simp [q2, c_1, c_5, n_c_5])); rw [e9]; simp [ni0, bI_t, bI_f, nI_one, setT_eq, c_1, c_5, n_c_5] <;> rfl
    rw [ew] at hP hD
    exact wr_iret hAe hP hD hS hx hb hr hk dX4_player_47 ⟨Nat.le_of_ble_eq_true rfl, Nat.le_of_ble_eq_true rfl⟩ (by have e9 : q2 0 3 0 9 x w9 = 1 := (by first | (simp [q2, c_1, c_5, n_c_5]; done) | (subst_vars; simp [q2, c_1, c_5, n_c_5])); rw [e9]; simp [ni0, bI_t, bI_f, nI_one, setT_eq, c_1, c_5, n_c_5] <;> rfl)
set_option maxHeartbeats 4000000 in
set_option maxRecDepth 100000 in
theorem c_X4_count (l : Launch) (D : va_G) (K : Nat → ClassId) (sz : Nat) (r : Nat → Nat) (th pn : Int32) (sn ln pm sta ms : Nat) (hs : Int64) (T : TW) (sv : Nat → Int32) (cs : Nat → Nat) (pf : Nat → Int32) (fa : Nat → Nat) (Y : va_W) (x : Int32) (hI : Inv T) : Wr l yX4_count wsX4_count ({ frames := 7, cells := 0, slots := 0, locals := 143 } : Room) D K (refO r th (nI sn) (nI ln) (nI pm) pn (nI sta) (nI ms) hs :: zC K r T :: sC K r sv :: bC K r cs :: pC K r pf :: fC K r fa :: Y) sz [.ref (r 0), .int x] (if q1 0 7 x = 0 then refO r (nI 0) (nI sn) (nI ln) (nI pm) pn (nI sta) (nI ms) hs :: zC K r T :: sC K r sv :: bC K r cs :: pC K r pf :: fC K r fa :: Y else refO r (nI (q1 0 7 x)) (nI sn) (nI ln) (nI pm) pn (nI sta) (nI ms) hs :: zC K r T :: sC K r sv :: bC K r cs :: pC K r pf :: fC K r fa :: Y) (some (.int (if q1 0 7 x = 0 then nbrT T sn (tn x) else 0))) 0 0 := by
  refine wr_intro (cc := cX4_count) (maxL := 2) (ret := (some .int)) (by decide) rfl (Nat.le_of_ble_eq_true rfl) ?_
  intro pr en st md ar bl mt co A hx hb hml hr hts hown hk hsz hAe hP hE hD hS hA hin ls hl
  have hown : st.vm.findClass RX4 = some md.cls := hown
  have hl : lv_has ls 2 [(0, .ref (r 0)), (1, .int x)] := hl
  obtain ⟨H, hH⟩ : ∃ z, z = st.heap := ⟨_, rfl⟩
  obtain ⟨locs, hlo⟩ : ∃ z : List Loc, z = [] := ⟨_, rfl⟩
  have hP : va_P D vwCl (refO r th (nI sn) (nI ln) (nI pm) pn (nI sta) (nI ms) hs :: zC K r T :: sC K r sv :: bC K r cs :: pC K r pf :: fC K r fa :: Y) H := by rw [hH]; exact hP
  have hS : va_S A st.heap H locs := by rw [hH, hlo]; exact hS
  suffices go : W pr l en (headSpec wsX4_count ({ frames := 7, cells := 0, slots := 0, locals := 143 } : Room)).room st md ar bl mt co H locs 0 0 (MQ bl (wrQ D (refO r th (nI sn) (nI ln) (nI pm) pn (nI sta) (nI ms) hs :: zC K r T :: sC K r sv :: bC K r cs :: pC K r pf :: fC K r fa :: Y) (if q1 0 7 x = 0 then refO r (nI 0) (nI sn) (nI ln) (nI pm) pn (nI sta) (nI ms) hs :: zC K r T :: sC K r sv :: bC K r cs :: pC K r pf :: fC K r fa :: Y else refO r (nI (q1 0 7 x)) (nI sn) (nI ln) (nI pm) pn (nI sta) (nI ms) hs :: zC K r T :: sC K r sv :: bC K r cs :: pC K r pf :: fC K r fa :: Y) sz (some (.int (if q1 0 7 x = 0 then nbrT T sn (tn x) else 0)))) ar st 0 0 A) (F0 md 0 ls []) by rw [hH, hlo] at go; exact go
  clear hH hlo
  have F29 : (Cond.fieldLink RX4 29 "TramTollsModel" "thrown" "I").before ar st = true := hts _ (List.mem_of_getElem? (i := 1) rfl)
  have inX4 : ∀ w ∈ u_ws RX4 TX4 13, w ∈ wsX4_count := fun w h => List.mem_cons_of_mem _ (List.mem_append_right _ h)
  refine lv_aload_n hx hb dX4_count_0 rfl (lv_at hl 0 rfl) ?_
  refine lv_iload_n hx hb dX4_count_1 rfl (lv_at hl 1 rfl) ?_
  refine lv_iconst (v := nI 0) hx hb dX4_count_2 (by decide) ?_
  refine lv_bipush (v := nI 7) hx hb dX4_count_3 (by decide) ?_
  refine rd_S (rest := [.ref (r 0)]) ⟨hx, hb, hml, hown, hts⟩ hP hE (c_X4_in l D K _ x 0 7) (va_cwS 3 hts gX4_count_X4_in rfl rfl rfl hn_X4_in ⟨Nat.le_of_ble_eq_true rfl, Nat.le_of_ble_eq_true rfl⟩) rfl hl.1 rfl (Nat.le_of_ble_eq_true rfl) dX4_count_5 ⟨Nat.le_of_ble_eq_true rfl, Nat.le_of_ble_eq_true rfl⟩ ?_
  refine bv_if_eq (x := inR 0 7 x) (tgt := 15) hx hb dX4_count_8 (by decide) (fun c_1 => ?_) (fun c_1 => ?_)
  · refine lv_iconst (v := nI 1) hx hb dX4_count_15 (by decide) ?_
    refine va_put (D := D) (ci := 4) (v := .int (nI 1)) (ty := .int) (C := RX4) (T := TX4) (N := 13) hx hb hts inX4 tyX4 tyX4_ok nmX4 hown hE.1 hP hD hS 0 rfl rfl 0 (by decide) F29 (fun _ h9 => h9) rfl (by decide +kernel) rfl rfl (Nat.le_of_ble_eq_true rfl) dX4_count_16 (fun H locs hP hD hS => ?_)
    have hP : va_P D vwCl (refO r (nI 1) (nI sn) (nI ln) (nI pm) pn (nI sta) (nI ms) hs :: zC K r T :: sC K r sv :: bC K r cs :: pC K r pf :: fC K r fa :: Y) H := hP
    have hD : va_D A (refO r (nI 1) (nI sn) (nI ln) (nI pm) pn (nI sta) (nI ms) hs :: zC K r T :: sC K r sv :: bC K r cs :: pC K r pf :: fC K r fa :: Y) := hD
    refine lv_aload_n hx hb dX4_count_19 rfl (lv_at hl 0 rfl) ?_
    refine va_get (D := D) (ci := 4) (v := .int (nI 1)) (C := RX4) (T := TX4) (N := 13) hx hb hts inX4 hown hE.1 hP 0 rfl rfl 0 (by decide) F29 (fun _ h9 => h9) rfl dX4_count_20 ?_
    refine nv_if_le (x := 1) (tgt := 30) hx hb dX4_count_23 (by decide) (by decide) (fun c_2 => ?_) (fun c_2 => ?_)
    · exact absurd c_2 (by decide)
    have n_c_2 : ¬ 1 = 0 := by omega
    refine lv_iconst (v := nI 0) hx hb dX4_count_26 (by decide) ?_
    refine lv_goto (tgt := 35) hx hb dX4_count_27 (by decide) ?_
    have ew : (refO r (nI 1) (nI sn) (nI ln) (nI pm) pn (nI sta) (nI ms) hs :: zC K r T :: sC K r sv :: bC K r cs :: pC K r pf :: fC K r fa :: Y) = (if q1 0 7 x = 0 then refO r (nI 0) (nI sn) (nI ln) (nI pm) pn (nI sta) (nI ms) hs :: zC K r T :: sC K r sv :: bC K r cs :: pC K r pf :: fC K r fa :: Y else refO r (nI (q1 0 7 x)) (nI sn) (nI ln) (nI pm) pn (nI sta) (nI ms) hs :: zC K r T :: sC K r sv :: bC K r cs :: pC K r pf :: fC K r fa :: Y) := by have e9 : q1 0 7 x = 1 := (by first | (simp [q1, c_1, c_2, n_c_2]; done) | (subst_vars; simp [q1, c_1, c_2, n_c_2])); rw [e9]; simp [ni0, bI_t, bI_f, nI_one, setT_eq, c_1, c_2, n_c_2] <;> rfl
    rw [ew] at hP hD
    exact wr_iret hAe hP hD hS hx hb hr hk dX4_count_35 ⟨Nat.le_of_ble_eq_true rfl, Nat.le_of_ble_eq_true rfl⟩ (by have e9 : q1 0 7 x = 1 := (by first | (simp [q1, c_1, c_2, n_c_2]; done) | (subst_vars; simp [q1, c_1, c_2, n_c_2])); rw [e9]; simp [ni0, bI_t, bI_f, nI_one, setT_eq, c_1, c_2, n_c_2] <;> rfl)
  · obtain ⟨s9, lo_s9, hi_s9, e_s9⟩ := inR_nL (a := 0) (b := 7) rfl rfl (by decide) (by decide) c_1
    subst e_s9
    have t_s9 := tn_nI (n := s9) (by omega)
    refine lv_iconst (v := nI 0) hx hb dX4_count_11 (by decide) ?_
    refine lv_goto (tgt := 16) hx hb dX4_count_12 (by decide) ?_
    refine va_put (D := D) (ci := 4) (v := .int (nI 0)) (ty := .int) (C := RX4) (T := TX4) (N := 13) hx hb hts inX4 tyX4 tyX4_ok nmX4 hown hE.1 hP hD hS 0 rfl rfl 0 (by decide) F29 (fun _ h9 => h9) rfl (by decide +kernel) rfl rfl (Nat.le_of_ble_eq_true rfl) dX4_count_16 (fun H locs hP hD hS => ?_)
    have hP : va_P D vwCl (refO r (nI 0) (nI sn) (nI ln) (nI pm) pn (nI sta) (nI ms) hs :: zC K r T :: sC K r sv :: bC K r cs :: pC K r pf :: fC K r fa :: Y) H := hP
    have hD : va_D A (refO r (nI 0) (nI sn) (nI ln) (nI pm) pn (nI sta) (nI ms) hs :: zC K r T :: sC K r sv :: bC K r cs :: pC K r pf :: fC K r fa :: Y) := hD
    refine lv_aload_n hx hb dX4_count_19 rfl (lv_at hl 0 rfl) ?_
    refine va_get (D := D) (ci := 4) (v := .int (nI 0)) (C := RX4) (T := TX4) (N := 13) hx hb hts inX4 hown hE.1 hP 0 rfl rfl 0 (by decide) F29 (fun _ h9 => h9) rfl dX4_count_20 ?_
    refine nv_if_le (x := 0) (tgt := 30) hx hb dX4_count_23 (by decide) (by decide) (fun c_3 => ?_) (fun c_3 => ?_)
    · have n_c_3 : ¬ 0 < 0 := by omega
      refine lv_aload_n hx hb dX4_count_30 rfl (lv_at hl 0 rfl) ?_
      refine lv_iload_n hx hb dX4_count_31 rfl (lv_at hl 1 rfl) ?_
      refine rd_V (rest := []) (ci := 4) (q0 := 0) ⟨hx, hb, hml, hown, hts⟩ hP hE (c_X4_counted l D K _ _ _ _ _ _ _ _ _ _ _ sn s9 hI rfl (by omega)) (cwV 1 hts gX4_count_X4_counted rfl rfl rfl hd_X4_counted ⟨Nat.le_of_ble_eq_true rfl, Nat.le_of_ble_eq_true rfl⟩) rfl rfl rfl rfl hl.1 rfl (Nat.le_of_ble_eq_true rfl) dX4_count_32 ⟨Nat.le_of_ble_eq_true rfl, Nat.le_of_ble_eq_true rfl⟩ ?_
      have ew : (refO r (nI 0) (nI sn) (nI ln) (nI pm) pn (nI sta) (nI ms) hs :: zC K r T :: sC K r sv :: bC K r cs :: pC K r pf :: fC K r fa :: Y) = (if q1 0 7 (nI s9) = 0 then refO r (nI 0) (nI sn) (nI ln) (nI pm) pn (nI sta) (nI ms) hs :: zC K r T :: sC K r sv :: bC K r cs :: pC K r pf :: fC K r fa :: Y else refO r (nI (q1 0 7 (nI s9))) (nI sn) (nI ln) (nI pm) pn (nI sta) (nI ms) hs :: zC K r T :: sC K r sv :: bC K r cs :: pC K r pf :: fC K r fa :: Y) := by have e9 : q1 0 7 (nI s9) = 0 := (by first | (simp [q1, c_1, t_s9, c_3, n_c_3]; done) | (subst_vars; simp [q1, c_1, t_s9, c_3, n_c_3])); rw [e9]; simp [ni0, bI_t, bI_f, nI_one, setT_eq, c_1, t_s9, c_3, n_c_3] <;> rfl
      rw [ew] at hP hD
      exact wr_iret hAe hP hD hS hx hb hr hk dX4_count_35 ⟨Nat.le_of_ble_eq_true rfl, Nat.le_of_ble_eq_true rfl⟩ (by have e9 : q1 0 7 (nI s9) = 0 := (by first | (simp [q1, c_1, t_s9, c_3, n_c_3]; done) | (subst_vars; simp [q1, c_1, t_s9, c_3, n_c_3])); rw [e9]; simp [ni0, bI_t, bI_f, nI_one, setT_eq, c_1, t_s9, c_3, n_c_3] <;> rfl)
    exact absurd c_3 (by decide)
set_option maxHeartbeats 4000000 in
set_option maxRecDepth 100000 in
theorem c_X4_setting (l : Launch) (D : va_G) (K : Nat → ClassId) (sz : Nat) (r : Nat → Nat) (th pn : Int32) (sn ln pm sta ms : Nat) (hs : Int64) (T : TW) (sv : Nat → Int32) (cs : Nat → Nat) (pf : Nat → Int32) (fa : Nat → Nat) (Y : va_W) (x : Int32) (hI : Inv T) : Wr l yX4_setting wsX4_setting ({ frames := 2, cells := 0, slots := 0, locals := 34 } : Room) D K (refO r th (nI sn) (nI ln) (nI pm) pn (nI sta) (nI ms) hs :: zC K r T :: sC K r sv :: bC K r cs :: pC K r pf :: fC K r fa :: Y) sz [.ref (r 0), .int x] (if q1 0 2 x = 0 then refO r (nI 0) (nI sn) (nI ln) (nI pm) pn (nI sta) (nI ms) hs :: zC K r T :: sC K r sv :: bC K r cs :: pC K r pf :: fC K r fa :: Y else refO r (nI (q1 0 2 x)) (nI sn) (nI ln) (nI pm) pn (nI sta) (nI ms) hs :: zC K r T :: sC K r sv :: bC K r cs :: pC K r pf :: fC K r fa :: Y) (some (.int (if q1 0 2 x = 0 then nI (stT T (tn x)) else 0))) 0 0 := by
  refine wr_intro (cc := cX4_setting) (maxL := 2) (ret := (some .int)) (by decide) rfl (Nat.le_of_ble_eq_true rfl) ?_
  intro pr en st md ar bl mt co A hx hb hml hr hts hown hk hsz hAe hP hE hD hS hA hin ls hl
  have hown : st.vm.findClass RX4 = some md.cls := hown
  have hl : lv_has ls 2 [(0, .ref (r 0)), (1, .int x)] := hl
  obtain ⟨H, hH⟩ : ∃ z, z = st.heap := ⟨_, rfl⟩
  obtain ⟨locs, hlo⟩ : ∃ z : List Loc, z = [] := ⟨_, rfl⟩
  have hP : va_P D vwCl (refO r th (nI sn) (nI ln) (nI pm) pn (nI sta) (nI ms) hs :: zC K r T :: sC K r sv :: bC K r cs :: pC K r pf :: fC K r fa :: Y) H := by rw [hH]; exact hP
  have hS : va_S A st.heap H locs := by rw [hH, hlo]; exact hS
  suffices go : W pr l en (headSpec wsX4_setting ({ frames := 2, cells := 0, slots := 0, locals := 34 } : Room)).room st md ar bl mt co H locs 0 0 (MQ bl (wrQ D (refO r th (nI sn) (nI ln) (nI pm) pn (nI sta) (nI ms) hs :: zC K r T :: sC K r sv :: bC K r cs :: pC K r pf :: fC K r fa :: Y) (if q1 0 2 x = 0 then refO r (nI 0) (nI sn) (nI ln) (nI pm) pn (nI sta) (nI ms) hs :: zC K r T :: sC K r sv :: bC K r cs :: pC K r pf :: fC K r fa :: Y else refO r (nI (q1 0 2 x)) (nI sn) (nI ln) (nI pm) pn (nI sta) (nI ms) hs :: zC K r T :: sC K r sv :: bC K r cs :: pC K r pf :: fC K r fa :: Y) sz (some (.int (if q1 0 2 x = 0 then nI (stT T (tn x)) else 0)))) ar st 0 0 A) (F0 md 0 ls []) by rw [hH, hlo] at go; exact go
  clear hH hlo
  have F29 : (Cond.fieldLink RX4 29 "TramTollsModel" "thrown" "I").before ar st = true := hts _ (List.mem_of_getElem? (i := 1) rfl)
  have inX4 : ∀ w ∈ u_ws RX4 TX4 13, w ∈ wsX4_setting := fun w h => List.mem_cons_of_mem _ (List.mem_append_right _ h)
  have F7 : (Cond.fieldLink RX4 7 "TramTollsModel" "z" "[I").before ar st = true := hts _ (List.mem_of_getElem? (i := 2) rfl)
  refine lv_aload_n hx hb dX4_setting_0 rfl (lv_at hl 0 rfl) ?_
  refine lv_iload_n hx hb dX4_setting_1 rfl (lv_at hl 1 rfl) ?_
  refine lv_iconst (v := nI 0) hx hb dX4_setting_2 (by decide) ?_
  refine lv_iconst (v := nI 2) hx hb dX4_setting_3 (by decide) ?_
  refine rd_S (rest := [.ref (r 0)]) ⟨hx, hb, hml, hown, hts⟩ hP hE (c_X4_in l D K _ x 0 2) (va_cwS 3 hts gX4_setting_X4_in rfl rfl rfl hn_X4_in ⟨Nat.le_of_ble_eq_true rfl, Nat.le_of_ble_eq_true rfl⟩) rfl hl.1 rfl (Nat.le_of_ble_eq_true rfl) dX4_setting_4 ⟨Nat.le_of_ble_eq_true rfl, Nat.le_of_ble_eq_true rfl⟩ ?_
  refine bv_if_eq (x := inR 0 2 x) (tgt := 14) hx hb dX4_setting_7 (by decide) (fun c_1 => ?_) (fun c_1 => ?_)
  · refine lv_iconst (v := nI 1) hx hb dX4_setting_14 (by decide) ?_
    refine va_put (D := D) (ci := 4) (v := .int (nI 1)) (ty := .int) (C := RX4) (T := TX4) (N := 13) hx hb hts inX4 tyX4 tyX4_ok nmX4 hown hE.1 hP hD hS 0 rfl rfl 0 (by decide) F29 (fun _ h9 => h9) rfl (by decide +kernel) rfl rfl (Nat.le_of_ble_eq_true rfl) dX4_setting_15 (fun H locs hP hD hS => ?_)
    have hP : va_P D vwCl (refO r (nI 1) (nI sn) (nI ln) (nI pm) pn (nI sta) (nI ms) hs :: zC K r T :: sC K r sv :: bC K r cs :: pC K r pf :: fC K r fa :: Y) H := hP
    have hD : va_D A (refO r (nI 1) (nI sn) (nI ln) (nI pm) pn (nI sta) (nI ms) hs :: zC K r T :: sC K r sv :: bC K r cs :: pC K r pf :: fC K r fa :: Y) := hD
    refine lv_aload_n hx hb dX4_setting_18 rfl (lv_at hl 0 rfl) ?_
    refine va_get (D := D) (ci := 4) (v := .int (nI 1)) (C := RX4) (T := TX4) (N := 13) hx hb hts inX4 hown hE.1 hP 0 rfl rfl 0 (by decide) F29 (fun _ h9 => h9) rfl dX4_setting_19 ?_
    refine nv_if_le (x := 1) (tgt := 29) hx hb dX4_setting_22 (by decide) (by decide) (fun c_2 => ?_) (fun c_2 => ?_)
    · exact absurd c_2 (by decide)
    have n_c_2 : ¬ 1 = 0 := by omega
    refine lv_iconst (v := nI 0) hx hb dX4_setting_25 (by decide) ?_
    refine lv_goto (tgt := 37) hx hb dX4_setting_26 (by decide) ?_
    have ew : (refO r (nI 1) (nI sn) (nI ln) (nI pm) pn (nI sta) (nI ms) hs :: zC K r T :: sC K r sv :: bC K r cs :: pC K r pf :: fC K r fa :: Y) = (if q1 0 2 x = 0 then refO r (nI 0) (nI sn) (nI ln) (nI pm) pn (nI sta) (nI ms) hs :: zC K r T :: sC K r sv :: bC K r cs :: pC K r pf :: fC K r fa :: Y else refO r (nI (q1 0 2 x)) (nI sn) (nI ln) (nI pm) pn (nI sta) (nI ms) hs :: zC K r T :: sC K r sv :: bC K r cs :: pC K r pf :: fC K r fa :: Y) := by have e9 : q1 0 2 x = 1 := (by first | (simp [q1, c_1, c_2, n_c_2]; done) | (subst_vars; simp [q1, c_1, c_2, n_c_2])); rw [e9]; simp [ni0, bI_t, bI_f, nI_one, setT_eq, c_1, c_2, n_c_2] <;> rfl
    rw [ew] at hP hD
    exact wr_iret hAe hP hD hS hx hb hr hk dX4_setting_37 ⟨Nat.le_of_ble_eq_true rfl, Nat.le_of_ble_eq_true rfl⟩ (by have e9 : q1 0 2 x = 1 := (by first | (simp [q1, c_1, c_2, n_c_2]; done) | (subst_vars; simp [q1, c_1, c_2, n_c_2])); rw [e9]; simp [ni0, bI_t, bI_f, nI_one, setT_eq, c_1, c_2, n_c_2] <;> rfl)
  · obtain ⟨s9, lo_s9, hi_s9, e_s9⟩ := inR_nL (a := 0) (b := 2) rfl rfl (by decide) (by decide) c_1
    subst e_s9
    have t_s9 := tn_nI (n := s9) (by omega)
    refine lv_iconst (v := nI 0) hx hb dX4_setting_10 (by decide) ?_
    refine lv_goto (tgt := 15) hx hb dX4_setting_11 (by decide) ?_
    refine va_put (D := D) (ci := 4) (v := .int (nI 0)) (ty := .int) (C := RX4) (T := TX4) (N := 13) hx hb hts inX4 tyX4 tyX4_ok nmX4 hown hE.1 hP hD hS 0 rfl rfl 0 (by decide) F29 (fun _ h9 => h9) rfl (by decide +kernel) rfl rfl (Nat.le_of_ble_eq_true rfl) dX4_setting_15 (fun H locs hP hD hS => ?_)
    have hP : va_P D vwCl (refO r (nI 0) (nI sn) (nI ln) (nI pm) pn (nI sta) (nI ms) hs :: zC K r T :: sC K r sv :: bC K r cs :: pC K r pf :: fC K r fa :: Y) H := hP
    have hD : va_D A (refO r (nI 0) (nI sn) (nI ln) (nI pm) pn (nI sta) (nI ms) hs :: zC K r T :: sC K r sv :: bC K r cs :: pC K r pf :: fC K r fa :: Y) := hD
    refine lv_aload_n hx hb dX4_setting_18 rfl (lv_at hl 0 rfl) ?_
    refine va_get (D := D) (ci := 4) (v := .int (nI 0)) (C := RX4) (T := TX4) (N := 13) hx hb hts inX4 hown hE.1 hP 0 rfl rfl 0 (by decide) F29 (fun _ h9 => h9) rfl dX4_setting_19 ?_
    refine nv_if_le (x := 0) (tgt := 29) hx hb dX4_setting_22 (by decide) (by decide) (fun c_3 => ?_) (fun c_3 => ?_)
    · have n_c_3 : ¬ 0 < 0 := by omega
      refine lv_aload_n hx hb dX4_setting_29 rfl (lv_at hl 0 rfl) ?_
      refine va_get (D := D) (ci := 4) (v := .ref (r 1)) (C := RX4) (T := TX4) (N := 13) hx hb hts inX4 hown hE.1 hP 0 rfl rfl 1 (by decide) F7 (fun _ h9 => h9) rfl dX4_setting_30 ?_
      refine lv_iconst (v := nI 0) hx hb dX4_setting_33 (by decide) ?_
      refine lv_iload_n hx hb dX4_setting_34 rfl (lv_at hl 1 rfl) ?_
      refine nv_iadd (x := 0) (y := s9) hx hb dX4_setting_35 ?_
      refine va_iald hx hb hE.1 hP 1 0 rfl rfl (pk_in (0 + s9) 288 (by omega)) dX4_setting_36 ?_
      rw [pk_cl (0 + s9)]
      refine top_i (y := nI (stT T s9)) (((congrArg (zT T) (show 0 + s9 = s9 from by omega)).trans (zT_st (by omega))).trans (show T 10 s9 = nI (stT T s9) from eq_st hI (by omega))) ?_
      have hb_4 := st_lt hI (show s9 < 3 by omega)
      have ew : (refO r (nI 0) (nI sn) (nI ln) (nI pm) pn (nI sta) (nI ms) hs :: zC K r T :: sC K r sv :: bC K r cs :: pC K r pf :: fC K r fa :: Y) = (if q1 0 2 (nI s9) = 0 then refO r (nI 0) (nI sn) (nI ln) (nI pm) pn (nI sta) (nI ms) hs :: zC K r T :: sC K r sv :: bC K r cs :: pC K r pf :: fC K r fa :: Y else refO r (nI (q1 0 2 (nI s9))) (nI sn) (nI ln) (nI pm) pn (nI sta) (nI ms) hs :: zC K r T :: sC K r sv :: bC K r cs :: pC K r pf :: fC K r fa :: Y) := by have e9 : q1 0 2 (nI s9) = 0 := (by first | (simp [q1, c_1, t_s9, c_3, n_c_3]; done) | (subst_vars; simp [q1, c_1, t_s9, c_3, n_c_3])); rw [e9]; simp [ni0, bI_t, bI_f, nI_one, setT_eq, c_1, t_s9, c_3, n_c_3] <;> rfl
      rw [ew] at hP hD
      exact wr_iret hAe hP hD hS hx hb hr hk dX4_setting_37 ⟨Nat.le_of_ble_eq_true rfl, Nat.le_of_ble_eq_true rfl⟩ (by have e9 : q1 0 2 (nI s9) = 0 := (by first | (simp [q1, c_1, t_s9, c_3, n_c_3]; done) | (subst_vars; simp [q1, c_1, t_s9, c_3, n_c_3])); rw [e9]; simp [ni0, bI_t, bI_f, nI_one, setT_eq, c_1, t_s9, c_3, n_c_3] <;> rfl)
    exact absurd c_3 (by decide)
