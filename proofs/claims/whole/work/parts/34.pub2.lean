theorem hd_X4_refusal : yX4_refusal.cls = RX4 ∧ yX4_refusal.cls ≠ "java/lang/invoke/MethodHandle" ∧ yX4_refusal.cls ≠ "java/lang/invoke/VarHandle" ∧ (parseMethodDescriptor yX4_refusal.desc).map (fun d => d.parameters.length) = some 3 := by decide +kernel
theorem hn_X4_refusal : yX4_refusal.cls ≠ "java/lang/invoke/MethodHandle" ∧ yX4_refusal.cls ≠ "java/lang/invoke/VarHandle" ∧ (parseMethodDescriptor yX4_refusal.desc).map (fun d => d.parameters.length) = some 3 := hd_X4_refusal.2
theorem hd_X4_away : yX4_away.cls = RX4 ∧ yX4_away.cls ≠ "java/lang/invoke/MethodHandle" ∧ yX4_away.cls ≠ "java/lang/invoke/VarHandle" ∧ (parseMethodDescriptor yX4_away.desc).map (fun d => d.parameters.length) = some 2 := by decide +kernel
theorem hn_X4_away : yX4_away.cls ≠ "java/lang/invoke/MethodHandle" ∧ yX4_away.cls ≠ "java/lang/invoke/VarHandle" ∧ (parseMethodDescriptor yX4_away.desc).map (fun d => d.parameters.length) = some 2 := hd_X4_away.2
theorem hd_X4_cheapest : yX4_cheapest.cls = RX4 ∧ yX4_cheapest.cls ≠ "java/lang/invoke/MethodHandle" ∧ yX4_cheapest.cls ≠ "java/lang/invoke/VarHandle" ∧ (parseMethodDescriptor yX4_cheapest.desc).map (fun d => d.parameters.length) = some 2 := by decide +kernel
theorem hn_X4_cheapest : yX4_cheapest.cls ≠ "java/lang/invoke/MethodHandle" ∧ yX4_cheapest.cls ≠ "java/lang/invoke/VarHandle" ∧ (parseMethodDescriptor yX4_cheapest.desc).map (fun d => d.parameters.length) = some 2 := hd_X4_cheapest.2
theorem hd_X4_best : yX4_best.cls = RX4 ∧ yX4_best.cls ≠ "java/lang/invoke/MethodHandle" ∧ yX4_best.cls ≠ "java/lang/invoke/VarHandle" ∧ (parseMethodDescriptor yX4_best.desc).map (fun d => d.parameters.length) = some 2 := by decide +kernel
theorem hn_X4_best : yX4_best.cls ≠ "java/lang/invoke/MethodHandle" ∧ yX4_best.cls ≠ "java/lang/invoke/VarHandle" ∧ (parseMethodDescriptor yX4_best.desc).map (fun d => d.parameters.length) = some 2 := hd_X4_best.2
theorem hd_X4_ahead : yX4_ahead.cls = RX4 ∧ yX4_ahead.cls ≠ "java/lang/invoke/MethodHandle" ∧ yX4_ahead.cls ≠ "java/lang/invoke/VarHandle" ∧ (parseMethodDescriptor yX4_ahead.desc).map (fun d => d.parameters.length) = some 0 := by decide +kernel
theorem hn_X4_ahead : yX4_ahead.cls ≠ "java/lang/invoke/MethodHandle" ∧ yX4_ahead.cls ≠ "java/lang/invoke/VarHandle" ∧ (parseMethodDescriptor yX4_ahead.desc).map (fun d => d.parameters.length) = some 0 := hd_X4_ahead.2
theorem hd_X4_shared : yX4_shared.cls = RX4 ∧ yX4_shared.cls ≠ "java/lang/invoke/MethodHandle" ∧ yX4_shared.cls ≠ "java/lang/invoke/VarHandle" ∧ (parseMethodDescriptor yX4_shared.desc).map (fun d => d.parameters.length) = some 0 := by decide +kernel
theorem hn_X4_shared : yX4_shared.cls ≠ "java/lang/invoke/MethodHandle" ∧ yX4_shared.cls ≠ "java/lang/invoke/VarHandle" ∧ (parseMethodDescriptor yX4_shared.desc).map (fun d => d.parameters.length) = some 0 := hd_X4_shared.2
theorem hd_X4_clearBuffer : yX4_clearBuffer.cls = RX4 ∧ yX4_clearBuffer.cls ≠ "java/lang/invoke/MethodHandle" ∧ yX4_clearBuffer.cls ≠ "java/lang/invoke/VarHandle" ∧ (parseMethodDescriptor yX4_clearBuffer.desc).map (fun d => d.parameters.length) = some 0 := by decide +kernel
theorem hn_X4_clearBuffer : yX4_clearBuffer.cls ≠ "java/lang/invoke/MethodHandle" ∧ yX4_clearBuffer.cls ≠ "java/lang/invoke/VarHandle" ∧ (parseMethodDescriptor yX4_clearBuffer.desc).map (fun d => d.parameters.length) = some 0 := hd_X4_clearBuffer.2
theorem hd_X4_firstError : yX4_firstError.cls = RX4 ∧ yX4_firstError.cls ≠ "java/lang/invoke/MethodHandle" ∧ yX4_firstError.cls ≠ "java/lang/invoke/VarHandle" ∧ (parseMethodDescriptor yX4_firstError.desc).map (fun d => d.parameters.length) = some 0 := by decide +kernel
theorem hn_X4_firstError : yX4_firstError.cls ≠ "java/lang/invoke/MethodHandle" ∧ yX4_firstError.cls ≠ "java/lang/invoke/VarHandle" ∧ (parseMethodDescriptor yX4_firstError.desc).map (fun d => d.parameters.length) = some 0 := hd_X4_firstError.2
theorem hd_X4_thrown : yX4_thrown.cls = RX4 ∧ yX4_thrown.cls ≠ "java/lang/invoke/MethodHandle" ∧ yX4_thrown.cls ≠ "java/lang/invoke/VarHandle" ∧ (parseMethodDescriptor yX4_thrown.desc).map (fun d => d.parameters.length) = some 0 := by decide +kernel
theorem hn_X4_thrown : yX4_thrown.cls ≠ "java/lang/invoke/MethodHandle" ∧ yX4_thrown.cls ≠ "java/lang/invoke/VarHandle" ∧ (parseMethodDescriptor yX4_thrown.desc).map (fun d => d.parameters.length) = some 0 := hd_X4_thrown.2
theorem hd_X4_append : yX4_append.cls = RX4 ∧ yX4_append.cls ≠ "java/lang/invoke/MethodHandle" ∧ yX4_append.cls ≠ "java/lang/invoke/VarHandle" ∧ (parseMethodDescriptor yX4_append.desc).map (fun d => d.parameters.length) = some 1 := by decide +kernel
theorem hn_X4_append : yX4_append.cls ≠ "java/lang/invoke/MethodHandle" ∧ yX4_append.cls ≠ "java/lang/invoke/VarHandle" ∧ (parseMethodDescriptor yX4_append.desc).map (fun d => d.parameters.length) = some 1 := hd_X4_append.2
set_option maxHeartbeats 4000000 in
set_option maxRecDepth 100000 in
theorem c_X4_refusal (l : Launch) (D : va_G) (K : Nat → ClassId) (sz : Nat) (r : Nat → Nat) (th pn : Int32) (sn ln pm sta ms : Nat) (hs : Int64) (T : TW) (sv : Nat → Int32) (cs : Nat → Nat) (pf : Nat → Int32) (fa : Nat → Nat) (Y : va_W) (x g d : Int32) (hI : Inv T) : Wr l yX4_refusal wsX4_refusal ({ frames := 4, cells := 0, slots := 0, locals := 82 } : Room) D K (refO r th (nI sn) (nI ln) (nI pm) pn (nI sta) (nI ms) hs :: zC K r T :: sC K r sv :: bC K r cs :: pC K r pf :: fC K r fa :: Y) sz [.ref (r 0), .int x, .int g, .int d] (if rfE x g d = 0 then refO r (nI 0) (nI sn) (nI ln) (nI pm) pn (nI sta) (nI ms) hs :: zC K r T :: sC K r sv :: bC K r cs :: pC K r pf :: fC K r fa :: Y else refO r (nI (rfE x g d)) (nI sn) (nI ln) (nI pm) pn (nI sta) (nI ms) hs :: zC K r T :: sC K r sv :: bC K r cs :: pC K r pf :: fC K r fa :: Y) (some (.int (if rfE x g d = 0 then nI (whyT T (tn x) (hdT T (tn x)) (tn g) (tn d)) else 0))) 0 0 := by
  refine wr_intro (cc := cX4_refusal) (maxL := 4) (ret := (some .int)) (by decide) rfl (Nat.le_of_ble_eq_true rfl) ?_
  intro pr en st md ar bl mt co A hx hb hml hr hts hown hk hsz hAe hP hE hD hS hA hin ls hl
  have hown : st.vm.findClass RX4 = some md.cls := hown
  have hl : lv_has ls 4 [(0, .ref (r 0)), (1, .int x), (2, .int g), (3, .int d)] := hl
  obtain ⟨H, hH⟩ : ∃ z, z = st.heap := ⟨_, rfl⟩
  obtain ⟨locs, hlo⟩ : ∃ z : List Loc, z = [] := ⟨_, rfl⟩
  have hP : va_P D vwCl (refO r th (nI sn) (nI ln) (nI pm) pn (nI sta) (nI ms) hs :: zC K r T :: sC K r sv :: bC K r cs :: pC K r pf :: fC K r fa :: Y) H := by rw [hH]; exact hP
  have hS : va_S A st.heap H locs := by rw [hH, hlo]; exact hS
  suffices go : W pr l en (headSpec wsX4_refusal ({ frames := 4, cells := 0, slots := 0, locals := 82 } : Room)).room st md ar bl mt co H locs 0 0 (MQ bl (wrQ D (refO r th (nI sn) (nI ln) (nI pm) pn (nI sta) (nI ms) hs :: zC K r T :: sC K r sv :: bC K r cs :: pC K r pf :: fC K r fa :: Y) (if rfE x g d = 0 then refO r (nI 0) (nI sn) (nI ln) (nI pm) pn (nI sta) (nI ms) hs :: zC K r T :: sC K r sv :: bC K r cs :: pC K r pf :: fC K r fa :: Y else refO r (nI (rfE x g d)) (nI sn) (nI ln) (nI pm) pn (nI sta) (nI ms) hs :: zC K r T :: sC K r sv :: bC K r cs :: pC K r pf :: fC K r fa :: Y) sz (some (.int (if rfE x g d = 0 then nI (whyT T (tn x) (hdT T (tn x)) (tn g) (tn d)) else 0)))) ar st 0 0 A) (F0 md 0 ls []) by rw [hH, hlo] at go; exact go
  clear hH hlo
  have F29 : (Cond.fieldLink RX4 29 "TramTollsModel" "thrown" "I").before ar st = true := hts _ (List.mem_of_getElem? (i := 1) rfl)
  have inX4 : ∀ w ∈ u_ws RX4 TX4 13, w ∈ wsX4_refusal := fun w h => List.mem_cons_of_mem _ (List.mem_append_right _ h)
  refine lv_aload_n hx hb dX4_refusal_0 rfl (lv_at hl 0 rfl) ?_
  refine lv_iload_n hx hb dX4_refusal_1 rfl (lv_at hl 1 rfl) ?_
  refine rd_S (rest := [.ref (r 0)]) ⟨hx, hb, hml, hown, hts⟩ hP hE (c_X4_isPlayer l D K _ x) (va_cwS 1 hts gX4_refusal_X4_isPlayer rfl rfl rfl hn_X4_isPlayer ⟨Nat.le_of_ble_eq_true rfl, Nat.le_of_ble_eq_true rfl⟩) rfl hl.1 rfl (Nat.le_of_ble_eq_true rfl) dX4_refusal_2 ⟨Nat.le_of_ble_eq_true rfl, Nat.le_of_ble_eq_true rfl⟩ ?_
  refine bv_if_ne (x := inR 0 3 x) (tgt := 12) hx hb dX4_refusal_5 (by decide) (fun c_1 => ?_) (fun c_1 => ?_)
  · obtain ⟨s9, lo_s9, hi_s9, e_s9⟩ := inR_nL (a := 0) (b := 3) rfl rfl (by decide) (by decide) c_1
    subst e_s9
    have t_s9 := tn_nI (n := s9) (by omega)
    refine lv_iload_n hx hb dX4_refusal_12 rfl (lv_at hl 2 rfl) ?_
    refine lv_iconst (v := nI 1) hx hb dX4_refusal_13 (by decide) ?_
    refine lv_bipush (v := nI 6) hx hb dX4_refusal_14 (by decide) ?_
    refine rd_S (rest := [.ref (r 0)]) ⟨hx, hb, hml, hown, hts⟩ hP hE (c_X4_in l D K _ g 1 6) (va_cwS 3 hts gX4_refusal_X4_in rfl rfl rfl hn_X4_in ⟨Nat.le_of_ble_eq_true rfl, Nat.le_of_ble_eq_true rfl⟩) rfl hl.1 rfl (Nat.le_of_ble_eq_true rfl) dX4_refusal_16 ⟨Nat.le_of_ble_eq_true rfl, Nat.le_of_ble_eq_true rfl⟩ ?_
    refine bv_if_eq (x := inR 1 6 g) (tgt := 35) hx hb dX4_refusal_19 (by decide) (fun c_2 => ?_) (fun c_2 => ?_)
    · refine lv_iconst (v := nI 2) hx hb dX4_refusal_35 (by decide) ?_
      refine va_put (D := D) (ci := 4) (v := .int (nI 2)) (ty := .int) (C := RX4) (T := TX4) (N := 13) hx hb hts inX4 tyX4 tyX4_ok nmX4 hown hE.1 hP hD hS 0 rfl rfl 0 (by decide) F29 (fun _ h9 => h9) rfl (by decide +kernel) rfl rfl (Nat.le_of_ble_eq_true rfl) dX4_refusal_36 (fun H locs hP hD hS => ?_)
      have hP : va_P D vwCl (refO r (nI 2) (nI sn) (nI ln) (nI pm) pn (nI sta) (nI ms) hs :: zC K r T :: sC K r sv :: bC K r cs :: pC K r pf :: fC K r fa :: Y) H := hP
      have hD : va_D A (refO r (nI 2) (nI sn) (nI ln) (nI pm) pn (nI sta) (nI ms) hs :: zC K r T :: sC K r sv :: bC K r cs :: pC K r pf :: fC K r fa :: Y) := hD
      refine lv_aload_n hx hb dX4_refusal_39 rfl (lv_at hl 0 rfl) ?_
      refine va_get (D := D) (ci := 4) (v := .int (nI 2)) (C := RX4) (T := TX4) (N := 13) hx hb hts inX4 hown hE.1 hP 0 rfl rfl 0 (by decide) F29 (fun _ h9 => h9) rfl dX4_refusal_40 ?_
      refine nv_if_le (x := 2) (tgt := 50) hx hb dX4_refusal_43 (by decide) (by decide) (fun c_3 => ?_) (fun c_3 => ?_)
      · exact absurd c_3 (by decide)
      have n_c_3 : ¬ 2 = 0 := by omega
      refine lv_iconst (v := nI 0) hx hb dX4_refusal_46 (by decide) ?_
      refine lv_goto (tgt := 63) hx hb dX4_refusal_47 (by decide) ?_
      have ew : (refO r (nI 2) (nI sn) (nI ln) (nI pm) pn (nI sta) (nI ms) hs :: zC K r T :: sC K r sv :: bC K r cs :: pC K r pf :: fC K r fa :: Y) = (if rfE (nI s9) g d = 0 then refO r (nI 0) (nI sn) (nI ln) (nI pm) pn (nI sta) (nI ms) hs :: zC K r T :: sC K r sv :: bC K r cs :: pC K r pf :: fC K r fa :: Y else refO r (nI (rfE (nI s9) g d)) (nI sn) (nI ln) (nI pm) pn (nI sta) (nI ms) hs :: zC K r T :: sC K r sv :: bC K r cs :: pC K r pf :: fC K r fa :: Y) := by have e9 : rfE (nI s9) g d = 2 := (by first | (simp [rfE, c_1, t_s9, c_2, c_3, n_c_3]; done) | (subst_vars; simp [rfE, c_1, t_s9, c_2, c_3, n_c_3])); rw [e9]; simp [ni0, bI_t, bI_f, nI_one, setT_eq, c_1, t_s9, c_2, c_3, n_c_3] <;> rfl
      rw [ew] at hP hD
      exact wr_iret hAe hP hD hS hx hb hr hk dX4_refusal_63 ⟨Nat.le_of_ble_eq_true rfl, Nat.le_of_ble_eq_true rfl⟩ (by have e9 : rfE (nI s9) g d = 2 := (by first | (simp [rfE, c_1, t_s9, c_2, c_3, n_c_3]; done) | (subst_vars; simp [rfE, c_1, t_s9, c_2, c_3, n_c_3])); rw [e9]; simp [ni0, bI_t, bI_f, nI_one, setT_eq, c_1, t_s9, c_2, c_3, n_c_3] <;> rfl)
    · obtain ⟨g9, lo_g9, hi_g9, e_g9⟩ := inR_nL (a := 1) (b := 6) rfl rfl (by decide) (by decide) c_2
      subst e_g9
      have t_g9 := tn_nI (n := g9) (by omega)
      refine lv_iload_n hx hb dX4_refusal_22 rfl (lv_at hl 3 rfl) ?_
      refine lv_iconst (v := nI 0) hx hb dX4_refusal_23 (by decide) ?_
      refine lv_iconst (v := nI 3) hx hb dX4_refusal_24 (by decide) ?_
      refine rd_S (rest := [.ref (r 0)]) ⟨hx, hb, hml, hown, hts⟩ hP hE (c_X4_in l D K _ d 0 3) (va_cwS 3 hts gX4_refusal_X4_in rfl rfl rfl hn_X4_in ⟨Nat.le_of_ble_eq_true rfl, Nat.le_of_ble_eq_true rfl⟩) rfl hl.1 rfl (Nat.le_of_ble_eq_true rfl) dX4_refusal_25 ⟨Nat.le_of_ble_eq_true rfl, Nat.le_of_ble_eq_true rfl⟩ ?_
      refine bv_if_eq (x := inR 0 3 d) (tgt := 35) hx hb dX4_refusal_28 (by decide) (fun c_4 => ?_) (fun c_4 => ?_)
      · refine lv_iconst (v := nI 2) hx hb dX4_refusal_35 (by decide) ?_
        refine va_put (D := D) (ci := 4) (v := .int (nI 2)) (ty := .int) (C := RX4) (T := TX4) (N := 13) hx hb hts inX4 tyX4 tyX4_ok nmX4 hown hE.1 hP hD hS 0 rfl rfl 0 (by decide) F29 (fun _ h9 => h9) rfl (by decide +kernel) rfl rfl (Nat.le_of_ble_eq_true rfl) dX4_refusal_36 (fun H locs hP hD hS => ?_)
        have hP : va_P D vwCl (refO r (nI 2) (nI sn) (nI ln) (nI pm) pn (nI sta) (nI ms) hs :: zC K r T :: sC K r sv :: bC K r cs :: pC K r pf :: fC K r fa :: Y) H := hP
        have hD : va_D A (refO r (nI 2) (nI sn) (nI ln) (nI pm) pn (nI sta) (nI ms) hs :: zC K r T :: sC K r sv :: bC K r cs :: pC K r pf :: fC K r fa :: Y) := hD
        refine lv_aload_n hx hb dX4_refusal_39 rfl (lv_at hl 0 rfl) ?_
        refine va_get (D := D) (ci := 4) (v := .int (nI 2)) (C := RX4) (T := TX4) (N := 13) hx hb hts inX4 hown hE.1 hP 0 rfl rfl 0 (by decide) F29 (fun _ h9 => h9) rfl dX4_refusal_40 ?_
        refine nv_if_le (x := 2) (tgt := 50) hx hb dX4_refusal_43 (by decide) (by decide) (fun c_5 => ?_) (fun c_5 => ?_)
        · exact absurd c_5 (by decide)
        have n_c_5 : ¬ 2 = 0 := by omega
        refine lv_iconst (v := nI 0) hx hb dX4_refusal_46 (by decide) ?_
        refine lv_goto (tgt := 63) hx hb dX4_refusal_47 (by decide) ?_
        have ew : (refO r (nI 2) (nI sn) (nI ln) (nI pm) pn (nI sta) (nI ms) hs :: zC K r T :: sC K r sv :: bC K r cs :: pC K r pf :: fC K r fa :: Y) = (if rfE (nI s9) (nI g9) d = 0 then refO r (nI 0) (nI sn) (nI ln) (nI pm) pn (nI sta) (nI ms) hs :: zC K r T :: sC K r sv :: bC K r cs :: pC K r pf :: fC K r fa :: Y else refO r (nI (rfE (nI s9) (nI g9) d)) (nI sn) (nI ln) (nI pm) pn (nI sta) (nI ms) hs :: zC K r T :: sC K r sv :: bC K r cs :: pC K r pf :: fC K r fa :: Y) := by have e9 : rfE (nI s9) (nI g9) d = 2 := (by first | (simp [rfE, c_1, t_s9, c_2, t_g9, c_4, c_5, n_c_5]; done) | (subst_vars; simp [rfE, c_1, t_s9, c_2, t_g9, c_4, c_5, n_c_5])); rw [e9]; simp [ni0, bI_t, bI_f, nI_one, setT_eq, c_1, t_s9, c_2, t_g9, c_4, c_5, n_c_5] <;> rfl
        rw [ew] at hP hD
        exact wr_iret hAe hP hD hS hx hb hr hk dX4_refusal_63 ⟨Nat.le_of_ble_eq_true rfl, Nat.le_of_ble_eq_true rfl⟩ (by have e9 : rfE (nI s9) (nI g9) d = 2 := (by first | (simp [rfE, c_1, t_s9, c_2, t_g9, c_4, c_5, n_c_5]; done) | (subst_vars; simp [rfE, c_1, t_s9, c_2, t_g9, c_4, c_5, n_c_5])); rw [e9]; simp [ni0, bI_t, bI_f, nI_one, setT_eq, c_1, t_s9, c_2, t_g9, c_4, c_5, n_c_5] <;> rfl)
      · obtain ⟨d9, lo_d9, hi_d9, e_d9⟩ := inR_nL (a := 0) (b := 3) rfl rfl (by decide) (by decide) c_4
        subst e_d9
        have t_d9 := tn_nI (n := d9) (by omega)
        refine lv_iconst (v := nI 0) hx hb dX4_refusal_31 (by decide) ?_
        refine lv_goto (tgt := 36) hx hb dX4_refusal_32 (by decide) ?_
        refine va_put (D := D) (ci := 4) (v := .int (nI 0)) (ty := .int) (C := RX4) (T := TX4) (N := 13) hx hb hts inX4 tyX4 tyX4_ok nmX4 hown hE.1 hP hD hS 0 rfl rfl 0 (by decide) F29 (fun _ h9 => h9) rfl (by decide +kernel) rfl rfl (Nat.le_of_ble_eq_true rfl) dX4_refusal_36 (fun H locs hP hD hS => ?_)
        have hP : va_P D vwCl (refO r (nI 0) (nI sn) (nI ln) (nI pm) pn (nI sta) (nI ms) hs :: zC K r T :: sC K r sv :: bC K r cs :: pC K r pf :: fC K r fa :: Y) H := hP
        have hD : va_D A (refO r (nI 0) (nI sn) (nI ln) (nI pm) pn (nI sta) (nI ms) hs :: zC K r T :: sC K r sv :: bC K r cs :: pC K r pf :: fC K r fa :: Y) := hD
        refine lv_aload_n hx hb dX4_refusal_39 rfl (lv_at hl 0 rfl) ?_
        refine va_get (D := D) (ci := 4) (v := .int (nI 0)) (C := RX4) (T := TX4) (N := 13) hx hb hts inX4 hown hE.1 hP 0 rfl rfl 0 (by decide) F29 (fun _ h9 => h9) rfl dX4_refusal_40 ?_
        refine nv_if_le (x := 0) (tgt := 50) hx hb dX4_refusal_43 (by decide) (by decide) (fun c_6 => ?_) (fun c_6 => ?_)
        · have n_c_6 : ¬ 0 < 0 := by omega
          refine lv_aload_n hx hb dX4_refusal_50 rfl (lv_at hl 0 rfl) ?_
          refine lv_iload_n hx hb dX4_refusal_51 rfl (lv_at hl 1 rfl) ?_
          refine lv_aload_n hx hb dX4_refusal_52 rfl (lv_at hl 0 rfl) ?_
          refine lv_iload_n hx hb dX4_refusal_53 rfl (lv_at hl 1 rfl) ?_
          refine lv_iconst (v := nI 1) hx hb dX4_refusal_54 (by decide) ?_
          refine rd_V (rest := [.int (nI s9), .ref (r 0)]) (ci := 4) (q0 := 0) ⟨hx, hb, hml, hown, hts⟩ hP hE (c_X4_of l D K _ _ _ _ _ _ _ _ _ _ _ s9 1 (by omega) (by omega)) (cwV 2 hts gX4_refusal_X4_of rfl rfl rfl hd_X4_of ⟨Nat.le_of_ble_eq_true rfl, Nat.le_of_ble_eq_true rfl⟩) rfl rfl rfl rfl hl.1 rfl (Nat.le_of_ble_eq_true rfl) dX4_refusal_55 ⟨Nat.le_of_ble_eq_true rfl, Nat.le_of_ble_eq_true rfl⟩ ?_
          refine top_i (y := nI (hdT T s9)) (((congrArg (zT T) (show 268 + 5 * s9 + 1 = 268 + 5 * s9 + 1 from by omega)).trans (zT_pp (w := 1) (by omega) (by decide))).trans (show T 6 s9 = nI (hdT T s9) from eq_hd hI (by omega))) ?_
          have hb_7 := hd_lt hI (show s9 < 4 by omega)
          refine lv_iload_n hx hb dX4_refusal_58 rfl (lv_at hl 2 rfl) ?_
          refine lv_iload_n hx hb dX4_refusal_59 rfl (lv_at hl 3 rfl) ?_
          refine rd_V (rest := []) (ci := 4) (q0 := 0) ⟨hx, hb, hml, hown, hts⟩ hP hE (c_X4_whyNot l D K _ _ _ _ _ _ _ _ _ _ _ s9 (hdT T s9) g9 d9 hI (by omega) (by omega) (by omega) (by omega)) (cwV 4 hts gX4_refusal_X4_whyNot rfl rfl rfl hd_X4_whyNot ⟨Nat.le_of_ble_eq_true rfl, Nat.le_of_ble_eq_true rfl⟩) rfl rfl rfl rfl hl.1 rfl (Nat.le_of_ble_eq_true rfl) dX4_refusal_60 ⟨Nat.le_of_ble_eq_true rfl, Nat.le_of_ble_eq_true rfl⟩ ?_
          have hb_8 := why_lt T s9 (hdT T s9) g9 d9
          have ew : (refO r (nI 0) (nI sn) (nI ln) (nI pm) pn (nI sta) (nI ms) hs :: zC K r T :: sC K r sv :: bC K r cs :: pC K r pf :: fC K r fa :: Y) = (if rfE (nI s9) (nI g9) (nI d9) = 0 then refO r (nI 0) (nI sn) (nI ln) (nI pm) pn (nI sta) (nI ms) hs :: zC K r T :: sC K r sv :: bC K r cs :: pC K r pf :: fC K r fa :: Y else refO r (nI (rfE (nI s9) (nI g9) (nI d9))) (nI sn) (nI ln) (nI pm) pn (nI sta) (nI ms) hs :: zC K r T :: sC K r sv :: bC K r cs :: pC K r pf :: fC K r fa :: Y) := by have e9 : rfE (nI s9) (nI g9) (nI d9) = 0 := (by first | (simp [rfE, c_1, t_s9, c_2, t_g9, c_4, t_d9, c_6, n_c_6]; done) | (subst_vars; simp [rfE, c_1, t_s9, c_2, t_g9, c_4, t_d9, c_6, n_c_6])); rw [e9]; simp [ni0, bI_t, bI_f, nI_one, setT_eq, c_1, t_s9, c_2, t_g9, c_4, t_d9, c_6, n_c_6] <;> rfl
          rw [ew] at hP hD
          exact wr_iret hAe hP hD hS hx hb hr hk dX4_refusal_63 ⟨Nat.le_of_ble_eq_true rfl, Nat.le_of_ble_eq_true rfl⟩ (by have e9 : rfE (nI s9) (nI g9) (nI d9) = 0 := (by first | (simp [rfE, c_1, t_s9, c_2, t_g9, c_4, t_d9, c_6, n_c_6]; done) | (subst_vars; simp [rfE, c_1, t_s9, c_2, t_g9, c_4, t_d9, c_6, n_c_6])); rw [e9]; simp [ni0, bI_t, bI_f, nI_one, setT_eq, c_1, t_s9, c_2, t_g9, c_4, t_d9, c_6, n_c_6] <;> rfl)
        exact absurd c_6 (by decide)
  · refine lv_iconst (v := nI 1) hx hb dX4_refusal_8 (by decide) ?_
    refine lv_goto (tgt := 36) hx hb dX4_refusal_9 (by decide) ?_
    refine va_put (D := D) (ci := 4) (v := .int (nI 1)) (ty := .int) (C := RX4) (T := TX4) (N := 13) hx hb hts inX4 tyX4 tyX4_ok nmX4 hown hE.1 hP hD hS 0 rfl rfl 0 (by decide) F29 (fun _ h9 => h9) rfl (by decide +kernel) rfl rfl (Nat.le_of_ble_eq_true rfl) dX4_refusal_36 (fun H locs hP hD hS => ?_)
    have hP : va_P D vwCl (refO r (nI 1) (nI sn) (nI ln) (nI pm) pn (nI sta) (nI ms) hs :: zC K r T :: sC K r sv :: bC K r cs :: pC K r pf :: fC K r fa :: Y) H := hP
    have hD : va_D A (refO r (nI 1) (nI sn) (nI ln) (nI pm) pn (nI sta) (nI ms) hs :: zC K r T :: sC K r sv :: bC K r cs :: pC K r pf :: fC K r fa :: Y) := hD
    refine lv_aload_n hx hb dX4_refusal_39 rfl (lv_at hl 0 rfl) ?_
    refine va_get (D := D) (ci := 4) (v := .int (nI 1)) (C := RX4) (T := TX4) (N := 13) hx hb hts inX4 hown hE.1 hP 0 rfl rfl 0 (by decide) F29 (fun _ h9 => h9) rfl dX4_refusal_40 ?_
    refine nv_if_le (x := 1) (tgt := 50) hx hb dX4_refusal_43 (by decide) (by decide) (fun c_9 => ?_) (fun c_9 => ?_)
    · exact absurd c_9 (by decide)
    have n_c_9 : ¬ 1 = 0 := by omega
    refine lv_iconst (v := nI 0) hx hb dX4_refusal_46 (by decide) ?_
    refine lv_goto (tgt := 63) hx hb dX4_refusal_47 (by decide) ?_
    have ew : (refO r (nI 1) (nI sn) (nI ln) (nI pm) pn (nI sta) (nI ms) hs :: zC K r T :: sC K r sv :: bC K r cs :: pC K r pf :: fC K r fa :: Y) = (if rfE x g d = 0 then refO r (nI 0) (nI sn) (nI ln) (nI pm) pn (nI sta) (nI ms) hs :: zC K r T :: sC K r sv :: bC K r cs :: pC K r pf :: fC K r fa :: Y else refO r (nI (rfE x g d)) (nI sn) (nI ln) (nI pm) pn (nI sta) (nI ms) hs :: zC K r T :: sC K r sv :: bC K r cs :: pC K r pf :: fC K r fa :: Y) := by have e9 : rfE x g d = 1 := (by first | (simp [rfE, c_1, c_9, n_c_9]; done) | (subst_vars; simp [rfE, c_1, c_9, n_c_9])); rw [e9]; simp [ni0, bI_t, bI_f, nI_one, setT_eq, c_1, c_9, n_c_9] <;> rfl
    rw [ew] at hP hD
    exact wr_iret hAe hP hD hS hx hb hr hk dX4_refusal_63 ⟨Nat.le_of_ble_eq_true rfl, Nat.le_of_ble_eq_true rfl⟩ (by have e9 : rfE x g d = 1 := (by first | (simp [rfE, c_1, c_9, n_c_9]; done) | (subst_vars; simp [rfE, c_1, c_9, n_c_9])); rw [e9]; simp [ni0, bI_t, bI_f, nI_one, setT_eq, c_1, c_9, n_c_9] <;> rfl)
set_option maxHeartbeats 4000000 in
set_option maxRecDepth 100000 in
theorem c_X4_away (l : Launch) (D : va_G) (K : Nat → ClassId) (sz : Nat) (r : Nat → Nat) (th pn : Int32) (sn ln pm sta ms : Nat) (hs : Int64) (T : TW) (sv : Nat → Int32) (cs : Nat → Nat) (pf : Nat → Int32) (fa : Nat → Nat) (Y : va_W) (x b : Int32) (hI : Inv T) : Wr l yX4_away wsX4_away ({ frames := 5, cells := 0, slots := 0, locals := 106 } : Room) D K (refO r th (nI sn) (nI ln) (nI pm) pn (nI sta) (nI ms) hs :: zC K r T :: sC K r sv :: bC K r cs :: pC K r pf :: fC K r fa :: Y) sz [.ref (r 0), .int x, .int b] (if awE x b = 0 then refO r (nI 0) (nI sn) (nI ln) (nI pm) pn (nI sta) (nI ms) hs :: zC K r T :: sC K r sv :: bC K r cs :: pC K r pf :: fC K r (dst T (tn x) 0) :: Y else refO r (nI (awE x b)) (nI sn) (nI ln) (nI pm) pn (nI sta) (nI ms) hs :: zC K r T :: sC K r sv :: bC K r cs :: pC K r pf :: fC K r fa :: Y) (some (.int (if awE x b = 0 then oI (wyO (dst T (tn x) 0 (tn b))) else 0))) 0 0 := by
  refine wr_intro (cc := cX4_away) (maxL := 3) (ret := (some .int)) (by decide) rfl (Nat.le_of_ble_eq_true rfl) ?_
  intro pr en st md ar bl mt co A hx hb hml hr hts hown hk hsz hAe hP hE hD hS hA hin ls hl
  have hown : st.vm.findClass RX4 = some md.cls := hown
  have hl : lv_has ls 3 [(0, .ref (r 0)), (1, .int x), (2, .int b)] := hl
  obtain ⟨H, hH⟩ : ∃ z, z = st.heap := ⟨_, rfl⟩
  obtain ⟨locs, hlo⟩ : ∃ z : List Loc, z = [] := ⟨_, rfl⟩
  have hP : va_P D vwCl (refO r th (nI sn) (nI ln) (nI pm) pn (nI sta) (nI ms) hs :: zC K r T :: sC K r sv :: bC K r cs :: pC K r pf :: fC K r fa :: Y) H := by rw [hH]; exact hP
  have hS : va_S A st.heap H locs := by rw [hH, hlo]; exact hS
  suffices go : W pr l en (headSpec wsX4_away ({ frames := 5, cells := 0, slots := 0, locals := 106 } : Room)).room st md ar bl mt co H locs 0 0 (MQ bl (wrQ D (refO r th (nI sn) (nI ln) (nI pm) pn (nI sta) (nI ms) hs :: zC K r T :: sC K r sv :: bC K r cs :: pC K r pf :: fC K r fa :: Y) (if awE x b = 0 then refO r (nI 0) (nI sn) (nI ln) (nI pm) pn (nI sta) (nI ms) hs :: zC K r T :: sC K r sv :: bC K r cs :: pC K r pf :: fC K r (dst T (tn x) 0) :: Y else refO r (nI (awE x b)) (nI sn) (nI ln) (nI pm) pn (nI sta) (nI ms) hs :: zC K r T :: sC K r sv :: bC K r cs :: pC K r pf :: fC K r fa :: Y) sz (some (.int (if awE x b = 0 then oI (wyO (dst T (tn x) 0 (tn b))) else 0)))) ar st 0 0 A) (F0 md 0 ls []) by rw [hH, hlo] at go; exact go
  clear hH hlo
  have F29 : (Cond.fieldLink RX4 29 "TramTollsModel" "thrown" "I").before ar st = true := hts _ (List.mem_of_getElem? (i := 1) rfl)
  have inX4 : ∀ w ∈ u_ws RX4 TX4 13, w ∈ wsX4_away := fun w h => List.mem_cons_of_mem _ (List.mem_append_right _ h)
  refine lv_aload_n hx hb dX4_away_0 rfl (lv_at hl 0 rfl) ?_
  refine lv_iload_n hx hb dX4_away_1 rfl (lv_at hl 1 rfl) ?_
  refine rd_S (rest := [.ref (r 0)]) ⟨hx, hb, hml, hown, hts⟩ hP hE (c_X4_isPlayer l D K _ x) (va_cwS 1 hts gX4_away_X4_isPlayer rfl rfl rfl hn_X4_isPlayer ⟨Nat.le_of_ble_eq_true rfl, Nat.le_of_ble_eq_true rfl⟩) rfl hl.1 rfl (Nat.le_of_ble_eq_true rfl) dX4_away_2 ⟨Nat.le_of_ble_eq_true rfl, Nat.le_of_ble_eq_true rfl⟩ ?_
  refine bv_if_eq (x := inR 0 3 x) (tgt := 19) hx hb dX4_away_5 (by decide) (fun c_1 => ?_) (fun c_1 => ?_)
  · refine lv_iconst (v := nI 1) hx hb dX4_away_19 (by decide) ?_
    refine va_put (D := D) (ci := 4) (v := .int (nI 1)) (ty := .int) (C := RX4) (T := TX4) (N := 13) hx hb hts inX4 tyX4 tyX4_ok nmX4 hown hE.1 hP hD hS 0 rfl rfl 0 (by decide) F29 (fun _ h9 => h9) rfl (by decide +kernel) rfl rfl (Nat.le_of_ble_eq_true rfl) dX4_away_20 (fun H locs hP hD hS => ?_)
    have hP : va_P D vwCl (refO r (nI 1) (nI sn) (nI ln) (nI pm) pn (nI sta) (nI ms) hs :: zC K r T :: sC K r sv :: bC K r cs :: pC K r pf :: fC K r fa :: Y) H := hP
    have hD : va_D A (refO r (nI 1) (nI sn) (nI ln) (nI pm) pn (nI sta) (nI ms) hs :: zC K r T :: sC K r sv :: bC K r cs :: pC K r pf :: fC K r fa :: Y) := hD
    refine lv_aload_n hx hb dX4_away_23 rfl (lv_at hl 0 rfl) ?_
    refine va_get (D := D) (ci := 4) (v := .int (nI 1)) (C := RX4) (T := TX4) (N := 13) hx hb hts inX4 hown hE.1 hP 0 rfl rfl 0 (by decide) F29 (fun _ h9 => h9) rfl dX4_away_24 ?_
    refine nv_if_le (x := 1) (tgt := 34) hx hb dX4_away_27 (by decide) (by decide) (fun c_2 => ?_) (fun c_2 => ?_)
    · exact absurd c_2 (by decide)
    have n_c_2 : ¬ 1 = 0 := by omega
    refine lv_iconst (v := nI 0) hx hb dX4_away_30 (by decide) ?_
    refine lv_goto (tgt := 41) hx hb dX4_away_31 (by decide) ?_
    have ew : (refO r (nI 1) (nI sn) (nI ln) (nI pm) pn (nI sta) (nI ms) hs :: zC K r T :: sC K r sv :: bC K r cs :: pC K r pf :: fC K r fa :: Y) = (if awE x b = 0 then refO r (nI 0) (nI sn) (nI ln) (nI pm) pn (nI sta) (nI ms) hs :: zC K r T :: sC K r sv :: bC K r cs :: pC K r pf :: fC K r (dst T (tn x) 0) :: Y else refO r (nI (awE x b)) (nI sn) (nI ln) (nI pm) pn (nI sta) (nI ms) hs :: zC K r T :: sC K r sv :: bC K r cs :: pC K r pf :: fC K r fa :: Y) := by have e9 : awE x b = 1 := (by first | (simp [awE, c_1, c_2, n_c_2]; done) | (subst_vars; simp [awE, c_1, c_2, n_c_2])); rw [e9]; simp [ni0, bI_t, bI_f, nI_one, setT_eq, c_1, c_2, n_c_2] <;> rfl
    rw [ew] at hP hD
    exact wr_iret hAe hP hD hS hx hb hr hk dX4_away_41 ⟨Nat.le_of_ble_eq_true rfl, Nat.le_of_ble_eq_true rfl⟩ (by have e9 : awE x b = 1 := (by first | (simp [awE, c_1, c_2, n_c_2]; done) | (subst_vars; simp [awE, c_1, c_2, n_c_2])); rw [e9]; simp [ni0, bI_t, bI_f, nI_one, setT_eq, c_1, c_2, n_c_2] <;> rfl)
  · obtain ⟨s9, lo_s9, hi_s9, e_s9⟩ := inR_nL (a := 0) (b := 3) rfl rfl (by decide) (by decide) c_1
    subst e_s9
    have t_s9 := tn_nI (n := s9) (by omega)
    refine lv_iload_n hx hb dX4_away_8 rfl (lv_at hl 2 rfl) ?_
    refine rd_S (rest := [.ref (r 0)]) ⟨hx, hb, hml, hown, hts⟩ hP hE (c_X4_isSquare l D K _ b) (va_cwS 1 hts gX4_away_X4_isSquare rfl rfl rfl hn_X4_isSquare ⟨Nat.le_of_ble_eq_true rfl, Nat.le_of_ble_eq_true rfl⟩) rfl hl.1 rfl (Nat.le_of_ble_eq_true rfl) dX4_away_9 ⟨Nat.le_of_ble_eq_true rfl, Nat.le_of_ble_eq_true rfl⟩ ?_
    refine bv_if_eq (x := inR 0 79 b) (tgt := 19) hx hb dX4_away_12 (by decide) (fun c_3 => ?_) (fun c_3 => ?_)
    · refine lv_iconst (v := nI 1) hx hb dX4_away_19 (by decide) ?_
      refine va_put (D := D) (ci := 4) (v := .int (nI 1)) (ty := .int) (C := RX4) (T := TX4) (N := 13) hx hb hts inX4 tyX4 tyX4_ok nmX4 hown hE.1 hP hD hS 0 rfl rfl 0 (by decide) F29 (fun _ h9 => h9) rfl (by decide +kernel) rfl rfl (Nat.le_of_ble_eq_true rfl) dX4_away_20 (fun H locs hP hD hS => ?_)
      have hP : va_P D vwCl (refO r (nI 1) (nI sn) (nI ln) (nI pm) pn (nI sta) (nI ms) hs :: zC K r T :: sC K r sv :: bC K r cs :: pC K r pf :: fC K r fa :: Y) H := hP
      have hD : va_D A (refO r (nI 1) (nI sn) (nI ln) (nI pm) pn (nI sta) (nI ms) hs :: zC K r T :: sC K r sv :: bC K r cs :: pC K r pf :: fC K r fa :: Y) := hD
      refine lv_aload_n hx hb dX4_away_23 rfl (lv_at hl 0 rfl) ?_
      refine va_get (D := D) (ci := 4) (v := .int (nI 1)) (C := RX4) (T := TX4) (N := 13) hx hb hts inX4 hown hE.1 hP 0 rfl rfl 0 (by decide) F29 (fun _ h9 => h9) rfl dX4_away_24 ?_
      refine nv_if_le (x := 1) (tgt := 34) hx hb dX4_away_27 (by decide) (by decide) (fun c_4 => ?_) (fun c_4 => ?_)
      · exact absurd c_4 (by decide)
      have n_c_4 : ¬ 1 = 0 := by omega
      refine lv_iconst (v := nI 0) hx hb dX4_away_30 (by decide) ?_
      refine lv_goto (tgt := 41) hx hb dX4_away_31 (by decide) ?_
      have ew : (refO r (nI 1) (nI sn) (nI ln) (nI pm) pn (nI sta) (nI ms) hs :: zC K r T :: sC K r sv :: bC K r cs :: pC K r pf :: fC K r fa :: Y) = (if awE (nI s9) b = 0 then refO r (nI 0) (nI sn) (nI ln) (nI pm) pn (nI sta) (nI ms) hs :: zC K r T :: sC K r sv :: bC K r cs :: pC K r pf :: fC K r (dst T (tn (nI s9)) 0) :: Y else refO r (nI (awE (nI s9) b)) (nI sn) (nI ln) (nI pm) pn (nI sta) (nI ms) hs :: zC K r T :: sC K r sv :: bC K r cs :: pC K r pf :: fC K r fa :: Y) := by have e9 : awE (nI s9) b = 1 := (by first | (simp [awE, c_1, t_s9, c_3, c_4, n_c_4]; done) | (subst_vars; simp [awE, c_1, t_s9, c_3, c_4, n_c_4])); rw [e9]; simp [ni0, bI_t, bI_f, nI_one, setT_eq, c_1, t_s9, c_3, c_4, n_c_4] <;> rfl
      rw [ew] at hP hD
      exact wr_iret hAe hP hD hS hx hb hr hk dX4_away_41 ⟨Nat.le_of_ble_eq_true rfl, Nat.le_of_ble_eq_true rfl⟩ (by have e9 : awE (nI s9) b = 1 := (by first | (simp [awE, c_1, t_s9, c_3, c_4, n_c_4]; done) | (subst_vars; simp [awE, c_1, t_s9, c_3, c_4, n_c_4])); rw [e9]; simp [ni0, bI_t, bI_f, nI_one, setT_eq, c_1, t_s9, c_3, c_4, n_c_4] <;> rfl)
    · obtain ⟨b9, lo_b9, hi_b9, e_b9⟩ := inR_nL (a := 0) (b := 79) rfl rfl (by decide) (by decide) c_3
      subst e_b9
      have t_b9 := tn_nI (n := b9) (by omega)
      refine lv_iconst (v := nI 0) hx hb dX4_away_15 (by decide) ?_
      refine lv_goto (tgt := 20) hx hb dX4_away_16 (by decide) ?_
      refine va_put (D := D) (ci := 4) (v := .int (nI 0)) (ty := .int) (C := RX4) (T := TX4) (N := 13) hx hb hts inX4 tyX4 tyX4_ok nmX4 hown hE.1 hP hD hS 0 rfl rfl 0 (by decide) F29 (fun _ h9 => h9) rfl (by decide +kernel) rfl rfl (Nat.le_of_ble_eq_true rfl) dX4_away_20 (fun H locs hP hD hS => ?_)
      have hP : va_P D vwCl (refO r (nI 0) (nI sn) (nI ln) (nI pm) pn (nI sta) (nI ms) hs :: zC K r T :: sC K r sv :: bC K r cs :: pC K r pf :: fC K r fa :: Y) H := hP
      have hD : va_D A (refO r (nI 0) (nI sn) (nI ln) (nI pm) pn (nI sta) (nI ms) hs :: zC K r T :: sC K r sv :: bC K r cs :: pC K r pf :: fC K r fa :: Y) := hD
      refine lv_aload_n hx hb dX4_away_23 rfl (lv_at hl 0 rfl) ?_
      refine va_get (D := D) (ci := 4) (v := .int (nI 0)) (C := RX4) (T := TX4) (N := 13) hx hb hts inX4 hown hE.1 hP 0 rfl rfl 0 (by decide) F29 (fun _ h9 => h9) rfl dX4_away_24 ?_
      refine nv_if_le (x := 0) (tgt := 34) hx hb dX4_away_27 (by decide) (by decide) (fun c_5 => ?_) (fun c_5 => ?_)
      · have n_c_5 : ¬ 0 < 0 := by omega
        refine lv_aload_n hx hb dX4_away_34 rfl (lv_at hl 0 rfl) ?_
        refine lv_iload_n hx hb dX4_away_35 rfl (lv_at hl 1 rfl) ?_
        refine lv_iload_n hx hb dX4_away_36 rfl (lv_at hl 2 rfl) ?_
        refine lv_iconst (v := nI 0) hx hb dX4_away_37 (by decide) ?_
        refine wr_V (rest := []) (ci := 4) (q0 := 0) ⟨hx, hb, hml, hown, hts⟩ hP hE hA hD hS (c_X4_wayTo l D K _ _ _ _ _ _ _ _ _ _ _ _ _ _ _ _ s9 b9 0 hI (by omega) (by omega) (by omega)) (cwV 3 hts gX4_away_X4_wayTo rfl rfl rfl hd_X4_wayTo ⟨Nat.le_of_ble_eq_true rfl, Nat.le_of_ble_eq_true rfl⟩) rfl rfl rfl rfl hl.1 rfl (Nat.le_of_ble_eq_true rfl) dX4_away_38 ⟨Nat.le_of_ble_eq_true rfl, Nat.le_of_ble_eq_true rfl⟩ (fun H locs hP hD hS => ?_)
        have hP : va_P D vwCl (refO r (nI 0) (nI sn) (nI ln) (nI pm) pn (nI sta) (nI ms) hs :: zC K r T :: sC K r sv :: bC K r cs :: pC K r pf :: fC K r (dst T s9 0) :: Y) H := hP
        have hD : va_D A (refO r (nI 0) (nI sn) (nI ln) (nI pm) pn (nI sta) (nI ms) hs :: zC K r T :: sC K r sv :: bC K r cs :: pC K r pf :: fC K r (dst T s9 0) :: Y) := hD
        have ew : (refO r (nI 0) (nI sn) (nI ln) (nI pm) pn (nI sta) (nI ms) hs :: zC K r T :: sC K r sv :: bC K r cs :: pC K r pf :: fC K r (dst T s9 0) :: Y) = (if awE (nI s9) (nI b9) = 0 then refO r (nI 0) (nI sn) (nI ln) (nI pm) pn (nI sta) (nI ms) hs :: zC K r T :: sC K r sv :: bC K r cs :: pC K r pf :: fC K r (dst T (tn (nI s9)) 0) :: Y else refO r (nI (awE (nI s9) (nI b9))) (nI sn) (nI ln) (nI pm) pn (nI sta) (nI ms) hs :: zC K r T :: sC K r sv :: bC K r cs :: pC K r pf :: fC K r fa :: Y) := by have e9 : awE (nI s9) (nI b9) = 0 := (by first | (simp [awE, c_1, t_s9, c_3, t_b9, c_5, n_c_5]; done) | (subst_vars; simp [awE, c_1, t_s9, c_3, t_b9, c_5, n_c_5])); rw [e9]; simp [ni0, bI_t, bI_f, nI_one, setT_eq, c_1, t_s9, c_3, t_b9, c_5, n_c_5] <;> rfl
        rw [ew] at hP hD
        exact wr_iret hAe hP hD hS hx hb hr hk dX4_away_41 ⟨Nat.le_of_ble_eq_true rfl, Nat.le_of_ble_eq_true rfl⟩ (by have e9 : awE (nI s9) (nI b9) = 0 := (by first | (simp [awE, c_1, t_s9, c_3, t_b9, c_5, n_c_5]; done) | (subst_vars; simp [awE, c_1, t_s9, c_3, t_b9, c_5, n_c_5])); rw [e9]; simp [ni0, bI_t, bI_f, nI_one, setT_eq, c_1, t_s9, c_3, t_b9, c_5, n_c_5] <;> rfl)
      exact absurd c_5 (by decide)
set_option maxHeartbeats 4000000 in
set_option maxRecDepth 100000 in
theorem c_X4_cheapest (l : Launch) (D : va_G) (K : Nat → ClassId) (sz : Nat) (r : Nat → Nat) (th pn : Int32) (sn ln pm sta ms : Nat) (hs : Int64) (T : TW) (sv : Nat → Int32) (cs : Nat → Nat) (pf : Nat → Int32) (fa : Nat → Nat) (Y : va_W) (x b : Int32) (hI : Inv T) : Wr l yX4_cheapest wsX4_cheapest ({ frames := 5, cells := 0, slots := 0, locals := 106 } : Room) D K (refO r th (nI sn) (nI ln) (nI pm) pn (nI sta) (nI ms) hs :: zC K r T :: sC K r sv :: bC K r cs :: pC K r pf :: fC K r fa :: Y) sz [.ref (r 0), .int x, .int b] (if awE x b = 0 then refO r (nI 0) (nI sn) (nI ln) (nI pm) pn (nI sta) (nI ms) hs :: zC K r T :: sC K r sv :: bC K r cs :: pC K r pf :: fC K r (dst T (tn x) 1) :: Y else refO r (nI (awE x b)) (nI sn) (nI ln) (nI pm) pn (nI sta) (nI ms) hs :: zC K r T :: sC K r sv :: bC K r cs :: pC K r pf :: fC K r fa :: Y) (some (.int (if awE x b = 0 then oI (wyO (dst T (tn x) 1 (tn b))) else 0))) 0 0 := by
  refine wr_intro (cc := cX4_cheapest) (maxL := 3) (ret := (some .int)) (by decide) rfl (Nat.le_of_ble_eq_true rfl) ?_
  intro pr en st md ar bl mt co A hx hb hml hr hts hown hk hsz hAe hP hE hD hS hA hin ls hl
  have hown : st.vm.findClass RX4 = some md.cls := hown
  have hl : lv_has ls 3 [(0, .ref (r 0)), (1, .int x), (2, .int b)] := hl
  obtain ⟨H, hH⟩ : ∃ z, z = st.heap := ⟨_, rfl⟩
  obtain ⟨locs, hlo⟩ : ∃ z : List Loc, z = [] := ⟨_, rfl⟩
  have hP : va_P D vwCl (refO r th (nI sn) (nI ln) (nI pm) pn (nI sta) (nI ms) hs :: zC K r T :: sC K r sv :: bC K r cs :: pC K r pf :: fC K r fa :: Y) H := by rw [hH]; exact hP
  have hS : va_S A st.heap H locs := by rw [hH, hlo]; exact hS
  suffices go : W pr l en (headSpec wsX4_cheapest ({ frames := 5, cells := 0, slots := 0, locals := 106 } : Room)).room st md ar bl mt co H locs 0 0 (MQ bl (wrQ D (refO r th (nI sn) (nI ln) (nI pm) pn (nI sta) (nI ms) hs :: zC K r T :: sC K r sv :: bC K r cs :: pC K r pf :: fC K r fa :: Y) (if awE x b = 0 then refO r (nI 0) (nI sn) (nI ln) (nI pm) pn (nI sta) (nI ms) hs :: zC K r T :: sC K r sv :: bC K r cs :: pC K r pf :: fC K r (dst T (tn x) 1) :: Y else refO r (nI (awE x b)) (nI sn) (nI ln) (nI pm) pn (nI sta) (nI ms) hs :: zC K r T :: sC K r sv :: bC K r cs :: pC K r pf :: fC K r fa :: Y) sz (some (.int (if awE x b = 0 then oI (wyO (dst T (tn x) 1 (tn b))) else 0)))) ar st 0 0 A) (F0 md 0 ls []) by rw [hH, hlo] at go; exact go
  clear hH hlo
  have F29 : (Cond.fieldLink RX4 29 "TramTollsModel" "thrown" "I").before ar st = true := hts _ (List.mem_of_getElem? (i := 1) rfl)
  have inX4 : ∀ w ∈ u_ws RX4 TX4 13, w ∈ wsX4_cheapest := fun w h => List.mem_cons_of_mem _ (List.mem_append_right _ h)
  refine lv_aload_n hx hb dX4_cheapest_0 rfl (lv_at hl 0 rfl) ?_
  refine lv_iload_n hx hb dX4_cheapest_1 rfl (lv_at hl 1 rfl) ?_
  refine rd_S (rest := [.ref (r 0)]) ⟨hx, hb, hml, hown, hts⟩ hP hE (c_X4_isPlayer l D K _ x) (va_cwS 1 hts gX4_cheapest_X4_isPlayer rfl rfl rfl hn_X4_isPlayer ⟨Nat.le_of_ble_eq_true rfl, Nat.le_of_ble_eq_true rfl⟩) rfl hl.1 rfl (Nat.le_of_ble_eq_true rfl) dX4_cheapest_2 ⟨Nat.le_of_ble_eq_true rfl, Nat.le_of_ble_eq_true rfl⟩ ?_
  refine bv_if_eq (x := inR 0 3 x) (tgt := 19) hx hb dX4_cheapest_5 (by decide) (fun c_1 => ?_) (fun c_1 => ?_)
  · refine lv_iconst (v := nI 1) hx hb dX4_cheapest_19 (by decide) ?_
    refine va_put (D := D) (ci := 4) (v := .int (nI 1)) (ty := .int) (C := RX4) (T := TX4) (N := 13) hx hb hts inX4 tyX4 tyX4_ok nmX4 hown hE.1 hP hD hS 0 rfl rfl 0 (by decide) F29 (fun _ h9 => h9) rfl (by decide +kernel) rfl rfl (Nat.le_of_ble_eq_true rfl) dX4_cheapest_20 (fun H locs hP hD hS => ?_)
    have hP : va_P D vwCl (refO r (nI 1) (nI sn) (nI ln) (nI pm) pn (nI sta) (nI ms) hs :: zC K r T :: sC K r sv :: bC K r cs :: pC K r pf :: fC K r fa :: Y) H := hP
    have hD : va_D A (refO r (nI 1) (nI sn) (nI ln) (nI pm) pn (nI sta) (nI ms) hs :: zC K r T :: sC K r sv :: bC K r cs :: pC K r pf :: fC K r fa :: Y) := hD
    refine lv_aload_n hx hb dX4_cheapest_23 rfl (lv_at hl 0 rfl) ?_
    refine va_get (D := D) (ci := 4) (v := .int (nI 1)) (C := RX4) (T := TX4) (N := 13) hx hb hts inX4 hown hE.1 hP 0 rfl rfl 0 (by decide) F29 (fun _ h9 => h9) rfl dX4_cheapest_24 ?_
    refine nv_if_le (x := 1) (tgt := 34) hx hb dX4_cheapest_27 (by decide) (by decide) (fun c_2 => ?_) (fun c_2 => ?_)
    · exact absurd c_2 (by decide)
    have n_c_2 : ¬ 1 = 0 := by omega
    refine lv_iconst (v := nI 0) hx hb dX4_cheapest_30 (by decide) ?_
    refine lv_goto (tgt := 41) hx hb dX4_cheapest_31 (by decide) ?_
    have ew : (refO r (nI 1) (nI sn) (nI ln) (nI pm) pn (nI sta) (nI ms) hs :: zC K r T :: sC K r sv :: bC K r cs :: pC K r pf :: fC K r fa :: Y) = (if awE x b = 0 then refO r (nI 0) (nI sn) (nI ln) (nI pm) pn (nI sta) (nI ms) hs :: zC K r T :: sC K r sv :: bC K r cs :: pC K r pf :: fC K r (dst T (tn x) 1) :: Y else refO r (nI (awE x b)) (nI sn) (nI ln) (nI pm) pn (nI sta) (nI ms) hs :: zC K r T :: sC K r sv :: bC K r cs :: pC K r pf :: fC K r fa :: Y) := by have e9 : awE x b = 1 := (by first | (simp [awE, c_1, c_2, n_c_2]; done) | (subst_vars; simp [awE, c_1, c_2, n_c_2])); rw [e9]; simp [ni0, bI_t, bI_f, nI_one, setT_eq, c_1, c_2, n_c_2] <;> rfl
    rw [ew] at hP hD
    exact wr_iret hAe hP hD hS hx hb hr hk dX4_cheapest_41 ⟨Nat.le_of_ble_eq_true rfl, Nat.le_of_ble_eq_true rfl⟩ (by have e9 : awE x b = 1 := (by first | (simp [awE, c_1, c_2, n_c_2]; done) | (subst_vars; simp [awE, c_1, c_2, n_c_2])); rw [e9]; simp [ni0, bI_t, bI_f, nI_one, setT_eq, c_1, c_2, n_c_2] <;> rfl)
  · obtain ⟨s9, lo_s9, hi_s9, e_s9⟩ := inR_nL (a := 0) (b := 3) rfl rfl (by decide) (by decide) c_1
    subst e_s9
    have t_s9 := tn_nI (n := s9) (by omega)
    refine lv_iload_n hx hb dX4_cheapest_8 rfl (lv_at hl 2 rfl) ?_
    refine rd_S (rest := [.ref (r 0)]) ⟨hx, hb, hml, hown, hts⟩ hP hE (c_X4_isSquare l D K _ b) (va_cwS 1 hts gX4_cheapest_X4_isSquare rfl rfl rfl hn_X4_isSquare ⟨Nat.le_of_ble_eq_true rfl, Nat.le_of_ble_eq_true rfl⟩) rfl hl.1 rfl (Nat.le_of_ble_eq_true rfl) dX4_cheapest_9 ⟨Nat.le_of_ble_eq_true rfl, Nat.le_of_ble_eq_true rfl⟩ ?_
    refine bv_if_eq (x := inR 0 79 b) (tgt := 19) hx hb dX4_cheapest_12 (by decide) (fun c_3 => ?_) (fun c_3 => ?_)
    · refine lv_iconst (v := nI 1) hx hb dX4_cheapest_19 (by decide) ?_
      refine va_put (D := D) (ci := 4) (v := .int (nI 1)) (ty := .int) (C := RX4) (T := TX4) (N := 13) hx hb hts inX4 tyX4 tyX4_ok nmX4 hown hE.1 hP hD hS 0 rfl rfl 0 (by decide) F29 (fun _ h9 => h9) rfl (by decide +kernel) rfl rfl (Nat.le_of_ble_eq_true rfl) dX4_cheapest_20 (fun H locs hP hD hS => ?_)
      have hP : va_P D vwCl (refO r (nI 1) (nI sn) (nI ln) (nI pm) pn (nI sta) (nI ms) hs :: zC K r T :: sC K r sv :: bC K r cs :: pC K r pf :: fC K r fa :: Y) H := hP
      have hD : va_D A (refO r (nI 1) (nI sn) (nI ln) (nI pm) pn (nI sta) (nI ms) hs :: zC K r T :: sC K r sv :: bC K r cs :: pC K r pf :: fC K r fa :: Y) := hD
      refine lv_aload_n hx hb dX4_cheapest_23 rfl (lv_at hl 0 rfl) ?_
      refine va_get (D := D) (ci := 4) (v := .int (nI 1)) (C := RX4) (T := TX4) (N := 13) hx hb hts inX4 hown hE.1 hP 0 rfl rfl 0 (by decide) F29 (fun _ h9 => h9) rfl dX4_cheapest_24 ?_
      refine nv_if_le (x := 1) (tgt := 34) hx hb dX4_cheapest_27 (by decide) (by decide) (fun c_4 => ?_) (fun c_4 => ?_)
      · exact absurd c_4 (by decide)
      have n_c_4 : ¬ 1 = 0 := by omega
      refine lv_iconst (v := nI 0) hx hb dX4_cheapest_30 (by decide) ?_
      refine lv_goto (tgt := 41) hx hb dX4_cheapest_31 (by decide) ?_
      have ew : (refO r (nI 1) (nI sn) (nI ln) (nI pm) pn (nI sta) (nI ms) hs :: zC K r T :: sC K r sv :: bC K r cs :: pC K r pf :: fC K r fa :: Y) = (if awE (nI s9) b = 0 then refO r (nI 0) (nI sn) (nI ln) (nI pm) pn (nI sta) (nI ms) hs :: zC K r T :: sC K r sv :: bC K r cs :: pC K r pf :: fC K r (dst T (tn (nI s9)) 1) :: Y else refO r (nI (awE (nI s9) b)) (nI sn) (nI ln) (nI pm) pn (nI sta) (nI ms) hs :: zC K r T :: sC K r sv :: bC K r cs :: pC K r pf :: fC K r fa :: Y) := by have e9 : awE (nI s9) b = 1 := (by first | (simp [awE, c_1, t_s9, c_3, c_4, n_c_4]; done) | (subst_vars; simp [awE, c_1, t_s9, c_3, c_4, n_c_4])); rw [e9]; simp [ni0, bI_t, bI_f, nI_one, setT_eq, c_1, t_s9, c_3, c_4, n_c_4] <;> rfl
      rw [ew] at hP hD
      exact wr_iret hAe hP hD hS hx hb hr hk dX4_cheapest_41 ⟨Nat.le_of_ble_eq_true rfl, Nat.le_of_ble_eq_true rfl⟩ (by have e9 : awE (nI s9) b = 1 := (by first | (simp [awE, c_1, t_s9, c_3, c_4, n_c_4]; done) | (subst_vars; simp [awE, c_1, t_s9, c_3, c_4, n_c_4])); rw [e9]; simp [ni0, bI_t, bI_f, nI_one, setT_eq, c_1, t_s9, c_3, c_4, n_c_4] <;> rfl)
    · obtain ⟨b9, lo_b9, hi_b9, e_b9⟩ := inR_nL (a := 0) (b := 79) rfl rfl (by decide) (by decide) c_3
      subst e_b9
      have t_b9 := tn_nI (n := b9) (by omega)
      refine lv_iconst (v := nI 0) hx hb dX4_cheapest_15 (by decide) ?_
      refine lv_goto (tgt := 20) hx hb dX4_cheapest_16 (by decide) ?_
      refine va_put (D := D) (ci := 4) (v := .int (nI 0)) (ty := .int) (C := RX4) (T := TX4) (N := 13) hx hb hts inX4 tyX4 tyX4_ok nmX4 hown hE.1 hP hD hS 0 rfl rfl 0 (by decide) F29 (fun _ h9 => h9) rfl (by decide +kernel) rfl rfl (Nat.le_of_ble_eq_true rfl) dX4_cheapest_20 (fun H locs hP hD hS => ?_)
      have hP : va_P D vwCl (refO r (nI 0) (nI sn) (nI ln) (nI pm) pn (nI sta) (nI ms) hs :: zC K r T :: sC K r sv :: bC K r cs :: pC K r pf :: fC K r fa :: Y) H := hP
      have hD : va_D A (refO r (nI 0) (nI sn) (nI ln) (nI pm) pn (nI sta) (nI ms) hs :: zC K r T :: sC K r sv :: bC K r cs :: pC K r pf :: fC K r fa :: Y) := hD
      refine lv_aload_n hx hb dX4_cheapest_23 rfl (lv_at hl 0 rfl) ?_
      refine va_get (D := D) (ci := 4) (v := .int (nI 0)) (C := RX4) (T := TX4) (N := 13) hx hb hts inX4 hown hE.1 hP 0 rfl rfl 0 (by decide) F29 (fun _ h9 => h9) rfl dX4_cheapest_24 ?_
      refine nv_if_le (x := 0) (tgt := 34) hx hb dX4_cheapest_27 (by decide) (by decide) (fun c_5 => ?_) (fun c_5 => ?_)
      · have n_c_5 : ¬ 0 < 0 := by omega
        refine lv_aload_n hx hb dX4_cheapest_34 rfl (lv_at hl 0 rfl) ?_
        refine lv_iload_n hx hb dX4_cheapest_35 rfl (lv_at hl 1 rfl) ?_
        refine lv_iload_n hx hb dX4_cheapest_36 rfl (lv_at hl 2 rfl) ?_
        refine lv_iconst (v := nI 1) hx hb dX4_cheapest_37 (by decide) ?_
        refine wr_V (rest := []) (ci := 4) (q0 := 0) ⟨hx, hb, hml, hown, hts⟩ hP hE hA hD hS (c_X4_wayTo l D K _ _ _ _ _ _ _ _ _ _ _ _ _ _ _ _ s9 b9 1 hI (by omega) (by omega) (by omega)) (cwV 3 hts gX4_cheapest_X4_wayTo rfl rfl rfl hd_X4_wayTo ⟨Nat.le_of_ble_eq_true rfl, Nat.le_of_ble_eq_true rfl⟩) rfl rfl rfl rfl hl.1 rfl (Nat.le_of_ble_eq_true rfl) dX4_cheapest_38 ⟨Nat.le_of_ble_eq_true rfl, Nat.le_of_ble_eq_true rfl⟩ (fun H locs hP hD hS => ?_)
        have hP : va_P D vwCl (refO r (nI 0) (nI sn) (nI ln) (nI pm) pn (nI sta) (nI ms) hs :: zC K r T :: sC K r sv :: bC K r cs :: pC K r pf :: fC K r (dst T s9 1) :: Y) H := hP
        have hD : va_D A (refO r (nI 0) (nI sn) (nI ln) (nI pm) pn (nI sta) (nI ms) hs :: zC K r T :: sC K r sv :: bC K r cs :: pC K r pf :: fC K r (dst T s9 1) :: Y) := hD
        have ew : (refO r (nI 0) (nI sn) (nI ln) (nI pm) pn (nI sta) (nI ms) hs :: zC K r T :: sC K r sv :: bC K r cs :: pC K r pf :: fC K r (dst T s9 1) :: Y) = (if awE (nI s9) (nI b9) = 0 then refO r (nI 0) (nI sn) (nI ln) (nI pm) pn (nI sta) (nI ms) hs :: zC K r T :: sC K r sv :: bC K r cs :: pC K r pf :: fC K r (dst T (tn (nI s9)) 1) :: Y else refO r (nI (awE (nI s9) (nI b9))) (nI sn) (nI ln) (nI pm) pn (nI sta) (nI ms) hs :: zC K r T :: sC K r sv :: bC K r cs :: pC K r pf :: fC K r fa :: Y) := by have e9 : awE (nI s9) (nI b9) = 0 := (by first | (simp [awE, c_1, t_s9, c_3, t_b9, c_5, n_c_5]; done) | (subst_vars; simp [awE, c_1, t_s9, c_3, t_b9, c_5, n_c_5])); rw [e9]; simp [ni0, bI_t, bI_f, nI_one, setT_eq, c_1, t_s9, c_3, t_b9, c_5, n_c_5] <;> rfl
        rw [ew] at hP hD
        exact wr_iret hAe hP hD hS hx hb hr hk dX4_cheapest_41 ⟨Nat.le_of_ble_eq_true rfl, Nat.le_of_ble_eq_true rfl⟩ (by have e9 : awE (nI s9) (nI b9) = 0 := (by first | (simp [awE, c_1, t_s9, c_3, t_b9, c_5, n_c_5]; done) | (subst_vars; simp [awE, c_1, t_s9, c_3, t_b9, c_5, n_c_5])); rw [e9]; simp [ni0, bI_t, bI_f, nI_one, setT_eq, c_1, t_s9, c_3, t_b9, c_5, n_c_5] <;> rfl)
      exact absurd c_5 (by decide)
set_option maxHeartbeats 4000000 in
set_option maxRecDepth 100000 in
theorem c_X4_best (l : Launch) (D : va_G) (K : Nat → ClassId) (sz : Nat) (r : Nat → Nat) (th pn : Int32) (sn ln pm sta ms : Nat) (hs : Int64) (T : TW) (sv : Nat → Int32) (cs : Nat → Nat) (pf : Nat → Int32) (fa : Nat → Nat) (Y : va_W) (x g : Int32) (hI : Inv T) : Wr l yX4_best wsX4_best ({ frames := 6, cells := 0, slots := 0, locals := 137 } : Room) D K (refO r th (nI sn) (nI ln) (nI pm) pn (nI sta) (nI ms) hs :: zC K r T :: sC K r sv :: bC K r cs :: pC K r pf :: fC K r fa :: Y) sz [.ref (r 0), .int x, .int g] (if q2 0 3 1 6 x g = 0 then refO r (nI 0) (nI sn) (nI ln) (nI pm) pn (nI sta) (nI (misM T (tn x) 12)) hs :: zC K r T :: sC K r sv :: bC K r cs :: pC K r pf :: fC K r ((bq T (tn x) (tn g) fa).2.2.2) :: Y else refO r (nI (q2 0 3 1 6 x g)) (nI sn) (nI ln) (nI pm) pn (nI sta) (nI ms) hs :: zC K r T :: sC K r sv :: bC K r cs :: pC K r pf :: fC K r fa :: Y) (some (.int (if q2 0 3 1 6 x g = 0 then oI (bq T (tn x) (tn g) fa).1 else 0))) 0 0 := by
  refine wr_intro (cc := cX4_best) (maxL := 3) (ret := (some .int)) (by decide) rfl (Nat.le_of_ble_eq_true rfl) ?_
  intro pr en st md ar bl mt co A hx hb hml hr hts hown hk hsz hAe hP hE hD hS hA hin ls hl
  have hown : st.vm.findClass RX4 = some md.cls := hown
  have hl : lv_has ls 3 [(0, .ref (r 0)), (1, .int x), (2, .int g)] := hl
  obtain ⟨H, hH⟩ : ∃ z, z = st.heap := ⟨_, rfl⟩
  obtain ⟨locs, hlo⟩ : ∃ z : List Loc, z = [] := ⟨_, rfl⟩
  have hP : va_P D vwCl (refO r th (nI sn) (nI ln) (nI pm) pn (nI sta) (nI ms) hs :: zC K r T :: sC K r sv :: bC K r cs :: pC K r pf :: fC K r fa :: Y) H := by rw [hH]; exact hP
  have hS : va_S A st.heap H locs := by rw [hH, hlo]; exact hS
  suffices go : W pr l en (headSpec wsX4_best ({ frames := 6, cells := 0, slots := 0, locals := 137 } : Room)).room st md ar bl mt co H locs 0 0 (MQ bl (wrQ D (refO r th (nI sn) (nI ln) (nI pm) pn (nI sta) (nI ms) hs :: zC K r T :: sC K r sv :: bC K r cs :: pC K r pf :: fC K r fa :: Y) (if q2 0 3 1 6 x g = 0 then refO r (nI 0) (nI sn) (nI ln) (nI pm) pn (nI sta) (nI (misM T (tn x) 12)) hs :: zC K r T :: sC K r sv :: bC K r cs :: pC K r pf :: fC K r ((bq T (tn x) (tn g) fa).2.2.2) :: Y else refO r (nI (q2 0 3 1 6 x g)) (nI sn) (nI ln) (nI pm) pn (nI sta) (nI ms) hs :: zC K r T :: sC K r sv :: bC K r cs :: pC K r pf :: fC K r fa :: Y) sz (some (.int (if q2 0 3 1 6 x g = 0 then oI (bq T (tn x) (tn g) fa).1 else 0)))) ar st 0 0 A) (F0 md 0 ls []) by rw [hH, hlo] at go; exact go
  clear hH hlo
  have F29 : (Cond.fieldLink RX4 29 "TramTollsModel" "thrown" "I").before ar st = true := hts _ (List.mem_of_getElem? (i := 1) rfl)
  have inX4 : ∀ w ∈ u_ws RX4 TX4 13, w ∈ wsX4_best := fun w h => List.mem_cons_of_mem _ (List.mem_append_right _ h)
  refine lv_aload_n hx hb dX4_best_0 rfl (lv_at hl 0 rfl) ?_
  refine lv_iload_n hx hb dX4_best_1 rfl (lv_at hl 1 rfl) ?_
  refine rd_S (rest := [.ref (r 0)]) ⟨hx, hb, hml, hown, hts⟩ hP hE (c_X4_isPlayer l D K _ x) (va_cwS 1 hts gX4_best_X4_isPlayer rfl rfl rfl hn_X4_isPlayer ⟨Nat.le_of_ble_eq_true rfl, Nat.le_of_ble_eq_true rfl⟩) rfl hl.1 rfl (Nat.le_of_ble_eq_true rfl) dX4_best_2 ⟨Nat.le_of_ble_eq_true rfl, Nat.le_of_ble_eq_true rfl⟩ ?_
  refine bv_if_ne (x := inR 0 3 x) (tgt := 12) hx hb dX4_best_5 (by decide) (fun c_1 => ?_) (fun c_1 => ?_)
  · obtain ⟨s9, lo_s9, hi_s9, e_s9⟩ := inR_nL (a := 0) (b := 3) rfl rfl (by decide) (by decide) c_1
    subst e_s9
    have t_s9 := tn_nI (n := s9) (by omega)
    refine lv_iload_n hx hb dX4_best_12 rfl (lv_at hl 2 rfl) ?_
    refine lv_iconst (v := nI 1) hx hb dX4_best_13 (by decide) ?_
    refine lv_bipush (v := nI 6) hx hb dX4_best_14 (by decide) ?_
    refine rd_S (rest := [.ref (r 0)]) ⟨hx, hb, hml, hown, hts⟩ hP hE (c_X4_in l D K _ g 1 6) (va_cwS 3 hts gX4_best_X4_in rfl rfl rfl hn_X4_in ⟨Nat.le_of_ble_eq_true rfl, Nat.le_of_ble_eq_true rfl⟩) rfl hl.1 rfl (Nat.le_of_ble_eq_true rfl) dX4_best_16 ⟨Nat.le_of_ble_eq_true rfl, Nat.le_of_ble_eq_true rfl⟩ ?_
    refine bv_if_eq (x := inR 1 6 g) (tgt := 26) hx hb dX4_best_19 (by decide) (fun c_2 => ?_) (fun c_2 => ?_)
    · refine lv_iconst (v := nI 2) hx hb dX4_best_26 (by decide) ?_
      refine va_put (D := D) (ci := 4) (v := .int (nI 2)) (ty := .int) (C := RX4) (T := TX4) (N := 13) hx hb hts inX4 tyX4 tyX4_ok nmX4 hown hE.1 hP hD hS 0 rfl rfl 0 (by decide) F29 (fun _ h9 => h9) rfl (by decide +kernel) rfl rfl (Nat.le_of_ble_eq_true rfl) dX4_best_27 (fun H locs hP hD hS => ?_)
      have hP : va_P D vwCl (refO r (nI 2) (nI sn) (nI ln) (nI pm) pn (nI sta) (nI ms) hs :: zC K r T :: sC K r sv :: bC K r cs :: pC K r pf :: fC K r fa :: Y) H := hP
      have hD : va_D A (refO r (nI 2) (nI sn) (nI ln) (nI pm) pn (nI sta) (nI ms) hs :: zC K r T :: sC K r sv :: bC K r cs :: pC K r pf :: fC K r fa :: Y) := hD
      refine lv_aload_n hx hb dX4_best_30 rfl (lv_at hl 0 rfl) ?_
      refine va_get (D := D) (ci := 4) (v := .int (nI 2)) (C := RX4) (T := TX4) (N := 13) hx hb hts inX4 hown hE.1 hP 0 rfl rfl 0 (by decide) F29 (fun _ h9 => h9) rfl dX4_best_31 ?_
      refine nv_if_le (x := 2) (tgt := 41) hx hb dX4_best_34 (by decide) (by decide) (fun c_3 => ?_) (fun c_3 => ?_)
      · exact absurd c_3 (by decide)
      have n_c_3 : ¬ 2 = 0 := by omega
      refine lv_iconst (v := nI 0) hx hb dX4_best_37 (by decide) ?_
      refine lv_goto (tgt := 47) hx hb dX4_best_38 (by decide) ?_
      have ew : (refO r (nI 2) (nI sn) (nI ln) (nI pm) pn (nI sta) (nI ms) hs :: zC K r T :: sC K r sv :: bC K r cs :: pC K r pf :: fC K r fa :: Y) = (if q2 0 3 1 6 (nI s9) g = 0 then refO r (nI 0) (nI sn) (nI ln) (nI pm) pn (nI sta) (nI (misM T (tn (nI s9)) 12)) hs :: zC K r T :: sC K r sv :: bC K r cs :: pC K r pf :: fC K r ((bq T (tn (nI s9)) (tn g) fa).2.2.2) :: Y else refO r (nI (q2 0 3 1 6 (nI s9) g)) (nI sn) (nI ln) (nI pm) pn (nI sta) (nI ms) hs :: zC K r T :: sC K r sv :: bC K r cs :: pC K r pf :: fC K r fa :: Y) := by have e9 : q2 0 3 1 6 (nI s9) g = 2 := (by first | (simp [q2, c_1, t_s9, c_2, c_3, n_c_3]; done) | (subst_vars; simp [q2, c_1, t_s9, c_2, c_3, n_c_3])); rw [e9]; simp [ni0, bI_t, bI_f, nI_one, setT_eq, c_1, t_s9, c_2, c_3, n_c_3] <;> rfl
      rw [ew] at hP hD
      exact wr_iret hAe hP hD hS hx hb hr hk dX4_best_47 ⟨Nat.le_of_ble_eq_true rfl, Nat.le_of_ble_eq_true rfl⟩ (by have e9 : q2 0 3 1 6 (nI s9) g = 2 := (by first | (simp [q2, c_1, t_s9, c_2, c_3, n_c_3]; done) | (subst_vars; simp [q2, c_1, t_s9, c_2, c_3, n_c_3])); rw [e9]; simp [ni0, bI_t, bI_f, nI_one, setT_eq, c_1, t_s9, c_2, c_3, n_c_3] <;> rfl)
    · obtain ⟨g9, lo_g9, hi_g9, e_g9⟩ := inR_nL (a := 1) (b := 6) rfl rfl (by decide) (by decide) c_2
      subst e_g9
      have t_g9 := tn_nI (n := g9) (by omega)
      refine lv_iconst (v := nI 0) hx hb dX4_best_22 (by decide) ?_
      refine lv_goto (tgt := 27) hx hb dX4_best_23 (by decide) ?_
      refine va_put (D := D) (ci := 4) (v := .int (nI 0)) (ty := .int) (C := RX4) (T := TX4) (N := 13) hx hb hts inX4 tyX4 tyX4_ok nmX4 hown hE.1 hP hD hS 0 rfl rfl 0 (by decide) F29 (fun _ h9 => h9) rfl (by decide +kernel) rfl rfl (Nat.le_of_ble_eq_true rfl) dX4_best_27 (fun H locs hP hD hS => ?_)
      have hP : va_P D vwCl (refO r (nI 0) (nI sn) (nI ln) (nI pm) pn (nI sta) (nI ms) hs :: zC K r T :: sC K r sv :: bC K r cs :: pC K r pf :: fC K r fa :: Y) H := hP
      have hD : va_D A (refO r (nI 0) (nI sn) (nI ln) (nI pm) pn (nI sta) (nI ms) hs :: zC K r T :: sC K r sv :: bC K r cs :: pC K r pf :: fC K r fa :: Y) := hD
      refine lv_aload_n hx hb dX4_best_30 rfl (lv_at hl 0 rfl) ?_
      refine va_get (D := D) (ci := 4) (v := .int (nI 0)) (C := RX4) (T := TX4) (N := 13) hx hb hts inX4 hown hE.1 hP 0 rfl rfl 0 (by decide) F29 (fun _ h9 => h9) rfl dX4_best_31 ?_
      refine nv_if_le (x := 0) (tgt := 41) hx hb dX4_best_34 (by decide) (by decide) (fun c_4 => ?_) (fun c_4 => ?_)
      · have n_c_4 : ¬ 0 < 0 := by omega
        refine lv_aload_n hx hb dX4_best_41 rfl (lv_at hl 0 rfl) ?_
        refine lv_iload_n hx hb dX4_best_42 rfl (lv_at hl 1 rfl) ?_
        refine lv_iload_n hx hb dX4_best_43 rfl (lv_at hl 2 rfl) ?_
        refine wr_V (rest := []) (ci := 4) (q0 := 0) ⟨hx, hb, hml, hown, hts⟩ hP hE hA hD hS (c_X4_bestOf l D K _ _ _ _ _ _ _ _ _ _ _ _ _ _ _ _ s9 g9 hI (by omega) (by omega)) (cwV 2 hts gX4_best_X4_bestOf rfl rfl rfl hd_X4_bestOf ⟨Nat.le_of_ble_eq_true rfl, Nat.le_of_ble_eq_true rfl⟩) rfl rfl rfl rfl hl.1 rfl (Nat.le_of_ble_eq_true rfl) dX4_best_44 ⟨Nat.le_of_ble_eq_true rfl, Nat.le_of_ble_eq_true rfl⟩ (fun H locs hP hD hS => ?_)
        have hP : va_P D vwCl (refO r (nI 0) (nI sn) (nI ln) (nI pm) pn (nI sta) (nI (misM T s9 12)) hs :: zC K r T :: sC K r sv :: bC K r cs :: pC K r pf :: fC K r ((bq T s9 g9 fa).2.2.2) :: Y) H := hP
        have hD : va_D A (refO r (nI 0) (nI sn) (nI ln) (nI pm) pn (nI sta) (nI (misM T s9 12)) hs :: zC K r T :: sC K r sv :: bC K r cs :: pC K r pf :: fC K r ((bq T s9 g9 fa).2.2.2) :: Y) := hD
        have ew : (refO r (nI 0) (nI sn) (nI ln) (nI pm) pn (nI sta) (nI (misM T s9 12)) hs :: zC K r T :: sC K r sv :: bC K r cs :: pC K r pf :: fC K r ((bq T s9 g9 fa).2.2.2) :: Y) = (if q2 0 3 1 6 (nI s9) (nI g9) = 0 then refO r (nI 0) (nI sn) (nI ln) (nI pm) pn (nI sta) (nI (misM T (tn (nI s9)) 12)) hs :: zC K r T :: sC K r sv :: bC K r cs :: pC K r pf :: fC K r ((bq T (tn (nI s9)) (tn (nI g9)) fa).2.2.2) :: Y else refO r (nI (q2 0 3 1 6 (nI s9) (nI g9))) (nI sn) (nI ln) (nI pm) pn (nI sta) (nI ms) hs :: zC K r T :: sC K r sv :: bC K r cs :: pC K r pf :: fC K r fa :: Y) := by have e9 : q2 0 3 1 6 (nI s9) (nI g9) = 0 := (by first | (simp [q2, c_1, t_s9, c_2, t_g9, c_4, n_c_4]; done) | (subst_vars; simp [q2, c_1, t_s9, c_2, t_g9, c_4, n_c_4])); rw [e9]; simp [ni0, bI_t, bI_f, nI_one, setT_eq, c_1, t_s9, c_2, t_g9, c_4, n_c_4] <;> rfl
        rw [ew] at hP hD
        exact wr_iret hAe hP hD hS hx hb hr hk dX4_best_47 ⟨Nat.le_of_ble_eq_true rfl, Nat.le_of_ble_eq_true rfl⟩ (by have e9 : q2 0 3 1 6 (nI s9) (nI g9) = 0 := (by first | (simp [q2, c_1, t_s9, c_2, t_g9, c_4, n_c_4]; done) | (subst_vars; simp [q2, c_1, t_s9, c_2, t_g9, c_4, n_c_4])); rw [e9]; simp [ni0, bI_t, bI_f, nI_one, setT_eq, c_1, t_s9, c_2, t_g9, c_4, n_c_4] <;> rfl)
      exact absurd c_4 (by decide)
  · refine lv_iconst (v := nI 1) hx hb dX4_best_8 (by decide) ?_
    refine lv_goto (tgt := 27) hx hb dX4_best_9 (by decide) ?_
    refine va_put (D := D) (ci := 4) (v := .int (nI 1)) (ty := .int) (C := RX4) (T := TX4) (N := 13) hx hb hts inX4 tyX4 tyX4_ok nmX4 hown hE.1 hP hD hS 0 rfl rfl 0 (by decide) F29 (fun _ h9 => h9) rfl (by decide +kernel) rfl rfl (Nat.le_of_ble_eq_true rfl) dX4_best_27 (fun H locs hP hD hS => ?_)
    have hP : va_P D vwCl (refO r (nI 1) (nI sn) (nI ln) (nI pm) pn (nI sta) (nI ms) hs :: zC K r T :: sC K r sv :: bC K r cs :: pC K r pf :: fC K r fa :: Y) H := hP
    have hD : va_D A (refO r (nI 1) (nI sn) (nI ln) (nI pm) pn (nI sta) (nI ms) hs :: zC K r T :: sC K r sv :: bC K r cs :: pC K r pf :: fC K r fa :: Y) := hD
    refine lv_aload_n hx hb dX4_best_30 rfl (lv_at hl 0 rfl) ?_
    refine va_get (D := D) (ci := 4) (v := .int (nI 1)) (C := RX4) (T := TX4) (N := 13) hx hb hts inX4 hown hE.1 hP 0 rfl rfl 0 (by decide) F29 (fun _ h9 => h9) rfl dX4_best_31 ?_
    refine nv_if_le (x := 1) (tgt := 41) hx hb dX4_best_34 (by decide) (by decide) (fun c_5 => ?_) (fun c_5 => ?_)
    · exact absurd c_5 (by decide)
    have n_c_5 : ¬ 1 = 0 := by omega
    refine lv_iconst (v := nI 0) hx hb dX4_best_37 (by decide) ?_
    refine lv_goto (tgt := 47) hx hb dX4_best_38 (by decide) ?_
    have ew : (refO r (nI 1) (nI sn) (nI ln) (nI pm) pn (nI sta) (nI ms) hs :: zC K r T :: sC K r sv :: bC K r cs :: pC K r pf :: fC K r fa :: Y) = (if q2 0 3 1 6 x g = 0 then refO r (nI 0) (nI sn) (nI ln) (nI pm) pn (nI sta) (nI (misM T (tn x) 12)) hs :: zC K r T :: sC K r sv :: bC K r cs :: pC K r pf :: fC K r ((bq T (tn x) (tn g) fa).2.2.2) :: Y else refO r (nI (q2 0 3 1 6 x g)) (nI sn) (nI ln) (nI pm) pn (nI sta) (nI ms) hs :: zC K r T :: sC K r sv :: bC K r cs :: pC K r pf :: fC K r fa :: Y) := by have e9 : q2 0 3 1 6 x g = 1 := (by first | (simp [q2, c_1, c_5, n_c_5]; done) | (subst_vars; simp [q2, c_1, c_5, n_c_5])); rw [e9]; simp [ni0, bI_t, bI_f, nI_one, setT_eq, c_1, c_5, n_c_5] <;> rfl
    rw [ew] at hP hD
    exact wr_iret hAe hP hD hS hx hb hr hk dX4_best_47 ⟨Nat.le_of_ble_eq_true rfl, Nat.le_of_ble_eq_true rfl⟩ (by have e9 : q2 0 3 1 6 x g = 1 := (by first | (simp [q2, c_1, c_5, n_c_5]; done) | (subst_vars; simp [q2, c_1, c_5, n_c_5])); rw [e9]; simp [ni0, bI_t, bI_f, nI_one, setT_eq, c_1, c_5, n_c_5] <;> rfl)
set_option maxHeartbeats 4000000 in
set_option maxRecDepth 100000 in
theorem c_X4_ahead (l : Launch) (D : va_G) (K : Nat → ClassId) (sz : Nat) (r : Nat → Nat) (th pn : Int32) (sn ln pm sta ms : Nat) (hs : Int64) (T : TW) (sv : Nat → Int32) (cs : Nat → Nat) (pf : Nat → Int32) (fa : Nat → Nat) (Y : va_W) (hI : Inv T) : Wr l yX4_ahead wsX4_ahead ({ frames := 5, cells := 0, slots := 0, locals := 102 } : Room) D K (refO r th (nI sn) (nI ln) (nI pm) pn (nI sta) (nI ms) hs :: zC K r T :: sC K r sv :: bC K r cs :: pC K r pf :: fC K r fa :: Y) sz [.ref (r 0)] (refO r (nI 0) (nI sn) (nI ln) (nI pm) pn (nI sta) (nI ms) hs :: zC K r T :: sC K r sv :: bC K r cs :: pC K r pf :: fC K r fa :: Y) (some (.int (nI (ldT T 4)))) 0 0 := by
  refine wr_intro (cc := cX4_ahead) (maxL := 1) (ret := (some .int)) (by decide) rfl (Nat.le_of_ble_eq_true rfl) ?_
  intro pr en st md ar bl mt co A hx hb hml hr hts hown hk hsz hAe hP hE hD hS hA hin ls hl
  have hown : st.vm.findClass RX4 = some md.cls := hown
  have hl : lv_has ls 1 [(0, .ref (r 0))] := hl
  obtain ⟨H, hH⟩ : ∃ z, z = st.heap := ⟨_, rfl⟩
  obtain ⟨locs, hlo⟩ : ∃ z : List Loc, z = [] := ⟨_, rfl⟩
  have hP : va_P D vwCl (refO r th (nI sn) (nI ln) (nI pm) pn (nI sta) (nI ms) hs :: zC K r T :: sC K r sv :: bC K r cs :: pC K r pf :: fC K r fa :: Y) H := by rw [hH]; exact hP
  have hS : va_S A st.heap H locs := by rw [hH, hlo]; exact hS
  suffices go : W pr l en (headSpec wsX4_ahead ({ frames := 5, cells := 0, slots := 0, locals := 102 } : Room)).room st md ar bl mt co H locs 0 0 (MQ bl (wrQ D (refO r th (nI sn) (nI ln) (nI pm) pn (nI sta) (nI ms) hs :: zC K r T :: sC K r sv :: bC K r cs :: pC K r pf :: fC K r fa :: Y) (refO r (nI 0) (nI sn) (nI ln) (nI pm) pn (nI sta) (nI ms) hs :: zC K r T :: sC K r sv :: bC K r cs :: pC K r pf :: fC K r fa :: Y) sz (some (.int (nI (ldT T 4))))) ar st 0 0 A) (F0 md 0 ls []) by rw [hH, hlo] at go; exact go
  clear hH hlo
  have F29 : (Cond.fieldLink RX4 29 "TramTollsModel" "thrown" "I").before ar st = true := hts _ (List.mem_of_getElem? (i := 1) rfl)
  have inX4 : ∀ w ∈ u_ws RX4 TX4 13, w ∈ wsX4_ahead := fun w h => List.mem_cons_of_mem _ (List.mem_append_right _ h)
  refine lv_aload_n hx hb dX4_ahead_0 rfl (lv_at hl 0 rfl) ?_
  refine lv_iconst (v := nI 0) hx hb dX4_ahead_1 (by decide) ?_
  refine va_put (D := D) (ci := 4) (v := .int (nI 0)) (ty := .int) (C := RX4) (T := TX4) (N := 13) hx hb hts inX4 tyX4 tyX4_ok nmX4 hown hE.1 hP hD hS 0 rfl rfl 0 (by decide) F29 (fun _ h9 => h9) rfl (by decide +kernel) rfl rfl (Nat.le_of_ble_eq_true rfl) dX4_ahead_2 (fun H locs hP hD hS => ?_)
  have hP : va_P D vwCl (refO r (nI 0) (nI sn) (nI ln) (nI pm) pn (nI sta) (nI ms) hs :: zC K r T :: sC K r sv :: bC K r cs :: pC K r pf :: fC K r fa :: Y) H := hP
  have hD : va_D A (refO r (nI 0) (nI sn) (nI ln) (nI pm) pn (nI sta) (nI ms) hs :: zC K r T :: sC K r sv :: bC K r cs :: pC K r pf :: fC K r fa :: Y) := hD
  refine lv_aload_n hx hb dX4_ahead_5 rfl (lv_at hl 0 rfl) ?_
  refine rd_V (rest := []) (ci := 4) (q0 := 0) ⟨hx, hb, hml, hown, hts⟩ hP hE (c_X4_first l D K _ _ _ _ _ _ _ _ _ _ _  hI ) (cwV 0 hts gX4_ahead_X4_first rfl rfl rfl hd_X4_first ⟨Nat.le_of_ble_eq_true rfl, Nat.le_of_ble_eq_true rfl⟩) rfl rfl rfl rfl hl.1 rfl (Nat.le_of_ble_eq_true rfl) dX4_ahead_6 ⟨Nat.le_of_ble_eq_true rfl, Nat.le_of_ble_eq_true rfl⟩ ?_
  have hb_1 := ld_lt T 4 (by decide)
  exact wr_iret hAe hP hD hS hx hb hr hk dX4_ahead_9 ⟨Nat.le_of_ble_eq_true rfl, Nat.le_of_ble_eq_true rfl⟩ (rfl)
set_option maxHeartbeats 4000000 in
set_option maxRecDepth 100000 in
theorem c_X4_shared (l : Launch) (D : va_G) (K : Nat → ClassId) (sz : Nat) (r : Nat → Nat) (th pn : Int32) (sn ln pm sta ms : Nat) (hs : Int64) (T : TW) (sv : Nat → Int32) (cs : Nat → Nat) (pf : Nat → Int32) (fa : Nat → Nat) (Y : va_W) (hI : Inv T) : Wr l yX4_shared wsX4_shared ({ frames := 4, cells := 0, slots := 0, locals := 78 } : Room) D K (refO r th (nI sn) (nI ln) (nI pm) pn (nI sta) (nI ms) hs :: zC K r T :: sC K r sv :: bC K r cs :: pC K r pf :: fC K r fa :: Y) sz [.ref (r 0)] (refO r (nI 0) (nI sn) (nI ln) (nI pm) pn (nI sta) (nI ms) hs :: zC K r T :: sC K r sv :: bC K r cs :: pC K r pf :: fC K r fa :: Y) (some (.double (shD (swT T 2) (swT T 1)))) 0 0 := by
  refine wr_intro (cc := cX4_shared) (maxL := 1) (ret := (some .double)) (by decide) rfl (Nat.le_of_ble_eq_true rfl) ?_
  intro pr en st md ar bl mt co A hx hb hml hr hts hown hk hsz hAe hP hE hD hS hA hin ls hl
  have hown : st.vm.findClass RX4 = some md.cls := hown
  have hl : lv_has ls 1 [(0, .ref (r 0))] := hl
  obtain ⟨H, hH⟩ : ∃ z, z = st.heap := ⟨_, rfl⟩
  obtain ⟨locs, hlo⟩ : ∃ z : List Loc, z = [] := ⟨_, rfl⟩
  have hP : va_P D vwCl (refO r th (nI sn) (nI ln) (nI pm) pn (nI sta) (nI ms) hs :: zC K r T :: sC K r sv :: bC K r cs :: pC K r pf :: fC K r fa :: Y) H := by rw [hH]; exact hP
  have hS : va_S A st.heap H locs := by rw [hH, hlo]; exact hS
  suffices go : W pr l en (headSpec wsX4_shared ({ frames := 4, cells := 0, slots := 0, locals := 78 } : Room)).room st md ar bl mt co H locs 0 0 (MQ bl (wrQ D (refO r th (nI sn) (nI ln) (nI pm) pn (nI sta) (nI ms) hs :: zC K r T :: sC K r sv :: bC K r cs :: pC K r pf :: fC K r fa :: Y) (refO r (nI 0) (nI sn) (nI ln) (nI pm) pn (nI sta) (nI ms) hs :: zC K r T :: sC K r sv :: bC K r cs :: pC K r pf :: fC K r fa :: Y) sz (some (.double (shD (swT T 2) (swT T 1))))) ar st 0 0 A) (F0 md 0 ls []) by rw [hH, hlo] at go; exact go
  clear hH hlo
  have F29 : (Cond.fieldLink RX4 29 "TramTollsModel" "thrown" "I").before ar st = true := hts _ (List.mem_of_getElem? (i := 1) rfl)
  have inX4 : ∀ w ∈ u_ws RX4 TX4 13, w ∈ wsX4_shared := fun w h => List.mem_cons_of_mem _ (List.mem_append_right _ h)
  refine lv_aload_n hx hb dX4_shared_0 rfl (lv_at hl 0 rfl) ?_
  refine lv_iconst (v := nI 0) hx hb dX4_shared_1 (by decide) ?_
  refine va_put (D := D) (ci := 4) (v := .int (nI 0)) (ty := .int) (C := RX4) (T := TX4) (N := 13) hx hb hts inX4 tyX4 tyX4_ok nmX4 hown hE.1 hP hD hS 0 rfl rfl 0 (by decide) F29 (fun _ h9 => h9) rfl (by decide +kernel) rfl rfl (Nat.le_of_ble_eq_true rfl) dX4_shared_2 (fun H locs hP hD hS => ?_)
  have hP : va_P D vwCl (refO r (nI 0) (nI sn) (nI ln) (nI pm) pn (nI sta) (nI ms) hs :: zC K r T :: sC K r sv :: bC K r cs :: pC K r pf :: fC K r fa :: Y) H := hP
  have hD : va_D A (refO r (nI 0) (nI sn) (nI ln) (nI pm) pn (nI sta) (nI ms) hs :: zC K r T :: sC K r sv :: bC K r cs :: pC K r pf :: fC K r fa :: Y) := hD
  refine lv_aload_n hx hb dX4_shared_5 rfl (lv_at hl 0 rfl) ?_
  refine rd_V (rest := []) (ci := 4) (q0 := 0) ⟨hx, hb, hml, hown, hts⟩ hP hE (c_X4_share l D K _ _ _ _ _ _ _ _ _ _ _ hI) (cwV 0 hts gX4_shared_X4_share rfl rfl rfl hd_X4_share ⟨Nat.le_of_ble_eq_true rfl, Nat.le_of_ble_eq_true rfl⟩) rfl rfl rfl rfl hl.1 rfl (Nat.le_of_ble_eq_true rfl) dX4_shared_6 ⟨Nat.le_of_ble_eq_true rfl, Nat.le_of_ble_eq_true rfl⟩ ?_
  exact wr_dret hAe hP hD hS hx hb hr hk dX4_shared_9 ⟨Nat.le_of_ble_eq_true rfl, Nat.le_of_ble_eq_true rfl⟩ (rfl)
set_option maxHeartbeats 4000000 in
set_option maxRecDepth 100000 in
theorem c_X4_clearBuffer (l : Launch) (D : va_G) (K : Nat → ClassId) (sz : Nat) (r : Nat → Nat) (th pn : Int32) (sn ln pm sta ms : Nat) (hs : Int64) (T : TW) (sv : Nat → Int32) (cs : Nat → Nat) (pf : Nat → Int32) (fa : Nat → Nat) (Y : va_W)  : Wr l yX4_clearBuffer wsX4_clearBuffer ({ frames := 1, cells := 0, slots := 0, locals := 12 } : Room) D K (refO r th (nI sn) (nI ln) (nI pm) pn (nI sta) (nI ms) hs :: zC K r T :: sC K r sv :: bC K r cs :: pC K r pf :: fC K r fa :: Y) sz [.ref (r 0)] (refO r (nI 0) (nI sn) (nI 0) (nI pm) pn (nI sta) (nI ms) hs :: zC K r T :: sC K r sv :: bC K r cs :: pC K r pf :: fC K r fa :: Y) (some (.int (nI ln))) 0 0 := by
  refine wr_intro (cc := cX4_clearBuffer) (maxL := 2) (ret := (some .int)) (by decide) rfl (Nat.le_of_ble_eq_true rfl) ?_
  intro pr en st md ar bl mt co A hx hb hml hr hts hown hk hsz hAe hP hE hD hS hA hin ls hl
  have hown : st.vm.findClass RX4 = some md.cls := hown
  have hl : lv_has ls 2 [(0, .ref (r 0))] := hl
  obtain ⟨H, hH⟩ : ∃ z, z = st.heap := ⟨_, rfl⟩
  obtain ⟨locs, hlo⟩ : ∃ z : List Loc, z = [] := ⟨_, rfl⟩
  have hP : va_P D vwCl (refO r th (nI sn) (nI ln) (nI pm) pn (nI sta) (nI ms) hs :: zC K r T :: sC K r sv :: bC K r cs :: pC K r pf :: fC K r fa :: Y) H := by rw [hH]; exact hP
  have hS : va_S A st.heap H locs := by rw [hH, hlo]; exact hS
  suffices go : W pr l en (headSpec wsX4_clearBuffer ({ frames := 1, cells := 0, slots := 0, locals := 12 } : Room)).room st md ar bl mt co H locs 0 0 (MQ bl (wrQ D (refO r th (nI sn) (nI ln) (nI pm) pn (nI sta) (nI ms) hs :: zC K r T :: sC K r sv :: bC K r cs :: pC K r pf :: fC K r fa :: Y) (refO r (nI 0) (nI sn) (nI 0) (nI pm) pn (nI sta) (nI ms) hs :: zC K r T :: sC K r sv :: bC K r cs :: pC K r pf :: fC K r fa :: Y) sz (some (.int (nI ln)))) ar st 0 0 A) (F0 md 0 ls []) by rw [hH, hlo] at go; exact go
  clear hH hlo
  have F29 : (Cond.fieldLink RX4 29 "TramTollsModel" "thrown" "I").before ar st = true := hts _ (List.mem_of_getElem? (i := 1) rfl)
  have inX4 : ∀ w ∈ u_ws RX4 TX4 13, w ∈ wsX4_clearBuffer := fun w h => List.mem_cons_of_mem _ (List.mem_append_right _ h)
  have F101 : (Cond.fieldLink RX4 101 "TramTollsModel" "typed" "I").before ar st = true := hts _ (List.mem_of_getElem? (i := 2) rfl)
  refine lv_aload_n hx hb dX4_clearBuffer_0 rfl (lv_at hl 0 rfl) ?_
  refine lv_iconst (v := nI 0) hx hb dX4_clearBuffer_1 (by decide) ?_
  refine va_put (D := D) (ci := 4) (v := .int (nI 0)) (ty := .int) (C := RX4) (T := TX4) (N := 13) hx hb hts inX4 tyX4 tyX4_ok nmX4 hown hE.1 hP hD hS 0 rfl rfl 0 (by decide) F29 (fun _ h9 => h9) rfl (by decide +kernel) rfl rfl (Nat.le_of_ble_eq_true rfl) dX4_clearBuffer_2 (fun H locs hP hD hS => ?_)
  have hP : va_P D vwCl (refO r (nI 0) (nI sn) (nI ln) (nI pm) pn (nI sta) (nI ms) hs :: zC K r T :: sC K r sv :: bC K r cs :: pC K r pf :: fC K r fa :: Y) H := hP
  have hD : va_D A (refO r (nI 0) (nI sn) (nI ln) (nI pm) pn (nI sta) (nI ms) hs :: zC K r T :: sC K r sv :: bC K r cs :: pC K r pf :: fC K r fa :: Y) := hD
  refine lv_aload_n hx hb dX4_clearBuffer_5 rfl (lv_at hl 0 rfl) ?_
  refine va_get (D := D) (ci := 4) (v := .int (nI ln)) (C := RX4) (T := TX4) (N := 13) hx hb hts inX4 hown hE.1 hP 0 rfl rfl 5 (by decide) F101 (fun _ h9 => h9) rfl dX4_clearBuffer_6 ?_
  refine lv_istore_n (lv' := [(1, .int (nI ln)), (0, .ref (r 0))]) hx hb dX4_clearBuffer_9 rfl hl (by decide) rfl (fun ls hl => ?_)
  refine lv_aload_n hx hb dX4_clearBuffer_10 rfl (lv_at hl 1 rfl) ?_
  refine lv_iconst (v := nI 0) hx hb dX4_clearBuffer_11 (by decide) ?_
  refine va_put (D := D) (ci := 4) (v := .int (nI 0)) (ty := .int) (C := RX4) (T := TX4) (N := 13) hx hb hts inX4 tyX4 tyX4_ok nmX4 hown hE.1 hP hD hS 0 rfl rfl 5 (by decide) F101 (fun _ h9 => h9) rfl (by decide +kernel) rfl rfl (Nat.le_of_ble_eq_true rfl) dX4_clearBuffer_12 (fun H locs hP hD hS => ?_)
  have hP : va_P D vwCl (refO r (nI 0) (nI sn) (nI 0) (nI pm) pn (nI sta) (nI ms) hs :: zC K r T :: sC K r sv :: bC K r cs :: pC K r pf :: fC K r fa :: Y) H := hP
  have hD : va_D A (refO r (nI 0) (nI sn) (nI 0) (nI pm) pn (nI sta) (nI ms) hs :: zC K r T :: sC K r sv :: bC K r cs :: pC K r pf :: fC K r fa :: Y) := hD
  refine lv_iload_n hx hb dX4_clearBuffer_15 rfl (lv_at hl 0 rfl) ?_
  exact wr_iret hAe hP hD hS hx hb hr hk dX4_clearBuffer_16 ⟨Nat.le_of_ble_eq_true rfl, Nat.le_of_ble_eq_true rfl⟩ (rfl)
set_option maxHeartbeats 4000000 in
set_option maxRecDepth 100000 in
theorem c_X4_firstError (l : Launch) (D : va_G) (K : Nat → ClassId) (sz : Nat) (r : Nat → Nat) (th pn : Int32) (sn ln pm sta ms : Nat) (hs : Int64) (T : TW) (sv : Nat → Int32) (cs : Nat → Nat) (pf : Nat → Int32) (fa : Nat → Nat) (Y : va_W) (hCB : CB cs ln) : Wr l yX4_firstError wsX4_firstError ({ frames := 5, cells := 0, slots := 0, locals := 96 } : Room) D K (refO r th (nI sn) (nI ln) (nI pm) pn (nI sta) (nI ms) hs :: zC K r T :: sC K r sv :: bC K r cs :: pC K r pf :: fC K r fa :: Y) sz [.ref (r 0)] (refO r (nI 0) (nI sn) (nI ln) (nI ((rbS cs ln pn pf).2.1)) ((rbS cs ln pn pf).2.2.2.1) (nI ((rbS cs ln pn pf).2.2.1)) (nI ms) hs :: zC K r T :: sC K r sv :: bC K r cs :: pC K r ((rbS cs ln pn pf).2.2.2.2) :: fC K r fa :: Y) (some (.int (nI ((rbS cs ln pn pf).1)))) 0 0 := by
  refine wr_intro (cc := cX4_firstError) (maxL := 1) (ret := (some .int)) (by decide) rfl (Nat.le_of_ble_eq_true rfl) ?_
  intro pr en st md ar bl mt co A hx hb hml hr hts hown hk hsz hAe hP hE hD hS hA hin ls hl
  have hown : st.vm.findClass RX4 = some md.cls := hown
  have hl : lv_has ls 1 [(0, .ref (r 0))] := hl
  obtain ⟨H, hH⟩ : ∃ z, z = st.heap := ⟨_, rfl⟩
  obtain ⟨locs, hlo⟩ : ∃ z : List Loc, z = [] := ⟨_, rfl⟩
  have hP : va_P D vwCl (refO r th (nI sn) (nI ln) (nI pm) pn (nI sta) (nI ms) hs :: zC K r T :: sC K r sv :: bC K r cs :: pC K r pf :: fC K r fa :: Y) H := by rw [hH]; exact hP
  have hS : va_S A st.heap H locs := by rw [hH, hlo]; exact hS
  suffices go : W pr l en (headSpec wsX4_firstError ({ frames := 5, cells := 0, slots := 0, locals := 96 } : Room)).room st md ar bl mt co H locs 0 0 (MQ bl (wrQ D (refO r th (nI sn) (nI ln) (nI pm) pn (nI sta) (nI ms) hs :: zC K r T :: sC K r sv :: bC K r cs :: pC K r pf :: fC K r fa :: Y) (refO r (nI 0) (nI sn) (nI ln) (nI ((rbS cs ln pn pf).2.1)) ((rbS cs ln pn pf).2.2.2.1) (nI ((rbS cs ln pn pf).2.2.1)) (nI ms) hs :: zC K r T :: sC K r sv :: bC K r cs :: pC K r ((rbS cs ln pn pf).2.2.2.2) :: fC K r fa :: Y) sz (some (.int (nI ((rbS cs ln pn pf).1))))) ar st 0 0 A) (F0 md 0 ls []) by rw [hH, hlo] at go; exact go
  clear hH hlo
  have F29 : (Cond.fieldLink RX4 29 "TramTollsModel" "thrown" "I").before ar st = true := hts _ (List.mem_of_getElem? (i := 1) rfl)
  have inX4 : ∀ w ∈ u_ws RX4 TX4 13, w ∈ wsX4_firstError := fun w h => List.mem_cons_of_mem _ (List.mem_append_right _ h)
  refine lv_aload_n hx hb dX4_firstError_0 rfl (lv_at hl 0 rfl) ?_
  refine lv_iconst (v := nI 0) hx hb dX4_firstError_1 (by decide) ?_
  refine va_put (D := D) (ci := 4) (v := .int (nI 0)) (ty := .int) (C := RX4) (T := TX4) (N := 13) hx hb hts inX4 tyX4 tyX4_ok nmX4 hown hE.1 hP hD hS 0 rfl rfl 0 (by decide) F29 (fun _ h9 => h9) rfl (by decide +kernel) rfl rfl (Nat.le_of_ble_eq_true rfl) dX4_firstError_2 (fun H locs hP hD hS => ?_)
  have hP : va_P D vwCl (refO r (nI 0) (nI sn) (nI ln) (nI pm) pn (nI sta) (nI ms) hs :: zC K r T :: sC K r sv :: bC K r cs :: pC K r pf :: fC K r fa :: Y) H := hP
  have hD : va_D A (refO r (nI 0) (nI sn) (nI ln) (nI pm) pn (nI sta) (nI ms) hs :: zC K r T :: sC K r sv :: bC K r cs :: pC K r pf :: fC K r fa :: Y) := hD
  refine lv_aload_n hx hb dX4_firstError_5 rfl (lv_at hl 0 rfl) ?_
  refine wr_V (rest := []) (ci := 4) (q0 := 0) ⟨hx, hb, hml, hown, hts⟩ hP hE hA hD hS (c_X4_readBuffer l D K _ _ _ _ _ _ _ _ _ _ _ _ _ _ _ _ hCB) (cwV 0 hts gX4_firstError_X4_readBuffer rfl rfl rfl hd_X4_readBuffer ⟨Nat.le_of_ble_eq_true rfl, Nat.le_of_ble_eq_true rfl⟩) rfl rfl rfl rfl hl.1 rfl (Nat.le_of_ble_eq_true rfl) dX4_firstError_6 ⟨Nat.le_of_ble_eq_true rfl, Nat.le_of_ble_eq_true rfl⟩ (fun H locs hP hD hS => ?_)
  have hP : va_P D vwCl (refO r (nI 0) (nI sn) (nI ln) (nI ((rbS cs ln pn pf).2.1)) ((rbS cs ln pn pf).2.2.2.1) (nI ((rbS cs ln pn pf).2.2.1)) (nI ms) hs :: zC K r T :: sC K r sv :: bC K r cs :: pC K r ((rbS cs ln pn pf).2.2.2.2) :: fC K r fa :: Y) H := hP
  have hD : va_D A (refO r (nI 0) (nI sn) (nI ln) (nI ((rbS cs ln pn pf).2.1)) ((rbS cs ln pn pf).2.2.2.1) (nI ((rbS cs ln pn pf).2.2.1)) (nI ms) hs :: zC K r T :: sC K r sv :: bC K r cs :: pC K r ((rbS cs ln pn pf).2.2.2.2) :: fC K r fa :: Y) := hD
  have hb_1 := rb_lt cs ln pn pf
  exact wr_iret hAe hP hD hS hx hb hr hk dX4_firstError_9 ⟨Nat.le_of_ble_eq_true rfl, Nat.le_of_ble_eq_true rfl⟩ (rfl)
set_option maxHeartbeats 4000000 in
set_option maxRecDepth 100000 in
theorem c_X4_thrown (l : Launch) (D : va_G) (K : Nat → ClassId) (sz : Nat) (r : Nat → Nat) (th pn : Int32) (sn ln pm sta ms : Nat) (hs : Int64) (T : TW) (sv : Nat → Int32) (cs : Nat → Nat) (pf : Nat → Int32) (fa : Nat → Nat) (Y : va_W)  : Wr l yX4_thrown wsX4_thrown ({ frames := 1, cells := 0, slots := 0, locals := 12 } : Room) D K (refO r th (nI sn) (nI ln) (nI pm) pn (nI sta) (nI ms) hs :: zC K r T :: sC K r sv :: bC K r cs :: pC K r pf :: fC K r fa :: Y) sz [.ref (r 0)] (refO r th (nI sn) (nI ln) (nI pm) pn (nI sta) (nI ms) hs :: zC K r T :: sC K r sv :: bC K r cs :: pC K r pf :: fC K r fa :: Y) (some (.int th)) 0 0 := by
  refine wr_intro (cc := cX4_thrown) (maxL := 1) (ret := (some .int)) (by decide) rfl (Nat.le_of_ble_eq_true rfl) ?_
  intro pr en st md ar bl mt co A hx hb hml hr hts hown hk hsz hAe hP hE hD hS hA hin ls hl
  have hown : st.vm.findClass RX4 = some md.cls := hown
  have hl : lv_has ls 1 [(0, .ref (r 0))] := hl
  obtain ⟨H, hH⟩ : ∃ z, z = st.heap := ⟨_, rfl⟩
  obtain ⟨locs, hlo⟩ : ∃ z : List Loc, z = [] := ⟨_, rfl⟩
  have hP : va_P D vwCl (refO r th (nI sn) (nI ln) (nI pm) pn (nI sta) (nI ms) hs :: zC K r T :: sC K r sv :: bC K r cs :: pC K r pf :: fC K r fa :: Y) H := by rw [hH]; exact hP
  have hS : va_S A st.heap H locs := by rw [hH, hlo]; exact hS
  suffices go : W pr l en (headSpec wsX4_thrown ({ frames := 1, cells := 0, slots := 0, locals := 12 } : Room)).room st md ar bl mt co H locs 0 0 (MQ bl (wrQ D (refO r th (nI sn) (nI ln) (nI pm) pn (nI sta) (nI ms) hs :: zC K r T :: sC K r sv :: bC K r cs :: pC K r pf :: fC K r fa :: Y) (refO r th (nI sn) (nI ln) (nI pm) pn (nI sta) (nI ms) hs :: zC K r T :: sC K r sv :: bC K r cs :: pC K r pf :: fC K r fa :: Y) sz (some (.int th))) ar st 0 0 A) (F0 md 0 ls []) by rw [hH, hlo] at go; exact go
  clear hH hlo
  have F29 : (Cond.fieldLink RX4 29 "TramTollsModel" "thrown" "I").before ar st = true := hts _ (List.mem_of_getElem? (i := 1) rfl)
  have inX4 : ∀ w ∈ u_ws RX4 TX4 13, w ∈ wsX4_thrown := fun w h => List.mem_cons_of_mem _ (List.mem_append_right _ h)
  refine lv_aload_n hx hb dX4_thrown_0 rfl (lv_at hl 0 rfl) ?_
  refine va_get (D := D) (ci := 4) (v := .int th) (C := RX4) (T := TX4) (N := 13) hx hb hts inX4 hown hE.1 hP 0 rfl rfl 0 (by decide) F29 (fun _ h9 => h9) rfl dX4_thrown_1 ?_
  exact wr_iret hAe hP hD hS hx hb hr hk dX4_thrown_4 ⟨Nat.le_of_ble_eq_true rfl, Nat.le_of_ble_eq_true rfl⟩ (rfl)
set_option maxHeartbeats 4000000 in
set_option maxRecDepth 100000 in
theorem c_X4_append (l : Launch) (D : va_G) (K : Nat → ClassId) (sz : Nat) (r : Nat → Nat) (th pn : Int32) (sn ln pm sta ms : Nat) (hs : Int64) (T : TW) (sv : Nat → Int32) (cs : Nat → Nat) (pf : Nat → Int32) (fa : Nat → Nat) (Y : va_W) (x : Int32) (hCB : CB cs ln) : Wr l yX4_append wsX4_append ({ frames := 2, cells := 0, slots := 0, locals := 34 } : Room) D K (refO r th (nI sn) (nI ln) (nI pm) pn (nI sta) (nI ms) hs :: zC K r T :: sC K r sv :: bC K r cs :: pC K r pf :: fC K r fa :: Y) sz [.ref (r 0), .int x] (if apE ln x = 0 then refO r (nI 0) (nI sn) (nI (ln + 1)) (nI pm) pn (nI sta) (nI ms) hs :: zC K r T :: sC K r sv :: bC K r (va_up cs ln (tn x)) :: pC K r pf :: fC K r fa :: Y else refO r (nI (apE ln x)) (nI sn) (nI ln) (nI pm) pn (nI sta) (nI ms) hs :: zC K r T :: sC K r sv :: bC K r cs :: pC K r pf :: fC K r fa :: Y) (some (.int (if apE ln x = 0 then nI (ln + 1) else 0))) 0 0 := by
  refine wr_intro (cc := cX4_append) (maxL := 2) (ret := (some .int)) (by decide) rfl (Nat.le_of_ble_eq_true rfl) ?_
  intro pr en st md ar bl mt co A hx hb hml hr hts hown hk hsz hAe hP hE hD hS hA hin ls hl
  have hown : st.vm.findClass RX4 = some md.cls := hown
  have hl : lv_has ls 2 [(0, .ref (r 0)), (1, .int x)] := hl
  have hl60 := hCB.1
  obtain ⟨H, hH⟩ : ∃ z, z = st.heap := ⟨_, rfl⟩
  obtain ⟨locs, hlo⟩ : ∃ z : List Loc, z = [] := ⟨_, rfl⟩
  have hP : va_P D vwCl (refO r th (nI sn) (nI ln) (nI pm) pn (nI sta) (nI ms) hs :: zC K r T :: sC K r sv :: bC K r cs :: pC K r pf :: fC K r fa :: Y) H := by rw [hH]; exact hP
  have hS : va_S A st.heap H locs := by rw [hH, hlo]; exact hS
  suffices go : W pr l en (headSpec wsX4_append ({ frames := 2, cells := 0, slots := 0, locals := 34 } : Room)).room st md ar bl mt co H locs 0 0 (MQ bl (wrQ D (refO r th (nI sn) (nI ln) (nI pm) pn (nI sta) (nI ms) hs :: zC K r T :: sC K r sv :: bC K r cs :: pC K r pf :: fC K r fa :: Y) (if apE ln x = 0 then refO r (nI 0) (nI sn) (nI (ln + 1)) (nI pm) pn (nI sta) (nI ms) hs :: zC K r T :: sC K r sv :: bC K r (va_up cs ln (tn x)) :: pC K r pf :: fC K r fa :: Y else refO r (nI (apE ln x)) (nI sn) (nI ln) (nI pm) pn (nI sta) (nI ms) hs :: zC K r T :: sC K r sv :: bC K r cs :: pC K r pf :: fC K r fa :: Y) sz (some (.int (if apE ln x = 0 then nI (ln + 1) else 0)))) ar st 0 0 A) (F0 md 0 ls []) by rw [hH, hlo] at go; exact go
  clear hH hlo
  have F101 : (Cond.fieldLink RX4 101 "TramTollsModel" "typed" "I").before ar st = true := hts _ (List.mem_of_getElem? (i := 1) rfl)
  have inX4 : ∀ w ∈ u_ws RX4 TX4 13, w ∈ wsX4_append := fun w h => List.mem_cons_of_mem _ (List.mem_append_right _ h)
  have F29 : (Cond.fieldLink RX4 29 "TramTollsModel" "thrown" "I").before ar st = true := hts _ (List.mem_of_getElem? (i := 2) rfl)
  have F16 : (Cond.fieldLink RX4 16 "TramTollsModel" "buffer" "[I").before ar st = true := hts _ (List.mem_of_getElem? (i := 3) rfl)
  refine lv_aload_n hx hb dX4_append_0 rfl (lv_at hl 0 rfl) ?_
  refine lv_iload_n hx hb dX4_append_1 rfl (lv_at hl 1 rfl) ?_
  refine lv_bipush (v := nI 33) hx hb dX4_append_2 (by decide) ?_
  refine lv_bipush (v := nI 126) hx hb dX4_append_4 (by decide) ?_
  refine rd_S (rest := [.ref (r 0)]) ⟨hx, hb, hml, hown, hts⟩ hP hE (c_X4_in l D K _ x 33 126) (va_cwS 3 hts gX4_append_X4_in rfl rfl rfl hn_X4_in ⟨Nat.le_of_ble_eq_true rfl, Nat.le_of_ble_eq_true rfl⟩) rfl hl.1 rfl (Nat.le_of_ble_eq_true rfl) dX4_append_6 ⟨Nat.le_of_ble_eq_true rfl, Nat.le_of_ble_eq_true rfl⟩ ?_
  refine bv_if_ne (x := inR 33 126 x) (tgt := 16) hx hb dX4_append_9 (by decide) (fun c_1 => ?_) (fun c_1 => ?_)
  · obtain ⟨c9, lo_c9, hi_c9, e_c9⟩ := inR_nL (a := 33) (b := 126) rfl rfl (by decide) (by decide) c_1
    subst e_c9
    have t_c9 := tn_nI (n := c9) (by omega)
    refine lv_aload_n hx hb dX4_append_16 rfl (lv_at hl 0 rfl) ?_
    refine va_get (D := D) (ci := 4) (v := .int (nI ln)) (C := RX4) (T := TX4) (N := 13) hx hb hts inX4 hown hE.1 hP 0 rfl rfl 5 (by decide) F101 (fun _ h9 => h9) rfl dX4_append_17 ?_
    refine lv_bipush (v := nI 60) hx hb dX4_append_20 (by decide) ?_
    refine nv_icmp_ne (x := ln) (y := 60) (tgt := 29) hx hb dX4_append_22 (by decide) (by omega) (by decide) (fun c_2 => ?_) (fun c_2 => ?_)
    · refine lv_iconst (v := nI 0) hx hb dX4_append_29 (by decide) ?_
      refine va_put (D := D) (ci := 4) (v := .int (nI 0)) (ty := .int) (C := RX4) (T := TX4) (N := 13) hx hb hts inX4 tyX4 tyX4_ok nmX4 hown hE.1 hP hD hS 0 rfl rfl 0 (by decide) F29 (fun _ h9 => h9) rfl (by decide +kernel) rfl rfl (Nat.le_of_ble_eq_true rfl) dX4_append_30 (fun H locs hP hD hS => ?_)
      have hP : va_P D vwCl (refO r (nI 0) (nI sn) (nI ln) (nI pm) pn (nI sta) (nI ms) hs :: zC K r T :: sC K r sv :: bC K r cs :: pC K r pf :: fC K r fa :: Y) H := hP
      have hD : va_D A (refO r (nI 0) (nI sn) (nI ln) (nI pm) pn (nI sta) (nI ms) hs :: zC K r T :: sC K r sv :: bC K r cs :: pC K r pf :: fC K r fa :: Y) := hD
      refine lv_aload_n hx hb dX4_append_33 rfl (lv_at hl 0 rfl) ?_
      refine va_get (D := D) (ci := 4) (v := .int (nI 0)) (C := RX4) (T := TX4) (N := 13) hx hb hts inX4 hown hE.1 hP 0 rfl rfl 0 (by decide) F29 (fun _ h9 => h9) rfl dX4_append_34 ?_
      refine nv_if_le (x := 0) (tgt := 42) hx hb dX4_append_37 (by decide) (by decide) (fun c_3 => ?_) (fun c_3 => ?_)
      · have n_c_3 : ¬ 0 < 0 := by omega
        refine lv_aload_n hx hb dX4_append_42 rfl (lv_at hl 0 rfl) ?_
        refine va_get (D := D) (ci := 4) (v := .ref (r 3)) (C := RX4) (T := TX4) (N := 13) hx hb hts inX4 hown hE.1 hP 0 rfl rfl 4 (by decide) F16 (fun _ h9 => h9) rfl dX4_append_43 ?_
        refine lv_aload_n hx hb dX4_append_46 rfl (lv_at hl 0 rfl) ?_
        refine va_get (D := D) (ci := 4) (v := .int (nI ln)) (C := RX4) (T := TX4) (N := 13) hx hb hts inX4 hown hE.1 hP 0 rfl rfl 5 (by decide) F101 (fun _ h9 => h9) rfl dX4_append_47 ?_
        refine lv_iload_n hx hb dX4_append_50 rfl (lv_at hl 1 rfl) ?_
        refine va_iast hx hb hE.1 hP hD hS 3 0 rfl rfl (pk_in ln 60 (by omega)) dX4_append_51 (fun H locs hP hD hS => ?_)
        rw [pk_cl ln] at hP hD
        rw [updNN cs ln c9] at hP hD
        have hP : va_P D vwCl (refO r (nI 0) (nI sn) (nI ln) (nI pm) pn (nI sta) (nI ms) hs :: zC K r T :: sC K r sv :: bC K r (va_up cs ln c9) :: pC K r pf :: fC K r fa :: Y) H := hP
        have hD : va_D A (refO r (nI 0) (nI sn) (nI ln) (nI pm) pn (nI sta) (nI ms) hs :: zC K r T :: sC K r sv :: bC K r (va_up cs ln c9) :: pC K r pf :: fC K r fa :: Y) := hD
        refine lv_aload_n hx hb dX4_append_52 rfl (lv_at hl 0 rfl) ?_
        refine lv_dup hx hb dX4_append_53 rfl ?_
        refine va_get (D := D) (ci := 4) (v := .int (nI ln)) (C := RX4) (T := TX4) (N := 13) hx hb hts inX4 hown hE.1 hP 0 rfl rfl 5 (by decide) F101 (fun _ h9 => h9) rfl dX4_append_54 ?_
        refine lv_iconst (v := nI 1) hx hb dX4_append_57 (by decide) ?_
        refine nv_iadd (x := ln) (y := 1) hx hb dX4_append_58 ?_
        refine va_put (D := D) (ci := 4) (v := .int (nI (ln + 1))) (ty := .int) (C := RX4) (T := TX4) (N := 13) hx hb hts inX4 tyX4 tyX4_ok nmX4 hown hE.1 hP hD hS 0 rfl rfl 5 (by decide) F101 (fun _ h9 => h9) rfl (by decide +kernel) rfl rfl (Nat.le_of_ble_eq_true rfl) dX4_append_59 (fun H locs hP hD hS => ?_)
        have hP : va_P D vwCl (refO r (nI 0) (nI sn) (nI (ln + 1)) (nI pm) pn (nI sta) (nI ms) hs :: zC K r T :: sC K r sv :: bC K r (va_up cs ln c9) :: pC K r pf :: fC K r fa :: Y) H := hP
        have hD : va_D A (refO r (nI 0) (nI sn) (nI (ln + 1)) (nI pm) pn (nI sta) (nI ms) hs :: zC K r T :: sC K r sv :: bC K r (va_up cs ln c9) :: pC K r pf :: fC K r fa :: Y) := hD
        refine lv_aload_n hx hb dX4_append_62 rfl (lv_at hl 0 rfl) ?_
        refine va_get (D := D) (ci := 4) (v := .int (nI (ln + 1))) (C := RX4) (T := TX4) (N := 13) hx hb hts inX4 hown hE.1 hP 0 rfl rfl 5 (by decide) F101 (fun _ h9 => h9) rfl dX4_append_63 ?_
        have ew : (refO r (nI 0) (nI sn) (nI (ln + 1)) (nI pm) pn (nI sta) (nI ms) hs :: zC K r T :: sC K r sv :: bC K r (va_up cs ln c9) :: pC K r pf :: fC K r fa :: Y) = (if apE ln (nI c9) = 0 then refO r (nI 0) (nI sn) (nI (ln + 1)) (nI pm) pn (nI sta) (nI ms) hs :: zC K r T :: sC K r sv :: bC K r (va_up cs ln (tn (nI c9))) :: pC K r pf :: fC K r fa :: Y else refO r (nI (apE ln (nI c9))) (nI sn) (nI ln) (nI pm) pn (nI sta) (nI ms) hs :: zC K r T :: sC K r sv :: bC K r cs :: pC K r pf :: fC K r fa :: Y) := by have e9 : apE ln (nI c9) = 0 := (by first | (simp [apE, c_1, t_c9, c_2, c_3, n_c_3]; done) | (subst_vars; simp [apE, c_1, t_c9, c_2, c_3, n_c_3])); rw [e9]; simp [ni0, bI_t, bI_f, nI_one, setT_eq, c_1, t_c9, c_2, c_3, n_c_3] <;> rfl
        rw [ew] at hP hD
        exact wr_iret hAe hP hD hS hx hb hr hk dX4_append_66 ⟨Nat.le_of_ble_eq_true rfl, Nat.le_of_ble_eq_true rfl⟩ (by have e9 : apE ln (nI c9) = 0 := (by first | (simp [apE, c_1, t_c9, c_2, c_3, n_c_3]; done) | (subst_vars; simp [apE, c_1, t_c9, c_2, c_3, n_c_3])); rw [e9]; simp [ni0, bI_t, bI_f, nI_one, setT_eq, c_1, t_c9, c_2, c_3, n_c_3] <;> rfl)
      exact absurd c_3 (by decide)
    · refine lv_iconst (v := nI 2) hx hb dX4_append_25 (by decide) ?_
      refine lv_goto (tgt := 30) hx hb dX4_append_26 (by decide) ?_
      refine va_put (D := D) (ci := 4) (v := .int (nI 2)) (ty := .int) (C := RX4) (T := TX4) (N := 13) hx hb hts inX4 tyX4 tyX4_ok nmX4 hown hE.1 hP hD hS 0 rfl rfl 0 (by decide) F29 (fun _ h9 => h9) rfl (by decide +kernel) rfl rfl (Nat.le_of_ble_eq_true rfl) dX4_append_30 (fun H locs hP hD hS => ?_)
      have hP : va_P D vwCl (refO r (nI 2) (nI sn) (nI ln) (nI pm) pn (nI sta) (nI ms) hs :: zC K r T :: sC K r sv :: bC K r cs :: pC K r pf :: fC K r fa :: Y) H := hP
      have hD : va_D A (refO r (nI 2) (nI sn) (nI ln) (nI pm) pn (nI sta) (nI ms) hs :: zC K r T :: sC K r sv :: bC K r cs :: pC K r pf :: fC K r fa :: Y) := hD
      refine lv_aload_n hx hb dX4_append_33 rfl (lv_at hl 0 rfl) ?_
      refine va_get (D := D) (ci := 4) (v := .int (nI 2)) (C := RX4) (T := TX4) (N := 13) hx hb hts inX4 hown hE.1 hP 0 rfl rfl 0 (by decide) F29 (fun _ h9 => h9) rfl dX4_append_34 ?_
      refine nv_if_le (x := 2) (tgt := 42) hx hb dX4_append_37 (by decide) (by decide) (fun c_4 => ?_) (fun c_4 => ?_)
      · exact absurd c_4 (by decide)
      have n_c_4 : ¬ 2 = 0 := by omega
      refine lv_iconst (v := nI 0) hx hb dX4_append_40 (by decide) ?_
      have ew : (refO r (nI 2) (nI sn) (nI ln) (nI pm) pn (nI sta) (nI ms) hs :: zC K r T :: sC K r sv :: bC K r cs :: pC K r pf :: fC K r fa :: Y) = (if apE ln (nI c9) = 0 then refO r (nI 0) (nI sn) (nI (ln + 1)) (nI pm) pn (nI sta) (nI ms) hs :: zC K r T :: sC K r sv :: bC K r (va_up cs ln (tn (nI c9))) :: pC K r pf :: fC K r fa :: Y else refO r (nI (apE ln (nI c9))) (nI sn) (nI ln) (nI pm) pn (nI sta) (nI ms) hs :: zC K r T :: sC K r sv :: bC K r cs :: pC K r pf :: fC K r fa :: Y) := by have e9 : apE ln (nI c9) = 2 := (by first | (simp [apE, c_1, t_c9, c_2, c_4, n_c_4]; done) | (subst_vars; simp [apE, c_1, t_c9, c_2, c_4, n_c_4])); rw [e9]; simp [ni0, bI_t, bI_f, nI_one, setT_eq, c_1, t_c9, c_2, c_4, n_c_4] <;> rfl
      rw [ew] at hP hD
      exact wr_iret hAe hP hD hS hx hb hr hk dX4_append_41 ⟨Nat.le_of_ble_eq_true rfl, Nat.le_of_ble_eq_true rfl⟩ (by have e9 : apE ln (nI c9) = 2 := (by first | (simp [apE, c_1, t_c9, c_2, c_4, n_c_4]; done) | (subst_vars; simp [apE, c_1, t_c9, c_2, c_4, n_c_4])); rw [e9]; simp [ni0, bI_t, bI_f, nI_one, setT_eq, c_1, t_c9, c_2, c_4, n_c_4] <;> rfl)
  · refine lv_iconst (v := nI 1) hx hb dX4_append_12 (by decide) ?_
    refine lv_goto (tgt := 30) hx hb dX4_append_13 (by decide) ?_
    refine va_put (D := D) (ci := 4) (v := .int (nI 1)) (ty := .int) (C := RX4) (T := TX4) (N := 13) hx hb hts inX4 tyX4 tyX4_ok nmX4 hown hE.1 hP hD hS 0 rfl rfl 0 (by decide) F29 (fun _ h9 => h9) rfl (by decide +kernel) rfl rfl (Nat.le_of_ble_eq_true rfl) dX4_append_30 (fun H locs hP hD hS => ?_)
    have hP : va_P D vwCl (refO r (nI 1) (nI sn) (nI ln) (nI pm) pn (nI sta) (nI ms) hs :: zC K r T :: sC K r sv :: bC K r cs :: pC K r pf :: fC K r fa :: Y) H := hP
    have hD : va_D A (refO r (nI 1) (nI sn) (nI ln) (nI pm) pn (nI sta) (nI ms) hs :: zC K r T :: sC K r sv :: bC K r cs :: pC K r pf :: fC K r fa :: Y) := hD
    refine lv_aload_n hx hb dX4_append_33 rfl (lv_at hl 0 rfl) ?_
    refine va_get (D := D) (ci := 4) (v := .int (nI 1)) (C := RX4) (T := TX4) (N := 13) hx hb hts inX4 hown hE.1 hP 0 rfl rfl 0 (by decide) F29 (fun _ h9 => h9) rfl dX4_append_34 ?_
    refine nv_if_le (x := 1) (tgt := 42) hx hb dX4_append_37 (by decide) (by decide) (fun c_5 => ?_) (fun c_5 => ?_)
    · exact absurd c_5 (by decide)
    have n_c_5 : ¬ 1 = 0 := by omega
    refine lv_iconst (v := nI 0) hx hb dX4_append_40 (by decide) ?_
    have ew : (refO r (nI 1) (nI sn) (nI ln) (nI pm) pn (nI sta) (nI ms) hs :: zC K r T :: sC K r sv :: bC K r cs :: pC K r pf :: fC K r fa :: Y) = (if apE ln x = 0 then refO r (nI 0) (nI sn) (nI (ln + 1)) (nI pm) pn (nI sta) (nI ms) hs :: zC K r T :: sC K r sv :: bC K r (va_up cs ln (tn x)) :: pC K r pf :: fC K r fa :: Y else refO r (nI (apE ln x)) (nI sn) (nI ln) (nI pm) pn (nI sta) (nI ms) hs :: zC K r T :: sC K r sv :: bC K r cs :: pC K r pf :: fC K r fa :: Y) := by have e9 : apE ln x = 1 := (by first | (simp [apE, c_1, c_5, n_c_5]; done) | (subst_vars; simp [apE, c_1, c_5, n_c_5])); rw [e9]; simp [ni0, bI_t, bI_f, nI_one, setT_eq, c_1, c_5, n_c_5] <;> rfl
    rw [ew] at hP hD
    exact wr_iret hAe hP hD hS hx hb hr hk dX4_append_41 ⟨Nat.le_of_ble_eq_true rfl, Nat.le_of_ble_eq_true rfl⟩ (by have e9 : apE ln x = 1 := (by first | (simp [apE, c_1, c_5, n_c_5]; done) | (subst_vars; simp [apE, c_1, c_5, n_c_5])); rw [e9]; simp [ni0, bI_t, bI_f, nI_one, setT_eq, c_1, c_5, n_c_5] <;> rfl)
