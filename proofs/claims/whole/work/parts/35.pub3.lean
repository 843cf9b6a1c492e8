theorem hd_X4_house : yX4_house.cls = RX4 ∧ yX4_house.cls ≠ "java/lang/invoke/MethodHandle" ∧ yX4_house.cls ≠ "java/lang/invoke/VarHandle" ∧ (parseMethodDescriptor yX4_house.desc).map (fun d => d.parameters.length) = some 2 := by decide +kernel
theorem hn_X4_house : yX4_house.cls ≠ "java/lang/invoke/MethodHandle" ∧ yX4_house.cls ≠ "java/lang/invoke/VarHandle" ∧ (parseMethodDescriptor yX4_house.desc).map (fun d => d.parameters.length) = some 2 := hd_X4_house.2
theorem hd_X4_stop : yX4_stop.cls = RX4 ∧ yX4_stop.cls ≠ "java/lang/invoke/MethodHandle" ∧ yX4_stop.cls ≠ "java/lang/invoke/VarHandle" ∧ (parseMethodDescriptor yX4_stop.desc).map (fun d => d.parameters.length) = some 2 := by decide +kernel
theorem hn_X4_stop : yX4_stop.cls ≠ "java/lang/invoke/MethodHandle" ∧ yX4_stop.cls ≠ "java/lang/invoke/VarHandle" ∧ (parseMethodDescriptor yX4_stop.desc).map (fun d => d.parameters.length) = some 2 := hd_X4_stop.2
theorem hd_X4_lay : yX4_lay.cls = RX4 ∧ yX4_lay.cls ≠ "java/lang/invoke/MethodHandle" ∧ yX4_lay.cls ≠ "java/lang/invoke/VarHandle" ∧ (parseMethodDescriptor yX4_lay.desc).map (fun d => d.parameters.length) = some 3 := by decide +kernel
theorem hn_X4_lay : yX4_lay.cls ≠ "java/lang/invoke/MethodHandle" ∧ yX4_lay.cls ≠ "java/lang/invoke/VarHandle" ∧ (parseMethodDescriptor yX4_lay.desc).map (fun d => d.parameters.length) = some 3 := hd_X4_lay.2
theorem hd_X4_branch : yX4_branch.cls = RX4 ∧ yX4_branch.cls ≠ "java/lang/invoke/MethodHandle" ∧ yX4_branch.cls ≠ "java/lang/invoke/VarHandle" ∧ (parseMethodDescriptor yX4_branch.desc).map (fun d => d.parameters.length) = some 3 := by decide +kernel
theorem hn_X4_branch : yX4_branch.cls ≠ "java/lang/invoke/MethodHandle" ∧ yX4_branch.cls ≠ "java/lang/invoke/VarHandle" ∧ (parseMethodDescriptor yX4_branch.desc).map (fun d => d.parameters.length) = some 3 := hd_X4_branch.2
theorem hd_X4_give : yX4_give.cls = RX4 ∧ yX4_give.cls ≠ "java/lang/invoke/MethodHandle" ∧ yX4_give.cls ≠ "java/lang/invoke/VarHandle" ∧ (parseMethodDescriptor yX4_give.desc).map (fun d => d.parameters.length) = some 2 := by decide +kernel
theorem hn_X4_give : yX4_give.cls ≠ "java/lang/invoke/MethodHandle" ∧ yX4_give.cls ≠ "java/lang/invoke/VarHandle" ∧ (parseMethodDescriptor yX4_give.desc).map (fun d => d.parameters.length) = some 2 := hd_X4_give.2
theorem hd_X4_set : yX4_set.cls = RX4 ∧ yX4_set.cls ≠ "java/lang/invoke/MethodHandle" ∧ yX4_set.cls ≠ "java/lang/invoke/VarHandle" ∧ (parseMethodDescriptor yX4_set.desc).map (fun d => d.parameters.length) = some 2 := by decide +kernel
theorem hn_X4_set : yX4_set.cls ≠ "java/lang/invoke/MethodHandle" ∧ yX4_set.cls ≠ "java/lang/invoke/VarHandle" ∧ (parseMethodDescriptor yX4_set.desc).map (fun d => d.parameters.length) = some 2 := hd_X4_set.2
set_option maxHeartbeats 4000000 in
set_option maxRecDepth 100000 in
theorem c_X4_house (l : Launch) (D : va_G) (K : Nat → ClassId) (sz : Nat) (r : Nat → Nat) (th pn : Int32) (sn ln pm sta ms : Nat) (hs : Int64) (T : TW) (sv : Nat → Int32) (cs : Nat → Nat) (pf : Nat → Int32) (fa : Nat → Nat) (Y : va_W) (x : Int32) (on : Bool) (hI : Inv T) (hsn : sn ≤ 6) : Wr l yX4_house wsX4_house ({ frames := 3, cells := 0, slots := 0, locals := 57 } : Room) D K (refO r th (nI sn) (nI ln) (nI pm) pn (nI sta) (nI ms) hs :: zC K r T :: sC K r sv :: bC K r cs :: pC K r pf :: fC K r fa :: Y) sz [.ref (r 0), .int x, .int (bI on)] (if houE T x = 0 then refO r (nI 0) (nI (svN sn)) (nI ln) (nI pm) pn (nI sta) (nI ms) hs :: zC K r (setT T 0 (tn x) (bI on)) :: sC K r (savS sv sn T) :: bC K r cs :: pC K r pf :: fC K r fa :: Y else refO r (nI (houE T x)) (nI sn) (nI ln) (nI pm) pn (nI sta) (nI ms) hs :: zC K r T :: sC K r sv :: bC K r cs :: pC K r pf :: fC K r fa :: Y) (some (.int (if houE T x = 0 then bI (hsT T (tn x)) else 0))) 0 0 := by
  refine wr_intro (cc := cX4_house) (maxL := 4) (ret := (some .int)) (by decide) rfl (Nat.le_of_ble_eq_true rfl) ?_
  intro pr en st md ar bl mt co A hx hb hml hr hts hown hk hsz hAe hP hE hD hS hA hin ls hl
  have hown : st.vm.findClass RX4 = some md.cls := hown
  have hl : lv_has ls 4 [(0, .ref (r 0)), (1, .int x), (2, .int (bI on))] := hl
  obtain ⟨H, hH⟩ : ∃ z, z = st.heap := ⟨_, rfl⟩
  obtain ⟨locs, hlo⟩ : ∃ z : List Loc, z = [] := ⟨_, rfl⟩
  have hP : va_P D vwCl (refO r th (nI sn) (nI ln) (nI pm) pn (nI sta) (nI ms) hs :: zC K r T :: sC K r sv :: bC K r cs :: pC K r pf :: fC K r fa :: Y) H := by rw [hH]; exact hP
  have hS : va_S A st.heap H locs := by rw [hH, hlo]; exact hS
  suffices go : W pr l en (headSpec wsX4_house ({ frames := 3, cells := 0, slots := 0, locals := 57 } : Room)).room st md ar bl mt co H locs 0 0 (MQ bl (wrQ D (refO r th (nI sn) (nI ln) (nI pm) pn (nI sta) (nI ms) hs :: zC K r T :: sC K r sv :: bC K r cs :: pC K r pf :: fC K r fa :: Y) (if houE T x = 0 then refO r (nI 0) (nI (svN sn)) (nI ln) (nI pm) pn (nI sta) (nI ms) hs :: zC K r (setT T 0 (tn x) (bI on)) :: sC K r (savS sv sn T) :: bC K r cs :: pC K r pf :: fC K r fa :: Y else refO r (nI (houE T x)) (nI sn) (nI ln) (nI pm) pn (nI sta) (nI ms) hs :: zC K r T :: sC K r sv :: bC K r cs :: pC K r pf :: fC K r fa :: Y) sz (some (.int (if houE T x = 0 then bI (hsT T (tn x)) else 0)))) ar st 0 0 A) (F0 md 0 ls []) by rw [hH, hlo] at go; exact go
  clear hH hlo
  have F7 : (Cond.fieldLink RX4 7 "TramTollsModel" "z" "[I").before ar st = true := hts _ (List.mem_of_getElem? (i := 1) rfl)
  have inX4 : ∀ w ∈ u_ws RX4 TX4 13, w ∈ wsX4_house := fun w h => List.mem_cons_of_mem _ (List.mem_append_right _ h)
  have F29 : (Cond.fieldLink RX4 29 "TramTollsModel" "thrown" "I").before ar st = true := hts _ (List.mem_of_getElem? (i := 2) rfl)
  refine lv_aload_n hx hb dX4_house_0 rfl (lv_at hl 0 rfl) ?_
  refine lv_iload_n hx hb dX4_house_1 rfl (lv_at hl 1 rfl) ?_
  refine rd_S (rest := [.ref (r 0)]) ⟨hx, hb, hml, hown, hts⟩ hP hE (c_X4_isSquare l D K _ x) (va_cwS 1 hts gX4_house_X4_isSquare rfl rfl rfl hn_X4_isSquare ⟨Nat.le_of_ble_eq_true rfl, Nat.le_of_ble_eq_true rfl⟩) rfl hl.1 rfl (Nat.le_of_ble_eq_true rfl) dX4_house_2 ⟨Nat.le_of_ble_eq_true rfl, Nat.le_of_ble_eq_true rfl⟩ ?_
  refine bv_if_ne (x := inR 0 79 x) (tgt := 12) hx hb dX4_house_5 (by decide) (fun c_1 => ?_) (fun c_1 => ?_)
  · obtain ⟨s9, lo_s9, hi_s9, e_s9⟩ := inR_nL (a := 0) (b := 79) rfl rfl (by decide) (by decide) c_1
    subst e_s9
    have t_s9 := tn_nI (n := s9) (by omega)
    refine lv_aload_n hx hb dX4_house_12 rfl (lv_at hl 0 rfl) ?_
    refine va_get (D := D) (ci := 4) (v := .ref (r 1)) (C := RX4) (T := TX4) (N := 13) hx hb hts inX4 hown hE.1 hP 0 rfl rfl 1 (by decide) F7 (fun _ h9 => h9) rfl dX4_house_13 ?_
    refine lv_bipush (v := nI 84) hx hb dX4_house_16 (by decide) ?_
    refine lv_iload_n hx hb dX4_house_18 rfl (lv_at hl 1 rfl) ?_
    refine nv_iadd (x := 84) (y := s9) hx hb dX4_house_19 ?_
    refine va_iald hx hb hE.1 hP 1 0 rfl rfl (pk_in (84 + s9) 288 (by omega)) dX4_house_20 ?_
    rw [pk_cl (84 + s9)]
    refine top_i (y := nI (mkT T s9)) (((congrArg (zT T) (show 84 + s9 = 84 + s9 from by omega)).trans (zT_mk (by omega))).trans (show T 1 s9 = nI (mkT T s9) from eq_mk hI (by omega))) ?_
    have hb_2 := mk_lt hI (show s9 < 80 by omega)
    refine nv_if_ne (x := mkT T s9) (tgt := 34) hx hb dX4_house_21 (by decide) (by omega) (fun c_3 => ?_) (fun c_3 => ?_)
    · have n_c_3 : ¬ mkT T s9 = 0 := by omega
      refine lv_iconst (v := nI 2) hx hb dX4_house_34 (by decide) ?_
      refine lv_goto (tgt := 39) hx hb dX4_house_35 (by decide) ?_
      refine va_put (D := D) (ci := 4) (v := .int (nI 2)) (ty := .int) (C := RX4) (T := TX4) (N := 13) hx hb hts inX4 tyX4 tyX4_ok nmX4 hown hE.1 hP hD hS 0 rfl rfl 0 (by decide) F29 (fun _ h9 => h9) rfl (by decide +kernel) rfl rfl (Nat.le_of_ble_eq_true rfl) dX4_house_39 (fun H locs hP hD hS => ?_)
      have hP : va_P D vwCl (refO r (nI 2) (nI sn) (nI ln) (nI pm) pn (nI sta) (nI ms) hs :: zC K r T :: sC K r sv :: bC K r cs :: pC K r pf :: fC K r fa :: Y) H := hP
      have hD : va_D A (refO r (nI 2) (nI sn) (nI ln) (nI pm) pn (nI sta) (nI ms) hs :: zC K r T :: sC K r sv :: bC K r cs :: pC K r pf :: fC K r fa :: Y) := hD
      refine lv_aload_n hx hb dX4_house_42 rfl (lv_at hl 0 rfl) ?_
      refine va_get (D := D) (ci := 4) (v := .int (nI 2)) (C := RX4) (T := TX4) (N := 13) hx hb hts inX4 hown hE.1 hP 0 rfl rfl 0 (by decide) F29 (fun _ h9 => h9) rfl dX4_house_43 ?_
      refine nv_if_le (x := 2) (tgt := 51) hx hb dX4_house_46 (by decide) (by decide) (fun c_4 => ?_) (fun c_4 => ?_)
      · exact absurd c_4 (by decide)
      have n_c_4 : ¬ 2 = 0 := by omega
      refine lv_iconst (v := nI 0) hx hb dX4_house_49 (by decide) ?_
      have ew : (refO r (nI 2) (nI sn) (nI ln) (nI pm) pn (nI sta) (nI ms) hs :: zC K r T :: sC K r sv :: bC K r cs :: pC K r pf :: fC K r fa :: Y) = (if houE T (nI s9) = 0 then refO r (nI 0) (nI (svN sn)) (nI ln) (nI pm) pn (nI sta) (nI ms) hs :: zC K r (setT T 0 (tn (nI s9)) (bI on)) :: sC K r (savS sv sn T) :: bC K r cs :: pC K r pf :: fC K r fa :: Y else refO r (nI (houE T (nI s9))) (nI sn) (nI ln) (nI pm) pn (nI sta) (nI ms) hs :: zC K r T :: sC K r sv :: bC K r cs :: pC K r pf :: fC K r fa :: Y) := by have e9 : houE T (nI s9) = 2 := (by first | (simp [houE, c_1, t_s9, c_3, n_c_3, c_4, n_c_4]; done) | (subst_vars; simp [houE, c_1, t_s9, c_3, n_c_3, c_4, n_c_4])); rw [e9]; simp [ni0, bI_t, bI_f, nI_one, setT_eq, c_1, t_s9, c_3, n_c_3, c_4, n_c_4] <;> rfl
      rw [ew] at hP hD
      exact wr_iret hAe hP hD hS hx hb hr hk dX4_house_50 ⟨Nat.le_of_ble_eq_true rfl, Nat.le_of_ble_eq_true rfl⟩ (by have e9 : houE T (nI s9) = 2 := (by first | (simp [houE, c_1, t_s9, c_3, n_c_3, c_4, n_c_4]; done) | (subst_vars; simp [houE, c_1, t_s9, c_3, n_c_3, c_4, n_c_4])); rw [e9]; simp [ni0, bI_t, bI_f, nI_one, setT_eq, c_1, t_s9, c_3, n_c_3, c_4, n_c_4] <;> rfl)
    · have n_c_3 : ¬ 0 < mkT T s9 := by omega
      refine lv_aload_n hx hb dX4_house_24 rfl (lv_at hl 0 rfl) ?_
      refine lv_iload_n hx hb dX4_house_25 rfl (lv_at hl 1 rfl) ?_
      refine lv_iconst (v := -1) hx hb dX4_house_26 (by decide) ?_
      refine rd_V (rest := [.ref (r 0)]) (ci := 4) (q0 := 0) ⟨hx, hb, hml, hown, hts⟩ hP hE (c_X4_stopOn l D K _ _ _ _ _ _ _ _ _ _ _ (some s9) none hI (fun k z => by cases z; omega) (fun k z => by cases z)) (cwV 2 hts gX4_house_X4_stopOn rfl rfl rfl hd_X4_stopOn ⟨Nat.le_of_ble_eq_true rfl, Nat.le_of_ble_eq_true rfl⟩) rfl rfl rfl rfl hl.1 rfl (Nat.le_of_ble_eq_true rfl) dX4_house_27 ⟨Nat.le_of_ble_eq_true rfl, Nat.le_of_ble_eq_true rfl⟩ ?_
      refine lv_iconst (v := -1) hx hb dX4_house_30 (by decide) ?_
      refine ov_icmp_eq (tgt := 38) hx hb dX4_house_31 (by decide) (lt31 (sto_lt T (some s9) none) (by decide)) (fun c_5 => ?_) (fun k_6 c_5 => ?_)
      · refine lv_iconst (v := nI 0) hx hb dX4_house_38 (by decide) ?_
        refine va_put (D := D) (ci := 4) (v := .int (nI 0)) (ty := .int) (C := RX4) (T := TX4) (N := 13) hx hb hts inX4 tyX4 tyX4_ok nmX4 hown hE.1 hP hD hS 0 rfl rfl 0 (by decide) F29 (fun _ h9 => h9) rfl (by decide +kernel) rfl rfl (Nat.le_of_ble_eq_true rfl) dX4_house_39 (fun H locs hP hD hS => ?_)
        have hP : va_P D vwCl (refO r (nI 0) (nI sn) (nI ln) (nI pm) pn (nI sta) (nI ms) hs :: zC K r T :: sC K r sv :: bC K r cs :: pC K r pf :: fC K r fa :: Y) H := hP
        have hD : va_D A (refO r (nI 0) (nI sn) (nI ln) (nI pm) pn (nI sta) (nI ms) hs :: zC K r T :: sC K r sv :: bC K r cs :: pC K r pf :: fC K r fa :: Y) := hD
        refine lv_aload_n hx hb dX4_house_42 rfl (lv_at hl 0 rfl) ?_
        refine va_get (D := D) (ci := 4) (v := .int (nI 0)) (C := RX4) (T := TX4) (N := 13) hx hb hts inX4 hown hE.1 hP 0 rfl rfl 0 (by decide) F29 (fun _ h9 => h9) rfl dX4_house_43 ?_
        refine nv_if_le (x := 0) (tgt := 51) hx hb dX4_house_46 (by decide) (by decide) (fun c_7 => ?_) (fun c_7 => ?_)
        · have n_c_7 : ¬ 0 < 0 := by omega
          refine lv_aload_n hx hb dX4_house_51 rfl (lv_at hl 0 rfl) ?_
          refine wr_V (rest := []) (ci := 4) (q0 := 0) ⟨hx, hb, hml, hown, hts⟩ hP hE hA hD hS (c_X4_save l D K _ _ _ _ sn _ _ _ _ _ _ _ _ _ _ _ hsn) (cwV 0 hts gX4_house_X4_save rfl rfl rfl hd_X4_save ⟨Nat.le_of_ble_eq_true rfl, Nat.le_of_ble_eq_true rfl⟩) rfl rfl rfl rfl hl.1 rfl (Nat.le_of_ble_eq_true rfl) dX4_house_52 ⟨Nat.le_of_ble_eq_true rfl, Nat.le_of_ble_eq_true rfl⟩ (fun H locs hP hD hS => ?_)
          have hP : va_P D vwCl (refO r (nI 0) (nI (svN sn)) (nI ln) (nI pm) pn (nI sta) (nI ms) hs :: zC K r T :: sC K r (savS sv sn T) :: bC K r cs :: pC K r pf :: fC K r fa :: Y) H := hP
          have hD : va_D A (refO r (nI 0) (nI (svN sn)) (nI ln) (nI pm) pn (nI sta) (nI ms) hs :: zC K r T :: sC K r (savS sv sn T) :: bC K r cs :: pC K r pf :: fC K r fa :: Y) := hD
          refine lv_aload_n hx hb dX4_house_55 rfl (lv_at hl 0 rfl) ?_
          refine va_get (D := D) (ci := 4) (v := .ref (r 1)) (C := RX4) (T := TX4) (N := 13) hx hb hts inX4 hown hE.1 hP 0 rfl rfl 1 (by decide) F7 (fun _ h9 => h9) rfl dX4_house_56 ?_
          refine lv_iconst (v := nI 4) hx hb dX4_house_59 (by decide) ?_
          refine lv_iload_n hx hb dX4_house_60 rfl (lv_at hl 1 rfl) ?_
          refine nv_iadd (x := 4) (y := s9) hx hb dX4_house_61 ?_
          refine va_iald hx hb hE.1 hP 1 0 rfl rfl (pk_in (4 + s9) 288 (by omega)) dX4_house_62 ?_
          rw [pk_cl (4 + s9)]
          refine top_i (y := bI (hsT T s9)) (((congrArg (zT T) (show 4 + s9 = 4 + s9 from by omega)).trans (zT_hs (by omega))).trans (show T 0 s9 = bI (hsT T s9) from eq_hs hI (by omega))) ?_
          refine lv_istore_n (lv' := [(3, .int (bI (hsT T s9))), (0, .ref (r 0)), (1, .int (nI s9)), (2, .int (bI on))]) hx hb dX4_house_63 rfl hl (by decide) rfl (fun ls hl => ?_)
          refine lv_aload_n hx hb dX4_house_64 rfl (lv_at hl 1 rfl) ?_
          refine va_get (D := D) (ci := 4) (v := .ref (r 1)) (C := RX4) (T := TX4) (N := 13) hx hb hts inX4 hown hE.1 hP 0 rfl rfl 1 (by decide) F7 (fun _ h9 => h9) rfl dX4_house_65 ?_
          refine lv_iconst (v := nI 4) hx hb dX4_house_68 (by decide) ?_
          refine lv_iload_n hx hb dX4_house_69 rfl (lv_at hl 2 rfl) ?_
          refine nv_iadd (x := 4) (y := s9) hx hb dX4_house_70 ?_
          refine lv_iload_n hx hb dX4_house_71 rfl (lv_at hl 3 rfl) ?_
          refine bv_if_eq (x := on) (tgt := 79) hx hb dX4_house_72 (by decide) (fun c_8 => ?_) (fun c_8 => ?_)
          · refine lv_iconst (v := nI 0) hx hb dX4_house_79 (by decide) ?_
            refine va_iast hx hb hE.1 hP hD hS 1 0 rfl rfl (pk_in (4 + s9) 288 (by omega)) dX4_house_80 (fun H locs hP hD hS => ?_)
            rw [pk_cl (4 + s9)] at hP hD
            rw [show upd (zT T) (4 + s9) (nI 0) = zT (setT T 0 s9 (nI 0)) from (congrArg (fun k_ => upd (zT T) k_ (nI 0)) (show 4 + s9 = 4 + s9 from by omega)).trans (zU_hs (by omega))] at hP hD
            have hP : va_P D vwCl (refO r (nI 0) (nI (svN sn)) (nI ln) (nI pm) pn (nI sta) (nI ms) hs :: zC K r (setT T 0 s9 (nI 0)) :: sC K r (savS sv sn T) :: bC K r cs :: pC K r pf :: fC K r fa :: Y) H := hP
            have hD : va_D A (refO r (nI 0) (nI (svN sn)) (nI ln) (nI pm) pn (nI sta) (nI ms) hs :: zC K r (setT T 0 s9 (nI 0)) :: sC K r (savS sv sn T) :: bC K r cs :: pC K r pf :: fC K r fa :: Y) := hD
            refine lv_iload_n hx hb dX4_house_81 rfl (lv_at hl 0 rfl) ?_
            have ew : (refO r (nI 0) (nI (svN sn)) (nI ln) (nI pm) pn (nI sta) (nI ms) hs :: zC K r (setT T 0 s9 (nI 0)) :: sC K r (savS sv sn T) :: bC K r cs :: pC K r pf :: fC K r fa :: Y) = (if houE T (nI s9) = 0 then refO r (nI 0) (nI (svN sn)) (nI ln) (nI pm) pn (nI sta) (nI ms) hs :: zC K r (setT T 0 (tn (nI s9)) (bI on)) :: sC K r (savS sv sn T) :: bC K r cs :: pC K r pf :: fC K r fa :: Y else refO r (nI (houE T (nI s9))) (nI sn) (nI ln) (nI pm) pn (nI sta) (nI ms) hs :: zC K r T :: sC K r sv :: bC K r cs :: pC K r pf :: fC K r fa :: Y) := by have e9 : houE T (nI s9) = 0 := (by first | (simp [houE, c_1, t_s9, c_3, n_c_3, c_5, c_7, n_c_7, c_8]; done) | (subst_vars; simp [houE, c_1, t_s9, c_3, n_c_3, c_5, c_7, n_c_7, c_8])); rw [e9]; simp [ni0, bI_t, bI_f, nI_one, setT_eq, c_1, t_s9, c_3, n_c_3, c_5, c_7, n_c_7, c_8] <;> rfl
            rw [ew] at hP hD
            exact wr_iret hAe hP hD hS hx hb hr hk dX4_house_82 ⟨Nat.le_of_ble_eq_true rfl, Nat.le_of_ble_eq_true rfl⟩ (by have e9 : houE T (nI s9) = 0 := (by first | (simp [houE, c_1, t_s9, c_3, n_c_3, c_5, c_7, n_c_7, c_8]; done) | (subst_vars; simp [houE, c_1, t_s9, c_3, n_c_3, c_5, c_7, n_c_7, c_8])); rw [e9]; simp [ni0, bI_t, bI_f, nI_one, setT_eq, c_1, t_s9, c_3, n_c_3, c_5, c_7, n_c_7, c_8] <;> rfl)
          · refine lv_iconst (v := nI 1) hx hb dX4_house_75 (by decide) ?_
            refine lv_goto (tgt := 80) hx hb dX4_house_76 (by decide) ?_
            refine va_iast hx hb hE.1 hP hD hS 1 0 rfl rfl (pk_in (4 + s9) 288 (by omega)) dX4_house_80 (fun H locs hP hD hS => ?_)
            rw [pk_cl (4 + s9)] at hP hD
            rw [show upd (zT T) (4 + s9) (nI 1) = zT (setT T 0 s9 (nI 1)) from (congrArg (fun k_ => upd (zT T) k_ (nI 1)) (show 4 + s9 = 4 + s9 from by omega)).trans (zU_hs (by omega))] at hP hD
            have hP : va_P D vwCl (refO r (nI 0) (nI (svN sn)) (nI ln) (nI pm) pn (nI sta) (nI ms) hs :: zC K r (setT T 0 s9 (nI 1)) :: sC K r (savS sv sn T) :: bC K r cs :: pC K r pf :: fC K r fa :: Y) H := hP
            have hD : va_D A (refO r (nI 0) (nI (svN sn)) (nI ln) (nI pm) pn (nI sta) (nI ms) hs :: zC K r (setT T 0 s9 (nI 1)) :: sC K r (savS sv sn T) :: bC K r cs :: pC K r pf :: fC K r fa :: Y) := hD
            refine lv_iload_n hx hb dX4_house_81 rfl (lv_at hl 0 rfl) ?_
            have ew : (refO r (nI 0) (nI (svN sn)) (nI ln) (nI pm) pn (nI sta) (nI ms) hs :: zC K r (setT T 0 s9 (nI 1)) :: sC K r (savS sv sn T) :: bC K r cs :: pC K r pf :: fC K r fa :: Y) = (if houE T (nI s9) = 0 then refO r (nI 0) (nI (svN sn)) (nI ln) (nI pm) pn (nI sta) (nI ms) hs :: zC K r (setT T 0 (tn (nI s9)) (bI on)) :: sC K r (savS sv sn T) :: bC K r cs :: pC K r pf :: fC K r fa :: Y else refO r (nI (houE T (nI s9))) (nI sn) (nI ln) (nI pm) pn (nI sta) (nI ms) hs :: zC K r T :: sC K r sv :: bC K r cs :: pC K r pf :: fC K r fa :: Y) := by have e9 : houE T (nI s9) = 0 := (by first | (simp [houE, c_1, t_s9, c_3, n_c_3, c_5, c_7, n_c_7, c_8]; done) | (subst_vars; simp [houE, c_1, t_s9, c_3, n_c_3, c_5, c_7, n_c_7, c_8])); rw [e9]; simp [ni0, bI_t, bI_f, nI_one, setT_eq, c_1, t_s9, c_3, n_c_3, c_5, c_7, n_c_7, c_8] <;> rfl
            rw [ew] at hP hD
            exact wr_iret hAe hP hD hS hx hb hr hk dX4_house_82 ⟨Nat.le_of_ble_eq_true rfl, Nat.le_of_ble_eq_true rfl⟩ (by have e9 : houE T (nI s9) = 0 := (by first | (simp [houE, c_1, t_s9, c_3, n_c_3, c_5, c_7, n_c_7, c_8]; done) | (subst_vars; simp [houE, c_1, t_s9, c_3, n_c_3, c_5, c_7, n_c_7, c_8])); rw [e9]; simp [ni0, bI_t, bI_f, nI_one, setT_eq, c_1, t_s9, c_3, n_c_3, c_5, c_7, n_c_7, c_8] <;> rfl)
        exact absurd c_7 (by decide)
      · have hk_c_5 := (sto_lt T (some s9) none) k_6 c_5
        refine lv_iconst (v := nI 2) hx hb dX4_house_34 (by decide) ?_
        refine lv_goto (tgt := 39) hx hb dX4_house_35 (by decide) ?_
        refine va_put (D := D) (ci := 4) (v := .int (nI 2)) (ty := .int) (C := RX4) (T := TX4) (N := 13) hx hb hts inX4 tyX4 tyX4_ok nmX4 hown hE.1 hP hD hS 0 rfl rfl 0 (by decide) F29 (fun _ h9 => h9) rfl (by decide +kernel) rfl rfl (Nat.le_of_ble_eq_true rfl) dX4_house_39 (fun H locs hP hD hS => ?_)
        have hP : va_P D vwCl (refO r (nI 2) (nI sn) (nI ln) (nI pm) pn (nI sta) (nI ms) hs :: zC K r T :: sC K r sv :: bC K r cs :: pC K r pf :: fC K r fa :: Y) H := hP
        have hD : va_D A (refO r (nI 2) (nI sn) (nI ln) (nI pm) pn (nI sta) (nI ms) hs :: zC K r T :: sC K r sv :: bC K r cs :: pC K r pf :: fC K r fa :: Y) := hD
        refine lv_aload_n hx hb dX4_house_42 rfl (lv_at hl 0 rfl) ?_
        refine va_get (D := D) (ci := 4) (v := .int (nI 2)) (C := RX4) (T := TX4) (N := 13) hx hb hts inX4 hown hE.1 hP 0 rfl rfl 0 (by decide) F29 (fun _ h9 => h9) rfl dX4_house_43 ?_
        refine nv_if_le (x := 2) (tgt := 51) hx hb dX4_house_46 (by decide) (by decide) (fun c_9 => ?_) (fun c_9 => ?_)
        · exact absurd c_9 (by decide)
        have n_c_9 : ¬ 2 = 0 := by omega
        refine lv_iconst (v := nI 0) hx hb dX4_house_49 (by decide) ?_
        have ew : (refO r (nI 2) (nI sn) (nI ln) (nI pm) pn (nI sta) (nI ms) hs :: zC K r T :: sC K r sv :: bC K r cs :: pC K r pf :: fC K r fa :: Y) = (if houE T (nI s9) = 0 then refO r (nI 0) (nI (svN sn)) (nI ln) (nI pm) pn (nI sta) (nI ms) hs :: zC K r (setT T 0 (tn (nI s9)) (bI on)) :: sC K r (savS sv sn T) :: bC K r cs :: pC K r pf :: fC K r fa :: Y else refO r (nI (houE T (nI s9))) (nI sn) (nI ln) (nI pm) pn (nI sta) (nI ms) hs :: zC K r T :: sC K r sv :: bC K r cs :: pC K r pf :: fC K r fa :: Y) := by have e9 : houE T (nI s9) = 2 := (by first | (simp [houE, c_1, t_s9, c_3, n_c_3, c_5, c_9, n_c_9]; done) | (subst_vars; simp [houE, c_1, t_s9, c_3, n_c_3, c_5, c_9, n_c_9])); rw [e9]; simp [ni0, bI_t, bI_f, nI_one, setT_eq, c_1, t_s9, c_3, n_c_3, c_5, c_9, n_c_9] <;> rfl
        rw [ew] at hP hD
        exact wr_iret hAe hP hD hS hx hb hr hk dX4_house_50 ⟨Nat.le_of_ble_eq_true rfl, Nat.le_of_ble_eq_true rfl⟩ (by have e9 : houE T (nI s9) = 2 := (by first | (simp [houE, c_1, t_s9, c_3, n_c_3, c_5, c_9, n_c_9]; done) | (subst_vars; simp [houE, c_1, t_s9, c_3, n_c_3, c_5, c_9, n_c_9])); rw [e9]; simp [ni0, bI_t, bI_f, nI_one, setT_eq, c_1, t_s9, c_3, n_c_3, c_5, c_9, n_c_9] <;> rfl)
  · refine lv_iconst (v := nI 1) hx hb dX4_house_8 (by decide) ?_
    refine lv_goto (tgt := 39) hx hb dX4_house_9 (by decide) ?_
    refine va_put (D := D) (ci := 4) (v := .int (nI 1)) (ty := .int) (C := RX4) (T := TX4) (N := 13) hx hb hts inX4 tyX4 tyX4_ok nmX4 hown hE.1 hP hD hS 0 rfl rfl 0 (by decide) F29 (fun _ h9 => h9) rfl (by decide +kernel) rfl rfl (Nat.le_of_ble_eq_true rfl) dX4_house_39 (fun H locs hP hD hS => ?_)
    have hP : va_P D vwCl (refO r (nI 1) (nI sn) (nI ln) (nI pm) pn (nI sta) (nI ms) hs :: zC K r T :: sC K r sv :: bC K r cs :: pC K r pf :: fC K r fa :: Y) H := hP
    have hD : va_D A (refO r (nI 1) (nI sn) (nI ln) (nI pm) pn (nI sta) (nI ms) hs :: zC K r T :: sC K r sv :: bC K r cs :: pC K r pf :: fC K r fa :: Y) := hD
    refine lv_aload_n hx hb dX4_house_42 rfl (lv_at hl 0 rfl) ?_
    refine va_get (D := D) (ci := 4) (v := .int (nI 1)) (C := RX4) (T := TX4) (N := 13) hx hb hts inX4 hown hE.1 hP 0 rfl rfl 0 (by decide) F29 (fun _ h9 => h9) rfl dX4_house_43 ?_
    refine nv_if_le (x := 1) (tgt := 51) hx hb dX4_house_46 (by decide) (by decide) (fun c_10 => ?_) (fun c_10 => ?_)
    · exact absurd c_10 (by decide)
    have n_c_10 : ¬ 1 = 0 := by omega
    refine lv_iconst (v := nI 0) hx hb dX4_house_49 (by decide) ?_
    have ew : (refO r (nI 1) (nI sn) (nI ln) (nI pm) pn (nI sta) (nI ms) hs :: zC K r T :: sC K r sv :: bC K r cs :: pC K r pf :: fC K r fa :: Y) = (if houE T x = 0 then refO r (nI 0) (nI (svN sn)) (nI ln) (nI pm) pn (nI sta) (nI ms) hs :: zC K r (setT T 0 (tn x) (bI on)) :: sC K r (savS sv sn T) :: bC K r cs :: pC K r pf :: fC K r fa :: Y else refO r (nI (houE T x)) (nI sn) (nI ln) (nI pm) pn (nI sta) (nI ms) hs :: zC K r T :: sC K r sv :: bC K r cs :: pC K r pf :: fC K r fa :: Y) := by have e9 : houE T x = 1 := (by first | (simp [houE, c_1, c_10, n_c_10]; done) | (subst_vars; simp [houE, c_1, c_10, n_c_10])); rw [e9]; simp [ni0, bI_t, bI_f, nI_one, setT_eq, c_1, c_10, n_c_10] <;> rfl
    rw [ew] at hP hD
    exact wr_iret hAe hP hD hS hx hb hr hk dX4_house_50 ⟨Nat.le_of_ble_eq_true rfl, Nat.le_of_ble_eq_true rfl⟩ (by have e9 : houE T x = 1 := (by first | (simp [houE, c_1, c_10, n_c_10]; done) | (subst_vars; simp [houE, c_1, c_10, n_c_10])); rw [e9]; simp [ni0, bI_t, bI_f, nI_one, setT_eq, c_1, c_10, n_c_10] <;> rfl)
set_option maxHeartbeats 4000000 in
set_option maxRecDepth 100000 in
theorem c_X4_stop (l : Launch) (D : va_G) (K : Nat → ClassId) (sz : Nat) (r : Nat → Nat) (th pn : Int32) (sn ln pm sta ms : Nat) (hs : Int64) (T : TW) (sv : Nat → Int32) (cs : Nat → Nat) (pf : Nat → Int32) (fa : Nat → Nat) (Y : va_W) (x y : Int32) (hI : Inv T) (hsn : sn ≤ 6) : Wr l yX4_stop wsX4_stop ({ frames := 3, cells := 0, slots := 0, locals := 57 } : Room) D K (refO r th (nI sn) (nI ln) (nI pm) pn (nI sta) (nI ms) hs :: zC K r T :: sC K r sv :: bC K r cs :: pC K r pf :: fC K r fa :: Y) sz [.ref (r 0), .int x, .int y] (if stE T x y = 0 then refO r (nI 0) (nI (svN sn)) (nI ln) (nI pm) pn (nI sta) (nI ms) hs :: zC K r (stpT T ((lowT T none).getD 0) (tn x) (tn y)) :: sC K r (savS sv sn T) :: bC K r cs :: pC K r pf :: fC K r fa :: Y else refO r (nI (stE T x y)) (nI sn) (nI ln) (nI pm) pn (nI sta) (nI ms) hs :: zC K r T :: sC K r sv :: bC K r cs :: pC K r pf :: fC K r fa :: Y) (some (.int (if stE T x y = 0 then oI (lowT T none) else 0))) 0 0 := by
  refine wr_intro (cc := cX4_stop) (maxL := 5) (ret := (some .int)) (by decide) rfl (Nat.le_of_ble_eq_true rfl) ?_
  intro pr en st md ar bl mt co A hx hb hml hr hts hown hk hsz hAe hP hE hD hS hA hin ls hl
  have hown : st.vm.findClass RX4 = some md.cls := hown
  have hl : lv_has ls 5 [(0, .ref (r 0)), (1, .int x), (2, .int y)] := hl
  obtain ⟨H, hH⟩ : ∃ z, z = st.heap := ⟨_, rfl⟩
  obtain ⟨locs, hlo⟩ : ∃ z : List Loc, z = [] := ⟨_, rfl⟩
  have hP : va_P D vwCl (refO r th (nI sn) (nI ln) (nI pm) pn (nI sta) (nI ms) hs :: zC K r T :: sC K r sv :: bC K r cs :: pC K r pf :: fC K r fa :: Y) H := by rw [hH]; exact hP
  have hS : va_S A st.heap H locs := by rw [hH, hlo]; exact hS
  suffices go : W pr l en (headSpec wsX4_stop ({ frames := 3, cells := 0, slots := 0, locals := 57 } : Room)).room st md ar bl mt co H locs 0 0 (MQ bl (wrQ D (refO r th (nI sn) (nI ln) (nI pm) pn (nI sta) (nI ms) hs :: zC K r T :: sC K r sv :: bC K r cs :: pC K r pf :: fC K r fa :: Y) (if stE T x y = 0 then refO r (nI 0) (nI (svN sn)) (nI ln) (nI pm) pn (nI sta) (nI ms) hs :: zC K r (stpT T ((lowT T none).getD 0) (tn x) (tn y)) :: sC K r (savS sv sn T) :: bC K r cs :: pC K r pf :: fC K r fa :: Y else refO r (nI (stE T x y)) (nI sn) (nI ln) (nI pm) pn (nI sta) (nI ms) hs :: zC K r T :: sC K r sv :: bC K r cs :: pC K r pf :: fC K r fa :: Y) sz (some (.int (if stE T x y = 0 then oI (lowT T none) else 0)))) ar st 0 0 A) (F0 md 0 ls []) by rw [hH, hlo] at go; exact go
  clear hH hlo
  have F29 : (Cond.fieldLink RX4 29 "TramTollsModel" "thrown" "I").before ar st = true := hts _ (List.mem_of_getElem? (i := 1) rfl)
  have inX4 : ∀ w ∈ u_ws RX4 TX4 13, w ∈ wsX4_stop := fun w h => List.mem_cons_of_mem _ (List.mem_append_right _ h)
  have F7 : (Cond.fieldLink RX4 7 "TramTollsModel" "z" "[I").before ar st = true := hts _ (List.mem_of_getElem? (i := 2) rfl)
  refine lv_iload_n hx hb dX4_stop_0 rfl (lv_at hl 1 rfl) ?_
  refine rd_S (rest := []) ⟨hx, hb, hml, hown, hts⟩ hP hE (c_X4_isSquare l D K _ x) (va_cwS 1 hts gX4_stop_X4_isSquare rfl rfl rfl hn_X4_isSquare ⟨Nat.le_of_ble_eq_true rfl, Nat.le_of_ble_eq_true rfl⟩) rfl hl.1 rfl (Nat.le_of_ble_eq_true rfl) dX4_stop_1 ⟨Nat.le_of_ble_eq_true rfl, Nat.le_of_ble_eq_true rfl⟩ ?_
  refine bv_if_eq (x := inR 0 79 x) (tgt := 18) hx hb dX4_stop_4 (by decide) (fun c_1 => ?_) (fun c_1 => ?_)
  · refine lv_iconst (v := nI 0) hx hb dX4_stop_18 (by decide) ?_
    refine lv_istore_n (lv' := [(3, .int (nI 0)), (0, .ref (r 0)), (1, .int x), (2, .int y)]) hx hb dX4_stop_19 rfl hl (by decide) rfl (fun ls hl => ?_)
    refine lv_aload_n hx hb dX4_stop_20 rfl (lv_at hl 1 rfl) ?_
    refine lv_iload_n hx hb dX4_stop_21 rfl (lv_at hl 0 rfl) ?_
    refine nv_if_ne (x := 0) (tgt := 29) hx hb dX4_stop_22 (by decide) (by decide) (fun c_2 => ?_) (fun c_2 => ?_)
    · exact absurd c_2 (by decide)
    have n_c_2 : ¬ 0 < 0 := by omega
    refine lv_iconst (v := nI 1) hx hb dX4_stop_25 (by decide) ?_
    refine lv_goto (tgt := 60) hx hb dX4_stop_26 (by decide) ?_
    refine va_put (D := D) (ci := 4) (v := .int (nI 1)) (ty := .int) (C := RX4) (T := TX4) (N := 13) hx hb hts inX4 tyX4 tyX4_ok nmX4 hown hE.1 hP hD hS 0 rfl rfl 0 (by decide) F29 (fun _ h9 => h9) rfl (by decide +kernel) rfl rfl (Nat.le_of_ble_eq_true rfl) dX4_stop_60 (fun H locs hP hD hS => ?_)
    have hP : va_P D vwCl (refO r (nI 1) (nI sn) (nI ln) (nI pm) pn (nI sta) (nI ms) hs :: zC K r T :: sC K r sv :: bC K r cs :: pC K r pf :: fC K r fa :: Y) H := hP
    have hD : va_D A (refO r (nI 1) (nI sn) (nI ln) (nI pm) pn (nI sta) (nI ms) hs :: zC K r T :: sC K r sv :: bC K r cs :: pC K r pf :: fC K r fa :: Y) := hD
    refine lv_aload_n hx hb dX4_stop_63 rfl (lv_at hl 1 rfl) ?_
    refine va_get (D := D) (ci := 4) (v := .int (nI 1)) (C := RX4) (T := TX4) (N := 13) hx hb hts inX4 hown hE.1 hP 0 rfl rfl 0 (by decide) F29 (fun _ h9 => h9) rfl dX4_stop_64 ?_
    refine nv_if_le (x := 1) (tgt := 72) hx hb dX4_stop_67 (by decide) (by decide) (fun c_3 => ?_) (fun c_3 => ?_)
    · exact absurd c_3 (by decide)
    have n_c_3 : ¬ 1 = 0 := by omega
    refine lv_iconst (v := nI 0) hx hb dX4_stop_70 (by decide) ?_
    have ew : (refO r (nI 1) (nI sn) (nI ln) (nI pm) pn (nI sta) (nI ms) hs :: zC K r T :: sC K r sv :: bC K r cs :: pC K r pf :: fC K r fa :: Y) = (if stE T x y = 0 then refO r (nI 0) (nI (svN sn)) (nI ln) (nI pm) pn (nI sta) (nI ms) hs :: zC K r (stpT T ((lowT T none).getD 0) (tn x) (tn y)) :: sC K r (savS sv sn T) :: bC K r cs :: pC K r pf :: fC K r fa :: Y else refO r (nI (stE T x y)) (nI sn) (nI ln) (nI pm) pn (nI sta) (nI ms) hs :: zC K r T :: sC K r sv :: bC K r cs :: pC K r pf :: fC K r fa :: Y) := by have e9 : stE T x y = 1 := (by first | (simp [stE, c_1, c_2, n_c_2, c_3, n_c_3]; done) | (subst_vars; simp [stE, c_1, c_2, n_c_2, c_3, n_c_3])); rw [e9]; simp [ni0, bI_t, bI_f, nI_one, setT_eq, c_1, c_2, n_c_2, c_3, n_c_3] <;> rfl
    rw [ew] at hP hD
    exact wr_iret hAe hP hD hS hx hb hr hk dX4_stop_71 ⟨Nat.le_of_ble_eq_true rfl, Nat.le_of_ble_eq_true rfl⟩ (by have e9 : stE T x y = 1 := (by first | (simp [stE, c_1, c_2, n_c_2, c_3, n_c_3]; done) | (subst_vars; simp [stE, c_1, c_2, n_c_2, c_3, n_c_3])); rw [e9]; simp [ni0, bI_t, bI_f, nI_one, setT_eq, c_1, c_2, n_c_2, c_3, n_c_3] <;> rfl)
  · obtain ⟨s9, lo_s9, hi_s9, e_s9⟩ := inR_nL (a := 0) (b := 79) rfl rfl (by decide) (by decide) c_1
    subst e_s9
    have t_s9 := tn_nI (n := s9) (by omega)
    refine lv_iload_n hx hb dX4_stop_7 rfl (lv_at hl 2 rfl) ?_
    refine rd_S (rest := []) ⟨hx, hb, hml, hown, hts⟩ hP hE (c_X4_isPlayer l D K _ y) (va_cwS 1 hts gX4_stop_X4_isPlayer rfl rfl rfl hn_X4_isPlayer ⟨Nat.le_of_ble_eq_true rfl, Nat.le_of_ble_eq_true rfl⟩) rfl hl.1 rfl (Nat.le_of_ble_eq_true rfl) dX4_stop_8 ⟨Nat.le_of_ble_eq_true rfl, Nat.le_of_ble_eq_true rfl⟩ ?_
    refine bv_if_eq (x := inR 0 3 y) (tgt := 18) hx hb dX4_stop_11 (by decide) (fun c_4 => ?_) (fun c_4 => ?_)
    · refine lv_iconst (v := nI 0) hx hb dX4_stop_18 (by decide) ?_
      refine lv_istore_n (lv' := [(3, .int (nI 0)), (0, .ref (r 0)), (1, .int (nI s9)), (2, .int y)]) hx hb dX4_stop_19 rfl hl (by decide) rfl (fun ls hl => ?_)
      refine lv_aload_n hx hb dX4_stop_20 rfl (lv_at hl 1 rfl) ?_
      refine lv_iload_n hx hb dX4_stop_21 rfl (lv_at hl 0 rfl) ?_
      refine nv_if_ne (x := 0) (tgt := 29) hx hb dX4_stop_22 (by decide) (by decide) (fun c_5 => ?_) (fun c_5 => ?_)
      · exact absurd c_5 (by decide)
      have n_c_5 : ¬ 0 < 0 := by omega
      refine lv_iconst (v := nI 1) hx hb dX4_stop_25 (by decide) ?_
      refine lv_goto (tgt := 60) hx hb dX4_stop_26 (by decide) ?_
      refine va_put (D := D) (ci := 4) (v := .int (nI 1)) (ty := .int) (C := RX4) (T := TX4) (N := 13) hx hb hts inX4 tyX4 tyX4_ok nmX4 hown hE.1 hP hD hS 0 rfl rfl 0 (by decide) F29 (fun _ h9 => h9) rfl (by decide +kernel) rfl rfl (Nat.le_of_ble_eq_true rfl) dX4_stop_60 (fun H locs hP hD hS => ?_)
      have hP : va_P D vwCl (refO r (nI 1) (nI sn) (nI ln) (nI pm) pn (nI sta) (nI ms) hs :: zC K r T :: sC K r sv :: bC K r cs :: pC K r pf :: fC K r fa :: Y) H := hP
      have hD : va_D A (refO r (nI 1) (nI sn) (nI ln) (nI pm) pn (nI sta) (nI ms) hs :: zC K r T :: sC K r sv :: bC K r cs :: pC K r pf :: fC K r fa :: Y) := hD
      refine lv_aload_n hx hb dX4_stop_63 rfl (lv_at hl 1 rfl) ?_
      refine va_get (D := D) (ci := 4) (v := .int (nI 1)) (C := RX4) (T := TX4) (N := 13) hx hb hts inX4 hown hE.1 hP 0 rfl rfl 0 (by decide) F29 (fun _ h9 => h9) rfl dX4_stop_64 ?_
      refine nv_if_le (x := 1) (tgt := 72) hx hb dX4_stop_67 (by decide) (by decide) (fun c_6 => ?_) (fun c_6 => ?_)
      · exact absurd c_6 (by decide)
      have n_c_6 : ¬ 1 = 0 := by omega
      refine lv_iconst (v := nI 0) hx hb dX4_stop_70 (by decide) ?_
      have ew : (refO r (nI 1) (nI sn) (nI ln) (nI pm) pn (nI sta) (nI ms) hs :: zC K r T :: sC K r sv :: bC K r cs :: pC K r pf :: fC K r fa :: Y) = (if stE T (nI s9) y = 0 then refO r (nI 0) (nI (svN sn)) (nI ln) (nI pm) pn (nI sta) (nI ms) hs :: zC K r (stpT T ((lowT T none).getD 0) (tn (nI s9)) (tn y)) :: sC K r (savS sv sn T) :: bC K r cs :: pC K r pf :: fC K r fa :: Y else refO r (nI (stE T (nI s9) y)) (nI sn) (nI ln) (nI pm) pn (nI sta) (nI ms) hs :: zC K r T :: sC K r sv :: bC K r cs :: pC K r pf :: fC K r fa :: Y) := by have e9 : stE T (nI s9) y = 1 := (by first | (simp [stE, c_1, t_s9, c_4, c_5, n_c_5, c_6, n_c_6]; done) | (subst_vars; simp [stE, c_1, t_s9, c_4, c_5, n_c_5, c_6, n_c_6])); rw [e9]; simp [ni0, bI_t, bI_f, nI_one, setT_eq, c_1, t_s9, c_4, c_5, n_c_5, c_6, n_c_6] <;> rfl
      rw [ew] at hP hD
      exact wr_iret hAe hP hD hS hx hb hr hk dX4_stop_71 ⟨Nat.le_of_ble_eq_true rfl, Nat.le_of_ble_eq_true rfl⟩ (by have e9 : stE T (nI s9) y = 1 := (by first | (simp [stE, c_1, t_s9, c_4, c_5, n_c_5, c_6, n_c_6]; done) | (subst_vars; simp [stE, c_1, t_s9, c_4, c_5, n_c_5, c_6, n_c_6])); rw [e9]; simp [ni0, bI_t, bI_f, nI_one, setT_eq, c_1, t_s9, c_4, c_5, n_c_5, c_6, n_c_6] <;> rfl)
    · obtain ⟨p9, lo_p9, hi_p9, e_p9⟩ := inR_nL (a := 0) (b := 3) rfl rfl (by decide) (by decide) c_4
      subst e_p9
      have t_p9 := tn_nI (n := p9) (by omega)
      refine lv_iconst (v := nI 1) hx hb dX4_stop_14 (by decide) ?_
      refine lv_goto (tgt := 19) hx hb dX4_stop_15 (by decide) ?_
      refine lv_istore_n (lv' := [(3, .int (nI 1)), (0, .ref (r 0)), (1, .int (nI s9)), (2, .int (nI p9))]) hx hb dX4_stop_19 rfl hl (by decide) rfl (fun ls hl => ?_)
      refine lv_aload_n hx hb dX4_stop_20 rfl (lv_at hl 1 rfl) ?_
      refine lv_iload_n hx hb dX4_stop_21 rfl (lv_at hl 0 rfl) ?_
      refine nv_if_ne (x := 1) (tgt := 29) hx hb dX4_stop_22 (by decide) (by decide) (fun c_7 => ?_) (fun c_7 => ?_)
      · have n_c_7 : ¬ 1 = 0 := by omega
        refine lv_aload_n hx hb dX4_stop_29 rfl (lv_at hl 1 rfl) ?_
        refine lv_iload_n hx hb dX4_stop_30 rfl (lv_at hl 2 rfl) ?_
        refine rd_V (rest := [.ref (r 0)]) (ci := 4) (q0 := 0) ⟨hx, hb, hml, hown, hts⟩ hP hE (c_X4_isHouse l D K _ _ _ _ _ _ _ _ _ _ _ s9 hI (by omega)) (cwV 1 hts gX4_stop_X4_isHouse rfl rfl rfl hd_X4_isHouse ⟨Nat.le_of_ble_eq_true rfl, Nat.le_of_ble_eq_true rfl⟩) rfl rfl rfl rfl hl.1 rfl (Nat.le_of_ble_eq_true rfl) dX4_stop_31 ⟨Nat.le_of_ble_eq_true rfl, Nat.le_of_ble_eq_true rfl⟩ ?_
        refine bv_if_ne (x := hsT T s9) (tgt := 55) hx hb dX4_stop_34 (by decide) (fun c_8 => ?_) (fun c_8 => ?_)
        · refine lv_iconst (v := nI 2) hx hb dX4_stop_55 (by decide) ?_
          refine lv_goto (tgt := 60) hx hb dX4_stop_56 (by decide) ?_
          refine va_put (D := D) (ci := 4) (v := .int (nI 2)) (ty := .int) (C := RX4) (T := TX4) (N := 13) hx hb hts inX4 tyX4 tyX4_ok nmX4 hown hE.1 hP hD hS 0 rfl rfl 0 (by decide) F29 (fun _ h9 => h9) rfl (by decide +kernel) rfl rfl (Nat.le_of_ble_eq_true rfl) dX4_stop_60 (fun H locs hP hD hS => ?_)
          have hP : va_P D vwCl (refO r (nI 2) (nI sn) (nI ln) (nI pm) pn (nI sta) (nI ms) hs :: zC K r T :: sC K r sv :: bC K r cs :: pC K r pf :: fC K r fa :: Y) H := hP
          have hD : va_D A (refO r (nI 2) (nI sn) (nI ln) (nI pm) pn (nI sta) (nI ms) hs :: zC K r T :: sC K r sv :: bC K r cs :: pC K r pf :: fC K r fa :: Y) := hD
          refine lv_aload_n hx hb dX4_stop_63 rfl (lv_at hl 1 rfl) ?_
          refine va_get (D := D) (ci := 4) (v := .int (nI 2)) (C := RX4) (T := TX4) (N := 13) hx hb hts inX4 hown hE.1 hP 0 rfl rfl 0 (by decide) F29 (fun _ h9 => h9) rfl dX4_stop_64 ?_
          refine nv_if_le (x := 2) (tgt := 72) hx hb dX4_stop_67 (by decide) (by decide) (fun c_9 => ?_) (fun c_9 => ?_)
          · exact absurd c_9 (by decide)
          have n_c_9 : ¬ 2 = 0 := by omega
          refine lv_iconst (v := nI 0) hx hb dX4_stop_70 (by decide) ?_
          have ew : (refO r (nI 2) (nI sn) (nI ln) (nI pm) pn (nI sta) (nI ms) hs :: zC K r T :: sC K r sv :: bC K r cs :: pC K r pf :: fC K r fa :: Y) = (if stE T (nI s9) (nI p9) = 0 then refO r (nI 0) (nI (svN sn)) (nI ln) (nI pm) pn (nI sta) (nI ms) hs :: zC K r (stpT T ((lowT T none).getD 0) (tn (nI s9)) (tn (nI p9))) :: sC K r (savS sv sn T) :: bC K r cs :: pC K r pf :: fC K r fa :: Y else refO r (nI (stE T (nI s9) (nI p9))) (nI sn) (nI ln) (nI pm) pn (nI sta) (nI ms) hs :: zC K r T :: sC K r sv :: bC K r cs :: pC K r pf :: fC K r fa :: Y) := by have e9 : stE T (nI s9) (nI p9) = 2 := (by first | (simp [stE, c_1, t_s9, c_4, t_p9, c_7, n_c_7, c_8, c_9, n_c_9]; done) | (subst_vars; simp [stE, c_1, t_s9, c_4, t_p9, c_7, n_c_7, c_8, c_9, n_c_9])); rw [e9]; simp [ni0, bI_t, bI_f, nI_one, setT_eq, c_1, t_s9, c_4, t_p9, c_7, n_c_7, c_8, c_9, n_c_9] <;> rfl
          rw [ew] at hP hD
          exact wr_iret hAe hP hD hS hx hb hr hk dX4_stop_71 ⟨Nat.le_of_ble_eq_true rfl, Nat.le_of_ble_eq_true rfl⟩ (by have e9 : stE T (nI s9) (nI p9) = 2 := (by first | (simp [stE, c_1, t_s9, c_4, t_p9, c_7, n_c_7, c_8, c_9, n_c_9]; done) | (subst_vars; simp [stE, c_1, t_s9, c_4, t_p9, c_7, n_c_7, c_8, c_9, n_c_9])); rw [e9]; simp [ni0, bI_t, bI_f, nI_one, setT_eq, c_1, t_s9, c_4, t_p9, c_7, n_c_7, c_8, c_9, n_c_9] <;> rfl)
        · refine lv_aload_n hx hb dX4_stop_37 rfl (lv_at hl 1 rfl) ?_
          refine lv_iload_n hx hb dX4_stop_38 rfl (lv_at hl 2 rfl) ?_
          refine lv_iload_n hx hb dX4_stop_39 rfl (lv_at hl 3 rfl) ?_
          refine rd_V (rest := [.ref (r 0)]) (ci := 4) (q0 := 0) ⟨hx, hb, hml, hown, hts⟩ hP hE (c_X4_stopOn l D K _ _ _ _ _ _ _ _ _ _ _ (some s9) (some p9) hI (fun k z => by cases z; omega) (fun k z => by cases z; omega)) (cwV 2 hts gX4_stop_X4_stopOn rfl rfl rfl hd_X4_stopOn ⟨Nat.le_of_ble_eq_true rfl, Nat.le_of_ble_eq_true rfl⟩) rfl rfl rfl rfl hl.1 rfl (Nat.le_of_ble_eq_true rfl) dX4_stop_40 ⟨Nat.le_of_ble_eq_true rfl, Nat.le_of_ble_eq_true rfl⟩ ?_
          refine lv_iconst (v := -1) hx hb dX4_stop_43 (by decide) ?_
          refine ov_icmp_ne (tgt := 55) hx hb dX4_stop_44 (by decide) (lt31 (sto_lt T (some s9) (some p9)) (by decide)) (fun k_11 c_10 => ?_) (fun c_10 => ?_)
          · have hk_c_10 := (sto_lt T (some s9) (some p9)) k_11 c_10
            refine lv_iconst (v := nI 2) hx hb dX4_stop_55 (by decide) ?_
            refine lv_goto (tgt := 60) hx hb dX4_stop_56 (by decide) ?_
            refine va_put (D := D) (ci := 4) (v := .int (nI 2)) (ty := .int) (C := RX4) (T := TX4) (N := 13) hx hb hts inX4 tyX4 tyX4_ok nmX4 hown hE.1 hP hD hS 0 rfl rfl 0 (by decide) F29 (fun _ h9 => h9) rfl (by decide +kernel) rfl rfl (Nat.le_of_ble_eq_true rfl) dX4_stop_60 (fun H locs hP hD hS => ?_)
            have hP : va_P D vwCl (refO r (nI 2) (nI sn) (nI ln) (nI pm) pn (nI sta) (nI ms) hs :: zC K r T :: sC K r sv :: bC K r cs :: pC K r pf :: fC K r fa :: Y) H := hP
            have hD : va_D A (refO r (nI 2) (nI sn) (nI ln) (nI pm) pn (nI sta) (nI ms) hs :: zC K r T :: sC K r sv :: bC K r cs :: pC K r pf :: fC K r fa :: Y) := hD
            refine lv_aload_n hx hb dX4_stop_63 rfl (lv_at hl 1 rfl) ?_
            refine va_get (D := D) (ci := 4) (v := .int (nI 2)) (C := RX4) (T := TX4) (N := 13) hx hb hts inX4 hown hE.1 hP 0 rfl rfl 0 (by decide) F29 (fun _ h9 => h9) rfl dX4_stop_64 ?_
            refine nv_if_le (x := 2) (tgt := 72) hx hb dX4_stop_67 (by decide) (by decide) (fun c_12 => ?_) (fun c_12 => ?_)
            · exact absurd c_12 (by decide)
            have n_c_12 : ¬ 2 = 0 := by omega
            refine lv_iconst (v := nI 0) hx hb dX4_stop_70 (by decide) ?_
            have ew : (refO r (nI 2) (nI sn) (nI ln) (nI pm) pn (nI sta) (nI ms) hs :: zC K r T :: sC K r sv :: bC K r cs :: pC K r pf :: fC K r fa :: Y) = (if stE T (nI s9) (nI p9) = 0 then refO r (nI 0) (nI (svN sn)) (nI ln) (nI pm) pn (nI sta) (nI ms) hs :: zC K r (stpT T ((lowT T none).getD 0) (tn (nI s9)) (tn (nI p9))) :: sC K r (savS sv sn T) :: bC K r cs :: pC K r pf :: fC K r fa :: Y else refO r (nI (stE T (nI s9) (nI p9))) (nI sn) (nI ln) (nI pm) pn (nI sta) (nI ms) hs :: zC K r T :: sC K r sv :: bC K r cs :: pC K r pf :: fC K r fa :: Y) := by have e9 : stE T (nI s9) (nI p9) = 2 := (by first | (simp [stE, c_1, t_s9, c_4, t_p9, c_7, n_c_7, c_8, c_10, c_12, n_c_12]; done) | (subst_vars; simp [stE, c_1, t_s9, c_4, t_p9, c_7, n_c_7, c_8, c_10, c_12, n_c_12])); rw [e9]; simp [ni0, bI_t, bI_f, nI_one, setT_eq, c_1, t_s9, c_4, t_p9, c_7, n_c_7, c_8, c_10, c_12, n_c_12] <;> rfl
            rw [ew] at hP hD
            exact wr_iret hAe hP hD hS hx hb hr hk dX4_stop_71 ⟨Nat.le_of_ble_eq_true rfl, Nat.le_of_ble_eq_true rfl⟩ (by have e9 : stE T (nI s9) (nI p9) = 2 := (by first | (simp [stE, c_1, t_s9, c_4, t_p9, c_7, n_c_7, c_8, c_10, c_12, n_c_12]; done) | (subst_vars; simp [stE, c_1, t_s9, c_4, t_p9, c_7, n_c_7, c_8, c_10, c_12, n_c_12])); rw [e9]; simp [ni0, bI_t, bI_f, nI_one, setT_eq, c_1, t_s9, c_4, t_p9, c_7, n_c_7, c_8, c_10, c_12, n_c_12] <;> rfl)
          · refine lv_aload_n hx hb dX4_stop_47 rfl (lv_at hl 1 rfl) ?_
            refine rd_V (rest := [.ref (r 0)]) (ci := 4) (q0 := 0) ⟨hx, hb, hml, hown, hts⟩ hP hE (c_X4_freeStop l D K _ _ _ _ _ _ _ _ _ _ _  hI ) (cwV 0 hts gX4_stop_X4_freeStop rfl rfl rfl hd_X4_freeStop ⟨Nat.le_of_ble_eq_true rfl, Nat.le_of_ble_eq_true rfl⟩) rfl rfl rfl rfl hl.1 rfl (Nat.le_of_ble_eq_true rfl) dX4_stop_48 ⟨Nat.le_of_ble_eq_true rfl, Nat.le_of_ble_eq_true rfl⟩ ?_
            refine lv_iconst (v := -1) hx hb dX4_stop_51 (by decide) ?_
            refine ov_icmp_ne (tgt := 59) hx hb dX4_stop_52 (by decide) (lt31 (low_lt T none) (by decide)) (fun k_14 c_13 => ?_) (fun c_13 => ?_)
            · have hk_c_13 := (low_lt T none) k_14 c_13
              refine lv_iconst (v := nI 0) hx hb dX4_stop_59 (by decide) ?_
              refine va_put (D := D) (ci := 4) (v := .int (nI 0)) (ty := .int) (C := RX4) (T := TX4) (N := 13) hx hb hts inX4 tyX4 tyX4_ok nmX4 hown hE.1 hP hD hS 0 rfl rfl 0 (by decide) F29 (fun _ h9 => h9) rfl (by decide +kernel) rfl rfl (Nat.le_of_ble_eq_true rfl) dX4_stop_60 (fun H locs hP hD hS => ?_)
              have hP : va_P D vwCl (refO r (nI 0) (nI sn) (nI ln) (nI pm) pn (nI sta) (nI ms) hs :: zC K r T :: sC K r sv :: bC K r cs :: pC K r pf :: fC K r fa :: Y) H := hP
              have hD : va_D A (refO r (nI 0) (nI sn) (nI ln) (nI pm) pn (nI sta) (nI ms) hs :: zC K r T :: sC K r sv :: bC K r cs :: pC K r pf :: fC K r fa :: Y) := hD
              refine lv_aload_n hx hb dX4_stop_63 rfl (lv_at hl 1 rfl) ?_
              refine va_get (D := D) (ci := 4) (v := .int (nI 0)) (C := RX4) (T := TX4) (N := 13) hx hb hts inX4 hown hE.1 hP 0 rfl rfl 0 (by decide) F29 (fun _ h9 => h9) rfl dX4_stop_64 ?_
              refine nv_if_le (x := 0) (tgt := 72) hx hb dX4_stop_67 (by decide) (by decide) (fun c_15 => ?_) (fun c_15 => ?_)
              · have n_c_15 : ¬ 0 < 0 := by omega
                refine lv_aload_n hx hb dX4_stop_72 rfl (lv_at hl 1 rfl) ?_
                refine wr_V (rest := []) (ci := 4) (q0 := 0) ⟨hx, hb, hml, hown, hts⟩ hP hE hA hD hS (c_X4_save l D K _ _ _ _ sn _ _ _ _ _ _ _ _ _ _ _ hsn) (cwV 0 hts gX4_stop_X4_save rfl rfl rfl hd_X4_save ⟨Nat.le_of_ble_eq_true rfl, Nat.le_of_ble_eq_true rfl⟩) rfl rfl rfl rfl hl.1 rfl (Nat.le_of_ble_eq_true rfl) dX4_stop_73 ⟨Nat.le_of_ble_eq_true rfl, Nat.le_of_ble_eq_true rfl⟩ (fun H locs hP hD hS => ?_)
                have hP : va_P D vwCl (refO r (nI 0) (nI (svN sn)) (nI ln) (nI pm) pn (nI sta) (nI ms) hs :: zC K r T :: sC K r (savS sv sn T) :: bC K r cs :: pC K r pf :: fC K r fa :: Y) H := hP
                have hD : va_D A (refO r (nI 0) (nI (svN sn)) (nI ln) (nI pm) pn (nI sta) (nI ms) hs :: zC K r T :: sC K r (savS sv sn T) :: bC K r cs :: pC K r pf :: fC K r fa :: Y) := hD
                refine lv_aload_n hx hb dX4_stop_76 rfl (lv_at hl 1 rfl) ?_
                refine rd_V (rest := []) (ci := 4) (q0 := 0) ⟨hx, hb, hml, hown, hts⟩ hP hE (c_X4_freeStop l D K _ _ _ _ _ _ _ _ _ _ _  hI ) (cwV 0 hts gX4_stop_X4_freeStop rfl rfl rfl hd_X4_freeStop ⟨Nat.le_of_ble_eq_true rfl, Nat.le_of_ble_eq_true rfl⟩) rfl rfl rfl rfl hl.1 rfl (Nat.le_of_ble_eq_true rfl) dX4_stop_77 ⟨Nat.le_of_ble_eq_true rfl, Nat.le_of_ble_eq_true rfl⟩ ?_
                refine top_i (y := nI k_14) (by rw [c_13]; rfl) ?_
                refine lv_istore (lv' := [(4, .int (nI k_14)), (3, .int (nI 1)), (0, .ref (r 0)), (1, .int (nI s9)), (2, .int (nI p9))]) hx hb dX4_stop_80 hl (by decide) rfl (fun ls hl => ?_)
                refine lv_aload_n hx hb dX4_stop_82 rfl (lv_at hl 2 rfl) ?_
                refine va_get (D := D) (ci := 4) (v := .ref (r 1)) (C := RX4) (T := TX4) (N := 13) hx hb hts inX4 hown hE.1 hP 0 rfl rfl 1 (by decide) F7 (fun _ h9 => h9) rfl dX4_stop_83 ?_
                refine lv_sipush (v := nI 244) hx hb dX4_stop_86 (by decide) ?_
                refine lv_iconst (v := nI 2) hx hb dX4_stop_89 (by decide) ?_
                refine lv_iload hx hb dX4_stop_90 (lv_at hl 0 rfl) ?_
                refine nv_imul (x := 2) (y := k_14) hx hb dX4_stop_92 ?_
                refine nv_iadd (x := 244) (y := 2 * k_14) hx hb dX4_stop_93 ?_
                refine lv_iload_n hx hb dX4_stop_94 rfl (lv_at hl 3 rfl) ?_
                refine va_iast hx hb hE.1 hP hD hS 1 0 rfl rfl (pk_in (244 + (2 * k_14)) 288 (by omega)) dX4_stop_95 (fun H locs hP hD hS => ?_)
                rw [pk_cl (244 + (2 * k_14))] at hP hD
                rw [show upd (zT T) (244 + (2 * k_14)) (nI s9) = zT (setT T 3 k_14 (nI s9)) from (congrArg (fun k_ => upd (zT T) k_ (nI s9)) (show 244 + (2 * k_14) = 244 + 2 * k_14 from by omega)).trans (zU_sq (by omega))] at hP hD
                have hP : va_P D vwCl (refO r (nI 0) (nI (svN sn)) (nI ln) (nI pm) pn (nI sta) (nI ms) hs :: zC K r (setT T 3 k_14 (nI s9)) :: sC K r (savS sv sn T) :: bC K r cs :: pC K r pf :: fC K r fa :: Y) H := hP
                have hD : va_D A (refO r (nI 0) (nI (svN sn)) (nI ln) (nI pm) pn (nI sta) (nI ms) hs :: zC K r (setT T 3 k_14 (nI s9)) :: sC K r (savS sv sn T) :: bC K r cs :: pC K r pf :: fC K r fa :: Y) := hD
                refine lv_aload_n hx hb dX4_stop_96 rfl (lv_at hl 2 rfl) ?_
                refine va_get (D := D) (ci := 4) (v := .ref (r 1)) (C := RX4) (T := TX4) (N := 13) hx hb hts inX4 hown hE.1 hP 0 rfl rfl 1 (by decide) F7 (fun _ h9 => h9) rfl dX4_stop_97 ?_
                refine lv_sipush (v := nI 244) hx hb dX4_stop_100 (by decide) ?_
                refine lv_iconst (v := nI 2) hx hb dX4_stop_103 (by decide) ?_
                refine lv_iload hx hb dX4_stop_104 (lv_at hl 0 rfl) ?_
                refine nv_imul (x := 2) (y := k_14) hx hb dX4_stop_106 ?_
                refine nv_iadd (x := 244) (y := 2 * k_14) hx hb dX4_stop_107 ?_
                refine lv_iconst (v := nI 1) hx hb dX4_stop_108 (by decide) ?_
                refine nv_iadd (x := 244 + (2 * k_14)) (y := 1) hx hb dX4_stop_109 ?_
                refine lv_iload_n hx hb dX4_stop_110 rfl (lv_at hl 4 rfl) ?_
                refine va_iast hx hb hE.1 hP hD hS 1 0 rfl rfl (pk_in ((244 + (2 * k_14)) + 1) 288 (by omega)) dX4_stop_111 (fun H locs hP hD hS => ?_)
                rw [pk_cl ((244 + (2 * k_14)) + 1)] at hP hD
                rw [show upd (zT (setT T 3 k_14 (nI s9))) ((244 + (2 * k_14)) + 1) (nI p9) = zT (setT (setT T 3 k_14 (nI s9)) 4 k_14 (nI p9)) from (congrArg (fun k_ => upd (zT (setT T 3 k_14 (nI s9))) k_ (nI p9)) (show (244 + (2 * k_14)) + 1 = 244 + 2 * k_14 + 1 from by omega)).trans (zU_pl (by omega))] at hP hD
                have hP : va_P D vwCl (refO r (nI 0) (nI (svN sn)) (nI ln) (nI pm) pn (nI sta) (nI ms) hs :: zC K r (setT (setT T 3 k_14 (nI s9)) 4 k_14 (nI p9)) :: sC K r (savS sv sn T) :: bC K r cs :: pC K r pf :: fC K r fa :: Y) H := hP
                have hD : va_D A (refO r (nI 0) (nI (svN sn)) (nI ln) (nI pm) pn (nI sta) (nI ms) hs :: zC K r (setT (setT T 3 k_14 (nI s9)) 4 k_14 (nI p9)) :: sC K r (savS sv sn T) :: bC K r cs :: pC K r pf :: fC K r fa :: Y) := hD
                refine lv_iload hx hb dX4_stop_112 (lv_at hl 0 rfl) ?_
                have ew : (refO r (nI 0) (nI (svN sn)) (nI ln) (nI pm) pn (nI sta) (nI ms) hs :: zC K r (setT (setT T 3 k_14 (nI s9)) 4 k_14 (nI p9)) :: sC K r (savS sv sn T) :: bC K r cs :: pC K r pf :: fC K r fa :: Y) = (if stE T (nI s9) (nI p9) = 0 then refO r (nI 0) (nI (svN sn)) (nI ln) (nI pm) pn (nI sta) (nI ms) hs :: zC K r (stpT T ((lowT T none).getD 0) (tn (nI s9)) (tn (nI p9))) :: sC K r (savS sv sn T) :: bC K r cs :: pC K r pf :: fC K r fa :: Y else refO r (nI (stE T (nI s9) (nI p9))) (nI sn) (nI ln) (nI pm) pn (nI sta) (nI ms) hs :: zC K r T :: sC K r sv :: bC K r cs :: pC K r pf :: fC K r fa :: Y) := by have e9 : stE T (nI s9) (nI p9) = 0 := (by first | (simp [stE, c_1, t_s9, c_4, t_p9, c_7, n_c_7, c_8, c_10, c_13, c_15, n_c_15]; done) | (subst_vars; simp [stE, c_1, t_s9, c_4, t_p9, c_7, n_c_7, c_8, c_10, c_13, c_15, n_c_15])); rw [e9]; simp [ni0, bI_t, bI_f, nI_one, setT_eq, c_1, t_s9, c_4, t_p9, c_7, n_c_7, c_8, c_10, c_13, c_15, n_c_15] <;> rfl
                rw [ew] at hP hD
                exact wr_iret hAe hP hD hS hx hb hr hk dX4_stop_114 ⟨Nat.le_of_ble_eq_true rfl, Nat.le_of_ble_eq_true rfl⟩ (by have e9 : stE T (nI s9) (nI p9) = 0 := (by first | (simp [stE, c_1, t_s9, c_4, t_p9, c_7, n_c_7, c_8, c_10, c_13, c_15, n_c_15]; done) | (subst_vars; simp [stE, c_1, t_s9, c_4, t_p9, c_7, n_c_7, c_8, c_10, c_13, c_15, n_c_15])); rw [e9]; simp [ni0, bI_t, bI_f, nI_one, setT_eq, c_1, t_s9, c_4, t_p9, c_7, n_c_7, c_8, c_10, c_13, c_15, n_c_15] <;> rfl)
              exact absurd c_15 (by decide)
            · refine lv_iconst (v := nI 2) hx hb dX4_stop_55 (by decide) ?_
              refine lv_goto (tgt := 60) hx hb dX4_stop_56 (by decide) ?_
              refine va_put (D := D) (ci := 4) (v := .int (nI 2)) (ty := .int) (C := RX4) (T := TX4) (N := 13) hx hb hts inX4 tyX4 tyX4_ok nmX4 hown hE.1 hP hD hS 0 rfl rfl 0 (by decide) F29 (fun _ h9 => h9) rfl (by decide +kernel) rfl rfl (Nat.le_of_ble_eq_true rfl) dX4_stop_60 (fun H locs hP hD hS => ?_)
              have hP : va_P D vwCl (refO r (nI 2) (nI sn) (nI ln) (nI pm) pn (nI sta) (nI ms) hs :: zC K r T :: sC K r sv :: bC K r cs :: pC K r pf :: fC K r fa :: Y) H := hP
              have hD : va_D A (refO r (nI 2) (nI sn) (nI ln) (nI pm) pn (nI sta) (nI ms) hs :: zC K r T :: sC K r sv :: bC K r cs :: pC K r pf :: fC K r fa :: Y) := hD
              refine lv_aload_n hx hb dX4_stop_63 rfl (lv_at hl 1 rfl) ?_
              refine va_get (D := D) (ci := 4) (v := .int (nI 2)) (C := RX4) (T := TX4) (N := 13) hx hb hts inX4 hown hE.1 hP 0 rfl rfl 0 (by decide) F29 (fun _ h9 => h9) rfl dX4_stop_64 ?_
              refine nv_if_le (x := 2) (tgt := 72) hx hb dX4_stop_67 (by decide) (by decide) (fun c_16 => ?_) (fun c_16 => ?_)
              · exact absurd c_16 (by decide)
              have n_c_16 : ¬ 2 = 0 := by omega
              refine lv_iconst (v := nI 0) hx hb dX4_stop_70 (by decide) ?_
              have ew : (refO r (nI 2) (nI sn) (nI ln) (nI pm) pn (nI sta) (nI ms) hs :: zC K r T :: sC K r sv :: bC K r cs :: pC K r pf :: fC K r fa :: Y) = (if stE T (nI s9) (nI p9) = 0 then refO r (nI 0) (nI (svN sn)) (nI ln) (nI pm) pn (nI sta) (nI ms) hs :: zC K r (stpT T ((lowT T none).getD 0) (tn (nI s9)) (tn (nI p9))) :: sC K r (savS sv sn T) :: bC K r cs :: pC K r pf :: fC K r fa :: Y else refO r (nI (stE T (nI s9) (nI p9))) (nI sn) (nI ln) (nI pm) pn (nI sta) (nI ms) hs :: zC K r T :: sC K r sv :: bC K r cs :: pC K r pf :: fC K r fa :: Y) := by have e9 : stE T (nI s9) (nI p9) = 2 := (by first | (simp [stE, c_1, t_s9, c_4, t_p9, c_7, n_c_7, c_8, c_10, c_13, c_16, n_c_16]; done) | (subst_vars; simp [stE, c_1, t_s9, c_4, t_p9, c_7, n_c_7, c_8, c_10, c_13, c_16, n_c_16])); rw [e9]; simp [ni0, bI_t, bI_f, nI_one, setT_eq, c_1, t_s9, c_4, t_p9, c_7, n_c_7, c_8, c_10, c_13, c_16, n_c_16] <;> rfl
              rw [ew] at hP hD
              exact wr_iret hAe hP hD hS hx hb hr hk dX4_stop_71 ⟨Nat.le_of_ble_eq_true rfl, Nat.le_of_ble_eq_true rfl⟩ (by have e9 : stE T (nI s9) (nI p9) = 2 := (by first | (simp [stE, c_1, t_s9, c_4, t_p9, c_7, n_c_7, c_8, c_10, c_13, c_16, n_c_16]; done) | (subst_vars; simp [stE, c_1, t_s9, c_4, t_p9, c_7, n_c_7, c_8, c_10, c_13, c_16, n_c_16])); rw [e9]; simp [ni0, bI_t, bI_f, nI_one, setT_eq, c_1, t_s9, c_4, t_p9, c_7, n_c_7, c_8, c_10, c_13, c_16, n_c_16] <;> rfl)
      exact absurd c_7 (by decide)
set_option maxHeartbeats 4000000 in
set_option maxRecDepth 100000 in
theorem c_X4_lay (l : Launch) (D : va_G) (K : Nat → ClassId) (sz : Nat) (r : Nat → Nat) (th pn : Int32) (sn ln pm sta ms : Nat) (hs : Int64) (T : TW) (sv : Nat → Int32) (cs : Nat → Nat) (pf : Nat → Int32) (fa : Nat → Nat) (Y : va_W) (x g d : Int32) (hI : Inv T) (hsn : sn ≤ 6) : Wr l yX4_lay wsX4_lay ({ frames := 4, cells := 0, slots := 0, locals := 83 } : Room) D K (refO r th (nI sn) (nI ln) (nI pm) pn (nI sta) (nI ms) hs :: zC K r T :: sC K r sv :: bC K r cs :: pC K r pf :: fC K r fa :: Y) sz [.ref (r 0), .int x, .int g, .int d] (if laE T x g d = 0 then refO r (nI 0) (nI (svN sn)) (nI ln) (nI pm) pn (nI sta) (nI ms) hs :: zC K r (layT T (tn x) (toT (hdT T (tn x)) (tn d)) (tn d)) :: sC K r (savS sv sn T) :: bC K r cs :: pC K r pf :: fC K r fa :: Y else refO r (nI (laE T x g d)) (nI sn) (nI ln) (nI pm) pn (nI sta) (nI ms) hs :: zC K r T :: sC K r sv :: bC K r cs :: pC K r pf :: fC K r fa :: Y) (some (.int (if laE T x g d = 0 then nI (tollT T (toT (hdT T (tn x)) (tn d))) else 0))) 0 0 := by
  refine wr_intro (cc := cX4_lay) (maxL := 5) (ret := (some .int)) (by decide) rfl (Nat.le_of_ble_eq_true rfl) ?_
  intro pr en st md ar bl mt co A hx hb hml hr hts hown hk hsz hAe hP hE hD hS hA hin ls hl
  have hown : st.vm.findClass RX4 = some md.cls := hown
  have hl : lv_has ls 5 [(0, .ref (r 0)), (1, .int x), (2, .int g), (3, .int d)] := hl
  obtain ⟨H, hH⟩ : ∃ z, z = st.heap := ⟨_, rfl⟩
  obtain ⟨locs, hlo⟩ : ∃ z : List Loc, z = [] := ⟨_, rfl⟩
  have hP : va_P D vwCl (refO r th (nI sn) (nI ln) (nI pm) pn (nI sta) (nI ms) hs :: zC K r T :: sC K r sv :: bC K r cs :: pC K r pf :: fC K r fa :: Y) H := by rw [hH]; exact hP
  have hS : va_S A st.heap H locs := by rw [hH, hlo]; exact hS
  suffices go : W pr l en (headSpec wsX4_lay ({ frames := 4, cells := 0, slots := 0, locals := 83 } : Room)).room st md ar bl mt co H locs 0 0 (MQ bl (wrQ D (refO r th (nI sn) (nI ln) (nI pm) pn (nI sta) (nI ms) hs :: zC K r T :: sC K r sv :: bC K r cs :: pC K r pf :: fC K r fa :: Y) (if laE T x g d = 0 then refO r (nI 0) (nI (svN sn)) (nI ln) (nI pm) pn (nI sta) (nI ms) hs :: zC K r (layT T (tn x) (toT (hdT T (tn x)) (tn d)) (tn d)) :: sC K r (savS sv sn T) :: bC K r cs :: pC K r pf :: fC K r fa :: Y else refO r (nI (laE T x g d)) (nI sn) (nI ln) (nI pm) pn (nI sta) (nI ms) hs :: zC K r T :: sC K r sv :: bC K r cs :: pC K r pf :: fC K r fa :: Y) sz (some (.int (if laE T x g d = 0 then nI (tollT T (toT (hdT T (tn x)) (tn d))) else 0)))) ar st 0 0 A) (F0 md 0 ls []) by rw [hH, hlo] at go; exact go
  clear hH hlo
  have F29 : (Cond.fieldLink RX4 29 "TramTollsModel" "thrown" "I").before ar st = true := hts _ (List.mem_of_getElem? (i := 1) rfl)
  have inX4 : ∀ w ∈ u_ws RX4 TX4 13, w ∈ wsX4_lay := fun w h => List.mem_cons_of_mem _ (List.mem_append_right _ h)
  refine lv_iload_n hx hb dX4_lay_0 rfl (lv_at hl 1 rfl) ?_
  refine rd_S (rest := []) ⟨hx, hb, hml, hown, hts⟩ hP hE (c_X4_isPlayer l D K _ x) (va_cwS 1 hts gX4_lay_X4_isPlayer rfl rfl rfl hn_X4_isPlayer ⟨Nat.le_of_ble_eq_true rfl, Nat.le_of_ble_eq_true rfl⟩) rfl hl.1 rfl (Nat.le_of_ble_eq_true rfl) dX4_lay_1 ⟨Nat.le_of_ble_eq_true rfl, Nat.le_of_ble_eq_true rfl⟩ ?_
  refine bv_if_ne (x := inR 0 3 x) (tgt := 14) hx hb dX4_lay_4 (by decide) (fun c_1 => ?_) (fun c_1 => ?_)
  · obtain ⟨s9, lo_s9, hi_s9, e_s9⟩ := inR_nL (a := 0) (b := 3) rfl rfl (by decide) (by decide) c_1
    subst e_s9
    have t_s9 := tn_nI (n := s9) (by omega)
    refine lv_iload_n hx hb dX4_lay_14 rfl (lv_at hl 2 rfl) ?_
    refine lv_iconst (v := nI 1) hx hb dX4_lay_15 (by decide) ?_
    refine lv_bipush (v := nI 6) hx hb dX4_lay_16 (by decide) ?_
    refine rd_S (rest := []) ⟨hx, hb, hml, hown, hts⟩ hP hE (c_X4_in l D K _ g 1 6) (va_cwS 3 hts gX4_lay_X4_in rfl rfl rfl hn_X4_in ⟨Nat.le_of_ble_eq_true rfl, Nat.le_of_ble_eq_true rfl⟩) rfl hl.1 rfl (Nat.le_of_ble_eq_true rfl) dX4_lay_18 ⟨Nat.le_of_ble_eq_true rfl, Nat.le_of_ble_eq_true rfl⟩ ?_
    refine bv_if_eq (x := inR 1 6 g) (tgt := 37) hx hb dX4_lay_21 (by decide) (fun c_2 => ?_) (fun c_2 => ?_)
    · refine lv_iconst (v := nI 0) hx hb dX4_lay_37 (by decide) ?_
      refine lv_istore (lv' := [(4, .int (nI 0)), (0, .ref (r 0)), (1, .int (nI s9)), (2, .int g), (3, .int d)]) hx hb dX4_lay_38 hl (by decide) rfl (fun ls hl => ?_)
      refine lv_aload_n hx hb dX4_lay_40 rfl (lv_at hl 1 rfl) ?_
      refine lv_iload hx hb dX4_lay_41 (lv_at hl 0 rfl) ?_
      refine nv_if_ne (x := 0) (tgt := 50) hx hb dX4_lay_43 (by decide) (by decide) (fun c_3 => ?_) (fun c_3 => ?_)
      · exact absurd c_3 (by decide)
      have n_c_3 : ¬ 0 < 0 := by omega
      refine lv_iconst (v := nI 2) hx hb dX4_lay_46 (by decide) ?_
      refine lv_goto (tgt := 71) hx hb dX4_lay_47 (by decide) ?_
      refine va_put (D := D) (ci := 4) (v := .int (nI 2)) (ty := .int) (C := RX4) (T := TX4) (N := 13) hx hb hts inX4 tyX4 tyX4_ok nmX4 hown hE.1 hP hD hS 0 rfl rfl 0 (by decide) F29 (fun _ h9 => h9) rfl (by decide +kernel) rfl rfl (Nat.le_of_ble_eq_true rfl) dX4_lay_71 (fun H locs hP hD hS => ?_)
      have hP : va_P D vwCl (refO r (nI 2) (nI sn) (nI ln) (nI pm) pn (nI sta) (nI ms) hs :: zC K r T :: sC K r sv :: bC K r cs :: pC K r pf :: fC K r fa :: Y) H := hP
      have hD : va_D A (refO r (nI 2) (nI sn) (nI ln) (nI pm) pn (nI sta) (nI ms) hs :: zC K r T :: sC K r sv :: bC K r cs :: pC K r pf :: fC K r fa :: Y) := hD
      refine lv_aload_n hx hb dX4_lay_74 rfl (lv_at hl 1 rfl) ?_
      refine va_get (D := D) (ci := 4) (v := .int (nI 2)) (C := RX4) (T := TX4) (N := 13) hx hb hts inX4 hown hE.1 hP 0 rfl rfl 0 (by decide) F29 (fun _ h9 => h9) rfl dX4_lay_75 ?_
      refine nv_if_le (x := 2) (tgt := 83) hx hb dX4_lay_78 (by decide) (by decide) (fun c_4 => ?_) (fun c_4 => ?_)
      · exact absurd c_4 (by decide)
      have n_c_4 : ¬ 2 = 0 := by omega
      refine lv_iconst (v := nI 0) hx hb dX4_lay_81 (by decide) ?_
      have ew : (refO r (nI 2) (nI sn) (nI ln) (nI pm) pn (nI sta) (nI ms) hs :: zC K r T :: sC K r sv :: bC K r cs :: pC K r pf :: fC K r fa :: Y) = (if laE T (nI s9) g d = 0 then refO r (nI 0) (nI (svN sn)) (nI ln) (nI pm) pn (nI sta) (nI ms) hs :: zC K r (layT T (tn (nI s9)) (toT (hdT T (tn (nI s9))) (tn d)) (tn d)) :: sC K r (savS sv sn T) :: bC K r cs :: pC K r pf :: fC K r fa :: Y else refO r (nI (laE T (nI s9) g d)) (nI sn) (nI ln) (nI pm) pn (nI sta) (nI ms) hs :: zC K r T :: sC K r sv :: bC K r cs :: pC K r pf :: fC K r fa :: Y) := by have e9 : laE T (nI s9) g d = 2 := (by first | (simp [laE, c_1, t_s9, c_2, c_3, n_c_3, c_4, n_c_4]; done) | (subst_vars; simp [laE, c_1, t_s9, c_2, c_3, n_c_3, c_4, n_c_4])); rw [e9]; simp [ni0, bI_t, bI_f, nI_one, setT_eq, c_1, t_s9, c_2, c_3, n_c_3, c_4, n_c_4] <;> rfl
      rw [ew] at hP hD
      exact wr_iret hAe hP hD hS hx hb hr hk dX4_lay_82 ⟨Nat.le_of_ble_eq_true rfl, Nat.le_of_ble_eq_true rfl⟩ (by have e9 : laE T (nI s9) g d = 2 := (by first | (simp [laE, c_1, t_s9, c_2, c_3, n_c_3, c_4, n_c_4]; done) | (subst_vars; simp [laE, c_1, t_s9, c_2, c_3, n_c_3, c_4, n_c_4])); rw [e9]; simp [ni0, bI_t, bI_f, nI_one, setT_eq, c_1, t_s9, c_2, c_3, n_c_3, c_4, n_c_4] <;> rfl)
    · obtain ⟨g9, lo_g9, hi_g9, e_g9⟩ := inR_nL (a := 1) (b := 6) rfl rfl (by decide) (by decide) c_2
      subst e_g9
      have t_g9 := tn_nI (n := g9) (by omega)
      refine lv_iload_n hx hb dX4_lay_24 rfl (lv_at hl 3 rfl) ?_
      refine lv_iconst (v := nI 0) hx hb dX4_lay_25 (by decide) ?_
      refine lv_iconst (v := nI 3) hx hb dX4_lay_26 (by decide) ?_
      refine rd_S (rest := []) ⟨hx, hb, hml, hown, hts⟩ hP hE (c_X4_in l D K _ d 0 3) (va_cwS 3 hts gX4_lay_X4_in rfl rfl rfl hn_X4_in ⟨Nat.le_of_ble_eq_true rfl, Nat.le_of_ble_eq_true rfl⟩) rfl hl.1 rfl (Nat.le_of_ble_eq_true rfl) dX4_lay_27 ⟨Nat.le_of_ble_eq_true rfl, Nat.le_of_ble_eq_true rfl⟩ ?_
      refine bv_if_eq (x := inR 0 3 d) (tgt := 37) hx hb dX4_lay_30 (by decide) (fun c_5 => ?_) (fun c_5 => ?_)
      · refine lv_iconst (v := nI 0) hx hb dX4_lay_37 (by decide) ?_
        refine lv_istore (lv' := [(4, .int (nI 0)), (0, .ref (r 0)), (1, .int (nI s9)), (2, .int (nI g9)), (3, .int d)]) hx hb dX4_lay_38 hl (by decide) rfl (fun ls hl => ?_)
        refine lv_aload_n hx hb dX4_lay_40 rfl (lv_at hl 1 rfl) ?_
        refine lv_iload hx hb dX4_lay_41 (lv_at hl 0 rfl) ?_
        refine nv_if_ne (x := 0) (tgt := 50) hx hb dX4_lay_43 (by decide) (by decide) (fun c_6 => ?_) (fun c_6 => ?_)
        · exact absurd c_6 (by decide)
        have n_c_6 : ¬ 0 < 0 := by omega
        refine lv_iconst (v := nI 2) hx hb dX4_lay_46 (by decide) ?_
        refine lv_goto (tgt := 71) hx hb dX4_lay_47 (by decide) ?_
        refine va_put (D := D) (ci := 4) (v := .int (nI 2)) (ty := .int) (C := RX4) (T := TX4) (N := 13) hx hb hts inX4 tyX4 tyX4_ok nmX4 hown hE.1 hP hD hS 0 rfl rfl 0 (by decide) F29 (fun _ h9 => h9) rfl (by decide +kernel) rfl rfl (Nat.le_of_ble_eq_true rfl) dX4_lay_71 (fun H locs hP hD hS => ?_)
        have hP : va_P D vwCl (refO r (nI 2) (nI sn) (nI ln) (nI pm) pn (nI sta) (nI ms) hs :: zC K r T :: sC K r sv :: bC K r cs :: pC K r pf :: fC K r fa :: Y) H := hP
        have hD : va_D A (refO r (nI 2) (nI sn) (nI ln) (nI pm) pn (nI sta) (nI ms) hs :: zC K r T :: sC K r sv :: bC K r cs :: pC K r pf :: fC K r fa :: Y) := hD
        refine lv_aload_n hx hb dX4_lay_74 rfl (lv_at hl 1 rfl) ?_
        refine va_get (D := D) (ci := 4) (v := .int (nI 2)) (C := RX4) (T := TX4) (N := 13) hx hb hts inX4 hown hE.1 hP 0 rfl rfl 0 (by decide) F29 (fun _ h9 => h9) rfl dX4_lay_75 ?_
        refine nv_if_le (x := 2) (tgt := 83) hx hb dX4_lay_78 (by decide) (by decide) (fun c_7 => ?_) (fun c_7 => ?_)
        · exact absurd c_7 (by decide)
        have n_c_7 : ¬ 2 = 0 := by omega
        refine lv_iconst (v := nI 0) hx hb dX4_lay_81 (by decide) ?_
        have ew : (refO r (nI 2) (nI sn) (nI ln) (nI pm) pn (nI sta) (nI ms) hs :: zC K r T :: sC K r sv :: bC K r cs :: pC K r pf :: fC K r fa :: Y) = (if laE T (nI s9) (nI g9) d = 0 then refO r (nI 0) (nI (svN sn)) (nI ln) (nI pm) pn (nI sta) (nI ms) hs :: zC K r (layT T (tn (nI s9)) (toT (hdT T (tn (nI s9))) (tn d)) (tn d)) :: sC K r (savS sv sn T) :: bC K r cs :: pC K r pf :: fC K r fa :: Y else refO r (nI (laE T (nI s9) (nI g9) d)) (nI sn) (nI ln) (nI pm) pn (nI sta) (nI ms) hs :: zC K r T :: sC K r sv :: bC K r cs :: pC K r pf :: fC K r fa :: Y) := by have e9 : laE T (nI s9) (nI g9) d = 2 := (by first | (simp [laE, c_1, t_s9, c_2, t_g9, c_5, c_6, n_c_6, c_7, n_c_7]; done) | (subst_vars; simp [laE, c_1, t_s9, c_2, t_g9, c_5, c_6, n_c_6, c_7, n_c_7])); rw [e9]; simp [ni0, bI_t, bI_f, nI_one, setT_eq, c_1, t_s9, c_2, t_g9, c_5, c_6, n_c_6, c_7, n_c_7] <;> rfl
        rw [ew] at hP hD
        exact wr_iret hAe hP hD hS hx hb hr hk dX4_lay_82 ⟨Nat.le_of_ble_eq_true rfl, Nat.le_of_ble_eq_true rfl⟩ (by have e9 : laE T (nI s9) (nI g9) d = 2 := (by first | (simp [laE, c_1, t_s9, c_2, t_g9, c_5, c_6, n_c_6, c_7, n_c_7]; done) | (subst_vars; simp [laE, c_1, t_s9, c_2, t_g9, c_5, c_6, n_c_6, c_7, n_c_7])); rw [e9]; simp [ni0, bI_t, bI_f, nI_one, setT_eq, c_1, t_s9, c_2, t_g9, c_5, c_6, n_c_6, c_7, n_c_7] <;> rfl)
      · obtain ⟨d9, lo_d9, hi_d9, e_d9⟩ := inR_nL (a := 0) (b := 3) rfl rfl (by decide) (by decide) c_5
        subst e_d9
        have t_d9 := tn_nI (n := d9) (by omega)
        refine lv_iconst (v := nI 1) hx hb dX4_lay_33 (by decide) ?_
        refine lv_goto (tgt := 38) hx hb dX4_lay_34 (by decide) ?_
        refine lv_istore (lv' := [(4, .int (nI 1)), (0, .ref (r 0)), (1, .int (nI s9)), (2, .int (nI g9)), (3, .int (nI d9))]) hx hb dX4_lay_38 hl (by decide) rfl (fun ls hl => ?_)
        refine lv_aload_n hx hb dX4_lay_40 rfl (lv_at hl 1 rfl) ?_
        refine lv_iload hx hb dX4_lay_41 (lv_at hl 0 rfl) ?_
        refine nv_if_ne (x := 1) (tgt := 50) hx hb dX4_lay_43 (by decide) (by decide) (fun c_8 => ?_) (fun c_8 => ?_)
        · have n_c_8 : ¬ 1 = 0 := by omega
          refine lv_aload_n hx hb dX4_lay_50 rfl (lv_at hl 1 rfl) ?_
          refine lv_iload_n hx hb dX4_lay_51 rfl (lv_at hl 2 rfl) ?_
          refine lv_aload_n hx hb dX4_lay_52 rfl (lv_at hl 1 rfl) ?_
          refine lv_iload_n hx hb dX4_lay_53 rfl (lv_at hl 2 rfl) ?_
          refine lv_iconst (v := nI 1) hx hb dX4_lay_54 (by decide) ?_
          refine rd_V (rest := [.int (nI s9), .ref (r 0), .ref (r 0)]) (ci := 4) (q0 := 0) ⟨hx, hb, hml, hown, hts⟩ hP hE (c_X4_of l D K _ _ _ _ _ _ _ _ _ _ _ s9 1 (by omega) (by omega)) (cwV 2 hts gX4_lay_X4_of rfl rfl rfl hd_X4_of ⟨Nat.le_of_ble_eq_true rfl, Nat.le_of_ble_eq_true rfl⟩) rfl rfl rfl rfl hl.1 rfl (Nat.le_of_ble_eq_true rfl) dX4_lay_55 ⟨Nat.le_of_ble_eq_true rfl, Nat.le_of_ble_eq_true rfl⟩ ?_
          refine top_i (y := nI (hdT T s9)) (((congrArg (zT T) (show 268 + 5 * s9 + 1 = 268 + 5 * s9 + 1 from by omega)).trans (zT_pp (w := 1) (by omega) (by decide))).trans (show T 6 s9 = nI (hdT T s9) from eq_hd hI (by omega))) ?_
          have hb_9 := hd_lt hI (show s9 < 4 by omega)
          refine lv_iload_n hx hb dX4_lay_58 rfl (lv_at hl 3 rfl) ?_
          refine lv_iload_n hx hb dX4_lay_59 rfl (lv_at hl 4 rfl) ?_
          refine rd_V (rest := [.ref (r 0)]) (ci := 4) (q0 := 0) ⟨hx, hb, hml, hown, hts⟩ hP hE (c_X4_whyNot l D K _ _ _ _ _ _ _ _ _ _ _ s9 (hdT T s9) g9 d9 hI (by omega) (by omega) (by omega) (by omega)) (cwV 4 hts gX4_lay_X4_whyNot rfl rfl rfl hd_X4_whyNot ⟨Nat.le_of_ble_eq_true rfl, Nat.le_of_ble_eq_true rfl⟩) rfl rfl rfl rfl hl.1 rfl (Nat.le_of_ble_eq_true rfl) dX4_lay_60 ⟨Nat.le_of_ble_eq_true rfl, Nat.le_of_ble_eq_true rfl⟩ ?_
          have hb_10 := why_lt T s9 (hdT T s9) g9 d9
          refine nv_if_le (x := whyT T s9 (hdT T s9) g9 d9) (tgt := 70) hx hb dX4_lay_63 (by decide) (by omega) (fun c_11 => ?_) (fun c_11 => ?_)
          · have n_c_11 : ¬ 0 < whyT T s9 (hdT T s9) g9 d9 := by omega
            obtain ⟨to_12, hto_12⟩ := why_nb (show whyT T s9 (hdT T s9) _ d9 = 0 by omega)
            have hbto_12 := nb_lt (show hdT T s9 < 80 by first | omega | exact hd_lt hI (by omega)) to_12 hto_12
            have htto_12 := toT_s hto_12
            refine lv_iconst (v := nI 0) hx hb dX4_lay_70 (by decide) ?_
            refine va_put (D := D) (ci := 4) (v := .int (nI 0)) (ty := .int) (C := RX4) (T := TX4) (N := 13) hx hb hts inX4 tyX4 tyX4_ok nmX4 hown hE.1 hP hD hS 0 rfl rfl 0 (by decide) F29 (fun _ h9 => h9) rfl (by decide +kernel) rfl rfl (Nat.le_of_ble_eq_true rfl) dX4_lay_71 (fun H locs hP hD hS => ?_)
            have hP : va_P D vwCl (refO r (nI 0) (nI sn) (nI ln) (nI pm) pn (nI sta) (nI ms) hs :: zC K r T :: sC K r sv :: bC K r cs :: pC K r pf :: fC K r fa :: Y) H := hP
            have hD : va_D A (refO r (nI 0) (nI sn) (nI ln) (nI pm) pn (nI sta) (nI ms) hs :: zC K r T :: sC K r sv :: bC K r cs :: pC K r pf :: fC K r fa :: Y) := hD
            refine lv_aload_n hx hb dX4_lay_74 rfl (lv_at hl 1 rfl) ?_
            refine va_get (D := D) (ci := 4) (v := .int (nI 0)) (C := RX4) (T := TX4) (N := 13) hx hb hts inX4 hown hE.1 hP 0 rfl rfl 0 (by decide) F29 (fun _ h9 => h9) rfl dX4_lay_75 ?_
            refine nv_if_le (x := 0) (tgt := 83) hx hb dX4_lay_78 (by decide) (by decide) (fun c_13 => ?_) (fun c_13 => ?_)
            · have n_c_13 : ¬ 0 < 0 := by omega
              refine lv_aload_n hx hb dX4_lay_83 rfl (lv_at hl 1 rfl) ?_
              refine wr_V (rest := []) (ci := 4) (q0 := 0) ⟨hx, hb, hml, hown, hts⟩ hP hE hA hD hS (c_X4_save l D K _ _ _ _ sn _ _ _ _ _ _ _ _ _ _ _ hsn) (cwV 0 hts gX4_lay_X4_save rfl rfl rfl hd_X4_save ⟨Nat.le_of_ble_eq_true rfl, Nat.le_of_ble_eq_true rfl⟩) rfl rfl rfl rfl hl.1 rfl (Nat.le_of_ble_eq_true rfl) dX4_lay_84 ⟨Nat.le_of_ble_eq_true rfl, Nat.le_of_ble_eq_true rfl⟩ (fun H locs hP hD hS => ?_)
              have hP : va_P D vwCl (refO r (nI 0) (nI (svN sn)) (nI ln) (nI pm) pn (nI sta) (nI ms) hs :: zC K r T :: sC K r (savS sv sn T) :: bC K r cs :: pC K r pf :: fC K r fa :: Y) H := hP
              have hD : va_D A (refO r (nI 0) (nI (svN sn)) (nI ln) (nI pm) pn (nI sta) (nI ms) hs :: zC K r T :: sC K r (savS sv sn T) :: bC K r cs :: pC K r pf :: fC K r fa :: Y) := hD
              refine lv_aload_n hx hb dX4_lay_87 rfl (lv_at hl 1 rfl) ?_
              refine lv_iload_n hx hb dX4_lay_88 rfl (lv_at hl 2 rfl) ?_
              refine lv_aload_n hx hb dX4_lay_89 rfl (lv_at hl 1 rfl) ?_
              refine lv_iload_n hx hb dX4_lay_90 rfl (lv_at hl 2 rfl) ?_
              refine lv_iconst (v := nI 1) hx hb dX4_lay_91 (by decide) ?_
              refine rd_V (rest := [.int (nI s9), .ref (r 0)]) (ci := 4) (q0 := 0) ⟨hx, hb, hml, hown, hts⟩ hP hE (c_X4_of l D K _ _ _ _ _ _ _ _ _ _ _ s9 1 (by omega) (by omega)) (cwV 2 hts gX4_lay_X4_of rfl rfl rfl hd_X4_of ⟨Nat.le_of_ble_eq_true rfl, Nat.le_of_ble_eq_true rfl⟩) rfl rfl rfl rfl hl.1 rfl (Nat.le_of_ble_eq_true rfl) dX4_lay_92 ⟨Nat.le_of_ble_eq_true rfl, Nat.le_of_ble_eq_true rfl⟩ ?_
              refine top_i (y := nI (hdT T s9)) (((congrArg (zT T) (show 268 + 5 * s9 + 1 = 268 + 5 * s9 + 1 from by omega)).trans (zT_pp (w := 1) (by omega) (by decide))).trans (show T 6 s9 = nI (hdT T s9) from eq_hd hI (by omega))) ?_
              have hb_14 := hd_lt hI (show s9 < 4 by omega)
              refine lv_iload_n hx hb dX4_lay_95 rfl (lv_at hl 4 rfl) ?_
              refine wr_V (rest := []) (ci := 4) (q0 := 0) ⟨hx, hb, hml, hown, hts⟩ hP hE hA hD hS (c_X4_layIt l D K _ _ _ _ _ _ _ _ _ _ _ _ _ _ _ _ s9 (hdT T s9) d9 to_12 hI (by omega) (by omega) (by omega) hto_12) (cwV 3 hts gX4_lay_X4_layIt rfl rfl rfl hd_X4_layIt ⟨Nat.le_of_ble_eq_true rfl, Nat.le_of_ble_eq_true rfl⟩) rfl rfl rfl rfl hl.1 rfl (Nat.le_of_ble_eq_true rfl) dX4_lay_96 ⟨Nat.le_of_ble_eq_true rfl, Nat.le_of_ble_eq_true rfl⟩ (fun H locs hP hD hS => ?_)
              have hP : va_P D vwCl (refO r (nI 0) (nI (svN sn)) (nI ln) (nI pm) pn (nI sta) (nI ms) hs :: zC K r (layT T s9 to_12 d9) :: sC K r (savS sv sn T) :: bC K r cs :: pC K r pf :: fC K r fa :: Y) H := hP
              have hD : va_D A (refO r (nI 0) (nI (svN sn)) (nI ln) (nI pm) pn (nI sta) (nI ms) hs :: zC K r (layT T s9 to_12 d9) :: sC K r (savS sv sn T) :: bC K r cs :: pC K r pf :: fC K r fa :: Y) := hD
              have ew : (refO r (nI 0) (nI (svN sn)) (nI ln) (nI pm) pn (nI sta) (nI ms) hs :: zC K r (layT T s9 to_12 d9) :: sC K r (savS sv sn T) :: bC K r cs :: pC K r pf :: fC K r fa :: Y) = (if laE T (nI s9) (nI g9) (nI d9) = 0 then refO r (nI 0) (nI (svN sn)) (nI ln) (nI pm) pn (nI sta) (nI ms) hs :: zC K r (layT T (tn (nI s9)) (toT (hdT T (tn (nI s9))) (tn (nI d9))) (tn (nI d9))) :: sC K r (savS sv sn T) :: bC K r cs :: pC K r pf :: fC K r fa :: Y else refO r (nI (laE T (nI s9) (nI g9) (nI d9))) (nI sn) (nI ln) (nI pm) pn (nI sta) (nI ms) hs :: zC K r T :: sC K r sv :: bC K r cs :: pC K r pf :: fC K r fa :: Y) := by have e9 : laE T (nI s9) (nI g9) (nI d9) = 0 := (by first | (simp [laE, c_1, t_s9, c_2, t_g9, c_5, t_d9, c_8, n_c_8, c_11, n_c_11, htto_12, c_13, n_c_13]; done) | (subst_vars; simp [laE, c_1, t_s9, c_2, t_g9, c_5, t_d9, c_8, n_c_8, c_11, n_c_11, htto_12, c_13, n_c_13])); rw [e9]; simp [ni0, bI_t, bI_f, nI_one, setT_eq, c_1, t_s9, c_2, t_g9, c_5, t_d9, c_8, n_c_8, c_11, n_c_11, htto_12, c_13, n_c_13] <;> rfl
              rw [ew] at hP hD
              exact wr_iret hAe hP hD hS hx hb hr hk dX4_lay_99 ⟨Nat.le_of_ble_eq_true rfl, Nat.le_of_ble_eq_true rfl⟩ (by have e9 : laE T (nI s9) (nI g9) (nI d9) = 0 := (by first | (simp [laE, c_1, t_s9, c_2, t_g9, c_5, t_d9, c_8, n_c_8, c_11, n_c_11, htto_12, c_13, n_c_13]; done) | (subst_vars; simp [laE, c_1, t_s9, c_2, t_g9, c_5, t_d9, c_8, n_c_8, c_11, n_c_11, htto_12, c_13, n_c_13])); rw [e9]; simp [ni0, bI_t, bI_f, nI_one, setT_eq, c_1, t_s9, c_2, t_g9, c_5, t_d9, c_8, n_c_8, c_11, n_c_11, htto_12, c_13, n_c_13] <;> rfl)
            exact absurd c_13 (by decide)
          · have n_c_11 : ¬ whyT T s9 (hdT T s9) g9 d9 = 0 := by omega
            refine lv_iconst (v := nI 3) hx hb dX4_lay_66 (by decide) ?_
            refine lv_goto (tgt := 71) hx hb dX4_lay_67 (by decide) ?_
            refine va_put (D := D) (ci := 4) (v := .int (nI 3)) (ty := .int) (C := RX4) (T := TX4) (N := 13) hx hb hts inX4 tyX4 tyX4_ok nmX4 hown hE.1 hP hD hS 0 rfl rfl 0 (by decide) F29 (fun _ h9 => h9) rfl (by decide +kernel) rfl rfl (Nat.le_of_ble_eq_true rfl) dX4_lay_71 (fun H locs hP hD hS => ?_)
            have hP : va_P D vwCl (refO r (nI 3) (nI sn) (nI ln) (nI pm) pn (nI sta) (nI ms) hs :: zC K r T :: sC K r sv :: bC K r cs :: pC K r pf :: fC K r fa :: Y) H := hP
            have hD : va_D A (refO r (nI 3) (nI sn) (nI ln) (nI pm) pn (nI sta) (nI ms) hs :: zC K r T :: sC K r sv :: bC K r cs :: pC K r pf :: fC K r fa :: Y) := hD
            refine lv_aload_n hx hb dX4_lay_74 rfl (lv_at hl 1 rfl) ?_
            refine va_get (D := D) (ci := 4) (v := .int (nI 3)) (C := RX4) (T := TX4) (N := 13) hx hb hts inX4 hown hE.1 hP 0 rfl rfl 0 (by decide) F29 (fun _ h9 => h9) rfl dX4_lay_75 ?_
            refine nv_if_le (x := 3) (tgt := 83) hx hb dX4_lay_78 (by decide) (by decide) (fun c_15 => ?_) (fun c_15 => ?_)
            · exact absurd c_15 (by decide)
            have n_c_15 : ¬ 3 = 0 := by omega
            refine lv_iconst (v := nI 0) hx hb dX4_lay_81 (by decide) ?_
            have ew : (refO r (nI 3) (nI sn) (nI ln) (nI pm) pn (nI sta) (nI ms) hs :: zC K r T :: sC K r sv :: bC K r cs :: pC K r pf :: fC K r fa :: Y) = (if laE T (nI s9) (nI g9) (nI d9) = 0 then refO r (nI 0) (nI (svN sn)) (nI ln) (nI pm) pn (nI sta) (nI ms) hs :: zC K r (layT T (tn (nI s9)) (toT (hdT T (tn (nI s9))) (tn (nI d9))) (tn (nI d9))) :: sC K r (savS sv sn T) :: bC K r cs :: pC K r pf :: fC K r fa :: Y else refO r (nI (laE T (nI s9) (nI g9) (nI d9))) (nI sn) (nI ln) (nI pm) pn (nI sta) (nI ms) hs :: zC K r T :: sC K r sv :: bC K r cs :: pC K r pf :: fC K r fa :: Y) := by have e9 : laE T (nI s9) (nI g9) (nI d9) = 3 := (by first | (simp [laE, c_1, t_s9, c_2, t_g9, c_5, t_d9, c_8, n_c_8, c_11, n_c_11, c_15, n_c_15]; done) | (subst_vars; simp [laE, c_1, t_s9, c_2, t_g9, c_5, t_d9, c_8, n_c_8, c_11, n_c_11, c_15, n_c_15])); rw [e9]; simp [ni0, bI_t, bI_f, nI_one, setT_eq, c_1, t_s9, c_2, t_g9, c_5, t_d9, c_8, n_c_8, c_11, n_c_11, c_15, n_c_15] <;> rfl
            rw [ew] at hP hD
            exact wr_iret hAe hP hD hS hx hb hr hk dX4_lay_82 ⟨Nat.le_of_ble_eq_true rfl, Nat.le_of_ble_eq_true rfl⟩ (by have e9 : laE T (nI s9) (nI g9) (nI d9) = 3 := (by first | (simp [laE, c_1, t_s9, c_2, t_g9, c_5, t_d9, c_8, n_c_8, c_11, n_c_11, c_15, n_c_15]; done) | (subst_vars; simp [laE, c_1, t_s9, c_2, t_g9, c_5, t_d9, c_8, n_c_8, c_11, n_c_11, c_15, n_c_15])); rw [e9]; simp [ni0, bI_t, bI_f, nI_one, setT_eq, c_1, t_s9, c_2, t_g9, c_5, t_d9, c_8, n_c_8, c_11, n_c_11, c_15, n_c_15] <;> rfl)
        exact absurd c_8 (by decide)
  · refine lv_aload_n hx hb dX4_lay_7 rfl (lv_at hl 0 rfl) ?_
    refine lv_iconst (v := nI 1) hx hb dX4_lay_8 (by decide) ?_
    refine va_put (D := D) (ci := 4) (v := .int (nI 1)) (ty := .int) (C := RX4) (T := TX4) (N := 13) hx hb hts inX4 tyX4 tyX4_ok nmX4 hown hE.1 hP hD hS 0 rfl rfl 0 (by decide) F29 (fun _ h9 => h9) rfl (by decide +kernel) rfl rfl (Nat.le_of_ble_eq_true rfl) dX4_lay_9 (fun H locs hP hD hS => ?_)
    have hP : va_P D vwCl (refO r (nI 1) (nI sn) (nI ln) (nI pm) pn (nI sta) (nI ms) hs :: zC K r T :: sC K r sv :: bC K r cs :: pC K r pf :: fC K r fa :: Y) H := hP
    have hD : va_D A (refO r (nI 1) (nI sn) (nI ln) (nI pm) pn (nI sta) (nI ms) hs :: zC K r T :: sC K r sv :: bC K r cs :: pC K r pf :: fC K r fa :: Y) := hD
    refine lv_iconst (v := nI 0) hx hb dX4_lay_12 (by decide) ?_
    have ew : (refO r (nI 1) (nI sn) (nI ln) (nI pm) pn (nI sta) (nI ms) hs :: zC K r T :: sC K r sv :: bC K r cs :: pC K r pf :: fC K r fa :: Y) = (if laE T x g d = 0 then refO r (nI 0) (nI (svN sn)) (nI ln) (nI pm) pn (nI sta) (nI ms) hs :: zC K r (layT T (tn x) (toT (hdT T (tn x)) (tn d)) (tn d)) :: sC K r (savS sv sn T) :: bC K r cs :: pC K r pf :: fC K r fa :: Y else refO r (nI (laE T x g d)) (nI sn) (nI ln) (nI pm) pn (nI sta) (nI ms) hs :: zC K r T :: sC K r sv :: bC K r cs :: pC K r pf :: fC K r fa :: Y) := by have e9 : laE T x g d = 1 := (by first | (simp [laE, c_1]; done) | (subst_vars; simp [laE, c_1])); rw [e9]; simp [ni0, bI_t, bI_f, nI_one, setT_eq, c_1] <;> rfl
    rw [ew] at hP hD
    exact wr_iret hAe hP hD hS hx hb hr hk dX4_lay_13 ⟨Nat.le_of_ble_eq_true rfl, Nat.le_of_ble_eq_true rfl⟩ (by have e9 : laE T x g d = 1 := (by first | (simp [laE, c_1]; done) | (subst_vars; simp [laE, c_1])); rw [e9]; simp [ni0, bI_t, bI_f, nI_one, setT_eq, c_1] <;> rfl)
set_option maxHeartbeats 4000000 in
set_option maxRecDepth 100000 in
theorem c_X4_branch (l : Launch) (D : va_G) (K : Nat → ClassId) (sz : Nat) (r : Nat → Nat) (th pn : Int32) (sn ln pm sta ms : Nat) (hs : Int64) (T : TW) (sv : Nat → Int32) (cs : Nat → Nat) (pf : Nat → Int32) (fa : Nat → Nat) (Y : va_W) (x s d : Int32) (hI : Inv T) (hsn : sn ≤ 6) : Wr l yX4_branch wsX4_branch ({ frames := 4, cells := 0, slots := 0, locals := 83 } : Room) D K (refO r th (nI sn) (nI ln) (nI pm) pn (nI sta) (nI ms) hs :: zC K r T :: sC K r sv :: bC K r cs :: pC K r pf :: fC K r fa :: Y) sz [.ref (r 0), .int x, .int s, .int d] (if brE T x s d = 0 then refO r (nI 0) (nI (svN sn)) (nI ln) (nI pm) pn (nI sta) (nI ms) hs :: zC K r (layT T (tn x) (toT (tn s) (tn d)) (tn d)) :: sC K r (savS sv sn T) :: bC K r cs :: pC K r pf :: fC K r fa :: Y else refO r (nI (brE T x s d)) (nI sn) (nI ln) (nI pm) pn (nI sta) (nI ms) hs :: zC K r T :: sC K r sv :: bC K r cs :: pC K r pf :: fC K r fa :: Y) (some (.int (if brE T x s d = 0 then nI (tollT T (toT (tn s) (tn d))) else 0))) 0 0 := by
  refine wr_intro (cc := cX4_branch) (maxL := 4) (ret := (some .int)) (by decide) rfl (Nat.le_of_ble_eq_true rfl) ?_
  intro pr en st md ar bl mt co A hx hb hml hr hts hown hk hsz hAe hP hE hD hS hA hin ls hl
  have hown : st.vm.findClass RX4 = some md.cls := hown
  have hl : lv_has ls 4 [(0, .ref (r 0)), (1, .int x), (2, .int s), (3, .int d)] := hl
  obtain ⟨H, hH⟩ : ∃ z, z = st.heap := ⟨_, rfl⟩
  obtain ⟨locs, hlo⟩ : ∃ z : List Loc, z = [] := ⟨_, rfl⟩
  have hP : va_P D vwCl (refO r th (nI sn) (nI ln) (nI pm) pn (nI sta) (nI ms) hs :: zC K r T :: sC K r sv :: bC K r cs :: pC K r pf :: fC K r fa :: Y) H := by rw [hH]; exact hP
  have hS : va_S A st.heap H locs := by rw [hH, hlo]; exact hS
  suffices go : W pr l en (headSpec wsX4_branch ({ frames := 4, cells := 0, slots := 0, locals := 83 } : Room)).room st md ar bl mt co H locs 0 0 (MQ bl (wrQ D (refO r th (nI sn) (nI ln) (nI pm) pn (nI sta) (nI ms) hs :: zC K r T :: sC K r sv :: bC K r cs :: pC K r pf :: fC K r fa :: Y) (if brE T x s d = 0 then refO r (nI 0) (nI (svN sn)) (nI ln) (nI pm) pn (nI sta) (nI ms) hs :: zC K r (layT T (tn x) (toT (tn s) (tn d)) (tn d)) :: sC K r (savS sv sn T) :: bC K r cs :: pC K r pf :: fC K r fa :: Y else refO r (nI (brE T x s d)) (nI sn) (nI ln) (nI pm) pn (nI sta) (nI ms) hs :: zC K r T :: sC K r sv :: bC K r cs :: pC K r pf :: fC K r fa :: Y) sz (some (.int (if brE T x s d = 0 then nI (tollT T (toT (tn s) (tn d))) else 0)))) ar st 0 0 A) (F0 md 0 ls []) by rw [hH, hlo] at go; exact go
  clear hH hlo
  have F29 : (Cond.fieldLink RX4 29 "TramTollsModel" "thrown" "I").before ar st = true := hts _ (List.mem_of_getElem? (i := 1) rfl)
  have inX4 : ∀ w ∈ u_ws RX4 TX4 13, w ∈ wsX4_branch := fun w h => List.mem_cons_of_mem _ (List.mem_append_right _ h)
  refine lv_iload_n hx hb dX4_branch_0 rfl (lv_at hl 1 rfl) ?_
  refine rd_S (rest := []) ⟨hx, hb, hml, hown, hts⟩ hP hE (c_X4_isPlayer l D K _ x) (va_cwS 1 hts gX4_branch_X4_isPlayer rfl rfl rfl hn_X4_isPlayer ⟨Nat.le_of_ble_eq_true rfl, Nat.le_of_ble_eq_true rfl⟩) rfl hl.1 rfl (Nat.le_of_ble_eq_true rfl) dX4_branch_1 ⟨Nat.le_of_ble_eq_true rfl, Nat.le_of_ble_eq_true rfl⟩ ?_
  refine bv_if_eq (x := inR 0 3 x) (tgt := 23) hx hb dX4_branch_4 (by decide) (fun c_1 => ?_) (fun c_1 => ?_)
  · refine lv_aload_n hx hb dX4_branch_23 rfl (lv_at hl 0 rfl) ?_
    refine lv_iconst (v := nI 1) hx hb dX4_branch_24 (by decide) ?_
    refine va_put (D := D) (ci := 4) (v := .int (nI 1)) (ty := .int) (C := RX4) (T := TX4) (N := 13) hx hb hts inX4 tyX4 tyX4_ok nmX4 hown hE.1 hP hD hS 0 rfl rfl 0 (by decide) F29 (fun _ h9 => h9) rfl (by decide +kernel) rfl rfl (Nat.le_of_ble_eq_true rfl) dX4_branch_25 (fun H locs hP hD hS => ?_)
    have hP : va_P D vwCl (refO r (nI 1) (nI sn) (nI ln) (nI pm) pn (nI sta) (nI ms) hs :: zC K r T :: sC K r sv :: bC K r cs :: pC K r pf :: fC K r fa :: Y) H := hP
    have hD : va_D A (refO r (nI 1) (nI sn) (nI ln) (nI pm) pn (nI sta) (nI ms) hs :: zC K r T :: sC K r sv :: bC K r cs :: pC K r pf :: fC K r fa :: Y) := hD
    refine lv_iconst (v := nI 0) hx hb dX4_branch_28 (by decide) ?_
    have ew : (refO r (nI 1) (nI sn) (nI ln) (nI pm) pn (nI sta) (nI ms) hs :: zC K r T :: sC K r sv :: bC K r cs :: pC K r pf :: fC K r fa :: Y) = (if brE T x s d = 0 then refO r (nI 0) (nI (svN sn)) (nI ln) (nI pm) pn (nI sta) (nI ms) hs :: zC K r (layT T (tn x) (toT (tn s) (tn d)) (tn d)) :: sC K r (savS sv sn T) :: bC K r cs :: pC K r pf :: fC K r fa :: Y else refO r (nI (brE T x s d)) (nI sn) (nI ln) (nI pm) pn (nI sta) (nI ms) hs :: zC K r T :: sC K r sv :: bC K r cs :: pC K r pf :: fC K r fa :: Y) := by have e9 : brE T x s d = 1 := (by first | (simp [brE, c_1]; done) | (subst_vars; simp [brE, c_1])); rw [e9]; simp [ni0, bI_t, bI_f, nI_one, setT_eq, c_1] <;> rfl
    rw [ew] at hP hD
    exact wr_iret hAe hP hD hS hx hb hr hk dX4_branch_29 ⟨Nat.le_of_ble_eq_true rfl, Nat.le_of_ble_eq_true rfl⟩ (by have e9 : brE T x s d = 1 := (by first | (simp [brE, c_1]; done) | (subst_vars; simp [brE, c_1])); rw [e9]; simp [ni0, bI_t, bI_f, nI_one, setT_eq, c_1] <;> rfl)
  · obtain ⟨s9, lo_s9, hi_s9, e_s9⟩ := inR_nL (a := 0) (b := 3) rfl rfl (by decide) (by decide) c_1
    subst e_s9
    have t_s9 := tn_nI (n := s9) (by omega)
    refine lv_iload_n hx hb dX4_branch_7 rfl (lv_at hl 2 rfl) ?_
    refine rd_S (rest := []) ⟨hx, hb, hml, hown, hts⟩ hP hE (c_X4_isSquare l D K _ s) (va_cwS 1 hts gX4_branch_X4_isSquare rfl rfl rfl hn_X4_isSquare ⟨Nat.le_of_ble_eq_true rfl, Nat.le_of_ble_eq_true rfl⟩) rfl hl.1 rfl (Nat.le_of_ble_eq_true rfl) dX4_branch_8 ⟨Nat.le_of_ble_eq_true rfl, Nat.le_of_ble_eq_true rfl⟩ ?_
    refine bv_if_eq (x := inR 0 79 s) (tgt := 23) hx hb dX4_branch_11 (by decide) (fun c_2 => ?_) (fun c_2 => ?_)
    · refine lv_aload_n hx hb dX4_branch_23 rfl (lv_at hl 0 rfl) ?_
      refine lv_iconst (v := nI 1) hx hb dX4_branch_24 (by decide) ?_
      refine va_put (D := D) (ci := 4) (v := .int (nI 1)) (ty := .int) (C := RX4) (T := TX4) (N := 13) hx hb hts inX4 tyX4 tyX4_ok nmX4 hown hE.1 hP hD hS 0 rfl rfl 0 (by decide) F29 (fun _ h9 => h9) rfl (by decide +kernel) rfl rfl (Nat.le_of_ble_eq_true rfl) dX4_branch_25 (fun H locs hP hD hS => ?_)
      have hP : va_P D vwCl (refO r (nI 1) (nI sn) (nI ln) (nI pm) pn (nI sta) (nI ms) hs :: zC K r T :: sC K r sv :: bC K r cs :: pC K r pf :: fC K r fa :: Y) H := hP
      have hD : va_D A (refO r (nI 1) (nI sn) (nI ln) (nI pm) pn (nI sta) (nI ms) hs :: zC K r T :: sC K r sv :: bC K r cs :: pC K r pf :: fC K r fa :: Y) := hD
      refine lv_iconst (v := nI 0) hx hb dX4_branch_28 (by decide) ?_
      have ew : (refO r (nI 1) (nI sn) (nI ln) (nI pm) pn (nI sta) (nI ms) hs :: zC K r T :: sC K r sv :: bC K r cs :: pC K r pf :: fC K r fa :: Y) = (if brE T (nI s9) s d = 0 then refO r (nI 0) (nI (svN sn)) (nI ln) (nI pm) pn (nI sta) (nI ms) hs :: zC K r (layT T (tn (nI s9)) (toT (tn s) (tn d)) (tn d)) :: sC K r (savS sv sn T) :: bC K r cs :: pC K r pf :: fC K r fa :: Y else refO r (nI (brE T (nI s9) s d)) (nI sn) (nI ln) (nI pm) pn (nI sta) (nI ms) hs :: zC K r T :: sC K r sv :: bC K r cs :: pC K r pf :: fC K r fa :: Y) := by have e9 : brE T (nI s9) s d = 1 := (by first | (simp [brE, c_1, t_s9, c_2]; done) | (subst_vars; simp [brE, c_1, t_s9, c_2])); rw [e9]; simp [ni0, bI_t, bI_f, nI_one, setT_eq, c_1, t_s9, c_2] <;> rfl
      rw [ew] at hP hD
      exact wr_iret hAe hP hD hS hx hb hr hk dX4_branch_29 ⟨Nat.le_of_ble_eq_true rfl, Nat.le_of_ble_eq_true rfl⟩ (by have e9 : brE T (nI s9) s d = 1 := (by first | (simp [brE, c_1, t_s9, c_2]; done) | (subst_vars; simp [brE, c_1, t_s9, c_2])); rw [e9]; simp [ni0, bI_t, bI_f, nI_one, setT_eq, c_1, t_s9, c_2] <;> rfl)
    · obtain ⟨f9, lo_f9, hi_f9, e_f9⟩ := inR_nL (a := 0) (b := 79) rfl rfl (by decide) (by decide) c_2
      subst e_f9
      have t_f9 := tn_nI (n := f9) (by omega)
      refine lv_aload_n hx hb dX4_branch_14 rfl (lv_at hl 0 rfl) ?_
      refine lv_iload_n hx hb dX4_branch_15 rfl (lv_at hl 1 rfl) ?_
      refine lv_iload_n hx hb dX4_branch_16 rfl (lv_at hl 2 rfl) ?_
      refine rd_V (rest := []) (ci := 4) (q0 := 0) ⟨hx, hb, hml, hown, hts⟩ hP hE (c_X4_hasTrack l D K _ _ _ _ _ _ _ _ _ _ _ s9 f9 hI (by omega) (by omega)) (cwV 2 hts gX4_branch_X4_hasTrack rfl rfl rfl hd_X4_hasTrack ⟨Nat.le_of_ble_eq_true rfl, Nat.le_of_ble_eq_true rfl⟩) rfl rfl rfl rfl hl.1 rfl (Nat.le_of_ble_eq_true rfl) dX4_branch_17 ⟨Nat.le_of_ble_eq_true rfl, Nat.le_of_ble_eq_true rfl⟩ ?_
      refine bv_if_ne (x := hasT T s9 f9) (tgt := 30) hx hb dX4_branch_20 (by decide) (fun c_3 => ?_) (fun c_3 => ?_)
      · refine lv_aload_n hx hb dX4_branch_30 rfl (lv_at hl 0 rfl) ?_
        refine lv_iload_n hx hb dX4_branch_31 rfl (lv_at hl 3 rfl) ?_
        refine lv_iconst (v := nI 0) hx hb dX4_branch_32 (by decide) ?_
        refine lv_iconst (v := nI 3) hx hb dX4_branch_33 (by decide) ?_
        refine rd_S (rest := [.ref (r 0)]) ⟨hx, hb, hml, hown, hts⟩ hP hE (c_X4_in l D K _ d 0 3) (va_cwS 3 hts gX4_branch_X4_in rfl rfl rfl hn_X4_in ⟨Nat.le_of_ble_eq_true rfl, Nat.le_of_ble_eq_true rfl⟩) rfl hl.1 rfl (Nat.le_of_ble_eq_true rfl) dX4_branch_34 ⟨Nat.le_of_ble_eq_true rfl, Nat.le_of_ble_eq_true rfl⟩ ?_
        refine bv_if_ne (x := inR 0 3 d) (tgt := 44) hx hb dX4_branch_37 (by decide) (fun c_4 => ?_) (fun c_4 => ?_)
        · obtain ⟨d9, lo_d9, hi_d9, e_d9⟩ := inR_nL (a := 0) (b := 3) rfl rfl (by decide) (by decide) c_4
          subst e_d9
          have t_d9 := tn_nI (n := d9) (by omega)
          refine lv_aload_n hx hb dX4_branch_44 rfl (lv_at hl 0 rfl) ?_
          refine lv_iload_n hx hb dX4_branch_45 rfl (lv_at hl 1 rfl) ?_
          refine lv_iload_n hx hb dX4_branch_46 rfl (lv_at hl 2 rfl) ?_
          refine lv_bipush (v := nI 6) hx hb dX4_branch_47 (by decide) ?_
          refine lv_iload_n hx hb dX4_branch_49 rfl (lv_at hl 3 rfl) ?_
          refine rd_V (rest := [.ref (r 0)]) (ci := 4) (q0 := 0) ⟨hx, hb, hml, hown, hts⟩ hP hE (c_X4_whyNot l D K _ _ _ _ _ _ _ _ _ _ _ s9 f9 6 d9 hI (by omega) (by omega) (by omega) (by omega)) (cwV 4 hts gX4_branch_X4_whyNot rfl rfl rfl hd_X4_whyNot ⟨Nat.le_of_ble_eq_true rfl, Nat.le_of_ble_eq_true rfl⟩) rfl rfl rfl rfl hl.1 rfl (Nat.le_of_ble_eq_true rfl) dX4_branch_50 ⟨Nat.le_of_ble_eq_true rfl, Nat.le_of_ble_eq_true rfl⟩ ?_
          have hb_5 := why_lt T s9 f9 6 d9
          refine nv_if_le (x := whyT T s9 f9 6 d9) (tgt := 60) hx hb dX4_branch_53 (by decide) (by omega) (fun c_6 => ?_) (fun c_6 => ?_)
          · have n_c_6 : ¬ 0 < whyT T s9 f9 6 d9 := by omega
            obtain ⟨to_7, hto_7⟩ := why_nb (show whyT T s9 (f9) _ d9 = 0 by omega)
            have hbto_7 := nb_lt (show f9 < 80 by first | omega | exact hd_lt hI (by omega)) to_7 hto_7
            have htto_7 := toT_s hto_7
            refine lv_iconst (v := nI 0) hx hb dX4_branch_60 (by decide) ?_
            refine va_put (D := D) (ci := 4) (v := .int (nI 0)) (ty := .int) (C := RX4) (T := TX4) (N := 13) hx hb hts inX4 tyX4 tyX4_ok nmX4 hown hE.1 hP hD hS 0 rfl rfl 0 (by decide) F29 (fun _ h9 => h9) rfl (by decide +kernel) rfl rfl (Nat.le_of_ble_eq_true rfl) dX4_branch_61 (fun H locs hP hD hS => ?_)
            have hP : va_P D vwCl (refO r (nI 0) (nI sn) (nI ln) (nI pm) pn (nI sta) (nI ms) hs :: zC K r T :: sC K r sv :: bC K r cs :: pC K r pf :: fC K r fa :: Y) H := hP
            have hD : va_D A (refO r (nI 0) (nI sn) (nI ln) (nI pm) pn (nI sta) (nI ms) hs :: zC K r T :: sC K r sv :: bC K r cs :: pC K r pf :: fC K r fa :: Y) := hD
            refine lv_aload_n hx hb dX4_branch_64 rfl (lv_at hl 0 rfl) ?_
            refine va_get (D := D) (ci := 4) (v := .int (nI 0)) (C := RX4) (T := TX4) (N := 13) hx hb hts inX4 hown hE.1 hP 0 rfl rfl 0 (by decide) F29 (fun _ h9 => h9) rfl dX4_branch_65 ?_
            refine nv_if_le (x := 0) (tgt := 73) hx hb dX4_branch_68 (by decide) (by decide) (fun c_8 => ?_) (fun c_8 => ?_)
            · have n_c_8 : ¬ 0 < 0 := by omega
              refine lv_aload_n hx hb dX4_branch_73 rfl (lv_at hl 0 rfl) ?_
              refine wr_V (rest := []) (ci := 4) (q0 := 0) ⟨hx, hb, hml, hown, hts⟩ hP hE hA hD hS (c_X4_save l D K _ _ _ _ sn _ _ _ _ _ _ _ _ _ _ _ hsn) (cwV 0 hts gX4_branch_X4_save rfl rfl rfl hd_X4_save ⟨Nat.le_of_ble_eq_true rfl, Nat.le_of_ble_eq_true rfl⟩) rfl rfl rfl rfl hl.1 rfl (Nat.le_of_ble_eq_true rfl) dX4_branch_74 ⟨Nat.le_of_ble_eq_true rfl, Nat.le_of_ble_eq_true rfl⟩ (fun H locs hP hD hS => ?_)
              have hP : va_P D vwCl (refO r (nI 0) (nI (svN sn)) (nI ln) (nI pm) pn (nI sta) (nI ms) hs :: zC K r T :: sC K r (savS sv sn T) :: bC K r cs :: pC K r pf :: fC K r fa :: Y) H := hP
              have hD : va_D A (refO r (nI 0) (nI (svN sn)) (nI ln) (nI pm) pn (nI sta) (nI ms) hs :: zC K r T :: sC K r (savS sv sn T) :: bC K r cs :: pC K r pf :: fC K r fa :: Y) := hD
              refine lv_aload_n hx hb dX4_branch_77 rfl (lv_at hl 0 rfl) ?_
              refine lv_iload_n hx hb dX4_branch_78 rfl (lv_at hl 1 rfl) ?_
              refine lv_iload_n hx hb dX4_branch_79 rfl (lv_at hl 2 rfl) ?_
              refine lv_iload_n hx hb dX4_branch_80 rfl (lv_at hl 3 rfl) ?_
              refine wr_V (rest := []) (ci := 4) (q0 := 0) ⟨hx, hb, hml, hown, hts⟩ hP hE hA hD hS (c_X4_layIt l D K _ _ _ _ _ _ _ _ _ _ _ _ _ _ _ _ s9 f9 d9 to_7 hI (by omega) (by omega) (by omega) hto_7) (cwV 3 hts gX4_branch_X4_layIt rfl rfl rfl hd_X4_layIt ⟨Nat.le_of_ble_eq_true rfl, Nat.le_of_ble_eq_true rfl⟩) rfl rfl rfl rfl hl.1 rfl (Nat.le_of_ble_eq_true rfl) dX4_branch_81 ⟨Nat.le_of_ble_eq_true rfl, Nat.le_of_ble_eq_true rfl⟩ (fun H locs hP hD hS => ?_)
              have hP : va_P D vwCl (refO r (nI 0) (nI (svN sn)) (nI ln) (nI pm) pn (nI sta) (nI ms) hs :: zC K r (layT T s9 to_7 d9) :: sC K r (savS sv sn T) :: bC K r cs :: pC K r pf :: fC K r fa :: Y) H := hP
              have hD : va_D A (refO r (nI 0) (nI (svN sn)) (nI ln) (nI pm) pn (nI sta) (nI ms) hs :: zC K r (layT T s9 to_7 d9) :: sC K r (savS sv sn T) :: bC K r cs :: pC K r pf :: fC K r fa :: Y) := hD
              have ew : (refO r (nI 0) (nI (svN sn)) (nI ln) (nI pm) pn (nI sta) (nI ms) hs :: zC K r (layT T s9 to_7 d9) :: sC K r (savS sv sn T) :: bC K r cs :: pC K r pf :: fC K r fa :: Y) = (if brE T (nI s9) (nI f9) (nI d9) = 0 then refO r (nI 0) (nI (svN sn)) (nI ln) (nI pm) pn (nI sta) (nI ms) hs :: zC K r (layT T (tn (nI s9)) (toT (tn (nI f9)) (tn (nI d9))) (tn (nI d9))) :: sC K r (savS sv sn T) :: bC K r cs :: pC K r pf :: fC K r fa :: Y else refO r (nI (brE T (nI s9) (nI f9) (nI d9))) (nI sn) (nI ln) (nI pm) pn (nI sta) (nI ms) hs :: zC K r T :: sC K r sv :: bC K r cs :: pC K r pf :: fC K r fa :: Y) := by have e9 : brE T (nI s9) (nI f9) (nI d9) = 0 := (by first | (simp [brE, c_1, t_s9, c_2, t_f9, c_3, c_4, t_d9, c_6, n_c_6, htto_7, c_8, n_c_8]; done) | (subst_vars; simp [brE, c_1, t_s9, c_2, t_f9, c_3, c_4, t_d9, c_6, n_c_6, htto_7, c_8, n_c_8])); rw [e9]; simp [ni0, bI_t, bI_f, nI_one, setT_eq, c_1, t_s9, c_2, t_f9, c_3, c_4, t_d9, c_6, n_c_6, htto_7, c_8, n_c_8] <;> rfl
              rw [ew] at hP hD
              exact wr_iret hAe hP hD hS hx hb hr hk dX4_branch_84 ⟨Nat.le_of_ble_eq_true rfl, Nat.le_of_ble_eq_true rfl⟩ (by have e9 : brE T (nI s9) (nI f9) (nI d9) = 0 := (by first | (simp [brE, c_1, t_s9, c_2, t_f9, c_3, c_4, t_d9, c_6, n_c_6, htto_7, c_8, n_c_8]; done) | (subst_vars; simp [brE, c_1, t_s9, c_2, t_f9, c_3, c_4, t_d9, c_6, n_c_6, htto_7, c_8, n_c_8])); rw [e9]; simp [ni0, bI_t, bI_f, nI_one, setT_eq, c_1, t_s9, c_2, t_f9, c_3, c_4, t_d9, c_6, n_c_6, htto_7, c_8, n_c_8] <;> rfl)
            exact absurd c_8 (by decide)
          · have n_c_6 : ¬ whyT T s9 f9 6 d9 = 0 := by omega
            refine lv_iconst (v := nI 3) hx hb dX4_branch_56 (by decide) ?_
            refine lv_goto (tgt := 61) hx hb dX4_branch_57 (by decide) ?_
            refine va_put (D := D) (ci := 4) (v := .int (nI 3)) (ty := .int) (C := RX4) (T := TX4) (N := 13) hx hb hts inX4 tyX4 tyX4_ok nmX4 hown hE.1 hP hD hS 0 rfl rfl 0 (by decide) F29 (fun _ h9 => h9) rfl (by decide +kernel) rfl rfl (Nat.le_of_ble_eq_true rfl) dX4_branch_61 (fun H locs hP hD hS => ?_)
            have hP : va_P D vwCl (refO r (nI 3) (nI sn) (nI ln) (nI pm) pn (nI sta) (nI ms) hs :: zC K r T :: sC K r sv :: bC K r cs :: pC K r pf :: fC K r fa :: Y) H := hP
            have hD : va_D A (refO r (nI 3) (nI sn) (nI ln) (nI pm) pn (nI sta) (nI ms) hs :: zC K r T :: sC K r sv :: bC K r cs :: pC K r pf :: fC K r fa :: Y) := hD
            refine lv_aload_n hx hb dX4_branch_64 rfl (lv_at hl 0 rfl) ?_
            refine va_get (D := D) (ci := 4) (v := .int (nI 3)) (C := RX4) (T := TX4) (N := 13) hx hb hts inX4 hown hE.1 hP 0 rfl rfl 0 (by decide) F29 (fun _ h9 => h9) rfl dX4_branch_65 ?_
            refine nv_if_le (x := 3) (tgt := 73) hx hb dX4_branch_68 (by decide) (by decide) (fun c_9 => ?_) (fun c_9 => ?_)
            · exact absurd c_9 (by decide)
            have n_c_9 : ¬ 3 = 0 := by omega
            refine lv_iconst (v := nI 0) hx hb dX4_branch_71 (by decide) ?_
            have ew : (refO r (nI 3) (nI sn) (nI ln) (nI pm) pn (nI sta) (nI ms) hs :: zC K r T :: sC K r sv :: bC K r cs :: pC K r pf :: fC K r fa :: Y) = (if brE T (nI s9) (nI f9) (nI d9) = 0 then refO r (nI 0) (nI (svN sn)) (nI ln) (nI pm) pn (nI sta) (nI ms) hs :: zC K r (layT T (tn (nI s9)) (toT (tn (nI f9)) (tn (nI d9))) (tn (nI d9))) :: sC K r (savS sv sn T) :: bC K r cs :: pC K r pf :: fC K r fa :: Y else refO r (nI (brE T (nI s9) (nI f9) (nI d9))) (nI sn) (nI ln) (nI pm) pn (nI sta) (nI ms) hs :: zC K r T :: sC K r sv :: bC K r cs :: pC K r pf :: fC K r fa :: Y) := by have e9 : brE T (nI s9) (nI f9) (nI d9) = 3 := (by first | (simp [brE, c_1, t_s9, c_2, t_f9, c_3, c_4, t_d9, c_6, n_c_6, c_9, n_c_9]; done) | (subst_vars; simp [brE, c_1, t_s9, c_2, t_f9, c_3, c_4, t_d9, c_6, n_c_6, c_9, n_c_9])); rw [e9]; simp [ni0, bI_t, bI_f, nI_one, setT_eq, c_1, t_s9, c_2, t_f9, c_3, c_4, t_d9, c_6, n_c_6, c_9, n_c_9] <;> rfl
            rw [ew] at hP hD
            exact wr_iret hAe hP hD hS hx hb hr hk dX4_branch_72 ⟨Nat.le_of_ble_eq_true rfl, Nat.le_of_ble_eq_true rfl⟩ (by have e9 : brE T (nI s9) (nI f9) (nI d9) = 3 := (by first | (simp [brE, c_1, t_s9, c_2, t_f9, c_3, c_4, t_d9, c_6, n_c_6, c_9, n_c_9]; done) | (subst_vars; simp [brE, c_1, t_s9, c_2, t_f9, c_3, c_4, t_d9, c_6, n_c_6, c_9, n_c_9])); rw [e9]; simp [ni0, bI_t, bI_f, nI_one, setT_eq, c_1, t_s9, c_2, t_f9, c_3, c_4, t_d9, c_6, n_c_6, c_9, n_c_9] <;> rfl)
        · refine lv_iconst (v := nI 2) hx hb dX4_branch_40 (by decide) ?_
          refine lv_goto (tgt := 61) hx hb dX4_branch_41 (by decide) ?_
          refine va_put (D := D) (ci := 4) (v := .int (nI 2)) (ty := .int) (C := RX4) (T := TX4) (N := 13) hx hb hts inX4 tyX4 tyX4_ok nmX4 hown hE.1 hP hD hS 0 rfl rfl 0 (by decide) F29 (fun _ h9 => h9) rfl (by decide +kernel) rfl rfl (Nat.le_of_ble_eq_true rfl) dX4_branch_61 (fun H locs hP hD hS => ?_)
          have hP : va_P D vwCl (refO r (nI 2) (nI sn) (nI ln) (nI pm) pn (nI sta) (nI ms) hs :: zC K r T :: sC K r sv :: bC K r cs :: pC K r pf :: fC K r fa :: Y) H := hP
          have hD : va_D A (refO r (nI 2) (nI sn) (nI ln) (nI pm) pn (nI sta) (nI ms) hs :: zC K r T :: sC K r sv :: bC K r cs :: pC K r pf :: fC K r fa :: Y) := hD
          refine lv_aload_n hx hb dX4_branch_64 rfl (lv_at hl 0 rfl) ?_
          refine va_get (D := D) (ci := 4) (v := .int (nI 2)) (C := RX4) (T := TX4) (N := 13) hx hb hts inX4 hown hE.1 hP 0 rfl rfl 0 (by decide) F29 (fun _ h9 => h9) rfl dX4_branch_65 ?_
          refine nv_if_le (x := 2) (tgt := 73) hx hb dX4_branch_68 (by decide) (by decide) (fun c_10 => ?_) (fun c_10 => ?_)
          · exact absurd c_10 (by decide)
          have n_c_10 : ¬ 2 = 0 := by omega
          refine lv_iconst (v := nI 0) hx hb dX4_branch_71 (by decide) ?_
          have ew : (refO r (nI 2) (nI sn) (nI ln) (nI pm) pn (nI sta) (nI ms) hs :: zC K r T :: sC K r sv :: bC K r cs :: pC K r pf :: fC K r fa :: Y) = (if brE T (nI s9) (nI f9) d = 0 then refO r (nI 0) (nI (svN sn)) (nI ln) (nI pm) pn (nI sta) (nI ms) hs :: zC K r (layT T (tn (nI s9)) (toT (tn (nI f9)) (tn d)) (tn d)) :: sC K r (savS sv sn T) :: bC K r cs :: pC K r pf :: fC K r fa :: Y else refO r (nI (brE T (nI s9) (nI f9) d)) (nI sn) (nI ln) (nI pm) pn (nI sta) (nI ms) hs :: zC K r T :: sC K r sv :: bC K r cs :: pC K r pf :: fC K r fa :: Y) := by have e9 : brE T (nI s9) (nI f9) d = 2 := (by first | (simp [brE, c_1, t_s9, c_2, t_f9, c_3, c_4, c_10, n_c_10]; done) | (subst_vars; simp [brE, c_1, t_s9, c_2, t_f9, c_3, c_4, c_10, n_c_10])); rw [e9]; simp [ni0, bI_t, bI_f, nI_one, setT_eq, c_1, t_s9, c_2, t_f9, c_3, c_4, c_10, n_c_10] <;> rfl
          rw [ew] at hP hD
          exact wr_iret hAe hP hD hS hx hb hr hk dX4_branch_72 ⟨Nat.le_of_ble_eq_true rfl, Nat.le_of_ble_eq_true rfl⟩ (by have e9 : brE T (nI s9) (nI f9) d = 2 := (by first | (simp [brE, c_1, t_s9, c_2, t_f9, c_3, c_4, c_10, n_c_10]; done) | (subst_vars; simp [brE, c_1, t_s9, c_2, t_f9, c_3, c_4, c_10, n_c_10])); rw [e9]; simp [ni0, bI_t, bI_f, nI_one, setT_eq, c_1, t_s9, c_2, t_f9, c_3, c_4, c_10, n_c_10] <;> rfl)
      · refine lv_aload_n hx hb dX4_branch_23 rfl (lv_at hl 0 rfl) ?_
        refine lv_iconst (v := nI 1) hx hb dX4_branch_24 (by decide) ?_
        refine va_put (D := D) (ci := 4) (v := .int (nI 1)) (ty := .int) (C := RX4) (T := TX4) (N := 13) hx hb hts inX4 tyX4 tyX4_ok nmX4 hown hE.1 hP hD hS 0 rfl rfl 0 (by decide) F29 (fun _ h9 => h9) rfl (by decide +kernel) rfl rfl (Nat.le_of_ble_eq_true rfl) dX4_branch_25 (fun H locs hP hD hS => ?_)
        have hP : va_P D vwCl (refO r (nI 1) (nI sn) (nI ln) (nI pm) pn (nI sta) (nI ms) hs :: zC K r T :: sC K r sv :: bC K r cs :: pC K r pf :: fC K r fa :: Y) H := hP
        have hD : va_D A (refO r (nI 1) (nI sn) (nI ln) (nI pm) pn (nI sta) (nI ms) hs :: zC K r T :: sC K r sv :: bC K r cs :: pC K r pf :: fC K r fa :: Y) := hD
        refine lv_iconst (v := nI 0) hx hb dX4_branch_28 (by decide) ?_
        have ew : (refO r (nI 1) (nI sn) (nI ln) (nI pm) pn (nI sta) (nI ms) hs :: zC K r T :: sC K r sv :: bC K r cs :: pC K r pf :: fC K r fa :: Y) = (if brE T (nI s9) (nI f9) d = 0 then refO r (nI 0) (nI (svN sn)) (nI ln) (nI pm) pn (nI sta) (nI ms) hs :: zC K r (layT T (tn (nI s9)) (toT (tn (nI f9)) (tn d)) (tn d)) :: sC K r (savS sv sn T) :: bC K r cs :: pC K r pf :: fC K r fa :: Y else refO r (nI (brE T (nI s9) (nI f9) d)) (nI sn) (nI ln) (nI pm) pn (nI sta) (nI ms) hs :: zC K r T :: sC K r sv :: bC K r cs :: pC K r pf :: fC K r fa :: Y) := by have e9 : brE T (nI s9) (nI f9) d = 1 := (by first | (simp [brE, c_1, t_s9, c_2, t_f9, c_3]; done) | (subst_vars; simp [brE, c_1, t_s9, c_2, t_f9, c_3])); rw [e9]; simp [ni0, bI_t, bI_f, nI_one, setT_eq, c_1, t_s9, c_2, t_f9, c_3] <;> rfl
        rw [ew] at hP hD
        exact wr_iret hAe hP hD hS hx hb hr hk dX4_branch_29 ⟨Nat.le_of_ble_eq_true rfl, Nat.le_of_ble_eq_true rfl⟩ (by have e9 : brE T (nI s9) (nI f9) d = 1 := (by first | (simp [brE, c_1, t_s9, c_2, t_f9, c_3]; done) | (subst_vars; simp [brE, c_1, t_s9, c_2, t_f9, c_3])); rw [e9]; simp [ni0, bI_t, bI_f, nI_one, setT_eq, c_1, t_s9, c_2, t_f9, c_3] <;> rfl)
set_option maxHeartbeats 4000000 in
set_option maxRecDepth 100000 in
theorem c_X4_give (l : Launch) (D : va_G) (K : Nat → ClassId) (sz : Nat) (r : Nat → Nat) (th pn : Int32) (sn ln pm sta ms : Nat) (hs : Int64) (T : TW) (sv : Nat → Int32) (cs : Nat → Nat) (pf : Nat → Int32) (fa : Nat → Nat) (Y : va_W) (x k : Int32) (hI : Inv T) (hsn : sn ≤ 6) : Wr l yX4_give wsX4_give ({ frames := 3, cells := 0, slots := 0, locals := 54 } : Room) D K (refO r th (nI sn) (nI ln) (nI pm) pn (nI sta) (nI ms) hs :: zC K r T :: sC K r sv :: bC K r cs :: pC K r pf :: fC K r fa :: Y) sz [.ref (r 0), .int x, .int k] (if giE T x k = 0 then refO r (nI 0) (nI (svN sn)) (nI ln) (nI pm) pn (nI sta) (nI ms) hs :: zC K r (setT T 5 (tn x) (T 5 (tn x) + k)) :: sC K r (savS sv sn T) :: bC K r cs :: pC K r pf :: fC K r fa :: Y else refO r (nI (giE T x k)) (nI sn) (nI ln) (nI pm) pn (nI sta) (nI ms) hs :: zC K r T :: sC K r sv :: bC K r cs :: pC K r pf :: fC K r fa :: Y) (some (.int (if giE T x k = 0 then coT T (tn x) + k else 0))) 0 0 := by
  refine wr_intro (cc := cX4_give) (maxL := 3) (ret := (some .int)) (by decide) rfl (Nat.le_of_ble_eq_true rfl) ?_
  intro pr en st md ar bl mt co A hx hb hml hr hts hown hk hsz hAe hP hE hD hS hA hin ls hl
  have hown : st.vm.findClass RX4 = some md.cls := hown
  have hl : lv_has ls 3 [(0, .ref (r 0)), (1, .int x), (2, .int k)] := hl
  obtain ⟨H, hH⟩ : ∃ z, z = st.heap := ⟨_, rfl⟩
  obtain ⟨locs, hlo⟩ : ∃ z : List Loc, z = [] := ⟨_, rfl⟩
  have hP : va_P D vwCl (refO r th (nI sn) (nI ln) (nI pm) pn (nI sta) (nI ms) hs :: zC K r T :: sC K r sv :: bC K r cs :: pC K r pf :: fC K r fa :: Y) H := by rw [hH]; exact hP
  have hS : va_S A st.heap H locs := by rw [hH, hlo]; exact hS
  suffices go : W pr l en (headSpec wsX4_give ({ frames := 3, cells := 0, slots := 0, locals := 54 } : Room)).room st md ar bl mt co H locs 0 0 (MQ bl (wrQ D (refO r th (nI sn) (nI ln) (nI pm) pn (nI sta) (nI ms) hs :: zC K r T :: sC K r sv :: bC K r cs :: pC K r pf :: fC K r fa :: Y) (if giE T x k = 0 then refO r (nI 0) (nI (svN sn)) (nI ln) (nI pm) pn (nI sta) (nI ms) hs :: zC K r (setT T 5 (tn x) (T 5 (tn x) + k)) :: sC K r (savS sv sn T) :: bC K r cs :: pC K r pf :: fC K r fa :: Y else refO r (nI (giE T x k)) (nI sn) (nI ln) (nI pm) pn (nI sta) (nI ms) hs :: zC K r T :: sC K r sv :: bC K r cs :: pC K r pf :: fC K r fa :: Y) sz (some (.int (if giE T x k = 0 then coT T (tn x) + k else 0)))) ar st 0 0 A) (F0 md 0 ls []) by rw [hH, hlo] at go; exact go
  clear hH hlo
  have C100 : (Cond.constant RX4 100 (99999)).before ar st = true := hts _ (List.mem_of_getElem? (i := 2) rfl)
  have F29 : (Cond.fieldLink RX4 29 "TramTollsModel" "thrown" "I").before ar st = true := hts _ (List.mem_of_getElem? (i := 1) rfl)
  have inX4 : ∀ w ∈ u_ws RX4 TX4 13, w ∈ wsX4_give := fun w h => List.mem_cons_of_mem _ (List.mem_append_right _ h)
  have F7 : (Cond.fieldLink RX4 7 "TramTollsModel" "z" "[I").before ar st = true := hts _ (List.mem_of_getElem? (i := 3) rfl)
  refine lv_iload_n hx hb dX4_give_0 rfl (lv_at hl 1 rfl) ?_
  refine rd_S (rest := []) ⟨hx, hb, hml, hown, hts⟩ hP hE (c_X4_isPlayer l D K _ x) (va_cwS 1 hts gX4_give_X4_isPlayer rfl rfl rfl hn_X4_isPlayer ⟨Nat.le_of_ble_eq_true rfl, Nat.le_of_ble_eq_true rfl⟩) rfl hl.1 rfl (Nat.le_of_ble_eq_true rfl) dX4_give_1 ⟨Nat.le_of_ble_eq_true rfl, Nat.le_of_ble_eq_true rfl⟩ ?_
  refine bv_if_ne (x := inR 0 3 x) (tgt := 14) hx hb dX4_give_4 (by decide) (fun c_1 => ?_) (fun c_1 => ?_)
  · obtain ⟨s9, lo_s9, hi_s9, e_s9⟩ := inR_nL (a := 0) (b := 3) rfl rfl (by decide) (by decide) c_1
    subst e_s9
    have t_s9 := tn_nI (n := s9) (by omega)
    refine lv_aload_n hx hb dX4_give_14 rfl (lv_at hl 0 rfl) ?_
    refine lv_iload_n hx hb dX4_give_15 rfl (lv_at hl 2 rfl) ?_
    refine lv_iconst (v := nI 1) hx hb dX4_give_16 (by decide) ?_
    refine lv_sipush (v := nI 999) hx hb dX4_give_17 (by decide) ?_
    refine rd_S (rest := [.ref (r 0)]) ⟨hx, hb, hml, hown, hts⟩ hP hE (c_X4_in l D K _ k 1 999) (va_cwS 3 hts gX4_give_X4_in rfl rfl rfl hn_X4_in ⟨Nat.le_of_ble_eq_true rfl, Nat.le_of_ble_eq_true rfl⟩) rfl hl.1 rfl (Nat.le_of_ble_eq_true rfl) dX4_give_20 ⟨Nat.le_of_ble_eq_true rfl, Nat.le_of_ble_eq_true rfl⟩ ?_
    refine bv_if_ne (x := inR 1 999 k) (tgt := 30) hx hb dX4_give_23 (by decide) (fun c_2 => ?_) (fun c_2 => ?_)
    · refine lv_aload_n hx hb dX4_give_30 rfl (lv_at hl 0 rfl) ?_
      refine lv_iload_n hx hb dX4_give_31 rfl (lv_at hl 1 rfl) ?_
      refine lv_iconst (v := nI 0) hx hb dX4_give_32 (by decide) ?_
      refine rd_V (rest := [.ref (r 0)]) (ci := 4) (q0 := 0) ⟨hx, hb, hml, hown, hts⟩ hP hE (c_X4_of l D K _ _ _ _ _ _ _ _ _ _ _ s9 0 (by omega) (by omega)) (cwV 2 hts gX4_give_X4_of rfl rfl rfl hd_X4_of ⟨Nat.le_of_ble_eq_true rfl, Nat.le_of_ble_eq_true rfl⟩) rfl rfl rfl rfl hl.1 rfl (Nat.le_of_ble_eq_true rfl) dX4_give_33 ⟨Nat.le_of_ble_eq_true rfl, Nat.le_of_ble_eq_true rfl⟩ ?_
      refine top_i (y := coT T s9) ((congrArg (zT T) (show 268 + 5 * s9 + 0 = 268 + 5 * s9 + 0 from by omega)).trans (zT_pp (w := 0) (by omega) (by decide))) ?_
      refine lv_iload_n hx hb dX4_give_36 rfl (lv_at hl 2 rfl) ?_
      refine lv_iadd (x := coT T s9) (y := k) hx hb dX4_give_37 ?_
      refine lv_ldc (v := nI 99999) hx hb hown C100 dX4_give_38 ?_
      refine lv_icmp_le (x := (coT T s9) + k) (y := nI 99999) (tgt := 47) hx hb dX4_give_40 (by decide) (fun c_3 => ?_) (fun c_3 => ?_)
      · have n_c_3 := i_le_nlt c_3
        refine lv_iconst (v := nI 0) hx hb dX4_give_47 (by decide) ?_
        refine va_put (D := D) (ci := 4) (v := .int (nI 0)) (ty := .int) (C := RX4) (T := TX4) (N := 13) hx hb hts inX4 tyX4 tyX4_ok nmX4 hown hE.1 hP hD hS 0 rfl rfl 0 (by decide) F29 (fun _ h9 => h9) rfl (by decide +kernel) rfl rfl (Nat.le_of_ble_eq_true rfl) dX4_give_48 (fun H locs hP hD hS => ?_)
        have hP : va_P D vwCl (refO r (nI 0) (nI sn) (nI ln) (nI pm) pn (nI sta) (nI ms) hs :: zC K r T :: sC K r sv :: bC K r cs :: pC K r pf :: fC K r fa :: Y) H := hP
        have hD : va_D A (refO r (nI 0) (nI sn) (nI ln) (nI pm) pn (nI sta) (nI ms) hs :: zC K r T :: sC K r sv :: bC K r cs :: pC K r pf :: fC K r fa :: Y) := hD
        refine lv_aload_n hx hb dX4_give_51 rfl (lv_at hl 0 rfl) ?_
        refine va_get (D := D) (ci := 4) (v := .int (nI 0)) (C := RX4) (T := TX4) (N := 13) hx hb hts inX4 hown hE.1 hP 0 rfl rfl 0 (by decide) F29 (fun _ h9 => h9) rfl dX4_give_52 ?_
        refine nv_if_le (x := 0) (tgt := 60) hx hb dX4_give_55 (by decide) (by decide) (fun c_4 => ?_) (fun c_4 => ?_)
        · have n_c_4 : ¬ 0 < 0 := by omega
          refine lv_aload_n hx hb dX4_give_60 rfl (lv_at hl 0 rfl) ?_
          refine wr_V (rest := []) (ci := 4) (q0 := 0) ⟨hx, hb, hml, hown, hts⟩ hP hE hA hD hS (c_X4_save l D K _ _ _ _ sn _ _ _ _ _ _ _ _ _ _ _ hsn) (cwV 0 hts gX4_give_X4_save rfl rfl rfl hd_X4_save ⟨Nat.le_of_ble_eq_true rfl, Nat.le_of_ble_eq_true rfl⟩) rfl rfl rfl rfl hl.1 rfl (Nat.le_of_ble_eq_true rfl) dX4_give_61 ⟨Nat.le_of_ble_eq_true rfl, Nat.le_of_ble_eq_true rfl⟩ (fun H locs hP hD hS => ?_)
          have hP : va_P D vwCl (refO r (nI 0) (nI (svN sn)) (nI ln) (nI pm) pn (nI sta) (nI ms) hs :: zC K r T :: sC K r (savS sv sn T) :: bC K r cs :: pC K r pf :: fC K r fa :: Y) H := hP
          have hD : va_D A (refO r (nI 0) (nI (svN sn)) (nI ln) (nI pm) pn (nI sta) (nI ms) hs :: zC K r T :: sC K r (savS sv sn T) :: bC K r cs :: pC K r pf :: fC K r fa :: Y) := hD
          refine lv_aload_n hx hb dX4_give_64 rfl (lv_at hl 0 rfl) ?_
          refine va_get (D := D) (ci := 4) (v := .ref (r 1)) (C := RX4) (T := TX4) (N := 13) hx hb hts inX4 hown hE.1 hP 0 rfl rfl 1 (by decide) F7 (fun _ h9 => h9) rfl dX4_give_65 ?_
          refine lv_sipush (v := nI 268) hx hb dX4_give_68 (by decide) ?_
          refine lv_iconst (v := nI 5) hx hb dX4_give_71 (by decide) ?_
          refine lv_iload_n hx hb dX4_give_72 rfl (lv_at hl 1 rfl) ?_
          refine nv_imul (x := 5) (y := s9) hx hb dX4_give_73 ?_
          refine nv_iadd (x := 268) (y := 5 * s9) hx hb dX4_give_74 ?_
          refine lv_iconst (v := nI 0) hx hb dX4_give_75 (by decide) ?_
          refine nv_iadd (x := 268 + (5 * s9)) (y := 0) hx hb dX4_give_76 ?_
          refine lv_dup2_11 hx hb dX4_give_77 rfl rfl ?_
          refine va_iald hx hb hE.1 hP 1 0 rfl rfl (pk_in ((268 + (5 * s9)) + 0) 288 (by omega)) dX4_give_78 ?_
          rw [pk_cl ((268 + (5 * s9)) + 0)]
          refine top_i (y := coT T s9) ((congrArg (zT T) (show (268 + (5 * s9)) + 0 = 268 + 5 * s9 + 0 from by omega)).trans (zT_pp (w := 0) (by omega) (by decide))) ?_
          refine lv_iload_n hx hb dX4_give_79 rfl (lv_at hl 2 rfl) ?_
          refine lv_iadd (x := coT T s9) (y := k) hx hb dX4_give_80 ?_
          refine va_iast hx hb hE.1 hP hD hS 1 0 rfl rfl (pk_in ((268 + (5 * s9)) + 0) 288 (by omega)) dX4_give_81 (fun H locs hP hD hS => ?_)
          rw [pk_cl ((268 + (5 * s9)) + 0)] at hP hD
          rw [show upd (zT T) ((268 + (5 * s9)) + 0) ((coT T s9) + k) = zT (setT T 5 s9 ((coT T s9) + k)) from (congrArg (fun k_ => upd (zT T) k_ ((coT T s9) + k)) (show (268 + (5 * s9)) + 0 = 268 + 5 * s9 + 0 from by omega)).trans (zU_pp (w := 0) (by omega) (by decide))] at hP hD
          have hP : va_P D vwCl (refO r (nI 0) (nI (svN sn)) (nI ln) (nI pm) pn (nI sta) (nI ms) hs :: zC K r (setT T 5 s9 ((coT T s9) + k)) :: sC K r (savS sv sn T) :: bC K r cs :: pC K r pf :: fC K r fa :: Y) H := hP
          have hD : va_D A (refO r (nI 0) (nI (svN sn)) (nI ln) (nI pm) pn (nI sta) (nI ms) hs :: zC K r (setT T 5 s9 ((coT T s9) + k)) :: sC K r (savS sv sn T) :: bC K r cs :: pC K r pf :: fC K r fa :: Y) := hD
          refine lv_aload_n hx hb dX4_give_82 rfl (lv_at hl 0 rfl) ?_
          refine lv_iload_n hx hb dX4_give_83 rfl (lv_at hl 1 rfl) ?_
          refine lv_iconst (v := nI 0) hx hb dX4_give_84 (by decide) ?_
          refine rd_V (rest := []) (ci := 4) (q0 := 0) ⟨hx, hb, hml, hown, hts⟩ hP hE (c_X4_of l D K _ _ _ _ _ _ _ _ _ _ _ s9 0 (by omega) (by omega)) (cwV 2 hts gX4_give_X4_of rfl rfl rfl hd_X4_of ⟨Nat.le_of_ble_eq_true rfl, Nat.le_of_ble_eq_true rfl⟩) rfl rfl rfl rfl hl.1 rfl (Nat.le_of_ble_eq_true rfl) dX4_give_85 ⟨Nat.le_of_ble_eq_true rfl, Nat.le_of_ble_eq_true rfl⟩ ?_
          refine top_i (y := (setT T 5 s9 ((coT T s9) + k)) 5 s9) ((congrArg (zT (setT T 5 s9 ((coT T s9) + k))) (show 268 + 5 * s9 + 0 = 268 + 5 * s9 + 0 from by omega)).trans (zT_pp (w := 0) (by omega) (by decide))) ?_
          have ew : (refO r (nI 0) (nI (svN sn)) (nI ln) (nI pm) pn (nI sta) (nI ms) hs :: zC K r (setT T 5 s9 ((coT T s9) + k)) :: sC K r (savS sv sn T) :: bC K r cs :: pC K r pf :: fC K r fa :: Y) = (if giE T (nI s9) k = 0 then refO r (nI 0) (nI (svN sn)) (nI ln) (nI pm) pn (nI sta) (nI ms) hs :: zC K r (setT T 5 (tn (nI s9)) (T 5 (tn (nI s9)) + k)) :: sC K r (savS sv sn T) :: bC K r cs :: pC K r pf :: fC K r fa :: Y else refO r (nI (giE T (nI s9) k)) (nI sn) (nI ln) (nI pm) pn (nI sta) (nI ms) hs :: zC K r T :: sC K r sv :: bC K r cs :: pC K r pf :: fC K r fa :: Y) := by have e9 : giE T (nI s9) k = 0 := (by first | (simp [giE, c_1, t_s9, c_2, c_3, n_c_3, c_4, n_c_4]; done) | (subst_vars; simp [giE, c_1, t_s9, c_2, c_3, n_c_3, c_4, n_c_4])); rw [e9]; simp [ni0, bI_t, bI_f, nI_one, setT_eq, c_1, t_s9, c_2, c_3, n_c_3, c_4, n_c_4] <;> rfl
          rw [ew] at hP hD
          exact wr_iret hAe hP hD hS hx hb hr hk dX4_give_88 ⟨Nat.le_of_ble_eq_true rfl, Nat.le_of_ble_eq_true rfl⟩ (by have e9 : giE T (nI s9) k = 0 := (by first | (simp [giE, c_1, t_s9, c_2, c_3, n_c_3, c_4, n_c_4]; done) | (subst_vars; simp [giE, c_1, t_s9, c_2, c_3, n_c_3, c_4, n_c_4])); rw [e9]; simp [ni0, bI_t, bI_f, nI_one, setT_eq, c_1, t_s9, c_2, c_3, n_c_3, c_4, n_c_4] <;> rfl)
        exact absurd c_4 (by decide)
      · have n_c_3 := i_nle_lt c_3
        refine lv_iconst (v := nI 3) hx hb dX4_give_43 (by decide) ?_
        refine lv_goto (tgt := 48) hx hb dX4_give_44 (by decide) ?_
        refine va_put (D := D) (ci := 4) (v := .int (nI 3)) (ty := .int) (C := RX4) (T := TX4) (N := 13) hx hb hts inX4 tyX4 tyX4_ok nmX4 hown hE.1 hP hD hS 0 rfl rfl 0 (by decide) F29 (fun _ h9 => h9) rfl (by decide +kernel) rfl rfl (Nat.le_of_ble_eq_true rfl) dX4_give_48 (fun H locs hP hD hS => ?_)
        have hP : va_P D vwCl (refO r (nI 3) (nI sn) (nI ln) (nI pm) pn (nI sta) (nI ms) hs :: zC K r T :: sC K r sv :: bC K r cs :: pC K r pf :: fC K r fa :: Y) H := hP
        have hD : va_D A (refO r (nI 3) (nI sn) (nI ln) (nI pm) pn (nI sta) (nI ms) hs :: zC K r T :: sC K r sv :: bC K r cs :: pC K r pf :: fC K r fa :: Y) := hD
        refine lv_aload_n hx hb dX4_give_51 rfl (lv_at hl 0 rfl) ?_
        refine va_get (D := D) (ci := 4) (v := .int (nI 3)) (C := RX4) (T := TX4) (N := 13) hx hb hts inX4 hown hE.1 hP 0 rfl rfl 0 (by decide) F29 (fun _ h9 => h9) rfl dX4_give_52 ?_
        refine nv_if_le (x := 3) (tgt := 60) hx hb dX4_give_55 (by decide) (by decide) (fun c_5 => ?_) (fun c_5 => ?_)
        · exact absurd c_5 (by decide)
        have n_c_5 : ¬ 3 = 0 := by omega
        refine lv_iconst (v := nI 0) hx hb dX4_give_58 (by decide) ?_
        have ew : (refO r (nI 3) (nI sn) (nI ln) (nI pm) pn (nI sta) (nI ms) hs :: zC K r T :: sC K r sv :: bC K r cs :: pC K r pf :: fC K r fa :: Y) = (if giE T (nI s9) k = 0 then refO r (nI 0) (nI (svN sn)) (nI ln) (nI pm) pn (nI sta) (nI ms) hs :: zC K r (setT T 5 (tn (nI s9)) (T 5 (tn (nI s9)) + k)) :: sC K r (savS sv sn T) :: bC K r cs :: pC K r pf :: fC K r fa :: Y else refO r (nI (giE T (nI s9) k)) (nI sn) (nI ln) (nI pm) pn (nI sta) (nI ms) hs :: zC K r T :: sC K r sv :: bC K r cs :: pC K r pf :: fC K r fa :: Y) := by have e9 : giE T (nI s9) k = 3 := (by first | (simp [giE, c_1, t_s9, c_2, c_3, n_c_3, c_5, n_c_5]; done) | (subst_vars; simp [giE, c_1, t_s9, c_2, c_3, n_c_3, c_5, n_c_5])); rw [e9]; simp [ni0, bI_t, bI_f, nI_one, setT_eq, c_1, t_s9, c_2, c_3, n_c_3, c_5, n_c_5] <;> rfl
        rw [ew] at hP hD
        exact wr_iret hAe hP hD hS hx hb hr hk dX4_give_59 ⟨Nat.le_of_ble_eq_true rfl, Nat.le_of_ble_eq_true rfl⟩ (by have e9 : giE T (nI s9) k = 3 := (by first | (simp [giE, c_1, t_s9, c_2, c_3, n_c_3, c_5, n_c_5]; done) | (subst_vars; simp [giE, c_1, t_s9, c_2, c_3, n_c_3, c_5, n_c_5])); rw [e9]; simp [ni0, bI_t, bI_f, nI_one, setT_eq, c_1, t_s9, c_2, c_3, n_c_3, c_5, n_c_5] <;> rfl)
    · refine lv_iconst (v := nI 2) hx hb dX4_give_26 (by decide) ?_
      refine lv_goto (tgt := 48) hx hb dX4_give_27 (by decide) ?_
      refine va_put (D := D) (ci := 4) (v := .int (nI 2)) (ty := .int) (C := RX4) (T := TX4) (N := 13) hx hb hts inX4 tyX4 tyX4_ok nmX4 hown hE.1 hP hD hS 0 rfl rfl 0 (by decide) F29 (fun _ h9 => h9) rfl (by decide +kernel) rfl rfl (Nat.le_of_ble_eq_true rfl) dX4_give_48 (fun H locs hP hD hS => ?_)
      have hP : va_P D vwCl (refO r (nI 2) (nI sn) (nI ln) (nI pm) pn (nI sta) (nI ms) hs :: zC K r T :: sC K r sv :: bC K r cs :: pC K r pf :: fC K r fa :: Y) H := hP
      have hD : va_D A (refO r (nI 2) (nI sn) (nI ln) (nI pm) pn (nI sta) (nI ms) hs :: zC K r T :: sC K r sv :: bC K r cs :: pC K r pf :: fC K r fa :: Y) := hD
      refine lv_aload_n hx hb dX4_give_51 rfl (lv_at hl 0 rfl) ?_
      refine va_get (D := D) (ci := 4) (v := .int (nI 2)) (C := RX4) (T := TX4) (N := 13) hx hb hts inX4 hown hE.1 hP 0 rfl rfl 0 (by decide) F29 (fun _ h9 => h9) rfl dX4_give_52 ?_
      refine nv_if_le (x := 2) (tgt := 60) hx hb dX4_give_55 (by decide) (by decide) (fun c_6 => ?_) (fun c_6 => ?_)
      · exact absurd c_6 (by decide)
      have n_c_6 : ¬ 2 = 0 := by omega
      refine lv_iconst (v := nI 0) hx hb dX4_give_58 (by decide) ?_
      have ew : (refO r (nI 2) (nI sn) (nI ln) (nI pm) pn (nI sta) (nI ms) hs :: zC K r T :: sC K r sv :: bC K r cs :: pC K r pf :: fC K r fa :: Y) = (if giE T (nI s9) k = 0 then refO r (nI 0) (nI (svN sn)) (nI ln) (nI pm) pn (nI sta) (nI ms) hs :: zC K r (setT T 5 (tn (nI s9)) (T 5 (tn (nI s9)) + k)) :: sC K r (savS sv sn T) :: bC K r cs :: pC K r pf :: fC K r fa :: Y else refO r (nI (giE T (nI s9) k)) (nI sn) (nI ln) (nI pm) pn (nI sta) (nI ms) hs :: zC K r T :: sC K r sv :: bC K r cs :: pC K r pf :: fC K r fa :: Y) := by have e9 : giE T (nI s9) k = 2 := (by first | (simp [giE, c_1, t_s9, c_2, c_6, n_c_6]; done) | (subst_vars; simp [giE, c_1, t_s9, c_2, c_6, n_c_6])); rw [e9]; simp [ni0, bI_t, bI_f, nI_one, setT_eq, c_1, t_s9, c_2, c_6, n_c_6] <;> rfl
      rw [ew] at hP hD
      exact wr_iret hAe hP hD hS hx hb hr hk dX4_give_59 ⟨Nat.le_of_ble_eq_true rfl, Nat.le_of_ble_eq_true rfl⟩ (by have e9 : giE T (nI s9) k = 2 := (by first | (simp [giE, c_1, t_s9, c_2, c_6, n_c_6]; done) | (subst_vars; simp [giE, c_1, t_s9, c_2, c_6, n_c_6])); rw [e9]; simp [ni0, bI_t, bI_f, nI_one, setT_eq, c_1, t_s9, c_2, c_6, n_c_6] <;> rfl)
  · refine lv_aload_n hx hb dX4_give_7 rfl (lv_at hl 0 rfl) ?_
    refine lv_iconst (v := nI 1) hx hb dX4_give_8 (by decide) ?_
    refine va_put (D := D) (ci := 4) (v := .int (nI 1)) (ty := .int) (C := RX4) (T := TX4) (N := 13) hx hb hts inX4 tyX4 tyX4_ok nmX4 hown hE.1 hP hD hS 0 rfl rfl 0 (by decide) F29 (fun _ h9 => h9) rfl (by decide +kernel) rfl rfl (Nat.le_of_ble_eq_true rfl) dX4_give_9 (fun H locs hP hD hS => ?_)
    have hP : va_P D vwCl (refO r (nI 1) (nI sn) (nI ln) (nI pm) pn (nI sta) (nI ms) hs :: zC K r T :: sC K r sv :: bC K r cs :: pC K r pf :: fC K r fa :: Y) H := hP
    have hD : va_D A (refO r (nI 1) (nI sn) (nI ln) (nI pm) pn (nI sta) (nI ms) hs :: zC K r T :: sC K r sv :: bC K r cs :: pC K r pf :: fC K r fa :: Y) := hD
    refine lv_iconst (v := nI 0) hx hb dX4_give_12 (by decide) ?_
    have ew : (refO r (nI 1) (nI sn) (nI ln) (nI pm) pn (nI sta) (nI ms) hs :: zC K r T :: sC K r sv :: bC K r cs :: pC K r pf :: fC K r fa :: Y) = (if giE T x k = 0 then refO r (nI 0) (nI (svN sn)) (nI ln) (nI pm) pn (nI sta) (nI ms) hs :: zC K r (setT T 5 (tn x) (T 5 (tn x) + k)) :: sC K r (savS sv sn T) :: bC K r cs :: pC K r pf :: fC K r fa :: Y else refO r (nI (giE T x k)) (nI sn) (nI ln) (nI pm) pn (nI sta) (nI ms) hs :: zC K r T :: sC K r sv :: bC K r cs :: pC K r pf :: fC K r fa :: Y) := by have e9 : giE T x k = 1 := (by first | (simp [giE, c_1]; done) | (subst_vars; simp [giE, c_1])); rw [e9]; simp [ni0, bI_t, bI_f, nI_one, setT_eq, c_1] <;> rfl
    rw [ew] at hP hD
    exact wr_iret hAe hP hD hS hx hb hr hk dX4_give_13 ⟨Nat.le_of_ble_eq_true rfl, Nat.le_of_ble_eq_true rfl⟩ (by have e9 : giE T x k = 1 := (by first | (simp [giE, c_1]; done) | (subst_vars; simp [giE, c_1])); rw [e9]; simp [ni0, bI_t, bI_f, nI_one, setT_eq, c_1] <;> rfl)
set_option maxHeartbeats 4000000 in
set_option maxRecDepth 100000 in
theorem c_X4_set (l : Launch) (D : va_G) (K : Nat → ClassId) (sz : Nat) (r : Nat → Nat) (th pn : Int32) (sn ln pm sta ms : Nat) (hs : Int64) (T : TW) (sv : Nat → Int32) (cs : Nat → Nat) (pf : Nat → Int32) (fa : Nat → Nat) (Y : va_W) (x v : Int32) (hI : Inv T) (hsn : sn ≤ 6) : Wr l yX4_set wsX4_set ({ frames := 2, cells := 0, slots := 0, locals := 34 } : Room) D K (refO r th (nI sn) (nI ln) (nI pm) pn (nI sta) (nI ms) hs :: zC K r T :: sC K r sv :: bC K r cs :: pC K r pf :: fC K r fa :: Y) sz [.ref (r 0), .int x, .int v] (if seE x v = 0 then refO r (nI 0) (nI (svN sn)) (nI ln) (nI pm) pn (nI sta) (nI ms) hs :: zC K r (setT T 10 (tn x) v) :: sC K r (savS sv sn T) :: bC K r cs :: pC K r pf :: fC K r fa :: Y else refO r (nI (seE x v)) (nI sn) (nI ln) (nI pm) pn (nI sta) (nI ms) hs :: zC K r T :: sC K r sv :: bC K r cs :: pC K r pf :: fC K r fa :: Y) (some (.int (if seE x v = 0 then nI (stT T (tn x)) else 0))) 0 0 := by
  refine wr_intro (cc := cX4_set) (maxL := 4) (ret := (some .int)) (by decide) rfl (Nat.le_of_ble_eq_true rfl) ?_
  intro pr en st md ar bl mt co A hx hb hml hr hts hown hk hsz hAe hP hE hD hS hA hin ls hl
  have hown : st.vm.findClass RX4 = some md.cls := hown
  have hl : lv_has ls 4 [(0, .ref (r 0)), (1, .int x), (2, .int v)] := hl
  obtain ⟨H, hH⟩ : ∃ z, z = st.heap := ⟨_, rfl⟩
  obtain ⟨locs, hlo⟩ : ∃ z : List Loc, z = [] := ⟨_, rfl⟩
  have hP : va_P D vwCl (refO r th (nI sn) (nI ln) (nI pm) pn (nI sta) (nI ms) hs :: zC K r T :: sC K r sv :: bC K r cs :: pC K r pf :: fC K r fa :: Y) H := by rw [hH]; exact hP
  have hS : va_S A st.heap H locs := by rw [hH, hlo]; exact hS
  suffices go : W pr l en (headSpec wsX4_set ({ frames := 2, cells := 0, slots := 0, locals := 34 } : Room)).room st md ar bl mt co H locs 0 0 (MQ bl (wrQ D (refO r th (nI sn) (nI ln) (nI pm) pn (nI sta) (nI ms) hs :: zC K r T :: sC K r sv :: bC K r cs :: pC K r pf :: fC K r fa :: Y) (if seE x v = 0 then refO r (nI 0) (nI (svN sn)) (nI ln) (nI pm) pn (nI sta) (nI ms) hs :: zC K r (setT T 10 (tn x) v) :: sC K r (savS sv sn T) :: bC K r cs :: pC K r pf :: fC K r fa :: Y else refO r (nI (seE x v)) (nI sn) (nI ln) (nI pm) pn (nI sta) (nI ms) hs :: zC K r T :: sC K r sv :: bC K r cs :: pC K r pf :: fC K r fa :: Y) sz (some (.int (if seE x v = 0 then nI (stT T (tn x)) else 0)))) ar st 0 0 A) (F0 md 0 ls []) by rw [hH, hlo] at go; exact go
  clear hH hlo
  have F29 : (Cond.fieldLink RX4 29 "TramTollsModel" "thrown" "I").before ar st = true := hts _ (List.mem_of_getElem? (i := 1) rfl)
  have inX4 : ∀ w ∈ u_ws RX4 TX4 13, w ∈ wsX4_set := fun w h => List.mem_cons_of_mem _ (List.mem_append_right _ h)
  have F7 : (Cond.fieldLink RX4 7 "TramTollsModel" "z" "[I").before ar st = true := hts _ (List.mem_of_getElem? (i := 2) rfl)
  refine lv_aload_n hx hb dX4_set_0 rfl (lv_at hl 0 rfl) ?_
  refine lv_iload_n hx hb dX4_set_1 rfl (lv_at hl 1 rfl) ?_
  refine lv_iconst (v := nI 0) hx hb dX4_set_2 (by decide) ?_
  refine lv_iconst (v := nI 2) hx hb dX4_set_3 (by decide) ?_
  refine rd_S (rest := [.ref (r 0)]) ⟨hx, hb, hml, hown, hts⟩ hP hE (c_X4_in l D K _ x 0 2) (va_cwS 3 hts gX4_set_X4_in rfl rfl rfl hn_X4_in ⟨Nat.le_of_ble_eq_true rfl, Nat.le_of_ble_eq_true rfl⟩) rfl hl.1 rfl (Nat.le_of_ble_eq_true rfl) dX4_set_4 ⟨Nat.le_of_ble_eq_true rfl, Nat.le_of_ble_eq_true rfl⟩ ?_
  refine bv_if_ne (x := inR 0 2 x) (tgt := 14) hx hb dX4_set_7 (by decide) (fun c_1 => ?_) (fun c_1 => ?_)
  · obtain ⟨s9, lo_s9, hi_s9, e_s9⟩ := inR_nL (a := 0) (b := 2) rfl rfl (by decide) (by decide) c_1
    subst e_s9
    have t_s9 := tn_nI (n := s9) (by omega)
    refine lv_iload_n hx hb dX4_set_14 rfl (lv_at hl 1 rfl) ?_
    refine lv_iconst (v := nI 1) hx hb dX4_set_15 (by decide) ?_
    refine nv_icmp_ne (x := s9) (y := 1) (tgt := 36) hx hb dX4_set_16 (by decide) (by omega) (by decide) (fun c_2 => ?_) (fun c_2 => ?_)
    · refine lv_iload_n hx hb dX4_set_36 rfl (lv_at hl 2 rfl) ?_
      refine lv_iconst (v := nI 0) hx hb dX4_set_37 (by decide) ?_
      refine lv_bipush (v := nI 9) hx hb dX4_set_38 (by decide) ?_
      refine rd_S (rest := [.ref (r 0)]) ⟨hx, hb, hml, hown, hts⟩ hP hE (c_X4_in l D K _ v 0 9) (va_cwS 3 hts gX4_set_X4_in rfl rfl rfl hn_X4_in ⟨Nat.le_of_ble_eq_true rfl, Nat.le_of_ble_eq_true rfl⟩) rfl hl.1 rfl (Nat.le_of_ble_eq_true rfl) dX4_set_40 ⟨Nat.le_of_ble_eq_true rfl, Nat.le_of_ble_eq_true rfl⟩ ?_
      refine bv_if_eq (x := inR 0 9 v) (tgt := 50) hx hb dX4_set_43 (by decide) (fun c_3 => ?_) (fun c_3 => ?_)
      · refine lv_iconst (v := nI 2) hx hb dX4_set_50 (by decide) ?_
        refine va_put (D := D) (ci := 4) (v := .int (nI 2)) (ty := .int) (C := RX4) (T := TX4) (N := 13) hx hb hts inX4 tyX4 tyX4_ok nmX4 hown hE.1 hP hD hS 0 rfl rfl 0 (by decide) F29 (fun _ h9 => h9) rfl (by decide +kernel) rfl rfl (Nat.le_of_ble_eq_true rfl) dX4_set_51 (fun H locs hP hD hS => ?_)
        have hP : va_P D vwCl (refO r (nI 2) (nI sn) (nI ln) (nI pm) pn (nI sta) (nI ms) hs :: zC K r T :: sC K r sv :: bC K r cs :: pC K r pf :: fC K r fa :: Y) H := hP
        have hD : va_D A (refO r (nI 2) (nI sn) (nI ln) (nI pm) pn (nI sta) (nI ms) hs :: zC K r T :: sC K r sv :: bC K r cs :: pC K r pf :: fC K r fa :: Y) := hD
        refine lv_aload_n hx hb dX4_set_54 rfl (lv_at hl 0 rfl) ?_
        refine va_get (D := D) (ci := 4) (v := .int (nI 2)) (C := RX4) (T := TX4) (N := 13) hx hb hts inX4 hown hE.1 hP 0 rfl rfl 0 (by decide) F29 (fun _ h9 => h9) rfl dX4_set_55 ?_
        refine nv_if_le (x := 2) (tgt := 63) hx hb dX4_set_58 (by decide) (by decide) (fun c_4 => ?_) (fun c_4 => ?_)
        · exact absurd c_4 (by decide)
        have n_c_4 : ¬ 2 = 0 := by omega
        refine lv_iconst (v := nI 0) hx hb dX4_set_61 (by decide) ?_
        have ew : (refO r (nI 2) (nI sn) (nI ln) (nI pm) pn (nI sta) (nI ms) hs :: zC K r T :: sC K r sv :: bC K r cs :: pC K r pf :: fC K r fa :: Y) = (if seE (nI s9) v = 0 then refO r (nI 0) (nI (svN sn)) (nI ln) (nI pm) pn (nI sta) (nI ms) hs :: zC K r (setT T 10 (tn (nI s9)) v) :: sC K r (savS sv sn T) :: bC K r cs :: pC K r pf :: fC K r fa :: Y else refO r (nI (seE (nI s9) v)) (nI sn) (nI ln) (nI pm) pn (nI sta) (nI ms) hs :: zC K r T :: sC K r sv :: bC K r cs :: pC K r pf :: fC K r fa :: Y) := by have e9 : seE (nI s9) v = 2 := (by first | (simp [seE, stvR, c_1, t_s9, c_2, c_3, c_4, n_c_4]; done) | (subst_vars; simp [seE, stvR, c_1, t_s9, c_3, c_4, n_c_4])); rw [e9]; simp [ni0, bI_t, bI_f, nI_one, setT_eq, c_1, t_s9, c_2, c_3, c_4, n_c_4] <;> rfl
        rw [ew] at hP hD
        exact wr_iret hAe hP hD hS hx hb hr hk dX4_set_62 ⟨Nat.le_of_ble_eq_true rfl, Nat.le_of_ble_eq_true rfl⟩ (by have e9 : seE (nI s9) v = 2 := (by first | (simp [seE, stvR, c_1, t_s9, c_2, c_3, c_4, n_c_4]; done) | (subst_vars; simp [seE, stvR, c_1, t_s9, c_3, c_4, n_c_4])); rw [e9]; simp [ni0, bI_t, bI_f, nI_one, setT_eq, c_1, t_s9, c_2, c_3, c_4, n_c_4] <;> rfl)
      · refine lv_iconst (v := nI 0) hx hb dX4_set_46 (by decide) ?_
        refine lv_goto (tgt := 51) hx hb dX4_set_47 (by decide) ?_
        refine va_put (D := D) (ci := 4) (v := .int (nI 0)) (ty := .int) (C := RX4) (T := TX4) (N := 13) hx hb hts inX4 tyX4 tyX4_ok nmX4 hown hE.1 hP hD hS 0 rfl rfl 0 (by decide) F29 (fun _ h9 => h9) rfl (by decide +kernel) rfl rfl (Nat.le_of_ble_eq_true rfl) dX4_set_51 (fun H locs hP hD hS => ?_)
        have hP : va_P D vwCl (refO r (nI 0) (nI sn) (nI ln) (nI pm) pn (nI sta) (nI ms) hs :: zC K r T :: sC K r sv :: bC K r cs :: pC K r pf :: fC K r fa :: Y) H := hP
        have hD : va_D A (refO r (nI 0) (nI sn) (nI ln) (nI pm) pn (nI sta) (nI ms) hs :: zC K r T :: sC K r sv :: bC K r cs :: pC K r pf :: fC K r fa :: Y) := hD
        refine lv_aload_n hx hb dX4_set_54 rfl (lv_at hl 0 rfl) ?_
        refine va_get (D := D) (ci := 4) (v := .int (nI 0)) (C := RX4) (T := TX4) (N := 13) hx hb hts inX4 hown hE.1 hP 0 rfl rfl 0 (by decide) F29 (fun _ h9 => h9) rfl dX4_set_55 ?_
        refine nv_if_le (x := 0) (tgt := 63) hx hb dX4_set_58 (by decide) (by decide) (fun c_5 => ?_) (fun c_5 => ?_)
        · have n_c_5 : ¬ 0 < 0 := by omega
          refine lv_aload_n hx hb dX4_set_63 rfl (lv_at hl 0 rfl) ?_
          refine wr_V (rest := []) (ci := 4) (q0 := 0) ⟨hx, hb, hml, hown, hts⟩ hP hE hA hD hS (c_X4_save l D K _ _ _ _ sn _ _ _ _ _ _ _ _ _ _ _ hsn) (cwV 0 hts gX4_set_X4_save rfl rfl rfl hd_X4_save ⟨Nat.le_of_ble_eq_true rfl, Nat.le_of_ble_eq_true rfl⟩) rfl rfl rfl rfl hl.1 rfl (Nat.le_of_ble_eq_true rfl) dX4_set_64 ⟨Nat.le_of_ble_eq_true rfl, Nat.le_of_ble_eq_true rfl⟩ (fun H locs hP hD hS => ?_)
          have hP : va_P D vwCl (refO r (nI 0) (nI (svN sn)) (nI ln) (nI pm) pn (nI sta) (nI ms) hs :: zC K r T :: sC K r (savS sv sn T) :: bC K r cs :: pC K r pf :: fC K r fa :: Y) H := hP
          have hD : va_D A (refO r (nI 0) (nI (svN sn)) (nI ln) (nI pm) pn (nI sta) (nI ms) hs :: zC K r T :: sC K r (savS sv sn T) :: bC K r cs :: pC K r pf :: fC K r fa :: Y) := hD
          refine lv_aload_n hx hb dX4_set_67 rfl (lv_at hl 0 rfl) ?_
          refine va_get (D := D) (ci := 4) (v := .ref (r 1)) (C := RX4) (T := TX4) (N := 13) hx hb hts inX4 hown hE.1 hP 0 rfl rfl 1 (by decide) F7 (fun _ h9 => h9) rfl dX4_set_68 ?_
          refine lv_iconst (v := nI 0) hx hb dX4_set_71 (by decide) ?_
          refine lv_iload_n hx hb dX4_set_72 rfl (lv_at hl 1 rfl) ?_
          refine nv_iadd (x := 0) (y := s9) hx hb dX4_set_73 ?_
          refine va_iald hx hb hE.1 hP 1 0 rfl rfl (pk_in (0 + s9) 288 (by omega)) dX4_set_74 ?_
          rw [pk_cl (0 + s9)]
          refine top_i (y := nI (stT T s9)) (((congrArg (zT T) (show 0 + s9 = s9 from by omega)).trans (zT_st (by omega))).trans (show T 10 s9 = nI (stT T s9) from eq_st hI (by omega))) ?_
          have hb_6 := st_lt hI (show s9 < 3 by omega)
          refine lv_istore_n (lv' := [(3, .int (nI (stT T s9))), (0, .ref (r 0)), (1, .int (nI s9)), (2, .int v)]) hx hb dX4_set_75 rfl hl (by decide) rfl (fun ls hl => ?_)
          refine lv_aload_n hx hb dX4_set_76 rfl (lv_at hl 1 rfl) ?_
          refine va_get (D := D) (ci := 4) (v := .ref (r 1)) (C := RX4) (T := TX4) (N := 13) hx hb hts inX4 hown hE.1 hP 0 rfl rfl 1 (by decide) F7 (fun _ h9 => h9) rfl dX4_set_77 ?_
          refine lv_iconst (v := nI 0) hx hb dX4_set_80 (by decide) ?_
          refine lv_iload_n hx hb dX4_set_81 rfl (lv_at hl 2 rfl) ?_
          refine nv_iadd (x := 0) (y := s9) hx hb dX4_set_82 ?_
          refine lv_iload_n hx hb dX4_set_83 rfl (lv_at hl 3 rfl) ?_
          refine va_iast hx hb hE.1 hP hD hS 1 0 rfl rfl (pk_in (0 + s9) 288 (by omega)) dX4_set_84 (fun H locs hP hD hS => ?_)
          rw [pk_cl (0 + s9)] at hP hD
          rw [show upd (zT T) (0 + s9) v = zT (setT T 10 s9 v) from (congrArg (fun k_ => upd (zT T) k_ v) (show 0 + s9 = s9 from by omega)).trans (zU_st (by omega))] at hP hD
          have hP : va_P D vwCl (refO r (nI 0) (nI (svN sn)) (nI ln) (nI pm) pn (nI sta) (nI ms) hs :: zC K r (setT T 10 s9 v) :: sC K r (savS sv sn T) :: bC K r cs :: pC K r pf :: fC K r fa :: Y) H := hP
          have hD : va_D A (refO r (nI 0) (nI (svN sn)) (nI ln) (nI pm) pn (nI sta) (nI ms) hs :: zC K r (setT T 10 s9 v) :: sC K r (savS sv sn T) :: bC K r cs :: pC K r pf :: fC K r fa :: Y) := hD
          refine lv_iload_n hx hb dX4_set_85 rfl (lv_at hl 0 rfl) ?_
          have ew : (refO r (nI 0) (nI (svN sn)) (nI ln) (nI pm) pn (nI sta) (nI ms) hs :: zC K r (setT T 10 s9 v) :: sC K r (savS sv sn T) :: bC K r cs :: pC K r pf :: fC K r fa :: Y) = (if seE (nI s9) v = 0 then refO r (nI 0) (nI (svN sn)) (nI ln) (nI pm) pn (nI sta) (nI ms) hs :: zC K r (setT T 10 (tn (nI s9)) v) :: sC K r (savS sv sn T) :: bC K r cs :: pC K r pf :: fC K r fa :: Y else refO r (nI (seE (nI s9) v)) (nI sn) (nI ln) (nI pm) pn (nI sta) (nI ms) hs :: zC K r T :: sC K r sv :: bC K r cs :: pC K r pf :: fC K r fa :: Y) := by have e9 : seE (nI s9) v = 0 := (by first | (simp [seE, stvR, c_1, t_s9, c_2, c_3, c_5, n_c_5]; done) | (subst_vars; simp [seE, stvR, c_1, t_s9, c_3, c_5, n_c_5])); rw [e9]; simp [ni0, bI_t, bI_f, nI_one, setT_eq, c_1, t_s9, c_2, c_3, c_5, n_c_5] <;> rfl
          rw [ew] at hP hD
          exact wr_iret hAe hP hD hS hx hb hr hk dX4_set_86 ⟨Nat.le_of_ble_eq_true rfl, Nat.le_of_ble_eq_true rfl⟩ (by have e9 : seE (nI s9) v = 0 := (by first | (simp [seE, stvR, c_1, t_s9, c_2, c_3, c_5, n_c_5]; done) | (subst_vars; simp [seE, stvR, c_1, t_s9, c_3, c_5, n_c_5])); rw [e9]; simp [ni0, bI_t, bI_f, nI_one, setT_eq, c_1, t_s9, c_2, c_3, c_5, n_c_5] <;> rfl)
        exact absurd c_5 (by decide)
    · refine lv_iload_n hx hb dX4_set_19 rfl (lv_at hl 2 rfl) ?_
      refine lv_iconst (v := nI 1) hx hb dX4_set_20 (by decide) ?_
      refine lv_iconst (v := nI 4) hx hb dX4_set_21 (by decide) ?_
      refine rd_S (rest := [.ref (r 0)]) ⟨hx, hb, hml, hown, hts⟩ hP hE (c_X4_in l D K _ v 1 4) (va_cwS 3 hts gX4_set_X4_in rfl rfl rfl hn_X4_in ⟨Nat.le_of_ble_eq_true rfl, Nat.le_of_ble_eq_true rfl⟩) rfl hl.1 rfl (Nat.le_of_ble_eq_true rfl) dX4_set_22 ⟨Nat.le_of_ble_eq_true rfl, Nat.le_of_ble_eq_true rfl⟩ ?_
      refine bv_if_eq (x := inR 1 4 v) (tgt := 32) hx hb dX4_set_25 (by decide) (fun c_7 => ?_) (fun c_7 => ?_)
      · refine lv_iconst (v := nI 2) hx hb dX4_set_32 (by decide) ?_
        refine lv_goto (tgt := 51) hx hb dX4_set_33 (by decide) ?_
        refine va_put (D := D) (ci := 4) (v := .int (nI 2)) (ty := .int) (C := RX4) (T := TX4) (N := 13) hx hb hts inX4 tyX4 tyX4_ok nmX4 hown hE.1 hP hD hS 0 rfl rfl 0 (by decide) F29 (fun _ h9 => h9) rfl (by decide +kernel) rfl rfl (Nat.le_of_ble_eq_true rfl) dX4_set_51 (fun H locs hP hD hS => ?_)
        have hP : va_P D vwCl (refO r (nI 2) (nI sn) (nI ln) (nI pm) pn (nI sta) (nI ms) hs :: zC K r T :: sC K r sv :: bC K r cs :: pC K r pf :: fC K r fa :: Y) H := hP
        have hD : va_D A (refO r (nI 2) (nI sn) (nI ln) (nI pm) pn (nI sta) (nI ms) hs :: zC K r T :: sC K r sv :: bC K r cs :: pC K r pf :: fC K r fa :: Y) := hD
        refine lv_aload_n hx hb dX4_set_54 rfl (lv_at hl 0 rfl) ?_
        refine va_get (D := D) (ci := 4) (v := .int (nI 2)) (C := RX4) (T := TX4) (N := 13) hx hb hts inX4 hown hE.1 hP 0 rfl rfl 0 (by decide) F29 (fun _ h9 => h9) rfl dX4_set_55 ?_
        refine nv_if_le (x := 2) (tgt := 63) hx hb dX4_set_58 (by decide) (by decide) (fun c_8 => ?_) (fun c_8 => ?_)
        · exact absurd c_8 (by decide)
        have n_c_8 : ¬ 2 = 0 := by omega
        refine lv_iconst (v := nI 0) hx hb dX4_set_61 (by decide) ?_
        have ew : (refO r (nI 2) (nI sn) (nI ln) (nI pm) pn (nI sta) (nI ms) hs :: zC K r T :: sC K r sv :: bC K r cs :: pC K r pf :: fC K r fa :: Y) = (if seE (nI s9) v = 0 then refO r (nI 0) (nI (svN sn)) (nI ln) (nI pm) pn (nI sta) (nI ms) hs :: zC K r (setT T 10 (tn (nI s9)) v) :: sC K r (savS sv sn T) :: bC K r cs :: pC K r pf :: fC K r fa :: Y else refO r (nI (seE (nI s9) v)) (nI sn) (nI ln) (nI pm) pn (nI sta) (nI ms) hs :: zC K r T :: sC K r sv :: bC K r cs :: pC K r pf :: fC K r fa :: Y) := by have e9 : seE (nI s9) v = 2 := (by first | (simp [seE, stvR, c_1, t_s9, c_2, c_7, c_8, n_c_8]; done) | (subst_vars; simp [seE, stvR, c_1, t_s9, c_7, c_8, n_c_8])); rw [e9]; simp [ni0, bI_t, bI_f, nI_one, setT_eq, c_1, t_s9, c_2, c_7, c_8, n_c_8] <;> rfl
        rw [ew] at hP hD
        exact wr_iret hAe hP hD hS hx hb hr hk dX4_set_62 ⟨Nat.le_of_ble_eq_true rfl, Nat.le_of_ble_eq_true rfl⟩ (by have e9 : seE (nI s9) v = 2 := (by first | (simp [seE, stvR, c_1, t_s9, c_2, c_7, c_8, n_c_8]; done) | (subst_vars; simp [seE, stvR, c_1, t_s9, c_7, c_8, n_c_8])); rw [e9]; simp [ni0, bI_t, bI_f, nI_one, setT_eq, c_1, t_s9, c_2, c_7, c_8, n_c_8] <;> rfl)
      · refine lv_iconst (v := nI 0) hx hb dX4_set_28 (by decide) ?_
        refine lv_goto (tgt := 51) hx hb dX4_set_29 (by decide) ?_
        refine va_put (D := D) (ci := 4) (v := .int (nI 0)) (ty := .int) (C := RX4) (T := TX4) (N := 13) hx hb hts inX4 tyX4 tyX4_ok nmX4 hown hE.1 hP hD hS 0 rfl rfl 0 (by decide) F29 (fun _ h9 => h9) rfl (by decide +kernel) rfl rfl (Nat.le_of_ble_eq_true rfl) dX4_set_51 (fun H locs hP hD hS => ?_)
        have hP : va_P D vwCl (refO r (nI 0) (nI sn) (nI ln) (nI pm) pn (nI sta) (nI ms) hs :: zC K r T :: sC K r sv :: bC K r cs :: pC K r pf :: fC K r fa :: Y) H := hP
        have hD : va_D A (refO r (nI 0) (nI sn) (nI ln) (nI pm) pn (nI sta) (nI ms) hs :: zC K r T :: sC K r sv :: bC K r cs :: pC K r pf :: fC K r fa :: Y) := hD
        refine lv_aload_n hx hb dX4_set_54 rfl (lv_at hl 0 rfl) ?_
        refine va_get (D := D) (ci := 4) (v := .int (nI 0)) (C := RX4) (T := TX4) (N := 13) hx hb hts inX4 hown hE.1 hP 0 rfl rfl 0 (by decide) F29 (fun _ h9 => h9) rfl dX4_set_55 ?_
        refine nv_if_le (x := 0) (tgt := 63) hx hb dX4_set_58 (by decide) (by decide) (fun c_9 => ?_) (fun c_9 => ?_)
        · have n_c_9 : ¬ 0 < 0 := by omega
          refine lv_aload_n hx hb dX4_set_63 rfl (lv_at hl 0 rfl) ?_
          refine wr_V (rest := []) (ci := 4) (q0 := 0) ⟨hx, hb, hml, hown, hts⟩ hP hE hA hD hS (c_X4_save l D K _ _ _ _ sn _ _ _ _ _ _ _ _ _ _ _ hsn) (cwV 0 hts gX4_set_X4_save rfl rfl rfl hd_X4_save ⟨Nat.le_of_ble_eq_true rfl, Nat.le_of_ble_eq_true rfl⟩) rfl rfl rfl rfl hl.1 rfl (Nat.le_of_ble_eq_true rfl) dX4_set_64 ⟨Nat.le_of_ble_eq_true rfl, Nat.le_of_ble_eq_true rfl⟩ (fun H locs hP hD hS => ?_)
          have hP : va_P D vwCl (refO r (nI 0) (nI (svN sn)) (nI ln) (nI pm) pn (nI sta) (nI ms) hs :: zC K r T :: sC K r (savS sv sn T) :: bC K r cs :: pC K r pf :: fC K r fa :: Y) H := hP
          have hD : va_D A (refO r (nI 0) (nI (svN sn)) (nI ln) (nI pm) pn (nI sta) (nI ms) hs :: zC K r T :: sC K r (savS sv sn T) :: bC K r cs :: pC K r pf :: fC K r fa :: Y) := hD
          refine lv_aload_n hx hb dX4_set_67 rfl (lv_at hl 0 rfl) ?_
          refine va_get (D := D) (ci := 4) (v := .ref (r 1)) (C := RX4) (T := TX4) (N := 13) hx hb hts inX4 hown hE.1 hP 0 rfl rfl 1 (by decide) F7 (fun _ h9 => h9) rfl dX4_set_68 ?_
          refine lv_iconst (v := nI 0) hx hb dX4_set_71 (by decide) ?_
          refine lv_iload_n hx hb dX4_set_72 rfl (lv_at hl 1 rfl) ?_
          refine nv_iadd (x := 0) (y := s9) hx hb dX4_set_73 ?_
          refine va_iald hx hb hE.1 hP 1 0 rfl rfl (pk_in (0 + s9) 288 (by omega)) dX4_set_74 ?_
          rw [pk_cl (0 + s9)]
          refine top_i (y := nI (stT T s9)) (((congrArg (zT T) (show 0 + s9 = s9 from by omega)).trans (zT_st (by omega))).trans (show T 10 s9 = nI (stT T s9) from eq_st hI (by omega))) ?_
          have hb_10 := st_lt hI (show s9 < 3 by omega)
          refine lv_istore_n (lv' := [(3, .int (nI (stT T s9))), (0, .ref (r 0)), (1, .int (nI s9)), (2, .int v)]) hx hb dX4_set_75 rfl hl (by decide) rfl (fun ls hl => ?_)
          refine lv_aload_n hx hb dX4_set_76 rfl (lv_at hl 1 rfl) ?_
          refine va_get (D := D) (ci := 4) (v := .ref (r 1)) (C := RX4) (T := TX4) (N := 13) hx hb hts inX4 hown hE.1 hP 0 rfl rfl 1 (by decide) F7 (fun _ h9 => h9) rfl dX4_set_77 ?_
          refine lv_iconst (v := nI 0) hx hb dX4_set_80 (by decide) ?_
          refine lv_iload_n hx hb dX4_set_81 rfl (lv_at hl 2 rfl) ?_
          refine nv_iadd (x := 0) (y := s9) hx hb dX4_set_82 ?_
          refine lv_iload_n hx hb dX4_set_83 rfl (lv_at hl 3 rfl) ?_
          refine va_iast hx hb hE.1 hP hD hS 1 0 rfl rfl (pk_in (0 + s9) 288 (by omega)) dX4_set_84 (fun H locs hP hD hS => ?_)
          rw [pk_cl (0 + s9)] at hP hD
          rw [show upd (zT T) (0 + s9) v = zT (setT T 10 s9 v) from (congrArg (fun k_ => upd (zT T) k_ v) (show 0 + s9 = s9 from by omega)).trans (zU_st (by omega))] at hP hD
          have hP : va_P D vwCl (refO r (nI 0) (nI (svN sn)) (nI ln) (nI pm) pn (nI sta) (nI ms) hs :: zC K r (setT T 10 s9 v) :: sC K r (savS sv sn T) :: bC K r cs :: pC K r pf :: fC K r fa :: Y) H := hP
          have hD : va_D A (refO r (nI 0) (nI (svN sn)) (nI ln) (nI pm) pn (nI sta) (nI ms) hs :: zC K r (setT T 10 s9 v) :: sC K r (savS sv sn T) :: bC K r cs :: pC K r pf :: fC K r fa :: Y) := hD
          refine lv_iload_n hx hb dX4_set_85 rfl (lv_at hl 0 rfl) ?_
          have ew : (refO r (nI 0) (nI (svN sn)) (nI ln) (nI pm) pn (nI sta) (nI ms) hs :: zC K r (setT T 10 s9 v) :: sC K r (savS sv sn T) :: bC K r cs :: pC K r pf :: fC K r fa :: Y) = (if seE (nI s9) v = 0 then refO r (nI 0) (nI (svN sn)) (nI ln) (nI pm) pn (nI sta) (nI ms) hs :: zC K r (setT T 10 (tn (nI s9)) v) :: sC K r (savS sv sn T) :: bC K r cs :: pC K r pf :: fC K r fa :: Y else refO r (nI (seE (nI s9) v)) (nI sn) (nI ln) (nI pm) pn (nI sta) (nI ms) hs :: zC K r T :: sC K r sv :: bC K r cs :: pC K r pf :: fC K r fa :: Y) := by have e9 : seE (nI s9) v = 0 := (by first | (simp [seE, stvR, c_1, t_s9, c_2, c_7, c_9, n_c_9]; done) | (subst_vars; simp [seE, stvR, c_1, t_s9, c_7, c_9, n_c_9])); rw [e9]; simp [ni0, bI_t, bI_f, nI_one, setT_eq, c_1, t_s9, c_2, c_7, c_9, n_c_9] <;> rfl
          rw [ew] at hP hD
          exact wr_iret hAe hP hD hS hx hb hr hk dX4_set_86 ⟨Nat.le_of_ble_eq_true rfl, Nat.le_of_ble_eq_true rfl⟩ (by have e9 : seE (nI s9) v = 0 := (by first | (simp [seE, stvR, c_1, t_s9, c_2, c_7, c_9, n_c_9]; done) | (subst_vars; simp [seE, stvR, c_1, t_s9, c_7, c_9, n_c_9])); rw [e9]; simp [ni0, bI_t, bI_f, nI_one, setT_eq, c_1, t_s9, c_2, c_7, c_9, n_c_9] <;> rfl)
        exact absurd c_9 (by decide)
  · refine lv_iconst (v := nI 1) hx hb dX4_set_10 (by decide) ?_
    refine lv_goto (tgt := 51) hx hb dX4_set_11 (by decide) ?_
    refine va_put (D := D) (ci := 4) (v := .int (nI 1)) (ty := .int) (C := RX4) (T := TX4) (N := 13) hx hb hts inX4 tyX4 tyX4_ok nmX4 hown hE.1 hP hD hS 0 rfl rfl 0 (by decide) F29 (fun _ h9 => h9) rfl (by decide +kernel) rfl rfl (Nat.le_of_ble_eq_true rfl) dX4_set_51 (fun H locs hP hD hS => ?_)
    have hP : va_P D vwCl (refO r (nI 1) (nI sn) (nI ln) (nI pm) pn (nI sta) (nI ms) hs :: zC K r T :: sC K r sv :: bC K r cs :: pC K r pf :: fC K r fa :: Y) H := hP
    have hD : va_D A (refO r (nI 1) (nI sn) (nI ln) (nI pm) pn (nI sta) (nI ms) hs :: zC K r T :: sC K r sv :: bC K r cs :: pC K r pf :: fC K r fa :: Y) := hD
    refine lv_aload_n hx hb dX4_set_54 rfl (lv_at hl 0 rfl) ?_
    refine va_get (D := D) (ci := 4) (v := .int (nI 1)) (C := RX4) (T := TX4) (N := 13) hx hb hts inX4 hown hE.1 hP 0 rfl rfl 0 (by decide) F29 (fun _ h9 => h9) rfl dX4_set_55 ?_
    refine nv_if_le (x := 1) (tgt := 63) hx hb dX4_set_58 (by decide) (by decide) (fun c_11 => ?_) (fun c_11 => ?_)
    · exact absurd c_11 (by decide)
    have n_c_11 : ¬ 1 = 0 := by omega
    refine lv_iconst (v := nI 0) hx hb dX4_set_61 (by decide) ?_
    have ew : (refO r (nI 1) (nI sn) (nI ln) (nI pm) pn (nI sta) (nI ms) hs :: zC K r T :: sC K r sv :: bC K r cs :: pC K r pf :: fC K r fa :: Y) = (if seE x v = 0 then refO r (nI 0) (nI (svN sn)) (nI ln) (nI pm) pn (nI sta) (nI ms) hs :: zC K r (setT T 10 (tn x) v) :: sC K r (savS sv sn T) :: bC K r cs :: pC K r pf :: fC K r fa :: Y else refO r (nI (seE x v)) (nI sn) (nI ln) (nI pm) pn (nI sta) (nI ms) hs :: zC K r T :: sC K r sv :: bC K r cs :: pC K r pf :: fC K r fa :: Y) := by have e9 : seE x v = 1 := (by first | (simp [seE, stvR, c_1, c_11, n_c_11]; done) | (subst_vars; simp [seE, stvR, c_1, c_11, n_c_11])); rw [e9]; simp [ni0, bI_t, bI_f, nI_one, setT_eq, c_1, c_11, n_c_11] <;> rfl
    rw [ew] at hP hD
    exact wr_iret hAe hP hD hS hx hb hr hk dX4_set_62 ⟨Nat.le_of_ble_eq_true rfl, Nat.le_of_ble_eq_true rfl⟩ (by have e9 : seE x v = 1 := (by first | (simp [seE, stvR, c_1, c_11, n_c_11]; done) | (subst_vars; simp [seE, stvR, c_1, c_11, n_c_11])); rw [e9]; simp [ni0, bI_t, bI_f, nI_one, setT_eq, c_1, c_11, n_c_11] <;> rfl)
