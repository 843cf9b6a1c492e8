theorem hd_X4_takeUp : yX4_takeUp.cls = RX4 ∧ yX4_takeUp.cls ≠ "java/lang/invoke/MethodHandle" ∧ yX4_takeUp.cls ≠ "java/lang/invoke/VarHandle" ∧ (parseMethodDescriptor yX4_takeUp.desc).map (fun d => d.parameters.length) = some 1 := by decide +kernel
theorem hn_X4_takeUp : yX4_takeUp.cls ≠ "java/lang/invoke/MethodHandle" ∧ yX4_takeUp.cls ≠ "java/lang/invoke/VarHandle" ∧ (parseMethodDescriptor yX4_takeUp.desc).map (fun d => d.parameters.length) = some 1 := hd_X4_takeUp.2
set_option maxHeartbeats 4000000 in
set_option maxRecDepth 100000 in
theorem c_X4_takeUp (l : Launch) (D : va_G) (K : Nat → ClassId) (sz : Nat) (r : Nat → Nat) (th pn : Int32) (sn ln pm sta ms : Nat) (hs : Int64) (T : TW) (sv : Nat → Int32) (cs : Nat → Nat) (pf : Nat → Int32) (fa : Nat → Nat) (Y : va_W) (x : Int32) (hI : Inv T) (hsn : sn ≤ 6) : Wr l yX4_takeUp wsX4_takeUp ({ frames := 3, cells := 0, slots := 0, locals := 57 } : Room) D K (refO r th (nI sn) (nI ln) (nI pm) pn (nI sta) (nI ms) hs :: zC K r T :: sC K r sv :: bC K r cs :: pC K r pf :: fC K r fa :: Y) sz [.ref (r 0), .int x] (if tuE x = 0 then refO r (nI 0) (nI (svN sn)) (nI ln) (nI pm) pn (nI sta) (nI ms) hs :: zC K r (tkT T (tn x)) :: sC K r (savS sv sn T) :: bC K r cs :: pC K r pf :: fC K r fa :: Y else refO r (nI (tuE x)) (nI sn) (nI ln) (nI pm) pn (nI sta) (nI ms) hs :: zC K r T :: sC K r sv :: bC K r cs :: pC K r pf :: fC K r fa :: Y) (some (.int (if tuE x = 0 then nI (tuC T (tn x) 80) else 0))) 0 0 := by
  refine wr_intro (cc := cX4_takeUp) (maxL := 4) (ret := (some .int)) (by decide) rfl (Nat.le_of_ble_eq_true rfl) ?_
  intro pr en st md ar bl mt co A hx hb hml hr hts hown hk hsz hAe hP hE hD hS hA hin ls hl
  have hown : st.vm.findClass RX4 = some md.cls := hown
  have hl : lv_has ls 4 [(0, .ref (r 0)), (1, .int x)] := hl
  obtain ⟨H, hH⟩ : ∃ z, z = st.heap := ⟨_, rfl⟩
  obtain ⟨locs, hlo⟩ : ∃ z : List Loc, z = [] := ⟨_, rfl⟩
  have hP : va_P D vwCl (refO r th (nI sn) (nI ln) (nI pm) pn (nI sta) (nI ms) hs :: zC K r T :: sC K r sv :: bC K r cs :: pC K r pf :: fC K r fa :: Y) H := by rw [hH]; exact hP
  have hS : va_S A st.heap H locs := by rw [hH, hlo]; exact hS
  suffices go : W pr l en (headSpec wsX4_takeUp ({ frames := 3, cells := 0, slots := 0, locals := 57 } : Room)).room st md ar bl mt co H locs 0 0 (MQ bl (wrQ D (refO r th (nI sn) (nI ln) (nI pm) pn (nI sta) (nI ms) hs :: zC K r T :: sC K r sv :: bC K r cs :: pC K r pf :: fC K r fa :: Y) (if tuE x = 0 then refO r (nI 0) (nI (svN sn)) (nI ln) (nI pm) pn (nI sta) (nI ms) hs :: zC K r (tkT T (tn x)) :: sC K r (savS sv sn T) :: bC K r cs :: pC K r pf :: fC K r fa :: Y else refO r (nI (tuE x)) (nI sn) (nI ln) (nI pm) pn (nI sta) (nI ms) hs :: zC K r T :: sC K r sv :: bC K r cs :: pC K r pf :: fC K r fa :: Y) sz (some (.int (if tuE x = 0 then nI (tuC T (tn x) 80) else 0)))) ar st 0 0 A) (F0 md 0 ls []) by rw [hH, hlo] at go; exact go
  clear hH hlo
  have F29 : (Cond.fieldLink RX4 29 "TramTollsModel" "thrown" "I").before ar st = true := hts _ (List.mem_of_getElem? (i := 1) rfl)
  have inX4 : ∀ w ∈ u_ws RX4 TX4 13, w ∈ wsX4_takeUp := fun w h => List.mem_cons_of_mem _ (List.mem_append_right _ h)
  have F7 : (Cond.fieldLink RX4 7 "TramTollsModel" "z" "[I").before ar st = true := hts _ (List.mem_of_getElem? (i := 2) rfl)
  refine lv_aload_n hx hb dX4_takeUp_0 rfl (lv_at hl 0 rfl) ?_
  refine lv_iload_n hx hb dX4_takeUp_1 rfl (lv_at hl 1 rfl) ?_
  refine rd_S (rest := [.ref (r 0)]) ⟨hx, hb, hml, hown, hts⟩ hP hE (c_X4_isPlayer l D K _ x) (va_cwS 1 hts gX4_takeUp_X4_isPlayer rfl rfl rfl hn_X4_isPlayer ⟨Nat.le_of_ble_eq_true rfl, Nat.le_of_ble_eq_true rfl⟩) rfl hl.1 rfl (Nat.le_of_ble_eq_true rfl) dX4_takeUp_2 ⟨Nat.le_of_ble_eq_true rfl, Nat.le_of_ble_eq_true rfl⟩ ?_
  refine bv_if_eq (x := inR 0 3 x) (tgt := 12) hx hb dX4_takeUp_5 (by decide) (fun c_1 => ?_) (fun c_1 => ?_)
  · refine lv_iconst (v := nI 1) hx hb dX4_takeUp_12 (by decide) ?_
    refine va_put (D := D) (ci := 4) (v := .int (nI 1)) (ty := .int) (C := RX4) (T := TX4) (N := 13) hx hb hts inX4 tyX4 tyX4_ok nmX4 hown hE.1 hP hD hS 0 rfl rfl 0 (by decide) F29 (fun _ h9 => h9) rfl (by decide +kernel) rfl rfl (Nat.le_of_ble_eq_true rfl) dX4_takeUp_13 (fun H locs hP hD hS => ?_)
    have hP : va_P D vwCl (refO r (nI 1) (nI sn) (nI ln) (nI pm) pn (nI sta) (nI ms) hs :: zC K r T :: sC K r sv :: bC K r cs :: pC K r pf :: fC K r fa :: Y) H := hP
    have hD : va_D A (refO r (nI 1) (nI sn) (nI ln) (nI pm) pn (nI sta) (nI ms) hs :: zC K r T :: sC K r sv :: bC K r cs :: pC K r pf :: fC K r fa :: Y) := hD
    refine lv_aload_n hx hb dX4_takeUp_16 rfl (lv_at hl 0 rfl) ?_
    refine va_get (D := D) (ci := 4) (v := .int (nI 1)) (C := RX4) (T := TX4) (N := 13) hx hb hts inX4 hown hE.1 hP 0 rfl rfl 0 (by decide) F29 (fun _ h9 => h9) rfl dX4_takeUp_17 ?_
    refine nv_if_le (x := 1) (tgt := 25) hx hb dX4_takeUp_20 (by decide) (by decide) (fun c_2 => ?_) (fun c_2 => ?_)
    · exact absurd c_2 (by decide)
    have n_c_2 : ¬ 1 = 0 := by omega
    refine lv_iconst (v := nI 0) hx hb dX4_takeUp_23 (by decide) ?_
    have ew : (refO r (nI 1) (nI sn) (nI ln) (nI pm) pn (nI sta) (nI ms) hs :: zC K r T :: sC K r sv :: bC K r cs :: pC K r pf :: fC K r fa :: Y) = (if tuE x = 0 then refO r (nI 0) (nI (svN sn)) (nI ln) (nI pm) pn (nI sta) (nI ms) hs :: zC K r (tkT T (tn x)) :: sC K r (savS sv sn T) :: bC K r cs :: pC K r pf :: fC K r fa :: Y else refO r (nI (tuE x)) (nI sn) (nI ln) (nI pm) pn (nI sta) (nI ms) hs :: zC K r T :: sC K r sv :: bC K r cs :: pC K r pf :: fC K r fa :: Y) := by have e9 : tuE x = 1 := (by first | (simp [tuE, c_1, c_2, n_c_2]; done) | (subst_vars; simp [tuE, c_1, c_2, n_c_2])); rw [e9]; simp [ni0, bI_t, bI_f, nI_one, setT_eq, c_1, c_2, n_c_2] <;> rfl
    rw [ew] at hP hD
    exact wr_iret hAe hP hD hS hx hb hr hk dX4_takeUp_24 ⟨Nat.le_of_ble_eq_true rfl, Nat.le_of_ble_eq_true rfl⟩ (by have e9 : tuE x = 1 := (by first | (simp [tuE, c_1, c_2, n_c_2]; done) | (subst_vars; simp [tuE, c_1, c_2, n_c_2])); rw [e9]; simp [ni0, bI_t, bI_f, nI_one, setT_eq, c_1, c_2, n_c_2] <;> rfl)
  · obtain ⟨s9, lo_s9, hi_s9, e_s9⟩ := inR_nL (a := 0) (b := 3) rfl rfl (by decide) (by decide) c_1
    subst e_s9
    have t_s9 := tn_nI (n := s9) (by omega)
    refine lv_iconst (v := nI 0) hx hb dX4_takeUp_8 (by decide) ?_
    refine lv_goto (tgt := 13) hx hb dX4_takeUp_9 (by decide) ?_
    refine va_put (D := D) (ci := 4) (v := .int (nI 0)) (ty := .int) (C := RX4) (T := TX4) (N := 13) hx hb hts inX4 tyX4 tyX4_ok nmX4 hown hE.1 hP hD hS 0 rfl rfl 0 (by decide) F29 (fun _ h9 => h9) rfl (by decide +kernel) rfl rfl (Nat.le_of_ble_eq_true rfl) dX4_takeUp_13 (fun H locs hP hD hS => ?_)
    have hP : va_P D vwCl (refO r (nI 0) (nI sn) (nI ln) (nI pm) pn (nI sta) (nI ms) hs :: zC K r T :: sC K r sv :: bC K r cs :: pC K r pf :: fC K r fa :: Y) H := hP
    have hD : va_D A (refO r (nI 0) (nI sn) (nI ln) (nI pm) pn (nI sta) (nI ms) hs :: zC K r T :: sC K r sv :: bC K r cs :: pC K r pf :: fC K r fa :: Y) := hD
    refine lv_aload_n hx hb dX4_takeUp_16 rfl (lv_at hl 0 rfl) ?_
    refine va_get (D := D) (ci := 4) (v := .int (nI 0)) (C := RX4) (T := TX4) (N := 13) hx hb hts inX4 hown hE.1 hP 0 rfl rfl 0 (by decide) F29 (fun _ h9 => h9) rfl dX4_takeUp_17 ?_
    refine nv_if_le (x := 0) (tgt := 25) hx hb dX4_takeUp_20 (by decide) (by decide) (fun c_3 => ?_) (fun c_3 => ?_)
    · have n_c_3 : ¬ 0 < 0 := by omega
      refine lv_aload_n hx hb dX4_takeUp_25 rfl (lv_at hl 0 rfl) ?_
      refine wr_V (rest := []) (ci := 4) (q0 := 0) ⟨hx, hb, hml, hown, hts⟩ hP hE hA hD hS (c_X4_save l D K _ _ _ _ sn _ _ _ _ _ _ _ _ _ _ _ hsn) (cwV 0 hts gX4_takeUp_X4_save rfl rfl rfl hd_X4_save ⟨Nat.le_of_ble_eq_true rfl, Nat.le_of_ble_eq_true rfl⟩) rfl rfl rfl rfl hl.1 rfl (Nat.le_of_ble_eq_true rfl) dX4_takeUp_26 ⟨Nat.le_of_ble_eq_true rfl, Nat.le_of_ble_eq_true rfl⟩ (fun H locs hP hD hS => ?_)
      have hP : va_P D vwCl (refO r (nI 0) (nI (svN sn)) (nI ln) (nI pm) pn (nI sta) (nI ms) hs :: zC K r T :: sC K r (savS sv sn T) :: bC K r cs :: pC K r pf :: fC K r fa :: Y) H := hP
      have hD : va_D A (refO r (nI 0) (nI (svN sn)) (nI ln) (nI pm) pn (nI sta) (nI ms) hs :: zC K r T :: sC K r (savS sv sn T) :: bC K r cs :: pC K r pf :: fC K r fa :: Y) := hD
      refine lv_iconst (v := nI 0) hx hb dX4_takeUp_29 (by decide) ?_
      refine lv_istore_n (lv' := [(2, .int (nI 0)), (0, .ref (r 0)), (1, .int (nI s9))]) hx hb dX4_takeUp_30 rfl hl (by decide) rfl (fun ls hl => ?_)
      refine lv_iconst (v := nI 0) hx hb dX4_takeUp_31 (by decide) ?_
      refine lv_istore_n (lv' := [(3, .int (nI 0)), (2, .int (nI 0)), (0, .ref (r 0)), (1, .int (nI s9))]) hx hb dX4_takeUp_32 rfl hl (by decide) rfl (fun ls hl => ?_)
      have loop_4 : ∀ (n_33 : Nat) (i : Nat), (i ≤ 80) → (80 - i) < n_33 → ∀ (H : Heap) (locs : List Loc), va_P D vwCl (refO r (nI 0) (nI (svN sn)) (nI ln) (nI pm) pn (nI sta) (nI ms) hs :: zC K r (tuR T s9 i) :: sC K r (savS sv sn T) :: bC K r cs :: pC K r pf :: fC K r fa :: Y) H → va_D A (refO r (nI 0) (nI (svN sn)) (nI ln) (nI pm) pn (nI sta) (nI ms) hs :: zC K r (tuR T s9 i) :: sC K r (savS sv sn T) :: bC K r cs :: pC K r pf :: fC K r fa :: Y) → va_S A st.heap H locs →  ∀ x_2 : Int32, x_2 = nI (tuC T s9 i) → ∀ x_3 : Int32, x_3 = nI i → ∀ ls : Array Slot, lv_has ls 4 [(0, .ref (r 0)), (1, .int (nI s9)), (2, .int x_2), (3, .int x_3)] → W pr l en (headSpec wsX4_takeUp ({ frames := 3, cells := 0, slots := 0, locals := 57 } : Room)).room st md ar bl mt co H locs 0 0 (MQ bl (wrQ D (refO r th (nI sn) (nI ln) (nI pm) pn (nI sta) (nI ms) hs :: zC K r T :: sC K r sv :: bC K r cs :: pC K r pf :: fC K r fa :: Y) (if tuE (nI s9) = 0 then refO r (nI 0) (nI (svN sn)) (nI ln) (nI pm) pn (nI sta) (nI ms) hs :: zC K r (tkT T (tn (nI s9))) :: sC K r (savS sv sn T) :: bC K r cs :: pC K r pf :: fC K r fa :: Y else refO r (nI (tuE (nI s9))) (nI sn) (nI ln) (nI pm) pn (nI sta) (nI ms) hs :: zC K r T :: sC K r sv :: bC K r cs :: pC K r pf :: fC K r fa :: Y) sz (some (.int (if tuE (nI s9) = 0 then nI (tuC T (tn (nI s9)) 80) else 0)))) ar st 0 0 A) (F0 md 33 ls []) := by
        intro n_33
        induction n_33 with
        | zero => intro i _ hn_33; exact absurd hn_33 (Nat.not_lt_zero _)
        | succ n_33 ih_33 =>
          intro i hi hn_33 H locs hP hD hS x_2 ex_2 x_3 ex_3 ls hl
          subst ex_2
          subst ex_3
          have hl : lv_has ls 4 [(0, .ref (r 0)), (1, .int (nI s9)), (2, .int (nI (tuC T s9 i))), (3, .int (nI i))] := hl
          have hIi := tuR_inv (p := s9) hI (by omega) i hi
          have htc := tuC_le T s9 i
          refine lv_iload_n hx hb dX4_takeUp_33 rfl (lv_at hl 3 rfl) ?_
          refine lv_bipush (v := nI 80) hx hb dX4_takeUp_34 (by decide) ?_
          refine nv_icmp_ge (x := i) (y := 80) (tgt := 124) hx hb dX4_takeUp_36 (by decide) (by omega) (by decide) (fun c_5 => ?_) (fun c_5 => ?_)
          · have n_c_5 := Nat.not_lt.mpr c_5
            have e80 : i = 80 := by omega
            refine lv_aload_n hx hb dX4_takeUp_124 rfl (lv_at hl 0 rfl) ?_
            refine va_get (D := D) (ci := 4) (v := .ref (r 1)) (C := RX4) (T := TX4) (N := 13) hx hb hts inX4 hown hE.1 hP 0 rfl rfl 1 (by decide) F7 (fun _ h9 => h9) rfl dX4_takeUp_125 ?_
            refine lv_sipush (v := nI 268) hx hb dX4_takeUp_128 (by decide) ?_
            refine lv_iconst (v := nI 5) hx hb dX4_takeUp_131 (by decide) ?_
            refine lv_iload_n hx hb dX4_takeUp_132 rfl (lv_at hl 1 rfl) ?_
            refine nv_imul (x := 5) (y := s9) hx hb dX4_takeUp_133 ?_
            refine nv_iadd (x := 268) (y := 5 * s9) hx hb dX4_takeUp_134 ?_
            refine lv_iconst (v := nI 1) hx hb dX4_takeUp_135 (by decide) ?_
            refine nv_iadd (x := 268 + (5 * s9)) (y := 1) hx hb dX4_takeUp_136 ?_
            refine lv_iload_n hx hb dX4_takeUp_137 rfl (lv_at hl 1 rfl) ?_
            refine rd_S (rest := [.int (nI ((268 + (5 * s9)) + 1)), .ref (r 1)]) ⟨hx, hb, hml, hown, hts⟩ hP hE (c_X4_depot l D K _ s9 (by omega)) (va_cwS 1 hts gX4_takeUp_X4_depot rfl rfl rfl hn_X4_depot ⟨Nat.le_of_ble_eq_true rfl, Nat.le_of_ble_eq_true rfl⟩) rfl hl.1 rfl (Nat.le_of_ble_eq_true rfl) dX4_takeUp_138 ⟨Nat.le_of_ble_eq_true rfl, Nat.le_of_ble_eq_true rfl⟩ ?_
            have hb_6 := dep_lt s9
            refine va_iast hx hb hE.1 hP hD hS 1 0 rfl rfl (pk_in ((268 + (5 * s9)) + 1) 288 (by omega)) dX4_takeUp_141 (fun H locs hP hD hS => ?_)
            rw [pk_cl ((268 + (5 * s9)) + 1)] at hP hD
            rw [show upd (zT (tuR T s9 i)) ((268 + (5 * s9)) + 1) (nI (dep s9)) = zT (setT (tuR T s9 i) 6 s9 (nI (dep s9))) from (congrArg (fun k_ => upd (zT (tuR T s9 i)) k_ (nI (dep s9))) (show (268 + (5 * s9)) + 1 = 268 + 5 * s9 + 1 from by omega)).trans (zU_pp (w := 1) (by omega) (by decide))] at hP hD
            have hP : va_P D vwCl (refO r (nI 0) (nI (svN sn)) (nI ln) (nI pm) pn (nI sta) (nI ms) hs :: zC K r (setT (tuR T s9 i) 6 s9 (nI (dep s9))) :: sC K r (savS sv sn T) :: bC K r cs :: pC K r pf :: fC K r fa :: Y) H := hP
            have hD : va_D A (refO r (nI 0) (nI (svN sn)) (nI ln) (nI pm) pn (nI sta) (nI ms) hs :: zC K r (setT (tuR T s9 i) 6 s9 (nI (dep s9))) :: sC K r (savS sv sn T) :: bC K r cs :: pC K r pf :: fC K r fa :: Y) := hD
            refine lv_aload_n hx hb dX4_takeUp_142 rfl (lv_at hl 0 rfl) ?_
            refine va_get (D := D) (ci := 4) (v := .ref (r 1)) (C := RX4) (T := TX4) (N := 13) hx hb hts inX4 hown hE.1 hP 0 rfl rfl 1 (by decide) F7 (fun _ h9 => h9) rfl dX4_takeUp_143 ?_
            refine lv_sipush (v := nI 268) hx hb dX4_takeUp_146 (by decide) ?_
            refine lv_iconst (v := nI 5) hx hb dX4_takeUp_149 (by decide) ?_
            refine lv_iload_n hx hb dX4_takeUp_150 rfl (lv_at hl 1 rfl) ?_
            refine nv_imul (x := 5) (y := s9) hx hb dX4_takeUp_151 ?_
            refine nv_iadd (x := 268) (y := 5 * s9) hx hb dX4_takeUp_152 ?_
            refine lv_iconst (v := nI 2) hx hb dX4_takeUp_153 (by decide) ?_
            refine nv_iadd (x := 268 + (5 * s9)) (y := 2) hx hb dX4_takeUp_154 ?_
            refine lv_iconst (v := -1) hx hb dX4_takeUp_155 (by decide) ?_
            refine va_iast hx hb hE.1 hP hD hS 1 0 rfl rfl (pk_in ((268 + (5 * s9)) + 2) 288 (by omega)) dX4_takeUp_156 (fun H locs hP hD hS => ?_)
            rw [pk_cl ((268 + (5 * s9)) + 2)] at hP hD
            rw [show upd (zT (setT (tuR T s9 i) 6 s9 (nI (dep s9)))) ((268 + (5 * s9)) + 2) (-1) = zT (setT (setT (tuR T s9 i) 6 s9 (nI (dep s9))) 7 s9 (-1)) from (congrArg (fun k_ => upd (zT (setT (tuR T s9 i) 6 s9 (nI (dep s9)))) k_ (-1)) (show (268 + (5 * s9)) + 2 = 268 + 5 * s9 + 2 from by omega)).trans (zU_pp (w := 2) (by omega) (by decide))] at hP hD
            have hP : va_P D vwCl (refO r (nI 0) (nI (svN sn)) (nI ln) (nI pm) pn (nI sta) (nI ms) hs :: zC K r (setT (setT (tuR T s9 i) 6 s9 (nI (dep s9))) 7 s9 (-1)) :: sC K r (savS sv sn T) :: bC K r cs :: pC K r pf :: fC K r fa :: Y) H := hP
            have hD : va_D A (refO r (nI 0) (nI (svN sn)) (nI ln) (nI pm) pn (nI sta) (nI ms) hs :: zC K r (setT (setT (tuR T s9 i) 6 s9 (nI (dep s9))) 7 s9 (-1)) :: sC K r (savS sv sn T) :: bC K r cs :: pC K r pf :: fC K r fa :: Y) := hD
            refine lv_iload_n hx hb dX4_takeUp_157 rfl (lv_at hl 2 rfl) ?_
            have ew : (refO r (nI 0) (nI (svN sn)) (nI ln) (nI pm) pn (nI sta) (nI ms) hs :: zC K r (setT (setT (tuR T s9 i) 6 s9 (nI (dep s9))) 7 s9 (-1)) :: sC K r (savS sv sn T) :: bC K r cs :: pC K r pf :: fC K r fa :: Y) = (if tuE (nI s9) = 0 then refO r (nI 0) (nI (svN sn)) (nI ln) (nI pm) pn (nI sta) (nI ms) hs :: zC K r (tkT T (tn (nI s9))) :: sC K r (savS sv sn T) :: bC K r cs :: pC K r pf :: fC K r fa :: Y else refO r (nI (tuE (nI s9))) (nI sn) (nI ln) (nI pm) pn (nI sta) (nI ms) hs :: zC K r T :: sC K r sv :: bC K r cs :: pC K r pf :: fC K r fa :: Y) := by have e9 : tuE (nI s9) = 0 := (by first | (simp [tuE, c_1, t_s9, c_3, n_c_3, c_5, n_c_5, e80, tkT]; done) | (subst_vars; simp [tuE, c_1, t_s9, c_3, n_c_3, c_5, n_c_5, e80, tkT])); rw [e9]; simp [ni0, bI_t, bI_f, nI_one, setT_eq, c_1, t_s9, c_3, n_c_3, c_5, n_c_5, e80, tkT] <;> rfl
            rw [ew] at hP hD
            exact wr_iret hAe hP hD hS hx hb hr hk dX4_takeUp_158 ⟨Nat.le_of_ble_eq_true rfl, Nat.le_of_ble_eq_true rfl⟩ (by have e9 : tuE (nI s9) = 0 := (by first | (simp [tuE, c_1, t_s9, c_3, n_c_3, c_5, n_c_5, e80, tkT]; done) | (subst_vars; simp [tuE, c_1, t_s9, c_3, n_c_3, c_5, n_c_5, e80, tkT])); rw [e9]; simp [ni0, bI_t, bI_f, nI_one, setT_eq, c_1, t_s9, c_3, n_c_3, c_5, n_c_5, e80, tkT] <;> rfl)
          · have n_c_5 := Nat.not_le.mpr c_5
            refine lv_aload_n hx hb dX4_takeUp_39 rfl (lv_at hl 0 rfl) ?_
            refine lv_iload_n hx hb dX4_takeUp_40 rfl (lv_at hl 1 rfl) ?_
            refine lv_iload_n hx hb dX4_takeUp_41 rfl (lv_at hl 3 rfl) ?_
            refine rd_V (rest := []) (ci := 4) (q0 := 0) ⟨hx, hb, hml, hown, hts⟩ hP hE (c_X4_hasTrack l D K _ _ _ _ _ _ _ _ _ _ _ s9 i hIi (by omega) (by omega)) (cwV 2 hts gX4_takeUp_X4_hasTrack rfl rfl rfl hd_X4_hasTrack ⟨Nat.le_of_ble_eq_true rfl, Nat.le_of_ble_eq_true rfl⟩) rfl rfl rfl rfl hl.1 rfl (Nat.le_of_ble_eq_true rfl) dX4_takeUp_42 ⟨Nat.le_of_ble_eq_true rfl, Nat.le_of_ble_eq_true rfl⟩ ?_
            refine bv_if_eq (x := hasT (tuR T s9 i) s9 i) (tgt := 118) hx hb dX4_takeUp_45 (by decide) (fun c_7 => ?_) (fun c_7 => ?_)
            · refine lv_iinc (v := nI (i + 1)) (lv' := [(3, .int (nI (i + 1))), (0, .ref (r 0)), (1, .int (nI s9)), (2, .int (nI (tuC T s9 i)))]) hx hb dX4_takeUp_118 hl (k := 3) rfl (nI_add _ 1) (by decide) rfl (fun ls hl => ?_)
              refine lv_goto (tgt := 33) hx hb dX4_takeUp_121 (by decide) ?_
              have hP : va_P D vwCl (refO r (nI 0) (nI (svN sn)) (nI ln) (nI pm) pn (nI sta) (nI ms) hs :: zC K r (tuR T s9 (i + 1)) :: sC K r (savS sv sn T) :: bC K r cs :: pC K r pf :: fC K r fa :: Y) H := by rw [tuR_no (fun q9 => by first | exact q9.2 (by assumption) | (have q8 := q9.1; rw [c_7] at q8; cases q8))]; exact hP
              have hD : va_D A (refO r (nI 0) (nI (svN sn)) (nI ln) (nI pm) pn (nI sta) (nI ms) hs :: zC K r (tuR T s9 (i + 1)) :: sC K r (savS sv sn T) :: bC K r cs :: pC K r pf :: fC K r fa :: Y) := by rw [tuR_no (fun q9 => by first | exact q9.2 (by assumption) | (have q8 := q9.1; rw [c_7] at q8; cases q8))]; exact hD
              exact ih_33 (i + 1) (by omega) (by omega) _ _ hP hD hS _ (by rw [tuC_no (fun q9 => by first | exact q9.2 (by assumption) | (have q8 := q9.1; rw [c_7] at q8; cases q8))]) _ rfl ls (lv_sub hl [1, 2, 3, 0] rfl)
            · refine lv_iload_n hx hb dX4_takeUp_48 rfl (lv_at hl 3 rfl) ?_
              refine lv_iload_n hx hb dX4_takeUp_49 rfl (lv_at hl 1 rfl) ?_
              refine rd_S (rest := [.int (nI i)]) ⟨hx, hb, hml, hown, hts⟩ hP hE (c_X4_depot l D K _ s9 (by omega)) (va_cwS 1 hts gX4_takeUp_X4_depot rfl rfl rfl hn_X4_depot ⟨Nat.le_of_ble_eq_true rfl, Nat.le_of_ble_eq_true rfl⟩) rfl hl.1 rfl (Nat.le_of_ble_eq_true rfl) dX4_takeUp_50 ⟨Nat.le_of_ble_eq_true rfl, Nat.le_of_ble_eq_true rfl⟩ ?_
              have hb_8 := dep_lt s9
              refine nv_icmp_eq (x := i) (y := dep s9) (tgt := 118) hx hb dX4_takeUp_53 (by decide) (by omega) (by omega) (fun c_9 => ?_) (fun c_9 => ?_)
              · refine lv_iinc (v := nI (i + 1)) (lv' := [(3, .int (nI (i + 1))), (0, .ref (r 0)), (1, .int (nI s9)), (2, .int (nI (tuC T s9 i)))]) hx hb dX4_takeUp_118 hl (k := 3) rfl (nI_add _ 1) (by decide) rfl (fun ls hl => ?_)
                refine lv_goto (tgt := 33) hx hb dX4_takeUp_121 (by decide) ?_
                have hP : va_P D vwCl (refO r (nI 0) (nI (svN sn)) (nI ln) (nI pm) pn (nI sta) (nI ms) hs :: zC K r (tuR T s9 (i + 1)) :: sC K r (savS sv sn T) :: bC K r cs :: pC K r pf :: fC K r fa :: Y) H := by rw [tuR_no (fun q9 => by first | exact q9.2 (by assumption) | (have q8 := q9.1; rw [c_9] at q8; cases q8))]; exact hP
                have hD : va_D A (refO r (nI 0) (nI (svN sn)) (nI ln) (nI pm) pn (nI sta) (nI ms) hs :: zC K r (tuR T s9 (i + 1)) :: sC K r (savS sv sn T) :: bC K r cs :: pC K r pf :: fC K r fa :: Y) := by rw [tuR_no (fun q9 => by first | exact q9.2 (by assumption) | (have q8 := q9.1; rw [c_9] at q8; cases q8))]; exact hD
                exact ih_33 (i + 1) (by omega) (by omega) _ _ hP hD hS _ (by rw [tuC_no (fun q9 => by first | exact q9.2 (by assumption) | (have q8 := q9.1; rw [c_9] at q8; cases q8))]) _ rfl ls (lv_sub hl [1, 2, 3, 0] rfl)
              · refine lv_iinc (v := nI (tuC T s9 i + 1)) (lv' := [(2, .int (nI (tuC T s9 i + 1))), (0, .ref (r 0)), (1, .int (nI s9)), (3, .int (nI i))]) hx hb dX4_takeUp_56 hl (k := 2) rfl (nI_add _ 1) (by decide) rfl (fun ls hl => ?_)
                refine lv_aload_n hx hb dX4_takeUp_59 rfl (lv_at hl 1 rfl) ?_
                refine va_get (D := D) (ci := 4) (v := .ref (r 1)) (C := RX4) (T := TX4) (N := 13) hx hb hts inX4 hown hE.1 hP 0 rfl rfl 1 (by decide) F7 (fun _ h9 => h9) rfl dX4_takeUp_60 ?_
                refine lv_bipush (v := nI 84) hx hb dX4_takeUp_63 (by decide) ?_
                refine lv_iload_n hx hb dX4_takeUp_65 rfl (lv_at hl 3 rfl) ?_
                refine nv_iadd (x := 84) (y := i) hx hb dX4_takeUp_66 ?_
                refine lv_dup2_11 hx hb dX4_takeUp_67 rfl rfl ?_
                refine va_iald hx hb hE.1 hP 1 0 rfl rfl (pk_in (84 + i) 288 (by omega)) dX4_takeUp_68 ?_
                rw [pk_cl (84 + i)]
                refine top_i (y := nI (mkT (tuR T s9 i) i)) (((congrArg (zT (tuR T s9 i)) (show 84 + i = 84 + i from by omega)).trans (zT_mk (by omega))).trans (show (tuR T s9 i) 1 i = nI (mkT (tuR T s9 i) i) from eq_mk hIi (by omega))) ?_
                have hb_10 := mk_lt hIi (show i < 80 by omega)
                refine lv_iconst (v := nI 1) hx hb dX4_takeUp_69 (by decide) ?_
                refine lv_iload_n hx hb dX4_takeUp_70 rfl (lv_at hl 2 rfl) ?_
                refine nv_ishl1 (y := s9) hx hb dX4_takeUp_71 (by omega) ?_
                refine lv_iconst (v := -1) hx hb dX4_takeUp_72 (by decide) ?_
                refine lv_ixor (x := nI (2 ^ s9)) (y := -1) hx hb dX4_takeUp_73 ?_
                refine lv_iand (x := nI (mkT (tuR T s9 i) i)) (y := (nI (2 ^ s9)) ^^^ (-1)) hx hb dX4_takeUp_74 ?_
                refine top_i (y := nI (clr (mkT (tuR T s9 i) i) s9)) (clr_eq (by omega) (by omega)) ?_
                have hcl := clr_le (mkT (tuR T s9 i) i) s9
                refine va_iast hx hb hE.1 hP hD hS 1 0 rfl rfl (pk_in (84 + i) 288 (by omega)) dX4_takeUp_75 (fun H locs hP hD hS => ?_)
                rw [pk_cl (84 + i)] at hP hD
                rw [show upd (zT (tuR T s9 i)) (84 + i) (nI (clr (mkT (tuR T s9 i) i) s9)) = zT (clT (tuR T s9 i) s9 i) from zU_mk (by omega)] at hP hD
                have hP : va_P D vwCl (refO r (nI 0) (nI (svN sn)) (nI ln) (nI pm) pn (nI sta) (nI ms) hs :: zC K r (clT (tuR T s9 i) s9 i) :: sC K r (savS sv sn T) :: bC K r cs :: pC K r pf :: fC K r fa :: Y) H := hP
                have hD : va_D A (refO r (nI 0) (nI (svN sn)) (nI ln) (nI pm) pn (nI sta) (nI ms) hs :: zC K r (clT (tuR T s9 i) s9 i) :: sC K r (savS sv sn T) :: bC K r cs :: pC K r pf :: fC K r fa :: Y) := hD
                refine lv_aload_n hx hb dX4_takeUp_76 rfl (lv_at hl 1 rfl) ?_
                refine va_get (D := D) (ci := 4) (v := .ref (r 1)) (C := RX4) (T := TX4) (N := 13) hx hb hts inX4 hown hE.1 hP 0 rfl rfl 1 (by decide) F7 (fun _ h9 => h9) rfl dX4_takeUp_77 ?_
                refine lv_sipush (v := nI 164) hx hb dX4_takeUp_80 (by decide) ?_
                refine lv_iload_n hx hb dX4_takeUp_83 rfl (lv_at hl 3 rfl) ?_
                refine nv_iadd (x := 164) (y := i) hx hb dX4_takeUp_84 ?_
                refine lv_aload_n hx hb dX4_takeUp_85 rfl (lv_at hl 1 rfl) ?_
                refine va_get (D := D) (ci := 4) (v := .ref (r 1)) (C := RX4) (T := TX4) (N := 13) hx hb hts inX4 hown hE.1 hP 0 rfl rfl 1 (by decide) F7 (fun _ h9 => h9) rfl dX4_takeUp_86 ?_
                refine lv_sipush (v := nI 164) hx hb dX4_takeUp_89 (by decide) ?_
                refine lv_iload_n hx hb dX4_takeUp_92 rfl (lv_at hl 3 rfl) ?_
                refine nv_iadd (x := 164) (y := i) hx hb dX4_takeUp_93 ?_
                refine va_iald hx hb hE.1 hP 1 0 rfl rfl (pk_in (164 + i) 288 (by omega)) dX4_takeUp_94 ?_
                rw [pk_cl (164 + i)]
                refine top_i (y := oI (owT (tuR T s9 i) i)) (((congrArg (zT (clT (tuR T s9 i) s9 i)) (show 164 + i = 164 + i from by omega)).trans (zT_ow (by omega))).trans (show (tuR T s9 i) 2 i = oI (owT (tuR T s9 i) i) from eq_ow hIi (by omega))) ?_
                refine lv_iload_n hx hb dX4_takeUp_95 rfl (lv_at hl 2 rfl) ?_
                refine oo_icmp_ne (x := owT (tuR T s9 i) i) (y := some s9) (tgt := 107) hx hb dX4_takeUp_96 (by decide) (lt31 (ow_lt hIi (s := i) (by omega)) (by decide)) (fun k q => by cases q; exact (by omega)) (fun c_11 => ?_) (fun c_11 => ?_)
                · refine lv_aload_n hx hb dX4_takeUp_107 rfl (lv_at hl 1 rfl) ?_
                  refine va_get (D := D) (ci := 4) (v := .ref (r 1)) (C := RX4) (T := TX4) (N := 13) hx hb hts inX4 hown hE.1 hP 0 rfl rfl 1 (by decide) F7 (fun _ h9 => h9) rfl dX4_takeUp_108 ?_
                  refine lv_sipush (v := nI 164) hx hb dX4_takeUp_111 (by decide) ?_
                  refine lv_iload_n hx hb dX4_takeUp_114 rfl (lv_at hl 3 rfl) ?_
                  refine nv_iadd (x := 164) (y := i) hx hb dX4_takeUp_115 ?_
                  refine va_iald hx hb hE.1 hP 1 0 rfl rfl (pk_in (164 + i) 288 (by omega)) dX4_takeUp_116 ?_
                  rw [pk_cl (164 + i)]
                  refine top_i (y := oI (owT (tuR T s9 i) i)) (((congrArg (zT (clT (tuR T s9 i) s9 i)) (show 164 + i = 164 + i from by omega)).trans (zT_ow (by omega))).trans (show (tuR T s9 i) 2 i = oI (owT (tuR T s9 i) i) from eq_ow hIi (by omega))) ?_
                  refine va_iast hx hb hE.1 hP hD hS 1 0 rfl rfl (pk_in (164 + i) 288 (by omega)) dX4_takeUp_117 (fun H locs hP hD hS => ?_)
                  rw [pk_cl (164 + i)] at hP hD
                  rw [show upd (zT (clT (tuR T s9 i) s9 i)) (164 + i) (oI (owT (tuR T s9 i) i)) = zT (rmT (tuR T s9 i) s9 i) from (zU_ow (by omega)).trans (congrArg zT (rm_no c_11 (eq_ow hIi (by omega)).symm))] at hP hD
                  have hP : va_P D vwCl (refO r (nI 0) (nI (svN sn)) (nI ln) (nI pm) pn (nI sta) (nI ms) hs :: zC K r (rmT (tuR T s9 i) s9 i) :: sC K r (savS sv sn T) :: bC K r cs :: pC K r pf :: fC K r fa :: Y) H := hP
                  have hD : va_D A (refO r (nI 0) (nI (svN sn)) (nI ln) (nI pm) pn (nI sta) (nI ms) hs :: zC K r (rmT (tuR T s9 i) s9 i) :: sC K r (savS sv sn T) :: bC K r cs :: pC K r pf :: fC K r fa :: Y) := hD
                  refine lv_iinc (v := nI (i + 1)) (lv' := [(3, .int (nI (i + 1))), (2, .int (nI (tuC T s9 i + 1))), (0, .ref (r 0)), (1, .int (nI s9))]) hx hb dX4_takeUp_118 hl (k := 3) rfl (nI_add _ 1) (by decide) rfl (fun ls hl => ?_)
                  refine lv_goto (tgt := 33) hx hb dX4_takeUp_121 (by decide) ?_
                  have hP : va_P D vwCl (refO r (nI 0) (nI (svN sn)) (nI ln) (nI pm) pn (nI sta) (nI ms) hs :: zC K r (tuR T s9 (i + 1)) :: sC K r (savS sv sn T) :: bC K r cs :: pC K r pf :: fC K r fa :: Y) H := by rw [tuR_yes c_7 c_9]; exact hP
                  have hD : va_D A (refO r (nI 0) (nI (svN sn)) (nI ln) (nI pm) pn (nI sta) (nI ms) hs :: zC K r (tuR T s9 (i + 1)) :: sC K r (savS sv sn T) :: bC K r cs :: pC K r pf :: fC K r fa :: Y) := by rw [tuR_yes c_7 c_9]; exact hD
                  exact ih_33 (i + 1) (by omega) (by omega) _ _ hP hD hS _ (by rw [tuC_yes c_7 c_9]) _ rfl ls (lv_sub hl [2, 3, 1, 0] rfl)
                · refine lv_aload_n hx hb dX4_takeUp_99 rfl (lv_at hl 1 rfl) ?_
                  refine lv_iload_n hx hb dX4_takeUp_100 rfl (lv_at hl 3 rfl) ?_
                  have hIc := hIi.cl (p := s9) (s := i) (by omega) (by omega) (by assumption)
                  refine rd_V (rest := [.int (nI (164 + i)), .ref (r 1)]) (ci := 4) (q0 := 0) ⟨hx, hb, hml, hown, hts⟩ hP hE (c_X4_lowestOn l D K _ _ _ _ _ _ _ _ _ _ _ i hIc (by omega)) (cwV 1 hts gX4_takeUp_X4_lowestOn rfl rfl rfl hd_X4_lowestOn ⟨Nat.le_of_ble_eq_true rfl, Nat.le_of_ble_eq_true rfl⟩) rfl rfl rfl rfl hl.1 rfl (Nat.le_of_ble_eq_true rfl) dX4_takeUp_101 ⟨Nat.le_of_ble_eq_true rfl, Nat.le_of_ble_eq_true rfl⟩ ?_
                  refine top_i (y := oI (lowm (clr (mkT (tuR T s9 i) i) s9))) (congrArg oI (low_cl (mk_lt hIi (by omega)))) ?_
                  refine lv_goto (tgt := 117) hx hb dX4_takeUp_104 (by decide) ?_
                  refine va_iast hx hb hE.1 hP hD hS 1 0 rfl rfl (pk_in (164 + i) 288 (by omega)) dX4_takeUp_117 (fun H locs hP hD hS => ?_)
                  rw [pk_cl (164 + i)] at hP hD
                  rw [show upd (zT (clT (tuR T s9 i) s9 i)) (164 + i) (oI (lowm (clr (mkT (tuR T s9 i) i) s9))) = zT (rmT (tuR T s9 i) s9 i) from (zU_ow (by omega)).trans (congrArg zT (rm_yes c_11))] at hP hD
                  have hP : va_P D vwCl (refO r (nI 0) (nI (svN sn)) (nI ln) (nI pm) pn (nI sta) (nI ms) hs :: zC K r (rmT (tuR T s9 i) s9 i) :: sC K r (savS sv sn T) :: bC K r cs :: pC K r pf :: fC K r fa :: Y) H := hP
                  have hD : va_D A (refO r (nI 0) (nI (svN sn)) (nI ln) (nI pm) pn (nI sta) (nI ms) hs :: zC K r (rmT (tuR T s9 i) s9 i) :: sC K r (savS sv sn T) :: bC K r cs :: pC K r pf :: fC K r fa :: Y) := hD
                  refine lv_iinc (v := nI (i + 1)) (lv' := [(3, .int (nI (i + 1))), (2, .int (nI (tuC T s9 i + 1))), (0, .ref (r 0)), (1, .int (nI s9))]) hx hb dX4_takeUp_118 hl (k := 3) rfl (nI_add _ 1) (by decide) rfl (fun ls hl => ?_)
                  refine lv_goto (tgt := 33) hx hb dX4_takeUp_121 (by decide) ?_
                  have hP : va_P D vwCl (refO r (nI 0) (nI (svN sn)) (nI ln) (nI pm) pn (nI sta) (nI ms) hs :: zC K r (tuR T s9 (i + 1)) :: sC K r (savS sv sn T) :: bC K r cs :: pC K r pf :: fC K r fa :: Y) H := by rw [tuR_yes c_7 c_9]; exact hP
                  have hD : va_D A (refO r (nI 0) (nI (svN sn)) (nI ln) (nI pm) pn (nI sta) (nI ms) hs :: zC K r (tuR T s9 (i + 1)) :: sC K r (savS sv sn T) :: bC K r cs :: pC K r pf :: fC K r fa :: Y) := by rw [tuR_yes c_7 c_9]; exact hD
                  exact ih_33 (i + 1) (by omega) (by omega) _ _ hP hD hS _ (by rw [tuC_yes c_7 c_9]) _ rfl ls (lv_sub hl [2, 3, 1, 0] rfl)
      exact loop_4 _ 0 (by decide) (Nat.lt_succ_self _) _ _ hP hD hS _ rfl _ rfl ls (lv_sub hl [2, 3, 1, 0] rfl)
    exact absurd c_3 (by decide)
