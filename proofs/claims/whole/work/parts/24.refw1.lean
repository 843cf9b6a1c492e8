theorem hd_X4_save : yX4_save.cls = RX4 ∧ yX4_save.cls ≠ "java/lang/invoke/MethodHandle" ∧ yX4_save.cls ≠ "java/lang/invoke/VarHandle" ∧ (parseMethodDescriptor yX4_save.desc).map (fun d => d.parameters.length) = some 0 := by decide +kernel
theorem hn_X4_save : yX4_save.cls ≠ "java/lang/invoke/MethodHandle" ∧ yX4_save.cls ≠ "java/lang/invoke/VarHandle" ∧ (parseMethodDescriptor yX4_save.desc).map (fun d => d.parameters.length) = some 0 := hd_X4_save.2
theorem hd_X4_undo : yX4_undo.cls = RX4 ∧ yX4_undo.cls ≠ "java/lang/invoke/MethodHandle" ∧ yX4_undo.cls ≠ "java/lang/invoke/VarHandle" ∧ (parseMethodDescriptor yX4_undo.desc).map (fun d => d.parameters.length) = some 0 := by decide +kernel
theorem hn_X4_undo : yX4_undo.cls ≠ "java/lang/invoke/MethodHandle" ∧ yX4_undo.cls ≠ "java/lang/invoke/VarHandle" ∧ (parseMethodDescriptor yX4_undo.desc).map (fun d => d.parameters.length) = some 0 := hd_X4_undo.2
theorem hd_X4_layIt : yX4_layIt.cls = RX4 ∧ yX4_layIt.cls ≠ "java/lang/invoke/MethodHandle" ∧ yX4_layIt.cls ≠ "java/lang/invoke/VarHandle" ∧ (parseMethodDescriptor yX4_layIt.desc).map (fun d => d.parameters.length) = some 3 := by decide +kernel
theorem hn_X4_layIt : yX4_layIt.cls ≠ "java/lang/invoke/MethodHandle" ∧ yX4_layIt.cls ≠ "java/lang/invoke/VarHandle" ∧ (parseMethodDescriptor yX4_layIt.desc).map (fun d => d.parameters.length) = some 3 := hd_X4_layIt.2
set_option maxHeartbeats 4000000 in
set_option maxRecDepth 100000 in
theorem c_X4_save (l : Launch) (D : va_G) (K : Nat → ClassId) (sz : Nat) (r : Nat → Nat) (th pn : Int32) (sn ln pm sta ms : Nat) (hs : Int64) (T : TW) (sv : Nat → Int32) (cs : Nat → Nat) (pf : Nat → Int32) (fa : Nat → Nat) (Y : va_W) (hsn : sn ≤ 6) : Wr l yX4_save wsX4_save ({ frames := 1, cells := 0, slots := 0, locals := 12 } : Room) D K (refO r th (nI sn) (nI ln) (nI pm) pn (nI sta) (nI ms) hs :: zC K r T :: sC K r sv :: bC K r cs :: pC K r pf :: fC K r fa :: Y) sz [.ref (r 0)] (refO r th (nI (svN sn)) (nI ln) (nI pm) pn (nI sta) (nI ms) hs :: zC K r T :: sC K r (savS sv sn T) :: bC K r cs :: pC K r pf :: fC K r fa :: Y) none 0 0 := by
  refine wr_intro (cc := cX4_save) (maxL := 2) (ret := none) (by decide) rfl (Nat.le_of_ble_eq_true rfl) ?_
  intro pr en st md ar bl mt co A hx hb hml hr hts hown hk hsz hAe hP hE hD hS hA hin ls hl
  have hown : st.vm.findClass RX4 = some md.cls := hown
  have hl : lv_has ls 2 [(0, .ref (r 0))] := hl
  obtain ⟨H, hH⟩ : ∃ z, z = st.heap := ⟨_, rfl⟩
  obtain ⟨locs, hlo⟩ : ∃ z : List Loc, z = [] := ⟨_, rfl⟩
  have hP : va_P D vwCl (refO r th (nI sn) (nI ln) (nI pm) pn (nI sta) (nI ms) hs :: zC K r T :: sC K r sv :: bC K r cs :: pC K r pf :: fC K r fa :: Y) H := by rw [hH]; exact hP
  have hS : va_S A st.heap H locs := by rw [hH, hlo]; exact hS
  suffices go : W pr l en (headSpec wsX4_save ({ frames := 1, cells := 0, slots := 0, locals := 12 } : Room)).room st md ar bl mt co H locs 0 0 (MQ bl (wrQ D (refO r th (nI sn) (nI ln) (nI pm) pn (nI sta) (nI ms) hs :: zC K r T :: sC K r sv :: bC K r cs :: pC K r pf :: fC K r fa :: Y) (refO r th (nI (svN sn)) (nI ln) (nI pm) pn (nI sta) (nI ms) hs :: zC K r T :: sC K r (savS sv sn T) :: bC K r cs :: pC K r pf :: fC K r fa :: Y) sz none) ar st 0 0 A) (F0 md 0 ls []) by rw [hH, hlo] at go; exact go
  clear hH hlo
  have F40 : (Cond.fieldLink RX4 40 "TramTollsModel" "savedMany" "I").before ar st = true := hts _ (List.mem_of_getElem? (i := 1) rfl)
  have inX4 : ∀ w ∈ u_ws RX4 TX4 13, w ∈ wsX4_save := fun w h => List.mem_cons_of_mem _ (List.mem_append_right _ h)
  have F13 : (Cond.fieldLink RX4 13 "TramTollsModel" "saved" "[I").before ar st = true := hts _ (List.mem_of_getElem? (i := 2) rfl)
  have F7 : (Cond.fieldLink RX4 7 "TramTollsModel" "z" "[I").before ar st = true := hts _ (List.mem_of_getElem? (i := 3) rfl)
  refine lv_aload_n hx hb dX4_save_0 rfl (lv_at hl 0 rfl) ?_
  refine va_get (D := D) (ci := 4) (v := .int (nI sn)) (C := RX4) (T := TX4) (N := 13) hx hb hts inX4 hown hE.1 hP 0 rfl rfl 3 (by decide) F40 (fun _ h9 => h9) rfl dX4_save_1 ?_
  refine lv_bipush (v := nI 6) hx hb dX4_save_4 (by decide) ?_
  refine nv_icmp_ne (x := sn) (y := 6) (tgt := 50) hx hb dX4_save_6 (by decide) (by omega) (by decide) (fun c_1 => ?_) (fun c_1 => ?_)
  · refine lv_iconst (v := nI 0) hx hb dX4_save_50 (by decide) ?_
    refine lv_istore_n (lv' := [(1, .int (nI 0)), (0, .ref (r 0))]) hx hb dX4_save_51 rfl hl (by decide) rfl (fun ls hl => ?_)
    have loop_2 : ∀ (n_52 : Nat) (j : Nat), (j ≤ 288) → (288 - j) < n_52 → ∀ (H : Heap) (locs : List Loc), va_P D vwCl (refO r th (nI sn) (nI ln) (nI pm) pn (nI sta) (nI ms) hs :: zC K r T :: sC K r (wrS sv sn T j) :: bC K r cs :: pC K r pf :: fC K r fa :: Y) H → va_D A (refO r th (nI sn) (nI ln) (nI pm) pn (nI sta) (nI ms) hs :: zC K r T :: sC K r (wrS sv sn T j) :: bC K r cs :: pC K r pf :: fC K r fa :: Y) → va_S A st.heap H locs →  ∀ x_1 : Int32, x_1 = nI j → ∀ ls : Array Slot, lv_has ls 2 [(0, .ref (r 0)), (1, .int x_1)] → W pr l en (headSpec wsX4_save ({ frames := 1, cells := 0, slots := 0, locals := 12 } : Room)).room st md ar bl mt co H locs 0 0 (MQ bl (wrQ D (refO r th (nI sn) (nI ln) (nI pm) pn (nI sta) (nI ms) hs :: zC K r T :: sC K r sv :: bC K r cs :: pC K r pf :: fC K r fa :: Y) (refO r th (nI (svN sn)) (nI ln) (nI pm) pn (nI sta) (nI ms) hs :: zC K r T :: sC K r (savS sv sn T) :: bC K r cs :: pC K r pf :: fC K r fa :: Y) sz none) ar st 0 0 A) (F0 md 52 ls []) := by
      intro n_52
      induction n_52 with
      | zero => intro j _ hn_52; exact absurd hn_52 (Nat.not_lt_zero _)
      | succ n_52 ih_52 =>
        intro j hj hn_52 H locs hP hD hS x_1 ex_1 ls hl
        subst ex_1
        have hl : lv_has ls 2 [(0, .ref (r 0)), (1, .int (nI j))] := hl
        refine lv_iload_n hx hb dX4_save_52 rfl (lv_at hl 1 rfl) ?_
        refine lv_sipush (v := nI 288) hx hb dX4_save_53 (by decide) ?_
        refine nv_icmp_ge (x := j) (y := 288) (tgt := 86) hx hb dX4_save_56 (by decide) (by omega) (by decide) (fun c_3 => ?_) (fun c_3 => ?_)
        · have n_c_3 := Nat.not_lt.mpr c_3
          refine lv_aload_n hx hb dX4_save_86 rfl (lv_at hl 0 rfl) ?_
          refine lv_dup hx hb dX4_save_87 rfl ?_
          refine va_get (D := D) (ci := 4) (v := .int (nI sn)) (C := RX4) (T := TX4) (N := 13) hx hb hts inX4 hown hE.1 hP 0 rfl rfl 3 (by decide) F40 (fun _ h9 => h9) rfl dX4_save_88 ?_
          refine lv_iconst (v := nI 1) hx hb dX4_save_91 (by decide) ?_
          refine nv_iadd (x := sn) (y := 1) hx hb dX4_save_92 ?_
          refine va_put (D := D) (ci := 4) (v := .int (nI (sn + 1))) (ty := .int) (C := RX4) (T := TX4) (N := 13) hx hb hts inX4 tyX4 tyX4_ok nmX4 hown hE.1 hP hD hS 0 rfl rfl 3 (by decide) F40 (fun _ h9 => h9) rfl (by decide +kernel) rfl rfl (Nat.le_of_ble_eq_true rfl) dX4_save_93 (fun H locs hP hD hS => ?_)
          have hP : va_P D vwCl (refO r th (nI (sn + 1)) (nI ln) (nI pm) pn (nI sta) (nI ms) hs :: zC K r T :: sC K r (wrS sv sn T j) :: bC K r cs :: pC K r pf :: fC K r fa :: Y) H := hP
          have hD : va_D A (refO r th (nI (sn + 1)) (nI ln) (nI pm) pn (nI sta) (nI ms) hs :: zC K r T :: sC K r (wrS sv sn T j) :: bC K r cs :: pC K r pf :: fC K r fa :: Y) := hD
          have ew : (refO r th (nI (sn + 1)) (nI ln) (nI pm) pn (nI sta) (nI ms) hs :: zC K r T :: sC K r (wrS sv sn T j) :: bC K r cs :: pC K r pf :: fC K r fa :: Y) = (refO r th (nI (svN sn)) (nI ln) (nI pm) pn (nI sta) (nI ms) hs :: zC K r T :: sC K r (savS sv sn T) :: bC K r cs :: pC K r pf :: fC K r fa :: Y) := by have e7 : j = 288 := (by omega); subst e7; rw [savS, svN, if_pos (by omega), if_pos (by omega)]
          rw [ew] at hP hD
          exact wr_vret hAe hP hD hS hx hb hr hk dX4_save_96 ⟨Nat.le_of_ble_eq_true rfl, Nat.le_of_ble_eq_true rfl⟩
        · have n_c_3 := Nat.not_le.mpr c_3
          refine lv_aload_n hx hb dX4_save_59 rfl (lv_at hl 0 rfl) ?_
          refine va_get (D := D) (ci := 4) (v := .ref (r 2)) (C := RX4) (T := TX4) (N := 13) hx hb hts inX4 hown hE.1 hP 0 rfl rfl 2 (by decide) F13 (fun _ h9 => h9) rfl dX4_save_60 ?_
          refine lv_aload_n hx hb dX4_save_63 rfl (lv_at hl 0 rfl) ?_
          refine va_get (D := D) (ci := 4) (v := .int (nI sn)) (C := RX4) (T := TX4) (N := 13) hx hb hts inX4 hown hE.1 hP 0 rfl rfl 3 (by decide) F40 (fun _ h9 => h9) rfl dX4_save_64 ?_
          refine lv_sipush (v := nI 288) hx hb dX4_save_67 (by decide) ?_
          refine nv_imul (x := sn) (y := 288) hx hb dX4_save_70 ?_
          refine lv_iload_n hx hb dX4_save_71 rfl (lv_at hl 1 rfl) ?_
          refine nv_iadd (x := sn * 288) (y := j) hx hb dX4_save_72 ?_
          refine lv_aload_n hx hb dX4_save_73 rfl (lv_at hl 0 rfl) ?_
          refine va_get (D := D) (ci := 4) (v := .ref (r 1)) (C := RX4) (T := TX4) (N := 13) hx hb hts inX4 hown hE.1 hP 0 rfl rfl 1 (by decide) F7 (fun _ h9 => h9) rfl dX4_save_74 ?_
          refine lv_iload_n hx hb dX4_save_77 rfl (lv_at hl 1 rfl) ?_
          refine va_iald hx hb hE.1 hP 1 0 rfl rfl (pk_in j 288 (by omega)) dX4_save_78 ?_
          rw [pk_cl j]
          refine top_i (y := zT T j) (rfl) ?_
          refine va_iast hx hb hE.1 hP hD hS 2 0 rfl rfl (pk_in ((sn * 288) + j) 1728 (by omega)) dX4_save_79 (fun H locs hP hD hS => ?_)
          rw [pk_cl ((sn * 288) + j)] at hP hD
          rw [show upd (wrS sv sn T j) ((sn * 288) + j) (zT T j) = wrS sv sn T (j + 1) from wrS_up sv sn T j] at hP hD
          have hP : va_P D vwCl (refO r th (nI sn) (nI ln) (nI pm) pn (nI sta) (nI ms) hs :: zC K r T :: sC K r (wrS sv sn T (j + 1)) :: bC K r cs :: pC K r pf :: fC K r fa :: Y) H := hP
          have hD : va_D A (refO r th (nI sn) (nI ln) (nI pm) pn (nI sta) (nI ms) hs :: zC K r T :: sC K r (wrS sv sn T (j + 1)) :: bC K r cs :: pC K r pf :: fC K r fa :: Y) := hD
          refine lv_iinc (v := nI (j + 1)) (lv' := [(1, .int (nI (j + 1))), (0, .ref (r 0))]) hx hb dX4_save_80 hl (k := 1) rfl (nI_add _ 1) (by decide) rfl (fun ls hl => ?_)
          refine lv_goto (tgt := 52) hx hb dX4_save_83 (by decide) ?_
          exact ih_52 (j + 1) (by omega) (by omega) _ _ hP hD hS _ rfl ls (lv_sub hl [1, 0] rfl)
    have hP : va_P D vwCl (refO r th (nI sn) (nI ln) (nI pm) pn (nI sta) (nI ms) hs :: zC K r T :: sC K r (wrS sv sn T 0) :: bC K r cs :: pC K r pf :: fC K r fa :: Y) H := by rw [wrS_0]; exact hP
    have hD : va_D A (refO r th (nI sn) (nI ln) (nI pm) pn (nI sta) (nI ms) hs :: zC K r T :: sC K r (wrS sv sn T 0) :: bC K r cs :: pC K r pf :: fC K r fa :: Y) := by rw [wrS_0]; exact hD
    exact loop_2 _ 0 (by decide) (Nat.lt_succ_self _) _ _ hP hD hS _ rfl ls (lv_sub hl [1, 0] rfl)
  · refine lv_iconst (v := nI 0) hx hb dX4_save_9 (by decide) ?_
    refine lv_istore_n (lv' := [(1, .int (nI 0)), (0, .ref (r 0))]) hx hb dX4_save_10 rfl hl (by decide) rfl (fun ls hl => ?_)
    have loop_4 : ∀ (n_11 : Nat) (i : Nat), (i ≤ 1440) → (1440 - i) < n_11 → ∀ (H : Heap) (locs : List Loc), va_P D vwCl (refO r th (nI sn) (nI ln) (nI pm) pn (nI sta) (nI ms) hs :: zC K r T :: sC K r (shS sv i) :: bC K r cs :: pC K r pf :: fC K r fa :: Y) H → va_D A (refO r th (nI sn) (nI ln) (nI pm) pn (nI sta) (nI ms) hs :: zC K r T :: sC K r (shS sv i) :: bC K r cs :: pC K r pf :: fC K r fa :: Y) → va_S A st.heap H locs →  ∀ x_1 : Int32, x_1 = nI i → ∀ ls : Array Slot, lv_has ls 2 [(0, .ref (r 0)), (1, .int x_1)] → W pr l en (headSpec wsX4_save ({ frames := 1, cells := 0, slots := 0, locals := 12 } : Room)).room st md ar bl mt co H locs 0 0 (MQ bl (wrQ D (refO r th (nI sn) (nI ln) (nI pm) pn (nI sta) (nI ms) hs :: zC K r T :: sC K r sv :: bC K r cs :: pC K r pf :: fC K r fa :: Y) (refO r th (nI (svN sn)) (nI ln) (nI pm) pn (nI sta) (nI ms) hs :: zC K r T :: sC K r (savS sv sn T) :: bC K r cs :: pC K r pf :: fC K r fa :: Y) sz none) ar st 0 0 A) (F0 md 11 ls []) := by
      intro n_11
      induction n_11 with
      | zero => intro i _ hn_11; exact absurd hn_11 (Nat.not_lt_zero _)
      | succ n_11 ih_11 =>
        intro i hi hn_11 H locs hP hD hS x_1 ex_1 ls hl
        subst ex_1
        have hl : lv_has ls 2 [(0, .ref (r 0)), (1, .int (nI i))] := hl
        refine lv_iload_n hx hb dX4_save_11 rfl (lv_at hl 1 rfl) ?_
        refine lv_sipush (v := nI 1440) hx hb dX4_save_12 (by decide) ?_
        refine nv_icmp_ge (x := i) (y := 1440) (tgt := 40) hx hb dX4_save_15 (by decide) (by omega) (by decide) (fun c_5 => ?_) (fun c_5 => ?_)
        · have n_c_5 := Nat.not_lt.mpr c_5
          refine lv_aload_n hx hb dX4_save_40 rfl (lv_at hl 0 rfl) ?_
          refine lv_dup hx hb dX4_save_41 rfl ?_
          refine va_get (D := D) (ci := 4) (v := .int (nI sn)) (C := RX4) (T := TX4) (N := 13) hx hb hts inX4 hown hE.1 hP 0 rfl rfl 3 (by decide) F40 (fun _ h9 => h9) rfl dX4_save_42 ?_
          refine lv_iconst (v := nI 1) hx hb dX4_save_45 (by decide) ?_
          refine nv_isub (x := sn) (y := 1) hx hb dX4_save_46 (by omega) ?_
          refine va_put (D := D) (ci := 4) (v := .int (nI (sn - 1))) (ty := .int) (C := RX4) (T := TX4) (N := 13) hx hb hts inX4 tyX4 tyX4_ok nmX4 hown hE.1 hP hD hS 0 rfl rfl 3 (by decide) F40 (fun _ h9 => h9) rfl (by decide +kernel) rfl rfl (Nat.le_of_ble_eq_true rfl) dX4_save_47 (fun H locs hP hD hS => ?_)
          have hP : va_P D vwCl (refO r th (nI (sn - 1)) (nI ln) (nI pm) pn (nI sta) (nI ms) hs :: zC K r T :: sC K r (shS sv i) :: bC K r cs :: pC K r pf :: fC K r fa :: Y) H := hP
          have hD : va_D A (refO r th (nI (sn - 1)) (nI ln) (nI pm) pn (nI sta) (nI ms) hs :: zC K r T :: sC K r (shS sv i) :: bC K r cs :: pC K r pf :: fC K r fa :: Y) := hD
          refine lv_iconst (v := nI 0) hx hb dX4_save_50 (by decide) ?_
          refine lv_istore_n (lv' := [(1, .int (nI 0)), (0, .ref (r 0))]) hx hb dX4_save_51 rfl hl (by decide) rfl (fun ls hl => ?_)
          have loop_6 : ∀ (n_52 : Nat) (j : Nat), (j ≤ 288) → (288 - j) < n_52 → ∀ (H : Heap) (locs : List Loc), va_P D vwCl (refO r th (nI (sn - 1)) (nI ln) (nI pm) pn (nI sta) (nI ms) hs :: zC K r T :: sC K r (wrS (shS sv i) (sn - 1) T j) :: bC K r cs :: pC K r pf :: fC K r fa :: Y) H → va_D A (refO r th (nI (sn - 1)) (nI ln) (nI pm) pn (nI sta) (nI ms) hs :: zC K r T :: sC K r (wrS (shS sv i) (sn - 1) T j) :: bC K r cs :: pC K r pf :: fC K r fa :: Y) → va_S A st.heap H locs →  ∀ x_1 : Int32, x_1 = nI j → ∀ ls : Array Slot, lv_has ls 2 [(0, .ref (r 0)), (1, .int x_1)] → W pr l en (headSpec wsX4_save ({ frames := 1, cells := 0, slots := 0, locals := 12 } : Room)).room st md ar bl mt co H locs 0 0 (MQ bl (wrQ D (refO r th (nI sn) (nI ln) (nI pm) pn (nI sta) (nI ms) hs :: zC K r T :: sC K r sv :: bC K r cs :: pC K r pf :: fC K r fa :: Y) (refO r th (nI (svN sn)) (nI ln) (nI pm) pn (nI sta) (nI ms) hs :: zC K r T :: sC K r (savS sv sn T) :: bC K r cs :: pC K r pf :: fC K r fa :: Y) sz none) ar st 0 0 A) (F0 md 52 ls []) := by
            intro n_52
            induction n_52 with
            | zero => intro j _ hn_52; exact absurd hn_52 (Nat.not_lt_zero _)
            | succ n_52 ih_52 =>
              intro j hj hn_52 H locs hP hD hS x_1 ex_1 ls hl
              subst ex_1
              have hl : lv_has ls 2 [(0, .ref (r 0)), (1, .int (nI j))] := hl
              refine lv_iload_n hx hb dX4_save_52 rfl (lv_at hl 1 rfl) ?_
              refine lv_sipush (v := nI 288) hx hb dX4_save_53 (by decide) ?_
              refine nv_icmp_ge (x := j) (y := 288) (tgt := 86) hx hb dX4_save_56 (by decide) (by omega) (by decide) (fun c_7 => ?_) (fun c_7 => ?_)
              · have n_c_7 := Nat.not_lt.mpr c_7
                refine lv_aload_n hx hb dX4_save_86 rfl (lv_at hl 0 rfl) ?_
                refine lv_dup hx hb dX4_save_87 rfl ?_
                refine va_get (D := D) (ci := 4) (v := .int (nI (sn - 1))) (C := RX4) (T := TX4) (N := 13) hx hb hts inX4 hown hE.1 hP 0 rfl rfl 3 (by decide) F40 (fun _ h9 => h9) rfl dX4_save_88 ?_
                refine lv_iconst (v := nI 1) hx hb dX4_save_91 (by decide) ?_
                refine nv_iadd (x := sn - 1) (y := 1) hx hb dX4_save_92 ?_
                refine va_put (D := D) (ci := 4) (v := .int (nI ((sn - 1) + 1))) (ty := .int) (C := RX4) (T := TX4) (N := 13) hx hb hts inX4 tyX4 tyX4_ok nmX4 hown hE.1 hP hD hS 0 rfl rfl 3 (by decide) F40 (fun _ h9 => h9) rfl (by decide +kernel) rfl rfl (Nat.le_of_ble_eq_true rfl) dX4_save_93 (fun H locs hP hD hS => ?_)
                have hP : va_P D vwCl (refO r th (nI ((sn - 1) + 1)) (nI ln) (nI pm) pn (nI sta) (nI ms) hs :: zC K r T :: sC K r (wrS (shS sv i) (sn - 1) T j) :: bC K r cs :: pC K r pf :: fC K r fa :: Y) H := hP
                have hD : va_D A (refO r th (nI ((sn - 1) + 1)) (nI ln) (nI pm) pn (nI sta) (nI ms) hs :: zC K r T :: sC K r (wrS (shS sv i) (sn - 1) T j) :: bC K r cs :: pC K r pf :: fC K r fa :: Y) := hD
                have ew : (refO r th (nI ((sn - 1) + 1)) (nI ln) (nI pm) pn (nI sta) (nI ms) hs :: zC K r T :: sC K r (wrS (shS sv i) (sn - 1) T j) :: bC K r cs :: pC K r pf :: fC K r fa :: Y) = (refO r th (nI (svN sn)) (nI ln) (nI pm) pn (nI sta) (nI ms) hs :: zC K r T :: sC K r (savS sv sn T) :: bC K r cs :: pC K r pf :: fC K r fa :: Y) := by have e9 : sn = 6 := (by omega); have e8 : i = 1440 := (by omega); have e7 : j = 288 := (by omega); subst e7; subst e8; rw [savS, svN, if_neg (by omega), if_neg (by omega), show sn - 1 = 5 from by omega]
                rw [ew] at hP hD
                exact wr_vret hAe hP hD hS hx hb hr hk dX4_save_96 ⟨Nat.le_of_ble_eq_true rfl, Nat.le_of_ble_eq_true rfl⟩
              · have n_c_7 := Nat.not_le.mpr c_7
                refine lv_aload_n hx hb dX4_save_59 rfl (lv_at hl 0 rfl) ?_
                refine va_get (D := D) (ci := 4) (v := .ref (r 2)) (C := RX4) (T := TX4) (N := 13) hx hb hts inX4 hown hE.1 hP 0 rfl rfl 2 (by decide) F13 (fun _ h9 => h9) rfl dX4_save_60 ?_
                refine lv_aload_n hx hb dX4_save_63 rfl (lv_at hl 0 rfl) ?_
                refine va_get (D := D) (ci := 4) (v := .int (nI (sn - 1))) (C := RX4) (T := TX4) (N := 13) hx hb hts inX4 hown hE.1 hP 0 rfl rfl 3 (by decide) F40 (fun _ h9 => h9) rfl dX4_save_64 ?_
                refine lv_sipush (v := nI 288) hx hb dX4_save_67 (by decide) ?_
                refine nv_imul (x := sn - 1) (y := 288) hx hb dX4_save_70 ?_
                refine lv_iload_n hx hb dX4_save_71 rfl (lv_at hl 1 rfl) ?_
                refine nv_iadd (x := (sn - 1) * 288) (y := j) hx hb dX4_save_72 ?_
                refine lv_aload_n hx hb dX4_save_73 rfl (lv_at hl 0 rfl) ?_
                refine va_get (D := D) (ci := 4) (v := .ref (r 1)) (C := RX4) (T := TX4) (N := 13) hx hb hts inX4 hown hE.1 hP 0 rfl rfl 1 (by decide) F7 (fun _ h9 => h9) rfl dX4_save_74 ?_
                refine lv_iload_n hx hb dX4_save_77 rfl (lv_at hl 1 rfl) ?_
                refine va_iald hx hb hE.1 hP 1 0 rfl rfl (pk_in j 288 (by omega)) dX4_save_78 ?_
                rw [pk_cl j]
                refine top_i (y := zT T j) (rfl) ?_
                refine va_iast hx hb hE.1 hP hD hS 2 0 rfl rfl (pk_in (((sn - 1) * 288) + j) 1728 (by omega)) dX4_save_79 (fun H locs hP hD hS => ?_)
                rw [pk_cl (((sn - 1) * 288) + j)] at hP hD
                rw [show upd (wrS (shS sv i) (sn - 1) T j) (((sn - 1) * 288) + j) (zT T j) = wrS (shS sv i) (sn - 1) T (j + 1) from wrS_up (shS sv i) (sn - 1) T j] at hP hD
                have hP : va_P D vwCl (refO r th (nI (sn - 1)) (nI ln) (nI pm) pn (nI sta) (nI ms) hs :: zC K r T :: sC K r (wrS (shS sv i) (sn - 1) T (j + 1)) :: bC K r cs :: pC K r pf :: fC K r fa :: Y) H := hP
                have hD : va_D A (refO r th (nI (sn - 1)) (nI ln) (nI pm) pn (nI sta) (nI ms) hs :: zC K r T :: sC K r (wrS (shS sv i) (sn - 1) T (j + 1)) :: bC K r cs :: pC K r pf :: fC K r fa :: Y) := hD
                refine lv_iinc (v := nI (j + 1)) (lv' := [(1, .int (nI (j + 1))), (0, .ref (r 0))]) hx hb dX4_save_80 hl (k := 1) rfl (nI_add _ 1) (by decide) rfl (fun ls hl => ?_)
                refine lv_goto (tgt := 52) hx hb dX4_save_83 (by decide) ?_
                exact ih_52 (j + 1) (by omega) (by omega) _ _ hP hD hS _ rfl ls (lv_sub hl [1, 0] rfl)
          have hP : va_P D vwCl (refO r th (nI (sn - 1)) (nI ln) (nI pm) pn (nI sta) (nI ms) hs :: zC K r T :: sC K r (wrS (shS sv i) (sn - 1) T 0) :: bC K r cs :: pC K r pf :: fC K r fa :: Y) H := by rw [wrS_0]; exact hP
          have hD : va_D A (refO r th (nI (sn - 1)) (nI ln) (nI pm) pn (nI sta) (nI ms) hs :: zC K r T :: sC K r (wrS (shS sv i) (sn - 1) T 0) :: bC K r cs :: pC K r pf :: fC K r fa :: Y) := by rw [wrS_0]; exact hD
          exact loop_6 _ 0 (by decide) (Nat.lt_succ_self _) _ _ hP hD hS _ rfl ls (lv_sub hl [1, 0] rfl)
        · have n_c_5 := Nat.not_le.mpr c_5
          refine lv_aload_n hx hb dX4_save_18 rfl (lv_at hl 0 rfl) ?_
          refine va_get (D := D) (ci := 4) (v := .ref (r 2)) (C := RX4) (T := TX4) (N := 13) hx hb hts inX4 hown hE.1 hP 0 rfl rfl 2 (by decide) F13 (fun _ h9 => h9) rfl dX4_save_19 ?_
          refine lv_iload_n hx hb dX4_save_22 rfl (lv_at hl 1 rfl) ?_
          refine lv_aload_n hx hb dX4_save_23 rfl (lv_at hl 0 rfl) ?_
          refine va_get (D := D) (ci := 4) (v := .ref (r 2)) (C := RX4) (T := TX4) (N := 13) hx hb hts inX4 hown hE.1 hP 0 rfl rfl 2 (by decide) F13 (fun _ h9 => h9) rfl dX4_save_24 ?_
          refine lv_iload_n hx hb dX4_save_27 rfl (lv_at hl 1 rfl) ?_
          refine lv_sipush (v := nI 288) hx hb dX4_save_28 (by decide) ?_
          refine nv_iadd (x := i) (y := 288) hx hb dX4_save_31 ?_
          refine va_iald hx hb hE.1 hP 2 0 rfl rfl (pk_in (i + 288) 1728 (by omega)) dX4_save_32 ?_
          rw [pk_cl (i + 288)]
          refine top_i (y := shS sv i (i + 288)) (rfl) ?_
          refine va_iast hx hb hE.1 hP hD hS 2 0 rfl rfl (pk_in i 1728 (by omega)) dX4_save_33 (fun H locs hP hD hS => ?_)
          rw [pk_cl i] at hP hD
          rw [show upd (shS sv i) i (shS sv i (i + 288)) = shS sv (i + 1) from shS_up sv i] at hP hD
          have hP : va_P D vwCl (refO r th (nI sn) (nI ln) (nI pm) pn (nI sta) (nI ms) hs :: zC K r T :: sC K r (shS sv (i + 1)) :: bC K r cs :: pC K r pf :: fC K r fa :: Y) H := hP
          have hD : va_D A (refO r th (nI sn) (nI ln) (nI pm) pn (nI sta) (nI ms) hs :: zC K r T :: sC K r (shS sv (i + 1)) :: bC K r cs :: pC K r pf :: fC K r fa :: Y) := hD
          refine lv_iinc (v := nI (i + 1)) (lv' := [(1, .int (nI (i + 1))), (0, .ref (r 0))]) hx hb dX4_save_34 hl (k := 1) rfl (nI_add _ 1) (by decide) rfl (fun ls hl => ?_)
          refine lv_goto (tgt := 11) hx hb dX4_save_37 (by decide) ?_
          exact ih_11 (i + 1) (by omega) (by omega) _ _ hP hD hS _ rfl ls (lv_sub hl [1, 0] rfl)
    have hP : va_P D vwCl (refO r th (nI sn) (nI ln) (nI pm) pn (nI sta) (nI ms) hs :: zC K r T :: sC K r (shS sv 0) :: bC K r cs :: pC K r pf :: fC K r fa :: Y) H := by rw [shS_0]; exact hP
    have hD : va_D A (refO r th (nI sn) (nI ln) (nI pm) pn (nI sta) (nI ms) hs :: zC K r T :: sC K r (shS sv 0) :: bC K r cs :: pC K r pf :: fC K r fa :: Y) := by rw [shS_0]; exact hD
    exact loop_4 _ 0 (by decide) (Nat.lt_succ_self _) _ _ hP hD hS _ rfl ls (lv_sub hl [1, 0] rfl)
set_option maxHeartbeats 4000000 in
set_option maxRecDepth 100000 in
theorem c_X4_undo (l : Launch) (D : va_G) (K : Nat → ClassId) (sz : Nat) (r : Nat → Nat) (th pn : Int32) (sn ln pm sta ms : Nat) (hs : Int64) (T : TW) (sv : Nat → Int32) (cs : Nat → Nat) (pf : Nat → Int32) (fa : Nat → Nat) (Y : va_W) (hsn : sn ≤ 6) (T2 : TW) (hsl : ∀ k, k < 288 → sv ((sn - 1) * 288 + k) = zT T2 k) : Wr l yX4_undo wsX4_undo ({ frames := 1, cells := 0, slots := 0, locals := 12 } : Room) D K (refO r th (nI sn) (nI ln) (nI pm) pn (nI sta) (nI ms) hs :: zC K r T :: sC K r sv :: bC K r cs :: pC K r pf :: fC K r fa :: Y) sz [.ref (r 0)] (if sn = 0 then refO r (nI 1) (nI sn) (nI ln) (nI pm) pn (nI sta) (nI ms) hs :: zC K r T :: sC K r sv :: bC K r cs :: pC K r pf :: fC K r fa :: Y else refO r (nI 0) (nI (sn - 1)) (nI ln) (nI pm) pn (nI sta) (nI ms) hs :: zC K r T2 :: sC K r sv :: bC K r cs :: pC K r pf :: fC K r fa :: Y) (some (.int (nI (sn - 1)))) 0 0 := by
  refine wr_intro (cc := cX4_undo) (maxL := 2) (ret := (some .int)) (by decide) rfl (Nat.le_of_ble_eq_true rfl) ?_
  intro pr en st md ar bl mt co A hx hb hml hr hts hown hk hsz hAe hP hE hD hS hA hin ls hl
  have hown : st.vm.findClass RX4 = some md.cls := hown
  have hl : lv_has ls 2 [(0, .ref (r 0))] := hl
  obtain ⟨H, hH⟩ : ∃ z, z = st.heap := ⟨_, rfl⟩
  obtain ⟨locs, hlo⟩ : ∃ z : List Loc, z = [] := ⟨_, rfl⟩
  have hP : va_P D vwCl (refO r th (nI sn) (nI ln) (nI pm) pn (nI sta) (nI ms) hs :: zC K r T :: sC K r sv :: bC K r cs :: pC K r pf :: fC K r fa :: Y) H := by rw [hH]; exact hP
  have hS : va_S A st.heap H locs := by rw [hH, hlo]; exact hS
  suffices go : W pr l en (headSpec wsX4_undo ({ frames := 1, cells := 0, slots := 0, locals := 12 } : Room)).room st md ar bl mt co H locs 0 0 (MQ bl (wrQ D (refO r th (nI sn) (nI ln) (nI pm) pn (nI sta) (nI ms) hs :: zC K r T :: sC K r sv :: bC K r cs :: pC K r pf :: fC K r fa :: Y) (if sn = 0 then refO r (nI 1) (nI sn) (nI ln) (nI pm) pn (nI sta) (nI ms) hs :: zC K r T :: sC K r sv :: bC K r cs :: pC K r pf :: fC K r fa :: Y else refO r (nI 0) (nI (sn - 1)) (nI ln) (nI pm) pn (nI sta) (nI ms) hs :: zC K r T2 :: sC K r sv :: bC K r cs :: pC K r pf :: fC K r fa :: Y) sz (some (.int (nI (sn - 1))))) ar st 0 0 A) (F0 md 0 ls []) by rw [hH, hlo] at go; exact go
  clear hH hlo
  have F40 : (Cond.fieldLink RX4 40 "TramTollsModel" "savedMany" "I").before ar st = true := hts _ (List.mem_of_getElem? (i := 1) rfl)
  have inX4 : ∀ w ∈ u_ws RX4 TX4 13, w ∈ wsX4_undo := fun w h => List.mem_cons_of_mem _ (List.mem_append_right _ h)
  have F29 : (Cond.fieldLink RX4 29 "TramTollsModel" "thrown" "I").before ar st = true := hts _ (List.mem_of_getElem? (i := 2) rfl)
  have F7 : (Cond.fieldLink RX4 7 "TramTollsModel" "z" "[I").before ar st = true := hts _ (List.mem_of_getElem? (i := 3) rfl)
  have F13 : (Cond.fieldLink RX4 13 "TramTollsModel" "saved" "[I").before ar st = true := hts _ (List.mem_of_getElem? (i := 4) rfl)
  refine lv_aload_n hx hb dX4_undo_0 rfl (lv_at hl 0 rfl) ?_
  refine lv_aload_n hx hb dX4_undo_1 rfl (lv_at hl 0 rfl) ?_
  refine va_get (D := D) (ci := 4) (v := .int (nI sn)) (C := RX4) (T := TX4) (N := 13) hx hb hts inX4 hown hE.1 hP 0 rfl rfl 3 (by decide) F40 (fun _ h9 => h9) rfl dX4_undo_2 ?_
  refine nv_if_ne (x := sn) (tgt := 12) hx hb dX4_undo_5 (by decide) (by omega) (fun c_1 => ?_) (fun c_1 => ?_)
  · have n_c_1 : ¬ sn = 0 := by omega
    refine lv_iconst (v := nI 0) hx hb dX4_undo_12 (by decide) ?_
    refine va_put (D := D) (ci := 4) (v := .int (nI 0)) (ty := .int) (C := RX4) (T := TX4) (N := 13) hx hb hts inX4 tyX4 tyX4_ok nmX4 hown hE.1 hP hD hS 0 rfl rfl 0 (by decide) F29 (fun _ h9 => h9) rfl (by decide +kernel) rfl rfl (Nat.le_of_ble_eq_true rfl) dX4_undo_13 (fun H locs hP hD hS => ?_)
    have hP : va_P D vwCl (refO r (nI 0) (nI sn) (nI ln) (nI pm) pn (nI sta) (nI ms) hs :: zC K r T :: sC K r sv :: bC K r cs :: pC K r pf :: fC K r fa :: Y) H := hP
    have hD : va_D A (refO r (nI 0) (nI sn) (nI ln) (nI pm) pn (nI sta) (nI ms) hs :: zC K r T :: sC K r sv :: bC K r cs :: pC K r pf :: fC K r fa :: Y) := hD
    refine lv_aload_n hx hb dX4_undo_16 rfl (lv_at hl 0 rfl) ?_
    refine va_get (D := D) (ci := 4) (v := .int (nI 0)) (C := RX4) (T := TX4) (N := 13) hx hb hts inX4 hown hE.1 hP 0 rfl rfl 0 (by decide) F29 (fun _ h9 => h9) rfl dX4_undo_17 ?_
    refine nv_if_le (x := 0) (tgt := 25) hx hb dX4_undo_20 (by decide) (by decide) (fun c_2 => ?_) (fun c_2 => ?_)
    · have n_c_2 : ¬ 0 < 0 := by omega
      refine lv_aload_n hx hb dX4_undo_25 rfl (lv_at hl 0 rfl) ?_
      refine lv_dup hx hb dX4_undo_26 rfl ?_
      refine va_get (D := D) (ci := 4) (v := .int (nI sn)) (C := RX4) (T := TX4) (N := 13) hx hb hts inX4 hown hE.1 hP 0 rfl rfl 3 (by decide) F40 (fun _ h9 => h9) rfl dX4_undo_27 ?_
      refine lv_iconst (v := nI 1) hx hb dX4_undo_30 (by decide) ?_
      refine nv_isub (x := sn) (y := 1) hx hb dX4_undo_31 (by omega) ?_
      refine va_put (D := D) (ci := 4) (v := .int (nI (sn - 1))) (ty := .int) (C := RX4) (T := TX4) (N := 13) hx hb hts inX4 tyX4 tyX4_ok nmX4 hown hE.1 hP hD hS 0 rfl rfl 3 (by decide) F40 (fun _ h9 => h9) rfl (by decide +kernel) rfl rfl (Nat.le_of_ble_eq_true rfl) dX4_undo_32 (fun H locs hP hD hS => ?_)
      have hP : va_P D vwCl (refO r (nI 0) (nI (sn - 1)) (nI ln) (nI pm) pn (nI sta) (nI ms) hs :: zC K r T :: sC K r sv :: bC K r cs :: pC K r pf :: fC K r fa :: Y) H := hP
      have hD : va_D A (refO r (nI 0) (nI (sn - 1)) (nI ln) (nI pm) pn (nI sta) (nI ms) hs :: zC K r T :: sC K r sv :: bC K r cs :: pC K r pf :: fC K r fa :: Y) := hD
      refine lv_iconst (v := nI 0) hx hb dX4_undo_35 (by decide) ?_
      refine lv_istore_n (lv' := [(1, .int (nI 0)), (0, .ref (r 0))]) hx hb dX4_undo_36 rfl hl (by decide) rfl (fun ls hl => ?_)
      have loop_3 : ∀ (n_37 : Nat) (j : Nat), (j ≤ 288) → (288 - j) < n_37 → ∀ (H : Heap) (locs : List Loc), va_P D vwCl (refO r (nI 0) (nI (sn - 1)) (nI ln) (nI pm) pn (nI sta) (nI ms) hs :: (r 1, .inl (K 0, 288, .inl (bkS T T2 j))) :: sC K r sv :: bC K r cs :: pC K r pf :: fC K r fa :: Y) H → va_D A (refO r (nI 0) (nI (sn - 1)) (nI ln) (nI pm) pn (nI sta) (nI ms) hs :: (r 1, .inl (K 0, 288, .inl (bkS T T2 j))) :: sC K r sv :: bC K r cs :: pC K r pf :: fC K r fa :: Y) → va_S A st.heap H locs →  ∀ x_1 : Int32, x_1 = nI j → ∀ ls : Array Slot, lv_has ls 2 [(0, .ref (r 0)), (1, .int x_1)] → W pr l en (headSpec wsX4_undo ({ frames := 1, cells := 0, slots := 0, locals := 12 } : Room)).room st md ar bl mt co H locs 0 0 (MQ bl (wrQ D (refO r th (nI sn) (nI ln) (nI pm) pn (nI sta) (nI ms) hs :: zC K r T :: sC K r sv :: bC K r cs :: pC K r pf :: fC K r fa :: Y) (if sn = 0 then refO r (nI 1) (nI sn) (nI ln) (nI pm) pn (nI sta) (nI ms) hs :: zC K r T :: sC K r sv :: bC K r cs :: pC K r pf :: fC K r fa :: Y else refO r (nI 0) (nI (sn - 1)) (nI ln) (nI pm) pn (nI sta) (nI ms) hs :: zC K r T2 :: sC K r sv :: bC K r cs :: pC K r pf :: fC K r fa :: Y) sz (some (.int (nI (sn - 1))))) ar st 0 0 A) (F0 md 37 ls []) := by
        intro n_37
        induction n_37 with
        | zero => intro j _ hn_37; exact absurd hn_37 (Nat.not_lt_zero _)
        | succ n_37 ih_37 =>
          intro j hj hn_37 H locs hP hD hS x_1 ex_1 ls hl
          subst ex_1
          have hl : lv_has ls 2 [(0, .ref (r 0)), (1, .int (nI j))] := hl
          refine lv_iload_n hx hb dX4_undo_37 rfl (lv_at hl 1 rfl) ?_
          refine lv_sipush (v := nI 288) hx hb dX4_undo_38 (by decide) ?_
          refine nv_icmp_ge (x := j) (y := 288) (tgt := 71) hx hb dX4_undo_41 (by decide) (by omega) (by decide) (fun c_4 => ?_) (fun c_4 => ?_)
          · have n_c_4 := Nat.not_lt.mpr c_4
            refine lv_aload_n hx hb dX4_undo_71 rfl (lv_at hl 0 rfl) ?_
            refine va_get (D := D) (ci := 4) (v := .int (nI (sn - 1))) (C := RX4) (T := TX4) (N := 13) hx hb hts inX4 hown hE.1 hP 0 rfl rfl 3 (by decide) F40 (fun _ h9 => h9) rfl dX4_undo_72 ?_
            have ew : (refO r (nI 0) (nI (sn - 1)) (nI ln) (nI pm) pn (nI sta) (nI ms) hs :: (r 1, .inl (K 0, 288, .inl (bkS T T2 j))) :: sC K r sv :: bC K r cs :: pC K r pf :: fC K r fa :: Y) = (if sn = 0 then refO r (nI 1) (nI sn) (nI ln) (nI pm) pn (nI sta) (nI ms) hs :: zC K r T :: sC K r sv :: bC K r cs :: pC K r pf :: fC K r fa :: Y else refO r (nI 0) (nI (sn - 1)) (nI ln) (nI pm) pn (nI sta) (nI ms) hs :: zC K r T2 :: sC K r sv :: bC K r cs :: pC K r pf :: fC K r fa :: Y) := by have e7 : j = 288 := (by omega); subst e7; rw [if_neg (by omega), bkS_all]; rfl
            rw [ew] at hP hD
            exact wr_iret hAe hP hD hS hx hb hr hk dX4_undo_75 ⟨Nat.le_of_ble_eq_true rfl, Nat.le_of_ble_eq_true rfl⟩ (rfl)
          · have n_c_4 := Nat.not_le.mpr c_4
            refine lv_aload_n hx hb dX4_undo_44 rfl (lv_at hl 0 rfl) ?_
            refine va_get (D := D) (ci := 4) (v := .ref (r 1)) (C := RX4) (T := TX4) (N := 13) hx hb hts inX4 hown hE.1 hP 0 rfl rfl 1 (by decide) F7 (fun _ h9 => h9) rfl dX4_undo_45 ?_
            refine lv_iload_n hx hb dX4_undo_48 rfl (lv_at hl 1 rfl) ?_
            refine lv_aload_n hx hb dX4_undo_49 rfl (lv_at hl 0 rfl) ?_
            refine va_get (D := D) (ci := 4) (v := .ref (r 2)) (C := RX4) (T := TX4) (N := 13) hx hb hts inX4 hown hE.1 hP 0 rfl rfl 2 (by decide) F13 (fun _ h9 => h9) rfl dX4_undo_50 ?_
            refine lv_aload_n hx hb dX4_undo_53 rfl (lv_at hl 0 rfl) ?_
            refine va_get (D := D) (ci := 4) (v := .int (nI (sn - 1))) (C := RX4) (T := TX4) (N := 13) hx hb hts inX4 hown hE.1 hP 0 rfl rfl 3 (by decide) F40 (fun _ h9 => h9) rfl dX4_undo_54 ?_
            refine lv_sipush (v := nI 288) hx hb dX4_undo_57 (by decide) ?_
            refine nv_imul (x := sn - 1) (y := 288) hx hb dX4_undo_60 ?_
            refine lv_iload_n hx hb dX4_undo_61 rfl (lv_at hl 1 rfl) ?_
            refine nv_iadd (x := (sn - 1) * 288) (y := j) hx hb dX4_undo_62 ?_
            refine va_iald hx hb hE.1 hP 2 0 rfl rfl (pk_in (((sn - 1) * 288) + j) 1728 (by omega)) dX4_undo_63 ?_
            rw [pk_cl (((sn - 1) * 288) + j)]
            refine top_i (y := sv ((sn - 1) * 288 + j)) (rfl) ?_
            refine va_iast hx hb hE.1 hP hD hS 1 0 rfl rfl (pk_in j 288 (by omega)) dX4_undo_64 (fun H locs hP hD hS => ?_)
            rw [pk_cl j] at hP hD
            rw [bkS_up T T2 j (hsl j (by omega))] at hP hD
            have hP : va_P D vwCl (refO r (nI 0) (nI (sn - 1)) (nI ln) (nI pm) pn (nI sta) (nI ms) hs :: (r 1, .inl (K 0, 288, .inl (bkS T T2 (j + 1)))) :: sC K r sv :: bC K r cs :: pC K r pf :: fC K r fa :: Y) H := hP
            have hD : va_D A (refO r (nI 0) (nI (sn - 1)) (nI ln) (nI pm) pn (nI sta) (nI ms) hs :: (r 1, .inl (K 0, 288, .inl (bkS T T2 (j + 1)))) :: sC K r sv :: bC K r cs :: pC K r pf :: fC K r fa :: Y) := hD
            refine lv_iinc (v := nI (j + 1)) (lv' := [(1, .int (nI (j + 1))), (0, .ref (r 0))]) hx hb dX4_undo_65 hl (k := 1) rfl (nI_add _ 1) (by decide) rfl (fun ls hl => ?_)
            refine lv_goto (tgt := 37) hx hb dX4_undo_68 (by decide) ?_
            exact ih_37 (j + 1) (by omega) (by omega) _ _ hP hD hS _ rfl ls (lv_sub hl [1, 0] rfl)
      have hP : va_P D vwCl (refO r (nI 0) (nI (sn - 1)) (nI ln) (nI pm) pn (nI sta) (nI ms) hs :: (r 1, .inl (K 0, 288, .inl (bkS T T2 0))) :: sC K r sv :: bC K r cs :: pC K r pf :: fC K r fa :: Y) H := by rw [bkS_0]; exact hP
      have hD : va_D A (refO r (nI 0) (nI (sn - 1)) (nI ln) (nI pm) pn (nI sta) (nI ms) hs :: (r 1, .inl (K 0, 288, .inl (bkS T T2 0))) :: sC K r sv :: bC K r cs :: pC K r pf :: fC K r fa :: Y) := by rw [bkS_0]; exact hD
      exact loop_3 _ 0 (by decide) (Nat.lt_succ_self _) _ _ hP hD hS _ rfl ls (lv_sub hl [1, 0] rfl)
    exact absurd c_2 (by decide)
  · have n_c_1 : ¬ 0 < sn := by omega
    refine lv_iconst (v := nI 1) hx hb dX4_undo_8 (by decide) ?_
    refine lv_goto (tgt := 13) hx hb dX4_undo_9 (by decide) ?_
    refine va_put (D := D) (ci := 4) (v := .int (nI 1)) (ty := .int) (C := RX4) (T := TX4) (N := 13) hx hb hts inX4 tyX4 tyX4_ok nmX4 hown hE.1 hP hD hS 0 rfl rfl 0 (by decide) F29 (fun _ h9 => h9) rfl (by decide +kernel) rfl rfl (Nat.le_of_ble_eq_true rfl) dX4_undo_13 (fun H locs hP hD hS => ?_)
    have hP : va_P D vwCl (refO r (nI 1) (nI sn) (nI ln) (nI pm) pn (nI sta) (nI ms) hs :: zC K r T :: sC K r sv :: bC K r cs :: pC K r pf :: fC K r fa :: Y) H := hP
    have hD : va_D A (refO r (nI 1) (nI sn) (nI ln) (nI pm) pn (nI sta) (nI ms) hs :: zC K r T :: sC K r sv :: bC K r cs :: pC K r pf :: fC K r fa :: Y) := hD
    refine lv_aload_n hx hb dX4_undo_16 rfl (lv_at hl 0 rfl) ?_
    refine va_get (D := D) (ci := 4) (v := .int (nI 1)) (C := RX4) (T := TX4) (N := 13) hx hb hts inX4 hown hE.1 hP 0 rfl rfl 0 (by decide) F29 (fun _ h9 => h9) rfl dX4_undo_17 ?_
    refine nv_if_le (x := 1) (tgt := 25) hx hb dX4_undo_20 (by decide) (by decide) (fun c_5 => ?_) (fun c_5 => ?_)
    · exact absurd c_5 (by decide)
    have n_c_5 : ¬ 1 = 0 := by omega
    refine lv_iconst (v := nI 0) hx hb dX4_undo_23 (by decide) ?_
    have ew : (refO r (nI 1) (nI sn) (nI ln) (nI pm) pn (nI sta) (nI ms) hs :: zC K r T :: sC K r sv :: bC K r cs :: pC K r pf :: fC K r fa :: Y) = (if sn = 0 then refO r (nI 1) (nI sn) (nI ln) (nI pm) pn (nI sta) (nI ms) hs :: zC K r T :: sC K r sv :: bC K r cs :: pC K r pf :: fC K r fa :: Y else refO r (nI 0) (nI (sn - 1)) (nI ln) (nI pm) pn (nI sta) (nI ms) hs :: zC K r T2 :: sC K r sv :: bC K r cs :: pC K r pf :: fC K r fa :: Y) := by rw [if_pos (by omega)]
    rw [ew] at hP hD
    exact wr_iret hAe hP hD hS hx hb hr hk dX4_undo_24 ⟨Nat.le_of_ble_eq_true rfl, Nat.le_of_ble_eq_true rfl⟩ (by exact congrArg nI (by omega))
set_option maxHeartbeats 4000000 in
set_option maxRecDepth 100000 in
theorem c_X4_layIt (l : Launch) (D : va_G) (K : Nat → ClassId) (sz : Nat) (r : Nat → Nat) (th pn : Int32) (sn ln pm sta ms : Nat) (hs : Int64) (T : TW) (sv : Nat → Int32) (cs : Nat → Nat) (pf : Nat → Int32) (fa : Nat → Nat) (Y : va_W) (p f d to : Nat) (hI : Inv T) (hp : p < 4) (hf : f < 80) (hd : d < 4) (hto : nbT f d = some to) : Wr l yX4_layIt wsX4_layIt ({ frames := 3, cells := 0, slots := 0, locals := 57 } : Room) D K (refO r th (nI sn) (nI ln) (nI pm) pn (nI sta) (nI ms) hs :: zC K r T :: sC K r sv :: bC K r cs :: pC K r pf :: fC K r fa :: Y) sz [.ref (r 0), .int (nI p), .int (nI f), .int (nI d)] (refO r th (nI sn) (nI ln) (nI pm) pn (nI sta) (nI ms) hs :: zC K r (layT T p to d) :: sC K r sv :: bC K r cs :: pC K r pf :: fC K r fa :: Y) (some (.int (nI (tollT T to)))) 0 0 := by
  refine wr_intro (cc := cX4_layIt) (maxL := 7) (ret := (some .int)) (by decide) rfl (Nat.le_of_ble_eq_true rfl) ?_
  intro pr en st md ar bl mt co A hx hb hml hr hts hown hk hsz hAe hP hE hD hS hA hin ls hl
  have hown : st.vm.findClass RX4 = some md.cls := hown
  have hl : lv_has ls 7 [(0, .ref (r 0)), (1, .int (nI p)), (2, .int (nI f)), (3, .int (nI d))] := hl
  have hto80 := nb_lt hf to hto
  obtain ⟨H, hH⟩ : ∃ z, z = st.heap := ⟨_, rfl⟩
  obtain ⟨locs, hlo⟩ : ∃ z : List Loc, z = [] := ⟨_, rfl⟩
  have hP : va_P D vwCl (refO r th (nI sn) (nI ln) (nI pm) pn (nI sta) (nI ms) hs :: zC K r T :: sC K r sv :: bC K r cs :: pC K r pf :: fC K r fa :: Y) H := by rw [hH]; exact hP
  have hS : va_S A st.heap H locs := by rw [hH, hlo]; exact hS
  suffices go : W pr l en (headSpec wsX4_layIt ({ frames := 3, cells := 0, slots := 0, locals := 57 } : Room)).room st md ar bl mt co H locs 0 0 (MQ bl (wrQ D (refO r th (nI sn) (nI ln) (nI pm) pn (nI sta) (nI ms) hs :: zC K r T :: sC K r sv :: bC K r cs :: pC K r pf :: fC K r fa :: Y) (refO r th (nI sn) (nI ln) (nI pm) pn (nI sta) (nI ms) hs :: zC K r (layT T p to d) :: sC K r sv :: bC K r cs :: pC K r pf :: fC K r fa :: Y) sz (some (.int (nI (tollT T to))))) ar st 0 0 A) (F0 md 0 ls []) by rw [hH, hlo] at go; exact go
  clear hH hlo
  have F7 : (Cond.fieldLink RX4 7 "TramTollsModel" "z" "[I").before ar st = true := hts _ (List.mem_of_getElem? (i := 1) rfl)
  have inX4 : ∀ w ∈ u_ws RX4 TX4 13, w ∈ wsX4_layIt := fun w h => List.mem_cons_of_mem _ (List.mem_append_right _ h)
  refine lv_iload_n hx hb dX4_layIt_0 rfl (lv_at hl 2 rfl) ?_
  refine lv_iload_n hx hb dX4_layIt_1 rfl (lv_at hl 3 rfl) ?_
  refine rd_S (rest := []) ⟨hx, hb, hml, hown, hts⟩ hP hE (c_X4_beside l D K _ f d (by omega) (by omega)) (va_cwS 2 hts gX4_layIt_X4_beside rfl rfl rfl hn_X4_beside ⟨Nat.le_of_ble_eq_true rfl, Nat.le_of_ble_eq_true rfl⟩) rfl hl.1 rfl (Nat.le_of_ble_eq_true rfl) dX4_layIt_2 ⟨Nat.le_of_ble_eq_true rfl, Nat.le_of_ble_eq_true rfl⟩ ?_
  refine top_i (y := nI to) (by rw [hto]; rfl) ?_
  refine lv_istore (lv' := [(4, .int (nI to)), (0, .ref (r 0)), (1, .int (nI p)), (2, .int (nI f)), (3, .int (nI d))]) hx hb dX4_layIt_5 hl (by decide) rfl (fun ls hl => ?_)
  refine lv_aload_n hx hb dX4_layIt_7 rfl (lv_at hl 1 rfl) ?_
  refine lv_iload hx hb dX4_layIt_8 (lv_at hl 0 rfl) ?_
  refine rd_V (rest := []) (ci := 4) (q0 := 0) ⟨hx, hb, hml, hown, hts⟩ hP hE (c_X4_toll l D K _ _ _ _ _ _ _ _ _ _ _ to hI (by omega)) (cwV 1 hts gX4_layIt_X4_toll rfl rfl rfl hd_X4_toll ⟨Nat.le_of_ble_eq_true rfl, Nat.le_of_ble_eq_true rfl⟩) rfl rfl rfl rfl hl.1 rfl (Nat.le_of_ble_eq_true rfl) dX4_layIt_10 ⟨Nat.le_of_ble_eq_true rfl, Nat.le_of_ble_eq_true rfl⟩ ?_
  have hb_1 := toll_lt (s := to) hI
  refine lv_istore (lv' := [(5, .int (nI (tollT T to))), (4, .int (nI to)), (0, .ref (r 0)), (1, .int (nI p)), (2, .int (nI f)), (3, .int (nI d))]) hx hb dX4_layIt_13 hl (by decide) rfl (fun ls hl => ?_)
  refine lv_sipush (v := nI 268) hx hb dX4_layIt_15 (by decide) ?_
  refine lv_iconst (v := nI 5) hx hb dX4_layIt_18 (by decide) ?_
  refine lv_iload_n hx hb dX4_layIt_19 rfl (lv_at hl 3 rfl) ?_
  refine nv_imul (x := 5) (y := p) hx hb dX4_layIt_20 ?_
  refine nv_iadd (x := 268) (y := 5 * p) hx hb dX4_layIt_21 ?_
  refine lv_istore (lv' := [(6, .int (nI (268 + (5 * p)))), (5, .int (nI (tollT T to))), (4, .int (nI to)), (0, .ref (r 0)), (1, .int (nI p)), (2, .int (nI f)), (3, .int (nI d))]) hx hb dX4_layIt_22 hl (by decide) rfl (fun ls hl => ?_)
  refine lv_aload_n hx hb dX4_layIt_24 rfl (lv_at hl 3 rfl) ?_
  refine va_get (D := D) (ci := 4) (v := .ref (r 1)) (C := RX4) (T := TX4) (N := 13) hx hb hts inX4 hown hE.1 hP 0 rfl rfl 1 (by decide) F7 (fun _ h9 => h9) rfl dX4_layIt_25 ?_
  refine lv_iload hx hb dX4_layIt_28 (lv_at hl 0 rfl) ?_
  refine lv_iconst (v := nI 0) hx hb dX4_layIt_30 (by decide) ?_
  refine nv_iadd (x := 268 + (5 * p)) (y := 0) hx hb dX4_layIt_31 ?_
  refine lv_dup2_11 hx hb dX4_layIt_32 rfl rfl ?_
  refine va_iald hx hb hE.1 hP 1 0 rfl rfl (pk_in ((268 + (5 * p)) + 0) 288 (by omega)) dX4_layIt_33 ?_
  rw [pk_cl ((268 + (5 * p)) + 0)]
  refine top_i (y := coT T p) ((congrArg (zT T) (show (268 + (5 * p)) + 0 = 268 + 5 * p + 0 from by omega)).trans (zT_pp (w := 0) (by omega) (by decide))) ?_
  refine lv_aload_n hx hb dX4_layIt_34 rfl (lv_at hl 3 rfl) ?_
  refine va_get (D := D) (ci := 4) (v := .ref (r 1)) (C := RX4) (T := TX4) (N := 13) hx hb hts inX4 hown hE.1 hP 0 rfl rfl 1 (by decide) F7 (fun _ h9 => h9) rfl dX4_layIt_35 ?_
  refine lv_iconst (v := nI 2) hx hb dX4_layIt_38 (by decide) ?_
  refine va_iald hx hb hE.1 hP 1 0 rfl rfl (pk_in 2 288 (by omega)) dX4_layIt_39 ?_
  rw [pk_cl 2]
  refine top_i (y := nI (stT T 2)) (((congrArg (zT T) (show 2 = 2 from by omega)).trans (zT_st (by omega))).trans (show T 10 2 = nI (stT T 2) from eq_st hI (by omega))) ?_
  have hb_2 := st_lt hI (show 2 < 3 by omega)
  refine lv_iload hx hb dX4_layIt_40 (lv_at hl 1 rfl) ?_
  refine lv_isub (x := nI (stT T 2)) (y := nI (tollT T to)) hx hb dX4_layIt_42 ?_
  refine lv_iadd (x := coT T p) (y := (nI (stT T 2)) - (nI (tollT T to))) hx hb dX4_layIt_43 ?_
  refine va_iast hx hb hE.1 hP hD hS 1 0 rfl rfl (pk_in ((268 + (5 * p)) + 0) 288 (by omega)) dX4_layIt_44 (fun H locs hP hD hS => ?_)
  rw [pk_cl ((268 + (5 * p)) + 0)] at hP hD
  rw [show upd (zT T) ((268 + (5 * p)) + 0) ((coT T p) + ((nI (stT T 2)) - (nI (tollT T to)))) = zT (setT T 5 p ((coT T p) + ((nI (stT T 2)) - (nI (tollT T to))))) from (congrArg (fun k_ => upd (zT T) k_ ((coT T p) + ((nI (stT T 2)) - (nI (tollT T to))))) (show (268 + (5 * p)) + 0 = 268 + 5 * p + 0 from by omega)).trans (zU_pp (w := 0) (by omega) (by decide))] at hP hD
  have hP : va_P D vwCl (refO r th (nI sn) (nI ln) (nI pm) pn (nI sta) (nI ms) hs :: zC K r (setT T 5 p ((coT T p) + ((nI (stT T 2)) - (nI (tollT T to))))) :: sC K r sv :: bC K r cs :: pC K r pf :: fC K r fa :: Y) H := hP
  have hD : va_D A (refO r th (nI sn) (nI ln) (nI pm) pn (nI sta) (nI ms) hs :: zC K r (setT T 5 p ((coT T p) + ((nI (stT T 2)) - (nI (tollT T to))))) :: sC K r sv :: bC K r cs :: pC K r pf :: fC K r fa :: Y) := hD
  refine lv_aload_n hx hb dX4_layIt_45 rfl (lv_at hl 3 rfl) ?_
  refine va_get (D := D) (ci := 4) (v := .ref (r 1)) (C := RX4) (T := TX4) (N := 13) hx hb hts inX4 hown hE.1 hP 0 rfl rfl 1 (by decide) F7 (fun _ h9 => h9) rfl dX4_layIt_46 ?_
  refine lv_iload hx hb dX4_layIt_49 (lv_at hl 0 rfl) ?_
  refine lv_iconst (v := nI 3) hx hb dX4_layIt_51 (by decide) ?_
  refine nv_iadd (x := 268 + (5 * p)) (y := 3) hx hb dX4_layIt_52 ?_
  refine lv_dup2_11 hx hb dX4_layIt_53 rfl rfl ?_
  refine va_iald hx hb hE.1 hP 1 0 rfl rfl (pk_in ((268 + (5 * p)) + 3) 288 (by omega)) dX4_layIt_54 ?_
  rw [pk_cl ((268 + (5 * p)) + 3)]
  refine top_i (y := (setT T 5 p ((coT T p) + ((nI (stT T 2)) - (nI (tollT T to))))) 8 p) ((congrArg (zT (setT T 5 p ((coT T p) + ((nI (stT T 2)) - (nI (tollT T to)))))) (show (268 + (5 * p)) + 3 = 268 + 5 * p + 3 from by omega)).trans (zT_pp (w := 3) (by omega) (by decide))) ?_
  refine lv_iload hx hb dX4_layIt_55 (lv_at hl 1 rfl) ?_
  refine lv_iadd (x := (setT T 5 p ((coT T p) + ((nI (stT T 2)) - (nI (tollT T to))))) 8 p) (y := nI (tollT T to)) hx hb dX4_layIt_57 ?_
  refine va_iast hx hb hE.1 hP hD hS 1 0 rfl rfl (pk_in ((268 + (5 * p)) + 3) 288 (by omega)) dX4_layIt_58 (fun H locs hP hD hS => ?_)
  rw [pk_cl ((268 + (5 * p)) + 3)] at hP hD
  rw [show upd (zT (setT T 5 p ((coT T p) + ((nI (stT T 2)) - (nI (tollT T to)))))) ((268 + (5 * p)) + 3) (((setT T 5 p ((coT T p) + ((nI (stT T 2)) - (nI (tollT T to))))) 8 p) + (nI (tollT T to))) = zT (setT (setT T 5 p ((coT T p) + ((nI (stT T 2)) - (nI (tollT T to))))) 8 p (((setT T 5 p ((coT T p) + ((nI (stT T 2)) - (nI (tollT T to))))) 8 p) + (nI (tollT T to)))) from (congrArg (fun k_ => upd (zT (setT T 5 p ((coT T p) + ((nI (stT T 2)) - (nI (tollT T to)))))) k_ (((setT T 5 p ((coT T p) + ((nI (stT T 2)) - (nI (tollT T to))))) 8 p) + (nI (tollT T to)))) (show (268 + (5 * p)) + 3 = 268 + 5 * p + 3 from by omega)).trans (zU_pp (w := 3) (by omega) (by decide))] at hP hD
  have hP : va_P D vwCl (refO r th (nI sn) (nI ln) (nI pm) pn (nI sta) (nI ms) hs :: zC K r (setT (setT T 5 p ((coT T p) + ((nI (stT T 2)) - (nI (tollT T to))))) 8 p (((setT T 5 p ((coT T p) + ((nI (stT T 2)) - (nI (tollT T to))))) 8 p) + (nI (tollT T to)))) :: sC K r sv :: bC K r cs :: pC K r pf :: fC K r fa :: Y) H := hP
  have hD : va_D A (refO r th (nI sn) (nI ln) (nI pm) pn (nI sta) (nI ms) hs :: zC K r (setT (setT T 5 p ((coT T p) + ((nI (stT T 2)) - (nI (tollT T to))))) 8 p (((setT T 5 p ((coT T p) + ((nI (stT T 2)) - (nI (tollT T to))))) 8 p) + (nI (tollT T to)))) :: sC K r sv :: bC K r cs :: pC K r pf :: fC K r fa :: Y) := hD
  refine lv_aload_n hx hb dX4_layIt_59 rfl (lv_at hl 3 rfl) ?_
  refine va_get (D := D) (ci := 4) (v := .ref (r 1)) (C := RX4) (T := TX4) (N := 13) hx hb hts inX4 hown hE.1 hP 0 rfl rfl 1 (by decide) F7 (fun _ h9 => h9) rfl dX4_layIt_60 ?_
  refine lv_iload hx hb dX4_layIt_63 (lv_at hl 0 rfl) ?_
  refine lv_iconst (v := nI 1) hx hb dX4_layIt_65 (by decide) ?_
  refine nv_iadd (x := 268 + (5 * p)) (y := 1) hx hb dX4_layIt_66 ?_
  refine lv_iload hx hb dX4_layIt_67 (lv_at hl 2 rfl) ?_
  refine va_iast hx hb hE.1 hP hD hS 1 0 rfl rfl (pk_in ((268 + (5 * p)) + 1) 288 (by omega)) dX4_layIt_69 (fun H locs hP hD hS => ?_)
  rw [pk_cl ((268 + (5 * p)) + 1)] at hP hD
  rw [show upd (zT (setT (setT T 5 p ((coT T p) + ((nI (stT T 2)) - (nI (tollT T to))))) 8 p (((setT T 5 p ((coT T p) + ((nI (stT T 2)) - (nI (tollT T to))))) 8 p) + (nI (tollT T to))))) ((268 + (5 * p)) + 1) (nI to) = zT (setT (setT (setT T 5 p ((coT T p) + ((nI (stT T 2)) - (nI (tollT T to))))) 8 p (((setT T 5 p ((coT T p) + ((nI (stT T 2)) - (nI (tollT T to))))) 8 p) + (nI (tollT T to)))) 6 p (nI to)) from (congrArg (fun k_ => upd (zT (setT (setT T 5 p ((coT T p) + ((nI (stT T 2)) - (nI (tollT T to))))) 8 p (((setT T 5 p ((coT T p) + ((nI (stT T 2)) - (nI (tollT T to))))) 8 p) + (nI (tollT T to))))) k_ (nI to)) (show (268 + (5 * p)) + 1 = 268 + 5 * p + 1 from by omega)).trans (zU_pp (w := 1) (by omega) (by decide))] at hP hD
  have hP : va_P D vwCl (refO r th (nI sn) (nI ln) (nI pm) pn (nI sta) (nI ms) hs :: zC K r (setT (setT (setT T 5 p ((coT T p) + ((nI (stT T 2)) - (nI (tollT T to))))) 8 p (((setT T 5 p ((coT T p) + ((nI (stT T 2)) - (nI (tollT T to))))) 8 p) + (nI (tollT T to)))) 6 p (nI to)) :: sC K r sv :: bC K r cs :: pC K r pf :: fC K r fa :: Y) H := hP
  have hD : va_D A (refO r th (nI sn) (nI ln) (nI pm) pn (nI sta) (nI ms) hs :: zC K r (setT (setT (setT T 5 p ((coT T p) + ((nI (stT T 2)) - (nI (tollT T to))))) 8 p (((setT T 5 p ((coT T p) + ((nI (stT T 2)) - (nI (tollT T to))))) 8 p) + (nI (tollT T to)))) 6 p (nI to)) :: sC K r sv :: bC K r cs :: pC K r pf :: fC K r fa :: Y) := hD
  refine lv_aload_n hx hb dX4_layIt_70 rfl (lv_at hl 3 rfl) ?_
  refine va_get (D := D) (ci := 4) (v := .ref (r 1)) (C := RX4) (T := TX4) (N := 13) hx hb hts inX4 hown hE.1 hP 0 rfl rfl 1 (by decide) F7 (fun _ h9 => h9) rfl dX4_layIt_71 ?_
  refine lv_iload hx hb dX4_layIt_74 (lv_at hl 0 rfl) ?_
  refine lv_iconst (v := nI 2) hx hb dX4_layIt_76 (by decide) ?_
  refine nv_iadd (x := 268 + (5 * p)) (y := 2) hx hb dX4_layIt_77 ?_
  refine lv_iload_n hx hb dX4_layIt_78 rfl (lv_at hl 6 rfl) ?_
  refine va_iast hx hb hE.1 hP hD hS 1 0 rfl rfl (pk_in ((268 + (5 * p)) + 2) 288 (by omega)) dX4_layIt_79 (fun H locs hP hD hS => ?_)
  rw [pk_cl ((268 + (5 * p)) + 2)] at hP hD
  rw [show upd (zT (setT (setT (setT T 5 p ((coT T p) + ((nI (stT T 2)) - (nI (tollT T to))))) 8 p (((setT T 5 p ((coT T p) + ((nI (stT T 2)) - (nI (tollT T to))))) 8 p) + (nI (tollT T to)))) 6 p (nI to))) ((268 + (5 * p)) + 2) (nI d) = zT (setT (setT (setT (setT T 5 p ((coT T p) + ((nI (stT T 2)) - (nI (tollT T to))))) 8 p (((setT T 5 p ((coT T p) + ((nI (stT T 2)) - (nI (tollT T to))))) 8 p) + (nI (tollT T to)))) 6 p (nI to)) 7 p (nI d)) from (congrArg (fun k_ => upd (zT (setT (setT (setT T 5 p ((coT T p) + ((nI (stT T 2)) - (nI (tollT T to))))) 8 p (((setT T 5 p ((coT T p) + ((nI (stT T 2)) - (nI (tollT T to))))) 8 p) + (nI (tollT T to)))) 6 p (nI to))) k_ (nI d)) (show (268 + (5 * p)) + 2 = 268 + 5 * p + 2 from by omega)).trans (zU_pp (w := 2) (by omega) (by decide))] at hP hD
  have hP : va_P D vwCl (refO r th (nI sn) (nI ln) (nI pm) pn (nI sta) (nI ms) hs :: zC K r (setT (setT (setT (setT T 5 p ((coT T p) + ((nI (stT T 2)) - (nI (tollT T to))))) 8 p (((setT T 5 p ((coT T p) + ((nI (stT T 2)) - (nI (tollT T to))))) 8 p) + (nI (tollT T to)))) 6 p (nI to)) 7 p (nI d)) :: sC K r sv :: bC K r cs :: pC K r pf :: fC K r fa :: Y) H := hP
  have hD : va_D A (refO r th (nI sn) (nI ln) (nI pm) pn (nI sta) (nI ms) hs :: zC K r (setT (setT (setT (setT T 5 p ((coT T p) + ((nI (stT T 2)) - (nI (tollT T to))))) 8 p (((setT T 5 p ((coT T p) + ((nI (stT T 2)) - (nI (tollT T to))))) 8 p) + (nI (tollT T to)))) 6 p (nI to)) 7 p (nI d)) :: sC K r sv :: bC K r cs :: pC K r pf :: fC K r fa :: Y) := hD
  refine lv_aload_n hx hb dX4_layIt_80 rfl (lv_at hl 3 rfl) ?_
  refine va_get (D := D) (ci := 4) (v := .ref (r 1)) (C := RX4) (T := TX4) (N := 13) hx hb hts inX4 hown hE.1 hP 0 rfl rfl 1 (by decide) F7 (fun _ h9 => h9) rfl dX4_layIt_81 ?_
  refine lv_sipush (v := nI 164) hx hb dX4_layIt_84 (by decide) ?_
  refine lv_iload hx hb dX4_layIt_87 (lv_at hl 2 rfl) ?_
  refine nv_iadd (x := 164) (y := to) hx hb dX4_layIt_89 ?_
  refine va_iald hx hb hE.1 hP 1 0 rfl rfl (pk_in (164 + to) 288 (by omega)) dX4_layIt_90 ?_
  rw [pk_cl (164 + to)]
  refine top_i (y := oI (owT T to)) (((congrArg (zT (setT (setT (setT (setT T 5 p ((coT T p) + ((nI (stT T 2)) - (nI (tollT T to))))) 8 p (((setT T 5 p ((coT T p) + ((nI (stT T 2)) - (nI (tollT T to))))) 8 p) + (nI (tollT T to)))) 6 p (nI to)) 7 p (nI d))) (show 164 + to = 164 + to from by omega)).trans (zT_ow (by omega))).trans (show T 2 to = oI (owT T to) from eq_ow hI (by omega))) ?_
  refine lv_iconst (v := -1) hx hb dX4_layIt_91 (by decide) ?_
  refine ov_icmp_ne (tgt := 110) hx hb dX4_layIt_92 (by decide) (lt31 (ow_lt hI (s := to) (by omega)) (by decide)) (fun k_4 c_3 => ?_) (fun c_3 => ?_)
  · have hk_c_3 := (ow_lt hI (s := to) (by omega)) k_4 c_3
    refine lv_aload_n hx hb dX4_layIt_110 rfl (lv_at hl 3 rfl) ?_
    refine va_get (D := D) (ci := 4) (v := .ref (r 1)) (C := RX4) (T := TX4) (N := 13) hx hb hts inX4 hown hE.1 hP 0 rfl rfl 1 (by decide) F7 (fun _ h9 => h9) rfl dX4_layIt_111 ?_
    refine lv_sipush (v := nI 268) hx hb dX4_layIt_114 (by decide) ?_
    refine lv_iconst (v := nI 5) hx hb dX4_layIt_117 (by decide) ?_
    refine lv_aload_n hx hb dX4_layIt_118 rfl (lv_at hl 3 rfl) ?_
    refine va_get (D := D) (ci := 4) (v := .ref (r 1)) (C := RX4) (T := TX4) (N := 13) hx hb hts inX4 hown hE.1 hP 0 rfl rfl 1 (by decide) F7 (fun _ h9 => h9) rfl dX4_layIt_119 ?_
    refine lv_sipush (v := nI 164) hx hb dX4_layIt_122 (by decide) ?_
    refine lv_iload hx hb dX4_layIt_125 (lv_at hl 2 rfl) ?_
    refine nv_iadd (x := 164) (y := to) hx hb dX4_layIt_127 ?_
    refine va_iald hx hb hE.1 hP 1 0 rfl rfl (pk_in (164 + to) 288 (by omega)) dX4_layIt_128 ?_
    rw [pk_cl (164 + to)]
    refine top_i (y := oI (owT T to)) (((congrArg (zT (setT (setT (setT (setT T 5 p ((coT T p) + ((nI (stT T 2)) - (nI (tollT T to))))) 8 p (((setT T 5 p ((coT T p) + ((nI (stT T 2)) - (nI (tollT T to))))) 8 p) + (nI (tollT T to)))) 6 p (nI to)) 7 p (nI d))) (show 164 + to = 164 + to from by omega)).trans (zT_ow (by omega))).trans (show T 2 to = oI (owT T to) from eq_ow hI (by omega))) ?_
    refine top_i (y := nI k_4) (by rw [c_3]; rfl) ?_
    refine nv_imul (x := 5) (y := k_4) hx hb dX4_layIt_129 ?_
    refine nv_iadd (x := 268) (y := 5 * k_4) hx hb dX4_layIt_130 ?_
    refine lv_iconst (v := nI 0) hx hb dX4_layIt_131 (by decide) ?_
    refine nv_iadd (x := 268 + (5 * k_4)) (y := 0) hx hb dX4_layIt_132 ?_
    refine lv_dup2_11 hx hb dX4_layIt_133 rfl rfl ?_
    refine va_iald hx hb hE.1 hP 1 0 rfl rfl (pk_in ((268 + (5 * k_4)) + 0) 288 (by omega)) dX4_layIt_134 ?_
    rw [pk_cl ((268 + (5 * k_4)) + 0)]
    refine top_i (y := (setT (setT (setT (setT T 5 p ((coT T p) + ((nI (stT T 2)) - (nI (tollT T to))))) 8 p (((setT T 5 p ((coT T p) + ((nI (stT T 2)) - (nI (tollT T to))))) 8 p) + (nI (tollT T to)))) 6 p (nI to)) 7 p (nI d)) 5 k_4) ((congrArg (zT (setT (setT (setT (setT T 5 p ((coT T p) + ((nI (stT T 2)) - (nI (tollT T to))))) 8 p (((setT T 5 p ((coT T p) + ((nI (stT T 2)) - (nI (tollT T to))))) 8 p) + (nI (tollT T to)))) 6 p (nI to)) 7 p (nI d))) (show (268 + (5 * k_4)) + 0 = 268 + 5 * k_4 + 0 from by omega)).trans (zT_pp (w := 0) (by omega) (by decide))) ?_
    refine lv_iload hx hb dX4_layIt_135 (lv_at hl 1 rfl) ?_
    refine lv_iadd (x := (setT (setT (setT (setT T 5 p ((coT T p) + ((nI (stT T 2)) - (nI (tollT T to))))) 8 p (((setT T 5 p ((coT T p) + ((nI (stT T 2)) - (nI (tollT T to))))) 8 p) + (nI (tollT T to)))) 6 p (nI to)) 7 p (nI d)) 5 k_4) (y := nI (tollT T to)) hx hb dX4_layIt_137 ?_
    refine va_iast hx hb hE.1 hP hD hS 1 0 rfl rfl (pk_in ((268 + (5 * k_4)) + 0) 288 (by omega)) dX4_layIt_138 (fun H locs hP hD hS => ?_)
    rw [pk_cl ((268 + (5 * k_4)) + 0)] at hP hD
    rw [show upd (zT (setT (setT (setT (setT T 5 p ((coT T p) + ((nI (stT T 2)) - (nI (tollT T to))))) 8 p (((setT T 5 p ((coT T p) + ((nI (stT T 2)) - (nI (tollT T to))))) 8 p) + (nI (tollT T to)))) 6 p (nI to)) 7 p (nI d))) ((268 + (5 * k_4)) + 0) (((setT (setT (setT (setT T 5 p ((coT T p) + ((nI (stT T 2)) - (nI (tollT T to))))) 8 p (((setT T 5 p ((coT T p) + ((nI (stT T 2)) - (nI (tollT T to))))) 8 p) + (nI (tollT T to)))) 6 p (nI to)) 7 p (nI d)) 5 k_4) + (nI (tollT T to))) = zT (setT (setT (setT (setT (setT T 5 p ((coT T p) + ((nI (stT T 2)) - (nI (tollT T to))))) 8 p (((setT T 5 p ((coT T p) + ((nI (stT T 2)) - (nI (tollT T to))))) 8 p) + (nI (tollT T to)))) 6 p (nI to)) 7 p (nI d)) 5 k_4 (((setT (setT (setT (setT T 5 p ((coT T p) + ((nI (stT T 2)) - (nI (tollT T to))))) 8 p (((setT T 5 p ((coT T p) + ((nI (stT T 2)) - (nI (tollT T to))))) 8 p) + (nI (tollT T to)))) 6 p (nI to)) 7 p (nI d)) 5 k_4) + (nI (tollT T to)))) from (congrArg (fun k_ => upd (zT (setT (setT (setT (setT T 5 p ((coT T p) + ((nI (stT T 2)) - (nI (tollT T to))))) 8 p (((setT T 5 p ((coT T p) + ((nI (stT T 2)) - (nI (tollT T to))))) 8 p) + (nI (tollT T to)))) 6 p (nI to)) 7 p (nI d))) k_ (((setT (setT (setT (setT T 5 p ((coT T p) + ((nI (stT T 2)) - (nI (tollT T to))))) 8 p (((setT T 5 p ((coT T p) + ((nI (stT T 2)) - (nI (tollT T to))))) 8 p) + (nI (tollT T to)))) 6 p (nI to)) 7 p (nI d)) 5 k_4) + (nI (tollT T to)))) (show (268 + (5 * k_4)) + 0 = 268 + 5 * k_4 + 0 from by omega)).trans (zU_pp (w := 0) (by omega) (by decide))] at hP hD
    have hP : va_P D vwCl (refO r th (nI sn) (nI ln) (nI pm) pn (nI sta) (nI ms) hs :: zC K r (setT (setT (setT (setT (setT T 5 p ((coT T p) + ((nI (stT T 2)) - (nI (tollT T to))))) 8 p (((setT T 5 p ((coT T p) + ((nI (stT T 2)) - (nI (tollT T to))))) 8 p) + (nI (tollT T to)))) 6 p (nI to)) 7 p (nI d)) 5 k_4 (((setT (setT (setT (setT T 5 p ((coT T p) + ((nI (stT T 2)) - (nI (tollT T to))))) 8 p (((setT T 5 p ((coT T p) + ((nI (stT T 2)) - (nI (tollT T to))))) 8 p) + (nI (tollT T to)))) 6 p (nI to)) 7 p (nI d)) 5 k_4) + (nI (tollT T to)))) :: sC K r sv :: bC K r cs :: pC K r pf :: fC K r fa :: Y) H := hP
    have hD : va_D A (refO r th (nI sn) (nI ln) (nI pm) pn (nI sta) (nI ms) hs :: zC K r (setT (setT (setT (setT (setT T 5 p ((coT T p) + ((nI (stT T 2)) - (nI (tollT T to))))) 8 p (((setT T 5 p ((coT T p) + ((nI (stT T 2)) - (nI (tollT T to))))) 8 p) + (nI (tollT T to)))) 6 p (nI to)) 7 p (nI d)) 5 k_4 (((setT (setT (setT (setT T 5 p ((coT T p) + ((nI (stT T 2)) - (nI (tollT T to))))) 8 p (((setT T 5 p ((coT T p) + ((nI (stT T 2)) - (nI (tollT T to))))) 8 p) + (nI (tollT T to)))) 6 p (nI to)) 7 p (nI d)) 5 k_4) + (nI (tollT T to)))) :: sC K r sv :: bC K r cs :: pC K r pf :: fC K r fa :: Y) := hD
    refine lv_aload_n hx hb dX4_layIt_139 rfl (lv_at hl 3 rfl) ?_
    refine va_get (D := D) (ci := 4) (v := .ref (r 1)) (C := RX4) (T := TX4) (N := 13) hx hb hts inX4 hown hE.1 hP 0 rfl rfl 1 (by decide) F7 (fun _ h9 => h9) rfl dX4_layIt_140 ?_
    refine lv_sipush (v := nI 268) hx hb dX4_layIt_143 (by decide) ?_
    refine lv_iconst (v := nI 5) hx hb dX4_layIt_146 (by decide) ?_
    refine lv_aload_n hx hb dX4_layIt_147 rfl (lv_at hl 3 rfl) ?_
    refine va_get (D := D) (ci := 4) (v := .ref (r 1)) (C := RX4) (T := TX4) (N := 13) hx hb hts inX4 hown hE.1 hP 0 rfl rfl 1 (by decide) F7 (fun _ h9 => h9) rfl dX4_layIt_148 ?_
    refine lv_sipush (v := nI 164) hx hb dX4_layIt_151 (by decide) ?_
    refine lv_iload hx hb dX4_layIt_154 (lv_at hl 2 rfl) ?_
    refine nv_iadd (x := 164) (y := to) hx hb dX4_layIt_156 ?_
    refine va_iald hx hb hE.1 hP 1 0 rfl rfl (pk_in (164 + to) 288 (by omega)) dX4_layIt_157 ?_
    rw [pk_cl (164 + to)]
    refine top_i (y := oI (owT T to)) (((congrArg (zT (setT (setT (setT (setT (setT T 5 p ((coT T p) + ((nI (stT T 2)) - (nI (tollT T to))))) 8 p (((setT T 5 p ((coT T p) + ((nI (stT T 2)) - (nI (tollT T to))))) 8 p) + (nI (tollT T to)))) 6 p (nI to)) 7 p (nI d)) 5 k_4 (((setT (setT (setT (setT T 5 p ((coT T p) + ((nI (stT T 2)) - (nI (tollT T to))))) 8 p (((setT T 5 p ((coT T p) + ((nI (stT T 2)) - (nI (tollT T to))))) 8 p) + (nI (tollT T to)))) 6 p (nI to)) 7 p (nI d)) 5 k_4) + (nI (tollT T to))))) (show 164 + to = 164 + to from by omega)).trans (zT_ow (by omega))).trans (show T 2 to = oI (owT T to) from eq_ow hI (by omega))) ?_
    refine top_i (y := nI k_4) (by rw [c_3]; rfl) ?_
    refine nv_imul (x := 5) (y := k_4) hx hb dX4_layIt_158 ?_
    refine nv_iadd (x := 268) (y := 5 * k_4) hx hb dX4_layIt_159 ?_
    refine lv_iconst (v := nI 4) hx hb dX4_layIt_160 (by decide) ?_
    refine nv_iadd (x := 268 + (5 * k_4)) (y := 4) hx hb dX4_layIt_161 ?_
    refine lv_dup2_11 hx hb dX4_layIt_162 rfl rfl ?_
    refine va_iald hx hb hE.1 hP 1 0 rfl rfl (pk_in ((268 + (5 * k_4)) + 4) 288 (by omega)) dX4_layIt_163 ?_
    rw [pk_cl ((268 + (5 * k_4)) + 4)]
    refine top_i (y := (setT (setT (setT (setT (setT T 5 p ((coT T p) + ((nI (stT T 2)) - (nI (tollT T to))))) 8 p (((setT T 5 p ((coT T p) + ((nI (stT T 2)) - (nI (tollT T to))))) 8 p) + (nI (tollT T to)))) 6 p (nI to)) 7 p (nI d)) 5 k_4 (((setT (setT (setT (setT T 5 p ((coT T p) + ((nI (stT T 2)) - (nI (tollT T to))))) 8 p (((setT T 5 p ((coT T p) + ((nI (stT T 2)) - (nI (tollT T to))))) 8 p) + (nI (tollT T to)))) 6 p (nI to)) 7 p (nI d)) 5 k_4) + (nI (tollT T to)))) 9 k_4) ((congrArg (zT (setT (setT (setT (setT (setT T 5 p ((coT T p) + ((nI (stT T 2)) - (nI (tollT T to))))) 8 p (((setT T 5 p ((coT T p) + ((nI (stT T 2)) - (nI (tollT T to))))) 8 p) + (nI (tollT T to)))) 6 p (nI to)) 7 p (nI d)) 5 k_4 (((setT (setT (setT (setT T 5 p ((coT T p) + ((nI (stT T 2)) - (nI (tollT T to))))) 8 p (((setT T 5 p ((coT T p) + ((nI (stT T 2)) - (nI (tollT T to))))) 8 p) + (nI (tollT T to)))) 6 p (nI to)) 7 p (nI d)) 5 k_4) + (nI (tollT T to))))) (show (268 + (5 * k_4)) + 4 = 268 + 5 * k_4 + 4 from by omega)).trans (zT_pp (w := 4) (by omega) (by decide))) ?_
    refine lv_iload hx hb dX4_layIt_164 (lv_at hl 1 rfl) ?_
    refine lv_iadd (x := (setT (setT (setT (setT (setT T 5 p ((coT T p) + ((nI (stT T 2)) - (nI (tollT T to))))) 8 p (((setT T 5 p ((coT T p) + ((nI (stT T 2)) - (nI (tollT T to))))) 8 p) + (nI (tollT T to)))) 6 p (nI to)) 7 p (nI d)) 5 k_4 (((setT (setT (setT (setT T 5 p ((coT T p) + ((nI (stT T 2)) - (nI (tollT T to))))) 8 p (((setT T 5 p ((coT T p) + ((nI (stT T 2)) - (nI (tollT T to))))) 8 p) + (nI (tollT T to)))) 6 p (nI to)) 7 p (nI d)) 5 k_4) + (nI (tollT T to)))) 9 k_4) (y := nI (tollT T to)) hx hb dX4_layIt_166 ?_
    refine va_iast hx hb hE.1 hP hD hS 1 0 rfl rfl (pk_in ((268 + (5 * k_4)) + 4) 288 (by omega)) dX4_layIt_167 (fun H locs hP hD hS => ?_)
    rw [pk_cl ((268 + (5 * k_4)) + 4)] at hP hD
    rw [show upd (zT (setT (setT (setT (setT (setT T 5 p ((coT T p) + ((nI (stT T 2)) - (nI (tollT T to))))) 8 p (((setT T 5 p ((coT T p) + ((nI (stT T 2)) - (nI (tollT T to))))) 8 p) + (nI (tollT T to)))) 6 p (nI to)) 7 p (nI d)) 5 k_4 (((setT (setT (setT (setT T 5 p ((coT T p) + ((nI (stT T 2)) - (nI (tollT T to))))) 8 p (((setT T 5 p ((coT T p) + ((nI (stT T 2)) - (nI (tollT T to))))) 8 p) + (nI (tollT T to)))) 6 p (nI to)) 7 p (nI d)) 5 k_4) + (nI (tollT T to))))) ((268 + (5 * k_4)) + 4) (((setT (setT (setT (setT (setT T 5 p ((coT T p) + ((nI (stT T 2)) - (nI (tollT T to))))) 8 p (((setT T 5 p ((coT T p) + ((nI (stT T 2)) - (nI (tollT T to))))) 8 p) + (nI (tollT T to)))) 6 p (nI to)) 7 p (nI d)) 5 k_4 (((setT (setT (setT (setT T 5 p ((coT T p) + ((nI (stT T 2)) - (nI (tollT T to))))) 8 p (((setT T 5 p ((coT T p) + ((nI (stT T 2)) - (nI (tollT T to))))) 8 p) + (nI (tollT T to)))) 6 p (nI to)) 7 p (nI d)) 5 k_4) + (nI (tollT T to)))) 9 k_4) + (nI (tollT T to))) = zT (setT (setT (setT (setT (setT (setT T 5 p ((coT T p) + ((nI (stT T 2)) - (nI (tollT T to))))) 8 p (((setT T 5 p ((coT T p) + ((nI (stT T 2)) - (nI (tollT T to))))) 8 p) + (nI (tollT T to)))) 6 p (nI to)) 7 p (nI d)) 5 k_4 (((setT (setT (setT (setT T 5 p ((coT T p) + ((nI (stT T 2)) - (nI (tollT T to))))) 8 p (((setT T 5 p ((coT T p) + ((nI (stT T 2)) - (nI (tollT T to))))) 8 p) + (nI (tollT T to)))) 6 p (nI to)) 7 p (nI d)) 5 k_4) + (nI (tollT T to)))) 9 k_4 (((setT (setT (setT (setT (setT T 5 p ((coT T p) + ((nI (stT T 2)) - (nI (tollT T to))))) 8 p (((setT T 5 p ((coT T p) + ((nI (stT T 2)) - (nI (tollT T to))))) 8 p) + (nI (tollT T to)))) 6 p (nI to)) 7 p (nI d)) 5 k_4 (((setT (setT (setT (setT T 5 p ((coT T p) + ((nI (stT T 2)) - (nI (tollT T to))))) 8 p (((setT T 5 p ((coT T p) + ((nI (stT T 2)) - (nI (tollT T to))))) 8 p) + (nI (tollT T to)))) 6 p (nI to)) 7 p (nI d)) 5 k_4) + (nI (tollT T to)))) 9 k_4) + (nI (tollT T to)))) from (congrArg (fun k_ => upd (zT (setT (setT (setT (setT (setT T 5 p ((coT T p) + ((nI (stT T 2)) - (nI (tollT T to))))) 8 p (((setT T 5 p ((coT T p) + ((nI (stT T 2)) - (nI (tollT T to))))) 8 p) + (nI (tollT T to)))) 6 p (nI to)) 7 p (nI d)) 5 k_4 (((setT (setT (setT (setT T 5 p ((coT T p) + ((nI (stT T 2)) - (nI (tollT T to))))) 8 p (((setT T 5 p ((coT T p) + ((nI (stT T 2)) - (nI (tollT T to))))) 8 p) + (nI (tollT T to)))) 6 p (nI to)) 7 p (nI d)) 5 k_4) + (nI (tollT T to))))) k_ (((setT (setT (setT (setT (setT T 5 p ((coT T p) + ((nI (stT T 2)) - (nI (tollT T to))))) 8 p (((setT T 5 p ((coT T p) + ((nI (stT T 2)) - (nI (tollT T to))))) 8 p) + (nI (tollT T to)))) 6 p (nI to)) 7 p (nI d)) 5 k_4 (((setT (setT (setT (setT T 5 p ((coT T p) + ((nI (stT T 2)) - (nI (tollT T to))))) 8 p (((setT T 5 p ((coT T p) + ((nI (stT T 2)) - (nI (tollT T to))))) 8 p) + (nI (tollT T to)))) 6 p (nI to)) 7 p (nI d)) 5 k_4) + (nI (tollT T to)))) 9 k_4) + (nI (tollT T to)))) (show (268 + (5 * k_4)) + 4 = 268 + 5 * k_4 + 4 from by omega)).trans (zU_pp (w := 4) (by omega) (by decide))] at hP hD
    have hP : va_P D vwCl (refO r th (nI sn) (nI ln) (nI pm) pn (nI sta) (nI ms) hs :: zC K r (setT (setT (setT (setT (setT (setT T 5 p ((coT T p) + ((nI (stT T 2)) - (nI (tollT T to))))) 8 p (((setT T 5 p ((coT T p) + ((nI (stT T 2)) - (nI (tollT T to))))) 8 p) + (nI (tollT T to)))) 6 p (nI to)) 7 p (nI d)) 5 k_4 (((setT (setT (setT (setT T 5 p ((coT T p) + ((nI (stT T 2)) - (nI (tollT T to))))) 8 p (((setT T 5 p ((coT T p) + ((nI (stT T 2)) - (nI (tollT T to))))) 8 p) + (nI (tollT T to)))) 6 p (nI to)) 7 p (nI d)) 5 k_4) + (nI (tollT T to)))) 9 k_4 (((setT (setT (setT (setT (setT T 5 p ((coT T p) + ((nI (stT T 2)) - (nI (tollT T to))))) 8 p (((setT T 5 p ((coT T p) + ((nI (stT T 2)) - (nI (tollT T to))))) 8 p) + (nI (tollT T to)))) 6 p (nI to)) 7 p (nI d)) 5 k_4 (((setT (setT (setT (setT T 5 p ((coT T p) + ((nI (stT T 2)) - (nI (tollT T to))))) 8 p (((setT T 5 p ((coT T p) + ((nI (stT T 2)) - (nI (tollT T to))))) 8 p) + (nI (tollT T to)))) 6 p (nI to)) 7 p (nI d)) 5 k_4) + (nI (tollT T to)))) 9 k_4) + (nI (tollT T to)))) :: sC K r sv :: bC K r cs :: pC K r pf :: fC K r fa :: Y) H := hP
    have hD : va_D A (refO r th (nI sn) (nI ln) (nI pm) pn (nI sta) (nI ms) hs :: zC K r (setT (setT (setT (setT (setT (setT T 5 p ((coT T p) + ((nI (stT T 2)) - (nI (tollT T to))))) 8 p (((setT T 5 p ((coT T p) + ((nI (stT T 2)) - (nI (tollT T to))))) 8 p) + (nI (tollT T to)))) 6 p (nI to)) 7 p (nI d)) 5 k_4 (((setT (setT (setT (setT T 5 p ((coT T p) + ((nI (stT T 2)) - (nI (tollT T to))))) 8 p (((setT T 5 p ((coT T p) + ((nI (stT T 2)) - (nI (tollT T to))))) 8 p) + (nI (tollT T to)))) 6 p (nI to)) 7 p (nI d)) 5 k_4) + (nI (tollT T to)))) 9 k_4 (((setT (setT (setT (setT (setT T 5 p ((coT T p) + ((nI (stT T 2)) - (nI (tollT T to))))) 8 p (((setT T 5 p ((coT T p) + ((nI (stT T 2)) - (nI (tollT T to))))) 8 p) + (nI (tollT T to)))) 6 p (nI to)) 7 p (nI d)) 5 k_4 (((setT (setT (setT (setT T 5 p ((coT T p) + ((nI (stT T 2)) - (nI (tollT T to))))) 8 p (((setT T 5 p ((coT T p) + ((nI (stT T 2)) - (nI (tollT T to))))) 8 p) + (nI (tollT T to)))) 6 p (nI to)) 7 p (nI d)) 5 k_4) + (nI (tollT T to)))) 9 k_4) + (nI (tollT T to)))) :: sC K r sv :: bC K r cs :: pC K r pf :: fC K r fa :: Y) := hD
    refine lv_aload_n hx hb dX4_layIt_168 rfl (lv_at hl 3 rfl) ?_
    refine va_get (D := D) (ci := 4) (v := .ref (r 1)) (C := RX4) (T := TX4) (N := 13) hx hb hts inX4 hown hE.1 hP 0 rfl rfl 1 (by decide) F7 (fun _ h9 => h9) rfl dX4_layIt_169 ?_
    refine lv_bipush (v := nI 84) hx hb dX4_layIt_172 (by decide) ?_
    refine lv_iload hx hb dX4_layIt_174 (lv_at hl 2 rfl) ?_
    refine nv_iadd (x := 84) (y := to) hx hb dX4_layIt_176 ?_
    refine lv_dup2_11 hx hb dX4_layIt_177 rfl rfl ?_
    refine va_iald hx hb hE.1 hP 1 0 rfl rfl (pk_in (84 + to) 288 (by omega)) dX4_layIt_178 ?_
    rw [pk_cl (84 + to)]
    refine top_i (y := nI (mkT T to)) (((congrArg (zT (setT (setT (setT (setT (setT (setT T 5 p ((coT T p) + ((nI (stT T 2)) - (nI (tollT T to))))) 8 p (((setT T 5 p ((coT T p) + ((nI (stT T 2)) - (nI (tollT T to))))) 8 p) + (nI (tollT T to)))) 6 p (nI to)) 7 p (nI d)) 5 k_4 (((setT (setT (setT (setT T 5 p ((coT T p) + ((nI (stT T 2)) - (nI (tollT T to))))) 8 p (((setT T 5 p ((coT T p) + ((nI (stT T 2)) - (nI (tollT T to))))) 8 p) + (nI (tollT T to)))) 6 p (nI to)) 7 p (nI d)) 5 k_4) + (nI (tollT T to)))) 9 k_4 (((setT (setT (setT (setT (setT T 5 p ((coT T p) + ((nI (stT T 2)) - (nI (tollT T to))))) 8 p (((setT T 5 p ((coT T p) + ((nI (stT T 2)) - (nI (tollT T to))))) 8 p) + (nI (tollT T to)))) 6 p (nI to)) 7 p (nI d)) 5 k_4 (((setT (setT (setT (setT T 5 p ((coT T p) + ((nI (stT T 2)) - (nI (tollT T to))))) 8 p (((setT T 5 p ((coT T p) + ((nI (stT T 2)) - (nI (tollT T to))))) 8 p) + (nI (tollT T to)))) 6 p (nI to)) 7 p (nI d)) 5 k_4) + (nI (tollT T to)))) 9 k_4) + (nI (tollT T to))))) (show 84 + to = 84 + to from by omega)).trans (zT_mk (by omega))).trans (show T 1 to = nI (mkT T to) from eq_mk hI (by omega))) ?_
    have hb_5 := mk_lt hI (show to < 80 by omega)
    refine lv_iconst (v := nI 1) hx hb dX4_layIt_179 (by decide) ?_
    refine lv_iload_n hx hb dX4_layIt_180 rfl (lv_at hl 4 rfl) ?_
    refine nv_ishl1 (y := p) hx hb dX4_layIt_181 (by omega) ?_
    refine nv_ior (x := mkT T to) (y := 2 ^ p) hx hb dX4_layIt_182 ?_
    refine va_iast hx hb hE.1 hP hD hS 1 0 rfl rfl (pk_in (84 + to) 288 (by omega)) dX4_layIt_183 (fun H locs hP hD hS => ?_)
    rw [pk_cl (84 + to)] at hP hD
    rw [show upd (zT (setT (setT (setT (setT (setT (setT T 5 p ((coT T p) + ((nI (stT T 2)) - (nI (tollT T to))))) 8 p (((setT T 5 p ((coT T p) + ((nI (stT T 2)) - (nI (tollT T to))))) 8 p) + (nI (tollT T to)))) 6 p (nI to)) 7 p (nI d)) 5 k_4 (((setT (setT (setT (setT T 5 p ((coT T p) + ((nI (stT T 2)) - (nI (tollT T to))))) 8 p (((setT T 5 p ((coT T p) + ((nI (stT T 2)) - (nI (tollT T to))))) 8 p) + (nI (tollT T to)))) 6 p (nI to)) 7 p (nI d)) 5 k_4) + (nI (tollT T to)))) 9 k_4 (((setT (setT (setT (setT (setT T 5 p ((coT T p) + ((nI (stT T 2)) - (nI (tollT T to))))) 8 p (((setT T 5 p ((coT T p) + ((nI (stT T 2)) - (nI (tollT T to))))) 8 p) + (nI (tollT T to)))) 6 p (nI to)) 7 p (nI d)) 5 k_4 (((setT (setT (setT (setT T 5 p ((coT T p) + ((nI (stT T 2)) - (nI (tollT T to))))) 8 p (((setT T 5 p ((coT T p) + ((nI (stT T 2)) - (nI (tollT T to))))) 8 p) + (nI (tollT T to)))) 6 p (nI to)) 7 p (nI d)) 5 k_4) + (nI (tollT T to)))) 9 k_4) + (nI (tollT T to))))) (84 + to) (nI ((mkT T to) ||| (2 ^ p))) = zT (setT (setT (setT (setT (setT (setT (setT T 5 p ((coT T p) + ((nI (stT T 2)) - (nI (tollT T to))))) 8 p (((setT T 5 p ((coT T p) + ((nI (stT T 2)) - (nI (tollT T to))))) 8 p) + (nI (tollT T to)))) 6 p (nI to)) 7 p (nI d)) 5 k_4 (((setT (setT (setT (setT T 5 p ((coT T p) + ((nI (stT T 2)) - (nI (tollT T to))))) 8 p (((setT T 5 p ((coT T p) + ((nI (stT T 2)) - (nI (tollT T to))))) 8 p) + (nI (tollT T to)))) 6 p (nI to)) 7 p (nI d)) 5 k_4) + (nI (tollT T to)))) 9 k_4 (((setT (setT (setT (setT (setT T 5 p ((coT T p) + ((nI (stT T 2)) - (nI (tollT T to))))) 8 p (((setT T 5 p ((coT T p) + ((nI (stT T 2)) - (nI (tollT T to))))) 8 p) + (nI (tollT T to)))) 6 p (nI to)) 7 p (nI d)) 5 k_4 (((setT (setT (setT (setT T 5 p ((coT T p) + ((nI (stT T 2)) - (nI (tollT T to))))) 8 p (((setT T 5 p ((coT T p) + ((nI (stT T 2)) - (nI (tollT T to))))) 8 p) + (nI (tollT T to)))) 6 p (nI to)) 7 p (nI d)) 5 k_4) + (nI (tollT T to)))) 9 k_4) + (nI (tollT T to)))) 1 to (nI ((mkT T to) ||| (2 ^ p)))) from (congrArg (fun k_ => upd (zT (setT (setT (setT (setT (setT (setT T 5 p ((coT T p) + ((nI (stT T 2)) - (nI (tollT T to))))) 8 p (((setT T 5 p ((coT T p) + ((nI (stT T 2)) - (nI (tollT T to))))) 8 p) + (nI (tollT T to)))) 6 p (nI to)) 7 p (nI d)) 5 k_4 (((setT (setT (setT (setT T 5 p ((coT T p) + ((nI (stT T 2)) - (nI (tollT T to))))) 8 p (((setT T 5 p ((coT T p) + ((nI (stT T 2)) - (nI (tollT T to))))) 8 p) + (nI (tollT T to)))) 6 p (nI to)) 7 p (nI d)) 5 k_4) + (nI (tollT T to)))) 9 k_4 (((setT (setT (setT (setT (setT T 5 p ((coT T p) + ((nI (stT T 2)) - (nI (tollT T to))))) 8 p (((setT T 5 p ((coT T p) + ((nI (stT T 2)) - (nI (tollT T to))))) 8 p) + (nI (tollT T to)))) 6 p (nI to)) 7 p (nI d)) 5 k_4 (((setT (setT (setT (setT T 5 p ((coT T p) + ((nI (stT T 2)) - (nI (tollT T to))))) 8 p (((setT T 5 p ((coT T p) + ((nI (stT T 2)) - (nI (tollT T to))))) 8 p) + (nI (tollT T to)))) 6 p (nI to)) 7 p (nI d)) 5 k_4) + (nI (tollT T to)))) 9 k_4) + (nI (tollT T to))))) k_ (nI ((mkT T to) ||| (2 ^ p)))) (show 84 + to = 84 + to from by omega)).trans (zU_mk (by omega))] at hP hD
    have hP : va_P D vwCl (refO r th (nI sn) (nI ln) (nI pm) pn (nI sta) (nI ms) hs :: zC K r (setT (setT (setT (setT (setT (setT (setT T 5 p ((coT T p) + ((nI (stT T 2)) - (nI (tollT T to))))) 8 p (((setT T 5 p ((coT T p) + ((nI (stT T 2)) - (nI (tollT T to))))) 8 p) + (nI (tollT T to)))) 6 p (nI to)) 7 p (nI d)) 5 k_4 (((setT (setT (setT (setT T 5 p ((coT T p) + ((nI (stT T 2)) - (nI (tollT T to))))) 8 p (((setT T 5 p ((coT T p) + ((nI (stT T 2)) - (nI (tollT T to))))) 8 p) + (nI (tollT T to)))) 6 p (nI to)) 7 p (nI d)) 5 k_4) + (nI (tollT T to)))) 9 k_4 (((setT (setT (setT (setT (setT T 5 p ((coT T p) + ((nI (stT T 2)) - (nI (tollT T to))))) 8 p (((setT T 5 p ((coT T p) + ((nI (stT T 2)) - (nI (tollT T to))))) 8 p) + (nI (tollT T to)))) 6 p (nI to)) 7 p (nI d)) 5 k_4 (((setT (setT (setT (setT T 5 p ((coT T p) + ((nI (stT T 2)) - (nI (tollT T to))))) 8 p (((setT T 5 p ((coT T p) + ((nI (stT T 2)) - (nI (tollT T to))))) 8 p) + (nI (tollT T to)))) 6 p (nI to)) 7 p (nI d)) 5 k_4) + (nI (tollT T to)))) 9 k_4) + (nI (tollT T to)))) 1 to (nI ((mkT T to) ||| (2 ^ p)))) :: sC K r sv :: bC K r cs :: pC K r pf :: fC K r fa :: Y) H := hP
    have hD : va_D A (refO r th (nI sn) (nI ln) (nI pm) pn (nI sta) (nI ms) hs :: zC K r (setT (setT (setT (setT (setT (setT (setT T 5 p ((coT T p) + ((nI (stT T 2)) - (nI (tollT T to))))) 8 p (((setT T 5 p ((coT T p) + ((nI (stT T 2)) - (nI (tollT T to))))) 8 p) + (nI (tollT T to)))) 6 p (nI to)) 7 p (nI d)) 5 k_4 (((setT (setT (setT (setT T 5 p ((coT T p) + ((nI (stT T 2)) - (nI (tollT T to))))) 8 p (((setT T 5 p ((coT T p) + ((nI (stT T 2)) - (nI (tollT T to))))) 8 p) + (nI (tollT T to)))) 6 p (nI to)) 7 p (nI d)) 5 k_4) + (nI (tollT T to)))) 9 k_4 (((setT (setT (setT (setT (setT T 5 p ((coT T p) + ((nI (stT T 2)) - (nI (tollT T to))))) 8 p (((setT T 5 p ((coT T p) + ((nI (stT T 2)) - (nI (tollT T to))))) 8 p) + (nI (tollT T to)))) 6 p (nI to)) 7 p (nI d)) 5 k_4 (((setT (setT (setT (setT T 5 p ((coT T p) + ((nI (stT T 2)) - (nI (tollT T to))))) 8 p (((setT T 5 p ((coT T p) + ((nI (stT T 2)) - (nI (tollT T to))))) 8 p) + (nI (tollT T to)))) 6 p (nI to)) 7 p (nI d)) 5 k_4) + (nI (tollT T to)))) 9 k_4) + (nI (tollT T to)))) 1 to (nI ((mkT T to) ||| (2 ^ p)))) :: sC K r sv :: bC K r cs :: pC K r pf :: fC K r fa :: Y) := hD
    refine lv_aload_n hx hb dX4_layIt_184 rfl (lv_at hl 3 rfl) ?_
    refine va_get (D := D) (ci := 4) (v := .ref (r 1)) (C := RX4) (T := TX4) (N := 13) hx hb hts inX4 hown hE.1 hP 0 rfl rfl 1 (by decide) F7 (fun _ h9 => h9) rfl dX4_layIt_185 ?_
    refine lv_iconst (v := nI 3) hx hb dX4_layIt_188 (by decide) ?_
    refine lv_dup2_11 hx hb dX4_layIt_189 rfl rfl ?_
    refine va_iald hx hb hE.1 hP 1 0 rfl rfl (pk_in 3 288 (by omega)) dX4_layIt_190 ?_
    rw [pk_cl 3]
    refine top_i (y := (setT (setT (setT (setT (setT (setT (setT T 5 p ((coT T p) + ((nI (stT T 2)) - (nI (tollT T to))))) 8 p (((setT T 5 p ((coT T p) + ((nI (stT T 2)) - (nI (tollT T to))))) 8 p) + (nI (tollT T to)))) 6 p (nI to)) 7 p (nI d)) 5 k_4 (((setT (setT (setT (setT T 5 p ((coT T p) + ((nI (stT T 2)) - (nI (tollT T to))))) 8 p (((setT T 5 p ((coT T p) + ((nI (stT T 2)) - (nI (tollT T to))))) 8 p) + (nI (tollT T to)))) 6 p (nI to)) 7 p (nI d)) 5 k_4) + (nI (tollT T to)))) 9 k_4 (((setT (setT (setT (setT (setT T 5 p ((coT T p) + ((nI (stT T 2)) - (nI (tollT T to))))) 8 p (((setT T 5 p ((coT T p) + ((nI (stT T 2)) - (nI (tollT T to))))) 8 p) + (nI (tollT T to)))) 6 p (nI to)) 7 p (nI d)) 5 k_4 (((setT (setT (setT (setT T 5 p ((coT T p) + ((nI (stT T 2)) - (nI (tollT T to))))) 8 p (((setT T 5 p ((coT T p) + ((nI (stT T 2)) - (nI (tollT T to))))) 8 p) + (nI (tollT T to)))) 6 p (nI to)) 7 p (nI d)) 5 k_4) + (nI (tollT T to)))) 9 k_4) + (nI (tollT T to)))) 1 to (nI ((mkT T to) ||| (2 ^ p)))) 11 0) ((congrArg (zT (setT (setT (setT (setT (setT (setT (setT T 5 p ((coT T p) + ((nI (stT T 2)) - (nI (tollT T to))))) 8 p (((setT T 5 p ((coT T p) + ((nI (stT T 2)) - (nI (tollT T to))))) 8 p) + (nI (tollT T to)))) 6 p (nI to)) 7 p (nI d)) 5 k_4 (((setT (setT (setT (setT T 5 p ((coT T p) + ((nI (stT T 2)) - (nI (tollT T to))))) 8 p (((setT T 5 p ((coT T p) + ((nI (stT T 2)) - (nI (tollT T to))))) 8 p) + (nI (tollT T to)))) 6 p (nI to)) 7 p (nI d)) 5 k_4) + (nI (tollT T to)))) 9 k_4 (((setT (setT (setT (setT (setT T 5 p ((coT T p) + ((nI (stT T 2)) - (nI (tollT T to))))) 8 p (((setT T 5 p ((coT T p) + ((nI (stT T 2)) - (nI (tollT T to))))) 8 p) + (nI (tollT T to)))) 6 p (nI to)) 7 p (nI d)) 5 k_4 (((setT (setT (setT (setT T 5 p ((coT T p) + ((nI (stT T 2)) - (nI (tollT T to))))) 8 p (((setT T 5 p ((coT T p) + ((nI (stT T 2)) - (nI (tollT T to))))) 8 p) + (nI (tollT T to)))) 6 p (nI to)) 7 p (nI d)) 5 k_4) + (nI (tollT T to)))) 9 k_4) + (nI (tollT T to)))) 1 to (nI ((mkT T to) ||| (2 ^ p))))) (show 3 = 3 from by omega)).trans (zT_pc)) ?_
    refine lv_iconst (v := nI 1) hx hb dX4_layIt_191 (by decide) ?_
    refine lv_iadd (x := (setT (setT (setT (setT (setT (setT (setT T 5 p ((coT T p) + ((nI (stT T 2)) - (nI (tollT T to))))) 8 p (((setT T 5 p ((coT T p) + ((nI (stT T 2)) - (nI (tollT T to))))) 8 p) + (nI (tollT T to)))) 6 p (nI to)) 7 p (nI d)) 5 k_4 (((setT (setT (setT (setT T 5 p ((coT T p) + ((nI (stT T 2)) - (nI (tollT T to))))) 8 p (((setT T 5 p ((coT T p) + ((nI (stT T 2)) - (nI (tollT T to))))) 8 p) + (nI (tollT T to)))) 6 p (nI to)) 7 p (nI d)) 5 k_4) + (nI (tollT T to)))) 9 k_4 (((setT (setT (setT (setT (setT T 5 p ((coT T p) + ((nI (stT T 2)) - (nI (tollT T to))))) 8 p (((setT T 5 p ((coT T p) + ((nI (stT T 2)) - (nI (tollT T to))))) 8 p) + (nI (tollT T to)))) 6 p (nI to)) 7 p (nI d)) 5 k_4 (((setT (setT (setT (setT T 5 p ((coT T p) + ((nI (stT T 2)) - (nI (tollT T to))))) 8 p (((setT T 5 p ((coT T p) + ((nI (stT T 2)) - (nI (tollT T to))))) 8 p) + (nI (tollT T to)))) 6 p (nI to)) 7 p (nI d)) 5 k_4) + (nI (tollT T to)))) 9 k_4) + (nI (tollT T to)))) 1 to (nI ((mkT T to) ||| (2 ^ p)))) 11 0) (y := nI 1) hx hb dX4_layIt_192 ?_
    refine va_iast hx hb hE.1 hP hD hS 1 0 rfl rfl (pk_in 3 288 (by omega)) dX4_layIt_193 (fun H locs hP hD hS => ?_)
    rw [pk_cl 3] at hP hD
    rw [show upd (zT (setT (setT (setT (setT (setT (setT (setT T 5 p ((coT T p) + ((nI (stT T 2)) - (nI (tollT T to))))) 8 p (((setT T 5 p ((coT T p) + ((nI (stT T 2)) - (nI (tollT T to))))) 8 p) + (nI (tollT T to)))) 6 p (nI to)) 7 p (nI d)) 5 k_4 (((setT (setT (setT (setT T 5 p ((coT T p) + ((nI (stT T 2)) - (nI (tollT T to))))) 8 p (((setT T 5 p ((coT T p) + ((nI (stT T 2)) - (nI (tollT T to))))) 8 p) + (nI (tollT T to)))) 6 p (nI to)) 7 p (nI d)) 5 k_4) + (nI (tollT T to)))) 9 k_4 (((setT (setT (setT (setT (setT T 5 p ((coT T p) + ((nI (stT T 2)) - (nI (tollT T to))))) 8 p (((setT T 5 p ((coT T p) + ((nI (stT T 2)) - (nI (tollT T to))))) 8 p) + (nI (tollT T to)))) 6 p (nI to)) 7 p (nI d)) 5 k_4 (((setT (setT (setT (setT T 5 p ((coT T p) + ((nI (stT T 2)) - (nI (tollT T to))))) 8 p (((setT T 5 p ((coT T p) + ((nI (stT T 2)) - (nI (tollT T to))))) 8 p) + (nI (tollT T to)))) 6 p (nI to)) 7 p (nI d)) 5 k_4) + (nI (tollT T to)))) 9 k_4) + (nI (tollT T to)))) 1 to (nI ((mkT T to) ||| (2 ^ p))))) 3 (((setT (setT (setT (setT (setT (setT (setT T 5 p ((coT T p) + ((nI (stT T 2)) - (nI (tollT T to))))) 8 p (((setT T 5 p ((coT T p) + ((nI (stT T 2)) - (nI (tollT T to))))) 8 p) + (nI (tollT T to)))) 6 p (nI to)) 7 p (nI d)) 5 k_4 (((setT (setT (setT (setT T 5 p ((coT T p) + ((nI (stT T 2)) - (nI (tollT T to))))) 8 p (((setT T 5 p ((coT T p) + ((nI (stT T 2)) - (nI (tollT T to))))) 8 p) + (nI (tollT T to)))) 6 p (nI to)) 7 p (nI d)) 5 k_4) + (nI (tollT T to)))) 9 k_4 (((setT (setT (setT (setT (setT T 5 p ((coT T p) + ((nI (stT T 2)) - (nI (tollT T to))))) 8 p (((setT T 5 p ((coT T p) + ((nI (stT T 2)) - (nI (tollT T to))))) 8 p) + (nI (tollT T to)))) 6 p (nI to)) 7 p (nI d)) 5 k_4 (((setT (setT (setT (setT T 5 p ((coT T p) + ((nI (stT T 2)) - (nI (tollT T to))))) 8 p (((setT T 5 p ((coT T p) + ((nI (stT T 2)) - (nI (tollT T to))))) 8 p) + (nI (tollT T to)))) 6 p (nI to)) 7 p (nI d)) 5 k_4) + (nI (tollT T to)))) 9 k_4) + (nI (tollT T to)))) 1 to (nI ((mkT T to) ||| (2 ^ p)))) 11 0) + (nI 1)) = zT (setT (setT (setT (setT (setT (setT (setT (setT T 5 p ((coT T p) + ((nI (stT T 2)) - (nI (tollT T to))))) 8 p (((setT T 5 p ((coT T p) + ((nI (stT T 2)) - (nI (tollT T to))))) 8 p) + (nI (tollT T to)))) 6 p (nI to)) 7 p (nI d)) 5 k_4 (((setT (setT (setT (setT T 5 p ((coT T p) + ((nI (stT T 2)) - (nI (tollT T to))))) 8 p (((setT T 5 p ((coT T p) + ((nI (stT T 2)) - (nI (tollT T to))))) 8 p) + (nI (tollT T to)))) 6 p (nI to)) 7 p (nI d)) 5 k_4) + (nI (tollT T to)))) 9 k_4 (((setT (setT (setT (setT (setT T 5 p ((coT T p) + ((nI (stT T 2)) - (nI (tollT T to))))) 8 p (((setT T 5 p ((coT T p) + ((nI (stT T 2)) - (nI (tollT T to))))) 8 p) + (nI (tollT T to)))) 6 p (nI to)) 7 p (nI d)) 5 k_4 (((setT (setT (setT (setT T 5 p ((coT T p) + ((nI (stT T 2)) - (nI (tollT T to))))) 8 p (((setT T 5 p ((coT T p) + ((nI (stT T 2)) - (nI (tollT T to))))) 8 p) + (nI (tollT T to)))) 6 p (nI to)) 7 p (nI d)) 5 k_4) + (nI (tollT T to)))) 9 k_4) + (nI (tollT T to)))) 1 to (nI ((mkT T to) ||| (2 ^ p)))) 11 0 (((setT (setT (setT (setT (setT (setT (setT T 5 p ((coT T p) + ((nI (stT T 2)) - (nI (tollT T to))))) 8 p (((setT T 5 p ((coT T p) + ((nI (stT T 2)) - (nI (tollT T to))))) 8 p) + (nI (tollT T to)))) 6 p (nI to)) 7 p (nI d)) 5 k_4 (((setT (setT (setT (setT T 5 p ((coT T p) + ((nI (stT T 2)) - (nI (tollT T to))))) 8 p (((setT T 5 p ((coT T p) + ((nI (stT T 2)) - (nI (tollT T to))))) 8 p) + (nI (tollT T to)))) 6 p (nI to)) 7 p (nI d)) 5 k_4) + (nI (tollT T to)))) 9 k_4 (((setT (setT (setT (setT (setT T 5 p ((coT T p) + ((nI (stT T 2)) - (nI (tollT T to))))) 8 p (((setT T 5 p ((coT T p) + ((nI (stT T 2)) - (nI (tollT T to))))) 8 p) + (nI (tollT T to)))) 6 p (nI to)) 7 p (nI d)) 5 k_4 (((setT (setT (setT (setT T 5 p ((coT T p) + ((nI (stT T 2)) - (nI (tollT T to))))) 8 p (((setT T 5 p ((coT T p) + ((nI (stT T 2)) - (nI (tollT T to))))) 8 p) + (nI (tollT T to)))) 6 p (nI to)) 7 p (nI d)) 5 k_4) + (nI (tollT T to)))) 9 k_4) + (nI (tollT T to)))) 1 to (nI ((mkT T to) ||| (2 ^ p)))) 11 0) + (nI 1))) from (congrArg (fun k_ => upd (zT (setT (setT (setT (setT (setT (setT (setT T 5 p ((coT T p) + ((nI (stT T 2)) - (nI (tollT T to))))) 8 p (((setT T 5 p ((coT T p) + ((nI (stT T 2)) - (nI (tollT T to))))) 8 p) + (nI (tollT T to)))) 6 p (nI to)) 7 p (nI d)) 5 k_4 (((setT (setT (setT (setT T 5 p ((coT T p) + ((nI (stT T 2)) - (nI (tollT T to))))) 8 p (((setT T 5 p ((coT T p) + ((nI (stT T 2)) - (nI (tollT T to))))) 8 p) + (nI (tollT T to)))) 6 p (nI to)) 7 p (nI d)) 5 k_4) + (nI (tollT T to)))) 9 k_4 (((setT (setT (setT (setT (setT T 5 p ((coT T p) + ((nI (stT T 2)) - (nI (tollT T to))))) 8 p (((setT T 5 p ((coT T p) + ((nI (stT T 2)) - (nI (tollT T to))))) 8 p) + (nI (tollT T to)))) 6 p (nI to)) 7 p (nI d)) 5 k_4 (((setT (setT (setT (setT T 5 p ((coT T p) + ((nI (stT T 2)) - (nI (tollT T to))))) 8 p (((setT T 5 p ((coT T p) + ((nI (stT T 2)) - (nI (tollT T to))))) 8 p) + (nI (tollT T to)))) 6 p (nI to)) 7 p (nI d)) 5 k_4) + (nI (tollT T to)))) 9 k_4) + (nI (tollT T to)))) 1 to (nI ((mkT T to) ||| (2 ^ p))))) k_ (((setT (setT (setT (setT (setT (setT (setT T 5 p ((coT T p) + ((nI (stT T 2)) - (nI (tollT T to))))) 8 p (((setT T 5 p ((coT T p) + ((nI (stT T 2)) - (nI (tollT T to))))) 8 p) + (nI (tollT T to)))) 6 p (nI to)) 7 p (nI d)) 5 k_4 (((setT (setT (setT (setT T 5 p ((coT T p) + ((nI (stT T 2)) - (nI (tollT T to))))) 8 p (((setT T 5 p ((coT T p) + ((nI (stT T 2)) - (nI (tollT T to))))) 8 p) + (nI (tollT T to)))) 6 p (nI to)) 7 p (nI d)) 5 k_4) + (nI (tollT T to)))) 9 k_4 (((setT (setT (setT (setT (setT T 5 p ((coT T p) + ((nI (stT T 2)) - (nI (tollT T to))))) 8 p (((setT T 5 p ((coT T p) + ((nI (stT T 2)) - (nI (tollT T to))))) 8 p) + (nI (tollT T to)))) 6 p (nI to)) 7 p (nI d)) 5 k_4 (((setT (setT (setT (setT T 5 p ((coT T p) + ((nI (stT T 2)) - (nI (tollT T to))))) 8 p (((setT T 5 p ((coT T p) + ((nI (stT T 2)) - (nI (tollT T to))))) 8 p) + (nI (tollT T to)))) 6 p (nI to)) 7 p (nI d)) 5 k_4) + (nI (tollT T to)))) 9 k_4) + (nI (tollT T to)))) 1 to (nI ((mkT T to) ||| (2 ^ p)))) 11 0) + (nI 1))) (show 3 = 3 from by omega)).trans (zU_pc)] at hP hD
    have hP : va_P D vwCl (refO r th (nI sn) (nI ln) (nI pm) pn (nI sta) (nI ms) hs :: zC K r (setT (setT (setT (setT (setT (setT (setT (setT T 5 p ((coT T p) + ((nI (stT T 2)) - (nI (tollT T to))))) 8 p (((setT T 5 p ((coT T p) + ((nI (stT T 2)) - (nI (tollT T to))))) 8 p) + (nI (tollT T to)))) 6 p (nI to)) 7 p (nI d)) 5 k_4 (((setT (setT (setT (setT T 5 p ((coT T p) + ((nI (stT T 2)) - (nI (tollT T to))))) 8 p (((setT T 5 p ((coT T p) + ((nI (stT T 2)) - (nI (tollT T to))))) 8 p) + (nI (tollT T to)))) 6 p (nI to)) 7 p (nI d)) 5 k_4) + (nI (tollT T to)))) 9 k_4 (((setT (setT (setT (setT (setT T 5 p ((coT T p) + ((nI (stT T 2)) - (nI (tollT T to))))) 8 p (((setT T 5 p ((coT T p) + ((nI (stT T 2)) - (nI (tollT T to))))) 8 p) + (nI (tollT T to)))) 6 p (nI to)) 7 p (nI d)) 5 k_4 (((setT (setT (setT (setT T 5 p ((coT T p) + ((nI (stT T 2)) - (nI (tollT T to))))) 8 p (((setT T 5 p ((coT T p) + ((nI (stT T 2)) - (nI (tollT T to))))) 8 p) + (nI (tollT T to)))) 6 p (nI to)) 7 p (nI d)) 5 k_4) + (nI (tollT T to)))) 9 k_4) + (nI (tollT T to)))) 1 to (nI ((mkT T to) ||| (2 ^ p)))) 11 0 (((setT (setT (setT (setT (setT (setT (setT T 5 p ((coT T p) + ((nI (stT T 2)) - (nI (tollT T to))))) 8 p (((setT T 5 p ((coT T p) + ((nI (stT T 2)) - (nI (tollT T to))))) 8 p) + (nI (tollT T to)))) 6 p (nI to)) 7 p (nI d)) 5 k_4 (((setT (setT (setT (setT T 5 p ((coT T p) + ((nI (stT T 2)) - (nI (tollT T to))))) 8 p (((setT T 5 p ((coT T p) + ((nI (stT T 2)) - (nI (tollT T to))))) 8 p) + (nI (tollT T to)))) 6 p (nI to)) 7 p (nI d)) 5 k_4) + (nI (tollT T to)))) 9 k_4 (((setT (setT (setT (setT (setT T 5 p ((coT T p) + ((nI (stT T 2)) - (nI (tollT T to))))) 8 p (((setT T 5 p ((coT T p) + ((nI (stT T 2)) - (nI (tollT T to))))) 8 p) + (nI (tollT T to)))) 6 p (nI to)) 7 p (nI d)) 5 k_4 (((setT (setT (setT (setT T 5 p ((coT T p) + ((nI (stT T 2)) - (nI (tollT T to))))) 8 p (((setT T 5 p ((coT T p) + ((nI (stT T 2)) - (nI (tollT T to))))) 8 p) + (nI (tollT T to)))) 6 p (nI to)) 7 p (nI d)) 5 k_4) + (nI (tollT T to)))) 9 k_4) + (nI (tollT T to)))) 1 to (nI ((mkT T to) ||| (2 ^ p)))) 11 0) + (nI 1))) :: sC K r sv :: bC K r cs :: pC K r pf :: fC K r fa :: Y) H := hP
    have hD : va_D A (refO r th (nI sn) (nI ln) (nI pm) pn (nI sta) (nI ms) hs :: zC K r (setT (setT (setT (setT (setT (setT (setT (setT T 5 p ((coT T p) + ((nI (stT T 2)) - (nI (tollT T to))))) 8 p (((setT T 5 p ((coT T p) + ((nI (stT T 2)) - (nI (tollT T to))))) 8 p) + (nI (tollT T to)))) 6 p (nI to)) 7 p (nI d)) 5 k_4 (((setT (setT (setT (setT T 5 p ((coT T p) + ((nI (stT T 2)) - (nI (tollT T to))))) 8 p (((setT T 5 p ((coT T p) + ((nI (stT T 2)) - (nI (tollT T to))))) 8 p) + (nI (tollT T to)))) 6 p (nI to)) 7 p (nI d)) 5 k_4) + (nI (tollT T to)))) 9 k_4 (((setT (setT (setT (setT (setT T 5 p ((coT T p) + ((nI (stT T 2)) - (nI (tollT T to))))) 8 p (((setT T 5 p ((coT T p) + ((nI (stT T 2)) - (nI (tollT T to))))) 8 p) + (nI (tollT T to)))) 6 p (nI to)) 7 p (nI d)) 5 k_4 (((setT (setT (setT (setT T 5 p ((coT T p) + ((nI (stT T 2)) - (nI (tollT T to))))) 8 p (((setT T 5 p ((coT T p) + ((nI (stT T 2)) - (nI (tollT T to))))) 8 p) + (nI (tollT T to)))) 6 p (nI to)) 7 p (nI d)) 5 k_4) + (nI (tollT T to)))) 9 k_4) + (nI (tollT T to)))) 1 to (nI ((mkT T to) ||| (2 ^ p)))) 11 0 (((setT (setT (setT (setT (setT (setT (setT T 5 p ((coT T p) + ((nI (stT T 2)) - (nI (tollT T to))))) 8 p (((setT T 5 p ((coT T p) + ((nI (stT T 2)) - (nI (tollT T to))))) 8 p) + (nI (tollT T to)))) 6 p (nI to)) 7 p (nI d)) 5 k_4 (((setT (setT (setT (setT T 5 p ((coT T p) + ((nI (stT T 2)) - (nI (tollT T to))))) 8 p (((setT T 5 p ((coT T p) + ((nI (stT T 2)) - (nI (tollT T to))))) 8 p) + (nI (tollT T to)))) 6 p (nI to)) 7 p (nI d)) 5 k_4) + (nI (tollT T to)))) 9 k_4 (((setT (setT (setT (setT (setT T 5 p ((coT T p) + ((nI (stT T 2)) - (nI (tollT T to))))) 8 p (((setT T 5 p ((coT T p) + ((nI (stT T 2)) - (nI (tollT T to))))) 8 p) + (nI (tollT T to)))) 6 p (nI to)) 7 p (nI d)) 5 k_4 (((setT (setT (setT (setT T 5 p ((coT T p) + ((nI (stT T 2)) - (nI (tollT T to))))) 8 p (((setT T 5 p ((coT T p) + ((nI (stT T 2)) - (nI (tollT T to))))) 8 p) + (nI (tollT T to)))) 6 p (nI to)) 7 p (nI d)) 5 k_4) + (nI (tollT T to)))) 9 k_4) + (nI (tollT T to)))) 1 to (nI ((mkT T to) ||| (2 ^ p)))) 11 0) + (nI 1))) :: sC K r sv :: bC K r cs :: pC K r pf :: fC K r fa :: Y) := hD
    refine lv_iload hx hb dX4_layIt_194 (lv_at hl 1 rfl) ?_
    have ew : (refO r th (nI sn) (nI ln) (nI pm) pn (nI sta) (nI ms) hs :: zC K r (setT (setT (setT (setT (setT (setT (setT (setT T 5 p ((coT T p) + ((nI (stT T 2)) - (nI (tollT T to))))) 8 p (((setT T 5 p ((coT T p) + ((nI (stT T 2)) - (nI (tollT T to))))) 8 p) + (nI (tollT T to)))) 6 p (nI to)) 7 p (nI d)) 5 k_4 (((setT (setT (setT (setT T 5 p ((coT T p) + ((nI (stT T 2)) - (nI (tollT T to))))) 8 p (((setT T 5 p ((coT T p) + ((nI (stT T 2)) - (nI (tollT T to))))) 8 p) + (nI (tollT T to)))) 6 p (nI to)) 7 p (nI d)) 5 k_4) + (nI (tollT T to)))) 9 k_4 (((setT (setT (setT (setT (setT T 5 p ((coT T p) + ((nI (stT T 2)) - (nI (tollT T to))))) 8 p (((setT T 5 p ((coT T p) + ((nI (stT T 2)) - (nI (tollT T to))))) 8 p) + (nI (tollT T to)))) 6 p (nI to)) 7 p (nI d)) 5 k_4 (((setT (setT (setT (setT T 5 p ((coT T p) + ((nI (stT T 2)) - (nI (tollT T to))))) 8 p (((setT T 5 p ((coT T p) + ((nI (stT T 2)) - (nI (tollT T to))))) 8 p) + (nI (tollT T to)))) 6 p (nI to)) 7 p (nI d)) 5 k_4) + (nI (tollT T to)))) 9 k_4) + (nI (tollT T to)))) 1 to (nI ((mkT T to) ||| (2 ^ p)))) 11 0 (((setT (setT (setT (setT (setT (setT (setT T 5 p ((coT T p) + ((nI (stT T 2)) - (nI (tollT T to))))) 8 p (((setT T 5 p ((coT T p) + ((nI (stT T 2)) - (nI (tollT T to))))) 8 p) + (nI (tollT T to)))) 6 p (nI to)) 7 p (nI d)) 5 k_4 (((setT (setT (setT (setT T 5 p ((coT T p) + ((nI (stT T 2)) - (nI (tollT T to))))) 8 p (((setT T 5 p ((coT T p) + ((nI (stT T 2)) - (nI (tollT T to))))) 8 p) + (nI (tollT T to)))) 6 p (nI to)) 7 p (nI d)) 5 k_4) + (nI (tollT T to)))) 9 k_4 (((setT (setT (setT (setT (setT T 5 p ((coT T p) + ((nI (stT T 2)) - (nI (tollT T to))))) 8 p (((setT T 5 p ((coT T p) + ((nI (stT T 2)) - (nI (tollT T to))))) 8 p) + (nI (tollT T to)))) 6 p (nI to)) 7 p (nI d)) 5 k_4 (((setT (setT (setT (setT T 5 p ((coT T p) + ((nI (stT T 2)) - (nI (tollT T to))))) 8 p (((setT T 5 p ((coT T p) + ((nI (stT T 2)) - (nI (tollT T to))))) 8 p) + (nI (tollT T to)))) 6 p (nI to)) 7 p (nI d)) 5 k_4) + (nI (tollT T to)))) 9 k_4) + (nI (tollT T to)))) 1 to (nI ((mkT T to) ||| (2 ^ p)))) 11 0) + (nI 1))) :: sC K r sv :: bC K r cs :: pC K r pf :: fC K r fa :: Y) = (refO r th (nI sn) (nI ln) (nI pm) pn (nI sta) (nI ms) hs :: zC K r (layT T p to d) :: sC K r sv :: bC K r cs :: pC K r pf :: fC K r fa :: Y) := by exact congrArg (fun T9 => refO r th (nI sn) (nI ln) (nI pm) pn (nI sta) (nI ms) hs :: zC K r T9 :: sC K r sv :: bC K r cs :: pC K r pf :: fC K r fa :: Y) (lay_ref_s T p to d k_4 _ _ _ _ _ c_3 rfl rfl rfl rfl rfl)
    rw [ew] at hP hD
    exact wr_iret hAe hP hD hS hx hb hr hk dX4_layIt_196 ⟨Nat.le_of_ble_eq_true rfl, Nat.le_of_ble_eq_true rfl⟩ (rfl)
  · refine lv_aload_n hx hb dX4_layIt_95 rfl (lv_at hl 3 rfl) ?_
    refine va_get (D := D) (ci := 4) (v := .ref (r 1)) (C := RX4) (T := TX4) (N := 13) hx hb hts inX4 hown hE.1 hP 0 rfl rfl 1 (by decide) F7 (fun _ h9 => h9) rfl dX4_layIt_96 ?_
    refine lv_sipush (v := nI 164) hx hb dX4_layIt_99 (by decide) ?_
    refine lv_iload hx hb dX4_layIt_102 (lv_at hl 2 rfl) ?_
    refine nv_iadd (x := 164) (y := to) hx hb dX4_layIt_104 ?_
    refine lv_iload_n hx hb dX4_layIt_105 rfl (lv_at hl 4 rfl) ?_
    refine va_iast hx hb hE.1 hP hD hS 1 0 rfl rfl (pk_in (164 + to) 288 (by omega)) dX4_layIt_106 (fun H locs hP hD hS => ?_)
    rw [pk_cl (164 + to)] at hP hD
    rw [show upd (zT (setT (setT (setT (setT T 5 p ((coT T p) + ((nI (stT T 2)) - (nI (tollT T to))))) 8 p (((setT T 5 p ((coT T p) + ((nI (stT T 2)) - (nI (tollT T to))))) 8 p) + (nI (tollT T to)))) 6 p (nI to)) 7 p (nI d))) (164 + to) (nI p) = zT (setT (setT (setT (setT (setT T 5 p ((coT T p) + ((nI (stT T 2)) - (nI (tollT T to))))) 8 p (((setT T 5 p ((coT T p) + ((nI (stT T 2)) - (nI (tollT T to))))) 8 p) + (nI (tollT T to)))) 6 p (nI to)) 7 p (nI d)) 2 to (nI p)) from (congrArg (fun k_ => upd (zT (setT (setT (setT (setT T 5 p ((coT T p) + ((nI (stT T 2)) - (nI (tollT T to))))) 8 p (((setT T 5 p ((coT T p) + ((nI (stT T 2)) - (nI (tollT T to))))) 8 p) + (nI (tollT T to)))) 6 p (nI to)) 7 p (nI d))) k_ (nI p)) (show 164 + to = 164 + to from by omega)).trans (zU_ow (by omega))] at hP hD
    have hP : va_P D vwCl (refO r th (nI sn) (nI ln) (nI pm) pn (nI sta) (nI ms) hs :: zC K r (setT (setT (setT (setT (setT T 5 p ((coT T p) + ((nI (stT T 2)) - (nI (tollT T to))))) 8 p (((setT T 5 p ((coT T p) + ((nI (stT T 2)) - (nI (tollT T to))))) 8 p) + (nI (tollT T to)))) 6 p (nI to)) 7 p (nI d)) 2 to (nI p)) :: sC K r sv :: bC K r cs :: pC K r pf :: fC K r fa :: Y) H := hP
    have hD : va_D A (refO r th (nI sn) (nI ln) (nI pm) pn (nI sta) (nI ms) hs :: zC K r (setT (setT (setT (setT (setT T 5 p ((coT T p) + ((nI (stT T 2)) - (nI (tollT T to))))) 8 p (((setT T 5 p ((coT T p) + ((nI (stT T 2)) - (nI (tollT T to))))) 8 p) + (nI (tollT T to)))) 6 p (nI to)) 7 p (nI d)) 2 to (nI p)) :: sC K r sv :: bC K r cs :: pC K r pf :: fC K r fa :: Y) := hD
    refine lv_goto (tgt := 168) hx hb dX4_layIt_107 (by decide) ?_
    refine lv_aload_n hx hb dX4_layIt_168 rfl (lv_at hl 3 rfl) ?_
    refine va_get (D := D) (ci := 4) (v := .ref (r 1)) (C := RX4) (T := TX4) (N := 13) hx hb hts inX4 hown hE.1 hP 0 rfl rfl 1 (by decide) F7 (fun _ h9 => h9) rfl dX4_layIt_169 ?_
    refine lv_bipush (v := nI 84) hx hb dX4_layIt_172 (by decide) ?_
    refine lv_iload hx hb dX4_layIt_174 (lv_at hl 2 rfl) ?_
    refine nv_iadd (x := 84) (y := to) hx hb dX4_layIt_176 ?_
    refine lv_dup2_11 hx hb dX4_layIt_177 rfl rfl ?_
    refine va_iald hx hb hE.1 hP 1 0 rfl rfl (pk_in (84 + to) 288 (by omega)) dX4_layIt_178 ?_
    rw [pk_cl (84 + to)]
    refine top_i (y := nI (mkT T to)) (((congrArg (zT (setT (setT (setT (setT (setT T 5 p ((coT T p) + ((nI (stT T 2)) - (nI (tollT T to))))) 8 p (((setT T 5 p ((coT T p) + ((nI (stT T 2)) - (nI (tollT T to))))) 8 p) + (nI (tollT T to)))) 6 p (nI to)) 7 p (nI d)) 2 to (nI p))) (show 84 + to = 84 + to from by omega)).trans (zT_mk (by omega))).trans (show T 1 to = nI (mkT T to) from eq_mk hI (by omega))) ?_
    have hb_6 := mk_lt hI (show to < 80 by omega)
    refine lv_iconst (v := nI 1) hx hb dX4_layIt_179 (by decide) ?_
    refine lv_iload_n hx hb dX4_layIt_180 rfl (lv_at hl 4 rfl) ?_
    refine nv_ishl1 (y := p) hx hb dX4_layIt_181 (by omega) ?_
    refine nv_ior (x := mkT T to) (y := 2 ^ p) hx hb dX4_layIt_182 ?_
    refine va_iast hx hb hE.1 hP hD hS 1 0 rfl rfl (pk_in (84 + to) 288 (by omega)) dX4_layIt_183 (fun H locs hP hD hS => ?_)
    rw [pk_cl (84 + to)] at hP hD
    rw [show upd (zT (setT (setT (setT (setT (setT T 5 p ((coT T p) + ((nI (stT T 2)) - (nI (tollT T to))))) 8 p (((setT T 5 p ((coT T p) + ((nI (stT T 2)) - (nI (tollT T to))))) 8 p) + (nI (tollT T to)))) 6 p (nI to)) 7 p (nI d)) 2 to (nI p))) (84 + to) (nI ((mkT T to) ||| (2 ^ p))) = zT (setT (setT (setT (setT (setT (setT T 5 p ((coT T p) + ((nI (stT T 2)) - (nI (tollT T to))))) 8 p (((setT T 5 p ((coT T p) + ((nI (stT T 2)) - (nI (tollT T to))))) 8 p) + (nI (tollT T to)))) 6 p (nI to)) 7 p (nI d)) 2 to (nI p)) 1 to (nI ((mkT T to) ||| (2 ^ p)))) from (congrArg (fun k_ => upd (zT (setT (setT (setT (setT (setT T 5 p ((coT T p) + ((nI (stT T 2)) - (nI (tollT T to))))) 8 p (((setT T 5 p ((coT T p) + ((nI (stT T 2)) - (nI (tollT T to))))) 8 p) + (nI (tollT T to)))) 6 p (nI to)) 7 p (nI d)) 2 to (nI p))) k_ (nI ((mkT T to) ||| (2 ^ p)))) (show 84 + to = 84 + to from by omega)).trans (zU_mk (by omega))] at hP hD
    have hP : va_P D vwCl (refO r th (nI sn) (nI ln) (nI pm) pn (nI sta) (nI ms) hs :: zC K r (setT (setT (setT (setT (setT (setT T 5 p ((coT T p) + ((nI (stT T 2)) - (nI (tollT T to))))) 8 p (((setT T 5 p ((coT T p) + ((nI (stT T 2)) - (nI (tollT T to))))) 8 p) + (nI (tollT T to)))) 6 p (nI to)) 7 p (nI d)) 2 to (nI p)) 1 to (nI ((mkT T to) ||| (2 ^ p)))) :: sC K r sv :: bC K r cs :: pC K r pf :: fC K r fa :: Y) H := hP
    have hD : va_D A (refO r th (nI sn) (nI ln) (nI pm) pn (nI sta) (nI ms) hs :: zC K r (setT (setT (setT (setT (setT (setT T 5 p ((coT T p) + ((nI (stT T 2)) - (nI (tollT T to))))) 8 p (((setT T 5 p ((coT T p) + ((nI (stT T 2)) - (nI (tollT T to))))) 8 p) + (nI (tollT T to)))) 6 p (nI to)) 7 p (nI d)) 2 to (nI p)) 1 to (nI ((mkT T to) ||| (2 ^ p)))) :: sC K r sv :: bC K r cs :: pC K r pf :: fC K r fa :: Y) := hD
    refine lv_aload_n hx hb dX4_layIt_184 rfl (lv_at hl 3 rfl) ?_
    refine va_get (D := D) (ci := 4) (v := .ref (r 1)) (C := RX4) (T := TX4) (N := 13) hx hb hts inX4 hown hE.1 hP 0 rfl rfl 1 (by decide) F7 (fun _ h9 => h9) rfl dX4_layIt_185 ?_
    refine lv_iconst (v := nI 3) hx hb dX4_layIt_188 (by decide) ?_
    refine lv_dup2_11 hx hb dX4_layIt_189 rfl rfl ?_
    refine va_iald hx hb hE.1 hP 1 0 rfl rfl (pk_in 3 288 (by omega)) dX4_layIt_190 ?_
    rw [pk_cl 3]
    refine top_i (y := (setT (setT (setT (setT (setT (setT T 5 p ((coT T p) + ((nI (stT T 2)) - (nI (tollT T to))))) 8 p (((setT T 5 p ((coT T p) + ((nI (stT T 2)) - (nI (tollT T to))))) 8 p) + (nI (tollT T to)))) 6 p (nI to)) 7 p (nI d)) 2 to (nI p)) 1 to (nI ((mkT T to) ||| (2 ^ p)))) 11 0) ((congrArg (zT (setT (setT (setT (setT (setT (setT T 5 p ((coT T p) + ((nI (stT T 2)) - (nI (tollT T to))))) 8 p (((setT T 5 p ((coT T p) + ((nI (stT T 2)) - (nI (tollT T to))))) 8 p) + (nI (tollT T to)))) 6 p (nI to)) 7 p (nI d)) 2 to (nI p)) 1 to (nI ((mkT T to) ||| (2 ^ p))))) (show 3 = 3 from by omega)).trans (zT_pc)) ?_
    refine lv_iconst (v := nI 1) hx hb dX4_layIt_191 (by decide) ?_
    refine lv_iadd (x := (setT (setT (setT (setT (setT (setT T 5 p ((coT T p) + ((nI (stT T 2)) - (nI (tollT T to))))) 8 p (((setT T 5 p ((coT T p) + ((nI (stT T 2)) - (nI (tollT T to))))) 8 p) + (nI (tollT T to)))) 6 p (nI to)) 7 p (nI d)) 2 to (nI p)) 1 to (nI ((mkT T to) ||| (2 ^ p)))) 11 0) (y := nI 1) hx hb dX4_layIt_192 ?_
    refine va_iast hx hb hE.1 hP hD hS 1 0 rfl rfl (pk_in 3 288 (by omega)) dX4_layIt_193 (fun H locs hP hD hS => ?_)
    rw [pk_cl 3] at hP hD
    rw [show upd (zT (setT (setT (setT (setT (setT (setT T 5 p ((coT T p) + ((nI (stT T 2)) - (nI (tollT T to))))) 8 p (((setT T 5 p ((coT T p) + ((nI (stT T 2)) - (nI (tollT T to))))) 8 p) + (nI (tollT T to)))) 6 p (nI to)) 7 p (nI d)) 2 to (nI p)) 1 to (nI ((mkT T to) ||| (2 ^ p))))) 3 (((setT (setT (setT (setT (setT (setT T 5 p ((coT T p) + ((nI (stT T 2)) - (nI (tollT T to))))) 8 p (((setT T 5 p ((coT T p) + ((nI (stT T 2)) - (nI (tollT T to))))) 8 p) + (nI (tollT T to)))) 6 p (nI to)) 7 p (nI d)) 2 to (nI p)) 1 to (nI ((mkT T to) ||| (2 ^ p)))) 11 0) + (nI 1)) = zT (setT (setT (setT (setT (setT (setT (setT T 5 p ((coT T p) + ((nI (stT T 2)) - (nI (tollT T to))))) 8 p (((setT T 5 p ((coT T p) + ((nI (stT T 2)) - (nI (tollT T to))))) 8 p) + (nI (tollT T to)))) 6 p (nI to)) 7 p (nI d)) 2 to (nI p)) 1 to (nI ((mkT T to) ||| (2 ^ p)))) 11 0 (((setT (setT (setT (setT (setT (setT T 5 p ((coT T p) + ((nI (stT T 2)) - (nI (tollT T to))))) 8 p (((setT T 5 p ((coT T p) + ((nI (stT T 2)) - (nI (tollT T to))))) 8 p) + (nI (tollT T to)))) 6 p (nI to)) 7 p (nI d)) 2 to (nI p)) 1 to (nI ((mkT T to) ||| (2 ^ p)))) 11 0) + (nI 1))) from (congrArg (fun k_ => upd (zT (setT (setT (setT (setT (setT (setT T 5 p ((coT T p) + ((nI (stT T 2)) - (nI (tollT T to))))) 8 p (((setT T 5 p ((coT T p) + ((nI (stT T 2)) - (nI (tollT T to))))) 8 p) + (nI (tollT T to)))) 6 p (nI to)) 7 p (nI d)) 2 to (nI p)) 1 to (nI ((mkT T to) ||| (2 ^ p))))) k_ (((setT (setT (setT (setT (setT (setT T 5 p ((coT T p) + ((nI (stT T 2)) - (nI (tollT T to))))) 8 p (((setT T 5 p ((coT T p) + ((nI (stT T 2)) - (nI (tollT T to))))) 8 p) + (nI (tollT T to)))) 6 p (nI to)) 7 p (nI d)) 2 to (nI p)) 1 to (nI ((mkT T to) ||| (2 ^ p)))) 11 0) + (nI 1))) (show 3 = 3 from by omega)).trans (zU_pc)] at hP hD
    have hP : va_P D vwCl (refO r th (nI sn) (nI ln) (nI pm) pn (nI sta) (nI ms) hs :: zC K r (setT (setT (setT (setT (setT (setT (setT T 5 p ((coT T p) + ((nI (stT T 2)) - (nI (tollT T to))))) 8 p (((setT T 5 p ((coT T p) + ((nI (stT T 2)) - (nI (tollT T to))))) 8 p) + (nI (tollT T to)))) 6 p (nI to)) 7 p (nI d)) 2 to (nI p)) 1 to (nI ((mkT T to) ||| (2 ^ p)))) 11 0 (((setT (setT (setT (setT (setT (setT T 5 p ((coT T p) + ((nI (stT T 2)) - (nI (tollT T to))))) 8 p (((setT T 5 p ((coT T p) + ((nI (stT T 2)) - (nI (tollT T to))))) 8 p) + (nI (tollT T to)))) 6 p (nI to)) 7 p (nI d)) 2 to (nI p)) 1 to (nI ((mkT T to) ||| (2 ^ p)))) 11 0) + (nI 1))) :: sC K r sv :: bC K r cs :: pC K r pf :: fC K r fa :: Y) H := hP
    have hD : va_D A (refO r th (nI sn) (nI ln) (nI pm) pn (nI sta) (nI ms) hs :: zC K r (setT (setT (setT (setT (setT (setT (setT T 5 p ((coT T p) + ((nI (stT T 2)) - (nI (tollT T to))))) 8 p (((setT T 5 p ((coT T p) + ((nI (stT T 2)) - (nI (tollT T to))))) 8 p) + (nI (tollT T to)))) 6 p (nI to)) 7 p (nI d)) 2 to (nI p)) 1 to (nI ((mkT T to) ||| (2 ^ p)))) 11 0 (((setT (setT (setT (setT (setT (setT T 5 p ((coT T p) + ((nI (stT T 2)) - (nI (tollT T to))))) 8 p (((setT T 5 p ((coT T p) + ((nI (stT T 2)) - (nI (tollT T to))))) 8 p) + (nI (tollT T to)))) 6 p (nI to)) 7 p (nI d)) 2 to (nI p)) 1 to (nI ((mkT T to) ||| (2 ^ p)))) 11 0) + (nI 1))) :: sC K r sv :: bC K r cs :: pC K r pf :: fC K r fa :: Y) := hD
    refine lv_iload hx hb dX4_layIt_194 (lv_at hl 1 rfl) ?_
    have ew : (refO r th (nI sn) (nI ln) (nI pm) pn (nI sta) (nI ms) hs :: zC K r (setT (setT (setT (setT (setT (setT (setT T 5 p ((coT T p) + ((nI (stT T 2)) - (nI (tollT T to))))) 8 p (((setT T 5 p ((coT T p) + ((nI (stT T 2)) - (nI (tollT T to))))) 8 p) + (nI (tollT T to)))) 6 p (nI to)) 7 p (nI d)) 2 to (nI p)) 1 to (nI ((mkT T to) ||| (2 ^ p)))) 11 0 (((setT (setT (setT (setT (setT (setT T 5 p ((coT T p) + ((nI (stT T 2)) - (nI (tollT T to))))) 8 p (((setT T 5 p ((coT T p) + ((nI (stT T 2)) - (nI (tollT T to))))) 8 p) + (nI (tollT T to)))) 6 p (nI to)) 7 p (nI d)) 2 to (nI p)) 1 to (nI ((mkT T to) ||| (2 ^ p)))) 11 0) + (nI 1))) :: sC K r sv :: bC K r cs :: pC K r pf :: fC K r fa :: Y) = (refO r th (nI sn) (nI ln) (nI pm) pn (nI sta) (nI ms) hs :: zC K r (layT T p to d) :: sC K r sv :: bC K r cs :: pC K r pf :: fC K r fa :: Y) := by exact congrArg (fun T9 => refO r th (nI sn) (nI ln) (nI pm) pn (nI sta) (nI ms) hs :: zC K r T9 :: sC K r sv :: bC K r cs :: pC K r pf :: fC K r fa :: Y) (lay_ref_n T p to d _ _ _ c_3 rfl rfl rfl)
    rw [ew] at hP hD
    exact wr_iret hAe hP hD hS hx hb hr hk dX4_layIt_196 ⟨Nat.le_of_ble_eq_true rfl, Nat.le_of_ble_eq_true rfl⟩ (rfl)
