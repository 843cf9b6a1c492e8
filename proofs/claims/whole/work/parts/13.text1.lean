theorem hd_X0_isDieCode : yX0_isDieCode.cls = RX0 ∧ yX0_isDieCode.cls ≠ "java/lang/invoke/MethodHandle" ∧ yX0_isDieCode.cls ≠ "java/lang/invoke/VarHandle" ∧ (parseMethodDescriptor yX0_isDieCode.desc).map (fun d => d.parameters.length) = some 1 := by decide +kernel
theorem hn_X0_isDieCode : yX0_isDieCode.cls ≠ "java/lang/invoke/MethodHandle" ∧ yX0_isDieCode.cls ≠ "java/lang/invoke/VarHandle" ∧ (parseMethodDescriptor yX0_isDieCode.desc).map (fun d => d.parameters.length) = some 1 := hd_X0_isDieCode.2
theorem hd_X0_directionOf : yX0_directionOf.cls = RX0 ∧ yX0_directionOf.cls ≠ "java/lang/invoke/MethodHandle" ∧ yX0_directionOf.cls ≠ "java/lang/invoke/VarHandle" ∧ (parseMethodDescriptor yX0_directionOf.desc).map (fun d => d.parameters.length) = some 1 := by decide +kernel
theorem hn_X0_directionOf : yX0_directionOf.cls ≠ "java/lang/invoke/MethodHandle" ∧ yX0_directionOf.cls ≠ "java/lang/invoke/VarHandle" ∧ (parseMethodDescriptor yX0_directionOf.desc).map (fun d => d.parameters.length) = some 1 := hd_X0_directionOf.2
theorem hd_X0_nextPlace : yX0_nextPlace.cls = RX0 ∧ yX0_nextPlace.cls ≠ "java/lang/invoke/MethodHandle" ∧ yX0_nextPlace.cls ≠ "java/lang/invoke/VarHandle" ∧ (parseMethodDescriptor yX0_nextPlace.desc).map (fun d => d.parameters.length) = some 2 := by decide +kernel
theorem hn_X0_nextPlace : yX0_nextPlace.cls ≠ "java/lang/invoke/MethodHandle" ∧ yX0_nextPlace.cls ≠ "java/lang/invoke/VarHandle" ∧ (parseMethodDescriptor yX0_nextPlace.desc).map (fun d => d.parameters.length) = some 2 := hd_X0_nextPlace.2
theorem hd_X0_addCode : yX0_addCode.cls = RX0 ∧ yX0_addCode.cls ≠ "java/lang/invoke/MethodHandle" ∧ yX0_addCode.cls ≠ "java/lang/invoke/VarHandle" ∧ (parseMethodDescriptor yX0_addCode.desc).map (fun d => d.parameters.length) = some 1 := by decide +kernel
theorem hn_X0_addCode : yX0_addCode.cls ≠ "java/lang/invoke/MethodHandle" ∧ yX0_addCode.cls ≠ "java/lang/invoke/VarHandle" ∧ (parseMethodDescriptor yX0_addCode.desc).map (fun d => d.parameters.length) = some 1 := hd_X0_addCode.2
theorem hd_X0_errorIndex : yX0_errorIndex.cls = RX0 ∧ yX0_errorIndex.cls ≠ "java/lang/invoke/MethodHandle" ∧ yX0_errorIndex.cls ≠ "java/lang/invoke/VarHandle" ∧ (parseMethodDescriptor yX0_errorIndex.desc).map (fun d => d.parameters.length) = some 0 := by decide +kernel
theorem hn_X0_errorIndex : yX0_errorIndex.cls ≠ "java/lang/invoke/MethodHandle" ∧ yX0_errorIndex.cls ≠ "java/lang/invoke/VarHandle" ∧ (parseMethodDescriptor yX0_errorIndex.desc).map (fun d => d.parameters.length) = some 0 := hd_X0_errorIndex.2
theorem hd_X0_isComplete : yX0_isComplete.cls = RX0 ∧ yX0_isComplete.cls ≠ "java/lang/invoke/MethodHandle" ∧ yX0_isComplete.cls ≠ "java/lang/invoke/VarHandle" ∧ (parseMethodDescriptor yX0_isComplete.desc).map (fun d => d.parameters.length) = some 0 := by decide +kernel
theorem hn_X0_isComplete : yX0_isComplete.cls ≠ "java/lang/invoke/MethodHandle" ∧ yX0_isComplete.cls ≠ "java/lang/invoke/VarHandle" ∧ (parseMethodDescriptor yX0_isComplete.desc).map (fun d => d.parameters.length) = some 0 := hd_X0_isComplete.2
theorem hd_X0_layPieces : yX0_layPieces.cls = RX0 ∧ yX0_layPieces.cls ≠ "java/lang/invoke/MethodHandle" ∧ yX0_layPieces.cls ≠ "java/lang/invoke/VarHandle" ∧ (parseMethodDescriptor yX0_layPieces.desc).map (fun d => d.parameters.length) = some 1 := by decide +kernel
theorem hn_X0_layPieces : yX0_layPieces.cls ≠ "java/lang/invoke/MethodHandle" ∧ yX0_layPieces.cls ≠ "java/lang/invoke/VarHandle" ∧ (parseMethodDescriptor yX0_layPieces.desc).map (fun d => d.parameters.length) = some 1 := hd_X0_layPieces.2
set_option maxHeartbeats 4000000 in
set_option maxRecDepth 100000 in
theorem c_X0_isDieCode (l : Launch) (D : va_G) (K : Nat → ClassId) (ws : va_W) (c : Nat) (hc : c < 128) : Rd l yX0_isDieCode wsX0_isDieCode ({ frames := 1, cells := 0, slots := 0, locals := 12 } : Room) D K (ws) [.int (nI c)] (.int (bI (dieC c))) := by
  refine rd_intro (cc := cX0_isDieCode) (maxL := 1) (ret := (some .boolean)) (by decide) rfl (Nat.le_of_ble_eq_true rfl) ?_
  intro pr en st md ar bl mt co hx hb hml hr hts hown hk hP hE ls hl
  have hown : st.vm.findClass RX0 = some md.cls := hown
  have hl : lv_has ls 1 [(0, .int (nI c))] := hl
  refine lv_iload_n hx hb dX0_isDieCode_0 rfl (lv_at hl 0 rfl) ?_
  refine lv_bipush (v := nI 49) hx hb dX0_isDieCode_1 (by decide) ?_
  refine nv_icmp_lt (x := c) (y := 49) (tgt := 16) hx hb dX0_isDieCode_3 (by decide) (by omega) (by decide) (fun c_1 => ?_) (fun c_1 => ?_)
  · have n_c_1 := Nat.not_le.mpr c_1
    refine lv_iconst (v := nI 0) hx hb dX0_isDieCode_16 (by decide) ?_
    exact rd_zret hx hb hr hk dX0_isDieCode_17 (by (simp [dieC, bI, nI_0, nI_one, c_1, n_c_1]) <;> omega)
  · have n_c_1 := Nat.not_lt.mpr c_1
    refine lv_iload_n hx hb dX0_isDieCode_6 rfl (lv_at hl 0 rfl) ?_
    refine lv_bipush (v := nI 54) hx hb dX0_isDieCode_7 (by decide) ?_
    refine nv_icmp_gt (x := c) (y := 54) (tgt := 16) hx hb dX0_isDieCode_9 (by decide) (by omega) (by decide) (fun c_2 => ?_) (fun c_2 => ?_)
    · have n_c_2 := Nat.not_le.mpr c_2
      refine lv_iconst (v := nI 0) hx hb dX0_isDieCode_16 (by decide) ?_
      exact rd_zret hx hb hr hk dX0_isDieCode_17 (by (simp [dieC, bI, nI_0, nI_one, c_1, n_c_1, c_2, n_c_2]) <;> omega)
    · have n_c_2 := Nat.not_lt.mpr c_2
      refine lv_iconst (v := nI 1) hx hb dX0_isDieCode_12 (by decide) ?_
      refine lv_goto (tgt := 17) hx hb dX0_isDieCode_13 (by decide) ?_
      exact rd_zret hx hb hr hk dX0_isDieCode_17 (by (simp [dieC, bI, nI_0, nI_one, c_1, n_c_1, c_2, n_c_2]) <;> omega)
set_option maxHeartbeats 4000000 in
set_option maxRecDepth 100000 in
theorem c_X0_directionOf (l : Launch) (D : va_G) (K : Nat → ClassId) (ws : va_W) (c : Nat) (hc : c < 128) : Rd l yX0_directionOf wsX0_directionOf ({ frames := 1, cells := 0, slots := 0, locals := 12 } : Room) D K (ws) [.int (nI c)] (.int (oI (dirC c))) := by
  refine rd_intro (cc := cX0_directionOf) (maxL := 1) (ret := (some .int)) (by decide) rfl (Nat.le_of_ble_eq_true rfl) ?_
  intro pr en st md ar bl mt co hx hb hml hr hts hown hk hP hE ls hl
  have hown : st.vm.findClass RX0 = some md.cls := hown
  have hl : lv_has ls 1 [(0, .int (nI c))] := hl
  refine lv_iload_n hx hb dX0_directionOf_0 rfl (lv_at hl 0 rfl) ?_
  rcases (show c = 101 ∨ c = 110 ∨ c = 115 ∨ c = 119 ∨ (¬ c = 101 ∧ ¬ c = 110 ∧ ¬ c = 115 ∧ ¬ c = 119) by omega) with rfl | rfl | rfl | rfl | ⟨q_101, q_110, q_115, q_119⟩
  · refine lv_lookup (off := 45) (tgt := 46) hx hb dX0_directionOf_1 (by decide) (by decide) (by decide) ?_
    refine lv_iconst (v := nI 1) hx hb dX0_directionOf_46 (by decide) ?_
    exact rd_iret hx hb hr hk dX0_directionOf_47 (by simp [dirC, oI_n, oI_s])
  · refine lv_lookup (off := 43) (tgt := 44) hx hb dX0_directionOf_1 (by decide) (by decide) (by decide) ?_
    refine lv_iconst (v := nI 0) hx hb dX0_directionOf_44 (by decide) ?_
    exact rd_iret hx hb hr hk dX0_directionOf_45 (by simp [dirC, oI_n, oI_s])
  · refine lv_lookup (off := 47) (tgt := 48) hx hb dX0_directionOf_1 (by decide) (by decide) (by decide) ?_
    refine lv_iconst (v := nI 2) hx hb dX0_directionOf_48 (by decide) ?_
    exact rd_iret hx hb hr hk dX0_directionOf_49 (by simp [dirC, oI_n, oI_s])
  · refine lv_lookup (off := 49) (tgt := 50) hx hb dX0_directionOf_1 (by decide) (by decide) (by decide) ?_
    refine lv_iconst (v := nI 3) hx hb dX0_directionOf_50 (by decide) ?_
    exact rd_iret hx hb hr hk dX0_directionOf_51 (by simp [dirC, oI_n, oI_s])
  · refine lv_lookup (off := 51) (tgt := 52) hx hb dX0_directionOf_1 (by decide) ((lv_osw (k := nI 101) (fun q => q_101 ((nI_eq (by omega) (by decide)).mp q)) (by decide)).trans ((lv_osw (k := nI 110) (fun q => q_110 ((nI_eq (by omega) (by decide)).mp q)) (by decide)).trans ((lv_osw (k := nI 115) (fun q => q_115 ((nI_eq (by omega) (by decide)).mp q)) (by decide)).trans ((lv_osw (k := nI 119) (fun q => q_119 ((nI_eq (by omega) (by decide)).mp q)) (by decide)).trans (rfl))))) (by decide) ?_
    refine lv_iconst (v := -1) hx hb dX0_directionOf_52 (by decide) ?_
    exact rd_iret hx hb hr hk dX0_directionOf_53 (by simp [dirC, oI_n, oI_s, q_101, q_110, q_115, q_119])
set_option maxHeartbeats 4000000 in
set_option maxRecDepth 100000 in
theorem c_X0_nextPlace (l : Launch) (D : va_G) (K : Nat → ClassId) (ws : va_W) (pl c : Nat) (hpl : pl < 5) (hc : c < 128) : Rd l yX0_nextPlace wsX0_nextPlace ({ frames := 2, cells := 0, slots := 0, locals := 32 } : Room) D K (ws) [.int (nI pl), .int (nI c)] (.int (oI (npC pl c))) := by
  refine rd_intro (cc := cX0_nextPlace) (maxL := 2) (ret := (some .int)) (by decide) rfl (Nat.le_of_ble_eq_true rfl) ?_
  intro pr en st md ar bl mt co hx hb hml hr hts hown hk hP hE ls hl
  have hown : st.vm.findClass RX0 = some md.cls := hown
  have hl : lv_has ls 2 [(0, .int (nI pl)), (1, .int (nI c))] := hl
  refine lv_iload_n hx hb dX0_nextPlace_0 rfl (lv_at hl 0 rfl) ?_
  rcases (show pl = 0 ∨ pl = 1 ∨ pl = 2 ∨ pl = 3 ∨ pl = 4 by omega) with rfl | rfl | rfl | rfl | rfl
  · refine lv_tableIn (off := 35) (tgt := 36) hx hb dX0_nextPlace_1 (by decide) (by decide) (by decide) (by decide) ?_
    refine lv_iload_n hx hb dX0_nextPlace_36 rfl (lv_at hl 1 rfl) ?_
    refine lv_bipush (v := nI 48) hx hb dX0_nextPlace_37 (by decide) ?_
    refine nv_icmp_lt (x := c) (y := 48) (tgt := 52) hx hb dX0_nextPlace_39 (by decide) (by omega) (by decide) (fun c_1 => ?_) (fun c_1 => ?_)
    · have n_c_1 := Nat.not_le.mpr c_1
      refine lv_iconst (v := -1) hx hb dX0_nextPlace_52 (by decide) ?_
      exact rd_iret hx hb hr hk dX0_nextPlace_53 (by first | (simp [npC, oI_n, oI_s, c_1, n_c_1]; done) | (simp [npC, oI_n, oI_s, c_1, n_c_1]; omega))
    · have n_c_1 := Nat.not_lt.mpr c_1
      refine lv_iload_n hx hb dX0_nextPlace_42 rfl (lv_at hl 1 rfl) ?_
      refine lv_bipush (v := nI 51) hx hb dX0_nextPlace_43 (by decide) ?_
      refine nv_icmp_gt (x := c) (y := 51) (tgt := 52) hx hb dX0_nextPlace_45 (by decide) (by omega) (by decide) (fun c_2 => ?_) (fun c_2 => ?_)
      · have n_c_2 := Nat.not_le.mpr c_2
        refine lv_iconst (v := -1) hx hb dX0_nextPlace_52 (by decide) ?_
        exact rd_iret hx hb hr hk dX0_nextPlace_53 (by first | (simp [npC, oI_n, oI_s, c_1, n_c_1, c_2, n_c_2]; done) | (simp [npC, oI_n, oI_s, c_1, n_c_1, c_2, n_c_2]; omega))
      · have n_c_2 := Nat.not_lt.mpr c_2
        refine lv_iconst (v := nI 1) hx hb dX0_nextPlace_48 (by decide) ?_
        refine lv_goto (tgt := 53) hx hb dX0_nextPlace_49 (by decide) ?_
        exact rd_iret hx hb hr hk dX0_nextPlace_53 (by first | (simp [npC, oI_n, oI_s, c_1, n_c_1, c_2, n_c_2]; done) | (simp [npC, oI_n, oI_s, c_1, n_c_1, c_2, n_c_2]; omega))
  · refine lv_tableIn (off := 53) (tgt := 54) hx hb dX0_nextPlace_1 (by decide) (by decide) (by decide) (by decide) ?_
    refine lv_iload_n hx hb dX0_nextPlace_54 rfl (lv_at hl 1 rfl) ?_
    refine lv_bipush (v := nI 58) hx hb dX0_nextPlace_55 (by decide) ?_
    refine nv_icmp_ne (x := c) (y := 58) (tgt := 64) hx hb dX0_nextPlace_57 (by decide) (by omega) (by decide) (fun c_3 => ?_) (fun c_3 => ?_)
    · refine lv_iconst (v := -1) hx hb dX0_nextPlace_64 (by decide) ?_
      exact rd_iret hx hb hr hk dX0_nextPlace_65 (by first | (simp [npC, oI_n, oI_s, c_3]; done) | (simp [npC, oI_n, oI_s, c_3]; omega))
    · refine lv_iconst (v := nI 2) hx hb dX0_nextPlace_60 (by decide) ?_
      refine lv_goto (tgt := 65) hx hb dX0_nextPlace_61 (by decide) ?_
      exact rd_iret hx hb hr hk dX0_nextPlace_65 (by first | (simp [npC, oI_n, oI_s, c_3]; done) | (simp [npC, oI_n, oI_s, c_3]; omega))
  · refine lv_tableIn (off := 65) (tgt := 66) hx hb dX0_nextPlace_1 (by decide) (by decide) (by decide) (by decide) ?_
    refine lv_iload_n hx hb dX0_nextPlace_66 rfl (lv_at hl 1 rfl) ?_
    refine rd_S (rest := []) ⟨hx, hb, hml, hown, hts⟩ hP hE (c_X0_isDieCode l D K _ c (by omega)) (va_cwS 1 hts gX0_nextPlace_X0_isDieCode rfl rfl rfl hn_X0_isDieCode ⟨Nat.le_of_ble_eq_true rfl, Nat.le_of_ble_eq_true rfl⟩) rfl hl.1 rfl (Nat.le_of_ble_eq_true rfl) dX0_nextPlace_67 ⟨Nat.zero_le _, Nat.zero_le _⟩ ?_
    refine bv_if_eq (x := dieC c) (tgt := 77) hx hb dX0_nextPlace_70 (by decide) (fun c_4 => ?_) (fun c_4 => ?_)
    · refine lv_iconst (v := -1) hx hb dX0_nextPlace_77 (by decide) ?_
      exact rd_iret hx hb hr hk dX0_nextPlace_78 (by first | (simp [npC, oI_n, oI_s, c_4]; done) | (simp [npC, oI_n, oI_s, c_4]; omega))
    · refine lv_iconst (v := nI 3) hx hb dX0_nextPlace_73 (by decide) ?_
      refine lv_goto (tgt := 78) hx hb dX0_nextPlace_74 (by decide) ?_
      exact rd_iret hx hb hr hk dX0_nextPlace_78 (by first | (simp [npC, oI_n, oI_s, c_4]; done) | (simp [npC, oI_n, oI_s, c_4]; omega))
  · refine lv_tableIn (off := 78) (tgt := 79) hx hb dX0_nextPlace_1 (by decide) (by decide) (by decide) (by decide) ?_
    refine lv_iload_n hx hb dX0_nextPlace_79 rfl (lv_at hl 1 rfl) ?_
    refine rd_S (rest := []) ⟨hx, hb, hml, hown, hts⟩ hP hE (c_X0_directionOf l D K _ c (by omega)) (va_cwS 1 hts gX0_nextPlace_X0_directionOf rfl rfl rfl hn_X0_directionOf ⟨Nat.le_of_ble_eq_true rfl, Nat.le_of_ble_eq_true rfl⟩) rfl hl.1 rfl (Nat.le_of_ble_eq_true rfl) dX0_nextPlace_80 ⟨Nat.zero_le _, Nat.zero_le _⟩ ?_
    refine lv_iconst (v := -1) hx hb dX0_nextPlace_83 (by decide) ?_
    refine ov_icmp_eq (tgt := 91) hx hb dX0_nextPlace_84 (by decide) (lt31 (dirC_lt c) (by decide)) (fun c_5 => ?_) (fun k_6 c_5 => ?_)
    · refine lv_iconst (v := -1) hx hb dX0_nextPlace_91 (by decide) ?_
      exact rd_iret hx hb hr hk dX0_nextPlace_92 (by first | (simp [npC, oI_n, oI_s, c_5]; done) | (simp [npC, oI_n, oI_s, c_5]; omega))
    · have hk_c_5 := (dirC_lt c) k_6 c_5
      refine lv_iconst (v := nI 4) hx hb dX0_nextPlace_87 (by decide) ?_
      refine lv_goto (tgt := 92) hx hb dX0_nextPlace_88 (by decide) ?_
      exact rd_iret hx hb hr hk dX0_nextPlace_92 (by first | (simp [npC, oI_n, oI_s, c_5]; done) | (simp [npC, oI_n, oI_s, c_5]; omega))
  · refine lv_tableIn (off := 92) (tgt := 93) hx hb dX0_nextPlace_1 (by decide) (by decide) (by decide) (by decide) ?_
    refine lv_iload_n hx hb dX0_nextPlace_93 rfl (lv_at hl 1 rfl) ?_
    refine lv_bipush (v := nI 59) hx hb dX0_nextPlace_94 (by decide) ?_
    refine nv_icmp_ne (x := c) (y := 59) (tgt := 101) hx hb dX0_nextPlace_96 (by decide) (by omega) (by decide) (fun c_7 => ?_) (fun c_7 => ?_)
    · refine lv_iload_n hx hb dX0_nextPlace_101 rfl (lv_at hl 1 rfl) ?_
      refine rd_S (rest := []) ⟨hx, hb, hml, hown, hts⟩ hP hE (c_X0_isDieCode l D K _ c (by omega)) (va_cwS 1 hts gX0_nextPlace_X0_isDieCode rfl rfl rfl hn_X0_isDieCode ⟨Nat.le_of_ble_eq_true rfl, Nat.le_of_ble_eq_true rfl⟩) rfl hl.1 rfl (Nat.le_of_ble_eq_true rfl) dX0_nextPlace_102 ⟨Nat.zero_le _, Nat.zero_le _⟩ ?_
      refine bv_if_eq (x := dieC c) (tgt := 112) hx hb dX0_nextPlace_105 (by decide) (fun c_8 => ?_) (fun c_8 => ?_)
      · refine lv_iconst (v := -1) hx hb dX0_nextPlace_112 (by decide) ?_
        exact rd_iret hx hb hr hk dX0_nextPlace_113 (by first | (simp [npC, oI_n, oI_s, c_7, c_8]; done) | (simp [npC, oI_n, oI_s, c_7, c_8]; omega))
      · refine lv_iconst (v := nI 3) hx hb dX0_nextPlace_108 (by decide) ?_
        refine lv_goto (tgt := 113) hx hb dX0_nextPlace_109 (by decide) ?_
        exact rd_iret hx hb hr hk dX0_nextPlace_113 (by first | (simp [npC, oI_n, oI_s, c_7, c_8]; done) | (simp [npC, oI_n, oI_s, c_7, c_8]; omega))
    · refine lv_iconst (v := nI 0) hx hb dX0_nextPlace_99 (by decide) ?_
      exact rd_iret hx hb hr hk dX0_nextPlace_100 (by first | (simp [npC, oI_n, oI_s, c_7]; done) | (simp [npC, oI_n, oI_s, c_7]; omega))
set_option maxHeartbeats 4000000 in
set_option maxRecDepth 100000 in
theorem c_X0_addCode (l : Launch) (D : va_G) (K : Nat → ClassId) (sz : Nat) (a b t : Nat → Nat) (T : TW) (X : va_W) (len : Nat → Option Nat) (qu : Nat → Nat) (n : Nat) (cs : Nat → Nat) (ln : Nat) (c : Nat) (hln : ln < 60) : Wr l yX0_addCode wsX0_addCode ({ frames := 2, cells := 0, slots := 0, locals := 34 } : Room) D K (townW K a T ++ (waysW K b len qu n ++ (textW K t cs ln ++ X))) sz [.ref (t 0), .int (nI c)] (townW K a T ++ (waysW K b len qu n ++ (textW K t (va_up cs ln c) (ln + 1) ++ X))) none 0 0 := by
  refine wr_intro (cc := cX0_addCode) (maxL := 2) (ret := none) (by decide) rfl (Nat.le_of_ble_eq_true rfl) ?_
  intro pr en st md ar bl mt co A hx hb hml hr hts hown hk hsz hAe hP hE hD hS hA hin ls hl
  have hown : st.vm.findClass RX0 = some md.cls := hown
  have hl : lv_has ls 2 [(0, .ref (t 0)), (1, .int (nI c))] := hl
  obtain ⟨H, hH⟩ : ∃ z, z = st.heap := ⟨_, rfl⟩
  obtain ⟨locs, hlo⟩ : ∃ z : List Loc, z = [] := ⟨_, rfl⟩
  have hP : va_P D vwCl (townW K a T ++ (waysW K b len qu n ++ (textW K t cs ln ++ X))) H := by rw [hH]; exact hP
  have hS : va_S A st.heap H locs := by rw [hH, hlo]; exact hS
  suffices go : W pr l en (headSpec wsX0_addCode ({ frames := 2, cells := 0, slots := 0, locals := 34 } : Room)).room st md ar bl mt co H locs 0 0 (MQ bl (wrQ D (townW K a T ++ (waysW K b len qu n ++ (textW K t cs ln ++ X))) (townW K a T ++ (waysW K b len qu n ++ (textW K t (va_up cs ln c) (ln + 1) ++ X))) sz none) ar st 0 0 A) (F0 md 0 ls []) by rw [hH, hlo] at go; exact go
  clear hH hlo
  have F9 : (Cond.fieldLink RX0 9 "TramTolls$Text" "codes" "[I").before ar st = true := hts _ (List.mem_of_getElem? (i := 1) rfl)
  have inX0 : ∀ w ∈ u_ws RX0 TX0 2, w ∈ wsX0_addCode := fun w h => List.mem_cons_of_mem _ (List.mem_append_right _ h)
  have F15 : (Cond.fieldLink RX0 15 "TramTolls$Text" "length" "I").before ar st = true := hts _ (List.mem_of_getElem? (i := 2) rfl)
  have IniX3 : (Cond.initialized RX3).before ar st = true := hts _ (List.mem_of_getElem? (i := 4) rfl)
  have Sta_X3_put : (Cond.static yX3_put).before ar st = true := hts _ (List.mem_of_getElem? (i := 3) rfl)
  refine lv_aload_n hx hb dX0_addCode_0 rfl (lv_at hl 0 rfl) ?_
  refine va_get (D := D) (ci := 0) (v := .ref (t 1)) (C := RX0) (T := TX0) (N := 2) hx hb hts inX0 hown hE.1 hP 15 rfl rfl 0 (by decide) F9 (fun _ h9 => h9) rfl dX0_addCode_1 ?_
  refine lv_aload_n hx hb dX0_addCode_4 rfl (lv_at hl 0 rfl) ?_
  refine va_get (D := D) (ci := 0) (v := .int (nI ln)) (C := RX0) (T := TX0) (N := 2) hx hb hts inX0 hown hE.1 hP 15 rfl rfl 1 (by decide) F15 (fun _ h9 => h9) rfl dX0_addCode_5 ?_
  refine lv_iload_n hx hb dX0_addCode_8 rfl (lv_at hl 1 rfl) ?_
  refine wr_SN (rest := []) ⟨hx, hb, hml, hown, hts⟩ hP hE hA hD hS (c_X3_put l D K _ _ 16 _ 60 _ ln (nI c) rfl (by omega) (by omega)) (va_cnB (host := RX3) 3 hts gX0_addCode_X3_put_n19 rfl rfl rfl hE.2.2.2.2.2.2.2.2.2.2.2.2.2.2 IniX3 hn_X3_put ⟨Nat.le_of_ble_eq_true rfl, Nat.le_of_ble_eq_true rfl⟩) Sta_X3_put rfl hl.1 rfl (Nat.le_of_ble_eq_true rfl) dX0_addCode_9 ⟨Nat.le_of_ble_eq_true rfl, Nat.le_of_ble_eq_true rfl⟩ (fun H locs hP hD hS => ?_)
  rw [updNN cs ln c] at hP hD
  have hP : va_P D vwCl (townW K a T ++ (waysW K b len qu n ++ (textW K t (va_up cs ln c) ln ++ X))) H := hP
  have hD : va_D A (townW K a T ++ (waysW K b len qu n ++ (textW K t (va_up cs ln c) ln ++ X))) := hD
  refine lv_aload_n hx hb dX0_addCode_12 rfl (lv_at hl 0 rfl) ?_
  refine lv_dup hx hb dX0_addCode_13 rfl ?_
  refine va_get (D := D) (ci := 0) (v := .int (nI ln)) (C := RX0) (T := TX0) (N := 2) hx hb hts inX0 hown hE.1 hP 15 rfl rfl 1 (by decide) F15 (fun _ h9 => h9) rfl dX0_addCode_14 ?_
  refine lv_iconst (v := nI 1) hx hb dX0_addCode_17 (by decide) ?_
  refine nv_iadd (x := ln) (y := 1) hx hb dX0_addCode_18 ?_
  refine va_put (D := D) (ci := 0) (v := .int (nI (ln + 1))) (ty := .int) (C := RX0) (T := TX0) (N := 2) hx hb hts inX0 tyX0 tyX0_ok nmX0 hown hE.1 hP hD hS 15 rfl rfl 1 (by decide) F15 (fun _ h9 => h9) rfl (by decide +kernel) rfl rfl (Nat.le_of_ble_eq_true rfl) dX0_addCode_19 (fun H locs hP hD hS => ?_)
  have hP : va_P D vwCl (townW K a T ++ (waysW K b len qu n ++ (textW K t (va_up cs ln c) (ln + 1) ++ X))) H := hP
  have hD : va_D A (townW K a T ++ (waysW K b len qu n ++ (textW K t (va_up cs ln c) (ln + 1) ++ X))) := hD
  exact wr_vret hAe hP hD hS hx hb hr hk dX0_addCode_22 ⟨Nat.le_of_ble_eq_true rfl, Nat.le_of_ble_eq_true rfl⟩
set_option maxHeartbeats 4000000 in
set_option maxRecDepth 100000 in
theorem c_X0_errorIndex (l : Launch) (D : va_G) (K : Nat → ClassId) (a b t : Nat → Nat) (T : TW) (X : va_W) (len : Nat → Option Nat) (qu : Nat → Nat) (n : Nat) (cs : Nat → Nat) (ln : Nat) (hCB : CB cs ln) : Rd l yX0_errorIndex wsX0_errorIndex ({ frames := 3, cells := 0, slots := 0, locals := 53 } : Room) D K (townW K a T ++ (waysW K b len qu n ++ (textW K t cs ln ++ X))) [.ref (t 0)] (.int (nI (errS cs ln))) := by
  refine rd_intro (cc := cX0_errorIndex) (maxL := 3) (ret := (some .int)) (by decide) rfl (Nat.le_of_ble_eq_true rfl) ?_
  intro pr en st md ar bl mt co hx hb hml hr hts hown hk hP hE ls hl
  have hown : st.vm.findClass RX0 = some md.cls := hown
  have hl : lv_has ls 3 [(0, .ref (t 0))] := hl
  have hl60 := hCB.1
  have F15 : (Cond.fieldLink RX0 15 "TramTolls$Text" "length" "I").before ar st = true := hts _ (List.mem_of_getElem? (i := 1) rfl)
  have inX0 : ∀ w ∈ u_ws RX0 TX0 2, w ∈ wsX0_errorIndex := fun w h => List.mem_cons_of_mem _ (List.mem_append_right _ h)
  have F9 : (Cond.fieldLink RX0 9 "TramTolls$Text" "codes" "[I").before ar st = true := hts _ (List.mem_of_getElem? (i := 2) rfl)
  have IniX3 : (Cond.initialized RX3).before ar st = true := hts _ (List.mem_of_getElem? (i := 4) rfl)
  have Sta_X3_at : (Cond.static yX3_at).before ar st = true := hts _ (List.mem_of_getElem? (i := 3) rfl)
  refine lv_iconst (v := nI 0) hx hb dX0_errorIndex_0 (by decide) ?_
  refine lv_istore_n (lv' := [(1, .int (nI 0)), (0, .ref (t 0))]) hx hb dX0_errorIndex_1 rfl hl (by decide) rfl (fun ls hl => ?_)
  refine lv_iconst (v := nI 0) hx hb dX0_errorIndex_2 (by decide) ?_
  refine lv_istore_n (lv' := [(2, .int (nI 0)), (1, .int (nI 0)), (0, .ref (t 0))]) hx hb dX0_errorIndex_3 rfl hl (by decide) rfl (fun ls hl => ?_)
  have loop_1 : ∀ (n_4 : Nat) (i : Nat) (pl : Nat), (i ≤ ln) → (scS cs i = some pl) → (pl < 5) → (ff (fun i_ => (scS cs (i_ + 1)).isNone) 0 ln = ff (fun i_ => (scS cs (i_ + 1)).isNone) i (ln - i)) → (ln - i) < n_4 →  ∀ x_1 : Int32, x_1 = nI pl → ∀ x_2 : Int32, x_2 = nI i → ∀ ls : Array Slot, lv_has ls 3 [(0, .ref (t 0)), (1, .int x_1), (2, .int x_2)] → W pr l en (headSpec wsX0_errorIndex ({ frames := 3, cells := 0, slots := 0, locals := 53 } : Room)).room st md ar bl mt co st.heap [] 0 0 (MQ bl (rdQ (.int (nI (errS cs ln)))) ar st 0 0 (fun _ => False)) (F0 md 4 ls []) := by
    intro n_4
    induction n_4 with
    | zero => intro i pl _ _ _ _ hn_4; exact absurd hn_4 (Nat.not_lt_zero _)
    | succ n_4 ih_4 =>
      intro i pl hi hsc hpl hff hn_4 x_1 ex_1 x_2 ex_2 ls hl
      subst ex_1
      subst ex_2
      have hl : lv_has ls 3 [(0, .ref (t 0)), (1, .int (nI pl)), (2, .int (nI i))] := hl
      refine lv_iload_n hx hb dX0_errorIndex_4 rfl (lv_at hl 2 rfl) ?_
      refine lv_aload_n hx hb dX0_errorIndex_5 rfl (lv_at hl 0 rfl) ?_
      refine va_get (D := D) (ci := 0) (v := .int (nI ln)) (C := RX0) (T := TX0) (N := 2) hx hb hts inX0 hown hE.1 hP 15 rfl rfl 1 (by decide) F15 (fun _ h9 => h9) rfl dX0_errorIndex_6 ?_
      refine nv_icmp_ge (x := i) (y := ln) (tgt := 38) hx hb dX0_errorIndex_9 (by decide) (by omega) (by omega) (fun c_2 => ?_) (fun c_2 => ?_)
      · have n_c_2 := Nat.not_lt.mpr c_2
        refine lv_aload_n hx hb dX0_errorIndex_38 rfl (lv_at hl 0 rfl) ?_
        refine va_get (D := D) (ci := 0) (v := .int (nI ln)) (C := RX0) (T := TX0) (N := 2) hx hb hts inX0 hown hE.1 hP 15 rfl rfl 1 (by decide) F15 (fun _ h9 => h9) rfl dX0_errorIndex_39 ?_
        exact rd_iret hx hb hr hk dX0_errorIndex_42 (by rw [errS, hff, show ln - i = 0 from by omega, ff])
      · have n_c_2 := Nat.not_le.mpr c_2
        refine lv_iload_n hx hb dX0_errorIndex_12 rfl (lv_at hl 1 rfl) ?_
        refine lv_aload_n hx hb dX0_errorIndex_13 rfl (lv_at hl 0 rfl) ?_
        refine va_get (D := D) (ci := 0) (v := .ref (t 1)) (C := RX0) (T := TX0) (N := 2) hx hb hts inX0 hown hE.1 hP 15 rfl rfl 0 (by decide) F9 (fun _ h9 => h9) rfl dX0_errorIndex_14 ?_
        refine lv_iload_n hx hb dX0_errorIndex_17 rfl (lv_at hl 2 rfl) ?_
        refine rd_SN (rest := [.int (nI pl)]) ⟨hx, hb, hml, hown, hts⟩ hP hE (c_X3_at l D K _ 16 _ 60 _ i rfl (by omega) (by omega)) (va_cnB (host := RX3) 2 hts gX0_errorIndex_X3_at_n23 rfl rfl rfl hE.2.2.2.1 IniX3 hn_X3_at ⟨Nat.le_of_ble_eq_true rfl, Nat.le_of_ble_eq_true rfl⟩) Sta_X3_at rfl hl.1 rfl (Nat.le_of_ble_eq_true rfl) dX0_errorIndex_18 ⟨Nat.zero_le _, Nat.zero_le _⟩ ?_
        refine top_i (y := nI (cs i)) (rfl) ?_
        have hb_3 := hCB.2 i (by omega)
        refine rd_S (rest := []) ⟨hx, hb, hml, hown, hts⟩ hP hE (c_X0_nextPlace l D K _ pl (cs i) (by omega) (by omega)) (va_cwS 2 hts gX0_errorIndex_X0_nextPlace rfl rfl rfl hn_X0_nextPlace ⟨Nat.le_of_ble_eq_true rfl, Nat.le_of_ble_eq_true rfl⟩) rfl hl.1 rfl (Nat.le_of_ble_eq_true rfl) dX0_errorIndex_21 ⟨Nat.zero_le _, Nat.zero_le _⟩ ?_
        refine lv_istore_n (lv' := [(1, .int (oI (npC pl (cs i)))), (0, .ref (t 0)), (2, .int (nI i))]) hx hb dX0_errorIndex_24 rfl hl (by decide) rfl (fun ls hl => ?_)
        refine lv_iload_n hx hb dX0_errorIndex_25 rfl (lv_at hl 0 rfl) ?_
        refine lv_iconst (v := -1) hx hb dX0_errorIndex_26 (by decide) ?_
        refine ov_icmp_ne (tgt := 32) hx hb dX0_errorIndex_27 (by decide) (lt31 (npC_lt pl (cs i)) (by decide)) (fun k_5 c_4 => ?_) (fun c_4 => ?_)
        · have hk_c_4 := (npC_lt pl (cs i)) k_5 c_4
          refine lv_iinc (v := nI (i + 1)) (lv' := [(2, .int (nI (i + 1))), (1, .int (oI (npC pl (cs i)))), (0, .ref (t 0))]) hx hb dX0_errorIndex_32 hl (k := 2) rfl (nI_add _ 1) (by decide) rfl (fun ls hl => ?_)
          refine lv_goto (tgt := 4) hx hb dX0_errorIndex_35 (by decide) ?_
          exact ih_4 (i + 1) k_5 (by omega) (by rw [scS, hsc]; exact c_4) (by omega) (ff_no hff (by simp [scS, hsc, c_2, n_c_2, c_4]) (by omega)) (by omega) _ (by rw [c_4]; rfl) _ rfl ls (lv_sub hl [2, 1, 0] rfl)
        · refine lv_iload_n hx hb dX0_errorIndex_30 rfl (lv_at hl 2 rfl) ?_
          exact rd_iret hx hb hr hk dX0_errorIndex_31 (by rw [errS, hff, ff_yes (by simp [scS, hsc, c_2, n_c_2, c_4]) (by omega)])
  exact loop_1 _ 0 0 (Nat.zero_le _) rfl (by decide) rfl (Nat.lt_succ_self _) _ rfl _ rfl ls (lv_sub hl [2, 1, 0] rfl)
set_option maxHeartbeats 4000000 in
set_option maxRecDepth 100000 in
theorem c_X0_isComplete (l : Launch) (D : va_G) (K : Nat → ClassId) (a b t : Nat → Nat) (T : TW) (X : va_W) (len : Nat → Option Nat) (qu : Nat → Nat) (n : Nat) (cs : Nat → Nat) (ln : Nat) (hCB : CB cs ln) : Rd l yX0_isComplete wsX0_isComplete ({ frames := 3, cells := 0, slots := 0, locals := 53 } : Room) D K (townW K a T ++ (waysW K b len qu n ++ (textW K t cs ln ++ X))) [.ref (t 0)] (.int (bI (cmpS cs ln))) := by
  refine rd_intro (cc := cX0_isComplete) (maxL := 3) (ret := (some .boolean)) (by decide) rfl (Nat.le_of_ble_eq_true rfl) ?_
  intro pr en st md ar bl mt co hx hb hml hr hts hown hk hP hE ls hl
  have hown : st.vm.findClass RX0 = some md.cls := hown
  have hl : lv_has ls 3 [(0, .ref (t 0))] := hl
  have hl60 := hCB.1
  have F15 : (Cond.fieldLink RX0 15 "TramTolls$Text" "length" "I").before ar st = true := hts _ (List.mem_of_getElem? (i := 1) rfl)
  have inX0 : ∀ w ∈ u_ws RX0 TX0 2, w ∈ wsX0_isComplete := fun w h => List.mem_cons_of_mem _ (List.mem_append_right _ h)
  have F9 : (Cond.fieldLink RX0 9 "TramTolls$Text" "codes" "[I").before ar st = true := hts _ (List.mem_of_getElem? (i := 2) rfl)
  have IniX3 : (Cond.initialized RX3).before ar st = true := hts _ (List.mem_of_getElem? (i := 4) rfl)
  have Sta_X3_at : (Cond.static yX3_at).before ar st = true := hts _ (List.mem_of_getElem? (i := 3) rfl)
  refine lv_iconst (v := nI 0) hx hb dX0_isComplete_0 (by decide) ?_
  refine lv_istore_n (lv' := [(1, .int (nI 0)), (0, .ref (t 0))]) hx hb dX0_isComplete_1 rfl hl (by decide) rfl (fun ls hl => ?_)
  refine lv_iconst (v := nI 0) hx hb dX0_isComplete_2 (by decide) ?_
  refine lv_istore_n (lv' := [(2, .int (nI 0)), (1, .int (nI 0)), (0, .ref (t 0))]) hx hb dX0_isComplete_3 rfl hl (by decide) rfl (fun ls hl => ?_)
  have loop_1 : ∀ (n_4 : Nat) (i : Nat) (pl : Option Nat), (i ≤ ln) → (scS cs i = pl) → (∀ k, pl = some k → k < 5) → (ln - i) < n_4 →  ∀ x_1 : Int32, x_1 = oI pl → ∀ x_2 : Int32, x_2 = nI i → ∀ ls : Array Slot, lv_has ls 3 [(0, .ref (t 0)), (1, .int x_1), (2, .int x_2)] → W pr l en (headSpec wsX0_isComplete ({ frames := 3, cells := 0, slots := 0, locals := 53 } : Room)).room st md ar bl mt co st.heap [] 0 0 (MQ bl (rdQ (.int (bI (cmpS cs ln)))) ar st 0 0 (fun _ => False)) (F0 md 4 ls []) := by
    intro n_4
    induction n_4 with
    | zero => intro i pl _ _ _ hn_4; exact absurd hn_4 (Nat.not_lt_zero _)
    | succ n_4 ih_4 =>
      intro i pl hi hsc hpl hn_4 x_1 ex_1 x_2 ex_2 ls hl
      subst ex_1
      subst ex_2
      have hl : lv_has ls 3 [(0, .ref (t 0)), (1, .int (oI pl)), (2, .int (nI i))] := hl
      refine lv_iload_n hx hb dX0_isComplete_4 rfl (lv_at hl 2 rfl) ?_
      refine lv_aload_n hx hb dX0_isComplete_5 rfl (lv_at hl 0 rfl) ?_
      refine va_get (D := D) (ci := 0) (v := .int (nI ln)) (C := RX0) (T := TX0) (N := 2) hx hb hts inX0 hown hE.1 hP 15 rfl rfl 1 (by decide) F15 (fun _ h9 => h9) rfl dX0_isComplete_6 ?_
      refine nv_icmp_ge (x := i) (y := ln) (tgt := 36) hx hb dX0_isComplete_9 (by decide) (by omega) (by omega) (fun c_2 => ?_) (fun c_2 => ?_)
      · have n_c_2 := Nat.not_lt.mpr c_2
        refine lv_iload_n hx hb dX0_isComplete_36 rfl (lv_at hl 1 rfl) ?_
        refine lv_iconst (v := nI 4) hx hb dX0_isComplete_37 (by decide) ?_
        refine oo_icmp_ne (x := pl) (y := some 4) (tgt := 45) hx hb dX0_isComplete_38 (by decide) (lt31 hpl (by decide)) (fun k q => by cases q; exact (by decide)) (fun c_3 => ?_) (fun c_3 => ?_)
        · refine lv_iconst (v := nI 0) hx hb dX0_isComplete_45 (by decide) ?_
          exact rd_zret hx hb hr hk dX0_isComplete_46 (by rw [cmpS]; first | (rw [← show i = ln from by omega, hsc]; simp [bI, nI_0, nI_one, c_2, n_c_2, c_3]; done) | (rw [sc_none cs (i := i) (hsc.trans (by assumption)) ln (by omega)]; simp_all [bI, nI_0, nI_one]))
        · refine lv_iconst (v := nI 1) hx hb dX0_isComplete_41 (by decide) ?_
          refine lv_goto (tgt := 46) hx hb dX0_isComplete_42 (by decide) ?_
          exact rd_zret hx hb hr hk dX0_isComplete_46 (by rw [cmpS]; first | (rw [← show i = ln from by omega, hsc]; simp [bI, nI_0, nI_one, c_2, n_c_2, c_3]; done) | (rw [sc_none cs (i := i) (hsc.trans (by assumption)) ln (by omega)]; simp_all [bI, nI_0, nI_one]))
      · have n_c_2 := Nat.not_le.mpr c_2
        refine lv_iload_n hx hb dX0_isComplete_12 rfl (lv_at hl 1 rfl) ?_
        refine lv_iconst (v := -1) hx hb dX0_isComplete_13 (by decide) ?_
        refine ov_icmp_eq (tgt := 36) hx hb dX0_isComplete_14 (by decide) (lt31 hpl (by decide)) (fun c_4 => ?_) (fun k_5 c_4 => ?_)
        · refine lv_iload_n hx hb dX0_isComplete_36 rfl (lv_at hl 1 rfl) ?_
          refine lv_iconst (v := nI 4) hx hb dX0_isComplete_37 (by decide) ?_
          refine oo_icmp_ne (x := pl) (y := some 4) (tgt := 45) hx hb dX0_isComplete_38 (by decide) (lt31 hpl (by decide)) (fun k q => by cases q; exact (by decide)) (fun c_6 => ?_) (fun c_6 => ?_)
          · refine lv_iconst (v := nI 0) hx hb dX0_isComplete_45 (by decide) ?_
            exact rd_zret hx hb hr hk dX0_isComplete_46 (by rw [cmpS]; first | (rw [← show i = ln from by omega, hsc]; simp [bI, nI_0, nI_one, c_2, n_c_2, c_4, c_6]; done) | (rw [sc_none cs (i := i) (hsc.trans (by assumption)) ln (by omega)]; simp_all [bI, nI_0, nI_one]))
          · refine lv_iconst (v := nI 1) hx hb dX0_isComplete_41 (by decide) ?_
            refine lv_goto (tgt := 46) hx hb dX0_isComplete_42 (by decide) ?_
            exact rd_zret hx hb hr hk dX0_isComplete_46 (by rw [cmpS]; first | (rw [← show i = ln from by omega, hsc]; simp [bI, nI_0, nI_one, c_2, n_c_2, c_4, c_6]; done) | (rw [sc_none cs (i := i) (hsc.trans (by assumption)) ln (by omega)]; simp_all [bI, nI_0, nI_one]))
        · have hk_c_4 := hpl k_5 c_4
          refine lv_iload_n hx hb dX0_isComplete_17 rfl (lv_at hl 1 rfl) ?_
          refine top_i (y := nI k_5) (by rw [c_4]; rfl) ?_
          refine lv_aload_n hx hb dX0_isComplete_18 rfl (lv_at hl 0 rfl) ?_
          refine va_get (D := D) (ci := 0) (v := .ref (t 1)) (C := RX0) (T := TX0) (N := 2) hx hb hts inX0 hown hE.1 hP 15 rfl rfl 0 (by decide) F9 (fun _ h9 => h9) rfl dX0_isComplete_19 ?_
          refine lv_iload_n hx hb dX0_isComplete_22 rfl (lv_at hl 2 rfl) ?_
          refine rd_SN (rest := [.int (nI k_5)]) ⟨hx, hb, hml, hown, hts⟩ hP hE (c_X3_at l D K _ 16 _ 60 _ i rfl (by omega) (by omega)) (va_cnB (host := RX3) 2 hts gX0_isComplete_X3_at_n23 rfl rfl rfl hE.2.2.2.1 IniX3 hn_X3_at ⟨Nat.le_of_ble_eq_true rfl, Nat.le_of_ble_eq_true rfl⟩) Sta_X3_at rfl hl.1 rfl (Nat.le_of_ble_eq_true rfl) dX0_isComplete_23 ⟨Nat.zero_le _, Nat.zero_le _⟩ ?_
          refine top_i (y := nI (cs i)) (rfl) ?_
          have hb_7 := hCB.2 i (by omega)
          refine rd_S (rest := []) ⟨hx, hb, hml, hown, hts⟩ hP hE (c_X0_nextPlace l D K _ k_5 (cs i) (by omega) (by omega)) (va_cwS 2 hts gX0_isComplete_X0_nextPlace rfl rfl rfl hn_X0_nextPlace ⟨Nat.le_of_ble_eq_true rfl, Nat.le_of_ble_eq_true rfl⟩) rfl hl.1 rfl (Nat.le_of_ble_eq_true rfl) dX0_isComplete_26 ⟨Nat.zero_le _, Nat.zero_le _⟩ ?_
          refine lv_istore_n (lv' := [(1, .int (oI (npC k_5 (cs i)))), (0, .ref (t 0)), (2, .int (nI i))]) hx hb dX0_isComplete_29 rfl hl (by decide) rfl (fun ls hl => ?_)
          refine lv_iinc (v := nI (i + 1)) (lv' := [(2, .int (nI (i + 1))), (1, .int (oI (npC k_5 (cs i)))), (0, .ref (t 0))]) hx hb dX0_isComplete_30 hl (k := 2) rfl (nI_add _ 1) (by decide) rfl (fun ls hl => ?_)
          refine lv_goto (tgt := 4) hx hb dX0_isComplete_33 (by decide) ?_
          exact ih_4 (i + 1) (npC k_5 (cs i)) (by omega) (by simp [scS, hsc, c_2, n_c_2, c_4]) (npC_lt _ _) (by omega) _ rfl _ rfl ls (lv_sub hl [2, 1, 0] rfl)
  exact loop_1 _ 0 (some 0) (Nat.zero_le _) rfl (fun k q => by cases q; decide) (Nat.lt_succ_self _) _ rfl _ rfl ls (lv_sub hl [2, 1, 0] rfl)
set_option maxHeartbeats 4000000 in
set_option maxRecDepth 100000 in
theorem c_X0_layPieces (l : Launch) (D : va_G) (K : Nat → ClassId) (sz : Nat) (a b t : Nat → Nat) (T : TW) (X : va_W) (len : Nat → Option Nat) (qu : Nat → Nat) (n : Nat) (cs : Nat → Nat) (ln : Nat) (hI : Inv T) (hCB : CB cs ln) (hC : scS cs ln = some 4) : Wr l yX0_layPieces wsX0_layPieces ({ frames := 5, cells := 0, slots := 0, locals := 101 } : Room) D K (townW K a T ++ (waysW K b len qu n ++ (textW K t cs ln ++ X))) sz [.ref (t 0), .ref (a 0)] (townW K a (plyS cs ln T).1 ++ (waysW K b len qu n ++ (textW K t cs ln ++ X))) (some (.int (nI ((plyS cs ln T).2)))) 0 0 := by
  refine wr_intro (cc := cX0_layPieces) (maxL := 9) (ret := (some .int)) (by decide) rfl (Nat.le_of_ble_eq_true rfl) ?_
  intro pr en st md ar bl mt co A hx hb hml hr hts hown hk hsz hAe hP hE hD hS hA hin ls hl
  have hown : st.vm.findClass RX0 = some md.cls := hown
  have hl : lv_has ls 9 [(0, .ref (t 0)), (1, .ref (a 0))] := hl
  have hl60 := hCB.1
  obtain ⟨H, hH⟩ : ∃ z, z = st.heap := ⟨_, rfl⟩
  obtain ⟨locs, hlo⟩ : ∃ z : List Loc, z = [] := ⟨_, rfl⟩
  have hP : va_P D vwCl (townW K a T ++ (waysW K b len qu n ++ (textW K t cs ln ++ X))) H := by rw [hH]; exact hP
  have hS : va_S A st.heap H locs := by rw [hH, hlo]; exact hS
  suffices go : W pr l en (headSpec wsX0_layPieces ({ frames := 5, cells := 0, slots := 0, locals := 101 } : Room)).room st md ar bl mt co H locs 0 0 (MQ bl (wrQ D (townW K a T ++ (waysW K b len qu n ++ (textW K t cs ln ++ X))) (townW K a (plyS cs ln T).1 ++ (waysW K b len qu n ++ (textW K t cs ln ++ X))) sz (some (.int (nI ((plyS cs ln T).2))))) ar st 0 0 A) (F0 md 0 ls []) by rw [hH, hlo] at go; exact go
  clear hH hlo
  have F15 : (Cond.fieldLink RX0 15 "TramTolls$Text" "length" "I").before ar st = true := hts _ (List.mem_of_getElem? (i := 1) rfl)
  have inX0 : ∀ w ∈ u_ws RX0 TX0 2, w ∈ wsX0_layPieces := fun w h => List.mem_cons_of_mem _ (List.mem_append_left _ (List.mem_append_right _ h))
  have F9 : (Cond.fieldLink RX0 9 "TramTolls$Text" "codes" "[I").before ar st = true := hts _ (List.mem_of_getElem? (i := 2) rfl)
  have IniX3 : (Cond.initialized RX3).before ar st = true := hts _ (List.mem_of_getElem? (i := 5) rfl)
  have Sta_X3_at : (Cond.static yX3_at).before ar st = true := hts _ (List.mem_of_getElem? (i := 4) rfl)
  have F39 : (Cond.fieldLink RX0 39 "TramTolls$Town" "heads" "[I").before ar st = true := hts _ (List.mem_of_getElem? (i := 3) rfl)
  have inX1 : ∀ w ∈ u_ws RX1 TX1 12, w ∈ wsX0_layPieces := fun w h => List.mem_cons_of_mem _ (List.mem_append_right _ h)
  refine lv_iconst (v := nI 0) hx hb dX0_layPieces_0 (by decide) ?_
  refine lv_istore_n (lv' := [(2, .int (nI 0)), (0, .ref (t 0)), (1, .ref (a 0))]) hx hb dX0_layPieces_1 rfl hl (by decide) rfl (fun ls hl => ?_)
  refine lv_iconst (v := nI 0) hx hb dX0_layPieces_2 (by decide) ?_
  refine lv_istore_n (lv' := [(3, .int (nI 0)), (2, .int (nI 0)), (0, .ref (t 0)), (1, .ref (a 0))]) hx hb dX0_layPieces_3 rfl hl (by decide) rfl (fun ls hl => ?_)
  refine lv_iconst (v := nI 0) hx hb dX0_layPieces_4 (by decide) ?_
  refine lv_istore (lv' := [(4, .int (nI 0)), (3, .int (nI 0)), (2, .int (nI 0)), (0, .ref (t 0)), (1, .ref (a 0))]) hx hb dX0_layPieces_5 hl (by decide) rfl (fun ls hl => ?_)
  refine lv_iconst (v := nI 0) hx hb dX0_layPieces_7 (by decide) ?_
  refine lv_istore (lv' := [(5, .int (nI 0)), (4, .int (nI 0)), (3, .int (nI 0)), (2, .int (nI 0)), (0, .ref (t 0)), (1, .ref (a 0))]) hx hb dX0_layPieces_8 hl (by decide) rfl (fun ls hl => ?_)
  have loop_1 : ∀ (n_10 : Nat) (i : Nat) (Tx : TW) (xl : Nat) (pl : Nat) (dg : Nat), (i ≤ ln) → (Inv Tx) → (PK cs i pl dg) → (pl < 128) → (dg < 128) → (runS cs ln 0 (T, 0, 0, 0) = runS cs (ln - i) i (Tx, xl, pl, dg)) → (xl ≤ i) → (ln - i) < n_10 → ∀ (H : Heap) (locs : List Loc), va_P D vwCl (townW K a Tx ++ (waysW K b len qu n ++ (textW K t cs ln ++ X))) H → va_D A (townW K a Tx ++ (waysW K b len qu n ++ (textW K t cs ln ++ X))) → va_S A st.heap H locs →  ∀ x_2 : Int32, x_2 = nI xl → ∀ x_3 : Int32, x_3 = nI pl → ∀ x_4 : Int32, x_4 = nI dg → ∀ x_5 : Int32, x_5 = nI i → ∀ ls : Array Slot, lv_has ls 9 [(0, .ref (t 0)), (1, .ref (a 0)), (2, .int x_2), (3, .int x_3), (4, .int x_4), (5, .int x_5)] → W pr l en (headSpec wsX0_layPieces ({ frames := 5, cells := 0, slots := 0, locals := 101 } : Room)).room st md ar bl mt co H locs 0 0 (MQ bl (wrQ D (townW K a T ++ (waysW K b len qu n ++ (textW K t cs ln ++ X))) (townW K a (plyS cs ln T).1 ++ (waysW K b len qu n ++ (textW K t cs ln ++ X))) sz (some (.int (nI ((plyS cs ln T).2))))) ar st 0 0 A) (F0 md 10 ls []) := by
    intro n_10
    induction n_10 with
    | zero => intro i Tx xl pl dg _ _ _ _ _ _ _ hn_10; exact absurd hn_10 (Nat.not_lt_zero _)
    | succ n_10 ih_10 =>
      intro i Tx xl pl dg hi hIx hPK hpl hdg he hxl hn_10 H locs hP hD hS x_2 ex_2 x_3 ex_3 x_4 ex_4 x_5 ex_5 ls hl
      subst ex_2
      subst ex_3
      subst ex_4
      subst ex_5
      have hl : lv_has ls 9 [(0, .ref (t 0)), (1, .ref (a 0)), (2, .int (nI xl)), (3, .int (nI pl)), (4, .int (nI dg)), (5, .int (nI i))] := hl
      refine lv_iload hx hb dX0_layPieces_10 (lv_at hl 5 rfl) ?_
      refine lv_aload_n hx hb dX0_layPieces_12 rfl (lv_at hl 0 rfl) ?_
      refine va_get (D := D) (ci := 0) (v := .int (nI ln)) (C := RX0) (T := TX0) (N := 2) hx hb hts inX0 hown hE.1 hP 15 rfl rfl 1 (by decide) F15 (fun _ h9 => h9) rfl dX0_layPieces_13 ?_
      refine nv_icmp_ge (x := i) (y := ln) (tgt := 111) hx hb dX0_layPieces_16 (by decide) (by omega) (by omega) (fun c_2 => ?_) (fun c_2 => ?_)
      · have n_c_2 := Nat.not_lt.mpr c_2
        refine lv_iload_n hx hb dX0_layPieces_111 rfl (lv_at hl 2 rfl) ?_
        have er : plyS cs ln T = (Tx, xl) := by rw [plyS, he]; first | exact run_end (by omega) | exact run_stop (by omega) (by assumption) (by assumption) (by omega)
        have eT : Tx = (plyS cs ln T).1 := by rw [er]
        rw [eT] at hP hD
        exact wr_iret hAe hP hD hS hx hb hr hk dX0_layPieces_112 ⟨Nat.le_of_ble_eq_true rfl, Nat.le_of_ble_eq_true rfl⟩ (by rw [er])
      · have n_c_2 := Nat.not_le.mpr c_2
        refine lv_aload_n hx hb dX0_layPieces_19 rfl (lv_at hl 0 rfl) ?_
        refine va_get (D := D) (ci := 0) (v := .ref (t 1)) (C := RX0) (T := TX0) (N := 2) hx hb hts inX0 hown hE.1 hP 15 rfl rfl 0 (by decide) F9 (fun _ h9 => h9) rfl dX0_layPieces_20 ?_
        refine lv_iload hx hb dX0_layPieces_23 (lv_at hl 5 rfl) ?_
        refine rd_SN (rest := []) ⟨hx, hb, hml, hown, hts⟩ hP hE (c_X3_at l D K _ 16 _ 60 _ i rfl (by omega) (by omega)) (va_cnB (host := RX3) 2 hts gX0_layPieces_X3_at_n23 rfl rfl rfl hE.2.2.2.1 IniX3 hn_X3_at ⟨Nat.le_of_ble_eq_true rfl, Nat.le_of_ble_eq_true rfl⟩) Sta_X3_at rfl hl.1 rfl (Nat.le_of_ble_eq_true rfl) dX0_layPieces_25 ⟨Nat.le_of_ble_eq_true rfl, Nat.le_of_ble_eq_true rfl⟩ ?_
        refine top_i (y := nI (cs i)) (rfl) ?_
        have hb_3 := hCB.2 i (by omega)
        refine lv_istore (lv' := [(6, .int (nI (cs i))), (0, .ref (t 0)), (1, .ref (a 0)), (2, .int (nI xl)), (3, .int (nI pl)), (4, .int (nI dg)), (5, .int (nI i))]) hx hb dX0_layPieces_28 hl (by decide) rfl (fun ls hl => ?_)
        refine lv_iload hx hb dX0_layPieces_30 (lv_at hl 0 rfl) ?_
        refine rd_S (rest := []) ⟨hx, hb, hml, hown, hts⟩ hP hE (c_X0_directionOf l D K _ (cs i) (by omega)) (va_cwS 1 hts gX0_layPieces_X0_directionOf rfl rfl rfl hn_X0_directionOf ⟨Nat.le_of_ble_eq_true rfl, Nat.le_of_ble_eq_true rfl⟩) rfl hl.1 rfl (Nat.le_of_ble_eq_true rfl) dX0_layPieces_32 ⟨Nat.le_of_ble_eq_true rfl, Nat.le_of_ble_eq_true rfl⟩ ?_
        refine lv_istore (lv' := [(7, .int (oI (dirC (cs i)))), (6, .int (nI (cs i))), (0, .ref (t 0)), (1, .ref (a 0)), (2, .int (nI xl)), (3, .int (nI pl)), (4, .int (nI dg)), (5, .int (nI i))]) hx hb dX0_layPieces_35 hl (by decide) rfl (fun ls hl => ?_)
        refine lv_iload hx hb dX0_layPieces_37 (lv_at hl 1 rfl) ?_
        refine lv_bipush (v := nI 58) hx hb dX0_layPieces_39 (by decide) ?_
        refine nv_icmp_ne (x := cs i) (y := 58) (tgt := 50) hx hb dX0_layPieces_41 (by decide) (by omega) (by decide) (fun c_4 => ?_) (fun c_4 => ?_)
        · refine lv_iload hx hb dX0_layPieces_50 (lv_at hl 0 rfl) ?_
          refine lv_iconst (v := -1) hx hb dX0_layPieces_52 (by decide) ?_
          refine ov_icmp_eq (tgt := 98) hx hb dX0_layPieces_53 (by decide) (lt31 (dirC_lt (cs i)) (by decide)) (fun c_5 => ?_) (fun k_6 c_5 => ?_)
          · have hq8 := (hPK.dig hC (show i < ln by omega) (by assumption) c_5).2
            have hq9 := hq8.1
            have hq7 := hq8.2
            refine lv_iload hx hb dX0_layPieces_98 (lv_at hl 1 rfl) ?_
            refine lv_bipush (v := nI 48) hx hb dX0_layPieces_100 (by decide) ?_
            refine nv_isub (x := cs i) (y := 48) hx hb dX0_layPieces_102 (by omega) ?_
            refine lv_istore (lv' := [(4, .int (nI ((cs i) - 48))), (7, .int (oI (dirC (cs i)))), (6, .int (nI (cs i))), (0, .ref (t 0)), (1, .ref (a 0)), (2, .int (nI xl)), (3, .int (nI pl)), (5, .int (nI i))]) hx hb dX0_layPieces_103 hl (by decide) rfl (fun ls hl => ?_)
            refine lv_iinc (v := nI (i + 1)) (lv' := [(5, .int (nI (i + 1))), (4, .int (nI ((cs i) - 48))), (7, .int (oI (dirC (cs i)))), (6, .int (nI (cs i))), (0, .ref (t 0)), (1, .ref (a 0)), (2, .int (nI xl)), (3, .int (nI pl))]) hx hb dX0_layPieces_105 hl (k := 7) rfl (nI_add _ 1) (by decide) rfl (fun ls hl => ?_)
            refine lv_goto (tgt := 10) hx hb dX0_layPieces_108 (by decide) ?_
            exact ih_10 (i + 1) Tx xl pl ((cs i) - 48) (by omega) hIx ((hPK.dig hC (by omega) (by assumption) (by assumption)).1) (by omega) (by omega) (he.trans (run_dig (by omega) (by assumption) (by assumption))) (by omega) (by omega) _ _ hP hD hS _ rfl _ rfl _ rfl _ rfl ls (lv_sub hl [4, 5, 6, 7, 1, 0] rfl)
          · have hk_c_5 := (dirC_lt (cs i)) k_6 c_5
            have hpk := (hPK.dir hC (show i < ln by omega) c_5).2
            have hpk1 := hpk.1
            have hpk2 := hpk.2.1
            have hpk3 := hpk.2.2
            refine lv_aload_n hx hb dX0_layPieces_56 rfl (lv_at hl 3 rfl) ?_
            refine va_get (D := D) (ci := 1) (v := .ref (a 7)) (C := RX1) (T := TX1) (N := 12) hx hb hts inX1 hown hE.1 hP 0 rfl rfl 6 (by decide) F39 (fun _ h9 => h9) rfl dX0_layPieces_57 ?_
            refine lv_iload_n hx hb dX0_layPieces_60 rfl (lv_at hl 5 rfl) ?_
            refine rd_SN (rest := []) ⟨hx, hb, hml, hown, hts⟩ hP hE (c_X3_at l D K _ 7 _ 4 _ pl rfl (by omega) (by omega)) (va_cnB (host := RX3) 2 hts gX0_layPieces_X3_at_n23 rfl rfl rfl hE.2.2.2.1 IniX3 hn_X3_at ⟨Nat.le_of_ble_eq_true rfl, Nat.le_of_ble_eq_true rfl⟩) Sta_X3_at rfl hl.1 rfl (Nat.le_of_ble_eq_true rfl) dX0_layPieces_61 ⟨Nat.le_of_ble_eq_true rfl, Nat.le_of_ble_eq_true rfl⟩ ?_
            refine top_i (y := nI (hdT Tx pl)) (show Tx 6 pl = nI (hdT Tx pl) from eq_hd hIx (by omega)) ?_
            have hb_7 := hd_lt hIx (show pl < 4 by omega)
            refine lv_istore (lv' := [(8, .int (nI (hdT Tx pl))), (7, .int (oI (dirC (cs i)))), (6, .int (nI (cs i))), (0, .ref (t 0)), (1, .ref (a 0)), (2, .int (nI xl)), (3, .int (nI pl)), (4, .int (nI dg)), (5, .int (nI i))]) hx hb dX0_layPieces_64 hl (by decide) rfl (fun ls hl => ?_)
            refine lv_aload_n hx hb dX0_layPieces_66 rfl (lv_at hl 4 rfl) ?_
            refine lv_iload_n hx hb dX0_layPieces_67 rfl (lv_at hl 6 rfl) ?_
            refine lv_iload hx hb dX0_layPieces_68 (lv_at hl 0 rfl) ?_
            refine lv_iload hx hb dX0_layPieces_70 (lv_at hl 7 rfl) ?_
            refine lv_iload hx hb dX0_layPieces_72 (lv_at hl 1 rfl) ?_
            refine top_i (y := nI k_6) (by rw [c_5]; rfl) ?_
            refine rd_V (rest := []) (ci := 1) (q0 := 0) ⟨hx, hb, hml, hown, hts⟩ hP hE (c_X1_reason l D K _ _ _ pl (hdT Tx pl) dg k_6 hIx (by omega) (by omega) (by omega) (by omega)) (cwV 4 hts gX0_layPieces_X1_reason rfl rfl rfl hd_X1_reason ⟨Nat.le_of_ble_eq_true rfl, Nat.le_of_ble_eq_true rfl⟩) rfl rfl rfl rfl hl.1 rfl (Nat.le_of_ble_eq_true rfl) dX0_layPieces_74 ⟨Nat.le_of_ble_eq_true rfl, Nat.le_of_ble_eq_true rfl⟩ ?_
            have hb_8 := why_lt Tx pl (hdT Tx pl) dg k_6
            refine nv_if_eq (x := whyT Tx pl (hdT Tx pl) dg k_6) (tgt := 82) hx hb dX0_layPieces_77 (by decide) (by omega) (fun c_9 => ?_) (fun c_9 => ?_)
            · have n_c_9 : ¬ 0 < whyT Tx pl (hdT Tx pl) dg k_6 := by omega
              obtain ⟨to_10, hto_10⟩ := why_nb c_9
              have hbto_10 := nb_lt (show hdT Tx pl < 80 by omega) to_10 hto_10
              refine lv_aload_n hx hb dX0_layPieces_82 rfl (lv_at hl 4 rfl) ?_
              refine lv_iload_n hx hb dX0_layPieces_83 rfl (lv_at hl 6 rfl) ?_
              refine lv_iload hx hb dX0_layPieces_84 (lv_at hl 0 rfl) ?_
              refine lv_iload hx hb dX0_layPieces_86 (lv_at hl 1 rfl) ?_
              refine top_i (y := nI k_6) (by rw [c_5]; rfl) ?_
              refine wr_V (rest := []) (ci := 1) (q0 := 0) ⟨hx, hb, hml, hown, hts⟩ hP hE hA hD hS (c_X1_layPiece l D K _ _ _ _ pl (hdT Tx pl) k_6 to_10 hIx (by omega) (by omega) (by omega) hto_10) (cwV 3 hts gX0_layPieces_X1_layPiece rfl rfl rfl hd_X1_layPiece ⟨Nat.le_of_ble_eq_true rfl, Nat.le_of_ble_eq_true rfl⟩) rfl rfl rfl rfl hl.1 rfl (Nat.le_of_ble_eq_true rfl) dX0_layPieces_88 ⟨Nat.le_of_ble_eq_true rfl, Nat.le_of_ble_eq_true rfl⟩ (fun H locs hP hD hS => ?_)
              have hP : va_P D vwCl (townW K a (layT Tx pl to_10 k_6) ++ (waysW K b len qu n ++ (textW K t cs ln ++ X))) H := hP
              have hD : va_D A (townW K a (layT Tx pl to_10 k_6) ++ (waysW K b len qu n ++ (textW K t cs ln ++ X))) := hD
              refine lv_pop hx hb dX0_layPieces_91 rfl ?_
              refine lv_iinc (v := nI (xl + 1)) (lv' := [(2, .int (nI (xl + 1))), (8, .int (nI (hdT Tx pl))), (7, .int (oI (dirC (cs i)))), (6, .int (nI (cs i))), (0, .ref (t 0)), (1, .ref (a 0)), (3, .int (nI pl)), (4, .int (nI dg)), (5, .int (nI i))]) hx hb dX0_layPieces_92 hl (k := 5) rfl (nI_add _ 1) (by decide) rfl (fun ls hl => ?_)
              refine lv_goto (tgt := 105) hx hb dX0_layPieces_95 (by decide) ?_
              refine lv_iinc (v := nI (i + 1)) (lv' := [(5, .int (nI (i + 1))), (2, .int (nI (xl + 1))), (8, .int (nI (hdT Tx pl))), (7, .int (oI (dirC (cs i)))), (6, .int (nI (cs i))), (0, .ref (t 0)), (1, .ref (a 0)), (3, .int (nI pl)), (4, .int (nI dg))]) hx hb dX0_layPieces_105 hl (k := 8) rfl (nI_add _ 1) (by decide) rfl (fun ls hl => ?_)
              refine lv_goto (tgt := 10) hx hb dX0_layPieces_108 (by decide) ?_
              exact ih_10 (i + 1) (layT Tx pl to_10 k_6) (xl + 1) pl dg (by omega) (hIx.lay (by omega) (by omega) (by omega)) ((hPK.dir hC (by omega) (by assumption)).1) (by omega) (by omega) (he.trans (run_lay (by omega) (by assumption) (by assumption) (by assumption) (by assumption))) (by omega) (by omega) _ _ hP hD hS _ rfl _ rfl _ rfl _ rfl ls (lv_sub hl [5, 6, 1, 7, 8, 0] rfl)
            · have n_c_9 : ¬ whyT Tx pl (hdT Tx pl) dg k_6 = 0 := by omega
              refine lv_iload_n hx hb dX0_layPieces_80 rfl (lv_at hl 5 rfl) ?_
              have er : plyS cs ln T = (Tx, xl) := by rw [plyS, he]; first | exact run_end (by omega) | exact run_stop (by omega) (by assumption) (by assumption) (by omega)
              have eT : Tx = (plyS cs ln T).1 := by rw [er]
              rw [eT] at hP hD
              exact wr_iret hAe hP hD hS hx hb hr hk dX0_layPieces_81 ⟨Nat.le_of_ble_eq_true rfl, Nat.le_of_ble_eq_true rfl⟩ (by rw [er])
        · refine lv_iload hx hb dX0_layPieces_44 (lv_at hl 6 rfl) ?_
          refine lv_istore_n (lv' := [(3, .int (nI dg)), (7, .int (oI (dirC (cs i)))), (6, .int (nI (cs i))), (0, .ref (t 0)), (1, .ref (a 0)), (2, .int (nI xl)), (4, .int (nI dg)), (5, .int (nI i))]) hx hb dX0_layPieces_46 rfl hl (by decide) rfl (fun ls hl => ?_)
          refine lv_goto (tgt := 105) hx hb dX0_layPieces_47 (by decide) ?_
          refine lv_iinc (v := nI (i + 1)) (lv' := [(5, .int (nI (i + 1))), (3, .int (nI dg)), (7, .int (oI (dirC (cs i)))), (6, .int (nI (cs i))), (0, .ref (t 0)), (1, .ref (a 0)), (2, .int (nI xl)), (4, .int (nI dg))]) hx hb dX0_layPieces_105 hl (k := 7) rfl (nI_add _ 1) (by decide) rfl (fun ls hl => ?_)
          refine lv_goto (tgt := 10) hx hb dX0_layPieces_108 (by decide) ?_
          exact ih_10 (i + 1) Tx xl dg dg (by omega) hIx (hPK.colon hC (by omega) (by assumption)) (by omega) (by omega) (he.trans (run_colon (by omega) (by assumption))) (by omega) (by omega) _ _ hP hD hS _ rfl _ rfl _ rfl _ rfl ls (lv_sub hl [4, 5, 6, 1, 7, 0] rfl)
  exact loop_1 _ 0 T 0 0 0 (Nat.zero_le _) hI (by refine ⟨0, rfl, ?_, ?_, ?_⟩ <;> omega) (by decide) (by decide) rfl (by decide) (Nat.lt_succ_self _) _ _ hP hD hS _ rfl _ rfl _ rfl _ rfl ls (lv_sub hl [4, 5, 3, 2, 1, 0] rfl)
