theorem hd_X4_isReached : yX4_isReached.cls = RX4 ∧ yX4_isReached.cls ≠ "java/lang/invoke/MethodHandle" ∧ yX4_isReached.cls ≠ "java/lang/invoke/VarHandle" ∧ (parseMethodDescriptor yX4_isReached.desc).map (fun d => d.parameters.length) = some 1 := by decide +kernel
theorem hn_X4_isReached : yX4_isReached.cls ≠ "java/lang/invoke/MethodHandle" ∧ yX4_isReached.cls ≠ "java/lang/invoke/VarHandle" ∧ (parseMethodDescriptor yX4_isReached.desc).map (fun d => d.parameters.length) = some 1 := hd_X4_isReached.2
theorem hd_X4_toldSquare : yX4_toldSquare.cls = RX4 ∧ yX4_toldSquare.cls ≠ "java/lang/invoke/MethodHandle" ∧ yX4_toldSquare.cls ≠ "java/lang/invoke/VarHandle" ∧ (parseMethodDescriptor yX4_toldSquare.desc).map (fun d => d.parameters.length) = some 2 := by decide +kernel
theorem hn_X4_toldSquare : yX4_toldSquare.cls ≠ "java/lang/invoke/MethodHandle" ∧ yX4_toldSquare.cls ≠ "java/lang/invoke/VarHandle" ∧ (parseMethodDescriptor yX4_toldSquare.desc).map (fun d => d.parameters.length) = some 2 := hd_X4_toldSquare.2
theorem hd_X4_toldStop : yX4_toldStop.cls = RX4 ∧ yX4_toldStop.cls ≠ "java/lang/invoke/MethodHandle" ∧ yX4_toldStop.cls ≠ "java/lang/invoke/VarHandle" ∧ (parseMethodDescriptor yX4_toldStop.desc).map (fun d => d.parameters.length) = some 2 := by decide +kernel
theorem hn_X4_toldStop : yX4_toldStop.cls ≠ "java/lang/invoke/MethodHandle" ∧ yX4_toldStop.cls ≠ "java/lang/invoke/VarHandle" ∧ (parseMethodDescriptor yX4_toldStop.desc).map (fun d => d.parameters.length) = some 2 := hd_X4_toldStop.2
theorem hd_X4_squaresOf : yX4_squaresOf.cls = RX4 ∧ yX4_squaresOf.cls ≠ "java/lang/invoke/MethodHandle" ∧ yX4_squaresOf.cls ≠ "java/lang/invoke/VarHandle" ∧ (parseMethodDescriptor yX4_squaresOf.desc).map (fun d => d.parameters.length) = some 2 := by decide +kernel
theorem hn_X4_squaresOf : yX4_squaresOf.cls ≠ "java/lang/invoke/MethodHandle" ∧ yX4_squaresOf.cls ≠ "java/lang/invoke/VarHandle" ∧ (parseMethodDescriptor yX4_squaresOf.desc).map (fun d => d.parameters.length) = some 2 := hd_X4_squaresOf.2
theorem hd_X4_stopsOf : yX4_stopsOf.cls = RX4 ∧ yX4_stopsOf.cls ≠ "java/lang/invoke/MethodHandle" ∧ yX4_stopsOf.cls ≠ "java/lang/invoke/VarHandle" ∧ (parseMethodDescriptor yX4_stopsOf.desc).map (fun d => d.parameters.length) = some 2 := by decide +kernel
theorem hn_X4_stopsOf : yX4_stopsOf.cls ≠ "java/lang/invoke/MethodHandle" ∧ yX4_stopsOf.cls ≠ "java/lang/invoke/VarHandle" ∧ (parseMethodDescriptor yX4_stopsOf.desc).map (fun d => d.parameters.length) = some 2 := hd_X4_stopsOf.2
theorem hd_X4_isJoined : yX4_isJoined.cls = RX4 ∧ yX4_isJoined.cls ≠ "java/lang/invoke/MethodHandle" ∧ yX4_isJoined.cls ≠ "java/lang/invoke/VarHandle" ∧ (parseMethodDescriptor yX4_isJoined.desc).map (fun d => d.parameters.length) = some 1 := by decide +kernel
theorem hn_X4_isJoined : yX4_isJoined.cls ≠ "java/lang/invoke/MethodHandle" ∧ yX4_isJoined.cls ≠ "java/lang/invoke/VarHandle" ∧ (parseMethodDescriptor yX4_isJoined.desc).map (fun d => d.parameters.length) = some 1 := hd_X4_isJoined.2
theorem hd_X4_toldPlayer : yX4_toldPlayer.cls = RX4 ∧ yX4_toldPlayer.cls ≠ "java/lang/invoke/MethodHandle" ∧ yX4_toldPlayer.cls ≠ "java/lang/invoke/VarHandle" ∧ (parseMethodDescriptor yX4_toldPlayer.desc).map (fun d => d.parameters.length) = some 2 := by decide +kernel
theorem hn_X4_toldPlayer : yX4_toldPlayer.cls ≠ "java/lang/invoke/MethodHandle" ∧ yX4_toldPlayer.cls ≠ "java/lang/invoke/VarHandle" ∧ (parseMethodDescriptor yX4_toldPlayer.desc).map (fun d => d.parameters.length) = some 2 := hd_X4_toldPlayer.2
theorem hd_X4_squaresWith : yX4_squaresWith.cls = RX4 ∧ yX4_squaresWith.cls ≠ "java/lang/invoke/MethodHandle" ∧ yX4_squaresWith.cls ≠ "java/lang/invoke/VarHandle" ∧ (parseMethodDescriptor yX4_squaresWith.desc).map (fun d => d.parameters.length) = some 1 := by decide +kernel
theorem hn_X4_squaresWith : yX4_squaresWith.cls ≠ "java/lang/invoke/MethodHandle" ∧ yX4_squaresWith.cls ≠ "java/lang/invoke/VarHandle" ∧ (parseMethodDescriptor yX4_squaresWith.desc).map (fun d => d.parameters.length) = some 1 := hd_X4_squaresWith.2
theorem hd_X4_houses : yX4_houses.cls = RX4 ∧ yX4_houses.cls ≠ "java/lang/invoke/MethodHandle" ∧ yX4_houses.cls ≠ "java/lang/invoke/VarHandle" ∧ (parseMethodDescriptor yX4_houses.desc).map (fun d => d.parameters.length) = some 0 := by decide +kernel
theorem hn_X4_houses : yX4_houses.cls ≠ "java/lang/invoke/MethodHandle" ∧ yX4_houses.cls ≠ "java/lang/invoke/VarHandle" ∧ (parseMethodDescriptor yX4_houses.desc).map (fun d => d.parameters.length) = some 0 := hd_X4_houses.2
theorem hd_X4_paid : yX4_paid.cls = RX4 ∧ yX4_paid.cls ≠ "java/lang/invoke/MethodHandle" ∧ yX4_paid.cls ≠ "java/lang/invoke/VarHandle" ∧ (parseMethodDescriptor yX4_paid.desc).map (fun d => d.parameters.length) = some 0 := by decide +kernel
theorem hn_X4_paid : yX4_paid.cls ≠ "java/lang/invoke/MethodHandle" ∧ yX4_paid.cls ≠ "java/lang/invoke/VarHandle" ∧ (parseMethodDescriptor yX4_paid.desc).map (fun d => d.parameters.length) = some 0 := hd_X4_paid.2
theorem hd_X4_stops : yX4_stops.cls = RX4 ∧ yX4_stops.cls ≠ "java/lang/invoke/MethodHandle" ∧ yX4_stops.cls ≠ "java/lang/invoke/VarHandle" ∧ (parseMethodDescriptor yX4_stops.desc).map (fun d => d.parameters.length) = some 0 := by decide +kernel
theorem hn_X4_stops : yX4_stops.cls ≠ "java/lang/invoke/MethodHandle" ∧ yX4_stops.cls ≠ "java/lang/invoke/VarHandle" ∧ (parseMethodDescriptor yX4_stops.desc).map (fun d => d.parameters.length) = some 0 := hd_X4_stops.2
theorem hd_X4_joined : yX4_joined.cls = RX4 ∧ yX4_joined.cls ≠ "java/lang/invoke/MethodHandle" ∧ yX4_joined.cls ≠ "java/lang/invoke/VarHandle" ∧ (parseMethodDescriptor yX4_joined.desc).map (fun d => d.parameters.length) = some 0 := by decide +kernel
theorem hn_X4_joined : yX4_joined.cls ≠ "java/lang/invoke/MethodHandle" ∧ yX4_joined.cls ≠ "java/lang/invoke/VarHandle" ∧ (parseMethodDescriptor yX4_joined.desc).map (fun d => d.parameters.length) = some 0 := hd_X4_joined.2
theorem hd_X4_counted : yX4_counted.cls = RX4 ∧ yX4_counted.cls ≠ "java/lang/invoke/MethodHandle" ∧ yX4_counted.cls ≠ "java/lang/invoke/VarHandle" ∧ (parseMethodDescriptor yX4_counted.desc).map (fun d => d.parameters.length) = some 1 := by decide +kernel
theorem hn_X4_counted : yX4_counted.cls ≠ "java/lang/invoke/MethodHandle" ∧ yX4_counted.cls ≠ "java/lang/invoke/VarHandle" ∧ (parseMethodDescriptor yX4_counted.desc).map (fun d => d.parameters.length) = some 1 := hd_X4_counted.2
theorem hd_X4_isOpen : yX4_isOpen.cls = RX4 ∧ yX4_isOpen.cls ≠ "java/lang/invoke/MethodHandle" ∧ yX4_isOpen.cls ≠ "java/lang/invoke/VarHandle" ∧ (parseMethodDescriptor yX4_isOpen.desc).map (fun d => d.parameters.length) = some 2 := by decide +kernel
theorem hn_X4_isOpen : yX4_isOpen.cls ≠ "java/lang/invoke/MethodHandle" ∧ yX4_isOpen.cls ≠ "java/lang/invoke/VarHandle" ∧ (parseMethodDescriptor yX4_isOpen.desc).map (fun d => d.parameters.length) = some 2 := hd_X4_isOpen.2
theorem hd_X4_first : yX4_first.cls = RX4 ∧ yX4_first.cls ≠ "java/lang/invoke/MethodHandle" ∧ yX4_first.cls ≠ "java/lang/invoke/VarHandle" ∧ (parseMethodDescriptor yX4_first.desc).map (fun d => d.parameters.length) = some 0 := by decide +kernel
theorem hn_X4_first : yX4_first.cls ≠ "java/lang/invoke/MethodHandle" ∧ yX4_first.cls ≠ "java/lang/invoke/VarHandle" ∧ (parseMethodDescriptor yX4_first.desc).map (fun d => d.parameters.length) = some 0 := hd_X4_first.2
theorem hd_X4_missingOf : yX4_missingOf.cls = RX4 ∧ yX4_missingOf.cls ≠ "java/lang/invoke/MethodHandle" ∧ yX4_missingOf.cls ≠ "java/lang/invoke/VarHandle" ∧ (parseMethodDescriptor yX4_missingOf.desc).map (fun d => d.parameters.length) = some 1 := by decide +kernel
theorem hn_X4_missingOf : yX4_missingOf.cls ≠ "java/lang/invoke/MethodHandle" ∧ yX4_missingOf.cls ≠ "java/lang/invoke/VarHandle" ∧ (parseMethodDescriptor yX4_missingOf.desc).map (fun d => d.parameters.length) = some 1 := hd_X4_missingOf.2
set_option maxHeartbeats 4000000 in
set_option maxRecDepth 100000 in
theorem c_X4_isReached (l : Launch) (D : va_G) (K : Nat → ClassId) (r : Nat → Nat) (th sm ty pm pn sta ms : Int32) (hs : Int64) (T : TW) (Y : va_W) (t p s : Nat) (hI : Inv T) (ht : t < 12) (hpl : plT T t = some p) (hsq : sqT T t = some s) : Rd l yX4_isReached wsX4_isReached ({ frames := 2, cells := 0, slots := 0, locals := 34 } : Room) D K (refO r th sm ty pm pn sta ms hs :: zC K r T :: Y) [.ref (r 0), .int (nI t)] (.int (bI (hasT T p s))) := by
  refine rd_intro (cc := cX4_isReached) (maxL := 2) (ret := (some .boolean)) (by decide) rfl (Nat.le_of_ble_eq_true rfl) ?_
  intro pr en st md ar bl mt co hx hb hml hr hts hown hk hP hE ls hl
  have hown : st.vm.findClass RX4 = some md.cls := hown
  have hl : lv_has ls 2 [(0, .ref (r 0)), (1, .int (nI t))] := hl
  have hp4 := pl_lt hI ht p hpl
  have hs80 := sq_lt hI ht s hsq
  refine lv_aload_n hx hb dX4_isReached_0 rfl (lv_at hl 0 rfl) ?_
  refine lv_aload_n hx hb dX4_isReached_1 rfl (lv_at hl 0 rfl) ?_
  refine lv_iload_n hx hb dX4_isReached_2 rfl (lv_at hl 1 rfl) ?_
  refine rd_V (rest := [.ref (r 0)]) (ci := 4) (q0 := 0) ⟨hx, hb, hml, hown, hts⟩ hP hE (c_X4_stopPlayer l D K _ _ _ _ _ _ _ _ _ _ _ t hI (by omega)) (cwV 1 hts gX4_isReached_X4_stopPlayer rfl rfl rfl hd_X4_stopPlayer ⟨Nat.le_of_ble_eq_true rfl, Nat.le_of_ble_eq_true rfl⟩) rfl rfl rfl rfl hl.1 rfl (Nat.le_of_ble_eq_true rfl) dX4_isReached_3 ⟨Nat.zero_le _, Nat.zero_le _⟩ ?_
  refine top_i (y := nI p) (by rw [hpl]; rfl) ?_
  refine lv_aload_n hx hb dX4_isReached_6 rfl (lv_at hl 0 rfl) ?_
  refine lv_iload_n hx hb dX4_isReached_7 rfl (lv_at hl 1 rfl) ?_
  refine rd_V (rest := [.int (nI p), .ref (r 0)]) (ci := 4) (q0 := 0) ⟨hx, hb, hml, hown, hts⟩ hP hE (c_X4_stopSquare l D K _ _ _ _ _ _ _ _ _ _ _ t hI (by omega)) (cwV 1 hts gX4_isReached_X4_stopSquare rfl rfl rfl hd_X4_stopSquare ⟨Nat.le_of_ble_eq_true rfl, Nat.le_of_ble_eq_true rfl⟩) rfl rfl rfl rfl hl.1 rfl (Nat.le_of_ble_eq_true rfl) dX4_isReached_8 ⟨Nat.zero_le _, Nat.zero_le _⟩ ?_
  refine top_i (y := nI s) (by rw [hsq]; rfl) ?_
  refine rd_V (rest := []) (ci := 4) (q0 := 0) ⟨hx, hb, hml, hown, hts⟩ hP hE (c_X4_hasTrack l D K _ _ _ _ _ _ _ _ _ _ _ p s hI (by omega) (by omega)) (cwV 2 hts gX4_isReached_X4_hasTrack rfl rfl rfl hd_X4_hasTrack ⟨Nat.le_of_ble_eq_true rfl, Nat.le_of_ble_eq_true rfl⟩) rfl rfl rfl rfl hl.1 rfl (Nat.le_of_ble_eq_true rfl) dX4_isReached_11 ⟨Nat.zero_le _, Nat.zero_le _⟩ ?_
  exact rd_zret hx hb hr hk dX4_isReached_14 (rfl)
set_option maxHeartbeats 4000000 in
set_option maxRecDepth 100000 in
theorem c_X4_toldSquare (l : Launch) (D : va_G) (K : Nat → ClassId) (r : Nat → Nat) (th sm ty pm pn sta ms : Int32) (hs : Int64) (T : TW) (Y : va_W) (s w : Nat) (hI : Inv T) (hs80 : s < 80) (hw : w < 4) : Rd l yX4_toldSquare wsX4_toldSquare ({ frames := 3, cells := 0, slots := 0, locals := 57 } : Room) D K (refO r th sm ty pm pn sta ms hs :: zC K r T :: Y) [.ref (r 0), .int (nI s), .int (nI w)] (.int (psT T s w)) := by
  refine rd_intro (cc := cX4_toldSquare) (maxL := 3) (ret := (some .int)) (by decide) rfl (Nat.le_of_ble_eq_true rfl) ?_
  intro pr en st md ar bl mt co hx hb hml hr hts hown hk hP hE ls hl
  have hown : st.vm.findClass RX4 = some md.cls := hown
  have hl : lv_has ls 3 [(0, .ref (r 0)), (1, .int (nI s)), (2, .int (nI w))] := hl
  have F7 : (Cond.fieldLink RX4 7 "TramTollsModel" "z" "[I").before ar st = true := hts _ (List.mem_of_getElem? (i := 1) rfl)
  have inX4 : ∀ w ∈ u_ws RX4 TX4 13, w ∈ wsX4_toldSquare := fun w h => List.mem_cons_of_mem _ (List.mem_append_right _ h)
  rcases (show w = 0 ∨ w = 1 ∨ w = 2 ∨ w = 3 by omega) with rfl | rfl | rfl | rfl
  · refine lv_iload_n hx hb dX4_toldSquare_0 rfl (lv_at hl 2 rfl) ?_
    refine nv_if_ne (x := 0) (tgt := 16) hx hb dX4_toldSquare_1 (by decide) (by decide) (fun c_1 => ?_) (fun c_1 => ?_)
    · exact absurd c_1 (by decide)
    have n_c_1 : ¬ 0 < 0 := by omega
    refine lv_aload_n hx hb dX4_toldSquare_4 rfl (lv_at hl 0 rfl) ?_
    refine va_get (D := D) (ci := 4) (v := .ref (r 1)) (C := RX4) (T := TX4) (N := 13) hx hb hts inX4 hown hE.1 hP 0 rfl rfl 1 (by decide) F7 (fun _ h9 => h9) rfl dX4_toldSquare_5 ?_
    refine lv_bipush (v := nI 84) hx hb dX4_toldSquare_8 (by decide) ?_
    refine lv_iload_n hx hb dX4_toldSquare_10 rfl (lv_at hl 1 rfl) ?_
    refine nv_iadd (x := 84) (y := s) hx hb dX4_toldSquare_11 ?_
    refine va_iald hx hb hE.1 hP 1 0 rfl rfl (pk_in (84 + s) 288 (by omega)) dX4_toldSquare_12 ?_
    rw [pk_cl (84 + s)]
    refine top_i (y := nI (mkT T s)) (((congrArg (zT T) (show 84 + s = 84 + s from by omega)).trans (zT_mk (by omega))).trans (show T 1 s = nI (mkT T s) from eq_mk hI (by omega))) ?_
    have hb_2 := mk_lt hI (show s < 80 by omega)
    refine lv_goto (tgt := 56) hx hb dX4_toldSquare_13 (by decide) ?_
    exact rd_iret hx hb hr hk dX4_toldSquare_56 (by first | rfl | (rw [sto_none]; rfl))
  · refine lv_iload_n hx hb dX4_toldSquare_0 rfl (lv_at hl 2 rfl) ?_
    refine nv_if_ne (x := 1) (tgt := 16) hx hb dX4_toldSquare_1 (by decide) (by decide) (fun c_3 => ?_) (fun c_3 => ?_)
    · have n_c_3 : ¬ 1 = 0 := by omega
      refine lv_iload_n hx hb dX4_toldSquare_16 rfl (lv_at hl 2 rfl) ?_
      refine lv_iconst (v := nI 1) hx hb dX4_toldSquare_17 (by decide) ?_
      refine nv_icmp_ne (x := 1) (y := 1) (tgt := 34) hx hb dX4_toldSquare_18 (by decide) (by decide) (by decide) (fun c_4 => ?_) (fun c_4 => ?_)
      · exact absurd c_4 (by decide)
      refine lv_aload_n hx hb dX4_toldSquare_21 rfl (lv_at hl 0 rfl) ?_
      refine va_get (D := D) (ci := 4) (v := .ref (r 1)) (C := RX4) (T := TX4) (N := 13) hx hb hts inX4 hown hE.1 hP 0 rfl rfl 1 (by decide) F7 (fun _ h9 => h9) rfl dX4_toldSquare_22 ?_
      refine lv_sipush (v := nI 164) hx hb dX4_toldSquare_25 (by decide) ?_
      refine lv_iload_n hx hb dX4_toldSquare_28 rfl (lv_at hl 1 rfl) ?_
      refine nv_iadd (x := 164) (y := s) hx hb dX4_toldSquare_29 ?_
      refine va_iald hx hb hE.1 hP 1 0 rfl rfl (pk_in (164 + s) 288 (by omega)) dX4_toldSquare_30 ?_
      rw [pk_cl (164 + s)]
      refine top_i (y := oI (owT T s)) (((congrArg (zT T) (show 164 + s = 164 + s from by omega)).trans (zT_ow (by omega))).trans (show T 2 s = oI (owT T s) from eq_ow hI (by omega))) ?_
      refine lv_goto (tgt := 56) hx hb dX4_toldSquare_31 (by decide) ?_
      exact rd_iret hx hb hr hk dX4_toldSquare_56 (by first | rfl | (rw [sto_none]; rfl))
    exact absurd c_3 (by decide)
  · refine lv_iload_n hx hb dX4_toldSquare_0 rfl (lv_at hl 2 rfl) ?_
    refine nv_if_ne (x := 2) (tgt := 16) hx hb dX4_toldSquare_1 (by decide) (by decide) (fun c_5 => ?_) (fun c_5 => ?_)
    · have n_c_5 : ¬ 2 = 0 := by omega
      refine lv_iload_n hx hb dX4_toldSquare_16 rfl (lv_at hl 2 rfl) ?_
      refine lv_iconst (v := nI 1) hx hb dX4_toldSquare_17 (by decide) ?_
      refine nv_icmp_ne (x := 2) (y := 1) (tgt := 34) hx hb dX4_toldSquare_18 (by decide) (by decide) (by decide) (fun c_6 => ?_) (fun c_6 => ?_)
      · refine lv_iload_n hx hb dX4_toldSquare_34 rfl (lv_at hl 2 rfl) ?_
        refine lv_iconst (v := nI 2) hx hb dX4_toldSquare_35 (by decide) ?_
        refine nv_icmp_ne (x := 2) (y := 2) (tgt := 50) hx hb dX4_toldSquare_36 (by decide) (by decide) (by decide) (fun c_7 => ?_) (fun c_7 => ?_)
        · exact absurd c_7 (by decide)
        refine lv_aload_n hx hb dX4_toldSquare_39 rfl (lv_at hl 0 rfl) ?_
        refine va_get (D := D) (ci := 4) (v := .ref (r 1)) (C := RX4) (T := TX4) (N := 13) hx hb hts inX4 hown hE.1 hP 0 rfl rfl 1 (by decide) F7 (fun _ h9 => h9) rfl dX4_toldSquare_40 ?_
        refine lv_iconst (v := nI 4) hx hb dX4_toldSquare_43 (by decide) ?_
        refine lv_iload_n hx hb dX4_toldSquare_44 rfl (lv_at hl 1 rfl) ?_
        refine nv_iadd (x := 4) (y := s) hx hb dX4_toldSquare_45 ?_
        refine va_iald hx hb hE.1 hP 1 0 rfl rfl (pk_in (4 + s) 288 (by omega)) dX4_toldSquare_46 ?_
        rw [pk_cl (4 + s)]
        refine top_i (y := bI (hsT T s)) (((congrArg (zT T) (show 4 + s = 4 + s from by omega)).trans (zT_hs (by omega))).trans (show T 0 s = bI (hsT T s) from eq_hs hI (by omega))) ?_
        refine lv_goto (tgt := 56) hx hb dX4_toldSquare_47 (by decide) ?_
        exact rd_iret hx hb hr hk dX4_toldSquare_56 (by first | rfl | (rw [sto_none]; rfl))
      exact absurd c_6 (by decide)
    exact absurd c_5 (by decide)
  · refine lv_iload_n hx hb dX4_toldSquare_0 rfl (lv_at hl 2 rfl) ?_
    refine nv_if_ne (x := 3) (tgt := 16) hx hb dX4_toldSquare_1 (by decide) (by decide) (fun c_8 => ?_) (fun c_8 => ?_)
    · have n_c_8 : ¬ 3 = 0 := by omega
      refine lv_iload_n hx hb dX4_toldSquare_16 rfl (lv_at hl 2 rfl) ?_
      refine lv_iconst (v := nI 1) hx hb dX4_toldSquare_17 (by decide) ?_
      refine nv_icmp_ne (x := 3) (y := 1) (tgt := 34) hx hb dX4_toldSquare_18 (by decide) (by decide) (by decide) (fun c_9 => ?_) (fun c_9 => ?_)
      · refine lv_iload_n hx hb dX4_toldSquare_34 rfl (lv_at hl 2 rfl) ?_
        refine lv_iconst (v := nI 2) hx hb dX4_toldSquare_35 (by decide) ?_
        refine nv_icmp_ne (x := 3) (y := 2) (tgt := 50) hx hb dX4_toldSquare_36 (by decide) (by decide) (by decide) (fun c_10 => ?_) (fun c_10 => ?_)
        · refine lv_aload_n hx hb dX4_toldSquare_50 rfl (lv_at hl 0 rfl) ?_
          refine lv_iload_n hx hb dX4_toldSquare_51 rfl (lv_at hl 1 rfl) ?_
          refine lv_iconst (v := -1) hx hb dX4_toldSquare_52 (by decide) ?_
          refine rd_V (rest := []) (ci := 4) (q0 := 0) ⟨hx, hb, hml, hown, hts⟩ hP hE (c_X4_stopOn l D K _ _ _ _ _ _ _ _ _ _ _ (some s) none hI (fun k z => by cases z; omega) (fun k z => by cases z)) (cwV 2 hts gX4_toldSquare_X4_stopOn rfl rfl rfl hd_X4_stopOn ⟨Nat.le_of_ble_eq_true rfl, Nat.le_of_ble_eq_true rfl⟩) rfl rfl rfl rfl hl.1 rfl (Nat.le_of_ble_eq_true rfl) dX4_toldSquare_53 ⟨Nat.zero_le _, Nat.zero_le _⟩ ?_
          exact rd_iret hx hb hr hk dX4_toldSquare_56 (by first | rfl | (rw [sto_none]; rfl))
        exact absurd c_10 (by decide)
      exact absurd c_9 (by decide)
    exact absurd c_8 (by decide)
set_option maxHeartbeats 4000000 in
set_option maxRecDepth 100000 in
theorem c_X4_toldStop (l : Launch) (D : va_G) (K : Nat → ClassId) (r : Nat → Nat) (th sm ty pm pn sta ms : Int32) (hs : Int64) (T : TW) (Y : va_W) (t w : Nat) (hI : Inv T) (ht : t < 12) (hw : w < 3) : Rd l yX4_toldStop wsX4_toldStop ({ frames := 3, cells := 0, slots := 0, locals := 55 } : Room) D K (refO r th sm ty pm pn sta ms hs :: zC K r T :: Y) [.ref (r 0), .int (nI t), .int (nI w)] (.int (ptT T t w)) := by
  refine rd_intro (cc := cX4_toldStop) (maxL := 3) (ret := (some .int)) (by decide) rfl (Nat.le_of_ble_eq_true rfl) ?_
  intro pr en st md ar bl mt co hx hb hml hr hts hown hk hP hE ls hl
  have hown : st.vm.findClass RX4 = some md.cls := hown
  have hl : lv_has ls 3 [(0, .ref (r 0)), (1, .int (nI t)), (2, .int (nI w))] := hl
  have F7 : (Cond.fieldLink RX4 7 "TramTollsModel" "z" "[I").before ar st = true := hts _ (List.mem_of_getElem? (i := 1) rfl)
  have inX4 : ∀ w ∈ u_ws RX4 TX4 13, w ∈ wsX4_toldStop := fun w h => List.mem_cons_of_mem _ (List.mem_append_right _ h)
  rcases (show w = 0 ∨ w = 1 ∨ w = 2 by omega) with rfl | rfl | rfl
  · refine lv_aload_n hx hb dX4_toldStop_0 rfl (lv_at hl 0 rfl) ?_
    refine lv_iload_n hx hb dX4_toldStop_1 rfl (lv_at hl 1 rfl) ?_
    refine rd_V (rest := []) (ci := 4) (q0 := 0) ⟨hx, hb, hml, hown, hts⟩ hP hE (c_X4_isStop l D K _ _ _ _ _ _ _ _ _ _ _ t hI (by omega)) (cwV 1 hts gX4_toldStop_X4_isStop rfl rfl rfl hd_X4_isStop ⟨Nat.le_of_ble_eq_true rfl, Nat.le_of_ble_eq_true rfl⟩) rfl rfl rfl rfl hl.1 rfl (Nat.le_of_ble_eq_true rfl) dX4_toldStop_2 ⟨Nat.zero_le _, Nat.zero_le _⟩ ?_
    refine bv_if_ne (x := (sqT T t).isSome) (tgt := 10) hx hb dX4_toldStop_5 (by decide) (fun c_1 => ?_) (fun c_1 => ?_)
    · obtain ⟨ks_2, hks_2⟩ := Option.isSome_iff_exists.mp c_1
      obtain ⟨kp_3, hkp_3⟩ := sq_is_pl hI (t := t) (by omega) hks_2
      have hbks_2 := sq_lt hI (t := t) (by omega) ks_2 hks_2
      have hbkp_3 := pl_lt hI (t := t) (by omega) kp_3 hkp_3
      refine lv_iload_n hx hb dX4_toldStop_10 rfl (lv_at hl 2 rfl) ?_
      refine lv_iconst (v := nI 2) hx hb dX4_toldStop_11 (by decide) ?_
      refine nv_icmp_ne (x := 0) (y := 2) (tgt := 31) hx hb dX4_toldStop_12 (by decide) (by decide) (by decide) (fun c_4 => ?_) (fun c_4 => ?_)
      · refine lv_aload_n hx hb dX4_toldStop_31 rfl (lv_at hl 0 rfl) ?_
        refine va_get (D := D) (ci := 4) (v := .ref (r 1)) (C := RX4) (T := TX4) (N := 13) hx hb hts inX4 hown hE.1 hP 0 rfl rfl 1 (by decide) F7 (fun _ h9 => h9) rfl dX4_toldStop_32 ?_
        refine lv_sipush (v := nI 244) hx hb dX4_toldStop_35 (by decide) ?_
        refine lv_iconst (v := nI 2) hx hb dX4_toldStop_38 (by decide) ?_
        refine lv_iload_n hx hb dX4_toldStop_39 rfl (lv_at hl 1 rfl) ?_
        refine nv_imul (x := 2) (y := t) hx hb dX4_toldStop_40 ?_
        refine nv_iadd (x := 244) (y := 2 * t) hx hb dX4_toldStop_41 ?_
        refine lv_iload_n hx hb dX4_toldStop_42 rfl (lv_at hl 2 rfl) ?_
        refine nv_iadd (x := 244 + (2 * t)) (y := 0) hx hb dX4_toldStop_43 ?_
        refine va_iald hx hb hE.1 hP 1 0 rfl rfl (pk_in ((244 + (2 * t)) + 0) 288 (by omega)) dX4_toldStop_44 ?_
        rw [pk_cl ((244 + (2 * t)) + 0)]
        refine top_i (y := oI (sqT T t)) (((congrArg (zT T) (show (244 + (2 * t)) + 0 = 244 + 2 * t from by omega)).trans (zT_sq (by omega))).trans (show T 3 t = oI (sqT T t) from eq_sq hI (by omega))) ?_
        refine top_i (y := nI ks_2) (by rw [hks_2]; rfl) ?_
        exact rd_iret hx hb hr hk dX4_toldStop_45 (by simp [ptT, rchT, onT, bI, oI_n, oI_s, nI_0, nI_one, c_1, hks_2, hkp_3, c_4])
      exact absurd c_4 (by decide)
    · have hpn_c_1 := isSome_pl hI (t := t) (by omega) c_1
      have hsn_c_1 := isSome_sq c_1
      refine lv_iconst (v := -1) hx hb dX4_toldStop_8 (by decide) ?_
      exact rd_iret hx hb hr hk dX4_toldStop_9 (by simp [ptT, rchT, onT, bI, oI_n, oI_s, nI_0, nI_one, c_1, hpn_c_1, hsn_c_1])
  · refine lv_aload_n hx hb dX4_toldStop_0 rfl (lv_at hl 0 rfl) ?_
    refine lv_iload_n hx hb dX4_toldStop_1 rfl (lv_at hl 1 rfl) ?_
    refine rd_V (rest := []) (ci := 4) (q0 := 0) ⟨hx, hb, hml, hown, hts⟩ hP hE (c_X4_isStop l D K _ _ _ _ _ _ _ _ _ _ _ t hI (by omega)) (cwV 1 hts gX4_toldStop_X4_isStop rfl rfl rfl hd_X4_isStop ⟨Nat.le_of_ble_eq_true rfl, Nat.le_of_ble_eq_true rfl⟩) rfl rfl rfl rfl hl.1 rfl (Nat.le_of_ble_eq_true rfl) dX4_toldStop_2 ⟨Nat.zero_le _, Nat.zero_le _⟩ ?_
    refine bv_if_ne (x := (sqT T t).isSome) (tgt := 10) hx hb dX4_toldStop_5 (by decide) (fun c_5 => ?_) (fun c_5 => ?_)
    · obtain ⟨ks_6, hks_6⟩ := Option.isSome_iff_exists.mp c_5
      obtain ⟨kp_7, hkp_7⟩ := sq_is_pl hI (t := t) (by omega) hks_6
      have hbks_6 := sq_lt hI (t := t) (by omega) ks_6 hks_6
      have hbkp_7 := pl_lt hI (t := t) (by omega) kp_7 hkp_7
      refine lv_iload_n hx hb dX4_toldStop_10 rfl (lv_at hl 2 rfl) ?_
      refine lv_iconst (v := nI 2) hx hb dX4_toldStop_11 (by decide) ?_
      refine nv_icmp_ne (x := 1) (y := 2) (tgt := 31) hx hb dX4_toldStop_12 (by decide) (by decide) (by decide) (fun c_8 => ?_) (fun c_8 => ?_)
      · refine lv_aload_n hx hb dX4_toldStop_31 rfl (lv_at hl 0 rfl) ?_
        refine va_get (D := D) (ci := 4) (v := .ref (r 1)) (C := RX4) (T := TX4) (N := 13) hx hb hts inX4 hown hE.1 hP 0 rfl rfl 1 (by decide) F7 (fun _ h9 => h9) rfl dX4_toldStop_32 ?_
        refine lv_sipush (v := nI 244) hx hb dX4_toldStop_35 (by decide) ?_
        refine lv_iconst (v := nI 2) hx hb dX4_toldStop_38 (by decide) ?_
        refine lv_iload_n hx hb dX4_toldStop_39 rfl (lv_at hl 1 rfl) ?_
        refine nv_imul (x := 2) (y := t) hx hb dX4_toldStop_40 ?_
        refine nv_iadd (x := 244) (y := 2 * t) hx hb dX4_toldStop_41 ?_
        refine lv_iload_n hx hb dX4_toldStop_42 rfl (lv_at hl 2 rfl) ?_
        refine nv_iadd (x := 244 + (2 * t)) (y := 1) hx hb dX4_toldStop_43 ?_
        refine va_iald hx hb hE.1 hP 1 0 rfl rfl (pk_in ((244 + (2 * t)) + 1) 288 (by omega)) dX4_toldStop_44 ?_
        rw [pk_cl ((244 + (2 * t)) + 1)]
        refine top_i (y := oI (plT T t)) (((congrArg (zT T) (show (244 + (2 * t)) + 1 = 244 + 2 * t + 1 from by omega)).trans (zT_pl (by omega))).trans (show T 4 t = oI (plT T t) from eq_pl hI (by omega))) ?_
        refine top_i (y := nI kp_7) (by rw [hkp_7]; rfl) ?_
        exact rd_iret hx hb hr hk dX4_toldStop_45 (by simp [ptT, rchT, onT, bI, oI_n, oI_s, nI_0, nI_one, c_5, hks_6, hkp_7, c_8])
      exact absurd c_8 (by decide)
    · have hpn_c_5 := isSome_pl hI (t := t) (by omega) c_5
      have hsn_c_5 := isSome_sq c_5
      refine lv_iconst (v := -1) hx hb dX4_toldStop_8 (by decide) ?_
      exact rd_iret hx hb hr hk dX4_toldStop_9 (by simp [ptT, rchT, onT, bI, oI_n, oI_s, nI_0, nI_one, c_5, hpn_c_5, hsn_c_5])
  · refine lv_aload_n hx hb dX4_toldStop_0 rfl (lv_at hl 0 rfl) ?_
    refine lv_iload_n hx hb dX4_toldStop_1 rfl (lv_at hl 1 rfl) ?_
    refine rd_V (rest := []) (ci := 4) (q0 := 0) ⟨hx, hb, hml, hown, hts⟩ hP hE (c_X4_isStop l D K _ _ _ _ _ _ _ _ _ _ _ t hI (by omega)) (cwV 1 hts gX4_toldStop_X4_isStop rfl rfl rfl hd_X4_isStop ⟨Nat.le_of_ble_eq_true rfl, Nat.le_of_ble_eq_true rfl⟩) rfl rfl rfl rfl hl.1 rfl (Nat.le_of_ble_eq_true rfl) dX4_toldStop_2 ⟨Nat.zero_le _, Nat.zero_le _⟩ ?_
    refine bv_if_ne (x := (sqT T t).isSome) (tgt := 10) hx hb dX4_toldStop_5 (by decide) (fun c_9 => ?_) (fun c_9 => ?_)
    · obtain ⟨ks_10, hks_10⟩ := Option.isSome_iff_exists.mp c_9
      obtain ⟨kp_11, hkp_11⟩ := sq_is_pl hI (t := t) (by omega) hks_10
      have hbks_10 := sq_lt hI (t := t) (by omega) ks_10 hks_10
      have hbkp_11 := pl_lt hI (t := t) (by omega) kp_11 hkp_11
      refine lv_iload_n hx hb dX4_toldStop_10 rfl (lv_at hl 2 rfl) ?_
      refine lv_iconst (v := nI 2) hx hb dX4_toldStop_11 (by decide) ?_
      refine nv_icmp_ne (x := 2) (y := 2) (tgt := 31) hx hb dX4_toldStop_12 (by decide) (by decide) (by decide) (fun c_12 => ?_) (fun c_12 => ?_)
      · exact absurd c_12 (by decide)
      refine lv_aload_n hx hb dX4_toldStop_15 rfl (lv_at hl 0 rfl) ?_
      refine lv_iload_n hx hb dX4_toldStop_16 rfl (lv_at hl 1 rfl) ?_
      refine rd_V (rest := []) (ci := 4) (q0 := 0) ⟨hx, hb, hml, hown, hts⟩ hP hE (c_X4_isReached l D K _ _ _ _ _ _ _ _ _ _ _ t kp_11 ks_10 hI (by omega) hkp_11 hks_10) (cwV 1 hts gX4_toldStop_X4_isReached rfl rfl rfl hd_X4_isReached ⟨Nat.le_of_ble_eq_true rfl, Nat.le_of_ble_eq_true rfl⟩) rfl rfl rfl rfl hl.1 rfl (Nat.le_of_ble_eq_true rfl) dX4_toldStop_17 ⟨Nat.zero_le _, Nat.zero_le _⟩ ?_
      refine bv_if_eq (x := hasT T kp_11 ks_10) (tgt := 27) hx hb dX4_toldStop_20 (by decide) (fun c_13 => ?_) (fun c_13 => ?_)
      · refine lv_iconst (v := nI 0) hx hb dX4_toldStop_27 (by decide) ?_
        refine lv_goto (tgt := 45) hx hb dX4_toldStop_28 (by decide) ?_
        exact rd_iret hx hb hr hk dX4_toldStop_45 (by simp [ptT, rchT, onT, bI, oI_n, oI_s, nI_0, nI_one, c_9, hks_10, hkp_11, c_12, c_13])
      · refine lv_iconst (v := nI 1) hx hb dX4_toldStop_23 (by decide) ?_
        refine lv_goto (tgt := 45) hx hb dX4_toldStop_24 (by decide) ?_
        exact rd_iret hx hb hr hk dX4_toldStop_45 (by simp [ptT, rchT, onT, bI, oI_n, oI_s, nI_0, nI_one, c_9, hks_10, hkp_11, c_12, c_13])
    · have hpn_c_9 := isSome_pl hI (t := t) (by omega) c_9
      have hsn_c_9 := isSome_sq c_9
      refine lv_iconst (v := -1) hx hb dX4_toldStop_8 (by decide) ?_
      exact rd_iret hx hb hr hk dX4_toldStop_9 (by simp [ptT, rchT, onT, bI, oI_n, oI_s, nI_0, nI_one, c_9, hpn_c_9, hsn_c_9])
set_option maxHeartbeats 4000000 in
set_option maxRecDepth 100000 in
theorem c_X4_squaresOf_0 (l : Launch) (D : va_G) (K : Nat → ClassId) (r : Nat → Nat) (th sm ty pm pn sta ms : Int32) (hs : Int64) (T : TW) (Y : va_W) (p : Nat) (hI : Inv T) (hp : p < 4) : Rd l yX4_squaresOf wsX4_squaresOf ({ frames := 2, cells := 0, slots := 0, locals := 34 } : Room) D K (refO r th sm ty pm pn sta ms hs :: zC K r T :: Y) [.ref (r 0), .int (nI p), .int (nI 0)] (.int (nI (lenT T p))) := by
  refine rd_intro (cc := cX4_squaresOf) (maxL := 5) (ret := (some .int)) (by decide) rfl (Nat.le_of_ble_eq_true rfl) ?_
  intro pr en st md ar bl mt co hx hb hml hr hts hown hk hP hE ls hl
  have hown : st.vm.findClass RX4 = some md.cls := hown
  have hl : lv_has ls 5 [(0, .ref (r 0)), (1, .int (nI p)), (2, .int (nI 0))] := hl
  refine lv_iconst (v := nI 0) hx hb dX4_squaresOf_0 (by decide) ?_
  refine lv_istore_n (lv' := [(3, .int (nI 0)), (0, .ref (r 0)), (1, .int (nI p)), (2, .int (nI 0))]) hx hb dX4_squaresOf_1 rfl hl (by decide) rfl (fun ls hl => ?_)
  refine lv_iconst (v := nI 0) hx hb dX4_squaresOf_2 (by decide) ?_
  refine lv_istore (lv' := [(4, .int (nI 0)), (3, .int (nI 0)), (0, .ref (r 0)), (1, .int (nI p)), (2, .int (nI 0))]) hx hb dX4_squaresOf_3 hl (by decide) rfl (fun ls hl => ?_)
  have loop_1 : ∀ (n_5 : Nat) (i : Nat), (i ≤ 80) → (80 - i) < n_5 →  ∀ x_3 : Int32, x_3 = nI (fa_cnt (fun t_ => hasT T p t_) i) → ∀ x_4 : Int32, x_4 = nI i → ∀ ls : Array Slot, lv_has ls 5 [(0, .ref (r 0)), (1, .int (nI p)), (2, .int (nI 0)), (3, .int x_3), (4, .int x_4)] → W pr l en (headSpec wsX4_squaresOf ({ frames := 2, cells := 0, slots := 0, locals := 34 } : Room)).room st md ar bl mt co st.heap [] 0 0 (MQ bl (rdQ (.int (nI (lenT T p)))) ar st 0 0 (fun _ => False)) (F0 md 5 ls []) := by
    intro n_5
    induction n_5 with
    | zero => intro i _ hn_5; exact absurd hn_5 (Nat.not_lt_zero _)
    | succ n_5 ih_5 =>
      intro i hi hn_5 x_3 ex_3 x_4 ex_4 ls hl
      subst ex_3
      subst ex_4
      have hl : lv_has ls 5 [(0, .ref (r 0)), (1, .int (nI p)), (2, .int (nI 0)), (3, .int (nI (fa_cnt (fun t_ => hasT T p t_) i))), (4, .int (nI i))] := hl
      have hcl := fa_cnt_le (fun t_ => hasT T p t_) i
      refine lv_iload hx hb dX4_squaresOf_5 (lv_at hl 4 rfl) ?_
      refine lv_bipush (v := nI 80) hx hb dX4_squaresOf_7 (by decide) ?_
      refine nv_icmp_ge (x := i) (y := 80) (tgt := 58) hx hb dX4_squaresOf_9 (by decide) (by omega) (by decide) (fun c_2 => ?_) (fun c_2 => ?_)
      · have n_c_2 := Nat.not_lt.mpr c_2
        refine lv_iload_n hx hb dX4_squaresOf_58 rfl (lv_at hl 3 rfl) ?_
        exact rd_iret hx hb hr hk dX4_squaresOf_59 (by rw [show i = 80 from by omega]; rfl)
      · have n_c_2 := Nat.not_le.mpr c_2
        refine lv_iload_n hx hb dX4_squaresOf_12 rfl (lv_at hl 3 rfl) ?_
        refine lv_iload_n hx hb dX4_squaresOf_13 rfl (lv_at hl 2 rfl) ?_
        refine nv_if_eq (x := 0) (tgt := 35) hx hb dX4_squaresOf_14 (by decide) (by decide) (fun c_3 => ?_) (fun c_3 => ?_)
        · have n_c_3 : ¬ 0 < 0 := by omega
          refine lv_aload_n hx hb dX4_squaresOf_35 rfl (lv_at hl 0 rfl) ?_
          refine lv_iload_n hx hb dX4_squaresOf_36 rfl (lv_at hl 1 rfl) ?_
          refine lv_iload hx hb dX4_squaresOf_37 (lv_at hl 4 rfl) ?_
          refine rd_V (rest := [.int (nI (fa_cnt (fun t_ => hasT T p t_) i))]) (ci := 4) (q0 := 0) ⟨hx, hb, hml, hown, hts⟩ hP hE (c_X4_hasTrack l D K _ _ _ _ _ _ _ _ _ _ _ p i hI (by omega) (by omega)) (cwV 2 hts gX4_squaresOf_X4_hasTrack rfl rfl rfl hd_X4_hasTrack ⟨Nat.le_of_ble_eq_true rfl, Nat.le_of_ble_eq_true rfl⟩) rfl rfl rfl rfl hl.1 rfl (Nat.le_of_ble_eq_true rfl) dX4_squaresOf_39 ⟨Nat.zero_le _, Nat.zero_le _⟩ ?_
          refine bv_if_eq (x := hasT T p i) (tgt := 49) hx hb dX4_squaresOf_42 (by decide) (fun c_4 => ?_) (fun c_4 => ?_)
          · refine lv_iconst (v := nI 0) hx hb dX4_squaresOf_49 (by decide) ?_
            refine nv_iadd (x := fa_cnt (fun t_ => hasT T p t_) i) (y := 0) hx hb dX4_squaresOf_50 ?_
            refine lv_istore_n (lv' := [(3, .int (nI ((fa_cnt (fun t_ => hasT T p t_) i) + 0))), (0, .ref (r 0)), (1, .int (nI p)), (2, .int (nI 0)), (4, .int (nI i))]) hx hb dX4_squaresOf_51 rfl hl (by decide) rfl (fun ls hl => ?_)
            refine lv_iinc (v := nI (i + 1)) (lv' := [(4, .int (nI (i + 1))), (3, .int (nI ((fa_cnt (fun t_ => hasT T p t_) i) + 0))), (0, .ref (r 0)), (1, .int (nI p)), (2, .int (nI 0))]) hx hb dX4_squaresOf_52 hl (k := 4) rfl (nI_add _ 1) (by decide) rfl (fun ls hl => ?_)
            refine lv_goto (tgt := 5) hx hb dX4_squaresOf_55 (by decide) ?_
            exact ih_5 (i + 1) (by omega) (by omega) _ (by (rw [fa_cnt_no (by simp [onT, c_2, n_c_2, c_3, n_c_3, c_4])]) <;> rfl) _ rfl ls (lv_sub hl [2, 3, 4, 1, 0] rfl)
          · refine lv_iconst (v := nI 1) hx hb dX4_squaresOf_45 (by decide) ?_
            refine lv_goto (tgt := 50) hx hb dX4_squaresOf_46 (by decide) ?_
            refine nv_iadd (x := fa_cnt (fun t_ => hasT T p t_) i) (y := 1) hx hb dX4_squaresOf_50 ?_
            refine lv_istore_n (lv' := [(3, .int (nI ((fa_cnt (fun t_ => hasT T p t_) i) + 1))), (0, .ref (r 0)), (1, .int (nI p)), (2, .int (nI 0)), (4, .int (nI i))]) hx hb dX4_squaresOf_51 rfl hl (by decide) rfl (fun ls hl => ?_)
            refine lv_iinc (v := nI (i + 1)) (lv' := [(4, .int (nI (i + 1))), (3, .int (nI ((fa_cnt (fun t_ => hasT T p t_) i) + 1))), (0, .ref (r 0)), (1, .int (nI p)), (2, .int (nI 0))]) hx hb dX4_squaresOf_52 hl (k := 4) rfl (nI_add _ 1) (by decide) rfl (fun ls hl => ?_)
            refine lv_goto (tgt := 5) hx hb dX4_squaresOf_55 (by decide) ?_
            exact ih_5 (i + 1) (by omega) (by omega) _ (by (rw [fa_cnt_yes (by simp [onT, c_2, n_c_2, c_3, n_c_3, c_4])]) <;> rfl) _ rfl ls (lv_sub hl [2, 3, 4, 1, 0] rfl)
        exact absurd c_3 (by decide)
  exact loop_1 _ 0 (by decide) (Nat.lt_succ_self _) _ rfl _ rfl ls (lv_sub hl [2, 3, 4, 1, 0] rfl)
set_option maxHeartbeats 4000000 in
set_option maxRecDepth 100000 in
theorem c_X4_squaresOf_1 (l : Launch) (D : va_G) (K : Nat → ClassId) (r : Nat → Nat) (th sm ty pm pn sta ms : Int32) (hs : Int64) (T : TW) (Y : va_W) (p : Nat) (hI : Inv T) (hp : p < 4) : Rd l yX4_squaresOf wsX4_squaresOf ({ frames := 2, cells := 0, slots := 0, locals := 34 } : Room) D K (refO r th sm ty pm pn sta ms hs :: zC K r T :: Y) [.ref (r 0), .int (nI p), .int (nI 1)] (.int (nI (ownsT T p))) := by
  refine rd_intro (cc := cX4_squaresOf) (maxL := 5) (ret := (some .int)) (by decide) rfl (Nat.le_of_ble_eq_true rfl) ?_
  intro pr en st md ar bl mt co hx hb hml hr hts hown hk hP hE ls hl
  have hown : st.vm.findClass RX4 = some md.cls := hown
  have hl : lv_has ls 5 [(0, .ref (r 0)), (1, .int (nI p)), (2, .int (nI 1))] := hl
  have F7 : (Cond.fieldLink RX4 7 "TramTollsModel" "z" "[I").before ar st = true := hts _ (List.mem_of_getElem? (i := 1) rfl)
  have inX4 : ∀ w ∈ u_ws RX4 TX4 13, w ∈ wsX4_squaresOf := fun w h => List.mem_cons_of_mem _ (List.mem_append_right _ h)
  refine lv_iconst (v := nI 0) hx hb dX4_squaresOf_0 (by decide) ?_
  refine lv_istore_n (lv' := [(3, .int (nI 0)), (0, .ref (r 0)), (1, .int (nI p)), (2, .int (nI 1))]) hx hb dX4_squaresOf_1 rfl hl (by decide) rfl (fun ls hl => ?_)
  refine lv_iconst (v := nI 0) hx hb dX4_squaresOf_2 (by decide) ?_
  refine lv_istore (lv' := [(4, .int (nI 0)), (3, .int (nI 0)), (0, .ref (r 0)), (1, .int (nI p)), (2, .int (nI 1))]) hx hb dX4_squaresOf_3 hl (by decide) rfl (fun ls hl => ?_)
  have loop_1 : ∀ (n_5 : Nat) (i : Nat), (i ≤ 80) → (80 - i) < n_5 →  ∀ x_3 : Int32, x_3 = nI (fa_cnt (fun t_ => decide (owT T t_ = some p)) i) → ∀ x_4 : Int32, x_4 = nI i → ∀ ls : Array Slot, lv_has ls 5 [(0, .ref (r 0)), (1, .int (nI p)), (2, .int (nI 1)), (3, .int x_3), (4, .int x_4)] → W pr l en (headSpec wsX4_squaresOf ({ frames := 2, cells := 0, slots := 0, locals := 34 } : Room)).room st md ar bl mt co st.heap [] 0 0 (MQ bl (rdQ (.int (nI (ownsT T p)))) ar st 0 0 (fun _ => False)) (F0 md 5 ls []) := by
    intro n_5
    induction n_5 with
    | zero => intro i _ hn_5; exact absurd hn_5 (Nat.not_lt_zero _)
    | succ n_5 ih_5 =>
      intro i hi hn_5 x_3 ex_3 x_4 ex_4 ls hl
      subst ex_3
      subst ex_4
      have hl : lv_has ls 5 [(0, .ref (r 0)), (1, .int (nI p)), (2, .int (nI 1)), (3, .int (nI (fa_cnt (fun t_ => decide (owT T t_ = some p)) i))), (4, .int (nI i))] := hl
      have hcl := fa_cnt_le (fun t_ => decide (owT T t_ = some p)) i
      refine lv_iload hx hb dX4_squaresOf_5 (lv_at hl 4 rfl) ?_
      refine lv_bipush (v := nI 80) hx hb dX4_squaresOf_7 (by decide) ?_
      refine nv_icmp_ge (x := i) (y := 80) (tgt := 58) hx hb dX4_squaresOf_9 (by decide) (by omega) (by decide) (fun c_2 => ?_) (fun c_2 => ?_)
      · have n_c_2 := Nat.not_lt.mpr c_2
        refine lv_iload_n hx hb dX4_squaresOf_58 rfl (lv_at hl 3 rfl) ?_
        exact rd_iret hx hb hr hk dX4_squaresOf_59 (by rw [show i = 80 from by omega]; rfl)
      · have n_c_2 := Nat.not_le.mpr c_2
        refine lv_iload_n hx hb dX4_squaresOf_12 rfl (lv_at hl 3 rfl) ?_
        refine lv_iload_n hx hb dX4_squaresOf_13 rfl (lv_at hl 2 rfl) ?_
        refine nv_if_eq (x := 1) (tgt := 35) hx hb dX4_squaresOf_14 (by decide) (by decide) (fun c_3 => ?_) (fun c_3 => ?_)
        · exact absurd c_3 (by decide)
        have n_c_3 : ¬ 1 = 0 := by omega
        refine lv_aload_n hx hb dX4_squaresOf_17 rfl (lv_at hl 0 rfl) ?_
        refine va_get (D := D) (ci := 4) (v := .ref (r 1)) (C := RX4) (T := TX4) (N := 13) hx hb hts inX4 hown hE.1 hP 0 rfl rfl 1 (by decide) F7 (fun _ h9 => h9) rfl dX4_squaresOf_18 ?_
        refine lv_sipush (v := nI 164) hx hb dX4_squaresOf_21 (by decide) ?_
        refine lv_iload hx hb dX4_squaresOf_24 (lv_at hl 4 rfl) ?_
        refine nv_iadd (x := 164) (y := i) hx hb dX4_squaresOf_26 ?_
        refine va_iald hx hb hE.1 hP 1 0 rfl rfl (pk_in (164 + i) 288 (by omega)) dX4_squaresOf_27 ?_
        rw [pk_cl (164 + i)]
        refine top_i (y := oI (owT T i)) (((congrArg (zT T) (show 164 + i = 164 + i from by omega)).trans (zT_ow (by omega))).trans (show T 2 i = oI (owT T i) from eq_ow hI (by omega))) ?_
        refine lv_iload_n hx hb dX4_squaresOf_28 rfl (lv_at hl 1 rfl) ?_
        refine oo_icmp_ne (x := owT T i) (y := some p) (tgt := 49) hx hb dX4_squaresOf_29 (by decide) (lt31 (ow_lt hI (s := i) (by omega)) (by decide)) (fun k q => by cases q; exact (by omega)) (fun c_4 => ?_) (fun c_4 => ?_)
        · refine lv_iconst (v := nI 0) hx hb dX4_squaresOf_49 (by decide) ?_
          refine nv_iadd (x := fa_cnt (fun t_ => decide (owT T t_ = some p)) i) (y := 0) hx hb dX4_squaresOf_50 ?_
          refine lv_istore_n (lv' := [(3, .int (nI ((fa_cnt (fun t_ => decide (owT T t_ = some p)) i) + 0))), (0, .ref (r 0)), (1, .int (nI p)), (2, .int (nI 1)), (4, .int (nI i))]) hx hb dX4_squaresOf_51 rfl hl (by decide) rfl (fun ls hl => ?_)
          refine lv_iinc (v := nI (i + 1)) (lv' := [(4, .int (nI (i + 1))), (3, .int (nI ((fa_cnt (fun t_ => decide (owT T t_ = some p)) i) + 0))), (0, .ref (r 0)), (1, .int (nI p)), (2, .int (nI 1))]) hx hb dX4_squaresOf_52 hl (k := 4) rfl (nI_add _ 1) (by decide) rfl (fun ls hl => ?_)
          refine lv_goto (tgt := 5) hx hb dX4_squaresOf_55 (by decide) ?_
          exact ih_5 (i + 1) (by omega) (by omega) _ (by (rw [fa_cnt_no (by simp [onT, c_2, n_c_2, c_3, n_c_3, c_4])]) <;> rfl) _ rfl ls (lv_sub hl [2, 3, 4, 1, 0] rfl)
        · refine lv_goto (tgt := 45) hx hb dX4_squaresOf_32 (by decide) ?_
          refine lv_iconst (v := nI 1) hx hb dX4_squaresOf_45 (by decide) ?_
          refine lv_goto (tgt := 50) hx hb dX4_squaresOf_46 (by decide) ?_
          refine nv_iadd (x := fa_cnt (fun t_ => decide (owT T t_ = some p)) i) (y := 1) hx hb dX4_squaresOf_50 ?_
          refine lv_istore_n (lv' := [(3, .int (nI ((fa_cnt (fun t_ => decide (owT T t_ = some p)) i) + 1))), (0, .ref (r 0)), (1, .int (nI p)), (2, .int (nI 1)), (4, .int (nI i))]) hx hb dX4_squaresOf_51 rfl hl (by decide) rfl (fun ls hl => ?_)
          refine lv_iinc (v := nI (i + 1)) (lv' := [(4, .int (nI (i + 1))), (3, .int (nI ((fa_cnt (fun t_ => decide (owT T t_ = some p)) i) + 1))), (0, .ref (r 0)), (1, .int (nI p)), (2, .int (nI 1))]) hx hb dX4_squaresOf_52 hl (k := 4) rfl (nI_add _ 1) (by decide) rfl (fun ls hl => ?_)
          refine lv_goto (tgt := 5) hx hb dX4_squaresOf_55 (by decide) ?_
          exact ih_5 (i + 1) (by omega) (by omega) _ (by (rw [fa_cnt_yes (by simp [onT, c_2, n_c_2, c_3, n_c_3, c_4])]) <;> rfl) _ rfl ls (lv_sub hl [2, 3, 4, 1, 0] rfl)
  exact loop_1 _ 0 (by decide) (Nat.lt_succ_self _) _ rfl _ rfl ls (lv_sub hl [2, 3, 4, 1, 0] rfl)
set_option maxHeartbeats 4000000 in
set_option maxRecDepth 100000 in
theorem c_X4_stopsOf_0 (l : Launch) (D : va_G) (K : Nat → ClassId) (r : Nat → Nat) (th sm ty pm pn sta ms : Int32) (hs : Int64) (T : TW) (Y : va_W) (p : Nat) (hI : Inv T) (hp : p < 4) : Rd l yX4_stopsOf wsX4_stopsOf ({ frames := 3, cells := 0, slots := 0, locals := 55 } : Room) D K (refO r th sm ty pm pn sta ms hs :: zC K r T :: Y) [.ref (r 0), .int (nI p), .int (nI 0)] (.int (nI (slT T p))) := by
  refine rd_intro (cc := cX4_stopsOf) (maxL := 5) (ret := (some .int)) (by decide) rfl (Nat.le_of_ble_eq_true rfl) ?_
  intro pr en st md ar bl mt co hx hb hml hr hts hown hk hP hE ls hl
  have hown : st.vm.findClass RX4 = some md.cls := hown
  have hl : lv_has ls 5 [(0, .ref (r 0)), (1, .int (nI p)), (2, .int (nI 0))] := hl
  refine lv_iconst (v := nI 0) hx hb dX4_stopsOf_0 (by decide) ?_
  refine lv_istore_n (lv' := [(3, .int (nI 0)), (0, .ref (r 0)), (1, .int (nI p)), (2, .int (nI 0))]) hx hb dX4_stopsOf_1 rfl hl (by decide) rfl (fun ls hl => ?_)
  refine lv_iconst (v := nI 0) hx hb dX4_stopsOf_2 (by decide) ?_
  refine lv_istore (lv' := [(4, .int (nI 0)), (3, .int (nI 0)), (0, .ref (r 0)), (1, .int (nI p)), (2, .int (nI 0))]) hx hb dX4_stopsOf_3 hl (by decide) rfl (fun ls hl => ?_)
  have loop_1 : ∀ (n_5 : Nat) (i : Nat), (i ≤ 12) → (12 - i) < n_5 →  ∀ x_3 : Int32, x_3 = nI (fa_cnt (fun t_ => decide (plT T t_ = some p)) i) → ∀ x_4 : Int32, x_4 = nI i → ∀ ls : Array Slot, lv_has ls 5 [(0, .ref (r 0)), (1, .int (nI p)), (2, .int (nI 0)), (3, .int x_3), (4, .int x_4)] → W pr l en (headSpec wsX4_stopsOf ({ frames := 3, cells := 0, slots := 0, locals := 55 } : Room)).room st md ar bl mt co st.heap [] 0 0 (MQ bl (rdQ (.int (nI (slT T p)))) ar st 0 0 (fun _ => False)) (F0 md 5 ls []) := by
    intro n_5
    induction n_5 with
    | zero => intro i _ hn_5; exact absurd hn_5 (Nat.not_lt_zero _)
    | succ n_5 ih_5 =>
      intro i hi hn_5 x_3 ex_3 x_4 ex_4 ls hl
      subst ex_3
      subst ex_4
      have hl : lv_has ls 5 [(0, .ref (r 0)), (1, .int (nI p)), (2, .int (nI 0)), (3, .int (nI (fa_cnt (fun t_ => decide (plT T t_ = some p)) i))), (4, .int (nI i))] := hl
      have hcl := fa_cnt_le (fun t_ => decide (plT T t_ = some p)) i
      refine lv_iload hx hb dX4_stopsOf_5 (lv_at hl 4 rfl) ?_
      refine lv_bipush (v := nI 12) hx hb dX4_stopsOf_7 (by decide) ?_
      refine nv_icmp_ge (x := i) (y := 12) (tgt := 58) hx hb dX4_stopsOf_9 (by decide) (by omega) (by decide) (fun c_2 => ?_) (fun c_2 => ?_)
      · have n_c_2 := Nat.not_lt.mpr c_2
        refine lv_iload_n hx hb dX4_stopsOf_58 rfl (lv_at hl 3 rfl) ?_
        exact rd_iret hx hb hr hk dX4_stopsOf_59 (by rw [show i = 12 from by omega]; rfl)
      · have n_c_2 := Nat.not_le.mpr c_2
        refine lv_iload_n hx hb dX4_stopsOf_12 rfl (lv_at hl 3 rfl) ?_
        refine lv_aload_n hx hb dX4_stopsOf_13 rfl (lv_at hl 0 rfl) ?_
        refine lv_iload hx hb dX4_stopsOf_14 (lv_at hl 4 rfl) ?_
        refine rd_V (rest := [.int (nI (fa_cnt (fun t_ => decide (plT T t_ = some p)) i))]) (ci := 4) (q0 := 0) ⟨hx, hb, hml, hown, hts⟩ hP hE (c_X4_isStop l D K _ _ _ _ _ _ _ _ _ _ _ i hI (by omega)) (cwV 1 hts gX4_stopsOf_X4_isStop rfl rfl rfl hd_X4_isStop ⟨Nat.le_of_ble_eq_true rfl, Nat.le_of_ble_eq_true rfl⟩) rfl rfl rfl rfl hl.1 rfl (Nat.le_of_ble_eq_true rfl) dX4_stopsOf_16 ⟨Nat.zero_le _, Nat.zero_le _⟩ ?_
        refine bv_if_eq (x := (sqT T i).isSome) (tgt := 49) hx hb dX4_stopsOf_19 (by decide) (fun c_3 => ?_) (fun c_3 => ?_)
        · have hpn_c_3 := isSome_pl hI (t := i) (by omega) c_3
          have hsn_c_3 := isSome_sq c_3
          refine lv_iconst (v := nI 0) hx hb dX4_stopsOf_49 (by decide) ?_
          refine nv_iadd (x := fa_cnt (fun t_ => decide (plT T t_ = some p)) i) (y := 0) hx hb dX4_stopsOf_50 ?_
          refine lv_istore_n (lv' := [(3, .int (nI ((fa_cnt (fun t_ => decide (plT T t_ = some p)) i) + 0))), (0, .ref (r 0)), (1, .int (nI p)), (2, .int (nI 0)), (4, .int (nI i))]) hx hb dX4_stopsOf_51 rfl hl (by decide) rfl (fun ls hl => ?_)
          refine lv_iinc (v := nI (i + 1)) (lv' := [(4, .int (nI (i + 1))), (3, .int (nI ((fa_cnt (fun t_ => decide (plT T t_ = some p)) i) + 0))), (0, .ref (r 0)), (1, .int (nI p)), (2, .int (nI 0))]) hx hb dX4_stopsOf_52 hl (k := 4) rfl (nI_add _ 1) (by decide) rfl (fun ls hl => ?_)
          refine lv_goto (tgt := 5) hx hb dX4_stopsOf_55 (by decide) ?_
          exact ih_5 (i + 1) (by omega) (by omega) _ (by (rw [fa_cnt_no (by simp [onT, c_2, n_c_2, c_3, hpn_c_3, hsn_c_3])]) <;> rfl) _ rfl ls (lv_sub hl [2, 3, 4, 1, 0] rfl)
        · obtain ⟨ks_4, hks_4⟩ := Option.isSome_iff_exists.mp c_3
          obtain ⟨kp_5, hkp_5⟩ := sq_is_pl hI (t := i) (by omega) hks_4
          have hbks_4 := sq_lt hI (t := i) (by omega) ks_4 hks_4
          have hbkp_5 := pl_lt hI (t := i) (by omega) kp_5 hkp_5
          refine lv_aload_n hx hb dX4_stopsOf_22 rfl (lv_at hl 0 rfl) ?_
          refine lv_iload hx hb dX4_stopsOf_23 (lv_at hl 4 rfl) ?_
          refine rd_V (rest := [.int (nI (fa_cnt (fun t_ => decide (plT T t_ = some p)) i))]) (ci := 4) (q0 := 0) ⟨hx, hb, hml, hown, hts⟩ hP hE (c_X4_stopPlayer l D K _ _ _ _ _ _ _ _ _ _ _ i hI (by omega)) (cwV 1 hts gX4_stopsOf_X4_stopPlayer rfl rfl rfl hd_X4_stopPlayer ⟨Nat.le_of_ble_eq_true rfl, Nat.le_of_ble_eq_true rfl⟩) rfl rfl rfl rfl hl.1 rfl (Nat.le_of_ble_eq_true rfl) dX4_stopsOf_25 ⟨Nat.zero_le _, Nat.zero_le _⟩ ?_
          refine top_i (y := nI kp_5) (by rw [hkp_5]; rfl) ?_
          refine lv_iload_n hx hb dX4_stopsOf_28 rfl (lv_at hl 1 rfl) ?_
          refine nv_icmp_ne (x := kp_5) (y := p) (tgt := 49) hx hb dX4_stopsOf_29 (by decide) (by omega) (by omega) (fun c_6 => ?_) (fun c_6 => ?_)
          · refine lv_iconst (v := nI 0) hx hb dX4_stopsOf_49 (by decide) ?_
            refine nv_iadd (x := fa_cnt (fun t_ => decide (plT T t_ = some p)) i) (y := 0) hx hb dX4_stopsOf_50 ?_
            refine lv_istore_n (lv' := [(3, .int (nI ((fa_cnt (fun t_ => decide (plT T t_ = some p)) i) + 0))), (0, .ref (r 0)), (1, .int (nI p)), (2, .int (nI 0)), (4, .int (nI i))]) hx hb dX4_stopsOf_51 rfl hl (by decide) rfl (fun ls hl => ?_)
            refine lv_iinc (v := nI (i + 1)) (lv' := [(4, .int (nI (i + 1))), (3, .int (nI ((fa_cnt (fun t_ => decide (plT T t_ = some p)) i) + 0))), (0, .ref (r 0)), (1, .int (nI p)), (2, .int (nI 0))]) hx hb dX4_stopsOf_52 hl (k := 4) rfl (nI_add _ 1) (by decide) rfl (fun ls hl => ?_)
            refine lv_goto (tgt := 5) hx hb dX4_stopsOf_55 (by decide) ?_
            exact ih_5 (i + 1) (by omega) (by omega) _ (by (rw [fa_cnt_no (by simp [onT, c_2, n_c_2, c_3, hks_4, hkp_5, c_6])]) <;> rfl) _ rfl ls (lv_sub hl [2, 3, 4, 1, 0] rfl)
          · have hq_c_6 : plT T i = some p := by rw [hkp_5, c_6]
            refine lv_iload_n hx hb dX4_stopsOf_32 rfl (lv_at hl 2 rfl) ?_
            refine nv_if_eq (x := 0) (tgt := 45) hx hb dX4_stopsOf_33 (by decide) (by decide) (fun c_7 => ?_) (fun c_7 => ?_)
            · have n_c_7 : ¬ 0 < 0 := by omega
              refine lv_iconst (v := nI 1) hx hb dX4_stopsOf_45 (by decide) ?_
              refine lv_goto (tgt := 50) hx hb dX4_stopsOf_46 (by decide) ?_
              refine nv_iadd (x := fa_cnt (fun t_ => decide (plT T t_ = some p)) i) (y := 1) hx hb dX4_stopsOf_50 ?_
              refine lv_istore_n (lv' := [(3, .int (nI ((fa_cnt (fun t_ => decide (plT T t_ = some p)) i) + 1))), (0, .ref (r 0)), (1, .int (nI p)), (2, .int (nI 0)), (4, .int (nI i))]) hx hb dX4_stopsOf_51 rfl hl (by decide) rfl (fun ls hl => ?_)
              refine lv_iinc (v := nI (i + 1)) (lv' := [(4, .int (nI (i + 1))), (3, .int (nI ((fa_cnt (fun t_ => decide (plT T t_ = some p)) i) + 1))), (0, .ref (r 0)), (1, .int (nI p)), (2, .int (nI 0))]) hx hb dX4_stopsOf_52 hl (k := 4) rfl (nI_add _ 1) (by decide) rfl (fun ls hl => ?_)
              refine lv_goto (tgt := 5) hx hb dX4_stopsOf_55 (by decide) ?_
              exact ih_5 (i + 1) (by omega) (by omega) _ (by (rw [fa_cnt_yes (by simp [onT, c_2, n_c_2, c_3, hks_4, hkp_5, c_6, hq_c_6, c_7, n_c_7])]) <;> rfl) _ rfl ls (lv_sub hl [2, 3, 4, 1, 0] rfl)
            exact absurd c_7 (by decide)
  exact loop_1 _ 0 (by decide) (Nat.lt_succ_self _) _ rfl _ rfl ls (lv_sub hl [2, 3, 4, 1, 0] rfl)
set_option maxHeartbeats 4000000 in
set_option maxRecDepth 100000 in
theorem c_X4_stopsOf_1 (l : Launch) (D : va_G) (K : Nat → ClassId) (r : Nat → Nat) (th sm ty pm pn sta ms : Int32) (hs : Int64) (T : TW) (Y : va_W) (p : Nat) (hI : Inv T) (hp : p < 4) : Rd l yX4_stopsOf wsX4_stopsOf ({ frames := 3, cells := 0, slots := 0, locals := 55 } : Room) D K (refO r th sm ty pm pn sta ms hs :: zC K r T :: Y) [.ref (r 0), .int (nI p), .int (nI 1)] (.int (nI (srT T p))) := by
  refine rd_intro (cc := cX4_stopsOf) (maxL := 5) (ret := (some .int)) (by decide) rfl (Nat.le_of_ble_eq_true rfl) ?_
  intro pr en st md ar bl mt co hx hb hml hr hts hown hk hP hE ls hl
  have hown : st.vm.findClass RX4 = some md.cls := hown
  have hl : lv_has ls 5 [(0, .ref (r 0)), (1, .int (nI p)), (2, .int (nI 1))] := hl
  refine lv_iconst (v := nI 0) hx hb dX4_stopsOf_0 (by decide) ?_
  refine lv_istore_n (lv' := [(3, .int (nI 0)), (0, .ref (r 0)), (1, .int (nI p)), (2, .int (nI 1))]) hx hb dX4_stopsOf_1 rfl hl (by decide) rfl (fun ls hl => ?_)
  refine lv_iconst (v := nI 0) hx hb dX4_stopsOf_2 (by decide) ?_
  refine lv_istore (lv' := [(4, .int (nI 0)), (3, .int (nI 0)), (0, .ref (r 0)), (1, .int (nI p)), (2, .int (nI 1))]) hx hb dX4_stopsOf_3 hl (by decide) rfl (fun ls hl => ?_)
  have loop_1 : ∀ (n_5 : Nat) (i : Nat), (i ≤ 12) → (12 - i) < n_5 →  ∀ x_3 : Int32, x_3 = nI (fa_cnt (fun t_ => decide (plT T t_ = some p) && onT T p t_) i) → ∀ x_4 : Int32, x_4 = nI i → ∀ ls : Array Slot, lv_has ls 5 [(0, .ref (r 0)), (1, .int (nI p)), (2, .int (nI 1)), (3, .int x_3), (4, .int x_4)] → W pr l en (headSpec wsX4_stopsOf ({ frames := 3, cells := 0, slots := 0, locals := 55 } : Room)).room st md ar bl mt co st.heap [] 0 0 (MQ bl (rdQ (.int (nI (srT T p)))) ar st 0 0 (fun _ => False)) (F0 md 5 ls []) := by
    intro n_5
    induction n_5 with
    | zero => intro i _ hn_5; exact absurd hn_5 (Nat.not_lt_zero _)
    | succ n_5 ih_5 =>
      intro i hi hn_5 x_3 ex_3 x_4 ex_4 ls hl
      subst ex_3
      subst ex_4
      have hl : lv_has ls 5 [(0, .ref (r 0)), (1, .int (nI p)), (2, .int (nI 1)), (3, .int (nI (fa_cnt (fun t_ => decide (plT T t_ = some p) && onT T p t_) i))), (4, .int (nI i))] := hl
      have hcl := fa_cnt_le (fun t_ => decide (plT T t_ = some p) && onT T p t_) i
      refine lv_iload hx hb dX4_stopsOf_5 (lv_at hl 4 rfl) ?_
      refine lv_bipush (v := nI 12) hx hb dX4_stopsOf_7 (by decide) ?_
      refine nv_icmp_ge (x := i) (y := 12) (tgt := 58) hx hb dX4_stopsOf_9 (by decide) (by omega) (by decide) (fun c_2 => ?_) (fun c_2 => ?_)
      · have n_c_2 := Nat.not_lt.mpr c_2
        refine lv_iload_n hx hb dX4_stopsOf_58 rfl (lv_at hl 3 rfl) ?_
        exact rd_iret hx hb hr hk dX4_stopsOf_59 (by rw [show i = 12 from by omega]; rfl)
      · have n_c_2 := Nat.not_le.mpr c_2
        refine lv_iload_n hx hb dX4_stopsOf_12 rfl (lv_at hl 3 rfl) ?_
        refine lv_aload_n hx hb dX4_stopsOf_13 rfl (lv_at hl 0 rfl) ?_
        refine lv_iload hx hb dX4_stopsOf_14 (lv_at hl 4 rfl) ?_
        refine rd_V (rest := [.int (nI (fa_cnt (fun t_ => decide (plT T t_ = some p) && onT T p t_) i))]) (ci := 4) (q0 := 0) ⟨hx, hb, hml, hown, hts⟩ hP hE (c_X4_isStop l D K _ _ _ _ _ _ _ _ _ _ _ i hI (by omega)) (cwV 1 hts gX4_stopsOf_X4_isStop rfl rfl rfl hd_X4_isStop ⟨Nat.le_of_ble_eq_true rfl, Nat.le_of_ble_eq_true rfl⟩) rfl rfl rfl rfl hl.1 rfl (Nat.le_of_ble_eq_true rfl) dX4_stopsOf_16 ⟨Nat.zero_le _, Nat.zero_le _⟩ ?_
        refine bv_if_eq (x := (sqT T i).isSome) (tgt := 49) hx hb dX4_stopsOf_19 (by decide) (fun c_3 => ?_) (fun c_3 => ?_)
        · have hpn_c_3 := isSome_pl hI (t := i) (by omega) c_3
          have hsn_c_3 := isSome_sq c_3
          refine lv_iconst (v := nI 0) hx hb dX4_stopsOf_49 (by decide) ?_
          refine nv_iadd (x := fa_cnt (fun t_ => decide (plT T t_ = some p) && onT T p t_) i) (y := 0) hx hb dX4_stopsOf_50 ?_
          refine lv_istore_n (lv' := [(3, .int (nI ((fa_cnt (fun t_ => decide (plT T t_ = some p) && onT T p t_) i) + 0))), (0, .ref (r 0)), (1, .int (nI p)), (2, .int (nI 1)), (4, .int (nI i))]) hx hb dX4_stopsOf_51 rfl hl (by decide) rfl (fun ls hl => ?_)
          refine lv_iinc (v := nI (i + 1)) (lv' := [(4, .int (nI (i + 1))), (3, .int (nI ((fa_cnt (fun t_ => decide (plT T t_ = some p) && onT T p t_) i) + 0))), (0, .ref (r 0)), (1, .int (nI p)), (2, .int (nI 1))]) hx hb dX4_stopsOf_52 hl (k := 4) rfl (nI_add _ 1) (by decide) rfl (fun ls hl => ?_)
          refine lv_goto (tgt := 5) hx hb dX4_stopsOf_55 (by decide) ?_
          exact ih_5 (i + 1) (by omega) (by omega) _ (by (rw [fa_cnt_no (by simp [onT, c_2, n_c_2, c_3, hpn_c_3, hsn_c_3])]) <;> rfl) _ rfl ls (lv_sub hl [2, 3, 4, 1, 0] rfl)
        · obtain ⟨ks_4, hks_4⟩ := Option.isSome_iff_exists.mp c_3
          obtain ⟨kp_5, hkp_5⟩ := sq_is_pl hI (t := i) (by omega) hks_4
          have hbks_4 := sq_lt hI (t := i) (by omega) ks_4 hks_4
          have hbkp_5 := pl_lt hI (t := i) (by omega) kp_5 hkp_5
          refine lv_aload_n hx hb dX4_stopsOf_22 rfl (lv_at hl 0 rfl) ?_
          refine lv_iload hx hb dX4_stopsOf_23 (lv_at hl 4 rfl) ?_
          refine rd_V (rest := [.int (nI (fa_cnt (fun t_ => decide (plT T t_ = some p) && onT T p t_) i))]) (ci := 4) (q0 := 0) ⟨hx, hb, hml, hown, hts⟩ hP hE (c_X4_stopPlayer l D K _ _ _ _ _ _ _ _ _ _ _ i hI (by omega)) (cwV 1 hts gX4_stopsOf_X4_stopPlayer rfl rfl rfl hd_X4_stopPlayer ⟨Nat.le_of_ble_eq_true rfl, Nat.le_of_ble_eq_true rfl⟩) rfl rfl rfl rfl hl.1 rfl (Nat.le_of_ble_eq_true rfl) dX4_stopsOf_25 ⟨Nat.zero_le _, Nat.zero_le _⟩ ?_
          refine top_i (y := nI kp_5) (by rw [hkp_5]; rfl) ?_
          refine lv_iload_n hx hb dX4_stopsOf_28 rfl (lv_at hl 1 rfl) ?_
          refine nv_icmp_ne (x := kp_5) (y := p) (tgt := 49) hx hb dX4_stopsOf_29 (by decide) (by omega) (by omega) (fun c_6 => ?_) (fun c_6 => ?_)
          · refine lv_iconst (v := nI 0) hx hb dX4_stopsOf_49 (by decide) ?_
            refine nv_iadd (x := fa_cnt (fun t_ => decide (plT T t_ = some p) && onT T p t_) i) (y := 0) hx hb dX4_stopsOf_50 ?_
            refine lv_istore_n (lv' := [(3, .int (nI ((fa_cnt (fun t_ => decide (plT T t_ = some p) && onT T p t_) i) + 0))), (0, .ref (r 0)), (1, .int (nI p)), (2, .int (nI 1)), (4, .int (nI i))]) hx hb dX4_stopsOf_51 rfl hl (by decide) rfl (fun ls hl => ?_)
            refine lv_iinc (v := nI (i + 1)) (lv' := [(4, .int (nI (i + 1))), (3, .int (nI ((fa_cnt (fun t_ => decide (plT T t_ = some p) && onT T p t_) i) + 0))), (0, .ref (r 0)), (1, .int (nI p)), (2, .int (nI 1))]) hx hb dX4_stopsOf_52 hl (k := 4) rfl (nI_add _ 1) (by decide) rfl (fun ls hl => ?_)
            refine lv_goto (tgt := 5) hx hb dX4_stopsOf_55 (by decide) ?_
            exact ih_5 (i + 1) (by omega) (by omega) _ (by (rw [fa_cnt_no (by simp [onT, c_2, n_c_2, c_3, hks_4, hkp_5, c_6])]) <;> rfl) _ rfl ls (lv_sub hl [2, 3, 4, 1, 0] rfl)
          · have hq_c_6 : plT T i = some p := by rw [hkp_5, c_6]
            refine lv_iload_n hx hb dX4_stopsOf_32 rfl (lv_at hl 2 rfl) ?_
            refine nv_if_eq (x := 1) (tgt := 45) hx hb dX4_stopsOf_33 (by decide) (by decide) (fun c_7 => ?_) (fun c_7 => ?_)
            · exact absurd c_7 (by decide)
            have n_c_7 : ¬ 1 = 0 := by omega
            refine lv_aload_n hx hb dX4_stopsOf_36 rfl (lv_at hl 0 rfl) ?_
            refine lv_iload hx hb dX4_stopsOf_37 (lv_at hl 4 rfl) ?_
            refine rd_V (rest := [.int (nI (fa_cnt (fun t_ => decide (plT T t_ = some p) && onT T p t_) i))]) (ci := 4) (q0 := 0) ⟨hx, hb, hml, hown, hts⟩ hP hE (c_X4_isReached l D K _ _ _ _ _ _ _ _ _ _ _ i p ks_4 hI (by omega) hq_c_6 hks_4) (cwV 1 hts gX4_stopsOf_X4_isReached rfl rfl rfl hd_X4_isReached ⟨Nat.le_of_ble_eq_true rfl, Nat.le_of_ble_eq_true rfl⟩) rfl rfl rfl rfl hl.1 rfl (Nat.le_of_ble_eq_true rfl) dX4_stopsOf_39 ⟨Nat.zero_le _, Nat.zero_le _⟩ ?_
            refine bv_if_eq (x := hasT T p ks_4) (tgt := 49) hx hb dX4_stopsOf_42 (by decide) (fun c_8 => ?_) (fun c_8 => ?_)
            · refine lv_iconst (v := nI 0) hx hb dX4_stopsOf_49 (by decide) ?_
              refine nv_iadd (x := fa_cnt (fun t_ => decide (plT T t_ = some p) && onT T p t_) i) (y := 0) hx hb dX4_stopsOf_50 ?_
              refine lv_istore_n (lv' := [(3, .int (nI ((fa_cnt (fun t_ => decide (plT T t_ = some p) && onT T p t_) i) + 0))), (0, .ref (r 0)), (1, .int (nI p)), (2, .int (nI 1)), (4, .int (nI i))]) hx hb dX4_stopsOf_51 rfl hl (by decide) rfl (fun ls hl => ?_)
              refine lv_iinc (v := nI (i + 1)) (lv' := [(4, .int (nI (i + 1))), (3, .int (nI ((fa_cnt (fun t_ => decide (plT T t_ = some p) && onT T p t_) i) + 0))), (0, .ref (r 0)), (1, .int (nI p)), (2, .int (nI 1))]) hx hb dX4_stopsOf_52 hl (k := 4) rfl (nI_add _ 1) (by decide) rfl (fun ls hl => ?_)
              refine lv_goto (tgt := 5) hx hb dX4_stopsOf_55 (by decide) ?_
              exact ih_5 (i + 1) (by omega) (by omega) _ (by (rw [fa_cnt_no (by simp [onT, c_2, n_c_2, c_3, hks_4, hkp_5, c_6, hq_c_6, c_7, n_c_7, c_8])]) <;> rfl) _ rfl ls (lv_sub hl [2, 3, 4, 1, 0] rfl)
            · refine lv_iconst (v := nI 1) hx hb dX4_stopsOf_45 (by decide) ?_
              refine lv_goto (tgt := 50) hx hb dX4_stopsOf_46 (by decide) ?_
              refine nv_iadd (x := fa_cnt (fun t_ => decide (plT T t_ = some p) && onT T p t_) i) (y := 1) hx hb dX4_stopsOf_50 ?_
              refine lv_istore_n (lv' := [(3, .int (nI ((fa_cnt (fun t_ => decide (plT T t_ = some p) && onT T p t_) i) + 1))), (0, .ref (r 0)), (1, .int (nI p)), (2, .int (nI 1)), (4, .int (nI i))]) hx hb dX4_stopsOf_51 rfl hl (by decide) rfl (fun ls hl => ?_)
              refine lv_iinc (v := nI (i + 1)) (lv' := [(4, .int (nI (i + 1))), (3, .int (nI ((fa_cnt (fun t_ => decide (plT T t_ = some p) && onT T p t_) i) + 1))), (0, .ref (r 0)), (1, .int (nI p)), (2, .int (nI 1))]) hx hb dX4_stopsOf_52 hl (k := 4) rfl (nI_add _ 1) (by decide) rfl (fun ls hl => ?_)
              refine lv_goto (tgt := 5) hx hb dX4_stopsOf_55 (by decide) ?_
              exact ih_5 (i + 1) (by omega) (by omega) _ (by (rw [fa_cnt_yes (by simp [onT, c_2, n_c_2, c_3, hks_4, hkp_5, c_6, hq_c_6, c_7, n_c_7, c_8])]) <;> rfl) _ rfl ls (lv_sub hl [2, 3, 4, 1, 0] rfl)
  exact loop_1 _ 0 (by decide) (Nat.lt_succ_self _) _ rfl _ rfl ls (lv_sub hl [2, 3, 4, 1, 0] rfl)
set_option maxHeartbeats 4000000 in
set_option maxRecDepth 100000 in
theorem c_X4_isJoined (l : Launch) (D : va_G) (K : Nat → ClassId) (r : Nat → Nat) (th sm ty pm pn sta ms : Int32) (hs : Int64) (T : TW) (Y : va_W) (p : Nat) (hI : Inv T) (hp : p < 4) : Rd l yX4_isJoined wsX4_isJoined ({ frames := 4, cells := 0, slots := 0, locals := 79 } : Room) D K (refO r th sm ty pm pn sta ms hs :: zC K r T :: Y) [.ref (r 0), .int (nI p)] (.int (bI (joinT T p))) := by
  refine rd_intro (cc := cX4_isJoined) (maxL := 2) (ret := (some .boolean)) (by decide) rfl (Nat.le_of_ble_eq_true rfl) ?_
  intro pr en st md ar bl mt co hx hb hml hr hts hown hk hP hE ls hl
  have hown : st.vm.findClass RX4 = some md.cls := hown
  have hl : lv_has ls 2 [(0, .ref (r 0)), (1, .int (nI p))] := hl
  refine lv_aload_n hx hb dX4_isJoined_0 rfl (lv_at hl 0 rfl) ?_
  refine lv_iload_n hx hb dX4_isJoined_1 rfl (lv_at hl 1 rfl) ?_
  refine lv_iconst (v := nI 0) hx hb dX4_isJoined_2 (by decide) ?_
  refine rd_V (rest := []) (ci := 4) (q0 := 0) ⟨hx, hb, hml, hown, hts⟩ hP hE (c_X4_stopsOf_0 l D K _ _ _ _ _ _ _ _ _ _ _ p hI (by omega)) (cwV 2 hts gX4_isJoined_X4_stopsOf rfl rfl rfl hd_X4_stopsOf ⟨Nat.le_of_ble_eq_true rfl, Nat.le_of_ble_eq_true rfl⟩) rfl rfl rfl rfl hl.1 rfl (Nat.le_of_ble_eq_true rfl) dX4_isJoined_3 ⟨Nat.zero_le _, Nat.zero_le _⟩ ?_
  have hb_1 := sl_le T p
  refine lv_aload_n hx hb dX4_isJoined_6 rfl (lv_at hl 0 rfl) ?_
  refine lv_iload_n hx hb dX4_isJoined_7 rfl (lv_at hl 1 rfl) ?_
  refine lv_iconst (v := nI 1) hx hb dX4_isJoined_8 (by decide) ?_
  refine rd_V (rest := [.int (nI (slT T p))]) (ci := 4) (q0 := 0) ⟨hx, hb, hml, hown, hts⟩ hP hE (c_X4_stopsOf_1 l D K _ _ _ _ _ _ _ _ _ _ _ p hI (by omega)) (cwV 2 hts gX4_isJoined_X4_stopsOf rfl rfl rfl hd_X4_stopsOf ⟨Nat.le_of_ble_eq_true rfl, Nat.le_of_ble_eq_true rfl⟩) rfl rfl rfl rfl hl.1 rfl (Nat.le_of_ble_eq_true rfl) dX4_isJoined_9 ⟨Nat.zero_le _, Nat.zero_le _⟩ ?_
  have hb_2 := sr_le T p
  refine nv_icmp_ne (x := slT T p) (y := srT T p) (tgt := 19) hx hb dX4_isJoined_12 (by decide) (by omega) (by omega) (fun c_3 => ?_) (fun c_3 => ?_)
  · refine lv_iconst (v := nI 0) hx hb dX4_isJoined_19 (by decide) ?_
    exact rd_zret hx hb hr hk dX4_isJoined_20 (by first | (simp [joinT, bI, nI_0, nI_one, c_3]; done) | (simp [joinT, bI, nI_0, nI_one]; omega))
  · refine lv_iconst (v := nI 1) hx hb dX4_isJoined_15 (by decide) ?_
    refine lv_goto (tgt := 20) hx hb dX4_isJoined_16 (by decide) ?_
    exact rd_zret hx hb hr hk dX4_isJoined_20 (by first | (simp [joinT, bI, nI_0, nI_one, c_3]; done) | (simp [joinT, bI, nI_0, nI_one]; omega))
set_option maxHeartbeats 4000000 in
set_option maxRecDepth 100000 in
theorem c_X4_toldPlayer (l : Launch) (D : va_G) (K : Nat → ClassId) (r : Nat → Nat) (th sm ty pm pn sta ms : Int32) (hs : Int64) (T : TW) (Y : va_W) (p w : Nat) (hI : Inv T) (hp : p < 4) (hw : w < 10) : Rd l yX4_toldPlayer wsX4_toldPlayer ({ frames := 5, cells := 0, slots := 0, locals := 100 } : Room) D K (refO r th sm ty pm pn sta ms hs :: zC K r T :: Y) [.ref (r 0), .int (nI p), .int (nI w)] (.int (ppT T p w)) := by
  refine rd_intro (cc := cX4_toldPlayer) (maxL := 3) (ret := (some .int)) (by decide) rfl (Nat.le_of_ble_eq_true rfl) ?_
  intro pr en st md ar bl mt co hx hb hml hr hts hown hk hP hE ls hl
  have hown : st.vm.findClass RX4 = some md.cls := hown
  have hl : lv_has ls 3 [(0, .ref (r 0)), (1, .int (nI p)), (2, .int (nI w))] := hl
  refine lv_iload_n hx hb dX4_toldPlayer_0 rfl (lv_at hl 2 rfl) ?_
  rcases (show w = 0 ∨ w = 1 ∨ w = 2 ∨ w = 3 ∨ w = 4 ∨ w = 5 ∨ w = 6 ∨ w = 7 ∨ w = 8 ∨ w = 9 by omega) with rfl | rfl | rfl | rfl | rfl | rfl | rfl | rfl | rfl | rfl
  · refine lv_tableIn (off := 51) (tgt := 52) hx hb dX4_toldPlayer_1 (by decide) (by decide) (by decide) (by decide) ?_
    refine lv_aload_n hx hb dX4_toldPlayer_52 rfl (lv_at hl 0 rfl) ?_
    refine lv_iload_n hx hb dX4_toldPlayer_53 rfl (lv_at hl 1 rfl) ?_
    refine lv_iconst (v := nI 0) hx hb dX4_toldPlayer_54 (by decide) ?_
    refine rd_V (rest := []) (ci := 4) (q0 := 0) ⟨hx, hb, hml, hown, hts⟩ hP hE (c_X4_of l D K _ _ _ _ _ _ _ _ _ _ _ p 0 (by omega) (by omega)) (cwV 2 hts gX4_toldPlayer_X4_of rfl rfl rfl hd_X4_of ⟨Nat.le_of_ble_eq_true rfl, Nat.le_of_ble_eq_true rfl⟩) rfl rfl rfl rfl hl.1 rfl (Nat.le_of_ble_eq_true rfl) dX4_toldPlayer_55 ⟨Nat.zero_le _, Nat.zero_le _⟩ ?_
    refine top_i (y := coT T p) ((congrArg (zT T) (show 268 + 5 * p + 0 = 268 + 5 * p + 0 from by omega)).trans (zT_pp (w := 0) (by omega) (by decide))) ?_
    exact rd_iret hx hb hr hk dX4_toldPlayer_58 (by first | rfl | (simp [ppT, bI, nI_0, nI_one]))
  · refine lv_tableIn (off := 58) (tgt := 59) hx hb dX4_toldPlayer_1 (by decide) (by decide) (by decide) (by decide) ?_
    refine lv_aload_n hx hb dX4_toldPlayer_59 rfl (lv_at hl 0 rfl) ?_
    refine lv_iload_n hx hb dX4_toldPlayer_60 rfl (lv_at hl 1 rfl) ?_
    refine lv_iconst (v := nI 0) hx hb dX4_toldPlayer_61 (by decide) ?_
    refine rd_V (rest := []) (ci := 4) (q0 := 0) ⟨hx, hb, hml, hown, hts⟩ hP hE (c_X4_squaresOf_0 l D K _ _ _ _ _ _ _ _ _ _ _ p hI (by omega)) (cwV 2 hts gX4_toldPlayer_X4_squaresOf rfl rfl rfl hd_X4_squaresOf ⟨Nat.le_of_ble_eq_true rfl, Nat.le_of_ble_eq_true rfl⟩) rfl rfl rfl rfl hl.1 rfl (Nat.le_of_ble_eq_true rfl) dX4_toldPlayer_62 ⟨Nat.zero_le _, Nat.zero_le _⟩ ?_
    exact rd_iret hx hb hr hk dX4_toldPlayer_65 (by first | rfl | (simp [ppT, bI, nI_0, nI_one]))
  · refine lv_tableIn (off := 65) (tgt := 66) hx hb dX4_toldPlayer_1 (by decide) (by decide) (by decide) (by decide) ?_
    refine lv_aload_n hx hb dX4_toldPlayer_66 rfl (lv_at hl 0 rfl) ?_
    refine lv_iload_n hx hb dX4_toldPlayer_67 rfl (lv_at hl 1 rfl) ?_
    refine lv_iconst (v := nI 1) hx hb dX4_toldPlayer_68 (by decide) ?_
    refine rd_V (rest := []) (ci := 4) (q0 := 0) ⟨hx, hb, hml, hown, hts⟩ hP hE (c_X4_of l D K _ _ _ _ _ _ _ _ _ _ _ p 1 (by omega) (by omega)) (cwV 2 hts gX4_toldPlayer_X4_of rfl rfl rfl hd_X4_of ⟨Nat.le_of_ble_eq_true rfl, Nat.le_of_ble_eq_true rfl⟩) rfl rfl rfl rfl hl.1 rfl (Nat.le_of_ble_eq_true rfl) dX4_toldPlayer_69 ⟨Nat.zero_le _, Nat.zero_le _⟩ ?_
    refine top_i (y := nI (hdT T p)) (((congrArg (zT T) (show 268 + 5 * p + 1 = 268 + 5 * p + 1 from by omega)).trans (zT_pp (w := 1) (by omega) (by decide))).trans (show T 6 p = nI (hdT T p) from eq_hd hI (by omega))) ?_
    have hb_1 := hd_lt hI (show p < 4 by omega)
    exact rd_iret hx hb hr hk dX4_toldPlayer_72 (by first | rfl | (simp [ppT, bI, nI_0, nI_one]))
  · refine lv_tableIn (off := 72) (tgt := 73) hx hb dX4_toldPlayer_1 (by decide) (by decide) (by decide) (by decide) ?_
    refine lv_aload_n hx hb dX4_toldPlayer_73 rfl (lv_at hl 0 rfl) ?_
    refine lv_iload_n hx hb dX4_toldPlayer_74 rfl (lv_at hl 1 rfl) ?_
    refine lv_iconst (v := nI 2) hx hb dX4_toldPlayer_75 (by decide) ?_
    refine rd_V (rest := []) (ci := 4) (q0 := 0) ⟨hx, hb, hml, hown, hts⟩ hP hE (c_X4_of l D K _ _ _ _ _ _ _ _ _ _ _ p 2 (by omega) (by omega)) (cwV 2 hts gX4_toldPlayer_X4_of rfl rfl rfl hd_X4_of ⟨Nat.le_of_ble_eq_true rfl, Nat.le_of_ble_eq_true rfl⟩) rfl rfl rfl rfl hl.1 rfl (Nat.le_of_ble_eq_true rfl) dX4_toldPlayer_76 ⟨Nat.zero_le _, Nat.zero_le _⟩ ?_
    refine top_i (y := oI (laT T p)) (((congrArg (zT T) (show 268 + 5 * p + 2 = 268 + 5 * p + 2 from by omega)).trans (zT_pp (w := 2) (by omega) (by decide))).trans (show T 7 p = oI (laT T p) from eq_la hI (by omega))) ?_
    exact rd_iret hx hb hr hk dX4_toldPlayer_79 (by first | rfl | (simp [ppT, bI, nI_0, nI_one]))
  · refine lv_tableIn (off := 79) (tgt := 80) hx hb dX4_toldPlayer_1 (by decide) (by decide) (by decide) (by decide) ?_
    refine lv_aload_n hx hb dX4_toldPlayer_80 rfl (lv_at hl 0 rfl) ?_
    refine lv_iload_n hx hb dX4_toldPlayer_81 rfl (lv_at hl 1 rfl) ?_
    refine lv_iconst (v := nI 1) hx hb dX4_toldPlayer_82 (by decide) ?_
    refine rd_V (rest := []) (ci := 4) (q0 := 0) ⟨hx, hb, hml, hown, hts⟩ hP hE (c_X4_squaresOf_1 l D K _ _ _ _ _ _ _ _ _ _ _ p hI (by omega)) (cwV 2 hts gX4_toldPlayer_X4_squaresOf rfl rfl rfl hd_X4_squaresOf ⟨Nat.le_of_ble_eq_true rfl, Nat.le_of_ble_eq_true rfl⟩) rfl rfl rfl rfl hl.1 rfl (Nat.le_of_ble_eq_true rfl) dX4_toldPlayer_83 ⟨Nat.zero_le _, Nat.zero_le _⟩ ?_
    exact rd_iret hx hb hr hk dX4_toldPlayer_86 (by first | rfl | (simp [ppT, bI, nI_0, nI_one]))
  · refine lv_tableIn (off := 86) (tgt := 87) hx hb dX4_toldPlayer_1 (by decide) (by decide) (by decide) (by decide) ?_
    refine lv_aload_n hx hb dX4_toldPlayer_87 rfl (lv_at hl 0 rfl) ?_
    refine lv_iload_n hx hb dX4_toldPlayer_88 rfl (lv_at hl 1 rfl) ?_
    refine lv_iconst (v := nI 0) hx hb dX4_toldPlayer_89 (by decide) ?_
    refine rd_V (rest := []) (ci := 4) (q0 := 0) ⟨hx, hb, hml, hown, hts⟩ hP hE (c_X4_stopsOf_0 l D K _ _ _ _ _ _ _ _ _ _ _ p hI (by omega)) (cwV 2 hts gX4_toldPlayer_X4_stopsOf rfl rfl rfl hd_X4_stopsOf ⟨Nat.le_of_ble_eq_true rfl, Nat.le_of_ble_eq_true rfl⟩) rfl rfl rfl rfl hl.1 rfl (Nat.le_of_ble_eq_true rfl) dX4_toldPlayer_90 ⟨Nat.zero_le _, Nat.zero_le _⟩ ?_
    have hb_2 := sl_le T p
    exact rd_iret hx hb hr hk dX4_toldPlayer_93 (by first | rfl | (simp [ppT, bI, nI_0, nI_one]))
  · refine lv_tableIn (off := 93) (tgt := 94) hx hb dX4_toldPlayer_1 (by decide) (by decide) (by decide) (by decide) ?_
    refine lv_aload_n hx hb dX4_toldPlayer_94 rfl (lv_at hl 0 rfl) ?_
    refine lv_iload_n hx hb dX4_toldPlayer_95 rfl (lv_at hl 1 rfl) ?_
    refine lv_iconst (v := nI 1) hx hb dX4_toldPlayer_96 (by decide) ?_
    refine rd_V (rest := []) (ci := 4) (q0 := 0) ⟨hx, hb, hml, hown, hts⟩ hP hE (c_X4_stopsOf_1 l D K _ _ _ _ _ _ _ _ _ _ _ p hI (by omega)) (cwV 2 hts gX4_toldPlayer_X4_stopsOf rfl rfl rfl hd_X4_stopsOf ⟨Nat.le_of_ble_eq_true rfl, Nat.le_of_ble_eq_true rfl⟩) rfl rfl rfl rfl hl.1 rfl (Nat.le_of_ble_eq_true rfl) dX4_toldPlayer_97 ⟨Nat.zero_le _, Nat.zero_le _⟩ ?_
    have hb_3 := sr_le T p
    exact rd_iret hx hb hr hk dX4_toldPlayer_100 (by first | rfl | (simp [ppT, bI, nI_0, nI_one]))
  · refine lv_tableIn (off := 100) (tgt := 101) hx hb dX4_toldPlayer_1 (by decide) (by decide) (by decide) (by decide) ?_
    refine lv_aload_n hx hb dX4_toldPlayer_101 rfl (lv_at hl 0 rfl) ?_
    refine lv_iload_n hx hb dX4_toldPlayer_102 rfl (lv_at hl 1 rfl) ?_
    refine rd_V (rest := []) (ci := 4) (q0 := 0) ⟨hx, hb, hml, hown, hts⟩ hP hE (c_X4_isJoined l D K _ _ _ _ _ _ _ _ _ _ _ p hI (by omega)) (cwV 1 hts gX4_toldPlayer_X4_isJoined rfl rfl rfl hd_X4_isJoined ⟨Nat.le_of_ble_eq_true rfl, Nat.le_of_ble_eq_true rfl⟩) rfl rfl rfl rfl hl.1 rfl (Nat.le_of_ble_eq_true rfl) dX4_toldPlayer_103 ⟨Nat.zero_le _, Nat.zero_le _⟩ ?_
    refine bv_if_eq (x := joinT T p) (tgt := 113) hx hb dX4_toldPlayer_106 (by decide) (fun c_4 => ?_) (fun c_4 => ?_)
    · refine lv_iconst (v := nI 0) hx hb dX4_toldPlayer_113 (by decide) ?_
      exact rd_iret hx hb hr hk dX4_toldPlayer_114 (by first | rfl | (simp [ppT, bI, nI_0, nI_one, c_4]))
    · refine lv_iconst (v := nI 1) hx hb dX4_toldPlayer_109 (by decide) ?_
      refine lv_goto (tgt := 114) hx hb dX4_toldPlayer_110 (by decide) ?_
      exact rd_iret hx hb hr hk dX4_toldPlayer_114 (by first | rfl | (simp [ppT, bI, nI_0, nI_one, c_4]))
  · refine lv_tableIn (off := 114) (tgt := 115) hx hb dX4_toldPlayer_1 (by decide) (by decide) (by decide) (by decide) ?_
    refine lv_aload_n hx hb dX4_toldPlayer_115 rfl (lv_at hl 0 rfl) ?_
    refine lv_iload_n hx hb dX4_toldPlayer_116 rfl (lv_at hl 1 rfl) ?_
    refine lv_iconst (v := nI 3) hx hb dX4_toldPlayer_117 (by decide) ?_
    refine rd_V (rest := []) (ci := 4) (q0 := 0) ⟨hx, hb, hml, hown, hts⟩ hP hE (c_X4_of l D K _ _ _ _ _ _ _ _ _ _ _ p 3 (by omega) (by omega)) (cwV 2 hts gX4_toldPlayer_X4_of rfl rfl rfl hd_X4_of ⟨Nat.le_of_ble_eq_true rfl, Nat.le_of_ble_eq_true rfl⟩) rfl rfl rfl rfl hl.1 rfl (Nat.le_of_ble_eq_true rfl) dX4_toldPlayer_118 ⟨Nat.zero_le _, Nat.zero_le _⟩ ?_
    refine top_i (y := T 8 p) ((congrArg (zT T) (show 268 + 5 * p + 3 = 268 + 5 * p + 3 from by omega)).trans (zT_pp (w := 3) (by omega) (by decide))) ?_
    exact rd_iret hx hb hr hk dX4_toldPlayer_121 (by first | rfl | (simp [ppT, bI, nI_0, nI_one]))
  · refine lv_tableOut (tgt := 122) hx hb dX4_toldPlayer_1 (by decide) (by decide) ?_
    refine lv_aload_n hx hb dX4_toldPlayer_122 rfl (lv_at hl 0 rfl) ?_
    refine lv_iload_n hx hb dX4_toldPlayer_123 rfl (lv_at hl 1 rfl) ?_
    refine lv_iconst (v := nI 4) hx hb dX4_toldPlayer_124 (by decide) ?_
    refine rd_V (rest := []) (ci := 4) (q0 := 0) ⟨hx, hb, hml, hown, hts⟩ hP hE (c_X4_of l D K _ _ _ _ _ _ _ _ _ _ _ p 4 (by omega) (by omega)) (cwV 2 hts gX4_toldPlayer_X4_of rfl rfl rfl hd_X4_of ⟨Nat.le_of_ble_eq_true rfl, Nat.le_of_ble_eq_true rfl⟩) rfl rfl rfl rfl hl.1 rfl (Nat.le_of_ble_eq_true rfl) dX4_toldPlayer_125 ⟨Nat.zero_le _, Nat.zero_le _⟩ ?_
    refine top_i (y := T 9 p) ((congrArg (zT T) (show 268 + 5 * p + 4 = 268 + 5 * p + 4 from by omega)).trans (zT_pp (w := 4) (by omega) (by decide))) ?_
    exact rd_iret hx hb hr hk dX4_toldPlayer_128 (by first | rfl | (simp [ppT, bI, nI_0, nI_one]))
set_option maxHeartbeats 4000000 in
set_option maxRecDepth 100000 in
theorem c_X4_squaresWith (l : Launch) (D : va_G) (K : Nat → ClassId) (r : Nat → Nat) (th sm ty pm pn sta ms : Int32) (hs : Int64) (T : TW) (Y : va_W) (m : Nat) (hI : Inv T) (hm : m < 3) : Rd l yX4_squaresWith wsX4_squaresWith ({ frames := 2, cells := 0, slots := 0, locals := 35 } : Room) D K (refO r th sm ty pm pn sta ms hs :: zC K r T :: Y) [.ref (r 0), .int (nI m)] (.int (nI (swT T m))) := by
  refine rd_intro (cc := cX4_squaresWith) (maxL := 4) (ret := (some .int)) (by decide) rfl (Nat.le_of_ble_eq_true rfl) ?_
  intro pr en st md ar bl mt co hx hb hml hr hts hown hk hP hE ls hl
  have hown : st.vm.findClass RX4 = some md.cls := hown
  have hl : lv_has ls 4 [(0, .ref (r 0)), (1, .int (nI m))] := hl
  refine lv_iconst (v := nI 0) hx hb dX4_squaresWith_0 (by decide) ?_
  refine lv_istore_n (lv' := [(2, .int (nI 0)), (0, .ref (r 0)), (1, .int (nI m))]) hx hb dX4_squaresWith_1 rfl hl (by decide) rfl (fun ls hl => ?_)
  refine lv_iconst (v := nI 0) hx hb dX4_squaresWith_2 (by decide) ?_
  refine lv_istore_n (lv' := [(3, .int (nI 0)), (2, .int (nI 0)), (0, .ref (r 0)), (1, .int (nI m))]) hx hb dX4_squaresWith_3 rfl hl (by decide) rfl (fun ls hl => ?_)
  have loop_1 : ∀ (n_4 : Nat) (i : Nat), (i ≤ 80) → (80 - i) < n_4 →  ∀ x_2 : Int32, x_2 = nI (fa_cnt (fun t_ => decide (m ≤ trkT T t_)) i) → ∀ x_3 : Int32, x_3 = nI i → ∀ ls : Array Slot, lv_has ls 4 [(0, .ref (r 0)), (1, .int (nI m)), (2, .int x_2), (3, .int x_3)] → W pr l en (headSpec wsX4_squaresWith ({ frames := 2, cells := 0, slots := 0, locals := 35 } : Room)).room st md ar bl mt co st.heap [] 0 0 (MQ bl (rdQ (.int (nI (swT T m)))) ar st 0 0 (fun _ => False)) (F0 md 4 ls []) := by
    intro n_4
    induction n_4 with
    | zero => intro i _ hn_4; exact absurd hn_4 (Nat.not_lt_zero _)
    | succ n_4 ih_4 =>
      intro i hi hn_4 x_2 ex_2 x_3 ex_3 ls hl
      subst ex_2
      subst ex_3
      have hl : lv_has ls 4 [(0, .ref (r 0)), (1, .int (nI m)), (2, .int (nI (fa_cnt (fun t_ => decide (m ≤ trkT T t_)) i))), (3, .int (nI i))] := hl
      have hcl := fa_cnt_le (fun t_ => decide (m ≤ trkT T t_)) i
      refine lv_iload_n hx hb dX4_squaresWith_4 rfl (lv_at hl 3 rfl) ?_
      refine lv_bipush (v := nI 80) hx hb dX4_squaresWith_5 (by decide) ?_
      refine nv_icmp_ge (x := i) (y := 80) (tgt := 33) hx hb dX4_squaresWith_7 (by decide) (by omega) (by decide) (fun c_2 => ?_) (fun c_2 => ?_)
      · have n_c_2 := Nat.not_lt.mpr c_2
        refine lv_iload_n hx hb dX4_squaresWith_33 rfl (lv_at hl 2 rfl) ?_
        exact rd_iret hx hb hr hk dX4_squaresWith_34 (by rw [show i = 80 from by omega]; rfl)
      · have n_c_2 := Nat.not_le.mpr c_2
        refine lv_iload_n hx hb dX4_squaresWith_10 rfl (lv_at hl 2 rfl) ?_
        refine lv_aload_n hx hb dX4_squaresWith_11 rfl (lv_at hl 0 rfl) ?_
        refine lv_iload_n hx hb dX4_squaresWith_12 rfl (lv_at hl 3 rfl) ?_
        refine rd_V (rest := [.int (nI (fa_cnt (fun t_ => decide (m ≤ trkT T t_)) i))]) (ci := 4) (q0 := 0) ⟨hx, hb, hml, hown, hts⟩ hP hE (c_X4_tracks l D K _ _ _ _ _ _ _ _ _ _ _ i hI (by omega)) (cwV 1 hts gX4_squaresWith_X4_tracks rfl rfl rfl hd_X4_tracks ⟨Nat.le_of_ble_eq_true rfl, Nat.le_of_ble_eq_true rfl⟩) rfl rfl rfl rfl hl.1 rfl (Nat.le_of_ble_eq_true rfl) dX4_squaresWith_13 ⟨Nat.zero_le _, Nat.zero_le _⟩ ?_
        have hb_3 := trk_lt T i
        refine lv_iload_n hx hb dX4_squaresWith_16 rfl (lv_at hl 1 rfl) ?_
        refine nv_icmp_lt (x := trkT T i) (y := m) (tgt := 24) hx hb dX4_squaresWith_17 (by decide) (by omega) (by omega) (fun c_4 => ?_) (fun c_4 => ?_)
        · have n_c_4 := Nat.not_le.mpr c_4
          refine lv_iconst (v := nI 0) hx hb dX4_squaresWith_24 (by decide) ?_
          refine nv_iadd (x := fa_cnt (fun t_ => decide (m ≤ trkT T t_)) i) (y := 0) hx hb dX4_squaresWith_25 ?_
          refine lv_istore_n (lv' := [(2, .int (nI ((fa_cnt (fun t_ => decide (m ≤ trkT T t_)) i) + 0))), (0, .ref (r 0)), (1, .int (nI m)), (3, .int (nI i))]) hx hb dX4_squaresWith_26 rfl hl (by decide) rfl (fun ls hl => ?_)
          refine lv_iinc (v := nI (i + 1)) (lv' := [(3, .int (nI (i + 1))), (2, .int (nI ((fa_cnt (fun t_ => decide (m ≤ trkT T t_)) i) + 0))), (0, .ref (r 0)), (1, .int (nI m))]) hx hb dX4_squaresWith_27 hl (k := 3) rfl (nI_add _ 1) (by decide) rfl (fun ls hl => ?_)
          refine lv_goto (tgt := 4) hx hb dX4_squaresWith_30 (by decide) ?_
          exact ih_4 (i + 1) (by omega) (by omega) _ (by (rw [fa_cnt_no (by simp [onT, c_2, n_c_2, c_4, n_c_4])]) <;> rfl) _ rfl ls (lv_sub hl [2, 3, 1, 0] rfl)
        · have n_c_4 := Nat.not_lt.mpr c_4
          refine lv_iconst (v := nI 1) hx hb dX4_squaresWith_20 (by decide) ?_
          refine lv_goto (tgt := 25) hx hb dX4_squaresWith_21 (by decide) ?_
          refine nv_iadd (x := fa_cnt (fun t_ => decide (m ≤ trkT T t_)) i) (y := 1) hx hb dX4_squaresWith_25 ?_
          refine lv_istore_n (lv' := [(2, .int (nI ((fa_cnt (fun t_ => decide (m ≤ trkT T t_)) i) + 1))), (0, .ref (r 0)), (1, .int (nI m)), (3, .int (nI i))]) hx hb dX4_squaresWith_26 rfl hl (by decide) rfl (fun ls hl => ?_)
          refine lv_iinc (v := nI (i + 1)) (lv' := [(3, .int (nI (i + 1))), (2, .int (nI ((fa_cnt (fun t_ => decide (m ≤ trkT T t_)) i) + 1))), (0, .ref (r 0)), (1, .int (nI m))]) hx hb dX4_squaresWith_27 hl (k := 3) rfl (nI_add _ 1) (by decide) rfl (fun ls hl => ?_)
          refine lv_goto (tgt := 4) hx hb dX4_squaresWith_30 (by decide) ?_
          exact ih_4 (i + 1) (by omega) (by omega) _ (by (rw [fa_cnt_yes (by simp [onT, c_2, n_c_2, c_4, n_c_4])]) <;> rfl) _ rfl ls (lv_sub hl [2, 3, 1, 0] rfl)
  exact loop_1 _ 0 (by decide) (Nat.lt_succ_self _) _ rfl _ rfl ls (lv_sub hl [2, 3, 1, 0] rfl)
set_option maxHeartbeats 4000000 in
set_option maxRecDepth 100000 in
theorem c_X4_houses (l : Launch) (D : va_G) (K : Nat → ClassId) (r : Nat → Nat) (th sm ty pm pn sta ms : Int32) (hs : Int64) (T : TW) (Y : va_W)  (hI : Inv T)  : Rd l yX4_houses wsX4_houses ({ frames := 1, cells := 0, slots := 0, locals := 12 } : Room) D K (refO r th sm ty pm pn sta ms hs :: zC K r T :: Y) [.ref (r 0)] (.int (sumI (T 0) 80)) := by
  refine rd_intro (cc := cX4_houses) (maxL := 3) (ret := (some .int)) (by decide) rfl (Nat.le_of_ble_eq_true rfl) ?_
  intro pr en st md ar bl mt co hx hb hml hr hts hown hk hP hE ls hl
  have hown : st.vm.findClass RX4 = some md.cls := hown
  have hl : lv_has ls 3 [(0, .ref (r 0))] := hl
  have F7 : (Cond.fieldLink RX4 7 "TramTollsModel" "z" "[I").before ar st = true := hts _ (List.mem_of_getElem? (i := 1) rfl)
  have inX4 : ∀ w ∈ u_ws RX4 TX4 13, w ∈ wsX4_houses := fun w h => List.mem_cons_of_mem _ (List.mem_append_right _ h)
  refine lv_iconst (v := nI 0) hx hb dX4_houses_0 (by decide) ?_
  refine lv_istore_n (lv' := [(1, .int (nI 0)), (0, .ref (r 0))]) hx hb dX4_houses_1 rfl hl (by decide) rfl (fun ls hl => ?_)
  refine lv_iconst (v := nI 0) hx hb dX4_houses_2 (by decide) ?_
  refine lv_istore_n (lv' := [(2, .int (nI 0)), (1, .int (nI 0)), (0, .ref (r 0))]) hx hb dX4_houses_3 rfl hl (by decide) rfl (fun ls hl => ?_)
  have loop_1 : ∀ (n_4 : Nat) (i : Nat), (i ≤ 80) → (80 - i) < n_4 →  ∀ x_1 : Int32, x_1 = sumI (T 0) i → ∀ x_2 : Int32, x_2 = nI i → ∀ ls : Array Slot, lv_has ls 3 [(0, .ref (r 0)), (1, .int x_1), (2, .int x_2)] → W pr l en (headSpec wsX4_houses ({ frames := 1, cells := 0, slots := 0, locals := 12 } : Room)).room st md ar bl mt co st.heap [] 0 0 (MQ bl (rdQ (.int (sumI (T 0) 80))) ar st 0 0 (fun _ => False)) (F0 md 4 ls []) := by
    intro n_4
    induction n_4 with
    | zero => intro i _ hn_4; exact absurd hn_4 (Nat.not_lt_zero _)
    | succ n_4 ih_4 =>
      intro i hi hn_4 x_1 ex_1 x_2 ex_2 ls hl
      subst ex_1
      subst ex_2
      have hl : lv_has ls 3 [(0, .ref (r 0)), (1, .int (sumI (T 0) i)), (2, .int (nI i))] := hl
      refine lv_iload_n hx hb dX4_houses_4 rfl (lv_at hl 2 rfl) ?_
      refine lv_bipush (v := nI 80) hx hb dX4_houses_5 (by decide) ?_
      refine nv_icmp_ge (x := i) (y := 80) (tgt := 27) hx hb dX4_houses_7 (by decide) (by omega) (by decide) (fun c_2 => ?_) (fun c_2 => ?_)
      · have n_c_2 := Nat.not_lt.mpr c_2
        refine lv_iload_n hx hb dX4_houses_27 rfl (lv_at hl 1 rfl) ?_
        exact rd_iret hx hb hr hk dX4_houses_28 (by rw [show i = 80 from by omega])
      · have n_c_2 := Nat.not_le.mpr c_2
        refine lv_iload_n hx hb dX4_houses_10 rfl (lv_at hl 1 rfl) ?_
        refine lv_aload_n hx hb dX4_houses_11 rfl (lv_at hl 0 rfl) ?_
        refine va_get (D := D) (ci := 4) (v := .ref (r 1)) (C := RX4) (T := TX4) (N := 13) hx hb hts inX4 hown hE.1 hP 0 rfl rfl 1 (by decide) F7 (fun _ h9 => h9) rfl dX4_houses_12 ?_
        refine lv_iconst (v := nI 4) hx hb dX4_houses_15 (by decide) ?_
        refine lv_iload_n hx hb dX4_houses_16 rfl (lv_at hl 2 rfl) ?_
        refine nv_iadd (x := 4) (y := i) hx hb dX4_houses_17 ?_
        refine va_iald hx hb hE.1 hP 1 0 rfl rfl (pk_in (4 + i) 288 (by omega)) dX4_houses_18 ?_
        rw [pk_cl (4 + i)]
        refine top_i (y := T 0 i) (zT_hs (by omega)) ?_
        refine lv_iadd (x := sumI (T 0) i) (y := T 0 i) hx hb dX4_houses_19 ?_
        refine lv_istore_n (lv' := [(1, .int ((sumI (T 0) i) + (T 0 i))), (0, .ref (r 0)), (2, .int (nI i))]) hx hb dX4_houses_20 rfl hl (by decide) rfl (fun ls hl => ?_)
        refine lv_iinc (v := nI (i + 1)) (lv' := [(2, .int (nI (i + 1))), (1, .int ((sumI (T 0) i) + (T 0 i))), (0, .ref (r 0))]) hx hb dX4_houses_21 hl (k := 2) rfl (nI_add _ 1) (by decide) rfl (fun ls hl => ?_)
        refine lv_goto (tgt := 4) hx hb dX4_houses_24 (by decide) ?_
        exact ih_4 (i + 1) (by omega) (by omega) _ rfl _ rfl ls (lv_sub hl [2, 1, 0] rfl)
  exact loop_1 _ 0 (by decide) (Nat.lt_succ_self _) _ rfl _ rfl ls (lv_sub hl [2, 1, 0] rfl)
set_option maxHeartbeats 4000000 in
set_option maxRecDepth 100000 in
theorem c_X4_paid (l : Launch) (D : va_G) (K : Nat → ClassId) (r : Nat → Nat) (th sm ty pm pn sta ms : Int32) (hs : Int64) (T : TW) (Y : va_W)  (hI : Inv T)  : Rd l yX4_paid wsX4_paid ({ frames := 2, cells := 0, slots := 0, locals := 34 } : Room) D K (refO r th sm ty pm pn sta ms hs :: zC K r T :: Y) [.ref (r 0)] (.int (sumI (T 8) 4)) := by
  refine rd_intro (cc := cX4_paid) (maxL := 3) (ret := (some .int)) (by decide) rfl (Nat.le_of_ble_eq_true rfl) ?_
  intro pr en st md ar bl mt co hx hb hml hr hts hown hk hP hE ls hl
  have hown : st.vm.findClass RX4 = some md.cls := hown
  have hl : lv_has ls 3 [(0, .ref (r 0))] := hl
  refine lv_iconst (v := nI 0) hx hb dX4_paid_0 (by decide) ?_
  refine lv_istore_n (lv' := [(1, .int (nI 0)), (0, .ref (r 0))]) hx hb dX4_paid_1 rfl hl (by decide) rfl (fun ls hl => ?_)
  refine lv_iconst (v := nI 0) hx hb dX4_paid_2 (by decide) ?_
  refine lv_istore_n (lv' := [(2, .int (nI 0)), (1, .int (nI 0)), (0, .ref (r 0))]) hx hb dX4_paid_3 rfl hl (by decide) rfl (fun ls hl => ?_)
  have loop_1 : ∀ (n_4 : Nat) (i : Nat), (i ≤ 4) → (4 - i) < n_4 →  ∀ x_1 : Int32, x_1 = sumI (T 8) i → ∀ x_2 : Int32, x_2 = nI i → ∀ ls : Array Slot, lv_has ls 3 [(0, .ref (r 0)), (1, .int x_1), (2, .int x_2)] → W pr l en (headSpec wsX4_paid ({ frames := 2, cells := 0, slots := 0, locals := 34 } : Room)).room st md ar bl mt co st.heap [] 0 0 (MQ bl (rdQ (.int (sumI (T 8) 4))) ar st 0 0 (fun _ => False)) (F0 md 4 ls []) := by
    intro n_4
    induction n_4 with
    | zero => intro i _ hn_4; exact absurd hn_4 (Nat.not_lt_zero _)
    | succ n_4 ih_4 =>
      intro i hi hn_4 x_1 ex_1 x_2 ex_2 ls hl
      subst ex_1
      subst ex_2
      have hl : lv_has ls 3 [(0, .ref (r 0)), (1, .int (sumI (T 8) i)), (2, .int (nI i))] := hl
      refine lv_iload_n hx hb dX4_paid_4 rfl (lv_at hl 2 rfl) ?_
      refine lv_iconst (v := nI 4) hx hb dX4_paid_5 (by decide) ?_
      refine nv_icmp_ge (x := i) (y := 4) (tgt := 24) hx hb dX4_paid_6 (by decide) (by omega) (by decide) (fun c_2 => ?_) (fun c_2 => ?_)
      · have n_c_2 := Nat.not_lt.mpr c_2
        refine lv_iload_n hx hb dX4_paid_24 rfl (lv_at hl 1 rfl) ?_
        exact rd_iret hx hb hr hk dX4_paid_25 (by rw [show i = 4 from by omega])
      · have n_c_2 := Nat.not_le.mpr c_2
        refine lv_iload_n hx hb dX4_paid_9 rfl (lv_at hl 1 rfl) ?_
        refine lv_aload_n hx hb dX4_paid_10 rfl (lv_at hl 0 rfl) ?_
        refine lv_iload_n hx hb dX4_paid_11 rfl (lv_at hl 2 rfl) ?_
        refine lv_iconst (v := nI 3) hx hb dX4_paid_12 (by decide) ?_
        refine rd_V (rest := [.int (sumI (T 8) i)]) (ci := 4) (q0 := 0) ⟨hx, hb, hml, hown, hts⟩ hP hE (c_X4_of l D K _ _ _ _ _ _ _ _ _ _ _ i 3 (by omega) (by omega)) (cwV 2 hts gX4_paid_X4_of rfl rfl rfl hd_X4_of ⟨Nat.le_of_ble_eq_true rfl, Nat.le_of_ble_eq_true rfl⟩) rfl rfl rfl rfl hl.1 rfl (Nat.le_of_ble_eq_true rfl) dX4_paid_13 ⟨Nat.zero_le _, Nat.zero_le _⟩ ?_
        refine top_i (y := T 8 i) ((congrArg (zT T) (show 268 + 5 * i + 3 = 268 + 5 * i + 3 from by omega)).trans (zT_pp (w := 3) (by omega) (by decide))) ?_
        refine lv_iadd (x := sumI (T 8) i) (y := T 8 i) hx hb dX4_paid_16 ?_
        refine lv_istore_n (lv' := [(1, .int ((sumI (T 8) i) + (T 8 i))), (0, .ref (r 0)), (2, .int (nI i))]) hx hb dX4_paid_17 rfl hl (by decide) rfl (fun ls hl => ?_)
        refine lv_iinc (v := nI (i + 1)) (lv' := [(2, .int (nI (i + 1))), (1, .int ((sumI (T 8) i) + (T 8 i))), (0, .ref (r 0))]) hx hb dX4_paid_18 hl (k := 2) rfl (nI_add _ 1) (by decide) rfl (fun ls hl => ?_)
        refine lv_goto (tgt := 4) hx hb dX4_paid_21 (by decide) ?_
        exact ih_4 (i + 1) (by omega) (by omega) _ rfl _ rfl ls (lv_sub hl [2, 1, 0] rfl)
  exact loop_1 _ 0 (by decide) (Nat.lt_succ_self _) _ rfl _ rfl ls (lv_sub hl [2, 1, 0] rfl)
set_option maxHeartbeats 4000000 in
set_option maxRecDepth 100000 in
theorem c_X4_stops (l : Launch) (D : va_G) (K : Nat → ClassId) (r : Nat → Nat) (th sm ty pm pn sta ms : Int32) (hs : Int64) (T : TW) (Y : va_W)  (hI : Inv T)  : Rd l yX4_stops wsX4_stops ({ frames := 3, cells := 0, slots := 0, locals := 55 } : Room) D K (refO r th sm ty pm pn sta ms hs :: zC K r T :: Y) [.ref (r 0)] (.int (nI (stopsT T))) := by
  refine rd_intro (cc := cX4_stops) (maxL := 3) (ret := (some .int)) (by decide) rfl (Nat.le_of_ble_eq_true rfl) ?_
  intro pr en st md ar bl mt co hx hb hml hr hts hown hk hP hE ls hl
  have hown : st.vm.findClass RX4 = some md.cls := hown
  have hl : lv_has ls 3 [(0, .ref (r 0))] := hl
  refine lv_iconst (v := nI 0) hx hb dX4_stops_0 (by decide) ?_
  refine lv_istore_n (lv' := [(1, .int (nI 0)), (0, .ref (r 0))]) hx hb dX4_stops_1 rfl hl (by decide) rfl (fun ls hl => ?_)
  refine lv_iconst (v := nI 0) hx hb dX4_stops_2 (by decide) ?_
  refine lv_istore_n (lv' := [(2, .int (nI 0)), (1, .int (nI 0)), (0, .ref (r 0))]) hx hb dX4_stops_3 rfl hl (by decide) rfl (fun ls hl => ?_)
  have loop_1 : ∀ (n_4 : Nat) (i : Nat), (i ≤ 12) → (12 - i) < n_4 →  ∀ x_1 : Int32, x_1 = nI (fa_cnt (fun t_ => (sqT T t_).isSome) i) → ∀ x_2 : Int32, x_2 = nI i → ∀ ls : Array Slot, lv_has ls 3 [(0, .ref (r 0)), (1, .int x_1), (2, .int x_2)] → W pr l en (headSpec wsX4_stops ({ frames := 3, cells := 0, slots := 0, locals := 55 } : Room)).room st md ar bl mt co st.heap [] 0 0 (MQ bl (rdQ (.int (nI (stopsT T)))) ar st 0 0 (fun _ => False)) (F0 md 4 ls []) := by
    intro n_4
    induction n_4 with
    | zero => intro i _ hn_4; exact absurd hn_4 (Nat.not_lt_zero _)
    | succ n_4 ih_4 =>
      intro i hi hn_4 x_1 ex_1 x_2 ex_2 ls hl
      subst ex_1
      subst ex_2
      have hl : lv_has ls 3 [(0, .ref (r 0)), (1, .int (nI (fa_cnt (fun t_ => (sqT T t_).isSome) i))), (2, .int (nI i))] := hl
      have hcl := fa_cnt_le (fun t_ => (sqT T t_).isSome) i
      refine lv_iload_n hx hb dX4_stops_4 rfl (lv_at hl 2 rfl) ?_
      refine lv_bipush (v := nI 12) hx hb dX4_stops_5 (by decide) ?_
      refine nv_icmp_ge (x := i) (y := 12) (tgt := 32) hx hb dX4_stops_7 (by decide) (by omega) (by decide) (fun c_2 => ?_) (fun c_2 => ?_)
      · have n_c_2 := Nat.not_lt.mpr c_2
        refine lv_iload_n hx hb dX4_stops_32 rfl (lv_at hl 1 rfl) ?_
        exact rd_iret hx hb hr hk dX4_stops_33 (by rw [show i = 12 from by omega]; rfl)
      · have n_c_2 := Nat.not_le.mpr c_2
        refine lv_iload_n hx hb dX4_stops_10 rfl (lv_at hl 1 rfl) ?_
        refine lv_aload_n hx hb dX4_stops_11 rfl (lv_at hl 0 rfl) ?_
        refine lv_iload_n hx hb dX4_stops_12 rfl (lv_at hl 2 rfl) ?_
        refine rd_V (rest := [.int (nI (fa_cnt (fun t_ => (sqT T t_).isSome) i))]) (ci := 4) (q0 := 0) ⟨hx, hb, hml, hown, hts⟩ hP hE (c_X4_isStop l D K _ _ _ _ _ _ _ _ _ _ _ i hI (by omega)) (cwV 1 hts gX4_stops_X4_isStop rfl rfl rfl hd_X4_isStop ⟨Nat.le_of_ble_eq_true rfl, Nat.le_of_ble_eq_true rfl⟩) rfl rfl rfl rfl hl.1 rfl (Nat.le_of_ble_eq_true rfl) dX4_stops_13 ⟨Nat.zero_le _, Nat.zero_le _⟩ ?_
        refine bv_if_eq (x := (sqT T i).isSome) (tgt := 23) hx hb dX4_stops_16 (by decide) (fun c_3 => ?_) (fun c_3 => ?_)
        · refine lv_iconst (v := nI 0) hx hb dX4_stops_23 (by decide) ?_
          refine nv_iadd (x := fa_cnt (fun t_ => (sqT T t_).isSome) i) (y := 0) hx hb dX4_stops_24 ?_
          refine lv_istore_n (lv' := [(1, .int (nI ((fa_cnt (fun t_ => (sqT T t_).isSome) i) + 0))), (0, .ref (r 0)), (2, .int (nI i))]) hx hb dX4_stops_25 rfl hl (by decide) rfl (fun ls hl => ?_)
          refine lv_iinc (v := nI (i + 1)) (lv' := [(2, .int (nI (i + 1))), (1, .int (nI ((fa_cnt (fun t_ => (sqT T t_).isSome) i) + 0))), (0, .ref (r 0))]) hx hb dX4_stops_26 hl (k := 2) rfl (nI_add _ 1) (by decide) rfl (fun ls hl => ?_)
          refine lv_goto (tgt := 4) hx hb dX4_stops_29 (by decide) ?_
          exact ih_4 (i + 1) (by omega) (by omega) _ (by (rw [fa_cnt_no (by simp [onT, c_2, n_c_2, c_3])]) <;> rfl) _ rfl ls (lv_sub hl [2, 1, 0] rfl)
        · refine lv_iconst (v := nI 1) hx hb dX4_stops_19 (by decide) ?_
          refine lv_goto (tgt := 24) hx hb dX4_stops_20 (by decide) ?_
          refine nv_iadd (x := fa_cnt (fun t_ => (sqT T t_).isSome) i) (y := 1) hx hb dX4_stops_24 ?_
          refine lv_istore_n (lv' := [(1, .int (nI ((fa_cnt (fun t_ => (sqT T t_).isSome) i) + 1))), (0, .ref (r 0)), (2, .int (nI i))]) hx hb dX4_stops_25 rfl hl (by decide) rfl (fun ls hl => ?_)
          refine lv_iinc (v := nI (i + 1)) (lv' := [(2, .int (nI (i + 1))), (1, .int (nI ((fa_cnt (fun t_ => (sqT T t_).isSome) i) + 1))), (0, .ref (r 0))]) hx hb dX4_stops_26 hl (k := 2) rfl (nI_add _ 1) (by decide) rfl (fun ls hl => ?_)
          refine lv_goto (tgt := 4) hx hb dX4_stops_29 (by decide) ?_
          exact ih_4 (i + 1) (by omega) (by omega) _ (by (rw [fa_cnt_yes (by simp [onT, c_2, n_c_2, c_3])]) <;> rfl) _ rfl ls (lv_sub hl [2, 1, 0] rfl)
  exact loop_1 _ 0 (by decide) (Nat.lt_succ_self _) _ rfl _ rfl ls (lv_sub hl [2, 1, 0] rfl)
set_option maxHeartbeats 4000000 in
set_option maxRecDepth 100000 in
theorem c_X4_joined (l : Launch) (D : va_G) (K : Nat → ClassId) (r : Nat → Nat) (th sm ty pm pn sta ms : Int32) (hs : Int64) (T : TW) (Y : va_W)  (hI : Inv T)  : Rd l yX4_joined wsX4_joined ({ frames := 5, cells := 0, slots := 0, locals := 100 } : Room) D K (refO r th sm ty pm pn sta ms hs :: zC K r T :: Y) [.ref (r 0)] (.int (nI (ljT T))) := by
  refine rd_intro (cc := cX4_joined) (maxL := 3) (ret := (some .int)) (by decide) rfl (Nat.le_of_ble_eq_true rfl) ?_
  intro pr en st md ar bl mt co hx hb hml hr hts hown hk hP hE ls hl
  have hown : st.vm.findClass RX4 = some md.cls := hown
  have hl : lv_has ls 3 [(0, .ref (r 0))] := hl
  refine lv_iconst (v := nI 0) hx hb dX4_joined_0 (by decide) ?_
  refine lv_istore_n (lv' := [(1, .int (nI 0)), (0, .ref (r 0))]) hx hb dX4_joined_1 rfl hl (by decide) rfl (fun ls hl => ?_)
  refine lv_iconst (v := nI 0) hx hb dX4_joined_2 (by decide) ?_
  refine lv_istore_n (lv' := [(2, .int (nI 0)), (1, .int (nI 0)), (0, .ref (r 0))]) hx hb dX4_joined_3 rfl hl (by decide) rfl (fun ls hl => ?_)
  have loop_1 : ∀ (n_4 : Nat) (i : Nat), (i ≤ 4) → (4 - i) < n_4 →  ∀ x_1 : Int32, x_1 = nI (fa_cnt (fun t_ => joinT T t_) i) → ∀ x_2 : Int32, x_2 = nI i → ∀ ls : Array Slot, lv_has ls 3 [(0, .ref (r 0)), (1, .int x_1), (2, .int x_2)] → W pr l en (headSpec wsX4_joined ({ frames := 5, cells := 0, slots := 0, locals := 100 } : Room)).room st md ar bl mt co st.heap [] 0 0 (MQ bl (rdQ (.int (nI (ljT T)))) ar st 0 0 (fun _ => False)) (F0 md 4 ls []) := by
    intro n_4
    induction n_4 with
    | zero => intro i _ hn_4; exact absurd hn_4 (Nat.not_lt_zero _)
    | succ n_4 ih_4 =>
      intro i hi hn_4 x_1 ex_1 x_2 ex_2 ls hl
      subst ex_1
      subst ex_2
      have hl : lv_has ls 3 [(0, .ref (r 0)), (1, .int (nI (fa_cnt (fun t_ => joinT T t_) i))), (2, .int (nI i))] := hl
      have hcl := fa_cnt_le (fun t_ => joinT T t_) i
      refine lv_iload_n hx hb dX4_joined_4 rfl (lv_at hl 2 rfl) ?_
      refine lv_iconst (v := nI 4) hx hb dX4_joined_5 (by decide) ?_
      refine nv_icmp_ge (x := i) (y := 4) (tgt := 31) hx hb dX4_joined_6 (by decide) (by omega) (by decide) (fun c_2 => ?_) (fun c_2 => ?_)
      · have n_c_2 := Nat.not_lt.mpr c_2
        refine lv_iload_n hx hb dX4_joined_31 rfl (lv_at hl 1 rfl) ?_
        exact rd_iret hx hb hr hk dX4_joined_32 (by rw [show i = 4 from by omega]; rfl)
      · have n_c_2 := Nat.not_le.mpr c_2
        refine lv_iload_n hx hb dX4_joined_9 rfl (lv_at hl 1 rfl) ?_
        refine lv_aload_n hx hb dX4_joined_10 rfl (lv_at hl 0 rfl) ?_
        refine lv_iload_n hx hb dX4_joined_11 rfl (lv_at hl 2 rfl) ?_
        refine rd_V (rest := [.int (nI (fa_cnt (fun t_ => joinT T t_) i))]) (ci := 4) (q0 := 0) ⟨hx, hb, hml, hown, hts⟩ hP hE (c_X4_isJoined l D K _ _ _ _ _ _ _ _ _ _ _ i hI (by omega)) (cwV 1 hts gX4_joined_X4_isJoined rfl rfl rfl hd_X4_isJoined ⟨Nat.le_of_ble_eq_true rfl, Nat.le_of_ble_eq_true rfl⟩) rfl rfl rfl rfl hl.1 rfl (Nat.le_of_ble_eq_true rfl) dX4_joined_12 ⟨Nat.zero_le _, Nat.zero_le _⟩ ?_
        refine bv_if_eq (x := joinT T i) (tgt := 22) hx hb dX4_joined_15 (by decide) (fun c_3 => ?_) (fun c_3 => ?_)
        · refine lv_iconst (v := nI 0) hx hb dX4_joined_22 (by decide) ?_
          refine nv_iadd (x := fa_cnt (fun t_ => joinT T t_) i) (y := 0) hx hb dX4_joined_23 ?_
          refine lv_istore_n (lv' := [(1, .int (nI ((fa_cnt (fun t_ => joinT T t_) i) + 0))), (0, .ref (r 0)), (2, .int (nI i))]) hx hb dX4_joined_24 rfl hl (by decide) rfl (fun ls hl => ?_)
          refine lv_iinc (v := nI (i + 1)) (lv' := [(2, .int (nI (i + 1))), (1, .int (nI ((fa_cnt (fun t_ => joinT T t_) i) + 0))), (0, .ref (r 0))]) hx hb dX4_joined_25 hl (k := 2) rfl (nI_add _ 1) (by decide) rfl (fun ls hl => ?_)
          refine lv_goto (tgt := 4) hx hb dX4_joined_28 (by decide) ?_
          exact ih_4 (i + 1) (by omega) (by omega) _ (by (rw [fa_cnt_no (by simp [onT, c_2, n_c_2, c_3])]) <;> rfl) _ rfl ls (lv_sub hl [2, 1, 0] rfl)
        · refine lv_iconst (v := nI 1) hx hb dX4_joined_18 (by decide) ?_
          refine lv_goto (tgt := 23) hx hb dX4_joined_19 (by decide) ?_
          refine nv_iadd (x := fa_cnt (fun t_ => joinT T t_) i) (y := 1) hx hb dX4_joined_23 ?_
          refine lv_istore_n (lv' := [(1, .int (nI ((fa_cnt (fun t_ => joinT T t_) i) + 1))), (0, .ref (r 0)), (2, .int (nI i))]) hx hb dX4_joined_24 rfl hl (by decide) rfl (fun ls hl => ?_)
          refine lv_iinc (v := nI (i + 1)) (lv' := [(2, .int (nI (i + 1))), (1, .int (nI ((fa_cnt (fun t_ => joinT T t_) i) + 1))), (0, .ref (r 0))]) hx hb dX4_joined_25 hl (k := 2) rfl (nI_add _ 1) (by decide) rfl (fun ls hl => ?_)
          refine lv_goto (tgt := 4) hx hb dX4_joined_28 (by decide) ?_
          exact ih_4 (i + 1) (by omega) (by omega) _ (by (rw [fa_cnt_yes (by simp [onT, c_2, n_c_2, c_3])]) <;> rfl) _ rfl ls (lv_sub hl [2, 1, 0] rfl)
  exact loop_1 _ 0 (by decide) (Nat.lt_succ_self _) _ rfl _ rfl ls (lv_sub hl [2, 1, 0] rfl)
set_option maxHeartbeats 4000000 in
set_option maxRecDepth 100000 in
theorem c_X4_counted (l : Launch) (D : va_G) (K : Nat → ClassId) (r : Nat → Nat) (th sm ty pm pn sta ms : Int32) (hs : Int64) (T : TW) (Y : va_W) (sn w : Nat) (hI : Inv T) (hsm : sm = nI sn) (hw : w < 8) : Rd l yX4_counted wsX4_counted ({ frames := 6, cells := 0, slots := 0, locals := 122 } : Room) D K (refO r th sm ty pm pn sta ms hs :: zC K r T :: Y) [.ref (r 0), .int (nI w)] (.int (nbrT T sn w)) := by
  refine rd_intro (cc := cX4_counted) (maxL := 2) (ret := (some .int)) (by decide) rfl (Nat.le_of_ble_eq_true rfl) ?_
  intro pr en st md ar bl mt co hx hb hml hr hts hown hk hP hE ls hl
  have hown : st.vm.findClass RX4 = some md.cls := hown
  have hl : lv_has ls 2 [(0, .ref (r 0)), (1, .int (nI w))] := hl
  have F7 : (Cond.fieldLink RX4 7 "TramTollsModel" "z" "[I").before ar st = true := hts _ (List.mem_of_getElem? (i := 1) rfl)
  have inX4 : ∀ w ∈ u_ws RX4 TX4 13, w ∈ wsX4_counted := fun w h => List.mem_cons_of_mem _ (List.mem_append_right _ h)
  have F40 : (Cond.fieldLink RX4 40 "TramTollsModel" "savedMany" "I").before ar st = true := hts _ (List.mem_of_getElem? (i := 2) rfl)
  refine lv_iload_n hx hb dX4_counted_0 rfl (lv_at hl 1 rfl) ?_
  rcases (show w = 0 ∨ w = 1 ∨ w = 2 ∨ w = 3 ∨ w = 4 ∨ w = 5 ∨ w = 6 ∨ w = 7 by omega) with rfl | rfl | rfl | rfl | rfl | rfl | rfl | rfl
  · refine lv_tableIn (off := 43) (tgt := 44) hx hb dX4_counted_1 (by decide) (by decide) (by decide) (by decide) ?_
    refine lv_aload_n hx hb dX4_counted_44 rfl (lv_at hl 0 rfl) ?_
    refine rd_V (rest := []) (ci := 4) (q0 := 0) ⟨hx, hb, hml, hown, hts⟩ hP hE (c_X4_houses l D K _ _ _ _ _ _ _ _ _ _ _  hI ) (cwV 0 hts gX4_counted_X4_houses rfl rfl rfl hd_X4_houses ⟨Nat.le_of_ble_eq_true rfl, Nat.le_of_ble_eq_true rfl⟩) rfl rfl rfl rfl hl.1 rfl (Nat.le_of_ble_eq_true rfl) dX4_counted_45 ⟨Nat.zero_le _, Nat.zero_le _⟩ ?_
    exact rd_iret hx hb hr hk dX4_counted_48 (by first | rfl | (rw [hsm]; rfl))
  · refine lv_tableIn (off := 48) (tgt := 49) hx hb dX4_counted_1 (by decide) (by decide) (by decide) (by decide) ?_
    refine lv_aload_n hx hb dX4_counted_49 rfl (lv_at hl 0 rfl) ?_
    refine rd_V (rest := []) (ci := 4) (q0 := 0) ⟨hx, hb, hml, hown, hts⟩ hP hE (c_X4_stops l D K _ _ _ _ _ _ _ _ _ _ _  hI ) (cwV 0 hts gX4_counted_X4_stops rfl rfl rfl hd_X4_stops ⟨Nat.le_of_ble_eq_true rfl, Nat.le_of_ble_eq_true rfl⟩) rfl rfl rfl rfl hl.1 rfl (Nat.le_of_ble_eq_true rfl) dX4_counted_50 ⟨Nat.zero_le _, Nat.zero_le _⟩ ?_
    exact rd_iret hx hb hr hk dX4_counted_53 (by first | rfl | (rw [hsm]; rfl))
  · refine lv_tableIn (off := 53) (tgt := 54) hx hb dX4_counted_1 (by decide) (by decide) (by decide) (by decide) ?_
    refine lv_aload_n hx hb dX4_counted_54 rfl (lv_at hl 0 rfl) ?_
    refine lv_iconst (v := nI 1) hx hb dX4_counted_55 (by decide) ?_
    refine rd_V (rest := []) (ci := 4) (q0 := 0) ⟨hx, hb, hml, hown, hts⟩ hP hE (c_X4_squaresWith l D K _ _ _ _ _ _ _ _ _ _ _ 1 hI (by omega)) (cwV 1 hts gX4_counted_X4_squaresWith rfl rfl rfl hd_X4_squaresWith ⟨Nat.le_of_ble_eq_true rfl, Nat.le_of_ble_eq_true rfl⟩) rfl rfl rfl rfl hl.1 rfl (Nat.le_of_ble_eq_true rfl) dX4_counted_56 ⟨Nat.zero_le _, Nat.zero_le _⟩ ?_
    have hb_1 := sw_le T 1
    exact rd_iret hx hb hr hk dX4_counted_59 (by first | rfl | (rw [hsm]; rfl))
  · refine lv_tableIn (off := 59) (tgt := 60) hx hb dX4_counted_1 (by decide) (by decide) (by decide) (by decide) ?_
    refine lv_aload_n hx hb dX4_counted_60 rfl (lv_at hl 0 rfl) ?_
    refine lv_iconst (v := nI 2) hx hb dX4_counted_61 (by decide) ?_
    refine rd_V (rest := []) (ci := 4) (q0 := 0) ⟨hx, hb, hml, hown, hts⟩ hP hE (c_X4_squaresWith l D K _ _ _ _ _ _ _ _ _ _ _ 2 hI (by omega)) (cwV 1 hts gX4_counted_X4_squaresWith rfl rfl rfl hd_X4_squaresWith ⟨Nat.le_of_ble_eq_true rfl, Nat.le_of_ble_eq_true rfl⟩) rfl rfl rfl rfl hl.1 rfl (Nat.le_of_ble_eq_true rfl) dX4_counted_62 ⟨Nat.zero_le _, Nat.zero_le _⟩ ?_
    have hb_2 := sw_le T 2
    exact rd_iret hx hb hr hk dX4_counted_65 (by first | rfl | (rw [hsm]; rfl))
  · refine lv_tableIn (off := 65) (tgt := 66) hx hb dX4_counted_1 (by decide) (by decide) (by decide) (by decide) ?_
    refine lv_aload_n hx hb dX4_counted_66 rfl (lv_at hl 0 rfl) ?_
    refine va_get (D := D) (ci := 4) (v := .ref (r 1)) (C := RX4) (T := TX4) (N := 13) hx hb hts inX4 hown hE.1 hP 0 rfl rfl 1 (by decide) F7 (fun _ h9 => h9) rfl dX4_counted_67 ?_
    refine lv_iconst (v := nI 3) hx hb dX4_counted_70 (by decide) ?_
    refine va_iald hx hb hE.1 hP 1 0 rfl rfl (pk_in 3 288 (by omega)) dX4_counted_71 ?_
    rw [pk_cl 3]
    refine top_i (y := T 11 0) ((congrArg (zT T) (show 3 = 3 from by omega)).trans (zT_pc)) ?_
    exact rd_iret hx hb hr hk dX4_counted_72 (by first | rfl | (rw [hsm]; rfl))
  · refine lv_tableIn (off := 72) (tgt := 73) hx hb dX4_counted_1 (by decide) (by decide) (by decide) (by decide) ?_
    refine lv_aload_n hx hb dX4_counted_73 rfl (lv_at hl 0 rfl) ?_
    refine rd_V (rest := []) (ci := 4) (q0 := 0) ⟨hx, hb, hml, hown, hts⟩ hP hE (c_X4_paid l D K _ _ _ _ _ _ _ _ _ _ _  hI ) (cwV 0 hts gX4_counted_X4_paid rfl rfl rfl hd_X4_paid ⟨Nat.le_of_ble_eq_true rfl, Nat.le_of_ble_eq_true rfl⟩) rfl rfl rfl rfl hl.1 rfl (Nat.le_of_ble_eq_true rfl) dX4_counted_74 ⟨Nat.zero_le _, Nat.zero_le _⟩ ?_
    exact rd_iret hx hb hr hk dX4_counted_77 (by first | rfl | (rw [hsm]; rfl))
  · refine lv_tableIn (off := 77) (tgt := 78) hx hb dX4_counted_1 (by decide) (by decide) (by decide) (by decide) ?_
    refine lv_aload_n hx hb dX4_counted_78 rfl (lv_at hl 0 rfl) ?_
    refine rd_V (rest := []) (ci := 4) (q0 := 0) ⟨hx, hb, hml, hown, hts⟩ hP hE (c_X4_joined l D K _ _ _ _ _ _ _ _ _ _ _  hI ) (cwV 0 hts gX4_counted_X4_joined rfl rfl rfl hd_X4_joined ⟨Nat.le_of_ble_eq_true rfl, Nat.le_of_ble_eq_true rfl⟩) rfl rfl rfl rfl hl.1 rfl (Nat.le_of_ble_eq_true rfl) dX4_counted_79 ⟨Nat.zero_le _, Nat.zero_le _⟩ ?_
    exact rd_iret hx hb hr hk dX4_counted_82 (by first | rfl | (rw [hsm]; rfl))
  · refine lv_tableOut (tgt := 83) hx hb dX4_counted_1 (by decide) (by decide) ?_
    refine lv_aload_n hx hb dX4_counted_83 rfl (lv_at hl 0 rfl) ?_
    refine va_get (D := D) (ci := 4) (v := .int sm) (C := RX4) (T := TX4) (N := 13) hx hb hts inX4 hown hE.1 hP 0 rfl rfl 3 (by decide) F40 (fun _ h9 => h9) rfl dX4_counted_84 ?_
    exact rd_iret hx hb hr hk dX4_counted_87 (by first | rfl | (rw [hsm]; rfl))
set_option maxHeartbeats 4000000 in
set_option maxRecDepth 100000 in
theorem c_X4_isOpen (l : Launch) (D : va_G) (K : Nat → ClassId) (r : Nat → Nat) (th sm ty pm pn sta ms : Int32) (hs : Int64) (T : TW) (Y : va_W) (p s : Nat) (hI : Inv T) (hp : p < 4) (hs80 : s < 80) : Rd l yX4_isOpen wsX4_isOpen ({ frames := 2, cells := 0, slots := 0, locals := 35 } : Room) D K (refO r th sm ty pm pn sta ms hs :: zC K r T :: Y) [.ref (r 0), .int (nI p), .int (nI s)] (.int (bI (opnT T p s))) := by
  refine rd_intro (cc := cX4_isOpen) (maxL := 3) (ret := (some .boolean)) (by decide) rfl (Nat.le_of_ble_eq_true rfl) ?_
  intro pr en st md ar bl mt co hx hb hml hr hts hown hk hP hE ls hl
  have hown : st.vm.findClass RX4 = some md.cls := hown
  have hl : lv_has ls 3 [(0, .ref (r 0)), (1, .int (nI p)), (2, .int (nI s))] := hl
  have F7 : (Cond.fieldLink RX4 7 "TramTollsModel" "z" "[I").before ar st = true := hts _ (List.mem_of_getElem? (i := 1) rfl)
  have inX4 : ∀ w ∈ u_ws RX4 TX4 13, w ∈ wsX4_isOpen := fun w h => List.mem_cons_of_mem _ (List.mem_append_right _ h)
  refine lv_aload_n hx hb dX4_isOpen_0 rfl (lv_at hl 0 rfl) ?_
  refine lv_iload_n hx hb dX4_isOpen_1 rfl (lv_at hl 2 rfl) ?_
  refine rd_V (rest := []) (ci := 4) (q0 := 0) ⟨hx, hb, hml, hown, hts⟩ hP hE (c_X4_isHouse l D K _ _ _ _ _ _ _ _ _ _ _ s hI (by omega)) (cwV 1 hts gX4_isOpen_X4_isHouse rfl rfl rfl hd_X4_isHouse ⟨Nat.le_of_ble_eq_true rfl, Nat.le_of_ble_eq_true rfl⟩) rfl rfl rfl rfl hl.1 rfl (Nat.le_of_ble_eq_true rfl) dX4_isOpen_2 ⟨Nat.zero_le _, Nat.zero_le _⟩ ?_
  refine bv_if_ne (x := hsT T s) (tgt := 35) hx hb dX4_isOpen_5 (by decide) (fun c_1 => ?_) (fun c_1 => ?_)
  · refine lv_iconst (v := nI 0) hx hb dX4_isOpen_35 (by decide) ?_
    exact rd_zret hx hb hr hk dX4_isOpen_36 (by simp [opnT, obsT, bI, nI_0, nI_one, c_1])
  · refine lv_aload_n hx hb dX4_isOpen_8 rfl (lv_at hl 0 rfl) ?_
    refine lv_iload_n hx hb dX4_isOpen_9 rfl (lv_at hl 1 rfl) ?_
    refine lv_iload_n hx hb dX4_isOpen_10 rfl (lv_at hl 2 rfl) ?_
    refine rd_V (rest := []) (ci := 4) (q0 := 0) ⟨hx, hb, hml, hown, hts⟩ hP hE (c_X4_hasTrack l D K _ _ _ _ _ _ _ _ _ _ _ p s hI (by omega) (by omega)) (cwV 2 hts gX4_isOpen_X4_hasTrack rfl rfl rfl hd_X4_hasTrack ⟨Nat.le_of_ble_eq_true rfl, Nat.le_of_ble_eq_true rfl⟩) rfl rfl rfl rfl hl.1 rfl (Nat.le_of_ble_eq_true rfl) dX4_isOpen_11 ⟨Nat.zero_le _, Nat.zero_le _⟩ ?_
    refine bv_if_ne (x := hasT T p s) (tgt := 35) hx hb dX4_isOpen_14 (by decide) (fun c_2 => ?_) (fun c_2 => ?_)
    · refine lv_iconst (v := nI 0) hx hb dX4_isOpen_35 (by decide) ?_
      exact rd_zret hx hb hr hk dX4_isOpen_36 (by simp [opnT, obsT, bI, nI_0, nI_one, c_1, c_2])
    · refine lv_aload_n hx hb dX4_isOpen_17 rfl (lv_at hl 0 rfl) ?_
      refine lv_iload_n hx hb dX4_isOpen_18 rfl (lv_at hl 2 rfl) ?_
      refine rd_V (rest := []) (ci := 4) (q0 := 0) ⟨hx, hb, hml, hown, hts⟩ hP hE (c_X4_tracks l D K _ _ _ _ _ _ _ _ _ _ _ s hI (by omega)) (cwV 1 hts gX4_isOpen_X4_tracks rfl rfl rfl hd_X4_tracks ⟨Nat.le_of_ble_eq_true rfl, Nat.le_of_ble_eq_true rfl⟩) rfl rfl rfl rfl hl.1 rfl (Nat.le_of_ble_eq_true rfl) dX4_isOpen_19 ⟨Nat.zero_le _, Nat.zero_le _⟩ ?_
      have hb_3 := trk_lt T s
      refine lv_aload_n hx hb dX4_isOpen_22 rfl (lv_at hl 0 rfl) ?_
      refine va_get (D := D) (ci := 4) (v := .ref (r 1)) (C := RX4) (T := TX4) (N := 13) hx hb hts inX4 hown hE.1 hP 0 rfl rfl 1 (by decide) F7 (fun _ h9 => h9) rfl dX4_isOpen_23 ?_
      refine lv_iconst (v := nI 1) hx hb dX4_isOpen_26 (by decide) ?_
      refine va_iald hx hb hE.1 hP 1 0 rfl rfl (pk_in 1 288 (by omega)) dX4_isOpen_27 ?_
      rw [pk_cl 1]
      refine top_i (y := nI (stT T 1)) (((congrArg (zT T) (show 1 = 1 from by omega)).trans (zT_st (by omega))).trans (show T 10 1 = nI (stT T 1) from eq_st hI (by omega))) ?_
      have hb_4 := st_lt hI (show 1 < 3 by omega)
      refine nv_icmp_ge (x := trkT T s) (y := stT T 1) (tgt := 35) hx hb dX4_isOpen_28 (by decide) (by omega) (by omega) (fun c_5 => ?_) (fun c_5 => ?_)
      · have n_c_5 := Nat.not_lt.mpr c_5
        refine lv_iconst (v := nI 0) hx hb dX4_isOpen_35 (by decide) ?_
        exact rd_zret hx hb hr hk dX4_isOpen_36 (by simp [opnT, obsT, bI, nI_0, nI_one, c_1, c_2, c_5, n_c_5])
      · have n_c_5 := Nat.not_le.mpr c_5
        refine lv_iconst (v := nI 1) hx hb dX4_isOpen_31 (by decide) ?_
        refine lv_goto (tgt := 36) hx hb dX4_isOpen_32 (by decide) ?_
        exact rd_zret hx hb hr hk dX4_isOpen_36 (by simp [opnT, obsT, bI, nI_0, nI_one, c_1, c_2, c_5, n_c_5])
set_option maxHeartbeats 4000000 in
set_option maxRecDepth 100000 in
theorem c_X4_first (l : Launch) (D : va_G) (K : Nat → ClassId) (r : Nat → Nat) (th sm ty pm pn sta ms : Int32) (hs : Int64) (T : TW) (Y : va_W)  (hI : Inv T)  : Rd l yX4_first wsX4_first ({ frames := 4, cells := 0, slots := 0, locals := 79 } : Room) D K (refO r th sm ty pm pn sta ms hs :: zC K r T :: Y) [.ref (r 0)] (.int (nI (ldT T 4))) := by
  refine rd_intro (cc := cX4_first) (maxL := 4) (ret := (some .int)) (by decide) rfl (Nat.le_of_ble_eq_true rfl) ?_
  intro pr en st md ar bl mt co hx hb hml hr hts hown hk hP hE ls hl
  have hown : st.vm.findClass RX4 = some md.cls := hown
  have hl : lv_has ls 4 [(0, .ref (r 0))] := hl
  refine lv_iconst (v := nI 0) hx hb dX4_first_0 (by decide) ?_
  refine lv_istore_n (lv' := [(1, .int (nI 0)), (0, .ref (r 0))]) hx hb dX4_first_1 rfl hl (by decide) rfl (fun ls hl => ?_)
  refine lv_iconst (v := nI 1) hx hb dX4_first_2 (by decide) ?_
  refine lv_istore_n (lv' := [(2, .int (nI 1)), (1, .int (nI 0)), (0, .ref (r 0))]) hx hb dX4_first_3 rfl hl (by decide) rfl (fun ls hl => ?_)
  have loop_1 : ∀ (n_4 : Nat) (i : Nat), (1 ≤ i) → (i ≤ 4) → (4 - i) < n_4 →  ∀ x_1 : Int32, x_1 = nI (ldT T i) → ∀ x_2 : Int32, x_2 = nI i → ∀ ls : Array Slot, lv_has ls 4 [(0, .ref (r 0)), (1, .int x_1), (2, .int x_2)] → W pr l en (headSpec wsX4_first ({ frames := 4, cells := 0, slots := 0, locals := 79 } : Room)).room st md ar bl mt co st.heap [] 0 0 (MQ bl (rdQ (.int (nI (ldT T 4)))) ar st 0 0 (fun _ => False)) (F0 md 4 ls []) := by
    intro n_4
    induction n_4 with
    | zero => intro i _ _ hn_4; exact absurd hn_4 (Nat.not_lt_zero _)
    | succ n_4 ih_4 =>
      intro i hi1 hi hn_4 x_1 ex_1 x_2 ex_2 ls hl
      subst ex_1
      subst ex_2
      have hl : lv_has ls 4 [(0, .ref (r 0)), (1, .int (nI (ldT T i))), (2, .int (nI i))] := hl
      have hld := ld_lt T i hi1
      refine lv_iload_n hx hb dX4_first_4 rfl (lv_at hl 2 rfl) ?_
      refine lv_iconst (v := nI 4) hx hb dX4_first_5 (by decide) ?_
      refine nv_icmp_ge (x := i) (y := 4) (tgt := 58) hx hb dX4_first_6 (by decide) (by omega) (by decide) (fun c_2 => ?_) (fun c_2 => ?_)
      · have n_c_2 := Nat.not_lt.mpr c_2
        refine lv_iload_n hx hb dX4_first_58 rfl (lv_at hl 1 rfl) ?_
        exact rd_iret hx hb hr hk dX4_first_59 (by rw [show i = 4 from by omega])
      · have n_c_2 := Nat.not_le.mpr c_2
        refine lv_aload_n hx hb dX4_first_9 rfl (lv_at hl 0 rfl) ?_
        refine lv_iload_n hx hb dX4_first_10 rfl (lv_at hl 2 rfl) ?_
        refine lv_iconst (v := nI 1) hx hb dX4_first_11 (by decide) ?_
        refine rd_V (rest := []) (ci := 4) (q0 := 0) ⟨hx, hb, hml, hown, hts⟩ hP hE (c_X4_stopsOf_1 l D K _ _ _ _ _ _ _ _ _ _ _ i hI (by omega)) (cwV 2 hts gX4_first_X4_stopsOf rfl rfl rfl hd_X4_stopsOf ⟨Nat.le_of_ble_eq_true rfl, Nat.le_of_ble_eq_true rfl⟩) rfl rfl rfl rfl hl.1 rfl (Nat.le_of_ble_eq_true rfl) dX4_first_12 ⟨Nat.zero_le _, Nat.zero_le _⟩ ?_
        have hb_3 := sr_le T i
        refine lv_aload_n hx hb dX4_first_15 rfl (lv_at hl 0 rfl) ?_
        refine lv_iload_n hx hb dX4_first_16 rfl (lv_at hl 1 rfl) ?_
        refine lv_iconst (v := nI 1) hx hb dX4_first_17 (by decide) ?_
        refine rd_V (rest := [.int (nI (srT T i))]) (ci := 4) (q0 := 0) ⟨hx, hb, hml, hown, hts⟩ hP hE (c_X4_stopsOf_1 l D K _ _ _ _ _ _ _ _ _ _ _ (ldT T i) hI (by omega)) (cwV 2 hts gX4_first_X4_stopsOf rfl rfl rfl hd_X4_stopsOf ⟨Nat.le_of_ble_eq_true rfl, Nat.le_of_ble_eq_true rfl⟩) rfl rfl rfl rfl hl.1 rfl (Nat.le_of_ble_eq_true rfl) dX4_first_18 ⟨Nat.zero_le _, Nat.zero_le _⟩ ?_
        have hb_4 := sr_le T (ldT T i)
        refine lv_isub (x := nI (srT T i)) (y := nI (srT T (ldT T i))) hx hb dX4_first_21 ?_
        refine lv_istore_n (lv' := [(3, .int ((nI (srT T i)) - (nI (srT T (ldT T i))))), (0, .ref (r 0)), (1, .int (nI (ldT T i))), (2, .int (nI i))]) hx hb dX4_first_22 rfl hl (by decide) rfl (fun ls hl => ?_)
        refine lv_iload_n hx hb dX4_first_23 rfl (lv_at hl 0 rfl) ?_
        refine lv_if_gt (x := (nI (srT T i)) - (nI (srT T (ldT T i)))) (tgt := 46) hx hb dX4_first_24 (by decide) (fun c_5 => ?_) (fun c_5 => ?_)
        · have d_c_5 := (sub_gt (by omega) (by omega)).mp c_5
          refine lv_iload_n hx hb dX4_first_46 rfl (lv_at hl 3 rfl) ?_
          refine lv_goto (tgt := 51) hx hb dX4_first_47 (by decide) ?_
          refine lv_istore_n (lv' := [(1, .int (nI i)), (3, .int ((nI (srT T i)) - (nI (srT T (ldT T i))))), (0, .ref (r 0)), (2, .int (nI i))]) hx hb dX4_first_51 rfl hl (by decide) rfl (fun ls hl => ?_)
          refine lv_iinc (v := nI (i + 1)) (lv' := [(2, .int (nI (i + 1))), (1, .int (nI i)), (3, .int ((nI (srT T i)) - (nI (srT T (ldT T i))))), (0, .ref (r 0))]) hx hb dX4_first_52 hl (k := 3) rfl (nI_add _ 1) (by decide) rfl (fun ls hl => ?_)
          refine lv_goto (tgt := 4) hx hb dX4_first_55 (by decide) ?_
          exact ih_4 (i + 1) (by omega) (by omega) (by omega) _ (by rw [ldT, if_neg (by omega), if_pos (by simp [btT, c_2, n_c_2, c_5, d_c_5])]) _ rfl ls (lv_sub hl [3, 1, 0] rfl)
        · have d_c_5 : ¬ srT T (ldT T i) < srT T i := fun q => c_5 ((sub_gt (by omega) (by omega)).mpr q)
          have e_c_5 := Nat.not_lt.mp d_c_5
          refine lv_iload_n hx hb dX4_first_27 rfl (lv_at hl 0 rfl) ?_
          refine lv_if_ne (x := (nI (srT T i)) - (nI (srT T (ldT T i)))) (tgt := 50) hx hb dX4_first_28 (by decide) (fun c_6 => ?_) (fun c_6 => ?_)
          · have d_c_6 : ¬ srT T i = srT T (ldT T i) := fun q => c_6 ((sub_eq0 (by omega) (by omega)).mpr q)
            refine lv_iload_n hx hb dX4_first_50 rfl (lv_at hl 2 rfl) ?_
            refine lv_istore_n (lv' := [(1, .int (nI (ldT T i))), (3, .int ((nI (srT T i)) - (nI (srT T (ldT T i))))), (0, .ref (r 0)), (2, .int (nI i))]) hx hb dX4_first_51 rfl hl (by decide) rfl (fun ls hl => ?_)
            refine lv_iinc (v := nI (i + 1)) (lv' := [(2, .int (nI (i + 1))), (1, .int (nI (ldT T i))), (3, .int ((nI (srT T i)) - (nI (srT T (ldT T i))))), (0, .ref (r 0))]) hx hb dX4_first_52 hl (k := 3) rfl (nI_add _ 1) (by decide) rfl (fun ls hl => ?_)
            refine lv_goto (tgt := 4) hx hb dX4_first_55 (by decide) ?_
            exact ih_4 (i + 1) (by omega) (by omega) (by omega) _ (by rw [ldT, if_neg (by omega), if_neg (by simp [btT, c_2, n_c_2, c_5, d_c_5, e_c_5, c_6, d_c_6])]) _ rfl ls (lv_sub hl [3, 1, 0] rfl)
          · have d_c_6 := (sub_eq0 (by omega) (by omega)).mp c_6
            refine lv_aload_n hx hb dX4_first_31 rfl (lv_at hl 1 rfl) ?_
            refine lv_iload_n hx hb dX4_first_32 rfl (lv_at hl 3 rfl) ?_
            refine lv_iconst (v := nI 0) hx hb dX4_first_33 (by decide) ?_
            refine rd_V (rest := []) (ci := 4) (q0 := 0) ⟨hx, hb, hml, hown, hts⟩ hP hE (c_X4_of l D K _ _ _ _ _ _ _ _ _ _ _ i 0 (by omega) (by omega)) (cwV 2 hts gX4_first_X4_of rfl rfl rfl hd_X4_of ⟨Nat.le_of_ble_eq_true rfl, Nat.le_of_ble_eq_true rfl⟩) rfl rfl rfl rfl hl.1 rfl (Nat.le_of_ble_eq_true rfl) dX4_first_34 ⟨Nat.zero_le _, Nat.zero_le _⟩ ?_
            refine top_i (y := coT T i) ((congrArg (zT T) (show 268 + 5 * i + 0 = 268 + 5 * i + 0 from by omega)).trans (zT_pp (w := 0) (by omega) (by decide))) ?_
            refine lv_aload_n hx hb dX4_first_37 rfl (lv_at hl 1 rfl) ?_
            refine lv_iload_n hx hb dX4_first_38 rfl (lv_at hl 2 rfl) ?_
            refine lv_iconst (v := nI 0) hx hb dX4_first_39 (by decide) ?_
            refine rd_V (rest := [.int (coT T i)]) (ci := 4) (q0 := 0) ⟨hx, hb, hml, hown, hts⟩ hP hE (c_X4_of l D K _ _ _ _ _ _ _ _ _ _ _ (ldT T i) 0 (by omega) (by omega)) (cwV 2 hts gX4_first_X4_of rfl rfl rfl hd_X4_of ⟨Nat.le_of_ble_eq_true rfl, Nat.le_of_ble_eq_true rfl⟩) rfl rfl rfl rfl hl.1 rfl (Nat.le_of_ble_eq_true rfl) dX4_first_40 ⟨Nat.zero_le _, Nat.zero_le _⟩ ?_
            refine top_i (y := coT T (ldT T i)) ((congrArg (zT T) (show 268 + 5 * (ldT T i) + 0 = 268 + 5 * (ldT T i) + 0 from by omega)).trans (zT_pp (w := 0) (by omega) (by decide))) ?_
            refine lv_icmp_le (x := coT T i) (y := coT T (ldT T i)) (tgt := 50) hx hb dX4_first_43 (by decide) (fun c_7 => ?_) (fun c_7 => ?_)
            · have n_c_7 := i_le_nlt c_7
              refine lv_iload_n hx hb dX4_first_50 rfl (lv_at hl 2 rfl) ?_
              refine lv_istore_n (lv' := [(1, .int (nI (ldT T i))), (3, .int ((nI (srT T i)) - (nI (srT T (ldT T i))))), (0, .ref (r 0)), (2, .int (nI i))]) hx hb dX4_first_51 rfl hl (by decide) rfl (fun ls hl => ?_)
              refine lv_iinc (v := nI (i + 1)) (lv' := [(2, .int (nI (i + 1))), (1, .int (nI (ldT T i))), (3, .int ((nI (srT T i)) - (nI (srT T (ldT T i))))), (0, .ref (r 0))]) hx hb dX4_first_52 hl (k := 3) rfl (nI_add _ 1) (by decide) rfl (fun ls hl => ?_)
              refine lv_goto (tgt := 4) hx hb dX4_first_55 (by decide) ?_
              exact ih_4 (i + 1) (by omega) (by omega) (by omega) _ (by rw [ldT, if_neg (by omega), if_neg (by simp [btT, c_2, n_c_2, c_5, d_c_5, e_c_5, c_6, d_c_6, c_7, n_c_7])]) _ rfl ls (lv_sub hl [3, 1, 0] rfl)
            · have n_c_7 := i_nle_lt c_7
              refine lv_iload_n hx hb dX4_first_46 rfl (lv_at hl 3 rfl) ?_
              refine lv_goto (tgt := 51) hx hb dX4_first_47 (by decide) ?_
              refine lv_istore_n (lv' := [(1, .int (nI i)), (3, .int ((nI (srT T i)) - (nI (srT T (ldT T i))))), (0, .ref (r 0)), (2, .int (nI i))]) hx hb dX4_first_51 rfl hl (by decide) rfl (fun ls hl => ?_)
              refine lv_iinc (v := nI (i + 1)) (lv' := [(2, .int (nI (i + 1))), (1, .int (nI i)), (3, .int ((nI (srT T i)) - (nI (srT T (ldT T i))))), (0, .ref (r 0))]) hx hb dX4_first_52 hl (k := 3) rfl (nI_add _ 1) (by decide) rfl (fun ls hl => ?_)
              refine lv_goto (tgt := 4) hx hb dX4_first_55 (by decide) ?_
              exact ih_4 (i + 1) (by omega) (by omega) (by omega) _ (by rw [ldT, if_neg (by omega), if_pos (by simp [btT, c_2, n_c_2, c_5, d_c_5, e_c_5, c_6, d_c_6, c_7, n_c_7])]) _ rfl ls (lv_sub hl [3, 1, 0] rfl)
  exact loop_1 _ 1 (by decide) (by decide) (Nat.lt_succ_self _) _ rfl _ rfl ls (lv_sub hl [2, 1, 0] rfl)
set_option maxHeartbeats 4000000 in
set_option maxRecDepth 100000 in
theorem c_X4_missingOf (l : Launch) (D : va_G) (K : Nat → ClassId) (r : Nat → Nat) (th sm ty pm pn sta ms : Int32) (hs : Int64) (T : TW) (Y : va_W) (p : Nat) (hI : Inv T) (hp : p < 4) : Rd l yX4_missingOf wsX4_missingOf ({ frames := 3, cells := 0, slots := 0, locals := 55 } : Room) D K (refO r th sm ty pm pn sta ms hs :: zC K r T :: Y) [.ref (r 0), .int (nI p)] (.int (nI (misM T p 12))) := by
  refine rd_intro (cc := cX4_missingOf) (maxL := 4) (ret := (some .int)) (by decide) rfl (Nat.le_of_ble_eq_true rfl) ?_
  intro pr en st md ar bl mt co hx hb hml hr hts hown hk hP hE ls hl
  have hown : st.vm.findClass RX4 = some md.cls := hown
  have hl : lv_has ls 4 [(0, .ref (r 0)), (1, .int (nI p))] := hl
  refine lv_iconst (v := nI 0) hx hb dX4_missingOf_0 (by decide) ?_
  refine lv_istore_n (lv' := [(2, .int (nI 0)), (0, .ref (r 0)), (1, .int (nI p))]) hx hb dX4_missingOf_1 rfl hl (by decide) rfl (fun ls hl => ?_)
  refine lv_iconst (v := nI 0) hx hb dX4_missingOf_2 (by decide) ?_
  refine lv_istore_n (lv' := [(3, .int (nI 0)), (2, .int (nI 0)), (0, .ref (r 0)), (1, .int (nI p))]) hx hb dX4_missingOf_3 rfl hl (by decide) rfl (fun ls hl => ?_)
  have loop_1 : ∀ (n_4 : Nat) (i : Nat), (i ≤ 12) → (12 - i) < n_4 →  ∀ x_2 : Int32, x_2 = nI (misM T p i) → ∀ x_3 : Int32, x_3 = nI i → ∀ ls : Array Slot, lv_has ls 4 [(0, .ref (r 0)), (1, .int (nI p)), (2, .int x_2), (3, .int x_3)] → W pr l en (headSpec wsX4_missingOf ({ frames := 3, cells := 0, slots := 0, locals := 55 } : Room)).room st md ar bl mt co st.heap [] 0 0 (MQ bl (rdQ (.int (nI (misM T p 12)))) ar st 0 0 (fun _ => False)) (F0 md 4 ls []) := by
    intro n_4
    induction n_4 with
    | zero => intro i _ hn_4; exact absurd hn_4 (Nat.not_lt_zero _)
    | succ n_4 ih_4 =>
      intro i hi hn_4 x_2 ex_2 x_3 ex_3 ls hl
      subst ex_2
      subst ex_3
      have hl : lv_has ls 4 [(0, .ref (r 0)), (1, .int (nI p)), (2, .int (nI (misM T p i))), (3, .int (nI i))] := hl
      refine lv_iload_n hx hb dX4_missingOf_4 rfl (lv_at hl 3 rfl) ?_
      refine lv_bipush (v := nI 12) hx hb dX4_missingOf_5 (by decide) ?_
      refine nv_icmp_ge (x := i) (y := 12) (tgt := 51) hx hb dX4_missingOf_7 (by decide) (by omega) (by decide) (fun c_2 => ?_) (fun c_2 => ?_)
      · have n_c_2 := Nat.not_lt.mpr c_2
        refine lv_iload_n hx hb dX4_missingOf_51 rfl (lv_at hl 2 rfl) ?_
        exact rd_iret hx hb hr hk dX4_missingOf_52 (by rw [show i = 12 from by omega])
      · have n_c_2 := Nat.not_le.mpr c_2
        refine lv_iload_n hx hb dX4_missingOf_10 rfl (lv_at hl 2 rfl) ?_
        refine lv_aload_n hx hb dX4_missingOf_11 rfl (lv_at hl 0 rfl) ?_
        refine lv_iload_n hx hb dX4_missingOf_12 rfl (lv_at hl 3 rfl) ?_
        refine rd_V (rest := [.int (nI (misM T p i))]) (ci := 4) (q0 := 0) ⟨hx, hb, hml, hown, hts⟩ hP hE (c_X4_isStop l D K _ _ _ _ _ _ _ _ _ _ _ i hI (by omega)) (cwV 1 hts gX4_missingOf_X4_isStop rfl rfl rfl hd_X4_isStop ⟨Nat.le_of_ble_eq_true rfl, Nat.le_of_ble_eq_true rfl⟩) rfl rfl rfl rfl hl.1 rfl (Nat.le_of_ble_eq_true rfl) dX4_missingOf_13 ⟨Nat.zero_le _, Nat.zero_le _⟩ ?_
        refine bv_if_eq (x := (sqT T i).isSome) (tgt := 42) hx hb dX4_missingOf_16 (by decide) (fun c_3 => ?_) (fun c_3 => ?_)
        · have hpn_c_3 := isSome_pl hI (t := i) (by omega) c_3
          have hsn_c_3 := isSome_sq c_3
          refine lv_iconst (v := nI 0) hx hb dX4_missingOf_42 (by decide) ?_
          refine nv_ior (x := misM T p i) (y := 0) hx hb dX4_missingOf_43 ?_
          refine lv_istore_n (lv' := [(2, .int (nI ((misM T p i) ||| 0))), (0, .ref (r 0)), (1, .int (nI p)), (3, .int (nI i))]) hx hb dX4_missingOf_44 rfl hl (by decide) rfl (fun ls hl => ?_)
          refine lv_iinc (v := nI (i + 1)) (lv' := [(3, .int (nI (i + 1))), (2, .int (nI ((misM T p i) ||| 0))), (0, .ref (r 0)), (1, .int (nI p))]) hx hb dX4_missingOf_45 hl (k := 3) rfl (nI_add _ 1) (by decide) rfl (fun ls hl => ?_)
          refine lv_goto (tgt := 4) hx hb dX4_missingOf_48 (by decide) ?_
          exact ih_4 (i + 1) (by omega) (by omega) _ (by simp [misM, missT, onT, c_2, n_c_2, c_3, hpn_c_3, hsn_c_3]) _ rfl ls (lv_sub hl [2, 3, 1, 0] rfl)
        · obtain ⟨ks_4, hks_4⟩ := Option.isSome_iff_exists.mp c_3
          obtain ⟨kp_5, hkp_5⟩ := sq_is_pl hI (t := i) (by omega) hks_4
          have hbks_4 := sq_lt hI (t := i) (by omega) ks_4 hks_4
          have hbkp_5 := pl_lt hI (t := i) (by omega) kp_5 hkp_5
          refine lv_aload_n hx hb dX4_missingOf_19 rfl (lv_at hl 0 rfl) ?_
          refine lv_iload_n hx hb dX4_missingOf_20 rfl (lv_at hl 3 rfl) ?_
          refine rd_V (rest := [.int (nI (misM T p i))]) (ci := 4) (q0 := 0) ⟨hx, hb, hml, hown, hts⟩ hP hE (c_X4_stopPlayer l D K _ _ _ _ _ _ _ _ _ _ _ i hI (by omega)) (cwV 1 hts gX4_missingOf_X4_stopPlayer rfl rfl rfl hd_X4_stopPlayer ⟨Nat.le_of_ble_eq_true rfl, Nat.le_of_ble_eq_true rfl⟩) rfl rfl rfl rfl hl.1 rfl (Nat.le_of_ble_eq_true rfl) dX4_missingOf_21 ⟨Nat.zero_le _, Nat.zero_le _⟩ ?_
          refine top_i (y := nI kp_5) (by rw [hkp_5]; rfl) ?_
          refine lv_iload_n hx hb dX4_missingOf_24 rfl (lv_at hl 1 rfl) ?_
          refine nv_icmp_ne (x := kp_5) (y := p) (tgt := 42) hx hb dX4_missingOf_25 (by decide) (by omega) (by omega) (fun c_6 => ?_) (fun c_6 => ?_)
          · refine lv_iconst (v := nI 0) hx hb dX4_missingOf_42 (by decide) ?_
            refine nv_ior (x := misM T p i) (y := 0) hx hb dX4_missingOf_43 ?_
            refine lv_istore_n (lv' := [(2, .int (nI ((misM T p i) ||| 0))), (0, .ref (r 0)), (1, .int (nI p)), (3, .int (nI i))]) hx hb dX4_missingOf_44 rfl hl (by decide) rfl (fun ls hl => ?_)
            refine lv_iinc (v := nI (i + 1)) (lv' := [(3, .int (nI (i + 1))), (2, .int (nI ((misM T p i) ||| 0))), (0, .ref (r 0)), (1, .int (nI p))]) hx hb dX4_missingOf_45 hl (k := 3) rfl (nI_add _ 1) (by decide) rfl (fun ls hl => ?_)
            refine lv_goto (tgt := 4) hx hb dX4_missingOf_48 (by decide) ?_
            exact ih_4 (i + 1) (by omega) (by omega) _ (by simp [misM, missT, onT, c_2, n_c_2, c_3, hks_4, hkp_5, c_6]) _ rfl ls (lv_sub hl [2, 3, 1, 0] rfl)
          · have hq_c_6 : plT T i = some p := by rw [hkp_5, c_6]
            refine lv_aload_n hx hb dX4_missingOf_28 rfl (lv_at hl 0 rfl) ?_
            refine lv_iload_n hx hb dX4_missingOf_29 rfl (lv_at hl 3 rfl) ?_
            refine rd_V (rest := [.int (nI (misM T p i))]) (ci := 4) (q0 := 0) ⟨hx, hb, hml, hown, hts⟩ hP hE (c_X4_isReached l D K _ _ _ _ _ _ _ _ _ _ _ i p ks_4 hI (by omega) hq_c_6 hks_4) (cwV 1 hts gX4_missingOf_X4_isReached rfl rfl rfl hd_X4_isReached ⟨Nat.le_of_ble_eq_true rfl, Nat.le_of_ble_eq_true rfl⟩) rfl rfl rfl rfl hl.1 rfl (Nat.le_of_ble_eq_true rfl) dX4_missingOf_30 ⟨Nat.zero_le _, Nat.zero_le _⟩ ?_
            refine bv_if_ne (x := hasT T p ks_4) (tgt := 42) hx hb dX4_missingOf_33 (by decide) (fun c_7 => ?_) (fun c_7 => ?_)
            · refine lv_iconst (v := nI 0) hx hb dX4_missingOf_42 (by decide) ?_
              refine nv_ior (x := misM T p i) (y := 0) hx hb dX4_missingOf_43 ?_
              refine lv_istore_n (lv' := [(2, .int (nI ((misM T p i) ||| 0))), (0, .ref (r 0)), (1, .int (nI p)), (3, .int (nI i))]) hx hb dX4_missingOf_44 rfl hl (by decide) rfl (fun ls hl => ?_)
              refine lv_iinc (v := nI (i + 1)) (lv' := [(3, .int (nI (i + 1))), (2, .int (nI ((misM T p i) ||| 0))), (0, .ref (r 0)), (1, .int (nI p))]) hx hb dX4_missingOf_45 hl (k := 3) rfl (nI_add _ 1) (by decide) rfl (fun ls hl => ?_)
              refine lv_goto (tgt := 4) hx hb dX4_missingOf_48 (by decide) ?_
              exact ih_4 (i + 1) (by omega) (by omega) _ (by simp [misM, missT, onT, c_2, n_c_2, c_3, hks_4, hkp_5, c_6, hq_c_6, c_7]) _ rfl ls (lv_sub hl [2, 3, 1, 0] rfl)
            · refine lv_iconst (v := nI 1) hx hb dX4_missingOf_36 (by decide) ?_
              refine lv_iload_n hx hb dX4_missingOf_37 rfl (lv_at hl 3 rfl) ?_
              refine nv_ishl1 (y := i) hx hb dX4_missingOf_38 (by omega) ?_
              refine lv_goto (tgt := 43) hx hb dX4_missingOf_39 (by decide) ?_
              refine nv_ior (x := misM T p i) (y := 2 ^ i) hx hb dX4_missingOf_43 ?_
              refine lv_istore_n (lv' := [(2, .int (nI ((misM T p i) ||| (2 ^ i)))), (0, .ref (r 0)), (1, .int (nI p)), (3, .int (nI i))]) hx hb dX4_missingOf_44 rfl hl (by decide) rfl (fun ls hl => ?_)
              refine lv_iinc (v := nI (i + 1)) (lv' := [(3, .int (nI (i + 1))), (2, .int (nI ((misM T p i) ||| (2 ^ i)))), (0, .ref (r 0)), (1, .int (nI p))]) hx hb dX4_missingOf_45 hl (k := 3) rfl (nI_add _ 1) (by decide) rfl (fun ls hl => ?_)
              refine lv_goto (tgt := 4) hx hb dX4_missingOf_48 (by decide) ?_
              exact ih_4 (i + 1) (by omega) (by omega) _ (by simp [misM, missT, onT, c_2, n_c_2, c_3, hks_4, hkp_5, c_6, hq_c_6, c_7]) _ rfl ls (lv_sub hl [2, 3, 1, 0] rfl)
  exact loop_1 _ 0 (by decide) (Nat.lt_succ_self _) _ rfl _ rfl ls (lv_sub hl [2, 3, 1, 0] rfl)
