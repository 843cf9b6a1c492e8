theorem hd_X1_hasTrack : yX1_hasTrack.cls = RX1 ∧ yX1_hasTrack.cls ≠ "java/lang/invoke/MethodHandle" ∧ yX1_hasTrack.cls ≠ "java/lang/invoke/VarHandle" ∧ (parseMethodDescriptor yX1_hasTrack.desc).map (fun d => d.parameters.length) = some 2 := by decide +kernel
theorem hn_X1_hasTrack : yX1_hasTrack.cls ≠ "java/lang/invoke/MethodHandle" ∧ yX1_hasTrack.cls ≠ "java/lang/invoke/VarHandle" ∧ (parseMethodDescriptor yX1_hasTrack.desc).map (fun d => d.parameters.length) = some 2 := hd_X1_hasTrack.2
theorem hd_X1_tracksOn : yX1_tracksOn.cls = RX1 ∧ yX1_tracksOn.cls ≠ "java/lang/invoke/MethodHandle" ∧ yX1_tracksOn.cls ≠ "java/lang/invoke/VarHandle" ∧ (parseMethodDescriptor yX1_tracksOn.desc).map (fun d => d.parameters.length) = some 1 := by decide +kernel
theorem hn_X1_tracksOn : yX1_tracksOn.cls ≠ "java/lang/invoke/MethodHandle" ∧ yX1_tracksOn.cls ≠ "java/lang/invoke/VarHandle" ∧ (parseMethodDescriptor yX1_tracksOn.desc).map (fun d => d.parameters.length) = some 1 := hd_X1_tracksOn.2
theorem hd_X1_tollOn : yX1_tollOn.cls = RX1 ∧ yX1_tollOn.cls ≠ "java/lang/invoke/MethodHandle" ∧ yX1_tollOn.cls ≠ "java/lang/invoke/VarHandle" ∧ (parseMethodDescriptor yX1_tollOn.desc).map (fun d => d.parameters.length) = some 1 := by decide +kernel
theorem hn_X1_tollOn : yX1_tollOn.cls ≠ "java/lang/invoke/MethodHandle" ∧ yX1_tollOn.cls ≠ "java/lang/invoke/VarHandle" ∧ (parseMethodDescriptor yX1_tollOn.desc).map (fun d => d.parameters.length) = some 1 := hd_X1_tollOn.2
theorem hd_X1_obstacle : yX1_obstacle.cls = RX1 ∧ yX1_obstacle.cls ≠ "java/lang/invoke/MethodHandle" ∧ yX1_obstacle.cls ≠ "java/lang/invoke/VarHandle" ∧ (parseMethodDescriptor yX1_obstacle.desc).map (fun d => d.parameters.length) = some 2 := by decide +kernel
theorem hn_X1_obstacle : yX1_obstacle.cls ≠ "java/lang/invoke/MethodHandle" ∧ yX1_obstacle.cls ≠ "java/lang/invoke/VarHandle" ∧ (parseMethodDescriptor yX1_obstacle.desc).map (fun d => d.parameters.length) = some 2 := hd_X1_obstacle.2
theorem hd_X1_reason : yX1_reason.cls = RX1 ∧ yX1_reason.cls ≠ "java/lang/invoke/MethodHandle" ∧ yX1_reason.cls ≠ "java/lang/invoke/VarHandle" ∧ (parseMethodDescriptor yX1_reason.desc).map (fun d => d.parameters.length) = some 4 := by decide +kernel
theorem hn_X1_reason : yX1_reason.cls ≠ "java/lang/invoke/MethodHandle" ∧ yX1_reason.cls ≠ "java/lang/invoke/VarHandle" ∧ (parseMethodDescriptor yX1_reason.desc).map (fun d => d.parameters.length) = some 4 := hd_X1_reason.2
theorem hd_X1_lineLength : yX1_lineLength.cls = RX1 ∧ yX1_lineLength.cls ≠ "java/lang/invoke/MethodHandle" ∧ yX1_lineLength.cls ≠ "java/lang/invoke/VarHandle" ∧ (parseMethodDescriptor yX1_lineLength.desc).map (fun d => d.parameters.length) = some 1 := by decide +kernel
theorem hn_X1_lineLength : yX1_lineLength.cls ≠ "java/lang/invoke/MethodHandle" ∧ yX1_lineLength.cls ≠ "java/lang/invoke/VarHandle" ∧ (parseMethodDescriptor yX1_lineLength.desc).map (fun d => d.parameters.length) = some 1 := hd_X1_lineLength.2
theorem hd_X1_squaresOwned : yX1_squaresOwned.cls = RX1 ∧ yX1_squaresOwned.cls ≠ "java/lang/invoke/MethodHandle" ∧ yX1_squaresOwned.cls ≠ "java/lang/invoke/VarHandle" ∧ (parseMethodDescriptor yX1_squaresOwned.desc).map (fun d => d.parameters.length) = some 1 := by decide +kernel
theorem hn_X1_squaresOwned : yX1_squaresOwned.cls ≠ "java/lang/invoke/MethodHandle" ∧ yX1_squaresOwned.cls ≠ "java/lang/invoke/VarHandle" ∧ (parseMethodDescriptor yX1_squaresOwned.desc).map (fun d => d.parameters.length) = some 1 := hd_X1_squaresOwned.2
theorem hd_X1_stopsOfLine : yX1_stopsOfLine.cls = RX1 ∧ yX1_stopsOfLine.cls ≠ "java/lang/invoke/MethodHandle" ∧ yX1_stopsOfLine.cls ≠ "java/lang/invoke/VarHandle" ∧ (parseMethodDescriptor yX1_stopsOfLine.desc).map (fun d => d.parameters.length) = some 1 := by decide +kernel
theorem hn_X1_stopsOfLine : yX1_stopsOfLine.cls ≠ "java/lang/invoke/MethodHandle" ∧ yX1_stopsOfLine.cls ≠ "java/lang/invoke/VarHandle" ∧ (parseMethodDescriptor yX1_stopsOfLine.desc).map (fun d => d.parameters.length) = some 1 := hd_X1_stopsOfLine.2
theorem hd_X1_stopsReached : yX1_stopsReached.cls = RX1 ∧ yX1_stopsReached.cls ≠ "java/lang/invoke/MethodHandle" ∧ yX1_stopsReached.cls ≠ "java/lang/invoke/VarHandle" ∧ (parseMethodDescriptor yX1_stopsReached.desc).map (fun d => d.parameters.length) = some 1 := by decide +kernel
theorem hn_X1_stopsReached : yX1_stopsReached.cls ≠ "java/lang/invoke/MethodHandle" ∧ yX1_stopsReached.cls ≠ "java/lang/invoke/VarHandle" ∧ (parseMethodDescriptor yX1_stopsReached.desc).map (fun d => d.parameters.length) = some 1 := hd_X1_stopsReached.2
theorem hd_X1_squaresWithTracks : yX1_squaresWithTracks.cls = RX1 ∧ yX1_squaresWithTracks.cls ≠ "java/lang/invoke/MethodHandle" ∧ yX1_squaresWithTracks.cls ≠ "java/lang/invoke/VarHandle" ∧ (parseMethodDescriptor yX1_squaresWithTracks.desc).map (fun d => d.parameters.length) = some 1 := by decide +kernel
theorem hn_X1_squaresWithTracks : yX1_squaresWithTracks.cls ≠ "java/lang/invoke/MethodHandle" ∧ yX1_squaresWithTracks.cls ≠ "java/lang/invoke/VarHandle" ∧ (parseMethodDescriptor yX1_squaresWithTracks.desc).map (fun d => d.parameters.length) = some 1 := hd_X1_squaresWithTracks.2
theorem hd_X1_isThere : yX1_isThere.cls = RX1 ∧ yX1_isThere.cls ≠ "java/lang/invoke/MethodHandle" ∧ yX1_isThere.cls ≠ "java/lang/invoke/VarHandle" ∧ (parseMethodDescriptor yX1_isThere.desc).map (fun d => d.parameters.length) = some 1 := by decide +kernel
theorem hn_X1_isThere : yX1_isThere.cls ≠ "java/lang/invoke/MethodHandle" ∧ yX1_isThere.cls ≠ "java/lang/invoke/VarHandle" ∧ (parseMethodDescriptor yX1_isThere.desc).map (fun d => d.parameters.length) = some 1 := hd_X1_isThere.2
theorem hd_X1_stopsThere : yX1_stopsThere.cls = RX1 ∧ yX1_stopsThere.cls ≠ "java/lang/invoke/MethodHandle" ∧ yX1_stopsThere.cls ≠ "java/lang/invoke/VarHandle" ∧ (parseMethodDescriptor yX1_stopsThere.desc).map (fun d => d.parameters.length) = some 0 := by decide +kernel
theorem hn_X1_stopsThere : yX1_stopsThere.cls ≠ "java/lang/invoke/MethodHandle" ∧ yX1_stopsThere.cls ≠ "java/lang/invoke/VarHandle" ∧ (parseMethodDescriptor yX1_stopsThere.desc).map (fun d => d.parameters.length) = some 0 := hd_X1_stopsThere.2
theorem hd_X1_joinsStops : yX1_joinsStops.cls = RX1 ∧ yX1_joinsStops.cls ≠ "java/lang/invoke/MethodHandle" ∧ yX1_joinsStops.cls ≠ "java/lang/invoke/VarHandle" ∧ (parseMethodDescriptor yX1_joinsStops.desc).map (fun d => d.parameters.length) = some 1 := by decide +kernel
theorem hn_X1_joinsStops : yX1_joinsStops.cls ≠ "java/lang/invoke/MethodHandle" ∧ yX1_joinsStops.cls ≠ "java/lang/invoke/VarHandle" ∧ (parseMethodDescriptor yX1_joinsStops.desc).map (fun d => d.parameters.length) = some 1 := hd_X1_joinsStops.2
theorem hd_X1_linesThatJoin : yX1_linesThatJoin.cls = RX1 ∧ yX1_linesThatJoin.cls ≠ "java/lang/invoke/MethodHandle" ∧ yX1_linesThatJoin.cls ≠ "java/lang/invoke/VarHandle" ∧ (parseMethodDescriptor yX1_linesThatJoin.desc).map (fun d => d.parameters.length) = some 0 := by decide +kernel
theorem hn_X1_linesThatJoin : yX1_linesThatJoin.cls ≠ "java/lang/invoke/MethodHandle" ∧ yX1_linesThatJoin.cls ≠ "java/lang/invoke/VarHandle" ∧ (parseMethodDescriptor yX1_linesThatJoin.desc).map (fun d => d.parameters.length) = some 0 := hd_X1_linesThatJoin.2
theorem hd_X1_isReached : yX1_isReached.cls = RX1 ∧ yX1_isReached.cls ≠ "java/lang/invoke/MethodHandle" ∧ yX1_isReached.cls ≠ "java/lang/invoke/VarHandle" ∧ (parseMethodDescriptor yX1_isReached.desc).map (fun d => d.parameters.length) = some 1 := by decide +kernel
theorem hn_X1_isReached : yX1_isReached.cls ≠ "java/lang/invoke/MethodHandle" ∧ yX1_isReached.cls ≠ "java/lang/invoke/VarHandle" ∧ (parseMethodDescriptor yX1_isReached.desc).map (fun d => d.parameters.length) = some 1 := hd_X1_isReached.2
theorem hd_X1_isMissing : yX1_isMissing.cls = RX1 ∧ yX1_isMissing.cls ≠ "java/lang/invoke/MethodHandle" ∧ yX1_isMissing.cls ≠ "java/lang/invoke/VarHandle" ∧ (parseMethodDescriptor yX1_isMissing.desc).map (fun d => d.parameters.length) = some 2 := by decide +kernel
theorem hn_X1_isMissing : yX1_isMissing.cls ≠ "java/lang/invoke/MethodHandle" ∧ yX1_isMissing.cls ≠ "java/lang/invoke/VarHandle" ∧ (parseMethodDescriptor yX1_isMissing.desc).map (fun d => d.parameters.length) = some 2 := hd_X1_isMissing.2
theorem hd_X1_lowestStopOn : yX1_lowestStopOn.cls = RX1 ∧ yX1_lowestStopOn.cls ≠ "java/lang/invoke/MethodHandle" ∧ yX1_lowestStopOn.cls ≠ "java/lang/invoke/VarHandle" ∧ (parseMethodDescriptor yX1_lowestStopOn.desc).map (fun d => d.parameters.length) = some 1 := by decide +kernel
theorem hn_X1_lowestStopOn : yX1_lowestStopOn.cls ≠ "java/lang/invoke/MethodHandle" ∧ yX1_lowestStopOn.cls ≠ "java/lang/invoke/VarHandle" ∧ (parseMethodDescriptor yX1_lowestStopOn.desc).map (fun d => d.parameters.length) = some 1 := hd_X1_lowestStopOn.2
theorem hd_X1_lowestFreeStop : yX1_lowestFreeStop.cls = RX1 ∧ yX1_lowestFreeStop.cls ≠ "java/lang/invoke/MethodHandle" ∧ yX1_lowestFreeStop.cls ≠ "java/lang/invoke/VarHandle" ∧ (parseMethodDescriptor yX1_lowestFreeStop.desc).map (fun d => d.parameters.length) = some 0 := by decide +kernel
theorem hn_X1_lowestFreeStop : yX1_lowestFreeStop.cls ≠ "java/lang/invoke/MethodHandle" ∧ yX1_lowestFreeStop.cls ≠ "java/lang/invoke/VarHandle" ∧ (parseMethodDescriptor yX1_lowestFreeStop.desc).map (fun d => d.parameters.length) = some 0 := hd_X1_lowestFreeStop.2
theorem hd_X1_hasStopOn : yX1_hasStopOn.cls = RX1 ∧ yX1_hasStopOn.cls ≠ "java/lang/invoke/MethodHandle" ∧ yX1_hasStopOn.cls ≠ "java/lang/invoke/VarHandle" ∧ (parseMethodDescriptor yX1_hasStopOn.desc).map (fun d => d.parameters.length) = some 2 := by decide +kernel
theorem hn_X1_hasStopOn : yX1_hasStopOn.cls ≠ "java/lang/invoke/MethodHandle" ∧ yX1_hasStopOn.cls ≠ "java/lang/invoke/VarHandle" ∧ (parseMethodDescriptor yX1_hasStopOn.desc).map (fun d => d.parameters.length) = some 2 := hd_X1_hasStopOn.2
set_option maxHeartbeats 4000000 in
set_option maxRecDepth 100000 in
theorem c_X1_hasTrack (l : Launch) (D : va_G) (K : Nat → ClassId) (a : Nat → Nat) (T : TW) (X : va_W) (p s : Nat) (hI : Inv T) (hp : p < 4) (hs : s < 80) : Rd l yX1_hasTrack wsX1_hasTrack ({ frames := 2, cells := 0, slots := 0, locals := 33 } : Room) D K (townW K a T ++ X) [.ref (a 0), .int (nI p), .int (nI s)] (.int (bI (hasT T p s))) := by
  refine rd_intro (cc := cX1_hasTrack) (maxL := 3) (ret := (some .boolean)) (by decide) rfl (Nat.le_of_ble_eq_true rfl) ?_
  intro pr en st md ar bl mt co hx hb hml hr hts hown hk hP hE ls hl
  have hown : st.vm.findClass RX1 = some md.cls := hown
  have hl : lv_has ls 3 [(0, .ref (a 0)), (1, .int (nI p)), (2, .int (nI s))] := hl
  have F15 : (Cond.fieldLink RX1 15 "TramTolls$Town" "trackMasks" "[I").before ar st = true := hts _ (List.mem_of_getElem? (i := 1) rfl)
  have inX1 : ∀ w ∈ u_ws RX1 TX1 12, w ∈ wsX1_hasTrack := fun w h => List.mem_cons_of_mem _ (List.mem_append_right _ h)
  have IniX3 : (Cond.initialized RX3).before ar st = true := hts _ (List.mem_of_getElem? (i := 3) rfl)
  have Sta_X3_at : (Cond.static yX3_at).before ar st = true := hts _ (List.mem_of_getElem? (i := 2) rfl)
  refine lv_aload_n hx hb dX1_hasTrack_0 rfl (lv_at hl 0 rfl) ?_
  refine va_get (D := D) (ci := 1) (v := .ref (a 2)) (C := RX1) (T := TX1) (N := 12) hx hb hts inX1 hown hE.1 hP 0 rfl rfl 1 (by decide) F15 (fun _ h9 => h9) rfl dX1_hasTrack_1 ?_
  refine lv_iload_n hx hb dX1_hasTrack_4 rfl (lv_at hl 2 rfl) ?_
  refine rd_SN (rest := []) ⟨hx, hb, hml, hown, hts⟩ hP hE (c_X3_at l D K _ 2 _ 80 _ s rfl (by omega) (by omega)) (va_cnB (host := RX3) 2 hts gX1_hasTrack_X3_at_n70 rfl rfl rfl hE.2.2.2.2.1 IniX3 hn_X3_at ⟨Nat.le_of_ble_eq_true rfl, Nat.le_of_ble_eq_true rfl⟩) Sta_X3_at rfl hl.1 rfl (Nat.le_of_ble_eq_true rfl) dX1_hasTrack_5 ⟨Nat.zero_le _, Nat.zero_le _⟩ ?_
  refine top_i (y := nI (mkT T s)) (show T 1 s = nI (mkT T s) from eq_mk hI (by omega)) ?_
  have hb_1 := mk_lt hI (show s < 80 by omega)
  refine lv_iconst (v := nI 1) hx hb dX1_hasTrack_8 (by decide) ?_
  refine lv_iload_n hx hb dX1_hasTrack_9 rfl (lv_at hl 1 rfl) ?_
  refine nv_ishl1 (y := p) hx hb dX1_hasTrack_10 (by omega) ?_
  refine nv_iand (x := mkT T s) (y := 2 ^ p) hx hb dX1_hasTrack_11 ?_
  have hb_2 := Nat.and_le_left (n := mkT T s) (m := 2 ^ p)
  refine nv_if_eq (x := (mkT T s) &&& (2 ^ p)) (tgt := 19) hx hb dX1_hasTrack_12 (by decide) (by omega) (fun c_3 => ?_) (fun c_3 => ?_)
  · have n_c_3 : ¬ 0 < (mkT T s) &&& (2 ^ p) := by omega
    refine lv_iconst (v := nI 0) hx hb dX1_hasTrack_19 (by decide) ?_
    exact rd_zret hx hb hr hk dX1_hasTrack_20 (by simp [hasT, bI, nI_0, nI_one, c_3, n_c_3])
  · have n_c_3 : ¬ (mkT T s) &&& (2 ^ p) = 0 := by omega
    refine lv_iconst (v := nI 1) hx hb dX1_hasTrack_15 (by decide) ?_
    refine lv_goto (tgt := 20) hx hb dX1_hasTrack_16 (by decide) ?_
    exact rd_zret hx hb hr hk dX1_hasTrack_20 (by simp [hasT, bI, nI_0, nI_one, c_3, n_c_3])
set_option maxHeartbeats 4000000 in
set_option maxRecDepth 100000 in
theorem c_X1_tracksOn (l : Launch) (D : va_G) (K : Nat → ClassId) (a : Nat → Nat) (T : TW) (X : va_W) (s : Nat) (hI : Inv T) (hs : s < 80) : Rd l yX1_tracksOn wsX1_tracksOn ({ frames := 2, cells := 0, slots := 0, locals := 33 } : Room) D K (townW K a T ++ X) [.ref (a 0), .int (nI s)] (.int (nI (trkT T s))) := by
  refine rd_intro (cc := cX1_tracksOn) (maxL := 2) (ret := (some .int)) (by decide) rfl (Nat.le_of_ble_eq_true rfl) ?_
  intro pr en st md ar bl mt co hx hb hml hr hts hown hk hP hE ls hl
  have hown : st.vm.findClass RX1 = some md.cls := hown
  have hl : lv_has ls 2 [(0, .ref (a 0)), (1, .int (nI s))] := hl
  have F15 : (Cond.fieldLink RX1 15 "TramTolls$Town" "trackMasks" "[I").before ar st = true := hts _ (List.mem_of_getElem? (i := 1) rfl)
  have inX1 : ∀ w ∈ u_ws RX1 TX1 12, w ∈ wsX1_tracksOn := fun w h => List.mem_cons_of_mem _ (List.mem_append_right _ h)
  have IniX3 : (Cond.initialized RX3).before ar st = true := hts _ (List.mem_of_getElem? (i := 3) rfl)
  have Sta_X3_at : (Cond.static yX3_at).before ar st = true := hts _ (List.mem_of_getElem? (i := 2) rfl)
  refine lv_aload_n hx hb dX1_tracksOn_0 rfl (lv_at hl 0 rfl) ?_
  refine va_get (D := D) (ci := 1) (v := .ref (a 2)) (C := RX1) (T := TX1) (N := 12) hx hb hts inX1 hown hE.1 hP 0 rfl rfl 1 (by decide) F15 (fun _ h9 => h9) rfl dX1_tracksOn_1 ?_
  refine lv_iload_n hx hb dX1_tracksOn_4 rfl (lv_at hl 1 rfl) ?_
  refine rd_SN (rest := []) ⟨hx, hb, hml, hown, hts⟩ hP hE (c_X3_at l D K _ 2 _ 80 _ s rfl (by omega) (by omega)) (va_cnB (host := RX3) 2 hts gX1_tracksOn_X3_at_n70 rfl rfl rfl hE.2.2.2.2.1 IniX3 hn_X3_at ⟨Nat.le_of_ble_eq_true rfl, Nat.le_of_ble_eq_true rfl⟩) Sta_X3_at rfl hl.1 rfl (Nat.le_of_ble_eq_true rfl) dX1_tracksOn_5 ⟨Nat.zero_le _, Nat.zero_le _⟩ ?_
  refine top_i (y := nI (mkT T s)) (show T 1 s = nI (mkT T s) from eq_mk hI (by omega)) ?_
  have hb_1 := mk_lt hI (show s < 80 by omega)
  refine rd_S (rest := []) ⟨hx, hb, hml, hown, hts⟩ hP hE (c_J6_bitCount_0f7a4 l D K _ (mkT T s) (by omega)) (va_cwS 1 hts gX1_tracksOn_J6_bitCount_0f7a4 rfl rfl rfl hn_J6_bitCount_0f7a4 ⟨Nat.le_of_ble_eq_true rfl, Nat.le_of_ble_eq_true rfl⟩) rfl hl.1 rfl (Nat.le_of_ble_eq_true rfl) dX1_tracksOn_8 ⟨Nat.zero_le _, Nat.zero_le _⟩ ?_
  have hb_2 := trk_lt T s
  exact rd_iret hx hb hr hk dX1_tracksOn_11 (rfl)
set_option maxHeartbeats 4000000 in
set_option maxRecDepth 100000 in
theorem c_X1_tollOn (l : Launch) (D : va_G) (K : Nat → ClassId) (a : Nat → Nat) (T : TW) (X : va_W) (s : Nat) (hI : Inv T) (hs : s < 80) : Rd l yX1_tollOn wsX1_tollOn ({ frames := 3, cells := 0, slots := 0, locals := 54 } : Room) D K (townW K a T ++ X) [.ref (a 0), .int (nI s)] (.int (nI (tollT T s))) := by
  refine rd_intro (cc := cX1_tollOn) (maxL := 2) (ret := (some .int)) (by decide) rfl (Nat.le_of_ble_eq_true rfl) ?_
  intro pr en st md ar bl mt co hx hb hml hr hts hown hk hP hE ls hl
  have hown : st.vm.findClass RX1 = some md.cls := hown
  have hl : lv_has ls 2 [(0, .ref (a 0)), (1, .int (nI s))] := hl
  have F18 : (Cond.fieldLink RX1 18 "TramTolls$Town" "owners" "[I").before ar st = true := hts _ (List.mem_of_getElem? (i := 1) rfl)
  have inX1 : ∀ w ∈ u_ws RX1 TX1 12, w ∈ wsX1_tollOn := fun w h => List.mem_cons_of_mem _ (List.mem_append_right _ h)
  have IniX3 : (Cond.initialized RX3).before ar st = true := hts _ (List.mem_of_getElem? (i := 4) rfl)
  have Sta_X3_at : (Cond.static yX3_at).before ar st = true := hts _ (List.mem_of_getElem? (i := 3) rfl)
  have F53 : (Cond.fieldLink RX1 53 "TramTolls$Town" "settings" "[I").before ar st = true := hts _ (List.mem_of_getElem? (i := 2) rfl)
  refine lv_aload_n hx hb dX1_tollOn_0 rfl (lv_at hl 0 rfl) ?_
  refine va_get (D := D) (ci := 1) (v := .ref (a 3)) (C := RX1) (T := TX1) (N := 12) hx hb hts inX1 hown hE.1 hP 0 rfl rfl 2 (by decide) F18 (fun _ h9 => h9) rfl dX1_tollOn_1 ?_
  refine lv_iload_n hx hb dX1_tollOn_4 rfl (lv_at hl 1 rfl) ?_
  refine rd_SN (rest := []) ⟨hx, hb, hml, hown, hts⟩ hP hE (c_X3_at l D K _ 3 _ 80 _ s rfl (by omega) (by omega)) (va_cnB (host := RX3) 2 hts gX1_tollOn_X3_at_n70 rfl rfl rfl hE.2.2.2.2.1 IniX3 hn_X3_at ⟨Nat.le_of_ble_eq_true rfl, Nat.le_of_ble_eq_true rfl⟩) Sta_X3_at rfl hl.1 rfl (Nat.le_of_ble_eq_true rfl) dX1_tollOn_5 ⟨Nat.zero_le _, Nat.zero_le _⟩ ?_
  refine top_i (y := oI (owT T s)) (show T 2 s = oI (owT T s) from eq_ow hI (by omega)) ?_
  refine lv_iconst (v := -1) hx hb dX1_tollOn_8 (by decide) ?_
  refine ov_icmp_ne (tgt := 14) hx hb dX1_tollOn_9 (by decide) (lt31 (ow_lt hI (s := s) (by omega)) (by decide)) (fun k_2 c_1 => ?_) (fun c_1 => ?_)
  · have hk_c_1 := (ow_lt hI (s := s) (by omega)) k_2 c_1
    refine lv_aload_n hx hb dX1_tollOn_14 rfl (lv_at hl 0 rfl) ?_
    refine va_get (D := D) (ci := 1) (v := .ref (a 11)) (C := RX1) (T := TX1) (N := 12) hx hb hts inX1 hown hE.1 hP 0 rfl rfl 10 (by decide) F53 (fun _ h9 => h9) rfl dX1_tollOn_15 ?_
    refine lv_iconst (v := nI 0) hx hb dX1_tollOn_18 (by decide) ?_
    refine rd_SN (rest := []) ⟨hx, hb, hml, hown, hts⟩ hP hE (c_X3_at l D K _ 11 _ 3 _ 0 rfl (by omega) (by omega)) (va_cnB (host := RX3) 2 hts gX1_tollOn_X3_at_n70 rfl rfl rfl hE.2.2.2.2.1 IniX3 hn_X3_at ⟨Nat.le_of_ble_eq_true rfl, Nat.le_of_ble_eq_true rfl⟩) Sta_X3_at rfl hl.1 rfl (Nat.le_of_ble_eq_true rfl) dX1_tollOn_19 ⟨Nat.zero_le _, Nat.zero_le _⟩ ?_
    refine top_i (y := nI (stT T 0)) (show T 10 0 = nI (stT T 0) from eq_st hI (by omega)) ?_
    have hb_3 := st_lt hI (show 0 < 3 by omega)
    refine lv_aload_n hx hb dX1_tollOn_22 rfl (lv_at hl 0 rfl) ?_
    refine lv_iload_n hx hb dX1_tollOn_23 rfl (lv_at hl 1 rfl) ?_
    refine rd_V (rest := [.int (nI (stT T 0))]) (ci := 1) (q0 := 0) ⟨hx, hb, hml, hown, hts⟩ hP hE (c_X1_tracksOn l D K _ _ _ s hI (by omega)) (cwV 1 hts gX1_tollOn_X1_tracksOn rfl rfl rfl hd_X1_tracksOn ⟨Nat.le_of_ble_eq_true rfl, Nat.le_of_ble_eq_true rfl⟩) rfl rfl rfl rfl hl.1 rfl (Nat.le_of_ble_eq_true rfl) dX1_tollOn_24 ⟨Nat.zero_le _, Nat.zero_le _⟩ ?_
    have hb_4 := trk_lt T s
    refine nv_imul (x := stT T 0) (y := trkT T s) hx hb dX1_tollOn_27 ?_
    exact rd_iret hx hb hr hk dX1_tollOn_28 (by simp [tollT, c_1])
  · refine lv_iconst (v := nI 0) hx hb dX1_tollOn_12 (by decide) ?_
    exact rd_iret hx hb hr hk dX1_tollOn_13 (by simp [tollT, c_1])
set_option maxHeartbeats 4000000 in
set_option maxRecDepth 100000 in
theorem c_X1_obstacle (l : Launch) (D : va_G) (K : Nat → ClassId) (a : Nat → Nat) (T : TW) (X : va_W) (p s : Nat) (hI : Inv T) (hp : p < 4) (hs : s < 80) : Rd l yX1_obstacle wsX1_obstacle ({ frames := 2, cells := 0, slots := 0, locals := 33 } : Room) D K (townW K a T ++ X) [.ref (a 0), .int (nI p), .int (nI s)] (.int (nI (obsT T p s))) := by
  refine rd_intro (cc := cX1_obstacle) (maxL := 4) (ret := (some .int)) (by decide) rfl (Nat.le_of_ble_eq_true rfl) ?_
  intro pr en st md ar bl mt co hx hb hml hr hts hown hk hP hE ls hl
  have hown : st.vm.findClass RX1 = some md.cls := hown
  have hl : lv_has ls 4 [(0, .ref (a 0)), (1, .int (nI p)), (2, .int (nI s))] := hl
  have F15 : (Cond.fieldLink RX1 15 "TramTolls$Town" "trackMasks" "[I").before ar st = true := hts _ (List.mem_of_getElem? (i := 1) rfl)
  have inX1 : ∀ w ∈ u_ws RX1 TX1 12, w ∈ wsX1_obstacle := fun w h => List.mem_cons_of_mem _ (List.mem_append_right _ h)
  have IniX3 : (Cond.initialized RX3).before ar st = true := hts _ (List.mem_of_getElem? (i := 5) rfl)
  have Sta_X3_at : (Cond.static yX3_at).before ar st = true := hts _ (List.mem_of_getElem? (i := 4) rfl)
  have F9 : (Cond.fieldLink RX1 9 "TramTolls$Town" "houses" "[I").before ar st = true := hts _ (List.mem_of_getElem? (i := 2) rfl)
  have F53 : (Cond.fieldLink RX1 53 "TramTolls$Town" "settings" "[I").before ar st = true := hts _ (List.mem_of_getElem? (i := 3) rfl)
  refine lv_aload_n hx hb dX1_obstacle_0 rfl (lv_at hl 0 rfl) ?_
  refine va_get (D := D) (ci := 1) (v := .ref (a 2)) (C := RX1) (T := TX1) (N := 12) hx hb hts inX1 hown hE.1 hP 0 rfl rfl 1 (by decide) F15 (fun _ h9 => h9) rfl dX1_obstacle_1 ?_
  refine lv_iload_n hx hb dX1_obstacle_4 rfl (lv_at hl 2 rfl) ?_
  refine rd_SN (rest := []) ⟨hx, hb, hml, hown, hts⟩ hP hE (c_X3_at l D K _ 2 _ 80 _ s rfl (by omega) (by omega)) (va_cnB (host := RX3) 2 hts gX1_obstacle_X3_at_n70 rfl rfl rfl hE.2.2.2.2.1 IniX3 hn_X3_at ⟨Nat.le_of_ble_eq_true rfl, Nat.le_of_ble_eq_true rfl⟩) Sta_X3_at rfl hl.1 rfl (Nat.le_of_ble_eq_true rfl) dX1_obstacle_5 ⟨Nat.zero_le _, Nat.zero_le _⟩ ?_
  refine top_i (y := nI (mkT T s)) (show T 1 s = nI (mkT T s) from eq_mk hI (by omega)) ?_
  have hb_1 := mk_lt hI (show s < 80 by omega)
  refine lv_istore_n (lv' := [(3, .int (nI (mkT T s))), (0, .ref (a 0)), (1, .int (nI p)), (2, .int (nI s))]) hx hb dX1_obstacle_8 rfl hl (by decide) rfl (fun ls hl => ?_)
  refine lv_aload_n hx hb dX1_obstacle_9 rfl (lv_at hl 1 rfl) ?_
  refine va_get (D := D) (ci := 1) (v := .ref (a 1)) (C := RX1) (T := TX1) (N := 12) hx hb hts inX1 hown hE.1 hP 0 rfl rfl 0 (by decide) F9 (fun _ h9 => h9) rfl dX1_obstacle_10 ?_
  refine lv_iload_n hx hb dX1_obstacle_13 rfl (lv_at hl 3 rfl) ?_
  refine rd_SN (rest := []) ⟨hx, hb, hml, hown, hts⟩ hP hE (c_X3_at l D K _ 1 _ 80 _ s rfl (by omega) (by omega)) (va_cnB (host := RX3) 2 hts gX1_obstacle_X3_at_n70 rfl rfl rfl hE.2.2.2.2.1 IniX3 hn_X3_at ⟨Nat.le_of_ble_eq_true rfl, Nat.le_of_ble_eq_true rfl⟩) Sta_X3_at rfl hl.1 rfl (Nat.le_of_ble_eq_true rfl) dX1_obstacle_14 ⟨Nat.zero_le _, Nat.zero_le _⟩ ?_
  refine top_i (y := bI (hsT T s)) (show T 0 s = bI (hsT T s) from eq_hs hI (by omega)) ?_
  refine bv_if_eq (x := hsT T s) (tgt := 22) hx hb dX1_obstacle_17 (by decide) (fun c_2 => ?_) (fun c_2 => ?_)
  · refine lv_iload_n hx hb dX1_obstacle_22 rfl (lv_at hl 0 rfl) ?_
    refine lv_iconst (v := nI 1) hx hb dX1_obstacle_23 (by decide) ?_
    refine lv_iload_n hx hb dX1_obstacle_24 rfl (lv_at hl 2 rfl) ?_
    refine nv_ishl1 (y := p) hx hb dX1_obstacle_25 (by omega) ?_
    refine nv_iand (x := mkT T s) (y := 2 ^ p) hx hb dX1_obstacle_26 ?_
    have hb_3 := Nat.and_le_left (n := mkT T s) (m := 2 ^ p)
    refine nv_if_eq (x := (mkT T s) &&& (2 ^ p)) (tgt := 32) hx hb dX1_obstacle_27 (by decide) (by omega) (fun c_4 => ?_) (fun c_4 => ?_)
    · have n_c_4 : ¬ 0 < (mkT T s) &&& (2 ^ p) := by omega
      refine lv_iload_n hx hb dX1_obstacle_32 rfl (lv_at hl 0 rfl) ?_
      refine rd_S (rest := []) ⟨hx, hb, hml, hown, hts⟩ hP hE (c_J6_bitCount_0f7a4 l D K _ (mkT T s) (by omega)) (va_cwS 1 hts gX1_obstacle_J6_bitCount_0f7a4 rfl rfl rfl hn_J6_bitCount_0f7a4 ⟨Nat.le_of_ble_eq_true rfl, Nat.le_of_ble_eq_true rfl⟩) rfl hl.1 rfl (Nat.le_of_ble_eq_true rfl) dX1_obstacle_33 ⟨Nat.zero_le _, Nat.zero_le _⟩ ?_
      have hb_5 := trk_lt T s
      refine lv_aload_n hx hb dX1_obstacle_36 rfl (lv_at hl 1 rfl) ?_
      refine va_get (D := D) (ci := 1) (v := .ref (a 11)) (C := RX1) (T := TX1) (N := 12) hx hb hts inX1 hown hE.1 hP 0 rfl rfl 10 (by decide) F53 (fun _ h9 => h9) rfl dX1_obstacle_37 ?_
      refine lv_iconst (v := nI 1) hx hb dX1_obstacle_40 (by decide) ?_
      refine rd_SN (rest := [.int (nI (trkT T s))]) ⟨hx, hb, hml, hown, hts⟩ hP hE (c_X3_at l D K _ 11 _ 3 _ 1 rfl (by omega) (by omega)) (va_cnB (host := RX3) 2 hts gX1_obstacle_X3_at_n70 rfl rfl rfl hE.2.2.2.2.1 IniX3 hn_X3_at ⟨Nat.le_of_ble_eq_true rfl, Nat.le_of_ble_eq_true rfl⟩) Sta_X3_at rfl hl.1 rfl (Nat.le_of_ble_eq_true rfl) dX1_obstacle_41 ⟨Nat.zero_le _, Nat.zero_le _⟩ ?_
      refine top_i (y := nI (stT T 1)) (show T 10 1 = nI (stT T 1) from eq_st hI (by omega)) ?_
      have hb_6 := st_lt hI (show 1 < 3 by omega)
      refine nv_icmp_lt (x := trkT T s) (y := stT T 1) (tgt := 51) hx hb dX1_obstacle_44 (by decide) (by omega) (by omega) (fun c_7 => ?_) (fun c_7 => ?_)
      · have n_c_7 := Nat.not_le.mpr c_7
        refine lv_iconst (v := nI 0) hx hb dX1_obstacle_51 (by decide) ?_
        exact rd_iret hx hb hr hk dX1_obstacle_52 (by simp [obsT, hasT, c_2, c_4, n_c_4, c_7, n_c_7])
      · have n_c_7 := Nat.not_lt.mpr c_7
        refine lv_iconst (v := nI 5) hx hb dX1_obstacle_47 (by decide) ?_
        refine lv_goto (tgt := 52) hx hb dX1_obstacle_48 (by decide) ?_
        exact rd_iret hx hb hr hk dX1_obstacle_52 (by simp [obsT, hasT, c_2, c_4, n_c_4, c_7, n_c_7])
    · have n_c_4 : ¬ (mkT T s) &&& (2 ^ p) = 0 := by omega
      refine lv_iconst (v := nI 4) hx hb dX1_obstacle_30 (by decide) ?_
      exact rd_iret hx hb hr hk dX1_obstacle_31 (by simp [obsT, hasT, c_2, c_4, n_c_4])
  · refine lv_iconst (v := nI 3) hx hb dX1_obstacle_20 (by decide) ?_
    exact rd_iret hx hb hr hk dX1_obstacle_21 (by simp [obsT, hasT, c_2])
set_option maxHeartbeats 4000000 in
set_option maxRecDepth 100000 in
theorem c_X1_reason (l : Launch) (D : va_G) (K : Nat → ClassId) (a : Nat → Nat) (T : TW) (X : va_W) (p f die d : Nat) (hI : Inv T) (hp : p < 4) (hf : f < 80) (hdie : die < 7) (hd : d < 4) : Rd l yX1_reason wsX1_reason ({ frames := 4, cells := 0, slots := 0, locals := 75 } : Room) D K (townW K a T ++ X) [.ref (a 0), .int (nI p), .int (nI f), .int (nI die), .int (nI d)] (.int (nI (whyT T p f die d))) := by
  refine rd_intro (cc := cX1_reason) (maxL := 7) (ret := (some .int)) (by decide) rfl (Nat.le_of_ble_eq_true rfl) ?_
  intro pr en st md ar bl mt co hx hb hml hr hts hown hk hP hE ls hl
  have hown : st.vm.findClass RX1 = some md.cls := hown
  have hl : lv_has ls 7 [(0, .ref (a 0)), (1, .int (nI p)), (2, .int (nI f)), (3, .int (nI die)), (4, .int (nI d))] := hl
  have IniX3 : (Cond.initialized RX3).before ar st = true := hts _ (List.mem_of_getElem? (i := 4) rfl)
  have Sta_X3_neighbour : (Cond.static yX3_neighbour).before ar st = true := hts _ (List.mem_of_getElem? (i := 3) rfl)
  have F41 : (Cond.fieldLink RX1 41 "TramTolls$Town" "lastDirections" "[I").before ar st = true := hts _ (List.mem_of_getElem? (i := 1) rfl)
  have inX1 : ∀ w ∈ u_ws RX1 TX1 12, w ∈ wsX1_reason := fun w h => List.mem_cons_of_mem _ (List.mem_append_right _ h)
  have Sta_X3_at : (Cond.static yX3_at).before ar st = true := hts _ (List.mem_of_getElem? (i := 6) rfl)
  have Sta_X3_dieAllows : (Cond.static yX3_dieAllows).before ar st = true := hts _ (List.mem_of_getElem? (i := 8) rfl)
  have F27 : (Cond.fieldLink RX1 27 "TramTolls$Town" "coins" "[I").before ar st = true := hts _ (List.mem_of_getElem? (i := 2) rfl)
  refine lv_iload_n hx hb dX1_reason_0 rfl (lv_at hl 2 rfl) ?_
  refine lv_iload hx hb dX1_reason_1 (lv_at hl 4 rfl) ?_
  refine rd_SN (rest := []) ⟨hx, hb, hml, hown, hts⟩ hP hE (c_X3_neighbour l D K _ f d (by omega) (by omega)) (va_cnB (host := RX3) 2 hts gX1_reason_X3_neighbour_n83 rfl rfl rfl hE.2.2.2.2.2.2.2.2.2.1 IniX3 hn_X3_neighbour ⟨Nat.le_of_ble_eq_true rfl, Nat.le_of_ble_eq_true rfl⟩) Sta_X3_neighbour rfl hl.1 rfl (Nat.le_of_ble_eq_true rfl) dX1_reason_3 ⟨Nat.zero_le _, Nat.zero_le _⟩ ?_
  refine lv_istore (lv' := [(5, .int (oI (nbT f d))), (0, .ref (a 0)), (1, .int (nI p)), (2, .int (nI f)), (3, .int (nI die)), (4, .int (nI d))]) hx hb dX1_reason_6 hl (by decide) rfl (fun ls hl => ?_)
  refine lv_iload hx hb dX1_reason_8 (lv_at hl 0 rfl) ?_
  refine lv_iconst (v := -1) hx hb dX1_reason_10 (by decide) ?_
  refine ov_icmp_ne (tgt := 16) hx hb dX1_reason_11 (by decide) (lt31 (nb_lt (show f < 80 by omega)) (by decide)) (fun k_2 c_1 => ?_) (fun c_1 => ?_)
  · have hk_c_1 := (nb_lt (show f < 80 by omega)) k_2 c_1
    refine lv_iload_n hx hb dX1_reason_16 rfl (lv_at hl 4 rfl) ?_
    refine lv_aload_n hx hb dX1_reason_17 rfl (lv_at hl 1 rfl) ?_
    refine va_get (D := D) (ci := 1) (v := .ref (a 8)) (C := RX1) (T := TX1) (N := 12) hx hb hts inX1 hown hE.1 hP 0 rfl rfl 7 (by decide) F41 (fun _ h9 => h9) rfl dX1_reason_18 ?_
    refine lv_iload_n hx hb dX1_reason_21 rfl (lv_at hl 2 rfl) ?_
    refine rd_SN (rest := [.int (nI die)]) ⟨hx, hb, hml, hown, hts⟩ hP hE (c_X3_at l D K _ 8 _ 4 _ p rfl (by omega) (by omega)) (va_cnB (host := RX3) 2 hts gX1_reason_X3_at_n70 rfl rfl rfl hE.2.2.2.2.1 IniX3 hn_X3_at ⟨Nat.le_of_ble_eq_true rfl, Nat.le_of_ble_eq_true rfl⟩) Sta_X3_at rfl hl.1 rfl (Nat.le_of_ble_eq_true rfl) dX1_reason_22 ⟨Nat.zero_le _, Nat.zero_le _⟩ ?_
    refine top_i (y := oI (laT T p)) (show T 7 p = oI (laT T p) from eq_la hI (by omega)) ?_
    refine lv_iload hx hb dX1_reason_25 (lv_at hl 5 rfl) ?_
    refine rd_SN (rest := []) ⟨hx, hb, hml, hown, hts⟩ hP hE (c_X3_dieAllows l D K _ die d (laT T p) (by omega) (by omega) (la_lt hI (p := p) (by omega))) (va_cnB (host := RX3) 3 hts gX1_reason_X3_dieAllows_n87 rfl rfl rfl hE.2.2.2.2.2.2.2.2.2.2.1 IniX3 hn_X3_dieAllows ⟨Nat.le_of_ble_eq_true rfl, Nat.le_of_ble_eq_true rfl⟩) Sta_X3_dieAllows rfl hl.1 rfl (Nat.le_of_ble_eq_true rfl) dX1_reason_27 ⟨Nat.zero_le _, Nat.zero_le _⟩ ?_
    refine bv_if_ne (x := dieT die (laT T p) d) (tgt := 35) hx hb dX1_reason_30 (by decide) (fun c_3 => ?_) (fun c_3 => ?_)
    · refine lv_aload_n hx hb dX1_reason_35 rfl (lv_at hl 1 rfl) ?_
      refine lv_iload_n hx hb dX1_reason_36 rfl (lv_at hl 2 rfl) ?_
      refine lv_iload hx hb dX1_reason_37 (lv_at hl 0 rfl) ?_
      refine top_i (y := nI k_2) (by rw [c_1]; rfl) ?_
      refine rd_V (rest := []) (ci := 1) (q0 := 0) ⟨hx, hb, hml, hown, hts⟩ hP hE (c_X1_obstacle l D K _ _ _ p k_2 hI (by omega) (by omega)) (cwV 2 hts gX1_reason_X1_obstacle rfl rfl rfl hd_X1_obstacle ⟨Nat.le_of_ble_eq_true rfl, Nat.le_of_ble_eq_true rfl⟩) rfl rfl rfl rfl hl.1 rfl (Nat.le_of_ble_eq_true rfl) dX1_reason_39 ⟨Nat.zero_le _, Nat.zero_le _⟩ ?_
      have hb_4 := obs_lt T p k_2
      refine lv_istore (lv' := [(6, .int (nI (obsT T p k_2))), (5, .int (oI (nbT f d))), (0, .ref (a 0)), (1, .int (nI p)), (2, .int (nI f)), (3, .int (nI die)), (4, .int (nI d))]) hx hb dX1_reason_42 hl (by decide) rfl (fun ls hl => ?_)
      refine lv_iload hx hb dX1_reason_44 (lv_at hl 0 rfl) ?_
      refine nv_if_eq (x := obsT T p k_2) (tgt := 52) hx hb dX1_reason_46 (by decide) (by omega) (fun c_5 => ?_) (fun c_5 => ?_)
      · have n_c_5 : ¬ 0 < obsT T p k_2 := by omega
        refine lv_aload_n hx hb dX1_reason_52 rfl (lv_at hl 2 rfl) ?_
        refine lv_iload hx hb dX1_reason_53 (lv_at hl 1 rfl) ?_
        refine top_i (y := nI k_2) (by rw [c_1]; rfl) ?_
        refine rd_V (rest := []) (ci := 1) (q0 := 0) ⟨hx, hb, hml, hown, hts⟩ hP hE (c_X1_tollOn l D K _ _ _ k_2 hI (by omega)) (cwV 1 hts gX1_reason_X1_tollOn rfl rfl rfl hd_X1_tollOn ⟨Nat.le_of_ble_eq_true rfl, Nat.le_of_ble_eq_true rfl⟩) rfl rfl rfl rfl hl.1 rfl (Nat.le_of_ble_eq_true rfl) dX1_reason_55 ⟨Nat.zero_le _, Nat.zero_le _⟩ ?_
        have hb_6 := toll_lt (s := k_2) hI
        refine lv_aload_n hx hb dX1_reason_58 rfl (lv_at hl 2 rfl) ?_
        refine va_get (D := D) (ci := 1) (v := .ref (a 6)) (C := RX1) (T := TX1) (N := 12) hx hb hts inX1 hown hE.1 hP 0 rfl rfl 5 (by decide) F27 (fun _ h9 => h9) rfl dX1_reason_59 ?_
        refine lv_iload_n hx hb dX1_reason_62 rfl (lv_at hl 3 rfl) ?_
        refine rd_SN (rest := [.int (nI (tollT T k_2))]) ⟨hx, hb, hml, hown, hts⟩ hP hE (c_X3_at l D K _ 6 _ 4 _ p rfl (by omega) (by omega)) (va_cnB (host := RX3) 2 hts gX1_reason_X3_at_n70 rfl rfl rfl hE.2.2.2.2.1 IniX3 hn_X3_at ⟨Nat.le_of_ble_eq_true rfl, Nat.le_of_ble_eq_true rfl⟩) Sta_X3_at rfl hl.1 rfl (Nat.le_of_ble_eq_true rfl) dX1_reason_63 ⟨Nat.zero_le _, Nat.zero_le _⟩ ?_
        refine top_i (y := coT T p) (rfl) ?_
        refine lv_icmp_le (x := nI (tollT T k_2)) (y := coT T p) (tgt := 74) hx hb dX1_reason_66 (by decide) (fun c_7 => ?_) (fun c_7 => ?_)
        · have n_c_7 := i_le_nlt c_7
          refine lv_iconst (v := nI 0) hx hb dX1_reason_74 (by decide) ?_
          exact rd_iret hx hb hr hk dX1_reason_75 (by simp [whyT, c_1, c_3, c_5, n_c_5, c_7, n_c_7])
        · have n_c_7 := i_nle_lt c_7
          refine lv_bipush (v := nI 6) hx hb dX1_reason_69 (by decide) ?_
          refine lv_goto (tgt := 75) hx hb dX1_reason_71 (by decide) ?_
          exact rd_iret hx hb hr hk dX1_reason_75 (by simp [whyT, c_1, c_3, c_5, n_c_5, c_7, n_c_7])
      · have n_c_5 : ¬ obsT T p k_2 = 0 := by omega
        refine lv_iload hx hb dX1_reason_49 (lv_at hl 0 rfl) ?_
        exact rd_iret hx hb hr hk dX1_reason_51 (by simp [whyT, c_1, c_3, c_5, n_c_5])
    · refine lv_iconst (v := nI 2) hx hb dX1_reason_33 (by decide) ?_
      exact rd_iret hx hb hr hk dX1_reason_34 (by simp [whyT, c_1, c_3])
  · refine lv_iconst (v := nI 1) hx hb dX1_reason_14 (by decide) ?_
    exact rd_iret hx hb hr hk dX1_reason_15 (by simp [whyT, c_1])
set_option maxHeartbeats 4000000 in
set_option maxRecDepth 100000 in
theorem c_X1_lineLength (l : Launch) (D : va_G) (K : Nat → ClassId) (a : Nat → Nat) (T : TW) (X : va_W) (p : Nat) (hI : Inv T) (hp : p < 4) : Rd l yX1_lineLength wsX1_lineLength ({ frames := 3, cells := 0, slots := 0, locals := 55 } : Room) D K (townW K a T ++ X) [.ref (a 0), .int (nI p)] (.int (nI (lenT T p))) := by
  refine rd_intro (cc := cX1_lineLength) (maxL := 4) (ret := (some .int)) (by decide) rfl (Nat.le_of_ble_eq_true rfl) ?_
  intro pr en st md ar bl mt co hx hb hml hr hts hown hk hP hE ls hl
  have hown : st.vm.findClass RX1 = some md.cls := hown
  have hl : lv_has ls 4 [(0, .ref (a 0)), (1, .int (nI p))] := hl
  refine lv_iconst (v := nI 0) hx hb dX1_lineLength_0 (by decide) ?_
  refine lv_istore_n (lv' := [(2, .int (nI 0)), (0, .ref (a 0)), (1, .int (nI p))]) hx hb dX1_lineLength_1 rfl hl (by decide) rfl (fun ls hl => ?_)
  refine lv_iconst (v := nI 0) hx hb dX1_lineLength_2 (by decide) ?_
  refine lv_istore_n (lv' := [(3, .int (nI 0)), (2, .int (nI 0)), (0, .ref (a 0)), (1, .int (nI p))]) hx hb dX1_lineLength_3 rfl hl (by decide) rfl (fun ls hl => ?_)
  have loop_1 : ∀ (n_4 : Nat) (i : Nat), (i ≤ 80) → (80 - i) < n_4 →  ∀ x_2 : Int32, x_2 = nI (fa_cnt (fun t_ => hasT T p t_) i) → ∀ x_3 : Int32, x_3 = nI i → ∀ ls : Array Slot, lv_has ls 4 [(0, .ref (a 0)), (1, .int (nI p)), (2, .int x_2), (3, .int x_3)] → W pr l en (headSpec wsX1_lineLength ({ frames := 3, cells := 0, slots := 0, locals := 55 } : Room)).room st md ar bl mt co st.heap [] 0 0 (MQ bl (rdQ (.int (nI (lenT T p)))) ar st 0 0 (fun _ => False)) (F0 md 4 ls []) := by
    intro n_4
    induction n_4 with
    | zero => intro i _ hn_4; exact absurd hn_4 (Nat.not_lt_zero _)
    | succ n_4 ih_4 =>
      intro i hi hn_4 x_2 ex_2 x_3 ex_3 ls hl
      subst ex_2
      subst ex_3
      have hl : lv_has ls 4 [(0, .ref (a 0)), (1, .int (nI p)), (2, .int (nI (fa_cnt (fun t_ => hasT T p t_) i))), (3, .int (nI i))] := hl
      have hcl := fa_cnt_le (fun t_ => hasT T p t_) i
      refine lv_iload_n hx hb dX1_lineLength_4 rfl (lv_at hl 3 rfl) ?_
      refine lv_bipush (v := nI 80) hx hb dX1_lineLength_5 (by decide) ?_
      refine nv_icmp_ge (x := i) (y := 80) (tgt := 28) hx hb dX1_lineLength_7 (by decide) (by omega) (by decide) (fun c_2 => ?_) (fun c_2 => ?_)
      · have n_c_2 := Nat.not_lt.mpr c_2
        refine lv_iload_n hx hb dX1_lineLength_28 rfl (lv_at hl 2 rfl) ?_
        exact rd_iret hx hb hr hk dX1_lineLength_29 (by rw [show i = 80 from by omega]; rfl)
      · have n_c_2 := Nat.not_le.mpr c_2
        refine lv_aload_n hx hb dX1_lineLength_10 rfl (lv_at hl 0 rfl) ?_
        refine lv_iload_n hx hb dX1_lineLength_11 rfl (lv_at hl 1 rfl) ?_
        refine lv_iload_n hx hb dX1_lineLength_12 rfl (lv_at hl 3 rfl) ?_
        refine rd_V (rest := []) (ci := 1) (q0 := 0) ⟨hx, hb, hml, hown, hts⟩ hP hE (c_X1_hasTrack l D K _ _ _ p i hI (by omega) (by omega)) (cwV 2 hts gX1_lineLength_X1_hasTrack rfl rfl rfl hd_X1_hasTrack ⟨Nat.le_of_ble_eq_true rfl, Nat.le_of_ble_eq_true rfl⟩) rfl rfl rfl rfl hl.1 rfl (Nat.le_of_ble_eq_true rfl) dX1_lineLength_13 ⟨Nat.zero_le _, Nat.zero_le _⟩ ?_
        refine bv_if_eq (x := hasT T p i) (tgt := 22) hx hb dX1_lineLength_16 (by decide) (fun c_3 => ?_) (fun c_3 => ?_)
        · refine lv_iinc (v := nI (i + 1)) (lv' := [(3, .int (nI (i + 1))), (0, .ref (a 0)), (1, .int (nI p)), (2, .int (nI (fa_cnt (fun t_ => hasT T p t_) i)))]) hx hb dX1_lineLength_22 hl (k := 3) rfl (nI_add _ 1) (by decide) rfl (fun ls hl => ?_)
          refine lv_goto (tgt := 4) hx hb dX1_lineLength_25 (by decide) ?_
          exact ih_4 (i + 1) (by omega) (by omega) _ (by (rw [fa_cnt_no (by simp [onT, c_2, n_c_2, c_3])]) <;> rfl) _ rfl ls (lv_sub hl [1, 2, 3, 0] rfl)
        · refine lv_iinc (v := nI (fa_cnt (fun t_ => hasT T p t_) i + 1)) (lv' := [(2, .int (nI (fa_cnt (fun t_ => hasT T p t_) i + 1))), (0, .ref (a 0)), (1, .int (nI p)), (3, .int (nI i))]) hx hb dX1_lineLength_19 hl (k := 2) rfl (nI_add _ 1) (by decide) rfl (fun ls hl => ?_)
          refine lv_iinc (v := nI (i + 1)) (lv' := [(3, .int (nI (i + 1))), (2, .int (nI (fa_cnt (fun t_ => hasT T p t_) i + 1))), (0, .ref (a 0)), (1, .int (nI p))]) hx hb dX1_lineLength_22 hl (k := 3) rfl (nI_add _ 1) (by decide) rfl (fun ls hl => ?_)
          refine lv_goto (tgt := 4) hx hb dX1_lineLength_25 (by decide) ?_
          exact ih_4 (i + 1) (by omega) (by omega) _ (by (rw [fa_cnt_yes (by simp [onT, c_2, n_c_2, c_3])]) <;> rfl) _ rfl ls (lv_sub hl [2, 3, 1, 0] rfl)
  exact loop_1 _ 0 (by decide) (Nat.lt_succ_self _) _ rfl _ rfl ls (lv_sub hl [2, 3, 1, 0] rfl)
set_option maxHeartbeats 4000000 in
set_option maxRecDepth 100000 in
theorem c_X1_squaresOwned (l : Launch) (D : va_G) (K : Nat → ClassId) (a : Nat → Nat) (T : TW) (X : va_W) (p : Nat) (hI : Inv T) (hp : p < 4) : Rd l yX1_squaresOwned wsX1_squaresOwned ({ frames := 2, cells := 0, slots := 0, locals := 33 } : Room) D K (townW K a T ++ X) [.ref (a 0), .int (nI p)] (.int (nI (ownsT T p))) := by
  refine rd_intro (cc := cX1_squaresOwned) (maxL := 4) (ret := (some .int)) (by decide) rfl (Nat.le_of_ble_eq_true rfl) ?_
  intro pr en st md ar bl mt co hx hb hml hr hts hown hk hP hE ls hl
  have hown : st.vm.findClass RX1 = some md.cls := hown
  have hl : lv_has ls 4 [(0, .ref (a 0)), (1, .int (nI p))] := hl
  have F18 : (Cond.fieldLink RX1 18 "TramTolls$Town" "owners" "[I").before ar st = true := hts _ (List.mem_of_getElem? (i := 1) rfl)
  have inX1 : ∀ w ∈ u_ws RX1 TX1 12, w ∈ wsX1_squaresOwned := fun w h => List.mem_cons_of_mem _ (List.mem_append_right _ h)
  have IniX3 : (Cond.initialized RX3).before ar st = true := hts _ (List.mem_of_getElem? (i := 3) rfl)
  have Sta_X3_at : (Cond.static yX3_at).before ar st = true := hts _ (List.mem_of_getElem? (i := 2) rfl)
  refine lv_iconst (v := nI 0) hx hb dX1_squaresOwned_0 (by decide) ?_
  refine lv_istore_n (lv' := [(2, .int (nI 0)), (0, .ref (a 0)), (1, .int (nI p))]) hx hb dX1_squaresOwned_1 rfl hl (by decide) rfl (fun ls hl => ?_)
  refine lv_iconst (v := nI 0) hx hb dX1_squaresOwned_2 (by decide) ?_
  refine lv_istore_n (lv' := [(3, .int (nI 0)), (2, .int (nI 0)), (0, .ref (a 0)), (1, .int (nI p))]) hx hb dX1_squaresOwned_3 rfl hl (by decide) rfl (fun ls hl => ?_)
  have loop_1 : ∀ (n_4 : Nat) (i : Nat), (i ≤ 80) → (80 - i) < n_4 →  ∀ x_2 : Int32, x_2 = nI (fa_cnt (fun t_ => decide (owT T t_ = some p)) i) → ∀ x_3 : Int32, x_3 = nI i → ∀ ls : Array Slot, lv_has ls 4 [(0, .ref (a 0)), (1, .int (nI p)), (2, .int x_2), (3, .int x_3)] → W pr l en (headSpec wsX1_squaresOwned ({ frames := 2, cells := 0, slots := 0, locals := 33 } : Room)).room st md ar bl mt co st.heap [] 0 0 (MQ bl (rdQ (.int (nI (ownsT T p)))) ar st 0 0 (fun _ => False)) (F0 md 4 ls []) := by
    intro n_4
    induction n_4 with
    | zero => intro i _ hn_4; exact absurd hn_4 (Nat.not_lt_zero _)
    | succ n_4 ih_4 =>
      intro i hi hn_4 x_2 ex_2 x_3 ex_3 ls hl
      subst ex_2
      subst ex_3
      have hl : lv_has ls 4 [(0, .ref (a 0)), (1, .int (nI p)), (2, .int (nI (fa_cnt (fun t_ => decide (owT T t_ = some p)) i))), (3, .int (nI i))] := hl
      have hcl := fa_cnt_le (fun t_ => decide (owT T t_ = some p)) i
      refine lv_iload_n hx hb dX1_squaresOwned_4 rfl (lv_at hl 3 rfl) ?_
      refine lv_bipush (v := nI 80) hx hb dX1_squaresOwned_5 (by decide) ?_
      refine nv_icmp_ge (x := i) (y := 80) (tgt := 31) hx hb dX1_squaresOwned_7 (by decide) (by omega) (by decide) (fun c_2 => ?_) (fun c_2 => ?_)
      · have n_c_2 := Nat.not_lt.mpr c_2
        refine lv_iload_n hx hb dX1_squaresOwned_31 rfl (lv_at hl 2 rfl) ?_
        exact rd_iret hx hb hr hk dX1_squaresOwned_32 (by rw [show i = 80 from by omega]; rfl)
      · have n_c_2 := Nat.not_le.mpr c_2
        refine lv_aload_n hx hb dX1_squaresOwned_10 rfl (lv_at hl 0 rfl) ?_
        refine va_get (D := D) (ci := 1) (v := .ref (a 3)) (C := RX1) (T := TX1) (N := 12) hx hb hts inX1 hown hE.1 hP 0 rfl rfl 2 (by decide) F18 (fun _ h9 => h9) rfl dX1_squaresOwned_11 ?_
        refine lv_iload_n hx hb dX1_squaresOwned_14 rfl (lv_at hl 3 rfl) ?_
        refine rd_SN (rest := []) ⟨hx, hb, hml, hown, hts⟩ hP hE (c_X3_at l D K _ 3 _ 80 _ i rfl (by omega) (by omega)) (va_cnB (host := RX3) 2 hts gX1_squaresOwned_X3_at_n70 rfl rfl rfl hE.2.2.2.2.1 IniX3 hn_X3_at ⟨Nat.le_of_ble_eq_true rfl, Nat.le_of_ble_eq_true rfl⟩) Sta_X3_at rfl hl.1 rfl (Nat.le_of_ble_eq_true rfl) dX1_squaresOwned_15 ⟨Nat.zero_le _, Nat.zero_le _⟩ ?_
        refine top_i (y := oI (owT T i)) (show T 2 i = oI (owT T i) from eq_ow hI (by omega)) ?_
        refine lv_iload_n hx hb dX1_squaresOwned_18 rfl (lv_at hl 1 rfl) ?_
        refine oo_icmp_ne (x := owT T i) (y := some p) (tgt := 25) hx hb dX1_squaresOwned_19 (by decide) (lt31 (ow_lt hI (s := i) (by omega)) (by decide)) (fun k q => by cases q; exact (by omega)) (fun c_3 => ?_) (fun c_3 => ?_)
        · refine lv_iinc (v := nI (i + 1)) (lv' := [(3, .int (nI (i + 1))), (0, .ref (a 0)), (1, .int (nI p)), (2, .int (nI (fa_cnt (fun t_ => decide (owT T t_ = some p)) i)))]) hx hb dX1_squaresOwned_25 hl (k := 3) rfl (nI_add _ 1) (by decide) rfl (fun ls hl => ?_)
          refine lv_goto (tgt := 4) hx hb dX1_squaresOwned_28 (by decide) ?_
          exact ih_4 (i + 1) (by omega) (by omega) _ (by (rw [fa_cnt_no (by simp [onT, c_2, n_c_2, c_3])]) <;> rfl) _ rfl ls (lv_sub hl [1, 2, 3, 0] rfl)
        · refine lv_iinc (v := nI (fa_cnt (fun t_ => decide (owT T t_ = some p)) i + 1)) (lv' := [(2, .int (nI (fa_cnt (fun t_ => decide (owT T t_ = some p)) i + 1))), (0, .ref (a 0)), (1, .int (nI p)), (3, .int (nI i))]) hx hb dX1_squaresOwned_22 hl (k := 2) rfl (nI_add _ 1) (by decide) rfl (fun ls hl => ?_)
          refine lv_iinc (v := nI (i + 1)) (lv' := [(3, .int (nI (i + 1))), (2, .int (nI (fa_cnt (fun t_ => decide (owT T t_ = some p)) i + 1))), (0, .ref (a 0)), (1, .int (nI p))]) hx hb dX1_squaresOwned_25 hl (k := 3) rfl (nI_add _ 1) (by decide) rfl (fun ls hl => ?_)
          refine lv_goto (tgt := 4) hx hb dX1_squaresOwned_28 (by decide) ?_
          exact ih_4 (i + 1) (by omega) (by omega) _ (by (rw [fa_cnt_yes (by simp [onT, c_2, n_c_2, c_3])]) <;> rfl) _ rfl ls (lv_sub hl [2, 3, 1, 0] rfl)
  exact loop_1 _ 0 (by decide) (Nat.lt_succ_self _) _ rfl _ rfl ls (lv_sub hl [2, 3, 1, 0] rfl)
set_option maxHeartbeats 4000000 in
set_option maxRecDepth 100000 in
theorem c_X1_stopsOfLine (l : Launch) (D : va_G) (K : Nat → ClassId) (a : Nat → Nat) (T : TW) (X : va_W) (p : Nat) (hI : Inv T) (hp : p < 4) : Rd l yX1_stopsOfLine wsX1_stopsOfLine ({ frames := 2, cells := 0, slots := 0, locals := 33 } : Room) D K (townW K a T ++ X) [.ref (a 0), .int (nI p)] (.int (nI (slT T p))) := by
  refine rd_intro (cc := cX1_stopsOfLine) (maxL := 4) (ret := (some .int)) (by decide) rfl (Nat.le_of_ble_eq_true rfl) ?_
  intro pr en st md ar bl mt co hx hb hml hr hts hown hk hP hE ls hl
  have hown : st.vm.findClass RX1 = some md.cls := hown
  have hl : lv_has ls 4 [(0, .ref (a 0)), (1, .int (nI p))] := hl
  have F24 : (Cond.fieldLink RX1 24 "TramTolls$Town" "stopPlayers" "[I").before ar st = true := hts _ (List.mem_of_getElem? (i := 1) rfl)
  have inX1 : ∀ w ∈ u_ws RX1 TX1 12, w ∈ wsX1_stopsOfLine := fun w h => List.mem_cons_of_mem _ (List.mem_append_right _ h)
  have IniX3 : (Cond.initialized RX3).before ar st = true := hts _ (List.mem_of_getElem? (i := 3) rfl)
  have Sta_X3_at : (Cond.static yX3_at).before ar st = true := hts _ (List.mem_of_getElem? (i := 2) rfl)
  refine lv_iconst (v := nI 0) hx hb dX1_stopsOfLine_0 (by decide) ?_
  refine lv_istore_n (lv' := [(2, .int (nI 0)), (0, .ref (a 0)), (1, .int (nI p))]) hx hb dX1_stopsOfLine_1 rfl hl (by decide) rfl (fun ls hl => ?_)
  refine lv_iconst (v := nI 0) hx hb dX1_stopsOfLine_2 (by decide) ?_
  refine lv_istore_n (lv' := [(3, .int (nI 0)), (2, .int (nI 0)), (0, .ref (a 0)), (1, .int (nI p))]) hx hb dX1_stopsOfLine_3 rfl hl (by decide) rfl (fun ls hl => ?_)
  have loop_1 : ∀ (n_4 : Nat) (i : Nat), (i ≤ 12) → (12 - i) < n_4 →  ∀ x_2 : Int32, x_2 = nI (fa_cnt (fun t_ => decide (plT T t_ = some p)) i) → ∀ x_3 : Int32, x_3 = nI i → ∀ ls : Array Slot, lv_has ls 4 [(0, .ref (a 0)), (1, .int (nI p)), (2, .int x_2), (3, .int x_3)] → W pr l en (headSpec wsX1_stopsOfLine ({ frames := 2, cells := 0, slots := 0, locals := 33 } : Room)).room st md ar bl mt co st.heap [] 0 0 (MQ bl (rdQ (.int (nI (slT T p)))) ar st 0 0 (fun _ => False)) (F0 md 4 ls []) := by
    intro n_4
    induction n_4 with
    | zero => intro i _ hn_4; exact absurd hn_4 (Nat.not_lt_zero _)
    | succ n_4 ih_4 =>
      intro i hi hn_4 x_2 ex_2 x_3 ex_3 ls hl
      subst ex_2
      subst ex_3
      have hl : lv_has ls 4 [(0, .ref (a 0)), (1, .int (nI p)), (2, .int (nI (fa_cnt (fun t_ => decide (plT T t_ = some p)) i))), (3, .int (nI i))] := hl
      have hcl := fa_cnt_le (fun t_ => decide (plT T t_ = some p)) i
      refine lv_iload_n hx hb dX1_stopsOfLine_4 rfl (lv_at hl 3 rfl) ?_
      refine lv_bipush (v := nI 12) hx hb dX1_stopsOfLine_5 (by decide) ?_
      refine nv_icmp_ge (x := i) (y := 12) (tgt := 31) hx hb dX1_stopsOfLine_7 (by decide) (by omega) (by decide) (fun c_2 => ?_) (fun c_2 => ?_)
      · have n_c_2 := Nat.not_lt.mpr c_2
        refine lv_iload_n hx hb dX1_stopsOfLine_31 rfl (lv_at hl 2 rfl) ?_
        exact rd_iret hx hb hr hk dX1_stopsOfLine_32 (by rw [show i = 12 from by omega]; rfl)
      · have n_c_2 := Nat.not_le.mpr c_2
        refine lv_aload_n hx hb dX1_stopsOfLine_10 rfl (lv_at hl 0 rfl) ?_
        refine va_get (D := D) (ci := 1) (v := .ref (a 5)) (C := RX1) (T := TX1) (N := 12) hx hb hts inX1 hown hE.1 hP 0 rfl rfl 4 (by decide) F24 (fun _ h9 => h9) rfl dX1_stopsOfLine_11 ?_
        refine lv_iload_n hx hb dX1_stopsOfLine_14 rfl (lv_at hl 3 rfl) ?_
        refine rd_SN (rest := []) ⟨hx, hb, hml, hown, hts⟩ hP hE (c_X3_at l D K _ 5 _ 12 _ i rfl (by omega) (by omega)) (va_cnB (host := RX3) 2 hts gX1_stopsOfLine_X3_at_n70 rfl rfl rfl hE.2.2.2.2.1 IniX3 hn_X3_at ⟨Nat.le_of_ble_eq_true rfl, Nat.le_of_ble_eq_true rfl⟩) Sta_X3_at rfl hl.1 rfl (Nat.le_of_ble_eq_true rfl) dX1_stopsOfLine_15 ⟨Nat.zero_le _, Nat.zero_le _⟩ ?_
        refine top_i (y := oI (plT T i)) (show T 4 i = oI (plT T i) from eq_pl hI (by omega)) ?_
        refine lv_iload_n hx hb dX1_stopsOfLine_18 rfl (lv_at hl 1 rfl) ?_
        refine oo_icmp_ne (x := plT T i) (y := some p) (tgt := 25) hx hb dX1_stopsOfLine_19 (by decide) (lt31 (pl_lt hI (t := i) (by omega)) (by decide)) (fun k q => by cases q; exact (by omega)) (fun c_3 => ?_) (fun c_3 => ?_)
        · refine lv_iinc (v := nI (i + 1)) (lv' := [(3, .int (nI (i + 1))), (0, .ref (a 0)), (1, .int (nI p)), (2, .int (nI (fa_cnt (fun t_ => decide (plT T t_ = some p)) i)))]) hx hb dX1_stopsOfLine_25 hl (k := 3) rfl (nI_add _ 1) (by decide) rfl (fun ls hl => ?_)
          refine lv_goto (tgt := 4) hx hb dX1_stopsOfLine_28 (by decide) ?_
          exact ih_4 (i + 1) (by omega) (by omega) _ (by (rw [fa_cnt_no (by simp [onT, c_2, n_c_2, c_3])]) <;> rfl) _ rfl ls (lv_sub hl [1, 2, 3, 0] rfl)
        · refine lv_iinc (v := nI (fa_cnt (fun t_ => decide (plT T t_ = some p)) i + 1)) (lv' := [(2, .int (nI (fa_cnt (fun t_ => decide (plT T t_ = some p)) i + 1))), (0, .ref (a 0)), (1, .int (nI p)), (3, .int (nI i))]) hx hb dX1_stopsOfLine_22 hl (k := 2) rfl (nI_add _ 1) (by decide) rfl (fun ls hl => ?_)
          refine lv_iinc (v := nI (i + 1)) (lv' := [(3, .int (nI (i + 1))), (2, .int (nI (fa_cnt (fun t_ => decide (plT T t_ = some p)) i + 1))), (0, .ref (a 0)), (1, .int (nI p))]) hx hb dX1_stopsOfLine_25 hl (k := 3) rfl (nI_add _ 1) (by decide) rfl (fun ls hl => ?_)
          refine lv_goto (tgt := 4) hx hb dX1_stopsOfLine_28 (by decide) ?_
          exact ih_4 (i + 1) (by omega) (by omega) _ (by (rw [fa_cnt_yes (by simp [onT, c_2, n_c_2, c_3])]) <;> rfl) _ rfl ls (lv_sub hl [2, 3, 1, 0] rfl)
  exact loop_1 _ 0 (by decide) (Nat.lt_succ_self _) _ rfl _ rfl ls (lv_sub hl [2, 3, 1, 0] rfl)
set_option maxHeartbeats 4000000 in
set_option maxRecDepth 100000 in
theorem c_X1_stopsReached (l : Launch) (D : va_G) (K : Nat → ClassId) (a : Nat → Nat) (T : TW) (X : va_W) (p : Nat) (hI : Inv T) (hp : p < 4) : Rd l yX1_stopsReached wsX1_stopsReached ({ frames := 3, cells := 0, slots := 0, locals := 55 } : Room) D K (townW K a T ++ X) [.ref (a 0), .int (nI p)] (.int (nI (srT T p))) := by
  refine rd_intro (cc := cX1_stopsReached) (maxL := 4) (ret := (some .int)) (by decide) rfl (Nat.le_of_ble_eq_true rfl) ?_
  intro pr en st md ar bl mt co hx hb hml hr hts hown hk hP hE ls hl
  have hown : st.vm.findClass RX1 = some md.cls := hown
  have hl : lv_has ls 4 [(0, .ref (a 0)), (1, .int (nI p))] := hl
  have F24 : (Cond.fieldLink RX1 24 "TramTolls$Town" "stopPlayers" "[I").before ar st = true := hts _ (List.mem_of_getElem? (i := 1) rfl)
  have inX1 : ∀ w ∈ u_ws RX1 TX1 12, w ∈ wsX1_stopsReached := fun w h => List.mem_cons_of_mem _ (List.mem_append_right _ h)
  have IniX3 : (Cond.initialized RX3).before ar st = true := hts _ (List.mem_of_getElem? (i := 4) rfl)
  have Sta_X3_at : (Cond.static yX3_at).before ar st = true := hts _ (List.mem_of_getElem? (i := 3) rfl)
  have F21 : (Cond.fieldLink RX1 21 "TramTolls$Town" "stopSquares" "[I").before ar st = true := hts _ (List.mem_of_getElem? (i := 2) rfl)
  refine lv_iconst (v := nI 0) hx hb dX1_stopsReached_0 (by decide) ?_
  refine lv_istore_n (lv' := [(2, .int (nI 0)), (0, .ref (a 0)), (1, .int (nI p))]) hx hb dX1_stopsReached_1 rfl hl (by decide) rfl (fun ls hl => ?_)
  refine lv_iconst (v := nI 0) hx hb dX1_stopsReached_2 (by decide) ?_
  refine lv_istore_n (lv' := [(3, .int (nI 0)), (2, .int (nI 0)), (0, .ref (a 0)), (1, .int (nI p))]) hx hb dX1_stopsReached_3 rfl hl (by decide) rfl (fun ls hl => ?_)
  have loop_1 : ∀ (n_4 : Nat) (i : Nat), (i ≤ 12) → (12 - i) < n_4 →  ∀ x_2 : Int32, x_2 = nI (fa_cnt (fun t_ => decide (plT T t_ = some p) && onT T p t_) i) → ∀ x_3 : Int32, x_3 = nI i → ∀ ls : Array Slot, lv_has ls 4 [(0, .ref (a 0)), (1, .int (nI p)), (2, .int x_2), (3, .int x_3)] → W pr l en (headSpec wsX1_stopsReached ({ frames := 3, cells := 0, slots := 0, locals := 55 } : Room)).room st md ar bl mt co st.heap [] 0 0 (MQ bl (rdQ (.int (nI (srT T p)))) ar st 0 0 (fun _ => False)) (F0 md 4 ls []) := by
    intro n_4
    induction n_4 with
    | zero => intro i _ hn_4; exact absurd hn_4 (Nat.not_lt_zero _)
    | succ n_4 ih_4 =>
      intro i hi hn_4 x_2 ex_2 x_3 ex_3 ls hl
      subst ex_2
      subst ex_3
      have hl : lv_has ls 4 [(0, .ref (a 0)), (1, .int (nI p)), (2, .int (nI (fa_cnt (fun t_ => decide (plT T t_ = some p) && onT T p t_) i))), (3, .int (nI i))] := hl
      have hcl := fa_cnt_le (fun t_ => decide (plT T t_ = some p) && onT T p t_) i
      refine lv_iload_n hx hb dX1_stopsReached_4 rfl (lv_at hl 3 rfl) ?_
      refine lv_bipush (v := nI 12) hx hb dX1_stopsReached_5 (by decide) ?_
      refine nv_icmp_ge (x := i) (y := 12) (tgt := 47) hx hb dX1_stopsReached_7 (by decide) (by omega) (by decide) (fun c_2 => ?_) (fun c_2 => ?_)
      · have n_c_2 := Nat.not_lt.mpr c_2
        refine lv_iload_n hx hb dX1_stopsReached_47 rfl (lv_at hl 2 rfl) ?_
        exact rd_iret hx hb hr hk dX1_stopsReached_48 (by rw [show i = 12 from by omega]; rfl)
      · have n_c_2 := Nat.not_le.mpr c_2
        refine lv_aload_n hx hb dX1_stopsReached_10 rfl (lv_at hl 0 rfl) ?_
        refine va_get (D := D) (ci := 1) (v := .ref (a 5)) (C := RX1) (T := TX1) (N := 12) hx hb hts inX1 hown hE.1 hP 0 rfl rfl 4 (by decide) F24 (fun _ h9 => h9) rfl dX1_stopsReached_11 ?_
        refine lv_iload_n hx hb dX1_stopsReached_14 rfl (lv_at hl 3 rfl) ?_
        refine rd_SN (rest := []) ⟨hx, hb, hml, hown, hts⟩ hP hE (c_X3_at l D K _ 5 _ 12 _ i rfl (by omega) (by omega)) (va_cnB (host := RX3) 2 hts gX1_stopsReached_X3_at_n70 rfl rfl rfl hE.2.2.2.2.1 IniX3 hn_X3_at ⟨Nat.le_of_ble_eq_true rfl, Nat.le_of_ble_eq_true rfl⟩) Sta_X3_at rfl hl.1 rfl (Nat.le_of_ble_eq_true rfl) dX1_stopsReached_15 ⟨Nat.zero_le _, Nat.zero_le _⟩ ?_
        refine top_i (y := oI (plT T i)) (show T 4 i = oI (plT T i) from eq_pl hI (by omega)) ?_
        refine lv_iload_n hx hb dX1_stopsReached_18 rfl (lv_at hl 1 rfl) ?_
        refine oo_icmp_ne (x := plT T i) (y := some p) (tgt := 41) hx hb dX1_stopsReached_19 (by decide) (lt31 (pl_lt hI (t := i) (by omega)) (by decide)) (fun k q => by cases q; exact (by omega)) (fun c_3 => ?_) (fun c_3 => ?_)
        · refine lv_iinc (v := nI (i + 1)) (lv' := [(3, .int (nI (i + 1))), (0, .ref (a 0)), (1, .int (nI p)), (2, .int (nI (fa_cnt (fun t_ => decide (plT T t_ = some p) && onT T p t_) i)))]) hx hb dX1_stopsReached_41 hl (k := 3) rfl (nI_add _ 1) (by decide) rfl (fun ls hl => ?_)
          refine lv_goto (tgt := 4) hx hb dX1_stopsReached_44 (by decide) ?_
          exact ih_4 (i + 1) (by omega) (by omega) _ (by (rw [fa_cnt_no (by simp [onT, c_2, n_c_2, c_3])]) <;> rfl) _ rfl ls (lv_sub hl [1, 2, 3, 0] rfl)
        · obtain ⟨ks_4, hks_4⟩ := pl_sq hI (t := i) (by omega) c_3
          have hbks_4 := sq_lt hI (t := i) (by omega) ks_4 hks_4
          refine lv_aload_n hx hb dX1_stopsReached_22 rfl (lv_at hl 0 rfl) ?_
          refine lv_iload_n hx hb dX1_stopsReached_23 rfl (lv_at hl 1 rfl) ?_
          refine lv_aload_n hx hb dX1_stopsReached_24 rfl (lv_at hl 0 rfl) ?_
          refine va_get (D := D) (ci := 1) (v := .ref (a 4)) (C := RX1) (T := TX1) (N := 12) hx hb hts inX1 hown hE.1 hP 0 rfl rfl 3 (by decide) F21 (fun _ h9 => h9) rfl dX1_stopsReached_25 ?_
          refine lv_iload_n hx hb dX1_stopsReached_28 rfl (lv_at hl 3 rfl) ?_
          refine rd_SN (rest := [.int (nI p), .ref (a 0)]) ⟨hx, hb, hml, hown, hts⟩ hP hE (c_X3_at l D K _ 4 _ 12 _ i rfl (by omega) (by omega)) (va_cnB (host := RX3) 2 hts gX1_stopsReached_X3_at_n70 rfl rfl rfl hE.2.2.2.2.1 IniX3 hn_X3_at ⟨Nat.le_of_ble_eq_true rfl, Nat.le_of_ble_eq_true rfl⟩) Sta_X3_at rfl hl.1 rfl (Nat.le_of_ble_eq_true rfl) dX1_stopsReached_29 ⟨Nat.zero_le _, Nat.zero_le _⟩ ?_
          refine top_i (y := oI (sqT T i)) (show T 3 i = oI (sqT T i) from eq_sq hI (by omega)) ?_
          refine top_i (y := nI ks_4) (by rw [hks_4]; rfl) ?_
          refine rd_V (rest := []) (ci := 1) (q0 := 0) ⟨hx, hb, hml, hown, hts⟩ hP hE (c_X1_hasTrack l D K _ _ _ p ks_4 hI (by omega) (by omega)) (cwV 2 hts gX1_stopsReached_X1_hasTrack rfl rfl rfl hd_X1_hasTrack ⟨Nat.le_of_ble_eq_true rfl, Nat.le_of_ble_eq_true rfl⟩) rfl rfl rfl rfl hl.1 rfl (Nat.le_of_ble_eq_true rfl) dX1_stopsReached_32 ⟨Nat.zero_le _, Nat.zero_le _⟩ ?_
          refine bv_if_eq (x := hasT T p ks_4) (tgt := 41) hx hb dX1_stopsReached_35 (by decide) (fun c_5 => ?_) (fun c_5 => ?_)
          · refine lv_iinc (v := nI (i + 1)) (lv' := [(3, .int (nI (i + 1))), (0, .ref (a 0)), (1, .int (nI p)), (2, .int (nI (fa_cnt (fun t_ => decide (plT T t_ = some p) && onT T p t_) i)))]) hx hb dX1_stopsReached_41 hl (k := 3) rfl (nI_add _ 1) (by decide) rfl (fun ls hl => ?_)
            refine lv_goto (tgt := 4) hx hb dX1_stopsReached_44 (by decide) ?_
            exact ih_4 (i + 1) (by omega) (by omega) _ (by (rw [fa_cnt_no (by simp [onT, c_2, n_c_2, c_3, hks_4, c_5])]) <;> rfl) _ rfl ls (lv_sub hl [1, 2, 3, 0] rfl)
          · refine lv_iinc (v := nI (fa_cnt (fun t_ => decide (plT T t_ = some p) && onT T p t_) i + 1)) (lv' := [(2, .int (nI (fa_cnt (fun t_ => decide (plT T t_ = some p) && onT T p t_) i + 1))), (0, .ref (a 0)), (1, .int (nI p)), (3, .int (nI i))]) hx hb dX1_stopsReached_38 hl (k := 2) rfl (nI_add _ 1) (by decide) rfl (fun ls hl => ?_)
            refine lv_iinc (v := nI (i + 1)) (lv' := [(3, .int (nI (i + 1))), (2, .int (nI (fa_cnt (fun t_ => decide (plT T t_ = some p) && onT T p t_) i + 1))), (0, .ref (a 0)), (1, .int (nI p))]) hx hb dX1_stopsReached_41 hl (k := 3) rfl (nI_add _ 1) (by decide) rfl (fun ls hl => ?_)
            refine lv_goto (tgt := 4) hx hb dX1_stopsReached_44 (by decide) ?_
            exact ih_4 (i + 1) (by omega) (by omega) _ (by (rw [fa_cnt_yes (by simp [onT, c_2, n_c_2, c_3, hks_4, c_5])]) <;> rfl) _ rfl ls (lv_sub hl [2, 3, 1, 0] rfl)
  exact loop_1 _ 0 (by decide) (Nat.lt_succ_self _) _ rfl _ rfl ls (lv_sub hl [2, 3, 1, 0] rfl)
set_option maxHeartbeats 4000000 in
set_option maxRecDepth 100000 in
theorem c_X1_squaresWithTracks (l : Launch) (D : va_G) (K : Nat → ClassId) (a : Nat → Nat) (T : TW) (X : va_W) (m : Nat) (hI : Inv T) (hm : m < 3) : Rd l yX1_squaresWithTracks wsX1_squaresWithTracks ({ frames := 3, cells := 0, slots := 0, locals := 54 } : Room) D K (townW K a T ++ X) [.ref (a 0), .int (nI m)] (.int (nI (swT T m))) := by
  refine rd_intro (cc := cX1_squaresWithTracks) (maxL := 4) (ret := (some .int)) (by decide) rfl (Nat.le_of_ble_eq_true rfl) ?_
  intro pr en st md ar bl mt co hx hb hml hr hts hown hk hP hE ls hl
  have hown : st.vm.findClass RX1 = some md.cls := hown
  have hl : lv_has ls 4 [(0, .ref (a 0)), (1, .int (nI m))] := hl
  refine lv_iconst (v := nI 0) hx hb dX1_squaresWithTracks_0 (by decide) ?_
  refine lv_istore_n (lv' := [(2, .int (nI 0)), (0, .ref (a 0)), (1, .int (nI m))]) hx hb dX1_squaresWithTracks_1 rfl hl (by decide) rfl (fun ls hl => ?_)
  refine lv_iconst (v := nI 0) hx hb dX1_squaresWithTracks_2 (by decide) ?_
  refine lv_istore_n (lv' := [(3, .int (nI 0)), (2, .int (nI 0)), (0, .ref (a 0)), (1, .int (nI m))]) hx hb dX1_squaresWithTracks_3 rfl hl (by decide) rfl (fun ls hl => ?_)
  have loop_1 : ∀ (n_4 : Nat) (i : Nat), (i ≤ 80) → (80 - i) < n_4 →  ∀ x_2 : Int32, x_2 = nI (fa_cnt (fun t_ => decide (m ≤ trkT T t_)) i) → ∀ x_3 : Int32, x_3 = nI i → ∀ ls : Array Slot, lv_has ls 4 [(0, .ref (a 0)), (1, .int (nI m)), (2, .int x_2), (3, .int x_3)] → W pr l en (headSpec wsX1_squaresWithTracks ({ frames := 3, cells := 0, slots := 0, locals := 54 } : Room)).room st md ar bl mt co st.heap [] 0 0 (MQ bl (rdQ (.int (nI (swT T m)))) ar st 0 0 (fun _ => False)) (F0 md 4 ls []) := by
    intro n_4
    induction n_4 with
    | zero => intro i _ hn_4; exact absurd hn_4 (Nat.not_lt_zero _)
    | succ n_4 ih_4 =>
      intro i hi hn_4 x_2 ex_2 x_3 ex_3 ls hl
      subst ex_2
      subst ex_3
      have hl : lv_has ls 4 [(0, .ref (a 0)), (1, .int (nI m)), (2, .int (nI (fa_cnt (fun t_ => decide (m ≤ trkT T t_)) i))), (3, .int (nI i))] := hl
      have hcl := fa_cnt_le (fun t_ => decide (m ≤ trkT T t_)) i
      refine lv_iload_n hx hb dX1_squaresWithTracks_4 rfl (lv_at hl 3 rfl) ?_
      refine lv_bipush (v := nI 80) hx hb dX1_squaresWithTracks_5 (by decide) ?_
      refine nv_icmp_ge (x := i) (y := 80) (tgt := 28) hx hb dX1_squaresWithTracks_7 (by decide) (by omega) (by decide) (fun c_2 => ?_) (fun c_2 => ?_)
      · have n_c_2 := Nat.not_lt.mpr c_2
        refine lv_iload_n hx hb dX1_squaresWithTracks_28 rfl (lv_at hl 2 rfl) ?_
        exact rd_iret hx hb hr hk dX1_squaresWithTracks_29 (by rw [show i = 80 from by omega]; rfl)
      · have n_c_2 := Nat.not_le.mpr c_2
        refine lv_aload_n hx hb dX1_squaresWithTracks_10 rfl (lv_at hl 0 rfl) ?_
        refine lv_iload_n hx hb dX1_squaresWithTracks_11 rfl (lv_at hl 3 rfl) ?_
        refine rd_V (rest := []) (ci := 1) (q0 := 0) ⟨hx, hb, hml, hown, hts⟩ hP hE (c_X1_tracksOn l D K _ _ _ i hI (by omega)) (cwV 1 hts gX1_squaresWithTracks_X1_tracksOn rfl rfl rfl hd_X1_tracksOn ⟨Nat.le_of_ble_eq_true rfl, Nat.le_of_ble_eq_true rfl⟩) rfl rfl rfl rfl hl.1 rfl (Nat.le_of_ble_eq_true rfl) dX1_squaresWithTracks_12 ⟨Nat.zero_le _, Nat.zero_le _⟩ ?_
        have hb_3 := trk_lt T i
        refine lv_iload_n hx hb dX1_squaresWithTracks_15 rfl (lv_at hl 1 rfl) ?_
        refine nv_icmp_lt (x := trkT T i) (y := m) (tgt := 22) hx hb dX1_squaresWithTracks_16 (by decide) (by omega) (by omega) (fun c_4 => ?_) (fun c_4 => ?_)
        · have n_c_4 := Nat.not_le.mpr c_4
          refine lv_iinc (v := nI (i + 1)) (lv' := [(3, .int (nI (i + 1))), (0, .ref (a 0)), (1, .int (nI m)), (2, .int (nI (fa_cnt (fun t_ => decide (m ≤ trkT T t_)) i)))]) hx hb dX1_squaresWithTracks_22 hl (k := 3) rfl (nI_add _ 1) (by decide) rfl (fun ls hl => ?_)
          refine lv_goto (tgt := 4) hx hb dX1_squaresWithTracks_25 (by decide) ?_
          exact ih_4 (i + 1) (by omega) (by omega) _ (by (rw [fa_cnt_no (by simp [onT, c_2, n_c_2, c_4, n_c_4])]) <;> rfl) _ rfl ls (lv_sub hl [1, 2, 3, 0] rfl)
        · have n_c_4 := Nat.not_lt.mpr c_4
          refine lv_iinc (v := nI (fa_cnt (fun t_ => decide (m ≤ trkT T t_)) i + 1)) (lv' := [(2, .int (nI (fa_cnt (fun t_ => decide (m ≤ trkT T t_)) i + 1))), (0, .ref (a 0)), (1, .int (nI m)), (3, .int (nI i))]) hx hb dX1_squaresWithTracks_19 hl (k := 2) rfl (nI_add _ 1) (by decide) rfl (fun ls hl => ?_)
          refine lv_iinc (v := nI (i + 1)) (lv' := [(3, .int (nI (i + 1))), (2, .int (nI (fa_cnt (fun t_ => decide (m ≤ trkT T t_)) i + 1))), (0, .ref (a 0)), (1, .int (nI m))]) hx hb dX1_squaresWithTracks_22 hl (k := 3) rfl (nI_add _ 1) (by decide) rfl (fun ls hl => ?_)
          refine lv_goto (tgt := 4) hx hb dX1_squaresWithTracks_25 (by decide) ?_
          exact ih_4 (i + 1) (by omega) (by omega) _ (by (rw [fa_cnt_yes (by simp [onT, c_2, n_c_2, c_4, n_c_4])]) <;> rfl) _ rfl ls (lv_sub hl [2, 3, 1, 0] rfl)
  exact loop_1 _ 0 (by decide) (Nat.lt_succ_self _) _ rfl _ rfl ls (lv_sub hl [2, 3, 1, 0] rfl)
set_option maxHeartbeats 4000000 in
set_option maxRecDepth 100000 in
theorem c_X1_isThere (l : Launch) (D : va_G) (K : Nat → ClassId) (a : Nat → Nat) (T : TW) (X : va_W) (t : Nat) (hI : Inv T) (ht : t < 12) : Rd l yX1_isThere wsX1_isThere ({ frames := 2, cells := 0, slots := 0, locals := 33 } : Room) D K (townW K a T ++ X) [.ref (a 0), .int (nI t)] (.int (bI ((sqT T t).isSome))) := by
  refine rd_intro (cc := cX1_isThere) (maxL := 2) (ret := (some .boolean)) (by decide) rfl (Nat.le_of_ble_eq_true rfl) ?_
  intro pr en st md ar bl mt co hx hb hml hr hts hown hk hP hE ls hl
  have hown : st.vm.findClass RX1 = some md.cls := hown
  have hl : lv_has ls 2 [(0, .ref (a 0)), (1, .int (nI t))] := hl
  have F21 : (Cond.fieldLink RX1 21 "TramTolls$Town" "stopSquares" "[I").before ar st = true := hts _ (List.mem_of_getElem? (i := 1) rfl)
  have inX1 : ∀ w ∈ u_ws RX1 TX1 12, w ∈ wsX1_isThere := fun w h => List.mem_cons_of_mem _ (List.mem_append_right _ h)
  have IniX3 : (Cond.initialized RX3).before ar st = true := hts _ (List.mem_of_getElem? (i := 3) rfl)
  have Sta_X3_at : (Cond.static yX3_at).before ar st = true := hts _ (List.mem_of_getElem? (i := 2) rfl)
  refine lv_aload_n hx hb dX1_isThere_0 rfl (lv_at hl 0 rfl) ?_
  refine va_get (D := D) (ci := 1) (v := .ref (a 4)) (C := RX1) (T := TX1) (N := 12) hx hb hts inX1 hown hE.1 hP 0 rfl rfl 3 (by decide) F21 (fun _ h9 => h9) rfl dX1_isThere_1 ?_
  refine lv_iload_n hx hb dX1_isThere_4 rfl (lv_at hl 1 rfl) ?_
  refine rd_SN (rest := []) ⟨hx, hb, hml, hown, hts⟩ hP hE (c_X3_at l D K _ 4 _ 12 _ t rfl (by omega) (by omega)) (va_cnB (host := RX3) 2 hts gX1_isThere_X3_at_n70 rfl rfl rfl hE.2.2.2.2.1 IniX3 hn_X3_at ⟨Nat.le_of_ble_eq_true rfl, Nat.le_of_ble_eq_true rfl⟩) Sta_X3_at rfl hl.1 rfl (Nat.le_of_ble_eq_true rfl) dX1_isThere_5 ⟨Nat.zero_le _, Nat.zero_le _⟩ ?_
  refine top_i (y := oI (sqT T t)) (show T 3 t = oI (sqT T t) from eq_sq hI (by omega)) ?_
  refine lv_iconst (v := -1) hx hb dX1_isThere_8 (by decide) ?_
  refine ov_icmp_eq (tgt := 16) hx hb dX1_isThere_9 (by decide) (lt31 (sq_lt hI (t := t) (by omega)) (by decide)) (fun c_1 => ?_) (fun k_2 c_1 => ?_)
  · refine lv_iconst (v := nI 0) hx hb dX1_isThere_16 (by decide) ?_
    exact rd_zret hx hb hr hk dX1_isThere_17 (by simp [bI, nI_0, nI_one, c_1])
  · have hk_c_1 := (sq_lt hI (t := t) (by omega)) k_2 c_1
    refine lv_iconst (v := nI 1) hx hb dX1_isThere_12 (by decide) ?_
    refine lv_goto (tgt := 17) hx hb dX1_isThere_13 (by decide) ?_
    exact rd_zret hx hb hr hk dX1_isThere_17 (by simp [bI, nI_0, nI_one, c_1])
set_option maxHeartbeats 4000000 in
set_option maxRecDepth 100000 in
theorem c_X1_stopsThere (l : Launch) (D : va_G) (K : Nat → ClassId) (a : Nat → Nat) (T : TW) (X : va_W)  (hI : Inv T) : Rd l yX1_stopsThere wsX1_stopsThere ({ frames := 3, cells := 0, slots := 0, locals := 54 } : Room) D K (townW K a T ++ X) [.ref (a 0)] (.int (nI (stopsT T))) := by
  refine rd_intro (cc := cX1_stopsThere) (maxL := 3) (ret := (some .int)) (by decide) rfl (Nat.le_of_ble_eq_true rfl) ?_
  intro pr en st md ar bl mt co hx hb hml hr hts hown hk hP hE ls hl
  have hown : st.vm.findClass RX1 = some md.cls := hown
  have hl : lv_has ls 3 [(0, .ref (a 0))] := hl
  refine lv_iconst (v := nI 0) hx hb dX1_stopsThere_0 (by decide) ?_
  refine lv_istore_n (lv' := [(1, .int (nI 0)), (0, .ref (a 0))]) hx hb dX1_stopsThere_1 rfl hl (by decide) rfl (fun ls hl => ?_)
  refine lv_iconst (v := nI 0) hx hb dX1_stopsThere_2 (by decide) ?_
  refine lv_istore_n (lv' := [(2, .int (nI 0)), (1, .int (nI 0)), (0, .ref (a 0))]) hx hb dX1_stopsThere_3 rfl hl (by decide) rfl (fun ls hl => ?_)
  have loop_1 : ∀ (n_4 : Nat) (i : Nat), (i ≤ 12) → (12 - i) < n_4 →  ∀ x_1 : Int32, x_1 = nI (fa_cnt (fun t_ => (sqT T t_).isSome) i) → ∀ x_2 : Int32, x_2 = nI i → ∀ ls : Array Slot, lv_has ls 3 [(0, .ref (a 0)), (1, .int x_1), (2, .int x_2)] → W pr l en (headSpec wsX1_stopsThere ({ frames := 3, cells := 0, slots := 0, locals := 54 } : Room)).room st md ar bl mt co st.heap [] 0 0 (MQ bl (rdQ (.int (nI (stopsT T)))) ar st 0 0 (fun _ => False)) (F0 md 4 ls []) := by
    intro n_4
    induction n_4 with
    | zero => intro i _ hn_4; exact absurd hn_4 (Nat.not_lt_zero _)
    | succ n_4 ih_4 =>
      intro i hi hn_4 x_1 ex_1 x_2 ex_2 ls hl
      subst ex_1
      subst ex_2
      have hl : lv_has ls 3 [(0, .ref (a 0)), (1, .int (nI (fa_cnt (fun t_ => (sqT T t_).isSome) i))), (2, .int (nI i))] := hl
      have hcl := fa_cnt_le (fun t_ => (sqT T t_).isSome) i
      refine lv_iload_n hx hb dX1_stopsThere_4 rfl (lv_at hl 2 rfl) ?_
      refine lv_bipush (v := nI 12) hx hb dX1_stopsThere_5 (by decide) ?_
      refine nv_icmp_ge (x := i) (y := 12) (tgt := 27) hx hb dX1_stopsThere_7 (by decide) (by omega) (by decide) (fun c_2 => ?_) (fun c_2 => ?_)
      · have n_c_2 := Nat.not_lt.mpr c_2
        refine lv_iload_n hx hb dX1_stopsThere_27 rfl (lv_at hl 1 rfl) ?_
        exact rd_iret hx hb hr hk dX1_stopsThere_28 (by rw [show i = 12 from by omega]; rfl)
      · have n_c_2 := Nat.not_le.mpr c_2
        refine lv_aload_n hx hb dX1_stopsThere_10 rfl (lv_at hl 0 rfl) ?_
        refine lv_iload_n hx hb dX1_stopsThere_11 rfl (lv_at hl 2 rfl) ?_
        refine rd_V (rest := []) (ci := 1) (q0 := 0) ⟨hx, hb, hml, hown, hts⟩ hP hE (c_X1_isThere l D K _ _ _ i hI (by omega)) (cwV 1 hts gX1_stopsThere_X1_isThere rfl rfl rfl hd_X1_isThere ⟨Nat.le_of_ble_eq_true rfl, Nat.le_of_ble_eq_true rfl⟩) rfl rfl rfl rfl hl.1 rfl (Nat.le_of_ble_eq_true rfl) dX1_stopsThere_12 ⟨Nat.zero_le _, Nat.zero_le _⟩ ?_
        refine bv_if_eq (x := (sqT T i).isSome) (tgt := 21) hx hb dX1_stopsThere_15 (by decide) (fun c_3 => ?_) (fun c_3 => ?_)
        · refine lv_iinc (v := nI (i + 1)) (lv' := [(2, .int (nI (i + 1))), (0, .ref (a 0)), (1, .int (nI (fa_cnt (fun t_ => (sqT T t_).isSome) i)))]) hx hb dX1_stopsThere_21 hl (k := 2) rfl (nI_add _ 1) (by decide) rfl (fun ls hl => ?_)
          refine lv_goto (tgt := 4) hx hb dX1_stopsThere_24 (by decide) ?_
          exact ih_4 (i + 1) (by omega) (by omega) _ (by (rw [fa_cnt_no (by simp [onT, c_2, n_c_2, c_3])]) <;> rfl) _ rfl ls (lv_sub hl [1, 2, 0] rfl)
        · refine lv_iinc (v := nI (fa_cnt (fun t_ => (sqT T t_).isSome) i + 1)) (lv' := [(1, .int (nI (fa_cnt (fun t_ => (sqT T t_).isSome) i + 1))), (0, .ref (a 0)), (2, .int (nI i))]) hx hb dX1_stopsThere_18 hl (k := 1) rfl (nI_add _ 1) (by decide) rfl (fun ls hl => ?_)
          refine lv_iinc (v := nI (i + 1)) (lv' := [(2, .int (nI (i + 1))), (1, .int (nI (fa_cnt (fun t_ => (sqT T t_).isSome) i + 1))), (0, .ref (a 0))]) hx hb dX1_stopsThere_21 hl (k := 2) rfl (nI_add _ 1) (by decide) rfl (fun ls hl => ?_)
          refine lv_goto (tgt := 4) hx hb dX1_stopsThere_24 (by decide) ?_
          exact ih_4 (i + 1) (by omega) (by omega) _ (by (rw [fa_cnt_yes (by simp [onT, c_2, n_c_2, c_3])]) <;> rfl) _ rfl ls (lv_sub hl [2, 1, 0] rfl)
  exact loop_1 _ 0 (by decide) (Nat.lt_succ_self _) _ rfl _ rfl ls (lv_sub hl [2, 1, 0] rfl)
set_option maxHeartbeats 4000000 in
set_option maxRecDepth 100000 in
theorem c_X1_joinsStops (l : Launch) (D : va_G) (K : Nat → ClassId) (a : Nat → Nat) (T : TW) (X : va_W) (p : Nat) (hI : Inv T) (hp : p < 4) : Rd l yX1_joinsStops wsX1_joinsStops ({ frames := 4, cells := 0, slots := 0, locals := 78 } : Room) D K (townW K a T ++ X) [.ref (a 0), .int (nI p)] (.int (bI (joinT T p))) := by
  refine rd_intro (cc := cX1_joinsStops) (maxL := 2) (ret := (some .boolean)) (by decide) rfl (Nat.le_of_ble_eq_true rfl) ?_
  intro pr en st md ar bl mt co hx hb hml hr hts hown hk hP hE ls hl
  have hown : st.vm.findClass RX1 = some md.cls := hown
  have hl : lv_has ls 2 [(0, .ref (a 0)), (1, .int (nI p))] := hl
  refine lv_aload_n hx hb dX1_joinsStops_0 rfl (lv_at hl 0 rfl) ?_
  refine lv_iload_n hx hb dX1_joinsStops_1 rfl (lv_at hl 1 rfl) ?_
  refine rd_V (rest := []) (ci := 1) (q0 := 0) ⟨hx, hb, hml, hown, hts⟩ hP hE (c_X1_stopsReached l D K _ _ _ p hI (by omega)) (cwV 1 hts gX1_joinsStops_X1_stopsReached rfl rfl rfl hd_X1_stopsReached ⟨Nat.le_of_ble_eq_true rfl, Nat.le_of_ble_eq_true rfl⟩) rfl rfl rfl rfl hl.1 rfl (Nat.le_of_ble_eq_true rfl) dX1_joinsStops_2 ⟨Nat.zero_le _, Nat.zero_le _⟩ ?_
  have hb_1 := sr_le T p
  refine lv_aload_n hx hb dX1_joinsStops_5 rfl (lv_at hl 0 rfl) ?_
  refine lv_iload_n hx hb dX1_joinsStops_6 rfl (lv_at hl 1 rfl) ?_
  refine rd_V (rest := [.int (nI (srT T p))]) (ci := 1) (q0 := 0) ⟨hx, hb, hml, hown, hts⟩ hP hE (c_X1_stopsOfLine l D K _ _ _ p hI (by omega)) (cwV 1 hts gX1_joinsStops_X1_stopsOfLine rfl rfl rfl hd_X1_stopsOfLine ⟨Nat.le_of_ble_eq_true rfl, Nat.le_of_ble_eq_true rfl⟩) rfl rfl rfl rfl hl.1 rfl (Nat.le_of_ble_eq_true rfl) dX1_joinsStops_7 ⟨Nat.zero_le _, Nat.zero_le _⟩ ?_
  have hb_2 := sl_le T p
  refine nv_icmp_ne (x := srT T p) (y := slT T p) (tgt := 17) hx hb dX1_joinsStops_10 (by decide) (by omega) (by omega) (fun c_3 => ?_) (fun c_3 => ?_)
  · refine lv_iconst (v := nI 0) hx hb dX1_joinsStops_17 (by decide) ?_
    exact rd_zret hx hb hr hk dX1_joinsStops_18 (by simp [joinT, bI, nI_0, nI_one, c_3])
  · refine lv_iconst (v := nI 1) hx hb dX1_joinsStops_13 (by decide) ?_
    refine lv_goto (tgt := 18) hx hb dX1_joinsStops_14 (by decide) ?_
    exact rd_zret hx hb hr hk dX1_joinsStops_18 (by simp [joinT, bI, nI_0, nI_one, c_3])
set_option maxHeartbeats 4000000 in
set_option maxRecDepth 100000 in
theorem c_X1_linesThatJoin (l : Launch) (D : va_G) (K : Nat → ClassId) (a : Nat → Nat) (T : TW) (X : va_W)  (hI : Inv T) : Rd l yX1_linesThatJoin wsX1_linesThatJoin ({ frames := 5, cells := 0, slots := 0, locals := 99 } : Room) D K (townW K a T ++ X) [.ref (a 0)] (.int (nI (ljT T))) := by
  refine rd_intro (cc := cX1_linesThatJoin) (maxL := 3) (ret := (some .int)) (by decide) rfl (Nat.le_of_ble_eq_true rfl) ?_
  intro pr en st md ar bl mt co hx hb hml hr hts hown hk hP hE ls hl
  have hown : st.vm.findClass RX1 = some md.cls := hown
  have hl : lv_has ls 3 [(0, .ref (a 0))] := hl
  refine lv_iconst (v := nI 0) hx hb dX1_linesThatJoin_0 (by decide) ?_
  refine lv_istore_n (lv' := [(1, .int (nI 0)), (0, .ref (a 0))]) hx hb dX1_linesThatJoin_1 rfl hl (by decide) rfl (fun ls hl => ?_)
  refine lv_iconst (v := nI 0) hx hb dX1_linesThatJoin_2 (by decide) ?_
  refine lv_istore_n (lv' := [(2, .int (nI 0)), (1, .int (nI 0)), (0, .ref (a 0))]) hx hb dX1_linesThatJoin_3 rfl hl (by decide) rfl (fun ls hl => ?_)
  have loop_1 : ∀ (n_4 : Nat) (i : Nat), (i ≤ 4) → (4 - i) < n_4 →  ∀ x_1 : Int32, x_1 = nI (fa_cnt (fun t_ => joinT T t_) i) → ∀ x_2 : Int32, x_2 = nI i → ∀ ls : Array Slot, lv_has ls 3 [(0, .ref (a 0)), (1, .int x_1), (2, .int x_2)] → W pr l en (headSpec wsX1_linesThatJoin ({ frames := 5, cells := 0, slots := 0, locals := 99 } : Room)).room st md ar bl mt co st.heap [] 0 0 (MQ bl (rdQ (.int (nI (ljT T)))) ar st 0 0 (fun _ => False)) (F0 md 4 ls []) := by
    intro n_4
    induction n_4 with
    | zero => intro i _ hn_4; exact absurd hn_4 (Nat.not_lt_zero _)
    | succ n_4 ih_4 =>
      intro i hi hn_4 x_1 ex_1 x_2 ex_2 ls hl
      subst ex_1
      subst ex_2
      have hl : lv_has ls 3 [(0, .ref (a 0)), (1, .int (nI (fa_cnt (fun t_ => joinT T t_) i))), (2, .int (nI i))] := hl
      have hcl := fa_cnt_le (fun t_ => joinT T t_) i
      refine lv_iload_n hx hb dX1_linesThatJoin_4 rfl (lv_at hl 2 rfl) ?_
      refine lv_iconst (v := nI 4) hx hb dX1_linesThatJoin_5 (by decide) ?_
      refine nv_icmp_ge (x := i) (y := 4) (tgt := 26) hx hb dX1_linesThatJoin_6 (by decide) (by omega) (by decide) (fun c_2 => ?_) (fun c_2 => ?_)
      · have n_c_2 := Nat.not_lt.mpr c_2
        refine lv_iload_n hx hb dX1_linesThatJoin_26 rfl (lv_at hl 1 rfl) ?_
        exact rd_iret hx hb hr hk dX1_linesThatJoin_27 (by rw [show i = 4 from by omega]; rfl)
      · have n_c_2 := Nat.not_le.mpr c_2
        refine lv_aload_n hx hb dX1_linesThatJoin_9 rfl (lv_at hl 0 rfl) ?_
        refine lv_iload_n hx hb dX1_linesThatJoin_10 rfl (lv_at hl 2 rfl) ?_
        refine rd_V (rest := []) (ci := 1) (q0 := 0) ⟨hx, hb, hml, hown, hts⟩ hP hE (c_X1_joinsStops l D K _ _ _ i hI (by omega)) (cwV 1 hts gX1_linesThatJoin_X1_joinsStops rfl rfl rfl hd_X1_joinsStops ⟨Nat.le_of_ble_eq_true rfl, Nat.le_of_ble_eq_true rfl⟩) rfl rfl rfl rfl hl.1 rfl (Nat.le_of_ble_eq_true rfl) dX1_linesThatJoin_11 ⟨Nat.zero_le _, Nat.zero_le _⟩ ?_
        refine bv_if_eq (x := joinT T i) (tgt := 20) hx hb dX1_linesThatJoin_14 (by decide) (fun c_3 => ?_) (fun c_3 => ?_)
        · refine lv_iinc (v := nI (i + 1)) (lv' := [(2, .int (nI (i + 1))), (0, .ref (a 0)), (1, .int (nI (fa_cnt (fun t_ => joinT T t_) i)))]) hx hb dX1_linesThatJoin_20 hl (k := 2) rfl (nI_add _ 1) (by decide) rfl (fun ls hl => ?_)
          refine lv_goto (tgt := 4) hx hb dX1_linesThatJoin_23 (by decide) ?_
          exact ih_4 (i + 1) (by omega) (by omega) _ (by (rw [fa_cnt_no (by simp [onT, c_2, n_c_2, c_3])]) <;> rfl) _ rfl ls (lv_sub hl [1, 2, 0] rfl)
        · refine lv_iinc (v := nI (fa_cnt (fun t_ => joinT T t_) i + 1)) (lv' := [(1, .int (nI (fa_cnt (fun t_ => joinT T t_) i + 1))), (0, .ref (a 0)), (2, .int (nI i))]) hx hb dX1_linesThatJoin_17 hl (k := 1) rfl (nI_add _ 1) (by decide) rfl (fun ls hl => ?_)
          refine lv_iinc (v := nI (i + 1)) (lv' := [(2, .int (nI (i + 1))), (1, .int (nI (fa_cnt (fun t_ => joinT T t_) i + 1))), (0, .ref (a 0))]) hx hb dX1_linesThatJoin_20 hl (k := 2) rfl (nI_add _ 1) (by decide) rfl (fun ls hl => ?_)
          refine lv_goto (tgt := 4) hx hb dX1_linesThatJoin_23 (by decide) ?_
          exact ih_4 (i + 1) (by omega) (by omega) _ (by (rw [fa_cnt_yes (by simp [onT, c_2, n_c_2, c_3])]) <;> rfl) _ rfl ls (lv_sub hl [2, 1, 0] rfl)
  exact loop_1 _ 0 (by decide) (Nat.lt_succ_self _) _ rfl _ rfl ls (lv_sub hl [2, 1, 0] rfl)
set_option maxHeartbeats 4000000 in
set_option maxRecDepth 100000 in
theorem c_X1_isReached (l : Launch) (D : va_G) (K : Nat → ClassId) (a : Nat → Nat) (T : TW) (X : va_W) (t p s : Nat) (hI : Inv T) (ht : t < 12) (hpl : plT T t = some p) (hsq : sqT T t = some s) : Rd l yX1_isReached wsX1_isReached ({ frames := 3, cells := 0, slots := 0, locals := 55 } : Room) D K (townW K a T ++ X) [.ref (a 0), .int (nI t)] (.int (bI (hasT T p s))) := by
  refine rd_intro (cc := cX1_isReached) (maxL := 2) (ret := (some .boolean)) (by decide) rfl (Nat.le_of_ble_eq_true rfl) ?_
  intro pr en st md ar bl mt co hx hb hml hr hts hown hk hP hE ls hl
  have hown : st.vm.findClass RX1 = some md.cls := hown
  have hl : lv_has ls 2 [(0, .ref (a 0)), (1, .int (nI t))] := hl
  have hp4 := pl_lt hI ht p hpl
  have hs80 := sq_lt hI ht s hsq
  have F24 : (Cond.fieldLink RX1 24 "TramTolls$Town" "stopPlayers" "[I").before ar st = true := hts _ (List.mem_of_getElem? (i := 1) rfl)
  have inX1 : ∀ w ∈ u_ws RX1 TX1 12, w ∈ wsX1_isReached := fun w h => List.mem_cons_of_mem _ (List.mem_append_right _ h)
  have IniX3 : (Cond.initialized RX3).before ar st = true := hts _ (List.mem_of_getElem? (i := 4) rfl)
  have Sta_X3_at : (Cond.static yX3_at).before ar st = true := hts _ (List.mem_of_getElem? (i := 3) rfl)
  have F21 : (Cond.fieldLink RX1 21 "TramTolls$Town" "stopSquares" "[I").before ar st = true := hts _ (List.mem_of_getElem? (i := 2) rfl)
  refine lv_aload_n hx hb dX1_isReached_0 rfl (lv_at hl 0 rfl) ?_
  refine lv_aload_n hx hb dX1_isReached_1 rfl (lv_at hl 0 rfl) ?_
  refine va_get (D := D) (ci := 1) (v := .ref (a 5)) (C := RX1) (T := TX1) (N := 12) hx hb hts inX1 hown hE.1 hP 0 rfl rfl 4 (by decide) F24 (fun _ h9 => h9) rfl dX1_isReached_2 ?_
  refine lv_iload_n hx hb dX1_isReached_5 rfl (lv_at hl 1 rfl) ?_
  refine rd_SN (rest := [.ref (a 0)]) ⟨hx, hb, hml, hown, hts⟩ hP hE (c_X3_at l D K _ 5 _ 12 _ t rfl (by omega) (by omega)) (va_cnB (host := RX3) 2 hts gX1_isReached_X3_at_n70 rfl rfl rfl hE.2.2.2.2.1 IniX3 hn_X3_at ⟨Nat.le_of_ble_eq_true rfl, Nat.le_of_ble_eq_true rfl⟩) Sta_X3_at rfl hl.1 rfl (Nat.le_of_ble_eq_true rfl) dX1_isReached_6 ⟨Nat.zero_le _, Nat.zero_le _⟩ ?_
  refine top_i (y := oI (plT T t)) (show T 4 t = oI (plT T t) from eq_pl hI (by omega)) ?_
  refine top_i (y := nI p) (by rw [hpl]; rfl) ?_
  refine lv_aload_n hx hb dX1_isReached_9 rfl (lv_at hl 0 rfl) ?_
  refine va_get (D := D) (ci := 1) (v := .ref (a 4)) (C := RX1) (T := TX1) (N := 12) hx hb hts inX1 hown hE.1 hP 0 rfl rfl 3 (by decide) F21 (fun _ h9 => h9) rfl dX1_isReached_10 ?_
  refine lv_iload_n hx hb dX1_isReached_13 rfl (lv_at hl 1 rfl) ?_
  refine rd_SN (rest := [.int (nI p), .ref (a 0)]) ⟨hx, hb, hml, hown, hts⟩ hP hE (c_X3_at l D K _ 4 _ 12 _ t rfl (by omega) (by omega)) (va_cnB (host := RX3) 2 hts gX1_isReached_X3_at_n70 rfl rfl rfl hE.2.2.2.2.1 IniX3 hn_X3_at ⟨Nat.le_of_ble_eq_true rfl, Nat.le_of_ble_eq_true rfl⟩) Sta_X3_at rfl hl.1 rfl (Nat.le_of_ble_eq_true rfl) dX1_isReached_14 ⟨Nat.zero_le _, Nat.zero_le _⟩ ?_
  refine top_i (y := oI (sqT T t)) (show T 3 t = oI (sqT T t) from eq_sq hI (by omega)) ?_
  refine top_i (y := nI s) (by rw [hsq]; rfl) ?_
  refine rd_V (rest := []) (ci := 1) (q0 := 0) ⟨hx, hb, hml, hown, hts⟩ hP hE (c_X1_hasTrack l D K _ _ _ p s hI (by omega) (by omega)) (cwV 2 hts gX1_isReached_X1_hasTrack rfl rfl rfl hd_X1_hasTrack ⟨Nat.le_of_ble_eq_true rfl, Nat.le_of_ble_eq_true rfl⟩) rfl rfl rfl rfl hl.1 rfl (Nat.le_of_ble_eq_true rfl) dX1_isReached_17 ⟨Nat.zero_le _, Nat.zero_le _⟩ ?_
  exact rd_zret hx hb hr hk dX1_isReached_20 (rfl)
set_option maxHeartbeats 4000000 in
set_option maxRecDepth 100000 in
theorem c_X1_isMissing (l : Launch) (D : va_G) (K : Nat → ClassId) (a : Nat → Nat) (T : TW) (X : va_W) (t p : Nat) (hI : Inv T) (ht : t < 12) (hp : p < 4) : Rd l yX1_isMissing wsX1_isMissing ({ frames := 3, cells := 0, slots := 0, locals := 55 } : Room) D K (townW K a T ++ X) [.ref (a 0), .int (nI t), .int (nI p)] (.int (bI (missT T p t))) := by
  refine rd_intro (cc := cX1_isMissing) (maxL := 3) (ret := (some .boolean)) (by decide) rfl (Nat.le_of_ble_eq_true rfl) ?_
  intro pr en st md ar bl mt co hx hb hml hr hts hown hk hP hE ls hl
  have hown : st.vm.findClass RX1 = some md.cls := hown
  have hl : lv_has ls 3 [(0, .ref (a 0)), (1, .int (nI t)), (2, .int (nI p))] := hl
  have F24 : (Cond.fieldLink RX1 24 "TramTolls$Town" "stopPlayers" "[I").before ar st = true := hts _ (List.mem_of_getElem? (i := 1) rfl)
  have inX1 : ∀ w ∈ u_ws RX1 TX1 12, w ∈ wsX1_isMissing := fun w h => List.mem_cons_of_mem _ (List.mem_append_right _ h)
  have IniX3 : (Cond.initialized RX3).before ar st = true := hts _ (List.mem_of_getElem? (i := 4) rfl)
  have Sta_X3_at : (Cond.static yX3_at).before ar st = true := hts _ (List.mem_of_getElem? (i := 3) rfl)
  have F21 : (Cond.fieldLink RX1 21 "TramTolls$Town" "stopSquares" "[I").before ar st = true := hts _ (List.mem_of_getElem? (i := 2) rfl)
  refine lv_aload_n hx hb dX1_isMissing_0 rfl (lv_at hl 0 rfl) ?_
  refine va_get (D := D) (ci := 1) (v := .ref (a 5)) (C := RX1) (T := TX1) (N := 12) hx hb hts inX1 hown hE.1 hP 0 rfl rfl 4 (by decide) F24 (fun _ h9 => h9) rfl dX1_isMissing_1 ?_
  refine lv_iload_n hx hb dX1_isMissing_4 rfl (lv_at hl 1 rfl) ?_
  refine rd_SN (rest := []) ⟨hx, hb, hml, hown, hts⟩ hP hE (c_X3_at l D K _ 5 _ 12 _ t rfl (by omega) (by omega)) (va_cnB (host := RX3) 2 hts gX1_isMissing_X3_at_n70 rfl rfl rfl hE.2.2.2.2.1 IniX3 hn_X3_at ⟨Nat.le_of_ble_eq_true rfl, Nat.le_of_ble_eq_true rfl⟩) Sta_X3_at rfl hl.1 rfl (Nat.le_of_ble_eq_true rfl) dX1_isMissing_5 ⟨Nat.zero_le _, Nat.zero_le _⟩ ?_
  refine top_i (y := oI (plT T t)) (show T 4 t = oI (plT T t) from eq_pl hI (by omega)) ?_
  refine lv_iload_n hx hb dX1_isMissing_8 rfl (lv_at hl 2 rfl) ?_
  refine oo_icmp_ne (x := plT T t) (y := some p) (tgt := 32) hx hb dX1_isMissing_9 (by decide) (lt31 (pl_lt hI (t := t) (by omega)) (by decide)) (fun k q => by cases q; exact (by omega)) (fun c_1 => ?_) (fun c_1 => ?_)
  · refine lv_iconst (v := nI 0) hx hb dX1_isMissing_32 (by decide) ?_
    exact rd_zret hx hb hr hk dX1_isMissing_33 (by simp [missT, onT, bI, nI_0, nI_one, c_1])
  · obtain ⟨ks_2, hks_2⟩ := pl_sq hI (t := t) (by omega) c_1
    have hbks_2 := sq_lt hI (t := t) (by omega) ks_2 hks_2
    refine lv_aload_n hx hb dX1_isMissing_12 rfl (lv_at hl 0 rfl) ?_
    refine lv_iload_n hx hb dX1_isMissing_13 rfl (lv_at hl 2 rfl) ?_
    refine lv_aload_n hx hb dX1_isMissing_14 rfl (lv_at hl 0 rfl) ?_
    refine va_get (D := D) (ci := 1) (v := .ref (a 4)) (C := RX1) (T := TX1) (N := 12) hx hb hts inX1 hown hE.1 hP 0 rfl rfl 3 (by decide) F21 (fun _ h9 => h9) rfl dX1_isMissing_15 ?_
    refine lv_iload_n hx hb dX1_isMissing_18 rfl (lv_at hl 1 rfl) ?_
    refine rd_SN (rest := [.int (nI p), .ref (a 0)]) ⟨hx, hb, hml, hown, hts⟩ hP hE (c_X3_at l D K _ 4 _ 12 _ t rfl (by omega) (by omega)) (va_cnB (host := RX3) 2 hts gX1_isMissing_X3_at_n70 rfl rfl rfl hE.2.2.2.2.1 IniX3 hn_X3_at ⟨Nat.le_of_ble_eq_true rfl, Nat.le_of_ble_eq_true rfl⟩) Sta_X3_at rfl hl.1 rfl (Nat.le_of_ble_eq_true rfl) dX1_isMissing_19 ⟨Nat.zero_le _, Nat.zero_le _⟩ ?_
    refine top_i (y := oI (sqT T t)) (show T 3 t = oI (sqT T t) from eq_sq hI (by omega)) ?_
    refine top_i (y := nI ks_2) (by rw [hks_2]; rfl) ?_
    refine rd_V (rest := []) (ci := 1) (q0 := 0) ⟨hx, hb, hml, hown, hts⟩ hP hE (c_X1_hasTrack l D K _ _ _ p ks_2 hI (by omega) (by omega)) (cwV 2 hts gX1_isMissing_X1_hasTrack rfl rfl rfl hd_X1_hasTrack ⟨Nat.le_of_ble_eq_true rfl, Nat.le_of_ble_eq_true rfl⟩) rfl rfl rfl rfl hl.1 rfl (Nat.le_of_ble_eq_true rfl) dX1_isMissing_22 ⟨Nat.zero_le _, Nat.zero_le _⟩ ?_
    refine bv_if_ne (x := hasT T p ks_2) (tgt := 32) hx hb dX1_isMissing_25 (by decide) (fun c_3 => ?_) (fun c_3 => ?_)
    · refine lv_iconst (v := nI 0) hx hb dX1_isMissing_32 (by decide) ?_
      exact rd_zret hx hb hr hk dX1_isMissing_33 (by simp [missT, onT, bI, nI_0, nI_one, c_1, hks_2, c_3])
    · refine lv_iconst (v := nI 1) hx hb dX1_isMissing_28 (by decide) ?_
      refine lv_goto (tgt := 33) hx hb dX1_isMissing_29 (by decide) ?_
      exact rd_zret hx hb hr hk dX1_isMissing_33 (by simp [missT, onT, bI, nI_0, nI_one, c_1, hks_2, c_3])
set_option maxHeartbeats 4000000 in
set_option maxRecDepth 100000 in
theorem c_X1_lowestStopOn (l : Launch) (D : va_G) (K : Nat → ClassId) (a : Nat → Nat) (T : TW) (X : va_W) (q : Option Nat) (hI : Inv T) (hq : ∀ k, q = some k → k < 80) : Rd l yX1_lowestStopOn wsX1_lowestStopOn ({ frames := 2, cells := 0, slots := 0, locals := 33 } : Room) D K (townW K a T ++ X) [.ref (a 0), .int (oI q)] (.int (oI (lowT T q))) := by
  refine rd_intro (cc := cX1_lowestStopOn) (maxL := 3) (ret := (some .int)) (by decide) rfl (Nat.le_of_ble_eq_true rfl) ?_
  intro pr en st md ar bl mt co hx hb hml hr hts hown hk hP hE ls hl
  have hown : st.vm.findClass RX1 = some md.cls := hown
  have hl : lv_has ls 3 [(0, .ref (a 0)), (1, .int (oI q))] := hl
  have F21 : (Cond.fieldLink RX1 21 "TramTolls$Town" "stopSquares" "[I").before ar st = true := hts _ (List.mem_of_getElem? (i := 1) rfl)
  have inX1 : ∀ w ∈ u_ws RX1 TX1 12, w ∈ wsX1_lowestStopOn := fun w h => List.mem_cons_of_mem _ (List.mem_append_right _ h)
  have IniX3 : (Cond.initialized RX3).before ar st = true := hts _ (List.mem_of_getElem? (i := 3) rfl)
  have Sta_X3_at : (Cond.static yX3_at).before ar st = true := hts _ (List.mem_of_getElem? (i := 2) rfl)
  refine lv_iconst (v := nI 0) hx hb dX1_lowestStopOn_0 (by decide) ?_
  refine lv_istore_n (lv' := [(2, .int (nI 0)), (0, .ref (a 0)), (1, .int (oI q))]) hx hb dX1_lowestStopOn_1 rfl hl (by decide) rfl (fun ls hl => ?_)
  have loop_1 : ∀ (n_2 : Nat) (i : Nat), (i ≤ 12) → (ff (fun t_ => decide (sqT T t_ = q)) 0 12 = ff (fun t_ => decide (sqT T t_ = q)) i (12 - i)) → (12 - i) < n_2 →  ∀ x_2 : Int32, x_2 = nI i → ∀ ls : Array Slot, lv_has ls 3 [(0, .ref (a 0)), (1, .int (oI q)), (2, .int x_2)] → W pr l en (headSpec wsX1_lowestStopOn ({ frames := 2, cells := 0, slots := 0, locals := 33 } : Room)).room st md ar bl mt co st.heap [] 0 0 (MQ bl (rdQ (.int (oI (lowT T q)))) ar st 0 0 (fun _ => False)) (F0 md 2 ls []) := by
    intro n_2
    induction n_2 with
    | zero => intro i _ _ hn_2; exact absurd hn_2 (Nat.not_lt_zero _)
    | succ n_2 ih_2 =>
      intro i hi hff hn_2 x_2 ex_2 ls hl
      subst ex_2
      have hl : lv_has ls 3 [(0, .ref (a 0)), (1, .int (oI q)), (2, .int (nI i))] := hl
      refine lv_iload_n hx hb dX1_lowestStopOn_2 rfl (lv_at hl 2 rfl) ?_
      refine lv_bipush (v := nI 12) hx hb dX1_lowestStopOn_3 (by decide) ?_
      refine nv_icmp_ge (x := i) (y := 12) (tgt := 28) hx hb dX1_lowestStopOn_5 (by decide) (by omega) (by decide) (fun c_2 => ?_) (fun c_2 => ?_)
      · have n_c_2 := Nat.not_lt.mpr c_2
        refine lv_iconst (v := -1) hx hb dX1_lowestStopOn_28 (by decide) ?_
        exact rd_iret hx hb hr hk dX1_lowestStopOn_29 (by rw [lowT, hff, show 12 - i = 0 from by omega]; rfl)
      · have n_c_2 := Nat.not_le.mpr c_2
        refine lv_aload_n hx hb dX1_lowestStopOn_8 rfl (lv_at hl 0 rfl) ?_
        refine va_get (D := D) (ci := 1) (v := .ref (a 4)) (C := RX1) (T := TX1) (N := 12) hx hb hts inX1 hown hE.1 hP 0 rfl rfl 3 (by decide) F21 (fun _ h9 => h9) rfl dX1_lowestStopOn_9 ?_
        refine lv_iload_n hx hb dX1_lowestStopOn_12 rfl (lv_at hl 2 rfl) ?_
        refine rd_SN (rest := []) ⟨hx, hb, hml, hown, hts⟩ hP hE (c_X3_at l D K _ 4 _ 12 _ i rfl (by omega) (by omega)) (va_cnB (host := RX3) 2 hts gX1_lowestStopOn_X3_at_n70 rfl rfl rfl hE.2.2.2.2.1 IniX3 hn_X3_at ⟨Nat.le_of_ble_eq_true rfl, Nat.le_of_ble_eq_true rfl⟩) Sta_X3_at rfl hl.1 rfl (Nat.le_of_ble_eq_true rfl) dX1_lowestStopOn_13 ⟨Nat.zero_le _, Nat.zero_le _⟩ ?_
        refine top_i (y := oI (sqT T i)) (show T 3 i = oI (sqT T i) from eq_sq hI (by omega)) ?_
        refine lv_iload_n hx hb dX1_lowestStopOn_16 rfl (lv_at hl 1 rfl) ?_
        refine oo_icmp_ne (x := sqT T i) (y := q) (tgt := 22) hx hb dX1_lowestStopOn_17 (by decide) (lt31 (sq_lt hI (t := i) (by omega)) (by decide)) (lt31 hq (by decide)) (fun c_3 => ?_) (fun c_3 => ?_)
        · refine lv_iinc (v := nI (i + 1)) (lv' := [(2, .int (nI (i + 1))), (0, .ref (a 0)), (1, .int (oI q))]) hx hb dX1_lowestStopOn_22 hl (k := 2) rfl (nI_add _ 1) (by decide) rfl (fun ls hl => ?_)
          refine lv_goto (tgt := 2) hx hb dX1_lowestStopOn_25 (by decide) ?_
          exact ih_2 (i + 1) (by omega) (ff_no hff (by simp [c_2, n_c_2, c_3]) (by omega)) (by omega) _ rfl ls (lv_sub hl [1, 2, 0] rfl)
        · refine lv_iload_n hx hb dX1_lowestStopOn_20 rfl (lv_at hl 2 rfl) ?_
          exact rd_iret hx hb hr hk dX1_lowestStopOn_21 (by rw [lowT, hff, ff_yes (by simp [c_2, n_c_2, c_3]) (by omega)]; rfl)
  exact loop_1 _ 0 (by decide) rfl (Nat.lt_succ_self _) _ rfl ls (lv_sub hl [1, 2, 0] rfl)
set_option maxHeartbeats 4000000 in
set_option maxRecDepth 100000 in
theorem c_X1_lowestFreeStop (l : Launch) (D : va_G) (K : Nat → ClassId) (a : Nat → Nat) (T : TW) (X : va_W)  (hI : Inv T) : Rd l yX1_lowestFreeStop wsX1_lowestFreeStop ({ frames := 3, cells := 0, slots := 0, locals := 55 } : Room) D K (townW K a T ++ X) [.ref (a 0)] (.int (oI (lowT T none))) := by
  refine rd_intro (cc := cX1_lowestFreeStop) (maxL := 1) (ret := (some .int)) (by decide) rfl (Nat.le_of_ble_eq_true rfl) ?_
  intro pr en st md ar bl mt co hx hb hml hr hts hown hk hP hE ls hl
  have hown : st.vm.findClass RX1 = some md.cls := hown
  have hl : lv_has ls 1 [(0, .ref (a 0))] := hl
  refine lv_aload_n hx hb dX1_lowestFreeStop_0 rfl (lv_at hl 0 rfl) ?_
  refine lv_iconst (v := -1) hx hb dX1_lowestFreeStop_1 (by decide) ?_
  refine rd_V (rest := []) (ci := 1) (q0 := 0) ⟨hx, hb, hml, hown, hts⟩ hP hE (c_X1_lowestStopOn l D K _ _ _ none hI (fun k z => by cases z)) (cwV 1 hts gX1_lowestFreeStop_X1_lowestStopOn rfl rfl rfl hd_X1_lowestStopOn ⟨Nat.le_of_ble_eq_true rfl, Nat.le_of_ble_eq_true rfl⟩) rfl rfl rfl rfl hl.1 rfl (Nat.le_of_ble_eq_true rfl) dX1_lowestFreeStop_2 ⟨Nat.zero_le _, Nat.zero_le _⟩ ?_
  exact rd_iret hx hb hr hk dX1_lowestFreeStop_5 (rfl)
set_option maxHeartbeats 4000000 in
set_option maxRecDepth 100000 in
theorem c_X1_hasStopOn (l : Launch) (D : va_G) (K : Nat → ClassId) (a : Nat → Nat) (T : TW) (X : va_W) (s p : Nat) (hI : Inv T) (hs : s < 80) (hp : p < 4) : Rd l yX1_hasStopOn wsX1_hasStopOn ({ frames := 2, cells := 0, slots := 0, locals := 33 } : Room) D K (townW K a T ++ X) [.ref (a 0), .int (nI s), .int (nI p)] (.int (bI (hstT T s p))) := by
  refine rd_intro (cc := cX1_hasStopOn) (maxL := 4) (ret := (some .boolean)) (by decide) rfl (Nat.le_of_ble_eq_true rfl) ?_
  intro pr en st md ar bl mt co hx hb hml hr hts hown hk hP hE ls hl
  have hown : st.vm.findClass RX1 = some md.cls := hown
  have hl : lv_has ls 4 [(0, .ref (a 0)), (1, .int (nI s)), (2, .int (nI p))] := hl
  have F21 : (Cond.fieldLink RX1 21 "TramTolls$Town" "stopSquares" "[I").before ar st = true := hts _ (List.mem_of_getElem? (i := 1) rfl)
  have inX1 : ∀ w ∈ u_ws RX1 TX1 12, w ∈ wsX1_hasStopOn := fun w h => List.mem_cons_of_mem _ (List.mem_append_right _ h)
  have IniX3 : (Cond.initialized RX3).before ar st = true := hts _ (List.mem_of_getElem? (i := 4) rfl)
  have Sta_X3_at : (Cond.static yX3_at).before ar st = true := hts _ (List.mem_of_getElem? (i := 3) rfl)
  have F24 : (Cond.fieldLink RX1 24 "TramTolls$Town" "stopPlayers" "[I").before ar st = true := hts _ (List.mem_of_getElem? (i := 2) rfl)
  refine lv_iconst (v := nI 0) hx hb dX1_hasStopOn_0 (by decide) ?_
  refine lv_istore_n (lv' := [(3, .int (nI 0)), (0, .ref (a 0)), (1, .int (nI s)), (2, .int (nI p))]) hx hb dX1_hasStopOn_1 rfl hl (by decide) rfl (fun ls hl => ?_)
  have loop_1 : ∀ (n_2 : Nat) (i : Nat), (i ≤ 12) → (ff (fun t_ => decide (sqT T t_ = some s) && decide (plT T t_ = some p)) 0 12 = ff (fun t_ => decide (sqT T t_ = some s) && decide (plT T t_ = some p)) i (12 - i)) → (12 - i) < n_2 →  ∀ x_3 : Int32, x_3 = nI i → ∀ ls : Array Slot, lv_has ls 4 [(0, .ref (a 0)), (1, .int (nI s)), (2, .int (nI p)), (3, .int x_3)] → W pr l en (headSpec wsX1_hasStopOn ({ frames := 2, cells := 0, slots := 0, locals := 33 } : Room)).room st md ar bl mt co st.heap [] 0 0 (MQ bl (rdQ (.int (bI (hstT T s p)))) ar st 0 0 (fun _ => False)) (F0 md 2 ls []) := by
    intro n_2
    induction n_2 with
    | zero => intro i _ _ hn_2; exact absurd hn_2 (Nat.not_lt_zero _)
    | succ n_2 ih_2 =>
      intro i hi hff hn_2 x_3 ex_3 ls hl
      subst ex_3
      have hl : lv_has ls 4 [(0, .ref (a 0)), (1, .int (nI s)), (2, .int (nI p)), (3, .int (nI i))] := hl
      refine lv_iload_n hx hb dX1_hasStopOn_2 rfl (lv_at hl 3 rfl) ?_
      refine lv_bipush (v := nI 12) hx hb dX1_hasStopOn_3 (by decide) ?_
      refine nv_icmp_ge (x := i) (y := 12) (tgt := 40) hx hb dX1_hasStopOn_5 (by decide) (by omega) (by decide) (fun c_2 => ?_) (fun c_2 => ?_)
      · have n_c_2 := Nat.not_lt.mpr c_2
        refine lv_iconst (v := nI 0) hx hb dX1_hasStopOn_40 (by decide) ?_
        exact rd_zret hx hb hr hk dX1_hasStopOn_41 (by rw [hstT, hff, show 12 - i = 0 from by omega]; rfl)
      · have n_c_2 := Nat.not_le.mpr c_2
        refine lv_aload_n hx hb dX1_hasStopOn_8 rfl (lv_at hl 0 rfl) ?_
        refine va_get (D := D) (ci := 1) (v := .ref (a 4)) (C := RX1) (T := TX1) (N := 12) hx hb hts inX1 hown hE.1 hP 0 rfl rfl 3 (by decide) F21 (fun _ h9 => h9) rfl dX1_hasStopOn_9 ?_
        refine lv_iload_n hx hb dX1_hasStopOn_12 rfl (lv_at hl 3 rfl) ?_
        refine rd_SN (rest := []) ⟨hx, hb, hml, hown, hts⟩ hP hE (c_X3_at l D K _ 4 _ 12 _ i rfl (by omega) (by omega)) (va_cnB (host := RX3) 2 hts gX1_hasStopOn_X3_at_n70 rfl rfl rfl hE.2.2.2.2.1 IniX3 hn_X3_at ⟨Nat.le_of_ble_eq_true rfl, Nat.le_of_ble_eq_true rfl⟩) Sta_X3_at rfl hl.1 rfl (Nat.le_of_ble_eq_true rfl) dX1_hasStopOn_13 ⟨Nat.zero_le _, Nat.zero_le _⟩ ?_
        refine top_i (y := oI (sqT T i)) (show T 3 i = oI (sqT T i) from eq_sq hI (by omega)) ?_
        refine lv_iload_n hx hb dX1_hasStopOn_16 rfl (lv_at hl 1 rfl) ?_
        refine oo_icmp_ne (x := sqT T i) (y := some s) (tgt := 34) hx hb dX1_hasStopOn_17 (by decide) (lt31 (sq_lt hI (t := i) (by omega)) (by decide)) (fun k q => by cases q; exact (by omega)) (fun c_3 => ?_) (fun c_3 => ?_)
        · refine lv_iinc (v := nI (i + 1)) (lv' := [(3, .int (nI (i + 1))), (0, .ref (a 0)), (1, .int (nI s)), (2, .int (nI p))]) hx hb dX1_hasStopOn_34 hl (k := 3) rfl (nI_add _ 1) (by decide) rfl (fun ls hl => ?_)
          refine lv_goto (tgt := 2) hx hb dX1_hasStopOn_37 (by decide) ?_
          exact ih_2 (i + 1) (by omega) (ff_no hff (by simp [c_2, n_c_2, c_3]) (by omega)) (by omega) _ rfl ls (lv_sub hl [1, 2, 3, 0] rfl)
        · refine lv_aload_n hx hb dX1_hasStopOn_20 rfl (lv_at hl 0 rfl) ?_
          refine va_get (D := D) (ci := 1) (v := .ref (a 5)) (C := RX1) (T := TX1) (N := 12) hx hb hts inX1 hown hE.1 hP 0 rfl rfl 4 (by decide) F24 (fun _ h9 => h9) rfl dX1_hasStopOn_21 ?_
          refine lv_iload_n hx hb dX1_hasStopOn_24 rfl (lv_at hl 3 rfl) ?_
          refine rd_SN (rest := []) ⟨hx, hb, hml, hown, hts⟩ hP hE (c_X3_at l D K _ 5 _ 12 _ i rfl (by omega) (by omega)) (va_cnB (host := RX3) 2 hts gX1_hasStopOn_X3_at_n70 rfl rfl rfl hE.2.2.2.2.1 IniX3 hn_X3_at ⟨Nat.le_of_ble_eq_true rfl, Nat.le_of_ble_eq_true rfl⟩) Sta_X3_at rfl hl.1 rfl (Nat.le_of_ble_eq_true rfl) dX1_hasStopOn_25 ⟨Nat.zero_le _, Nat.zero_le _⟩ ?_
          refine top_i (y := oI (plT T i)) (show T 4 i = oI (plT T i) from eq_pl hI (by omega)) ?_
          refine lv_iload_n hx hb dX1_hasStopOn_28 rfl (lv_at hl 2 rfl) ?_
          refine oo_icmp_ne (x := plT T i) (y := some p) (tgt := 34) hx hb dX1_hasStopOn_29 (by decide) (lt31 (pl_lt hI (t := i) (by omega)) (by decide)) (fun k q => by cases q; exact (by omega)) (fun c_4 => ?_) (fun c_4 => ?_)
          · refine lv_iinc (v := nI (i + 1)) (lv' := [(3, .int (nI (i + 1))), (0, .ref (a 0)), (1, .int (nI s)), (2, .int (nI p))]) hx hb dX1_hasStopOn_34 hl (k := 3) rfl (nI_add _ 1) (by decide) rfl (fun ls hl => ?_)
            refine lv_goto (tgt := 2) hx hb dX1_hasStopOn_37 (by decide) ?_
            exact ih_2 (i + 1) (by omega) (ff_no hff (by simp [c_2, n_c_2, c_3, c_4]) (by omega)) (by omega) _ rfl ls (lv_sub hl [1, 2, 3, 0] rfl)
          · refine lv_iconst (v := nI 1) hx hb dX1_hasStopOn_32 (by decide) ?_
            exact rd_zret hx hb hr hk dX1_hasStopOn_33 (by rw [hstT, hff, ff_yes (by simp [c_2, n_c_2, c_3, c_4]) (by omega)]; rfl)
  exact loop_1 _ 0 (by decide) rfl (Nat.lt_succ_self _) _ rfl ls (lv_sub hl [1, 2, 3, 0] rfl)
