theorem hd_X4_in : yX4_in.cls = RX4 ∧ yX4_in.cls ≠ "java/lang/invoke/MethodHandle" ∧ yX4_in.cls ≠ "java/lang/invoke/VarHandle" ∧ (parseMethodDescriptor yX4_in.desc).map (fun d => d.parameters.length) = some 3 := by decide +kernel
theorem hn_X4_in : yX4_in.cls ≠ "java/lang/invoke/MethodHandle" ∧ yX4_in.cls ≠ "java/lang/invoke/VarHandle" ∧ (parseMethodDescriptor yX4_in.desc).map (fun d => d.parameters.length) = some 3 := hd_X4_in.2
theorem hd_X4_isSquare : yX4_isSquare.cls = RX4 ∧ yX4_isSquare.cls ≠ "java/lang/invoke/MethodHandle" ∧ yX4_isSquare.cls ≠ "java/lang/invoke/VarHandle" ∧ (parseMethodDescriptor yX4_isSquare.desc).map (fun d => d.parameters.length) = some 1 := by decide +kernel
theorem hn_X4_isSquare : yX4_isSquare.cls ≠ "java/lang/invoke/MethodHandle" ∧ yX4_isSquare.cls ≠ "java/lang/invoke/VarHandle" ∧ (parseMethodDescriptor yX4_isSquare.desc).map (fun d => d.parameters.length) = some 1 := hd_X4_isSquare.2
theorem hd_X4_isPlayer : yX4_isPlayer.cls = RX4 ∧ yX4_isPlayer.cls ≠ "java/lang/invoke/MethodHandle" ∧ yX4_isPlayer.cls ≠ "java/lang/invoke/VarHandle" ∧ (parseMethodDescriptor yX4_isPlayer.desc).map (fun d => d.parameters.length) = some 1 := by decide +kernel
theorem hn_X4_isPlayer : yX4_isPlayer.cls ≠ "java/lang/invoke/MethodHandle" ∧ yX4_isPlayer.cls ≠ "java/lang/invoke/VarHandle" ∧ (parseMethodDescriptor yX4_isPlayer.desc).map (fun d => d.parameters.length) = some 1 := hd_X4_isPlayer.2
theorem hd_X4_depot : yX4_depot.cls = RX4 ∧ yX4_depot.cls ≠ "java/lang/invoke/MethodHandle" ∧ yX4_depot.cls ≠ "java/lang/invoke/VarHandle" ∧ (parseMethodDescriptor yX4_depot.desc).map (fun d => d.parameters.length) = some 1 := by decide +kernel
theorem hn_X4_depot : yX4_depot.cls ≠ "java/lang/invoke/MethodHandle" ∧ yX4_depot.cls ≠ "java/lang/invoke/VarHandle" ∧ (parseMethodDescriptor yX4_depot.desc).map (fun d => d.parameters.length) = some 1 := hd_X4_depot.2
theorem hd_X4_of : yX4_of.cls = RX4 ∧ yX4_of.cls ≠ "java/lang/invoke/MethodHandle" ∧ yX4_of.cls ≠ "java/lang/invoke/VarHandle" ∧ (parseMethodDescriptor yX4_of.desc).map (fun d => d.parameters.length) = some 2 := by decide +kernel
theorem hn_X4_of : yX4_of.cls ≠ "java/lang/invoke/MethodHandle" ∧ yX4_of.cls ≠ "java/lang/invoke/VarHandle" ∧ (parseMethodDescriptor yX4_of.desc).map (fun d => d.parameters.length) = some 2 := hd_X4_of.2
theorem hd_X4_isHouse : yX4_isHouse.cls = RX4 ∧ yX4_isHouse.cls ≠ "java/lang/invoke/MethodHandle" ∧ yX4_isHouse.cls ≠ "java/lang/invoke/VarHandle" ∧ (parseMethodDescriptor yX4_isHouse.desc).map (fun d => d.parameters.length) = some 1 := by decide +kernel
theorem hn_X4_isHouse : yX4_isHouse.cls ≠ "java/lang/invoke/MethodHandle" ∧ yX4_isHouse.cls ≠ "java/lang/invoke/VarHandle" ∧ (parseMethodDescriptor yX4_isHouse.desc).map (fun d => d.parameters.length) = some 1 := hd_X4_isHouse.2
theorem hd_X4_hasTrack : yX4_hasTrack.cls = RX4 ∧ yX4_hasTrack.cls ≠ "java/lang/invoke/MethodHandle" ∧ yX4_hasTrack.cls ≠ "java/lang/invoke/VarHandle" ∧ (parseMethodDescriptor yX4_hasTrack.desc).map (fun d => d.parameters.length) = some 2 := by decide +kernel
theorem hn_X4_hasTrack : yX4_hasTrack.cls ≠ "java/lang/invoke/MethodHandle" ∧ yX4_hasTrack.cls ≠ "java/lang/invoke/VarHandle" ∧ (parseMethodDescriptor yX4_hasTrack.desc).map (fun d => d.parameters.length) = some 2 := hd_X4_hasTrack.2
theorem hd_X4_tracks : yX4_tracks.cls = RX4 ∧ yX4_tracks.cls ≠ "java/lang/invoke/MethodHandle" ∧ yX4_tracks.cls ≠ "java/lang/invoke/VarHandle" ∧ (parseMethodDescriptor yX4_tracks.desc).map (fun d => d.parameters.length) = some 1 := by decide +kernel
theorem hn_X4_tracks : yX4_tracks.cls ≠ "java/lang/invoke/MethodHandle" ∧ yX4_tracks.cls ≠ "java/lang/invoke/VarHandle" ∧ (parseMethodDescriptor yX4_tracks.desc).map (fun d => d.parameters.length) = some 1 := hd_X4_tracks.2
theorem hd_X4_stopSquare : yX4_stopSquare.cls = RX4 ∧ yX4_stopSquare.cls ≠ "java/lang/invoke/MethodHandle" ∧ yX4_stopSquare.cls ≠ "java/lang/invoke/VarHandle" ∧ (parseMethodDescriptor yX4_stopSquare.desc).map (fun d => d.parameters.length) = some 1 := by decide +kernel
theorem hn_X4_stopSquare : yX4_stopSquare.cls ≠ "java/lang/invoke/MethodHandle" ∧ yX4_stopSquare.cls ≠ "java/lang/invoke/VarHandle" ∧ (parseMethodDescriptor yX4_stopSquare.desc).map (fun d => d.parameters.length) = some 1 := hd_X4_stopSquare.2
theorem hd_X4_stopPlayer : yX4_stopPlayer.cls = RX4 ∧ yX4_stopPlayer.cls ≠ "java/lang/invoke/MethodHandle" ∧ yX4_stopPlayer.cls ≠ "java/lang/invoke/VarHandle" ∧ (parseMethodDescriptor yX4_stopPlayer.desc).map (fun d => d.parameters.length) = some 1 := by decide +kernel
theorem hn_X4_stopPlayer : yX4_stopPlayer.cls ≠ "java/lang/invoke/MethodHandle" ∧ yX4_stopPlayer.cls ≠ "java/lang/invoke/VarHandle" ∧ (parseMethodDescriptor yX4_stopPlayer.desc).map (fun d => d.parameters.length) = some 1 := hd_X4_stopPlayer.2
theorem hd_X4_isStop : yX4_isStop.cls = RX4 ∧ yX4_isStop.cls ≠ "java/lang/invoke/MethodHandle" ∧ yX4_isStop.cls ≠ "java/lang/invoke/VarHandle" ∧ (parseMethodDescriptor yX4_isStop.desc).map (fun d => d.parameters.length) = some 1 := by decide +kernel
theorem hn_X4_isStop : yX4_isStop.cls ≠ "java/lang/invoke/MethodHandle" ∧ yX4_isStop.cls ≠ "java/lang/invoke/VarHandle" ∧ (parseMethodDescriptor yX4_isStop.desc).map (fun d => d.parameters.length) = some 1 := hd_X4_isStop.2
theorem hd_X4_beside : yX4_beside.cls = RX4 ∧ yX4_beside.cls ≠ "java/lang/invoke/MethodHandle" ∧ yX4_beside.cls ≠ "java/lang/invoke/VarHandle" ∧ (parseMethodDescriptor yX4_beside.desc).map (fun d => d.parameters.length) = some 2 := by decide +kernel
theorem hn_X4_beside : yX4_beside.cls ≠ "java/lang/invoke/MethodHandle" ∧ yX4_beside.cls ≠ "java/lang/invoke/VarHandle" ∧ (parseMethodDescriptor yX4_beside.desc).map (fun d => d.parameters.length) = some 2 := hd_X4_beside.2
theorem hd_X4_freeStop : yX4_freeStop.cls = RX4 ∧ yX4_freeStop.cls ≠ "java/lang/invoke/MethodHandle" ∧ yX4_freeStop.cls ≠ "java/lang/invoke/VarHandle" ∧ (parseMethodDescriptor yX4_freeStop.desc).map (fun d => d.parameters.length) = some 0 := by decide +kernel
theorem hn_X4_freeStop : yX4_freeStop.cls ≠ "java/lang/invoke/MethodHandle" ∧ yX4_freeStop.cls ≠ "java/lang/invoke/VarHandle" ∧ (parseMethodDescriptor yX4_freeStop.desc).map (fun d => d.parameters.length) = some 0 := hd_X4_freeStop.2
theorem hd_X4_lowestOn : yX4_lowestOn.cls = RX4 ∧ yX4_lowestOn.cls ≠ "java/lang/invoke/MethodHandle" ∧ yX4_lowestOn.cls ≠ "java/lang/invoke/VarHandle" ∧ (parseMethodDescriptor yX4_lowestOn.desc).map (fun d => d.parameters.length) = some 1 := by decide +kernel
theorem hn_X4_lowestOn : yX4_lowestOn.cls ≠ "java/lang/invoke/MethodHandle" ∧ yX4_lowestOn.cls ≠ "java/lang/invoke/VarHandle" ∧ (parseMethodDescriptor yX4_lowestOn.desc).map (fun d => d.parameters.length) = some 1 := hd_X4_lowestOn.2
theorem hd_X4_stopOn : yX4_stopOn.cls = RX4 ∧ yX4_stopOn.cls ≠ "java/lang/invoke/MethodHandle" ∧ yX4_stopOn.cls ≠ "java/lang/invoke/VarHandle" ∧ (parseMethodDescriptor yX4_stopOn.desc).map (fun d => d.parameters.length) = some 2 := by decide +kernel
theorem hn_X4_stopOn : yX4_stopOn.cls ≠ "java/lang/invoke/MethodHandle" ∧ yX4_stopOn.cls ≠ "java/lang/invoke/VarHandle" ∧ (parseMethodDescriptor yX4_stopOn.desc).map (fun d => d.parameters.length) = some 2 := hd_X4_stopOn.2
theorem hd_X4_allows : yX4_allows.cls = RX4 ∧ yX4_allows.cls ≠ "java/lang/invoke/MethodHandle" ∧ yX4_allows.cls ≠ "java/lang/invoke/VarHandle" ∧ (parseMethodDescriptor yX4_allows.desc).map (fun d => d.parameters.length) = some 3 := by decide +kernel
theorem hn_X4_allows : yX4_allows.cls ≠ "java/lang/invoke/MethodHandle" ∧ yX4_allows.cls ≠ "java/lang/invoke/VarHandle" ∧ (parseMethodDescriptor yX4_allows.desc).map (fun d => d.parameters.length) = some 3 := hd_X4_allows.2
theorem hd_X4_toll : yX4_toll.cls = RX4 ∧ yX4_toll.cls ≠ "java/lang/invoke/MethodHandle" ∧ yX4_toll.cls ≠ "java/lang/invoke/VarHandle" ∧ (parseMethodDescriptor yX4_toll.desc).map (fun d => d.parameters.length) = some 1 := by decide +kernel
theorem hn_X4_toll : yX4_toll.cls ≠ "java/lang/invoke/MethodHandle" ∧ yX4_toll.cls ≠ "java/lang/invoke/VarHandle" ∧ (parseMethodDescriptor yX4_toll.desc).map (fun d => d.parameters.length) = some 1 := hd_X4_toll.2
theorem hd_X4_whyNot : yX4_whyNot.cls = RX4 ∧ yX4_whyNot.cls ≠ "java/lang/invoke/MethodHandle" ∧ yX4_whyNot.cls ≠ "java/lang/invoke/VarHandle" ∧ (parseMethodDescriptor yX4_whyNot.desc).map (fun d => d.parameters.length) = some 4 := by decide +kernel
theorem hn_X4_whyNot : yX4_whyNot.cls ≠ "java/lang/invoke/MethodHandle" ∧ yX4_whyNot.cls ≠ "java/lang/invoke/VarHandle" ∧ (parseMethodDescriptor yX4_whyNot.desc).map (fun d => d.parameters.length) = some 4 := hd_X4_whyNot.2
set_option maxHeartbeats 4000000 in
set_option maxRecDepth 100000 in
theorem c_X4_in (l : Launch) (D : va_G) (K : Nat → ClassId) (ws : va_W) (x lo hi : Int32) : Rd l yX4_in wsX4_in ({ frames := 1, cells := 0, slots := 0, locals := 12 } : Room) D K (ws) [.int x, .int lo, .int hi] (.int (bI (inR lo hi x))) := by
  refine rd_intro (cc := cX4_in) (maxL := 3) (ret := (some .boolean)) (by decide) rfl (Nat.le_of_ble_eq_true rfl) ?_
  intro pr en st md ar bl mt co hx hb hml hr hts hown hk hP hE ls hl
  have hown : st.vm.findClass RX4 = some md.cls := hown
  have hl : lv_has ls 3 [(0, .int x), (1, .int lo), (2, .int hi)] := hl
  refine lv_iload_n hx hb dX4_in_0 rfl (lv_at hl 0 rfl) ?_
  refine lv_iload_n hx hb dX4_in_1 rfl (lv_at hl 1 rfl) ?_
  refine lv_icmp_lt (x := x) (y := lo) (tgt := 14) hx hb dX4_in_2 (by decide) (fun c_1 => ?_) (fun c_1 => ?_)
  · have n_c_1 := i_lt_nle c_1
    refine lv_iconst (v := nI 0) hx hb dX4_in_14 (by decide) ?_
    exact rd_zret hx hb hr hk dX4_in_15 (by simp [inR, bI, nI_0, nI_one, c_1, n_c_1])
  · have n_c_1 := i_nlt_le c_1
    refine lv_iload_n hx hb dX4_in_5 rfl (lv_at hl 0 rfl) ?_
    refine lv_iload_n hx hb dX4_in_6 rfl (lv_at hl 2 rfl) ?_
    refine lv_icmp_gt (x := x) (y := hi) (tgt := 14) hx hb dX4_in_7 (by decide) (fun c_2 => ?_) (fun c_2 => ?_)
    · have n_c_2 := i_lt_nle c_2
      refine lv_iconst (v := nI 0) hx hb dX4_in_14 (by decide) ?_
      exact rd_zret hx hb hr hk dX4_in_15 (by simp [inR, bI, nI_0, nI_one, c_1, n_c_1, c_2, n_c_2])
    · have n_c_2 := i_nlt_le c_2
      refine lv_iconst (v := nI 1) hx hb dX4_in_10 (by decide) ?_
      refine lv_goto (tgt := 15) hx hb dX4_in_11 (by decide) ?_
      exact rd_zret hx hb hr hk dX4_in_15 (by simp [inR, bI, nI_0, nI_one, c_1, n_c_1, c_2, n_c_2])
set_option maxHeartbeats 4000000 in
set_option maxRecDepth 100000 in
theorem c_X4_isSquare (l : Launch) (D : va_G) (K : Nat → ClassId) (ws : va_W) (x : Int32) : Rd l yX4_isSquare wsX4_isSquare ({ frames := 2, cells := 0, slots := 0, locals := 34 } : Room) D K (ws) [.int x] (.int (bI (inR 0 79 x))) := by
  refine rd_intro (cc := cX4_isSquare) (maxL := 1) (ret := (some .boolean)) (by decide) rfl (Nat.le_of_ble_eq_true rfl) ?_
  intro pr en st md ar bl mt co hx hb hml hr hts hown hk hP hE ls hl
  have hown : st.vm.findClass RX4 = some md.cls := hown
  have hl : lv_has ls 1 [(0, .int x)] := hl
  refine lv_iload_n hx hb dX4_isSquare_0 rfl (lv_at hl 0 rfl) ?_
  refine lv_iconst (v := nI 0) hx hb dX4_isSquare_1 (by decide) ?_
  refine lv_bipush (v := nI 79) hx hb dX4_isSquare_2 (by decide) ?_
  refine rd_S (rest := []) ⟨hx, hb, hml, hown, hts⟩ hP hE (c_X4_in l D K _ x 0 79) (va_cwS 3 hts gX4_isSquare_X4_in rfl rfl rfl hn_X4_in ⟨Nat.le_of_ble_eq_true rfl, Nat.le_of_ble_eq_true rfl⟩) rfl hl.1 rfl (Nat.le_of_ble_eq_true rfl) dX4_isSquare_4 ⟨Nat.zero_le _, Nat.zero_le _⟩ ?_
  exact rd_zret hx hb hr hk dX4_isSquare_7 (rfl)
set_option maxHeartbeats 4000000 in
set_option maxRecDepth 100000 in
theorem c_X4_isPlayer (l : Launch) (D : va_G) (K : Nat → ClassId) (ws : va_W) (x : Int32) : Rd l yX4_isPlayer wsX4_isPlayer ({ frames := 2, cells := 0, slots := 0, locals := 34 } : Room) D K (ws) [.int x] (.int (bI (inR 0 3 x))) := by
  refine rd_intro (cc := cX4_isPlayer) (maxL := 1) (ret := (some .boolean)) (by decide) rfl (Nat.le_of_ble_eq_true rfl) ?_
  intro pr en st md ar bl mt co hx hb hml hr hts hown hk hP hE ls hl
  have hown : st.vm.findClass RX4 = some md.cls := hown
  have hl : lv_has ls 1 [(0, .int x)] := hl
  refine lv_iload_n hx hb dX4_isPlayer_0 rfl (lv_at hl 0 rfl) ?_
  refine lv_iconst (v := nI 0) hx hb dX4_isPlayer_1 (by decide) ?_
  refine lv_iconst (v := nI 3) hx hb dX4_isPlayer_2 (by decide) ?_
  refine rd_S (rest := []) ⟨hx, hb, hml, hown, hts⟩ hP hE (c_X4_in l D K _ x 0 3) (va_cwS 3 hts gX4_isPlayer_X4_in rfl rfl rfl hn_X4_in ⟨Nat.le_of_ble_eq_true rfl, Nat.le_of_ble_eq_true rfl⟩) rfl hl.1 rfl (Nat.le_of_ble_eq_true rfl) dX4_isPlayer_3 ⟨Nat.zero_le _, Nat.zero_le _⟩ ?_
  exact rd_zret hx hb hr hk dX4_isPlayer_6 (rfl)
set_option maxHeartbeats 4000000 in
set_option maxRecDepth 100000 in
theorem c_X4_depot (l : Launch) (D : va_G) (K : Nat → ClassId) (ws : va_W) (p : Nat) (hp : p < 4) : Rd l yX4_depot wsX4_depot ({ frames := 1, cells := 0, slots := 0, locals := 12 } : Room) D K (ws) [.int (nI p)] (.int (nI (dep p))) := by
  refine rd_intro (cc := cX4_depot) (maxL := 1) (ret := (some .int)) (by decide) rfl (Nat.le_of_ble_eq_true rfl) ?_
  intro pr en st md ar bl mt co hx hb hml hr hts hown hk hP hE ls hl
  have hown : st.vm.findClass RX4 = some md.cls := hown
  have hl : lv_has ls 1 [(0, .int (nI p))] := hl
  refine lv_iload_n hx hb dX4_depot_0 rfl (lv_at hl 0 rfl) ?_
  refine nv_if_ne (x := p) (tgt := 8) hx hb dX4_depot_1 (by decide) (by omega) (fun c_1 => ?_) (fun c_1 => ?_)
  · have n_c_1 : ¬ p = 0 := by omega
    refine lv_iload_n hx hb dX4_depot_8 rfl (lv_at hl 0 rfl) ?_
    refine lv_iconst (v := nI 1) hx hb dX4_depot_9 (by decide) ?_
    refine nv_icmp_ne (x := p) (y := 1) (tgt := 18) hx hb dX4_depot_10 (by decide) (by omega) (by decide) (fun c_2 => ?_) (fun c_2 => ?_)
    · refine lv_iload_n hx hb dX4_depot_18 rfl (lv_at hl 0 rfl) ?_
      refine lv_iconst (v := nI 2) hx hb dX4_depot_19 (by decide) ?_
      refine nv_icmp_ne (x := p) (y := 2) (tgt := 28) hx hb dX4_depot_20 (by decide) (by omega) (by decide) (fun c_3 => ?_) (fun c_3 => ?_)
      · refine lv_bipush (v := nI 70) hx hb dX4_depot_28 (by decide) ?_
        exact rd_iret hx hb hr hk dX4_depot_30 (by simp [dep, c_1, n_c_1, c_2, c_3])
      · refine lv_bipush (v := nI 79) hx hb dX4_depot_23 (by decide) ?_
        refine lv_goto (tgt := 30) hx hb dX4_depot_25 (by decide) ?_
        exact rd_iret hx hb hr hk dX4_depot_30 (by simp [dep, c_1, n_c_1, c_2, c_3])
    · refine lv_bipush (v := nI 9) hx hb dX4_depot_13 (by decide) ?_
      refine lv_goto (tgt := 30) hx hb dX4_depot_15 (by decide) ?_
      exact rd_iret hx hb hr hk dX4_depot_30 (by simp [dep, c_1, n_c_1, c_2])
  · have n_c_1 : ¬ 0 < p := by omega
    refine lv_iconst (v := nI 0) hx hb dX4_depot_4 (by decide) ?_
    refine lv_goto (tgt := 30) hx hb dX4_depot_5 (by decide) ?_
    exact rd_iret hx hb hr hk dX4_depot_30 (by simp [dep, c_1, n_c_1])
set_option maxHeartbeats 4000000 in
set_option maxRecDepth 100000 in
theorem c_X4_of (l : Launch) (D : va_G) (K : Nat → ClassId) (r : Nat → Nat) (th sm ty pm pn sta ms : Int32) (hs : Int64) (T : TW) (Y : va_W) (p k : Nat) (hp : p < 4) (hk5 : k < 5) : Rd l yX4_of wsX4_of ({ frames := 1, cells := 0, slots := 0, locals := 12 } : Room) D K (refO r th sm ty pm pn sta ms hs :: zC K r T :: Y) [.ref (r 0), .int (nI p), .int (nI k)] (.int (zT T (268 + 5 * p + k))) := by
  refine rd_intro (cc := cX4_of) (maxL := 3) (ret := (some .int)) (by decide) rfl (Nat.le_of_ble_eq_true rfl) ?_
  intro pr en st md ar bl mt co hx hb hml hr hts hown hk hP hE ls hl
  have hown : st.vm.findClass RX4 = some md.cls := hown
  have hl : lv_has ls 3 [(0, .ref (r 0)), (1, .int (nI p)), (2, .int (nI k))] := hl
  have F7 : (Cond.fieldLink RX4 7 "TramTollsModel" "z" "[I").before ar st = true := hts _ (List.mem_of_getElem? (i := 1) rfl)
  have inX4 : ∀ w ∈ u_ws RX4 TX4 13, w ∈ wsX4_of := fun w h => List.mem_cons_of_mem _ (List.mem_append_right _ h)
  refine lv_aload_n hx hb dX4_of_0 rfl (lv_at hl 0 rfl) ?_
  refine va_get (D := D) (ci := 4) (v := .ref (r 1)) (C := RX4) (T := TX4) (N := 13) hx hb hts inX4 hown hE.1 hP 0 rfl rfl 1 (by decide) F7 (fun _ h9 => h9) rfl dX4_of_1 ?_
  refine lv_sipush (v := nI 268) hx hb dX4_of_4 (by decide) ?_
  refine lv_iconst (v := nI 5) hx hb dX4_of_7 (by decide) ?_
  refine lv_iload_n hx hb dX4_of_8 rfl (lv_at hl 1 rfl) ?_
  refine nv_imul (x := 5) (y := p) hx hb dX4_of_9 ?_
  refine nv_iadd (x := 268) (y := 5 * p) hx hb dX4_of_10 ?_
  refine lv_iload_n hx hb dX4_of_11 rfl (lv_at hl 2 rfl) ?_
  refine nv_iadd (x := 268 + (5 * p)) (y := k) hx hb dX4_of_12 ?_
  refine va_iald hx hb hE.1 hP 1 0 rfl rfl (pk_in ((268 + (5 * p)) + k) 288 (by omega)) dX4_of_13 ?_
  rw [pk_cl ((268 + (5 * p)) + k)]
  refine top_i (y := zT T (268 + 5 * p + k)) (rfl) ?_
  exact rd_iret hx hb hr hk dX4_of_14 (rfl)
set_option maxHeartbeats 4000000 in
set_option maxRecDepth 100000 in
theorem c_X4_isHouse (l : Launch) (D : va_G) (K : Nat → ClassId) (r : Nat → Nat) (th sm ty pm pn sta ms : Int32) (hs : Int64) (T : TW) (Y : va_W) (s : Nat) (hI : Inv T) (hs80 : s < 80) : Rd l yX4_isHouse wsX4_isHouse ({ frames := 1, cells := 0, slots := 0, locals := 12 } : Room) D K (refO r th sm ty pm pn sta ms hs :: zC K r T :: Y) [.ref (r 0), .int (nI s)] (.int (bI (hsT T s))) := by
  refine rd_intro (cc := cX4_isHouse) (maxL := 2) (ret := (some .boolean)) (by decide) rfl (Nat.le_of_ble_eq_true rfl) ?_
  intro pr en st md ar bl mt co hx hb hml hr hts hown hk hP hE ls hl
  have hown : st.vm.findClass RX4 = some md.cls := hown
  have hl : lv_has ls 2 [(0, .ref (r 0)), (1, .int (nI s))] := hl
  have F7 : (Cond.fieldLink RX4 7 "TramTollsModel" "z" "[I").before ar st = true := hts _ (List.mem_of_getElem? (i := 1) rfl)
  have inX4 : ∀ w ∈ u_ws RX4 TX4 13, w ∈ wsX4_isHouse := fun w h => List.mem_cons_of_mem _ (List.mem_append_right _ h)
  refine lv_aload_n hx hb dX4_isHouse_0 rfl (lv_at hl 0 rfl) ?_
  refine va_get (D := D) (ci := 4) (v := .ref (r 1)) (C := RX4) (T := TX4) (N := 13) hx hb hts inX4 hown hE.1 hP 0 rfl rfl 1 (by decide) F7 (fun _ h9 => h9) rfl dX4_isHouse_1 ?_
  refine lv_iconst (v := nI 4) hx hb dX4_isHouse_4 (by decide) ?_
  refine lv_iload_n hx hb dX4_isHouse_5 rfl (lv_at hl 1 rfl) ?_
  refine nv_iadd (x := 4) (y := s) hx hb dX4_isHouse_6 ?_
  refine va_iald hx hb hE.1 hP 1 0 rfl rfl (pk_in (4 + s) 288 (by omega)) dX4_isHouse_7 ?_
  rw [pk_cl (4 + s)]
  refine top_i (y := bI (hsT T s)) (((congrArg (zT T) (show 4 + s = 4 + s from by omega)).trans (zT_hs (by omega))).trans (show T 0 s = bI (hsT T s) from eq_hs hI (by omega))) ?_
  refine lv_iconst (v := nI 1) hx hb dX4_isHouse_8 (by decide) ?_
  refine bb_icmp_ne (x := hsT T s) (tgt := 16) hx hb dX4_isHouse_9 (by decide) (fun c_1 => ?_) (fun c_1 => ?_)
  · refine lv_iconst (v := nI 0) hx hb dX4_isHouse_16 (by decide) ?_
    exact rd_zret hx hb hr hk dX4_isHouse_17 (by simp [bI, nI_0, nI_one, c_1])
  · refine lv_iconst (v := nI 1) hx hb dX4_isHouse_12 (by decide) ?_
    refine lv_goto (tgt := 17) hx hb dX4_isHouse_13 (by decide) ?_
    exact rd_zret hx hb hr hk dX4_isHouse_17 (by simp [bI, nI_0, nI_one, c_1])
set_option maxHeartbeats 4000000 in
set_option maxRecDepth 100000 in
theorem c_X4_hasTrack (l : Launch) (D : va_G) (K : Nat → ClassId) (r : Nat → Nat) (th sm ty pm pn sta ms : Int32) (hs : Int64) (T : TW) (Y : va_W) (p s : Nat) (hI : Inv T) (hp : p < 4) (hs80 : s < 80) : Rd l yX4_hasTrack wsX4_hasTrack ({ frames := 1, cells := 0, slots := 0, locals := 12 } : Room) D K (refO r th sm ty pm pn sta ms hs :: zC K r T :: Y) [.ref (r 0), .int (nI p), .int (nI s)] (.int (bI (hasT T p s))) := by
  refine rd_intro (cc := cX4_hasTrack) (maxL := 3) (ret := (some .boolean)) (by decide) rfl (Nat.le_of_ble_eq_true rfl) ?_
  intro pr en st md ar bl mt co hx hb hml hr hts hown hk hP hE ls hl
  have hown : st.vm.findClass RX4 = some md.cls := hown
  have hl : lv_has ls 3 [(0, .ref (r 0)), (1, .int (nI p)), (2, .int (nI s))] := hl
  have F7 : (Cond.fieldLink RX4 7 "TramTollsModel" "z" "[I").before ar st = true := hts _ (List.mem_of_getElem? (i := 1) rfl)
  have inX4 : ∀ w ∈ u_ws RX4 TX4 13, w ∈ wsX4_hasTrack := fun w h => List.mem_cons_of_mem _ (List.mem_append_right _ h)
  refine lv_aload_n hx hb dX4_hasTrack_0 rfl (lv_at hl 0 rfl) ?_
  refine va_get (D := D) (ci := 4) (v := .ref (r 1)) (C := RX4) (T := TX4) (N := 13) hx hb hts inX4 hown hE.1 hP 0 rfl rfl 1 (by decide) F7 (fun _ h9 => h9) rfl dX4_hasTrack_1 ?_
  refine lv_bipush (v := nI 84) hx hb dX4_hasTrack_4 (by decide) ?_
  refine lv_iload_n hx hb dX4_hasTrack_6 rfl (lv_at hl 2 rfl) ?_
  refine nv_iadd (x := 84) (y := s) hx hb dX4_hasTrack_7 ?_
  refine va_iald hx hb hE.1 hP 1 0 rfl rfl (pk_in (84 + s) 288 (by omega)) dX4_hasTrack_8 ?_
  rw [pk_cl (84 + s)]
  refine top_i (y := nI (mkT T s)) (((congrArg (zT T) (show 84 + s = 84 + s from by omega)).trans (zT_mk (by omega))).trans (show T 1 s = nI (mkT T s) from eq_mk hI (by omega))) ?_
  have hb_1 := mk_lt hI (show s < 80 by omega)
  refine lv_iload_n hx hb dX4_hasTrack_9 rfl (lv_at hl 1 rfl) ?_
  refine nv_ishr (x := mkT T s) (y := p) hx hb dX4_hasTrack_10 (by omega) (by omega) ?_
  have hb_2 := Nat.div_le_self (mkT T s) (2 ^ p)
  refine lv_iconst (v := nI 1) hx hb dX4_hasTrack_11 (by decide) ?_
  refine nv_iand (x := (mkT T s) / 2 ^ p) (y := 1) hx hb dX4_hasTrack_12 ?_
  have hb_3 := Nat.and_le_left (n := (mkT T s) / 2 ^ p) (m := 1)
  refine lv_iconst (v := nI 1) hx hb dX4_hasTrack_13 (by decide) ?_
  refine nv_icmp_ne (x := ((mkT T s) / 2 ^ p) &&& 1) (y := 1) (tgt := 21) hx hb dX4_hasTrack_14 (by decide) (by omega) (by decide) (fun c_4 => ?_) (fun c_4 => ?_)
  · refine lv_iconst (v := nI 0) hx hb dX4_hasTrack_21 (by decide) ?_
    exact rd_zret hx hb hr hk dX4_hasTrack_22 (by rw [hasT, ← has_shr (by omega) (by omega)]; simp only [c_4, decide_true, decide_false]; rfl)
  · refine lv_iconst (v := nI 1) hx hb dX4_hasTrack_17 (by decide) ?_
    refine lv_goto (tgt := 22) hx hb dX4_hasTrack_18 (by decide) ?_
    exact rd_zret hx hb hr hk dX4_hasTrack_22 (by rw [hasT, ← has_shr (by omega) (by omega)]; simp only [c_4, decide_true, decide_false]; rfl)
set_option maxHeartbeats 4000000 in
set_option maxRecDepth 100000 in
theorem c_X4_tracks (l : Launch) (D : va_G) (K : Nat → ClassId) (r : Nat → Nat) (th sm ty pm pn sta ms : Int32) (hs : Int64) (T : TW) (Y : va_W) (s : Nat) (hI : Inv T) (hs80 : s < 80) : Rd l yX4_tracks wsX4_tracks ({ frames := 1, cells := 0, slots := 0, locals := 12 } : Room) D K (refO r th sm ty pm pn sta ms hs :: zC K r T :: Y) [.ref (r 0), .int (nI s)] (.int (nI (trkT T s))) := by
  refine rd_intro (cc := cX4_tracks) (maxL := 4) (ret := (some .int)) (by decide) rfl (Nat.le_of_ble_eq_true rfl) ?_
  intro pr en st md ar bl mt co hx hb hml hr hts hown hk hP hE ls hl
  have hown : st.vm.findClass RX4 = some md.cls := hown
  have hl : lv_has ls 4 [(0, .ref (r 0)), (1, .int (nI s))] := hl
  have F7 : (Cond.fieldLink RX4 7 "TramTollsModel" "z" "[I").before ar st = true := hts _ (List.mem_of_getElem? (i := 1) rfl)
  have inX4 : ∀ w ∈ u_ws RX4 TX4 13, w ∈ wsX4_tracks := fun w h => List.mem_cons_of_mem _ (List.mem_append_right _ h)
  refine lv_iconst (v := nI 0) hx hb dX4_tracks_0 (by decide) ?_
  refine lv_istore_n (lv' := [(2, .int (nI 0)), (0, .ref (r 0)), (1, .int (nI s))]) hx hb dX4_tracks_1 rfl hl (by decide) rfl (fun ls hl => ?_)
  refine lv_iconst (v := nI 0) hx hb dX4_tracks_2 (by decide) ?_
  refine lv_istore_n (lv' := [(3, .int (nI 0)), (2, .int (nI 0)), (0, .ref (r 0)), (1, .int (nI s))]) hx hb dX4_tracks_3 rfl hl (by decide) rfl (fun ls hl => ?_)
  have loop_1 : ∀ (n_4 : Nat) (i : Nat), (i ≤ 4) → (4 - i) < n_4 →  ∀ x_2 : Int32, x_2 = nI (bcp (mkT T s) i) → ∀ x_3 : Int32, x_3 = nI i → ∀ ls : Array Slot, lv_has ls 4 [(0, .ref (r 0)), (1, .int (nI s)), (2, .int x_2), (3, .int x_3)] → W pr l en (headSpec wsX4_tracks ({ frames := 1, cells := 0, slots := 0, locals := 12 } : Room)).room st md ar bl mt co st.heap [] 0 0 (MQ bl (rdQ (.int (nI (trkT T s)))) ar st 0 0 (fun _ => False)) (F0 md 4 ls []) := by
    intro n_4
    induction n_4 with
    | zero => intro i _ hn_4; exact absurd hn_4 (Nat.not_lt_zero _)
    | succ n_4 ih_4 =>
      intro i hi hn_4 x_2 ex_2 x_3 ex_3 ls hl
      subst ex_2
      subst ex_3
      have hl : lv_has ls 4 [(0, .ref (r 0)), (1, .int (nI s)), (2, .int (nI (bcp (mkT T s) i))), (3, .int (nI i))] := hl
      refine lv_iload_n hx hb dX4_tracks_4 rfl (lv_at hl 3 rfl) ?_
      refine lv_iconst (v := nI 4) hx hb dX4_tracks_5 (by decide) ?_
      refine nv_icmp_ge (x := i) (y := 4) (tgt := 31) hx hb dX4_tracks_6 (by decide) (by omega) (by decide) (fun c_2 => ?_) (fun c_2 => ?_)
      · have n_c_2 := Nat.not_lt.mpr c_2
        refine lv_iload_n hx hb dX4_tracks_31 rfl (lv_at hl 2 rfl) ?_
        exact rd_iret hx hb hr hk dX4_tracks_32 (by rw [show i = 4 from by omega, trkT, bcp_4 (mk_lt hI hs80)])
      · have n_c_2 := Nat.not_le.mpr c_2
        refine lv_iload_n hx hb dX4_tracks_9 rfl (lv_at hl 2 rfl) ?_
        refine lv_aload_n hx hb dX4_tracks_10 rfl (lv_at hl 0 rfl) ?_
        refine va_get (D := D) (ci := 4) (v := .ref (r 1)) (C := RX4) (T := TX4) (N := 13) hx hb hts inX4 hown hE.1 hP 0 rfl rfl 1 (by decide) F7 (fun _ h9 => h9) rfl dX4_tracks_11 ?_
        refine lv_bipush (v := nI 84) hx hb dX4_tracks_14 (by decide) ?_
        refine lv_iload_n hx hb dX4_tracks_16 rfl (lv_at hl 1 rfl) ?_
        refine nv_iadd (x := 84) (y := s) hx hb dX4_tracks_17 ?_
        refine va_iald hx hb hE.1 hP 1 0 rfl rfl (pk_in (84 + s) 288 (by omega)) dX4_tracks_18 ?_
        rw [pk_cl (84 + s)]
        refine top_i (y := nI (mkT T s)) (((congrArg (zT T) (show 84 + s = 84 + s from by omega)).trans (zT_mk (by omega))).trans (show T 1 s = nI (mkT T s) from eq_mk hI (by omega))) ?_
        have hb_3 := mk_lt hI (show s < 80 by omega)
        refine lv_iload_n hx hb dX4_tracks_19 rfl (lv_at hl 3 rfl) ?_
        refine nv_ishr (x := mkT T s) (y := i) hx hb dX4_tracks_20 (by omega) (by omega) ?_
        have hb_4 := Nat.div_le_self (mkT T s) (2 ^ i)
        refine lv_iconst (v := nI 1) hx hb dX4_tracks_21 (by decide) ?_
        refine nv_iand (x := (mkT T s) / 2 ^ i) (y := 1) hx hb dX4_tracks_22 ?_
        have hb_5 := Nat.and_le_left (n := (mkT T s) / 2 ^ i) (m := 1)
        refine nv_iadd (x := bcp (mkT T s) i) (y := ((mkT T s) / 2 ^ i) &&& 1) hx hb dX4_tracks_23 ?_
        refine lv_istore_n (lv' := [(2, .int (nI ((bcp (mkT T s) i) + (((mkT T s) / 2 ^ i) &&& 1)))), (0, .ref (r 0)), (1, .int (nI s)), (3, .int (nI i))]) hx hb dX4_tracks_24 rfl hl (by decide) rfl (fun ls hl => ?_)
        refine lv_iinc (v := nI (i + 1)) (lv' := [(3, .int (nI (i + 1))), (2, .int (nI ((bcp (mkT T s) i) + (((mkT T s) / 2 ^ i) &&& 1)))), (0, .ref (r 0)), (1, .int (nI s))]) hx hb dX4_tracks_25 hl (k := 3) rfl (nI_add _ 1) (by decide) rfl (fun ls hl => ?_)
        refine lv_goto (tgt := 4) hx hb dX4_tracks_28 (by decide) ?_
        exact ih_4 (i + 1) (by omega) (by omega) _ rfl _ rfl ls (lv_sub hl [2, 3, 1, 0] rfl)
  exact loop_1 _ 0 (by decide) (Nat.lt_succ_self _) _ rfl _ rfl ls (lv_sub hl [2, 3, 1, 0] rfl)
set_option maxHeartbeats 4000000 in
set_option maxRecDepth 100000 in
theorem c_X4_stopSquare (l : Launch) (D : va_G) (K : Nat → ClassId) (r : Nat → Nat) (th sm ty pm pn sta ms : Int32) (hs : Int64) (T : TW) (Y : va_W) (t : Nat) (hI : Inv T) (ht : t < 12) : Rd l yX4_stopSquare wsX4_stopSquare ({ frames := 1, cells := 0, slots := 0, locals := 12 } : Room) D K (refO r th sm ty pm pn sta ms hs :: zC K r T :: Y) [.ref (r 0), .int (nI t)] (.int (oI (sqT T t))) := by
  refine rd_intro (cc := cX4_stopSquare) (maxL := 2) (ret := (some .int)) (by decide) rfl (Nat.le_of_ble_eq_true rfl) ?_
  intro pr en st md ar bl mt co hx hb hml hr hts hown hk hP hE ls hl
  have hown : st.vm.findClass RX4 = some md.cls := hown
  have hl : lv_has ls 2 [(0, .ref (r 0)), (1, .int (nI t))] := hl
  have F7 : (Cond.fieldLink RX4 7 "TramTollsModel" "z" "[I").before ar st = true := hts _ (List.mem_of_getElem? (i := 1) rfl)
  have inX4 : ∀ w ∈ u_ws RX4 TX4 13, w ∈ wsX4_stopSquare := fun w h => List.mem_cons_of_mem _ (List.mem_append_right _ h)
  refine lv_aload_n hx hb dX4_stopSquare_0 rfl (lv_at hl 0 rfl) ?_
  refine va_get (D := D) (ci := 4) (v := .ref (r 1)) (C := RX4) (T := TX4) (N := 13) hx hb hts inX4 hown hE.1 hP 0 rfl rfl 1 (by decide) F7 (fun _ h9 => h9) rfl dX4_stopSquare_1 ?_
  refine lv_sipush (v := nI 244) hx hb dX4_stopSquare_4 (by decide) ?_
  refine lv_iconst (v := nI 2) hx hb dX4_stopSquare_7 (by decide) ?_
  refine lv_iload_n hx hb dX4_stopSquare_8 rfl (lv_at hl 1 rfl) ?_
  refine nv_imul (x := 2) (y := t) hx hb dX4_stopSquare_9 ?_
  refine nv_iadd (x := 244) (y := 2 * t) hx hb dX4_stopSquare_10 ?_
  refine va_iald hx hb hE.1 hP 1 0 rfl rfl (pk_in (244 + (2 * t)) 288 (by omega)) dX4_stopSquare_11 ?_
  rw [pk_cl (244 + (2 * t))]
  refine top_i (y := oI (sqT T t)) (((congrArg (zT T) (show 244 + (2 * t) = 244 + 2 * t from by omega)).trans (zT_sq (by omega))).trans (show T 3 t = oI (sqT T t) from eq_sq hI (by omega))) ?_
  exact rd_iret hx hb hr hk dX4_stopSquare_12 (rfl)
set_option maxHeartbeats 4000000 in
set_option maxRecDepth 100000 in
theorem c_X4_stopPlayer (l : Launch) (D : va_G) (K : Nat → ClassId) (r : Nat → Nat) (th sm ty pm pn sta ms : Int32) (hs : Int64) (T : TW) (Y : va_W) (t : Nat) (hI : Inv T) (ht : t < 12) : Rd l yX4_stopPlayer wsX4_stopPlayer ({ frames := 1, cells := 0, slots := 0, locals := 12 } : Room) D K (refO r th sm ty pm pn sta ms hs :: zC K r T :: Y) [.ref (r 0), .int (nI t)] (.int (oI (plT T t))) := by
  refine rd_intro (cc := cX4_stopPlayer) (maxL := 2) (ret := (some .int)) (by decide) rfl (Nat.le_of_ble_eq_true rfl) ?_
  intro pr en st md ar bl mt co hx hb hml hr hts hown hk hP hE ls hl
  have hown : st.vm.findClass RX4 = some md.cls := hown
  have hl : lv_has ls 2 [(0, .ref (r 0)), (1, .int (nI t))] := hl
  have F7 : (Cond.fieldLink RX4 7 "TramTollsModel" "z" "[I").before ar st = true := hts _ (List.mem_of_getElem? (i := 1) rfl)
  have inX4 : ∀ w ∈ u_ws RX4 TX4 13, w ∈ wsX4_stopPlayer := fun w h => List.mem_cons_of_mem _ (List.mem_append_right _ h)
  refine lv_aload_n hx hb dX4_stopPlayer_0 rfl (lv_at hl 0 rfl) ?_
  refine va_get (D := D) (ci := 4) (v := .ref (r 1)) (C := RX4) (T := TX4) (N := 13) hx hb hts inX4 hown hE.1 hP 0 rfl rfl 1 (by decide) F7 (fun _ h9 => h9) rfl dX4_stopPlayer_1 ?_
  refine lv_sipush (v := nI 244) hx hb dX4_stopPlayer_4 (by decide) ?_
  refine lv_iconst (v := nI 2) hx hb dX4_stopPlayer_7 (by decide) ?_
  refine lv_iload_n hx hb dX4_stopPlayer_8 rfl (lv_at hl 1 rfl) ?_
  refine nv_imul (x := 2) (y := t) hx hb dX4_stopPlayer_9 ?_
  refine nv_iadd (x := 244) (y := 2 * t) hx hb dX4_stopPlayer_10 ?_
  refine lv_iconst (v := nI 1) hx hb dX4_stopPlayer_11 (by decide) ?_
  refine nv_iadd (x := 244 + (2 * t)) (y := 1) hx hb dX4_stopPlayer_12 ?_
  refine va_iald hx hb hE.1 hP 1 0 rfl rfl (pk_in ((244 + (2 * t)) + 1) 288 (by omega)) dX4_stopPlayer_13 ?_
  rw [pk_cl ((244 + (2 * t)) + 1)]
  refine top_i (y := oI (plT T t)) (((congrArg (zT T) (show (244 + (2 * t)) + 1 = 244 + 2 * t + 1 from by omega)).trans (zT_pl (by omega))).trans (show T 4 t = oI (plT T t) from eq_pl hI (by omega))) ?_
  exact rd_iret hx hb hr hk dX4_stopPlayer_14 (rfl)
set_option maxHeartbeats 4000000 in
set_option maxRecDepth 100000 in
theorem c_X4_isStop (l : Launch) (D : va_G) (K : Nat → ClassId) (r : Nat → Nat) (th sm ty pm pn sta ms : Int32) (hs : Int64) (T : TW) (Y : va_W) (t : Nat) (hI : Inv T) (ht : t < 12) : Rd l yX4_isStop wsX4_isStop ({ frames := 2, cells := 0, slots := 0, locals := 34 } : Room) D K (refO r th sm ty pm pn sta ms hs :: zC K r T :: Y) [.ref (r 0), .int (nI t)] (.int (bI ((sqT T t).isSome))) := by
  refine rd_intro (cc := cX4_isStop) (maxL := 2) (ret := (some .boolean)) (by decide) rfl (Nat.le_of_ble_eq_true rfl) ?_
  intro pr en st md ar bl mt co hx hb hml hr hts hown hk hP hE ls hl
  have hown : st.vm.findClass RX4 = some md.cls := hown
  have hl : lv_has ls 2 [(0, .ref (r 0)), (1, .int (nI t))] := hl
  refine lv_iload_n hx hb dX4_isStop_0 rfl (lv_at hl 1 rfl) ?_
  refine lv_iconst (v := nI 0) hx hb dX4_isStop_1 (by decide) ?_
  refine lv_bipush (v := nI 11) hx hb dX4_isStop_2 (by decide) ?_
  refine rd_S (rest := []) ⟨hx, hb, hml, hown, hts⟩ hP hE (c_X4_in l D K _ (nI t) (nI 0) (nI 11)) (va_cwS 3 hts gX4_isStop_X4_in rfl rfl rfl hn_X4_in ⟨Nat.le_of_ble_eq_true rfl, Nat.le_of_ble_eq_true rfl⟩) rfl hl.1 rfl (Nat.le_of_ble_eq_true rfl) dX4_isStop_4 ⟨Nat.zero_le _, Nat.zero_le _⟩ ?_
  refine top_i (y := bI (decide (0 ≤ t ∧ t ≤ 11))) (congrArg bI (inR_N (by decide) (by decide) (by omega))) ?_
  refine bv_if_eq (x := decide (0 ≤ t ∧ t ≤ 11)) (tgt := 23) hx hb dX4_isStop_7 (by decide) (fun c_1 => ?_) (fun c_1 => ?_)
  · have p_c_1 := of_decide_eq_false c_1
    refine lv_iconst (v := nI 0) hx hb dX4_isStop_23 (by decide) ?_
    exact rd_zret hx hb hr hk dX4_isStop_24 (by first | (simp [bI, nI_0, nI_one, c_1, p_c_1]; done) | (exfalso; omega))
  · have p_c_1 := of_decide_eq_true c_1
    refine lv_aload_n hx hb dX4_isStop_10 rfl (lv_at hl 0 rfl) ?_
    refine lv_iload_n hx hb dX4_isStop_11 rfl (lv_at hl 1 rfl) ?_
    refine rd_V (rest := []) (ci := 4) (q0 := 0) ⟨hx, hb, hml, hown, hts⟩ hP hE (c_X4_stopSquare l D K _ _ _ _ _ _ _ _ _ _ _ t hI (by omega)) (cwV 1 hts gX4_isStop_X4_stopSquare rfl rfl rfl hd_X4_stopSquare ⟨Nat.le_of_ble_eq_true rfl, Nat.le_of_ble_eq_true rfl⟩) rfl rfl rfl rfl hl.1 rfl (Nat.le_of_ble_eq_true rfl) dX4_isStop_12 ⟨Nat.zero_le _, Nat.zero_le _⟩ ?_
    refine lv_iconst (v := -1) hx hb dX4_isStop_15 (by decide) ?_
    refine ov_icmp_eq (tgt := 23) hx hb dX4_isStop_16 (by decide) (lt31 (sq_lt hI (t := t) (by omega)) (by decide)) (fun c_2 => ?_) (fun k_3 c_2 => ?_)
    · refine lv_iconst (v := nI 0) hx hb dX4_isStop_23 (by decide) ?_
      exact rd_zret hx hb hr hk dX4_isStop_24 (by first | (simp [bI, nI_0, nI_one, c_1, p_c_1, c_2]; done) | (exfalso; omega))
    · have hk_c_2 := (sq_lt hI (t := t) (by omega)) k_3 c_2
      refine lv_iconst (v := nI 1) hx hb dX4_isStop_19 (by decide) ?_
      refine lv_goto (tgt := 24) hx hb dX4_isStop_20 (by decide) ?_
      exact rd_zret hx hb hr hk dX4_isStop_24 (by first | (simp [bI, nI_0, nI_one, c_1, p_c_1, c_2]; done) | (exfalso; omega))
set_option maxHeartbeats 4000000 in
set_option maxRecDepth 100000 in
theorem c_X4_beside (l : Launch) (D : va_G) (K : Nat → ClassId) (ws : va_W) (s d : Nat) (hs : s < 80) (hd : d < 4) : Rd l yX4_beside wsX4_beside ({ frames := 2, cells := 0, slots := 0, locals := 34 } : Room) D K (ws) [.int (nI s), .int (nI d)] (.int (oI (nbT s d))) := by
  refine rd_intro (cc := cX4_beside) (maxL := 4) (ret := (some .int)) (by decide) rfl (Nat.le_of_ble_eq_true rfl) ?_
  intro pr en st md ar bl mt co hx hb hml hr hts hown hk hP hE ls hl
  have hown : st.vm.findClass RX4 = some md.cls := hown
  have hl : lv_has ls 4 [(0, .int (nI s)), (1, .int (nI d))] := hl
  rcases (show (d = 0 ∧ s / 10 = 0) ∨ (d = 0 ∧ 0 < s / 10) ∨ d = 1 ∨ d = 2 ∨ (d = 3 ∧ s % 10 = 0) ∨ (d = 3 ∧ 0 < s % 10) by omega) with ⟨rfl, hz⟩ | ⟨rfl, hz⟩ | rfl | rfl | ⟨rfl, hz⟩ | ⟨rfl, hz⟩
  · refine lv_iload_n hx hb dX4_beside_0 rfl (lv_at hl 0 rfl) ?_
    refine lv_bipush (v := nI 10) hx hb dX4_beside_1 (by decide) ?_
    refine nv_irem (x := s) (y := 10) hx hb dX4_beside_3 (by omega) (by omega) (by decide) ?_
    refine lv_iload_n hx hb dX4_beside_4 rfl (lv_at hl 1 rfl) ?_
    refine lv_iconst (v := nI 1) hx hb dX4_beside_5 (by decide) ?_
    refine nv_icmp_ne (x := 0) (y := 1) (tgt := 13) hx hb dX4_beside_6 (by decide) (by decide) (by decide) (fun c_1 => ?_) (fun c_1 => ?_)
    · refine lv_iload_n hx hb dX4_beside_13 rfl (lv_at hl 1 rfl) ?_
      refine lv_iconst (v := nI 3) hx hb dX4_beside_14 (by decide) ?_
      refine nv_icmp_ne (x := 0) (y := 3) (tgt := 22) hx hb dX4_beside_15 (by decide) (by decide) (by decide) (fun c_2 => ?_) (fun c_2 => ?_)
      · refine lv_iconst (v := nI 0) hx hb dX4_beside_22 (by decide) ?_
        refine nv_iadd (x := s % 10) (y := 0) hx hb dX4_beside_23 ?_
        refine lv_istore_n (lv' := [(2, .int (nI ((s % 10) + 0))), (0, .int (nI s)), (1, .int (nI 0))]) hx hb dX4_beside_24 rfl hl (by decide) rfl (fun ls hl => ?_)
        refine lv_iload_n hx hb dX4_beside_25 rfl (lv_at hl 1 rfl) ?_
        refine lv_bipush (v := nI 10) hx hb dX4_beside_26 (by decide) ?_
        refine nv_idiv (x := s) (y := 10) hx hb dX4_beside_28 (by omega) (by omega) (by decide) ?_
        refine lv_iload_n hx hb dX4_beside_29 rfl (lv_at hl 2 rfl) ?_
        refine nv_if_ne (x := 0) (tgt := 37) hx hb dX4_beside_30 (by decide) (by decide) (fun c_3 => ?_) (fun c_3 => ?_)
        · exact absurd c_3 (by decide)
        have n_c_3 : ¬ 0 < 0 := by omega
        refine lv_iconst (v := -1) hx hb dX4_beside_33 (by decide) ?_
        refine lv_goto (tgt := 47) hx hb dX4_beside_34 (by decide) ?_
        refine lv_iadd (x := nI (s / 10)) (y := -1) hx hb dX4_beside_47 ?_
        refine top_i (y := -1) (by rw [hz]; rfl) ?_
        refine lv_istore_n (lv' := [(3, .int (-1)), (2, .int (nI ((s % 10) + 0))), (0, .int (nI s)), (1, .int (nI 0))]) hx hb dX4_beside_48 rfl hl (by decide) rfl (fun ls hl => ?_)
        refine lv_iload_n hx hb dX4_beside_49 rfl (lv_at hl 1 rfl) ?_
        refine lv_iconst (v := nI 0) hx hb dX4_beside_50 (by decide) ?_
        refine lv_bipush (v := nI 9) hx hb dX4_beside_51 (by decide) ?_
        refine rd_S (rest := []) ⟨hx, hb, hml, hown, hts⟩ hP hE (c_X4_in l D K _ (nI ((s % 10) + 0)) (nI 0) (nI 9)) (va_cwS 3 hts gX4_beside_X4_in rfl rfl rfl hn_X4_in ⟨Nat.le_of_ble_eq_true rfl, Nat.le_of_ble_eq_true rfl⟩) rfl hl.1 rfl (Nat.le_of_ble_eq_true rfl) dX4_beside_53 ⟨Nat.zero_le _, Nat.zero_le _⟩ ?_
        refine top_i (y := bI (decide (0 ≤ (s % 10) + 0 ∧ (s % 10) + 0 ≤ 9))) (congrArg bI (inR_N (by decide) (by decide) (by omega))) ?_
        refine bv_if_eq (x := decide (0 ≤ (s % 10) + 0 ∧ (s % 10) + 0 ≤ 9)) (tgt := 78) hx hb dX4_beside_56 (by decide) (fun c_4 => ?_) (fun c_4 => ?_)
        · have p_c_4 := of_decide_eq_false c_4
          refine lv_iconst (v := -1) hx hb dX4_beside_78 (by decide) ?_
          exact rd_iret hx hb hr hk dX4_beside_79 (by unfold nbT; simp only [if_true, if_false, reduceIte, Nat.reduceEqDiff]; rw [if_neg (by omega)]; rfl)
        · have p_c_4 := of_decide_eq_true c_4
          refine lv_iload_n hx hb dX4_beside_59 rfl (lv_at hl 0 rfl) ?_
          refine lv_iconst (v := nI 0) hx hb dX4_beside_60 (by decide) ?_
          refine lv_bipush (v := nI 7) hx hb dX4_beside_61 (by decide) ?_
          refine rd_S (rest := []) ⟨hx, hb, hml, hown, hts⟩ hP hE (c_X4_in l D K _ (-1) 0 7) (va_cwS 3 hts gX4_beside_X4_in rfl rfl rfl hn_X4_in ⟨Nat.le_of_ble_eq_true rfl, Nat.le_of_ble_eq_true rfl⟩) rfl hl.1 rfl (Nat.le_of_ble_eq_true rfl) dX4_beside_63 ⟨Nat.zero_le _, Nat.zero_le _⟩ ?_
          refine bv_if_eq (x := inR 0 7 (-1)) (tgt := 78) hx hb dX4_beside_66 (by decide) (fun c_5 => ?_) (fun c_5 => ?_)
          · refine lv_iconst (v := -1) hx hb dX4_beside_78 (by decide) ?_
            exact rd_iret hx hb hr hk dX4_beside_79 (by unfold nbT; simp only [if_true, if_false, reduceIte, Nat.reduceEqDiff]; rw [if_neg (by omega)]; rfl)
          · refine lv_bipush (v := nI 10) hx hb dX4_beside_69 (by decide) ?_
            refine lv_iload_n hx hb dX4_beside_71 rfl (lv_at hl 0 rfl) ?_
            refine lv_imul (x := nI 10) (y := -1) hx hb dX4_beside_72 ?_
            refine lv_iload_n hx hb dX4_beside_73 rfl (lv_at hl 1 rfl) ?_
            refine lv_iadd (x := (nI 10) * (-1)) (y := nI ((s % 10) + 0)) hx hb dX4_beside_74 ?_
            refine lv_goto (tgt := 79) hx hb dX4_beside_75 (by decide) ?_
            exact rd_iret hx hb hr hk dX4_beside_79 (by first | exact absurd (show inR 0 7 (-1) = true from by assumption) (by decide) | exact absurd (show inR 0 9 (-1) = true from by assumption) (by decide))
      exact absurd c_2 (by decide)
    exact absurd c_1 (by decide)
  · refine lv_iload_n hx hb dX4_beside_0 rfl (lv_at hl 0 rfl) ?_
    refine lv_bipush (v := nI 10) hx hb dX4_beside_1 (by decide) ?_
    refine nv_irem (x := s) (y := 10) hx hb dX4_beside_3 (by omega) (by omega) (by decide) ?_
    refine lv_iload_n hx hb dX4_beside_4 rfl (lv_at hl 1 rfl) ?_
    refine lv_iconst (v := nI 1) hx hb dX4_beside_5 (by decide) ?_
    refine nv_icmp_ne (x := 0) (y := 1) (tgt := 13) hx hb dX4_beside_6 (by decide) (by decide) (by decide) (fun c_6 => ?_) (fun c_6 => ?_)
    · refine lv_iload_n hx hb dX4_beside_13 rfl (lv_at hl 1 rfl) ?_
      refine lv_iconst (v := nI 3) hx hb dX4_beside_14 (by decide) ?_
      refine nv_icmp_ne (x := 0) (y := 3) (tgt := 22) hx hb dX4_beside_15 (by decide) (by decide) (by decide) (fun c_7 => ?_) (fun c_7 => ?_)
      · refine lv_iconst (v := nI 0) hx hb dX4_beside_22 (by decide) ?_
        refine nv_iadd (x := s % 10) (y := 0) hx hb dX4_beside_23 ?_
        refine lv_istore_n (lv' := [(2, .int (nI ((s % 10) + 0))), (0, .int (nI s)), (1, .int (nI 0))]) hx hb dX4_beside_24 rfl hl (by decide) rfl (fun ls hl => ?_)
        refine lv_iload_n hx hb dX4_beside_25 rfl (lv_at hl 1 rfl) ?_
        refine lv_bipush (v := nI 10) hx hb dX4_beside_26 (by decide) ?_
        refine nv_idiv (x := s) (y := 10) hx hb dX4_beside_28 (by omega) (by omega) (by decide) ?_
        refine lv_iload_n hx hb dX4_beside_29 rfl (lv_at hl 2 rfl) ?_
        refine nv_if_ne (x := 0) (tgt := 37) hx hb dX4_beside_30 (by decide) (by decide) (fun c_8 => ?_) (fun c_8 => ?_)
        · exact absurd c_8 (by decide)
        have n_c_8 : ¬ 0 < 0 := by omega
        refine lv_iconst (v := -1) hx hb dX4_beside_33 (by decide) ?_
        refine lv_goto (tgt := 47) hx hb dX4_beside_34 (by decide) ?_
        refine lv_iadd (x := nI (s / 10)) (y := -1) hx hb dX4_beside_47 ?_
        refine top_i (y := nI (s / 10 - 1)) (sb_m1 hz) ?_
        refine lv_istore_n (lv' := [(3, .int (nI (s / 10 - 1))), (2, .int (nI ((s % 10) + 0))), (0, .int (nI s)), (1, .int (nI 0))]) hx hb dX4_beside_48 rfl hl (by decide) rfl (fun ls hl => ?_)
        refine lv_iload_n hx hb dX4_beside_49 rfl (lv_at hl 1 rfl) ?_
        refine lv_iconst (v := nI 0) hx hb dX4_beside_50 (by decide) ?_
        refine lv_bipush (v := nI 9) hx hb dX4_beside_51 (by decide) ?_
        refine rd_S (rest := []) ⟨hx, hb, hml, hown, hts⟩ hP hE (c_X4_in l D K _ (nI ((s % 10) + 0)) (nI 0) (nI 9)) (va_cwS 3 hts gX4_beside_X4_in rfl rfl rfl hn_X4_in ⟨Nat.le_of_ble_eq_true rfl, Nat.le_of_ble_eq_true rfl⟩) rfl hl.1 rfl (Nat.le_of_ble_eq_true rfl) dX4_beside_53 ⟨Nat.zero_le _, Nat.zero_le _⟩ ?_
        refine top_i (y := bI (decide (0 ≤ (s % 10) + 0 ∧ (s % 10) + 0 ≤ 9))) (congrArg bI (inR_N (by decide) (by decide) (by omega))) ?_
        refine bv_if_eq (x := decide (0 ≤ (s % 10) + 0 ∧ (s % 10) + 0 ≤ 9)) (tgt := 78) hx hb dX4_beside_56 (by decide) (fun c_9 => ?_) (fun c_9 => ?_)
        · have p_c_9 := of_decide_eq_false c_9
          refine lv_iconst (v := -1) hx hb dX4_beside_78 (by decide) ?_
          exact rd_iret hx hb hr hk dX4_beside_79 (by unfold nbT; simp only [if_true, if_false, reduceIte, Nat.reduceEqDiff]; rw [if_neg (by omega)]; rfl)
        · have p_c_9 := of_decide_eq_true c_9
          refine lv_iload_n hx hb dX4_beside_59 rfl (lv_at hl 0 rfl) ?_
          refine lv_iconst (v := nI 0) hx hb dX4_beside_60 (by decide) ?_
          refine lv_bipush (v := nI 7) hx hb dX4_beside_61 (by decide) ?_
          refine rd_S (rest := []) ⟨hx, hb, hml, hown, hts⟩ hP hE (c_X4_in l D K _ (nI (s / 10 - 1)) (nI 0) (nI 7)) (va_cwS 3 hts gX4_beside_X4_in rfl rfl rfl hn_X4_in ⟨Nat.le_of_ble_eq_true rfl, Nat.le_of_ble_eq_true rfl⟩) rfl hl.1 rfl (Nat.le_of_ble_eq_true rfl) dX4_beside_63 ⟨Nat.zero_le _, Nat.zero_le _⟩ ?_
          refine top_i (y := bI (decide (0 ≤ s / 10 - 1 ∧ s / 10 - 1 ≤ 7))) (congrArg bI (inR_N (by decide) (by decide) (by omega))) ?_
          refine bv_if_eq (x := decide (0 ≤ s / 10 - 1 ∧ s / 10 - 1 ≤ 7)) (tgt := 78) hx hb dX4_beside_66 (by decide) (fun c_10 => ?_) (fun c_10 => ?_)
          · have p_c_10 := of_decide_eq_false c_10
            refine lv_iconst (v := -1) hx hb dX4_beside_78 (by decide) ?_
            exact rd_iret hx hb hr hk dX4_beside_79 (by unfold nbT; simp only [if_true, if_false, reduceIte, Nat.reduceEqDiff]; rw [if_neg (by omega)]; rfl)
          · have p_c_10 := of_decide_eq_true c_10
            refine lv_bipush (v := nI 10) hx hb dX4_beside_69 (by decide) ?_
            refine lv_iload_n hx hb dX4_beside_71 rfl (lv_at hl 0 rfl) ?_
            refine nv_imul (x := 10) (y := s / 10 - 1) hx hb dX4_beside_72 ?_
            refine lv_iload_n hx hb dX4_beside_73 rfl (lv_at hl 1 rfl) ?_
            refine nv_iadd (x := 10 * (s / 10 - 1)) (y := (s % 10) + 0) hx hb dX4_beside_74 ?_
            refine lv_goto (tgt := 79) hx hb dX4_beside_75 (by decide) ?_
            exact rd_iret hx hb hr hk dX4_beside_79 (by unfold nbT; simp only [if_true, if_false, reduceIte, Nat.reduceEqDiff]; rw [if_pos (by omega)]; exact congrArg nI (by omega))
      exact absurd c_7 (by decide)
    exact absurd c_6 (by decide)
  · refine lv_iload_n hx hb dX4_beside_0 rfl (lv_at hl 0 rfl) ?_
    refine lv_bipush (v := nI 10) hx hb dX4_beside_1 (by decide) ?_
    refine nv_irem (x := s) (y := 10) hx hb dX4_beside_3 (by omega) (by omega) (by decide) ?_
    refine lv_iload_n hx hb dX4_beside_4 rfl (lv_at hl 1 rfl) ?_
    refine lv_iconst (v := nI 1) hx hb dX4_beside_5 (by decide) ?_
    refine nv_icmp_ne (x := 1) (y := 1) (tgt := 13) hx hb dX4_beside_6 (by decide) (by decide) (by decide) (fun c_11 => ?_) (fun c_11 => ?_)
    · exact absurd c_11 (by decide)
    refine lv_iconst (v := nI 1) hx hb dX4_beside_9 (by decide) ?_
    refine lv_goto (tgt := 23) hx hb dX4_beside_10 (by decide) ?_
    refine nv_iadd (x := s % 10) (y := 1) hx hb dX4_beside_23 ?_
    refine lv_istore_n (lv' := [(2, .int (nI ((s % 10) + 1))), (0, .int (nI s)), (1, .int (nI 1))]) hx hb dX4_beside_24 rfl hl (by decide) rfl (fun ls hl => ?_)
    refine lv_iload_n hx hb dX4_beside_25 rfl (lv_at hl 1 rfl) ?_
    refine lv_bipush (v := nI 10) hx hb dX4_beside_26 (by decide) ?_
    refine nv_idiv (x := s) (y := 10) hx hb dX4_beside_28 (by omega) (by omega) (by decide) ?_
    refine lv_iload_n hx hb dX4_beside_29 rfl (lv_at hl 2 rfl) ?_
    refine nv_if_ne (x := 1) (tgt := 37) hx hb dX4_beside_30 (by decide) (by decide) (fun c_12 => ?_) (fun c_12 => ?_)
    · have n_c_12 : ¬ 1 = 0 := by omega
      refine lv_iload_n hx hb dX4_beside_37 rfl (lv_at hl 2 rfl) ?_
      refine lv_iconst (v := nI 2) hx hb dX4_beside_38 (by decide) ?_
      refine nv_icmp_ne (x := 1) (y := 2) (tgt := 46) hx hb dX4_beside_39 (by decide) (by decide) (by decide) (fun c_13 => ?_) (fun c_13 => ?_)
      · refine lv_iconst (v := nI 0) hx hb dX4_beside_46 (by decide) ?_
        refine nv_iadd (x := s / 10) (y := 0) hx hb dX4_beside_47 ?_
        refine lv_istore_n (lv' := [(3, .int (nI ((s / 10) + 0))), (2, .int (nI ((s % 10) + 1))), (0, .int (nI s)), (1, .int (nI 1))]) hx hb dX4_beside_48 rfl hl (by decide) rfl (fun ls hl => ?_)
        refine lv_iload_n hx hb dX4_beside_49 rfl (lv_at hl 1 rfl) ?_
        refine lv_iconst (v := nI 0) hx hb dX4_beside_50 (by decide) ?_
        refine lv_bipush (v := nI 9) hx hb dX4_beside_51 (by decide) ?_
        refine rd_S (rest := []) ⟨hx, hb, hml, hown, hts⟩ hP hE (c_X4_in l D K _ (nI ((s % 10) + 1)) (nI 0) (nI 9)) (va_cwS 3 hts gX4_beside_X4_in rfl rfl rfl hn_X4_in ⟨Nat.le_of_ble_eq_true rfl, Nat.le_of_ble_eq_true rfl⟩) rfl hl.1 rfl (Nat.le_of_ble_eq_true rfl) dX4_beside_53 ⟨Nat.zero_le _, Nat.zero_le _⟩ ?_
        refine top_i (y := bI (decide (0 ≤ (s % 10) + 1 ∧ (s % 10) + 1 ≤ 9))) (congrArg bI (inR_N (by decide) (by decide) (by omega))) ?_
        refine bv_if_eq (x := decide (0 ≤ (s % 10) + 1 ∧ (s % 10) + 1 ≤ 9)) (tgt := 78) hx hb dX4_beside_56 (by decide) (fun c_14 => ?_) (fun c_14 => ?_)
        · have p_c_14 := of_decide_eq_false c_14
          refine lv_iconst (v := -1) hx hb dX4_beside_78 (by decide) ?_
          exact rd_iret hx hb hr hk dX4_beside_79 (by unfold nbT; simp only [if_true, if_false, reduceIte, Nat.reduceEqDiff]; rw [if_neg (by omega)]; rfl)
        · have p_c_14 := of_decide_eq_true c_14
          refine lv_iload_n hx hb dX4_beside_59 rfl (lv_at hl 0 rfl) ?_
          refine lv_iconst (v := nI 0) hx hb dX4_beside_60 (by decide) ?_
          refine lv_bipush (v := nI 7) hx hb dX4_beside_61 (by decide) ?_
          refine rd_S (rest := []) ⟨hx, hb, hml, hown, hts⟩ hP hE (c_X4_in l D K _ (nI ((s / 10) + 0)) (nI 0) (nI 7)) (va_cwS 3 hts gX4_beside_X4_in rfl rfl rfl hn_X4_in ⟨Nat.le_of_ble_eq_true rfl, Nat.le_of_ble_eq_true rfl⟩) rfl hl.1 rfl (Nat.le_of_ble_eq_true rfl) dX4_beside_63 ⟨Nat.zero_le _, Nat.zero_le _⟩ ?_
          refine top_i (y := bI (decide (0 ≤ (s / 10) + 0 ∧ (s / 10) + 0 ≤ 7))) (congrArg bI (inR_N (by decide) (by decide) (by omega))) ?_
          refine bv_if_eq (x := decide (0 ≤ (s / 10) + 0 ∧ (s / 10) + 0 ≤ 7)) (tgt := 78) hx hb dX4_beside_66 (by decide) (fun c_15 => ?_) (fun c_15 => ?_)
          · have p_c_15 := of_decide_eq_false c_15
            refine lv_iconst (v := -1) hx hb dX4_beside_78 (by decide) ?_
            exact rd_iret hx hb hr hk dX4_beside_79 (by unfold nbT; simp only [if_true, if_false, reduceIte, Nat.reduceEqDiff]; rw [if_neg (by omega)]; rfl)
          · have p_c_15 := of_decide_eq_true c_15
            refine lv_bipush (v := nI 10) hx hb dX4_beside_69 (by decide) ?_
            refine lv_iload_n hx hb dX4_beside_71 rfl (lv_at hl 0 rfl) ?_
            refine nv_imul (x := 10) (y := (s / 10) + 0) hx hb dX4_beside_72 ?_
            refine lv_iload_n hx hb dX4_beside_73 rfl (lv_at hl 1 rfl) ?_
            refine nv_iadd (x := 10 * ((s / 10) + 0)) (y := (s % 10) + 1) hx hb dX4_beside_74 ?_
            refine lv_goto (tgt := 79) hx hb dX4_beside_75 (by decide) ?_
            exact rd_iret hx hb hr hk dX4_beside_79 (by unfold nbT; simp only [if_true, if_false, reduceIte, Nat.reduceEqDiff]; rw [if_pos (by omega)]; exact congrArg nI (by omega))
      exact absurd c_13 (by decide)
    exact absurd c_12 (by decide)
  · refine lv_iload_n hx hb dX4_beside_0 rfl (lv_at hl 0 rfl) ?_
    refine lv_bipush (v := nI 10) hx hb dX4_beside_1 (by decide) ?_
    refine nv_irem (x := s) (y := 10) hx hb dX4_beside_3 (by omega) (by omega) (by decide) ?_
    refine lv_iload_n hx hb dX4_beside_4 rfl (lv_at hl 1 rfl) ?_
    refine lv_iconst (v := nI 1) hx hb dX4_beside_5 (by decide) ?_
    refine nv_icmp_ne (x := 2) (y := 1) (tgt := 13) hx hb dX4_beside_6 (by decide) (by decide) (by decide) (fun c_16 => ?_) (fun c_16 => ?_)
    · refine lv_iload_n hx hb dX4_beside_13 rfl (lv_at hl 1 rfl) ?_
      refine lv_iconst (v := nI 3) hx hb dX4_beside_14 (by decide) ?_
      refine nv_icmp_ne (x := 2) (y := 3) (tgt := 22) hx hb dX4_beside_15 (by decide) (by decide) (by decide) (fun c_17 => ?_) (fun c_17 => ?_)
      · refine lv_iconst (v := nI 0) hx hb dX4_beside_22 (by decide) ?_
        refine nv_iadd (x := s % 10) (y := 0) hx hb dX4_beside_23 ?_
        refine lv_istore_n (lv' := [(2, .int (nI ((s % 10) + 0))), (0, .int (nI s)), (1, .int (nI 2))]) hx hb dX4_beside_24 rfl hl (by decide) rfl (fun ls hl => ?_)
        refine lv_iload_n hx hb dX4_beside_25 rfl (lv_at hl 1 rfl) ?_
        refine lv_bipush (v := nI 10) hx hb dX4_beside_26 (by decide) ?_
        refine nv_idiv (x := s) (y := 10) hx hb dX4_beside_28 (by omega) (by omega) (by decide) ?_
        refine lv_iload_n hx hb dX4_beside_29 rfl (lv_at hl 2 rfl) ?_
        refine nv_if_ne (x := 2) (tgt := 37) hx hb dX4_beside_30 (by decide) (by decide) (fun c_18 => ?_) (fun c_18 => ?_)
        · have n_c_18 : ¬ 2 = 0 := by omega
          refine lv_iload_n hx hb dX4_beside_37 rfl (lv_at hl 2 rfl) ?_
          refine lv_iconst (v := nI 2) hx hb dX4_beside_38 (by decide) ?_
          refine nv_icmp_ne (x := 2) (y := 2) (tgt := 46) hx hb dX4_beside_39 (by decide) (by decide) (by decide) (fun c_19 => ?_) (fun c_19 => ?_)
          · exact absurd c_19 (by decide)
          refine lv_iconst (v := nI 1) hx hb dX4_beside_42 (by decide) ?_
          refine lv_goto (tgt := 47) hx hb dX4_beside_43 (by decide) ?_
          refine nv_iadd (x := s / 10) (y := 1) hx hb dX4_beside_47 ?_
          refine lv_istore_n (lv' := [(3, .int (nI ((s / 10) + 1))), (2, .int (nI ((s % 10) + 0))), (0, .int (nI s)), (1, .int (nI 2))]) hx hb dX4_beside_48 rfl hl (by decide) rfl (fun ls hl => ?_)
          refine lv_iload_n hx hb dX4_beside_49 rfl (lv_at hl 1 rfl) ?_
          refine lv_iconst (v := nI 0) hx hb dX4_beside_50 (by decide) ?_
          refine lv_bipush (v := nI 9) hx hb dX4_beside_51 (by decide) ?_
          refine rd_S (rest := []) ⟨hx, hb, hml, hown, hts⟩ hP hE (c_X4_in l D K _ (nI ((s % 10) + 0)) (nI 0) (nI 9)) (va_cwS 3 hts gX4_beside_X4_in rfl rfl rfl hn_X4_in ⟨Nat.le_of_ble_eq_true rfl, Nat.le_of_ble_eq_true rfl⟩) rfl hl.1 rfl (Nat.le_of_ble_eq_true rfl) dX4_beside_53 ⟨Nat.zero_le _, Nat.zero_le _⟩ ?_
          refine top_i (y := bI (decide (0 ≤ (s % 10) + 0 ∧ (s % 10) + 0 ≤ 9))) (congrArg bI (inR_N (by decide) (by decide) (by omega))) ?_
          refine bv_if_eq (x := decide (0 ≤ (s % 10) + 0 ∧ (s % 10) + 0 ≤ 9)) (tgt := 78) hx hb dX4_beside_56 (by decide) (fun c_20 => ?_) (fun c_20 => ?_)
          · have p_c_20 := of_decide_eq_false c_20
            refine lv_iconst (v := -1) hx hb dX4_beside_78 (by decide) ?_
            exact rd_iret hx hb hr hk dX4_beside_79 (by unfold nbT; simp only [if_true, if_false, reduceIte, Nat.reduceEqDiff]; rw [if_neg (by omega)]; rfl)
          · have p_c_20 := of_decide_eq_true c_20
            refine lv_iload_n hx hb dX4_beside_59 rfl (lv_at hl 0 rfl) ?_
            refine lv_iconst (v := nI 0) hx hb dX4_beside_60 (by decide) ?_
            refine lv_bipush (v := nI 7) hx hb dX4_beside_61 (by decide) ?_
            refine rd_S (rest := []) ⟨hx, hb, hml, hown, hts⟩ hP hE (c_X4_in l D K _ (nI ((s / 10) + 1)) (nI 0) (nI 7)) (va_cwS 3 hts gX4_beside_X4_in rfl rfl rfl hn_X4_in ⟨Nat.le_of_ble_eq_true rfl, Nat.le_of_ble_eq_true rfl⟩) rfl hl.1 rfl (Nat.le_of_ble_eq_true rfl) dX4_beside_63 ⟨Nat.zero_le _, Nat.zero_le _⟩ ?_
            refine top_i (y := bI (decide (0 ≤ (s / 10) + 1 ∧ (s / 10) + 1 ≤ 7))) (congrArg bI (inR_N (by decide) (by decide) (by omega))) ?_
            refine bv_if_eq (x := decide (0 ≤ (s / 10) + 1 ∧ (s / 10) + 1 ≤ 7)) (tgt := 78) hx hb dX4_beside_66 (by decide) (fun c_21 => ?_) (fun c_21 => ?_)
            · have p_c_21 := of_decide_eq_false c_21
              refine lv_iconst (v := -1) hx hb dX4_beside_78 (by decide) ?_
              exact rd_iret hx hb hr hk dX4_beside_79 (by unfold nbT; simp only [if_true, if_false, reduceIte, Nat.reduceEqDiff]; rw [if_neg (by omega)]; rfl)
            · have p_c_21 := of_decide_eq_true c_21
              refine lv_bipush (v := nI 10) hx hb dX4_beside_69 (by decide) ?_
              refine lv_iload_n hx hb dX4_beside_71 rfl (lv_at hl 0 rfl) ?_
              refine nv_imul (x := 10) (y := (s / 10) + 1) hx hb dX4_beside_72 ?_
              refine lv_iload_n hx hb dX4_beside_73 rfl (lv_at hl 1 rfl) ?_
              refine nv_iadd (x := 10 * ((s / 10) + 1)) (y := (s % 10) + 0) hx hb dX4_beside_74 ?_
              refine lv_goto (tgt := 79) hx hb dX4_beside_75 (by decide) ?_
              exact rd_iret hx hb hr hk dX4_beside_79 (by unfold nbT; simp only [if_true, if_false, reduceIte, Nat.reduceEqDiff]; rw [if_pos (by omega)]; exact congrArg nI (by omega))
        exact absurd c_18 (by decide)
      exact absurd c_17 (by decide)
    exact absurd c_16 (by decide)
  · refine lv_iload_n hx hb dX4_beside_0 rfl (lv_at hl 0 rfl) ?_
    refine lv_bipush (v := nI 10) hx hb dX4_beside_1 (by decide) ?_
    refine nv_irem (x := s) (y := 10) hx hb dX4_beside_3 (by omega) (by omega) (by decide) ?_
    refine lv_iload_n hx hb dX4_beside_4 rfl (lv_at hl 1 rfl) ?_
    refine lv_iconst (v := nI 1) hx hb dX4_beside_5 (by decide) ?_
    refine nv_icmp_ne (x := 3) (y := 1) (tgt := 13) hx hb dX4_beside_6 (by decide) (by decide) (by decide) (fun c_22 => ?_) (fun c_22 => ?_)
    · refine lv_iload_n hx hb dX4_beside_13 rfl (lv_at hl 1 rfl) ?_
      refine lv_iconst (v := nI 3) hx hb dX4_beside_14 (by decide) ?_
      refine nv_icmp_ne (x := 3) (y := 3) (tgt := 22) hx hb dX4_beside_15 (by decide) (by decide) (by decide) (fun c_23 => ?_) (fun c_23 => ?_)
      · exact absurd c_23 (by decide)
      refine lv_iconst (v := -1) hx hb dX4_beside_18 (by decide) ?_
      refine lv_goto (tgt := 23) hx hb dX4_beside_19 (by decide) ?_
      refine lv_iadd (x := nI (s % 10)) (y := -1) hx hb dX4_beside_23 ?_
      refine top_i (y := -1) (by rw [hz]; rfl) ?_
      refine lv_istore_n (lv' := [(2, .int (-1)), (0, .int (nI s)), (1, .int (nI 3))]) hx hb dX4_beside_24 rfl hl (by decide) rfl (fun ls hl => ?_)
      refine lv_iload_n hx hb dX4_beside_25 rfl (lv_at hl 1 rfl) ?_
      refine lv_bipush (v := nI 10) hx hb dX4_beside_26 (by decide) ?_
      refine nv_idiv (x := s) (y := 10) hx hb dX4_beside_28 (by omega) (by omega) (by decide) ?_
      refine lv_iload_n hx hb dX4_beside_29 rfl (lv_at hl 2 rfl) ?_
      refine nv_if_ne (x := 3) (tgt := 37) hx hb dX4_beside_30 (by decide) (by decide) (fun c_24 => ?_) (fun c_24 => ?_)
      · have n_c_24 : ¬ 3 = 0 := by omega
        refine lv_iload_n hx hb dX4_beside_37 rfl (lv_at hl 2 rfl) ?_
        refine lv_iconst (v := nI 2) hx hb dX4_beside_38 (by decide) ?_
        refine nv_icmp_ne (x := 3) (y := 2) (tgt := 46) hx hb dX4_beside_39 (by decide) (by decide) (by decide) (fun c_25 => ?_) (fun c_25 => ?_)
        · refine lv_iconst (v := nI 0) hx hb dX4_beside_46 (by decide) ?_
          refine nv_iadd (x := s / 10) (y := 0) hx hb dX4_beside_47 ?_
          refine lv_istore_n (lv' := [(3, .int (nI ((s / 10) + 0))), (2, .int (-1)), (0, .int (nI s)), (1, .int (nI 3))]) hx hb dX4_beside_48 rfl hl (by decide) rfl (fun ls hl => ?_)
          refine lv_iload_n hx hb dX4_beside_49 rfl (lv_at hl 1 rfl) ?_
          refine lv_iconst (v := nI 0) hx hb dX4_beside_50 (by decide) ?_
          refine lv_bipush (v := nI 9) hx hb dX4_beside_51 (by decide) ?_
          refine rd_S (rest := []) ⟨hx, hb, hml, hown, hts⟩ hP hE (c_X4_in l D K _ (-1) 0 9) (va_cwS 3 hts gX4_beside_X4_in rfl rfl rfl hn_X4_in ⟨Nat.le_of_ble_eq_true rfl, Nat.le_of_ble_eq_true rfl⟩) rfl hl.1 rfl (Nat.le_of_ble_eq_true rfl) dX4_beside_53 ⟨Nat.zero_le _, Nat.zero_le _⟩ ?_
          refine bv_if_eq (x := inR 0 9 (-1)) (tgt := 78) hx hb dX4_beside_56 (by decide) (fun c_26 => ?_) (fun c_26 => ?_)
          · refine lv_iconst (v := -1) hx hb dX4_beside_78 (by decide) ?_
            exact rd_iret hx hb hr hk dX4_beside_79 (by unfold nbT; simp only [if_true, if_false, reduceIte, Nat.reduceEqDiff]; rw [if_neg (by omega)]; rfl)
          · refine lv_iload_n hx hb dX4_beside_59 rfl (lv_at hl 0 rfl) ?_
            refine lv_iconst (v := nI 0) hx hb dX4_beside_60 (by decide) ?_
            refine lv_bipush (v := nI 7) hx hb dX4_beside_61 (by decide) ?_
            refine rd_S (rest := []) ⟨hx, hb, hml, hown, hts⟩ hP hE (c_X4_in l D K _ (nI ((s / 10) + 0)) (nI 0) (nI 7)) (va_cwS 3 hts gX4_beside_X4_in rfl rfl rfl hn_X4_in ⟨Nat.le_of_ble_eq_true rfl, Nat.le_of_ble_eq_true rfl⟩) rfl hl.1 rfl (Nat.le_of_ble_eq_true rfl) dX4_beside_63 ⟨Nat.zero_le _, Nat.zero_le _⟩ ?_
            refine top_i (y := bI (decide (0 ≤ (s / 10) + 0 ∧ (s / 10) + 0 ≤ 7))) (congrArg bI (inR_N (by decide) (by decide) (by omega))) ?_
            refine bv_if_eq (x := decide (0 ≤ (s / 10) + 0 ∧ (s / 10) + 0 ≤ 7)) (tgt := 78) hx hb dX4_beside_66 (by decide) (fun c_27 => ?_) (fun c_27 => ?_)
            · have p_c_27 := of_decide_eq_false c_27
              refine lv_iconst (v := -1) hx hb dX4_beside_78 (by decide) ?_
              exact rd_iret hx hb hr hk dX4_beside_79 (by unfold nbT; simp only [if_true, if_false, reduceIte, Nat.reduceEqDiff]; rw [if_neg (by omega)]; rfl)
            · have p_c_27 := of_decide_eq_true c_27
              refine lv_bipush (v := nI 10) hx hb dX4_beside_69 (by decide) ?_
              refine lv_iload_n hx hb dX4_beside_71 rfl (lv_at hl 0 rfl) ?_
              refine nv_imul (x := 10) (y := (s / 10) + 0) hx hb dX4_beside_72 ?_
              refine lv_iload_n hx hb dX4_beside_73 rfl (lv_at hl 1 rfl) ?_
              refine lv_iadd (x := nI (10 * ((s / 10) + 0))) (y := -1) hx hb dX4_beside_74 ?_
              refine lv_goto (tgt := 79) hx hb dX4_beside_75 (by decide) ?_
              exact rd_iret hx hb hr hk dX4_beside_79 (by first | exact absurd (show inR 0 7 (-1) = true from by assumption) (by decide) | exact absurd (show inR 0 9 (-1) = true from by assumption) (by decide))
        exact absurd c_25 (by decide)
      exact absurd c_24 (by decide)
    exact absurd c_22 (by decide)
  · refine lv_iload_n hx hb dX4_beside_0 rfl (lv_at hl 0 rfl) ?_
    refine lv_bipush (v := nI 10) hx hb dX4_beside_1 (by decide) ?_
    refine nv_irem (x := s) (y := 10) hx hb dX4_beside_3 (by omega) (by omega) (by decide) ?_
    refine lv_iload_n hx hb dX4_beside_4 rfl (lv_at hl 1 rfl) ?_
    refine lv_iconst (v := nI 1) hx hb dX4_beside_5 (by decide) ?_
    refine nv_icmp_ne (x := 3) (y := 1) (tgt := 13) hx hb dX4_beside_6 (by decide) (by decide) (by decide) (fun c_28 => ?_) (fun c_28 => ?_)
    · refine lv_iload_n hx hb dX4_beside_13 rfl (lv_at hl 1 rfl) ?_
      refine lv_iconst (v := nI 3) hx hb dX4_beside_14 (by decide) ?_
      refine nv_icmp_ne (x := 3) (y := 3) (tgt := 22) hx hb dX4_beside_15 (by decide) (by decide) (by decide) (fun c_29 => ?_) (fun c_29 => ?_)
      · exact absurd c_29 (by decide)
      refine lv_iconst (v := -1) hx hb dX4_beside_18 (by decide) ?_
      refine lv_goto (tgt := 23) hx hb dX4_beside_19 (by decide) ?_
      refine lv_iadd (x := nI (s % 10)) (y := -1) hx hb dX4_beside_23 ?_
      refine top_i (y := nI (s % 10 - 1)) (sb_m1 hz) ?_
      refine lv_istore_n (lv' := [(2, .int (nI (s % 10 - 1))), (0, .int (nI s)), (1, .int (nI 3))]) hx hb dX4_beside_24 rfl hl (by decide) rfl (fun ls hl => ?_)
      refine lv_iload_n hx hb dX4_beside_25 rfl (lv_at hl 1 rfl) ?_
      refine lv_bipush (v := nI 10) hx hb dX4_beside_26 (by decide) ?_
      refine nv_idiv (x := s) (y := 10) hx hb dX4_beside_28 (by omega) (by omega) (by decide) ?_
      refine lv_iload_n hx hb dX4_beside_29 rfl (lv_at hl 2 rfl) ?_
      refine nv_if_ne (x := 3) (tgt := 37) hx hb dX4_beside_30 (by decide) (by decide) (fun c_30 => ?_) (fun c_30 => ?_)
      · have n_c_30 : ¬ 3 = 0 := by omega
        refine lv_iload_n hx hb dX4_beside_37 rfl (lv_at hl 2 rfl) ?_
        refine lv_iconst (v := nI 2) hx hb dX4_beside_38 (by decide) ?_
        refine nv_icmp_ne (x := 3) (y := 2) (tgt := 46) hx hb dX4_beside_39 (by decide) (by decide) (by decide) (fun c_31 => ?_) (fun c_31 => ?_)
        · refine lv_iconst (v := nI 0) hx hb dX4_beside_46 (by decide) ?_
          refine nv_iadd (x := s / 10) (y := 0) hx hb dX4_beside_47 ?_
          refine lv_istore_n (lv' := [(3, .int (nI ((s / 10) + 0))), (2, .int (nI (s % 10 - 1))), (0, .int (nI s)), (1, .int (nI 3))]) hx hb dX4_beside_48 rfl hl (by decide) rfl (fun ls hl => ?_)
          refine lv_iload_n hx hb dX4_beside_49 rfl (lv_at hl 1 rfl) ?_
          refine lv_iconst (v := nI 0) hx hb dX4_beside_50 (by decide) ?_
          refine lv_bipush (v := nI 9) hx hb dX4_beside_51 (by decide) ?_
          refine rd_S (rest := []) ⟨hx, hb, hml, hown, hts⟩ hP hE (c_X4_in l D K _ (nI (s % 10 - 1)) (nI 0) (nI 9)) (va_cwS 3 hts gX4_beside_X4_in rfl rfl rfl hn_X4_in ⟨Nat.le_of_ble_eq_true rfl, Nat.le_of_ble_eq_true rfl⟩) rfl hl.1 rfl (Nat.le_of_ble_eq_true rfl) dX4_beside_53 ⟨Nat.zero_le _, Nat.zero_le _⟩ ?_
          refine top_i (y := bI (decide (0 ≤ s % 10 - 1 ∧ s % 10 - 1 ≤ 9))) (congrArg bI (inR_N (by decide) (by decide) (by omega))) ?_
          refine bv_if_eq (x := decide (0 ≤ s % 10 - 1 ∧ s % 10 - 1 ≤ 9)) (tgt := 78) hx hb dX4_beside_56 (by decide) (fun c_32 => ?_) (fun c_32 => ?_)
          · have p_c_32 := of_decide_eq_false c_32
            refine lv_iconst (v := -1) hx hb dX4_beside_78 (by decide) ?_
            exact rd_iret hx hb hr hk dX4_beside_79 (by unfold nbT; simp only [if_true, if_false, reduceIte, Nat.reduceEqDiff]; rw [if_neg (by omega)]; rfl)
          · have p_c_32 := of_decide_eq_true c_32
            refine lv_iload_n hx hb dX4_beside_59 rfl (lv_at hl 0 rfl) ?_
            refine lv_iconst (v := nI 0) hx hb dX4_beside_60 (by decide) ?_
            refine lv_bipush (v := nI 7) hx hb dX4_beside_61 (by decide) ?_
            refine rd_S (rest := []) ⟨hx, hb, hml, hown, hts⟩ hP hE (c_X4_in l D K _ (nI ((s / 10) + 0)) (nI 0) (nI 7)) (va_cwS 3 hts gX4_beside_X4_in rfl rfl rfl hn_X4_in ⟨Nat.le_of_ble_eq_true rfl, Nat.le_of_ble_eq_true rfl⟩) rfl hl.1 rfl (Nat.le_of_ble_eq_true rfl) dX4_beside_63 ⟨Nat.zero_le _, Nat.zero_le _⟩ ?_
            refine top_i (y := bI (decide (0 ≤ (s / 10) + 0 ∧ (s / 10) + 0 ≤ 7))) (congrArg bI (inR_N (by decide) (by decide) (by omega))) ?_
            refine bv_if_eq (x := decide (0 ≤ (s / 10) + 0 ∧ (s / 10) + 0 ≤ 7)) (tgt := 78) hx hb dX4_beside_66 (by decide) (fun c_33 => ?_) (fun c_33 => ?_)
            · have p_c_33 := of_decide_eq_false c_33
              refine lv_iconst (v := -1) hx hb dX4_beside_78 (by decide) ?_
              exact rd_iret hx hb hr hk dX4_beside_79 (by unfold nbT; simp only [if_true, if_false, reduceIte, Nat.reduceEqDiff]; rw [if_neg (by omega)]; rfl)
            · have p_c_33 := of_decide_eq_true c_33
              refine lv_bipush (v := nI 10) hx hb dX4_beside_69 (by decide) ?_
              refine lv_iload_n hx hb dX4_beside_71 rfl (lv_at hl 0 rfl) ?_
              refine nv_imul (x := 10) (y := (s / 10) + 0) hx hb dX4_beside_72 ?_
              refine lv_iload_n hx hb dX4_beside_73 rfl (lv_at hl 1 rfl) ?_
              refine nv_iadd (x := 10 * ((s / 10) + 0)) (y := s % 10 - 1) hx hb dX4_beside_74 ?_
              refine lv_goto (tgt := 79) hx hb dX4_beside_75 (by decide) ?_
              exact rd_iret hx hb hr hk dX4_beside_79 (by unfold nbT; simp only [if_true, if_false, reduceIte, Nat.reduceEqDiff]; rw [if_pos (by omega)]; exact congrArg nI (by omega))
        exact absurd c_31 (by decide)
      exact absurd c_30 (by decide)
    exact absurd c_28 (by decide)
set_option maxHeartbeats 4000000 in
set_option maxRecDepth 100000 in
theorem c_X4_freeStop (l : Launch) (D : va_G) (K : Nat → ClassId) (r : Nat → Nat) (th sm ty pm pn sta ms : Int32) (hs : Int64) (T : TW) (Y : va_W)  (hI : Inv T)  : Rd l yX4_freeStop wsX4_freeStop ({ frames := 2, cells := 0, slots := 0, locals := 33 } : Room) D K (refO r th sm ty pm pn sta ms hs :: zC K r T :: Y) [.ref (r 0)] (.int (oI (lowT T none))) := by
  refine rd_intro (cc := cX4_freeStop) (maxL := 3) (ret := (some .int)) (by decide) rfl (Nat.le_of_ble_eq_true rfl) ?_
  intro pr en st md ar bl mt co hx hb hml hr hts hown hk hP hE ls hl
  have hown : st.vm.findClass RX4 = some md.cls := hown
  have hl : lv_has ls 3 [(0, .ref (r 0))] := hl
  refine lv_iconst (v := -1) hx hb dX4_freeStop_0 (by decide) ?_
  refine lv_istore_n (lv' := [(1, .int (-1)), (0, .ref (r 0))]) hx hb dX4_freeStop_1 rfl hl (by decide) rfl (fun ls hl => ?_)
  refine lv_bipush (v := nI 11) hx hb dX4_freeStop_2 (by decide) ?_
  refine lv_istore_n (lv' := [(2, .int (nI 11)), (1, .int (-1)), (0, .ref (r 0))]) hx hb dX4_freeStop_4 rfl hl (by decide) rfl (fun ls hl => ?_)
  have loop_1 : ∀ (n_5 : Nat) (i : Nat), (i ≤ 12) → i < n_5 →  ∀ x_1 : Int32, x_1 = oI (ff (fun t_ => decide (sqT T t_ = none)) i (12 - i)) → ∀ x_2 : Int32, x_2 = nI i + (-1) → ∀ ls : Array Slot, lv_has ls 3 [(0, .ref (r 0)), (1, .int x_1), (2, .int x_2)] → W pr l en (headSpec wsX4_freeStop ({ frames := 2, cells := 0, slots := 0, locals := 33 } : Room)).room st md ar bl mt co st.heap [] 0 0 (MQ bl (rdQ (.int (oI (lowT T none)))) ar st 0 0 (fun _ => False)) (F0 md 5 ls []) := by
    intro n_5
    induction n_5 with
    | zero => intro i _ hn_5; exact absurd hn_5 (Nat.not_lt_zero _)
    | succ n_5 ih_5 =>
      intro i hi hn_5 x_1 ex_1 x_2 ex_2 ls hl
      subst ex_1
      subst ex_2
      have hl : lv_has ls 3 [(0, .ref (r 0)), (1, .int (oI (ff (fun t_ => decide (sqT T t_ = none)) i (12 - i)))), (2, .int (nI i + (-1)))] := hl
      refine lv_iload_n hx hb dX4_freeStop_5 rfl (lv_at hl 2 rfl) ?_
      refine lv_if_lt (x := nI i + (-1)) (tgt := 30) hx hb dX4_freeStop_6 (by decide) (fun c_2 => ?_) (fun c_2 => ?_)
      · have hi0 := (m1_lt (by omega)).mp c_2
        refine lv_iload_n hx hb dX4_freeStop_30 rfl (lv_at hl 1 rfl) ?_
        exact rd_iret hx hb hr hk dX4_freeStop_31 (by (rw [hi0]) <;> rfl)
      · have hpos : 0 < i := Nat.pos_of_ne_zero fun q => c_2 ((m1_lt (by omega)).mpr q)
        refine lv_aload_n hx hb dX4_freeStop_9 rfl (lv_at hl 0 rfl) ?_
        refine lv_iload_n hx hb dX4_freeStop_10 rfl (lv_at hl 2 rfl) ?_
        refine top_i (y := nI (i - 1)) (sb_m1 hpos) ?_
        refine rd_V (rest := []) (ci := 4) (q0 := 0) ⟨hx, hb, hml, hown, hts⟩ hP hE (c_X4_stopSquare l D K _ _ _ _ _ _ _ _ _ _ _ (i - 1) hI (by omega)) (cwV 1 hts gX4_freeStop_X4_stopSquare rfl rfl rfl hd_X4_stopSquare ⟨Nat.le_of_ble_eq_true rfl, Nat.le_of_ble_eq_true rfl⟩) rfl rfl rfl rfl hl.1 rfl (Nat.le_of_ble_eq_true rfl) dX4_freeStop_11 ⟨Nat.zero_le _, Nat.zero_le _⟩ ?_
        refine lv_iconst (v := -1) hx hb dX4_freeStop_14 (by decide) ?_
        refine ov_icmp_ne (tgt := 22) hx hb dX4_freeStop_15 (by decide) (lt31 (sq_lt hI (t := (i - 1)) (by omega)) (by decide)) (fun k_4 c_3 => ?_) (fun c_3 => ?_)
        · have hk_c_3 := (sq_lt hI (t := (i - 1)) (by omega)) k_4 c_3
          refine lv_iload_n hx hb dX4_freeStop_22 rfl (lv_at hl 1 rfl) ?_
          refine lv_istore_n (lv' := [(1, .int (oI (ff (fun t_ => decide (sqT T t_ = none)) i (12 - i)))), (0, .ref (r 0)), (2, .int (nI i + (-1)))]) hx hb dX4_freeStop_23 rfl hl (by decide) rfl (fun ls hl => ?_)
          refine lv_iinc (v := (nI i + (-1)) + (-1)) (lv' := [(2, .int ((nI i + (-1)) + (-1))), (1, .int (oI (ff (fun t_ => decide (sqT T t_ = none)) i (12 - i)))), (0, .ref (r 0))]) hx hb dX4_freeStop_24 hl (k := 2) rfl (rfl) (by decide) rfl (fun ls hl => ?_)
          refine lv_goto (tgt := 5) hx hb dX4_freeStop_27 (by decide) ?_
          exact ih_5 (i - 1) (by omega) (by omega) _ (by rw [ff_down (b := 12) hpos (by omega)]; simp [oI_n, oI_s, c_2, c_3]) _ (by rw [sb_m1 hpos]) ls (lv_sub hl [2, 1, 0] rfl)
        · refine lv_iload_n hx hb dX4_freeStop_18 rfl (lv_at hl 2 rfl) ?_
          refine top_i (y := nI (i - 1)) (sb_m1 hpos) ?_
          refine lv_goto (tgt := 23) hx hb dX4_freeStop_19 (by decide) ?_
          refine lv_istore_n (lv' := [(1, .int (nI (i - 1))), (0, .ref (r 0)), (2, .int (nI i + (-1)))]) hx hb dX4_freeStop_23 rfl hl (by decide) rfl (fun ls hl => ?_)
          refine lv_iinc (v := (nI i + (-1)) + (-1)) (lv' := [(2, .int ((nI i + (-1)) + (-1))), (1, .int (nI (i - 1))), (0, .ref (r 0))]) hx hb dX4_freeStop_24 hl (k := 2) rfl (rfl) (by decide) rfl (fun ls hl => ?_)
          refine lv_goto (tgt := 5) hx hb dX4_freeStop_27 (by decide) ?_
          exact ih_5 (i - 1) (by omega) (by omega) _ (by rw [ff_down (b := 12) hpos (by omega)]; simp [oI_n, oI_s, c_2, c_3]) _ (by rw [sb_m1 hpos]) ls (lv_sub hl [2, 1, 0] rfl)
  exact loop_1 _ 12 (by decide) (Nat.lt_succ_self _) _ rfl _ rfl ls (lv_sub hl [2, 1, 0] rfl)
set_option maxHeartbeats 4000000 in
set_option maxRecDepth 100000 in
theorem c_X4_lowestOn (l : Launch) (D : va_G) (K : Nat → ClassId) (r : Nat → Nat) (th sm ty pm pn sta ms : Int32) (hs : Int64) (T : TW) (Y : va_W) (s : Nat) (hI : Inv T) (hs80 : s < 80) : Rd l yX4_lowestOn wsX4_lowestOn ({ frames := 2, cells := 0, slots := 0, locals := 34 } : Room) D K (refO r th sm ty pm pn sta ms hs :: zC K r T :: Y) [.ref (r 0), .int (nI s)] (.int (oI (ff (fun t_ => hasT T t_ s) 0 4))) := by
  refine rd_intro (cc := cX4_lowestOn) (maxL := 4) (ret := (some .int)) (by decide) rfl (Nat.le_of_ble_eq_true rfl) ?_
  intro pr en st md ar bl mt co hx hb hml hr hts hown hk hP hE ls hl
  have hown : st.vm.findClass RX4 = some md.cls := hown
  have hl : lv_has ls 4 [(0, .ref (r 0)), (1, .int (nI s))] := hl
  refine lv_iconst (v := -1) hx hb dX4_lowestOn_0 (by decide) ?_
  refine lv_istore_n (lv' := [(2, .int (-1)), (0, .ref (r 0)), (1, .int (nI s))]) hx hb dX4_lowestOn_1 rfl hl (by decide) rfl (fun ls hl => ?_)
  refine lv_iconst (v := nI 3) hx hb dX4_lowestOn_2 (by decide) ?_
  refine lv_istore_n (lv' := [(3, .int (nI 3)), (2, .int (-1)), (0, .ref (r 0)), (1, .int (nI s))]) hx hb dX4_lowestOn_3 rfl hl (by decide) rfl (fun ls hl => ?_)
  have loop_1 : ∀ (n_4 : Nat) (i : Nat), (i ≤ 4) → i < n_4 →  ∀ x_2 : Int32, x_2 = oI (ff (fun t_ => hasT T t_ s) i (4 - i)) → ∀ x_3 : Int32, x_3 = nI i + (-1) → ∀ ls : Array Slot, lv_has ls 4 [(0, .ref (r 0)), (1, .int (nI s)), (2, .int x_2), (3, .int x_3)] → W pr l en (headSpec wsX4_lowestOn ({ frames := 2, cells := 0, slots := 0, locals := 34 } : Room)).room st md ar bl mt co st.heap [] 0 0 (MQ bl (rdQ (.int (oI (ff (fun t_ => hasT T t_ s) 0 4)))) ar st 0 0 (fun _ => False)) (F0 md 4 ls []) := by
    intro n_4
    induction n_4 with
    | zero => intro i _ hn_4; exact absurd hn_4 (Nat.not_lt_zero _)
    | succ n_4 ih_4 =>
      intro i hi hn_4 x_2 ex_2 x_3 ex_3 ls hl
      subst ex_2
      subst ex_3
      have hl : lv_has ls 4 [(0, .ref (r 0)), (1, .int (nI s)), (2, .int (oI (ff (fun t_ => hasT T t_ s) i (4 - i)))), (3, .int (nI i + (-1)))] := hl
      refine lv_iload_n hx hb dX4_lowestOn_4 rfl (lv_at hl 3 rfl) ?_
      refine lv_if_lt (x := nI i + (-1)) (tgt := 29) hx hb dX4_lowestOn_5 (by decide) (fun c_2 => ?_) (fun c_2 => ?_)
      · have hi0 := (m1_lt (by omega)).mp c_2
        refine lv_iload_n hx hb dX4_lowestOn_29 rfl (lv_at hl 2 rfl) ?_
        exact rd_iret hx hb hr hk dX4_lowestOn_30 (by (rw [hi0]) <;> rfl)
      · have hpos : 0 < i := Nat.pos_of_ne_zero fun q => c_2 ((m1_lt (by omega)).mpr q)
        refine lv_aload_n hx hb dX4_lowestOn_8 rfl (lv_at hl 0 rfl) ?_
        refine lv_iload_n hx hb dX4_lowestOn_9 rfl (lv_at hl 3 rfl) ?_
        refine top_i (y := nI (i - 1)) (sb_m1 hpos) ?_
        refine lv_iload_n hx hb dX4_lowestOn_10 rfl (lv_at hl 1 rfl) ?_
        refine rd_V (rest := []) (ci := 4) (q0 := 0) ⟨hx, hb, hml, hown, hts⟩ hP hE (c_X4_hasTrack l D K _ _ _ _ _ _ _ _ _ _ _ (i - 1) s hI (by omega) (by omega)) (cwV 2 hts gX4_lowestOn_X4_hasTrack rfl rfl rfl hd_X4_hasTrack ⟨Nat.le_of_ble_eq_true rfl, Nat.le_of_ble_eq_true rfl⟩) rfl rfl rfl rfl hl.1 rfl (Nat.le_of_ble_eq_true rfl) dX4_lowestOn_11 ⟨Nat.zero_le _, Nat.zero_le _⟩ ?_
        refine bv_if_eq (x := hasT T (i - 1) s) (tgt := 21) hx hb dX4_lowestOn_14 (by decide) (fun c_3 => ?_) (fun c_3 => ?_)
        · refine lv_iload_n hx hb dX4_lowestOn_21 rfl (lv_at hl 2 rfl) ?_
          refine lv_istore_n (lv' := [(2, .int (oI (ff (fun t_ => hasT T t_ s) i (4 - i)))), (0, .ref (r 0)), (1, .int (nI s)), (3, .int (nI i + (-1)))]) hx hb dX4_lowestOn_22 rfl hl (by decide) rfl (fun ls hl => ?_)
          refine lv_iinc (v := (nI i + (-1)) + (-1)) (lv' := [(3, .int ((nI i + (-1)) + (-1))), (2, .int (oI (ff (fun t_ => hasT T t_ s) i (4 - i)))), (0, .ref (r 0)), (1, .int (nI s))]) hx hb dX4_lowestOn_23 hl (k := 3) rfl (rfl) (by decide) rfl (fun ls hl => ?_)
          refine lv_goto (tgt := 4) hx hb dX4_lowestOn_26 (by decide) ?_
          exact ih_4 (i - 1) (by omega) (by omega) _ (by rw [ff_down (b := 4) hpos (by omega)]; simp [oI_n, oI_s, c_2, c_3]) _ (by rw [sb_m1 hpos]) ls (lv_sub hl [2, 3, 1, 0] rfl)
        · refine lv_iload_n hx hb dX4_lowestOn_17 rfl (lv_at hl 3 rfl) ?_
          refine top_i (y := nI (i - 1)) (sb_m1 hpos) ?_
          refine lv_goto (tgt := 22) hx hb dX4_lowestOn_18 (by decide) ?_
          refine lv_istore_n (lv' := [(2, .int (nI (i - 1))), (0, .ref (r 0)), (1, .int (nI s)), (3, .int (nI i + (-1)))]) hx hb dX4_lowestOn_22 rfl hl (by decide) rfl (fun ls hl => ?_)
          refine lv_iinc (v := (nI i + (-1)) + (-1)) (lv' := [(3, .int ((nI i + (-1)) + (-1))), (2, .int (nI (i - 1))), (0, .ref (r 0)), (1, .int (nI s))]) hx hb dX4_lowestOn_23 hl (k := 3) rfl (rfl) (by decide) rfl (fun ls hl => ?_)
          refine lv_goto (tgt := 4) hx hb dX4_lowestOn_26 (by decide) ?_
          exact ih_4 (i - 1) (by omega) (by omega) _ (by rw [ff_down (b := 4) hpos (by omega)]; simp [oI_n, oI_s, c_2, c_3]) _ (by rw [sb_m1 hpos]) ls (lv_sub hl [2, 3, 1, 0] rfl)
  exact loop_1 _ 4 (by decide) (Nat.lt_succ_self _) _ rfl _ rfl ls (lv_sub hl [2, 3, 1, 0] rfl)
set_option maxHeartbeats 4000000 in
set_option maxRecDepth 100000 in
theorem c_X4_stopOn (l : Launch) (D : va_G) (K : Nat → ClassId) (r : Nat → Nat) (th sm ty pm pn sta ms : Int32) (hs : Int64) (T : TW) (Y : va_W) (q v : Option Nat) (hI : Inv T) (hq : ∀ k, q = some k → k < 80) (hv : ∀ k, v = some k → k < 4) : Rd l yX4_stopOn wsX4_stopOn ({ frames := 2, cells := 0, slots := 0, locals := 33 } : Room) D K (refO r th sm ty pm pn sta ms hs :: zC K r T :: Y) [.ref (r 0), .int (oI q), .int (oI v)] (.int (oI (stoT T q v))) := by
  refine rd_intro (cc := cX4_stopOn) (maxL := 5) (ret := (some .int)) (by decide) rfl (Nat.le_of_ble_eq_true rfl) ?_
  intro pr en st md ar bl mt co hx hb hml hr hts hown hk hP hE ls hl
  have hown : st.vm.findClass RX4 = some md.cls := hown
  have hl : lv_has ls 5 [(0, .ref (r 0)), (1, .int (oI q)), (2, .int (oI v))] := hl
  refine lv_iconst (v := -1) hx hb dX4_stopOn_0 (by decide) ?_
  refine lv_istore_n (lv' := [(3, .int (-1)), (0, .ref (r 0)), (1, .int (oI q)), (2, .int (oI v))]) hx hb dX4_stopOn_1 rfl hl (by decide) rfl (fun ls hl => ?_)
  refine lv_bipush (v := nI 11) hx hb dX4_stopOn_2 (by decide) ?_
  refine lv_istore (lv' := [(4, .int (nI 11)), (3, .int (-1)), (0, .ref (r 0)), (1, .int (oI q)), (2, .int (oI v))]) hx hb dX4_stopOn_4 hl (by decide) rfl (fun ls hl => ?_)
  have loop_1 : ∀ (n_6 : Nat) (i : Nat), (i ≤ 12) → i < n_6 →  ∀ x_3 : Int32, x_3 = oI (ff (fun t_ => decide (sqT T t_ = q) && (decide (v = none) || decide (plT T t_ = v))) i (12 - i)) → ∀ x_4 : Int32, x_4 = nI i + (-1) → ∀ ls : Array Slot, lv_has ls 5 [(0, .ref (r 0)), (1, .int (oI q)), (2, .int (oI v)), (3, .int x_3), (4, .int x_4)] → W pr l en (headSpec wsX4_stopOn ({ frames := 2, cells := 0, slots := 0, locals := 33 } : Room)).room st md ar bl mt co st.heap [] 0 0 (MQ bl (rdQ (.int (oI (stoT T q v)))) ar st 0 0 (fun _ => False)) (F0 md 6 ls []) := by
    intro n_6
    induction n_6 with
    | zero => intro i _ hn_6; exact absurd hn_6 (Nat.not_lt_zero _)
    | succ n_6 ih_6 =>
      intro i hi hn_6 x_3 ex_3 x_4 ex_4 ls hl
      subst ex_3
      subst ex_4
      have hl : lv_has ls 5 [(0, .ref (r 0)), (1, .int (oI q)), (2, .int (oI v)), (3, .int (oI (ff (fun t_ => decide (sqT T t_ = q) && (decide (v = none) || decide (plT T t_ = v))) i (12 - i)))), (4, .int (nI i + (-1)))] := hl
      refine lv_iload hx hb dX4_stopOn_6 (lv_at hl 4 rfl) ?_
      refine lv_if_lt (x := nI i + (-1)) (tgt := 49) hx hb dX4_stopOn_8 (by decide) (fun c_2 => ?_) (fun c_2 => ?_)
      · have hi0 := (m1_lt (by omega)).mp c_2
        refine lv_iload_n hx hb dX4_stopOn_49 rfl (lv_at hl 3 rfl) ?_
        exact rd_iret hx hb hr hk dX4_stopOn_50 (by (rw [hi0]) <;> rfl)
      · have hpos : 0 < i := Nat.pos_of_ne_zero fun q => c_2 ((m1_lt (by omega)).mpr q)
        refine lv_aload_n hx hb dX4_stopOn_11 rfl (lv_at hl 0 rfl) ?_
        refine lv_iload hx hb dX4_stopOn_12 (lv_at hl 4 rfl) ?_
        refine top_i (y := nI (i - 1)) (sb_m1 hpos) ?_
        refine rd_V (rest := []) (ci := 4) (q0 := 0) ⟨hx, hb, hml, hown, hts⟩ hP hE (c_X4_stopSquare l D K _ _ _ _ _ _ _ _ _ _ _ (i - 1) hI (by omega)) (cwV 1 hts gX4_stopOn_X4_stopSquare rfl rfl rfl hd_X4_stopSquare ⟨Nat.le_of_ble_eq_true rfl, Nat.le_of_ble_eq_true rfl⟩) rfl rfl rfl rfl hl.1 rfl (Nat.le_of_ble_eq_true rfl) dX4_stopOn_14 ⟨Nat.zero_le _, Nat.zero_le _⟩ ?_
        refine lv_iload_n hx hb dX4_stopOn_17 rfl (lv_at hl 1 rfl) ?_
        refine oo_icmp_ne (x := sqT T (i - 1)) (y := q) (tgt := 41) hx hb dX4_stopOn_18 (by decide) (lt31 (sq_lt hI (t := (i - 1)) (by omega)) (by decide)) (lt31 hq (by decide)) (fun c_3 => ?_) (fun c_3 => ?_)
        · refine lv_iload_n hx hb dX4_stopOn_41 rfl (lv_at hl 3 rfl) ?_
          refine lv_istore_n (lv' := [(3, .int (oI (ff (fun t_ => decide (sqT T t_ = q) && (decide (v = none) || decide (plT T t_ = v))) i (12 - i)))), (0, .ref (r 0)), (1, .int (oI q)), (2, .int (oI v)), (4, .int (nI i + (-1)))]) hx hb dX4_stopOn_42 rfl hl (by decide) rfl (fun ls hl => ?_)
          refine lv_iinc (v := (nI i + (-1)) + (-1)) (lv' := [(4, .int ((nI i + (-1)) + (-1))), (3, .int (oI (ff (fun t_ => decide (sqT T t_ = q) && (decide (v = none) || decide (plT T t_ = v))) i (12 - i)))), (0, .ref (r 0)), (1, .int (oI q)), (2, .int (oI v))]) hx hb dX4_stopOn_43 hl (k := 4) rfl (rfl) (by decide) rfl (fun ls hl => ?_)
          refine lv_goto (tgt := 6) hx hb dX4_stopOn_46 (by decide) ?_
          exact ih_6 (i - 1) (by omega) (by omega) _ (by rw [ff_down (b := 12) hpos (by omega)]; simp [oI_n, oI_s, c_2, c_3]) _ (by rw [sb_m1 hpos]) ls (lv_sub hl [2, 3, 4, 1, 0] rfl)
        · refine lv_iload_n hx hb dX4_stopOn_21 rfl (lv_at hl 2 rfl) ?_
          refine lv_iconst (v := -1) hx hb dX4_stopOn_22 (by decide) ?_
          refine ov_icmp_eq (tgt := 36) hx hb dX4_stopOn_23 (by decide) (lt31 hv (by decide)) (fun c_4 => ?_) (fun k_5 c_4 => ?_)
          · refine lv_iload hx hb dX4_stopOn_36 (lv_at hl 4 rfl) ?_
            refine top_i (y := nI (i - 1)) (sb_m1 hpos) ?_
            refine lv_goto (tgt := 42) hx hb dX4_stopOn_38 (by decide) ?_
            refine lv_istore_n (lv' := [(3, .int (nI (i - 1))), (0, .ref (r 0)), (1, .int (oI q)), (2, .int (oI v)), (4, .int (nI i + (-1)))]) hx hb dX4_stopOn_42 rfl hl (by decide) rfl (fun ls hl => ?_)
            refine lv_iinc (v := (nI i + (-1)) + (-1)) (lv' := [(4, .int ((nI i + (-1)) + (-1))), (3, .int (nI (i - 1))), (0, .ref (r 0)), (1, .int (oI q)), (2, .int (oI v))]) hx hb dX4_stopOn_43 hl (k := 4) rfl (rfl) (by decide) rfl (fun ls hl => ?_)
            refine lv_goto (tgt := 6) hx hb dX4_stopOn_46 (by decide) ?_
            exact ih_6 (i - 1) (by omega) (by omega) _ (by rw [ff_down (b := 12) hpos (by omega)]; simp [oI_n, oI_s, c_2, c_3, c_4]) _ (by rw [sb_m1 hpos]) ls (lv_sub hl [2, 3, 4, 1, 0] rfl)
          · have hk_c_4 := hv k_5 c_4
            refine lv_aload_n hx hb dX4_stopOn_26 rfl (lv_at hl 0 rfl) ?_
            refine lv_iload hx hb dX4_stopOn_27 (lv_at hl 4 rfl) ?_
            refine top_i (y := nI (i - 1)) (sb_m1 hpos) ?_
            refine rd_V (rest := []) (ci := 4) (q0 := 0) ⟨hx, hb, hml, hown, hts⟩ hP hE (c_X4_stopPlayer l D K _ _ _ _ _ _ _ _ _ _ _ (i - 1) hI (by omega)) (cwV 1 hts gX4_stopOn_X4_stopPlayer rfl rfl rfl hd_X4_stopPlayer ⟨Nat.le_of_ble_eq_true rfl, Nat.le_of_ble_eq_true rfl⟩) rfl rfl rfl rfl hl.1 rfl (Nat.le_of_ble_eq_true rfl) dX4_stopOn_29 ⟨Nat.zero_le _, Nat.zero_le _⟩ ?_
            refine lv_iload_n hx hb dX4_stopOn_32 rfl (lv_at hl 2 rfl) ?_
            refine top_i (y := nI k_5) (by rw [c_4]; rfl) ?_
            refine oo_icmp_ne (x := plT T (i - 1)) (y := some k_5) (tgt := 41) hx hb dX4_stopOn_33 (by decide) (lt31 (pl_lt hI (t := (i - 1)) (by omega)) (by decide)) (fun k q => by cases q; exact (by omega)) (fun c_6 => ?_) (fun c_6 => ?_)
            · refine lv_iload_n hx hb dX4_stopOn_41 rfl (lv_at hl 3 rfl) ?_
              refine lv_istore_n (lv' := [(3, .int (oI (ff (fun t_ => decide (sqT T t_ = q) && (decide (v = none) || decide (plT T t_ = v))) i (12 - i)))), (0, .ref (r 0)), (1, .int (oI q)), (2, .int (oI v)), (4, .int (nI i + (-1)))]) hx hb dX4_stopOn_42 rfl hl (by decide) rfl (fun ls hl => ?_)
              refine lv_iinc (v := (nI i + (-1)) + (-1)) (lv' := [(4, .int ((nI i + (-1)) + (-1))), (3, .int (oI (ff (fun t_ => decide (sqT T t_ = q) && (decide (v = none) || decide (plT T t_ = v))) i (12 - i)))), (0, .ref (r 0)), (1, .int (oI q)), (2, .int (oI v))]) hx hb dX4_stopOn_43 hl (k := 4) rfl (rfl) (by decide) rfl (fun ls hl => ?_)
              refine lv_goto (tgt := 6) hx hb dX4_stopOn_46 (by decide) ?_
              exact ih_6 (i - 1) (by omega) (by omega) _ (by rw [ff_down (b := 12) hpos (by omega)]; simp [oI_n, oI_s, c_2, c_3, c_4, c_6]) _ (by rw [sb_m1 hpos]) ls (lv_sub hl [2, 3, 4, 1, 0] rfl)
            · refine lv_iload hx hb dX4_stopOn_36 (lv_at hl 4 rfl) ?_
              refine top_i (y := nI (i - 1)) (sb_m1 hpos) ?_
              refine lv_goto (tgt := 42) hx hb dX4_stopOn_38 (by decide) ?_
              refine lv_istore_n (lv' := [(3, .int (nI (i - 1))), (0, .ref (r 0)), (1, .int (oI q)), (2, .int (oI v)), (4, .int (nI i + (-1)))]) hx hb dX4_stopOn_42 rfl hl (by decide) rfl (fun ls hl => ?_)
              refine lv_iinc (v := (nI i + (-1)) + (-1)) (lv' := [(4, .int ((nI i + (-1)) + (-1))), (3, .int (nI (i - 1))), (0, .ref (r 0)), (1, .int (oI q)), (2, .int (oI v))]) hx hb dX4_stopOn_43 hl (k := 4) rfl (rfl) (by decide) rfl (fun ls hl => ?_)
              refine lv_goto (tgt := 6) hx hb dX4_stopOn_46 (by decide) ?_
              exact ih_6 (i - 1) (by omega) (by omega) _ (by rw [ff_down (b := 12) hpos (by omega)]; simp [oI_n, oI_s, c_2, c_3, c_4, c_6]) _ (by rw [sb_m1 hpos]) ls (lv_sub hl [2, 3, 4, 1, 0] rfl)
  exact loop_1 _ 12 (by decide) (Nat.lt_succ_self _) _ rfl _ rfl ls (lv_sub hl [2, 3, 4, 1, 0] rfl)
set_option maxHeartbeats 4000000 in
set_option maxRecDepth 100000 in
theorem c_X4_allows (l : Launch) (D : va_G) (K : Nat → ClassId) (ws : va_W) (die d : Nat) (last : Option Nat) (hdie : die < 7) (hd : d < 4) (hlast : ∀ k, last = some k → k < 4) : Rd l yX4_allows wsX4_allows ({ frames := 1, cells := 0, slots := 0, locals := 12 } : Room) D K (ws) [.int (nI die), .int (oI last), .int (nI d)] (.int (bI (dieT die last d))) := by
  refine rd_intro (cc := cX4_allows) (maxL := 4) (ret := (some .boolean)) (by decide) rfl (Nat.le_of_ble_eq_true rfl) ?_
  intro pr en st md ar bl mt co hx hb hml hr hts hown hk hP hE ls hl
  have hown : st.vm.findClass RX4 = some md.cls := hown
  have hl : lv_has ls 4 [(0, .int (nI die)), (1, .int (oI last)), (2, .int (nI d))] := hl
  refine lv_iload_n hx hb dX4_allows_0 rfl (lv_at hl 1 rfl) ?_
  refine lv_iconst (v := -1) hx hb dX4_allows_1 (by decide) ?_
  refine ov_icmp_eq (tgt := 11) hx hb dX4_allows_2 (by decide) (lt31 hlast (by decide)) (fun c_1 => ?_) (fun k_2 c_1 => ?_)
  · refine lv_iconst (v := nI 1) hx hb dX4_allows_11 (by decide) ?_
    exact rd_zret hx hb hr hk dX4_allows_12 (by rw [show dieT die last d = true from by rw [c_1]; rfl]; rfl)
  · have hk_c_1 := hlast k_2 c_1
    refine lv_iload_n hx hb dX4_allows_5 rfl (lv_at hl 0 rfl) ?_
    refine lv_bipush (v := nI 6) hx hb dX4_allows_6 (by decide) ?_
    refine nv_icmp_ne (x := die) (y := 6) (tgt := 13) hx hb dX4_allows_8 (by decide) (by omega) (by decide) (fun c_3 => ?_) (fun c_3 => ?_)
    · refine lv_iload_n hx hb dX4_allows_13 rfl (lv_at hl 2 rfl) ?_
      refine lv_iload_n hx hb dX4_allows_14 rfl (lv_at hl 1 rfl) ?_
      refine top_i (y := nI k_2) (by rw [c_1]; rfl) ?_
      refine lv_isub (x := nI d) (y := nI k_2) hx hb dX4_allows_15 ?_
      refine lv_iconst (v := nI 4) hx hb dX4_allows_16 (by decide) ?_
      refine lv_iadd (x := (nI d) - (nI k_2)) (y := nI 4) hx hb dX4_allows_17 ?_
      refine top_i (y := nI (d + 4 - k_2)) (sub_add4 (by omega) (by omega)) ?_
      refine lv_iconst (v := nI 4) hx hb dX4_allows_18 (by decide) ?_
      refine nv_irem (x := d + 4 - k_2) (y := 4) hx hb dX4_allows_19 (by omega) (by omega) (by decide) ?_
      refine lv_istore_n (lv' := [(3, .int (nI ((d + 4 - k_2) % 4))), (0, .int (nI die)), (1, .int (oI last)), (2, .int (nI d))]) hx hb dX4_allows_20 rfl hl (by decide) rfl (fun ls hl => ?_)
      refine lv_iload_n hx hb dX4_allows_21 rfl (lv_at hl 1 rfl) ?_
      refine lv_iconst (v := nI 3) hx hb dX4_allows_22 (by decide) ?_
      refine nv_icmp_ge (x := die) (y := 3) (tgt := 39) hx hb dX4_allows_23 (by decide) (by omega) (by decide) (fun c_4 => ?_) (fun c_4 => ?_)
      · have n_c_4 := Nat.not_lt.mpr c_4
        refine lv_iload_n hx hb dX4_allows_39 rfl (lv_at hl 1 rfl) ?_
        refine lv_iconst (v := nI 5) hx hb dX4_allows_40 (by decide) ?_
        refine nv_icmp_ge (x := die) (y := 5) (tgt := 56) hx hb dX4_allows_41 (by decide) (by omega) (by decide) (fun c_5 => ?_) (fun c_5 => ?_)
        · have n_c_5 := Nat.not_lt.mpr c_5
          refine lv_iload_n hx hb dX4_allows_56 rfl (lv_at hl 0 rfl) ?_
          refine lv_iconst (v := nI 1) hx hb dX4_allows_57 (by decide) ?_
          refine nv_icmp_eq (x := (d + 4 - k_2) % 4) (y := 1) (tgt := 66) hx hb dX4_allows_58 (by decide) (by omega) (by decide) (fun c_6 => ?_) (fun c_6 => ?_)
          · refine lv_iconst (v := nI 1) hx hb dX4_allows_66 (by decide) ?_
            refine lv_goto (tgt := 71) hx hb dX4_allows_67 (by decide) ?_
            exact rd_zret hx hb hr hk dX4_allows_71 (by rw [show dieT die last d = true from by rw [c_1]; simp only [dieT]; ((repeat' split) <;> first | rfl | omega | (simp only [decide_eq_true_eq, decide_eq_false_iff_not]; omega))]; rfl)
          · refine lv_iload_n hx hb dX4_allows_61 rfl (lv_at hl 0 rfl) ?_
            refine lv_iconst (v := nI 3) hx hb dX4_allows_62 (by decide) ?_
            refine nv_icmp_ne (x := (d + 4 - k_2) % 4) (y := 3) (tgt := 70) hx hb dX4_allows_63 (by decide) (by omega) (by decide) (fun c_7 => ?_) (fun c_7 => ?_)
            · refine lv_iconst (v := nI 0) hx hb dX4_allows_70 (by decide) ?_
              exact rd_zret hx hb hr hk dX4_allows_71 (by rw [show dieT die last d = false from by rw [c_1]; simp only [dieT]; ((repeat' split) <;> first | rfl | omega | (simp only [decide_eq_true_eq, decide_eq_false_iff_not]; omega))]; rfl)
            · refine lv_iconst (v := nI 1) hx hb dX4_allows_66 (by decide) ?_
              refine lv_goto (tgt := 71) hx hb dX4_allows_67 (by decide) ?_
              exact rd_zret hx hb hr hk dX4_allows_71 (by rw [show dieT die last d = true from by rw [c_1]; simp only [dieT]; ((repeat' split) <;> first | rfl | omega | (simp only [decide_eq_true_eq, decide_eq_false_iff_not]; omega))]; rfl)
        · have n_c_5 := Nat.not_le.mpr c_5
          refine lv_iload_n hx hb dX4_allows_44 rfl (lv_at hl 0 rfl) ?_
          refine nv_if_ne (x := (d + 4 - k_2) % 4) (tgt := 52) hx hb dX4_allows_45 (by decide) (by omega) (fun c_8 => ?_) (fun c_8 => ?_)
          · have n_c_8 : ¬ (d + 4 - k_2) % 4 = 0 := by omega
            refine lv_iconst (v := nI 0) hx hb dX4_allows_52 (by decide) ?_
            refine lv_goto (tgt := 71) hx hb dX4_allows_53 (by decide) ?_
            exact rd_zret hx hb hr hk dX4_allows_71 (by rw [show dieT die last d = false from by rw [c_1]; simp only [dieT]; ((repeat' split) <;> first | rfl | omega | (simp only [decide_eq_true_eq, decide_eq_false_iff_not]; omega))]; rfl)
          · have n_c_8 : ¬ 0 < (d + 4 - k_2) % 4 := by omega
            refine lv_iconst (v := nI 1) hx hb dX4_allows_48 (by decide) ?_
            refine lv_goto (tgt := 71) hx hb dX4_allows_49 (by decide) ?_
            exact rd_zret hx hb hr hk dX4_allows_71 (by rw [show dieT die last d = true from by rw [c_1]; simp only [dieT]; ((repeat' split) <;> first | rfl | omega | (simp only [decide_eq_true_eq, decide_eq_false_iff_not]; omega))]; rfl)
      · have n_c_4 := Nat.not_le.mpr c_4
        refine lv_iload_n hx hb dX4_allows_26 rfl (lv_at hl 0 rfl) ?_
        refine lv_iconst (v := nI 2) hx hb dX4_allows_27 (by decide) ?_
        refine nv_icmp_eq (x := (d + 4 - k_2) % 4) (y := 2) (tgt := 35) hx hb dX4_allows_28 (by decide) (by omega) (by decide) (fun c_9 => ?_) (fun c_9 => ?_)
        · refine lv_iconst (v := nI 0) hx hb dX4_allows_35 (by decide) ?_
          refine lv_goto (tgt := 71) hx hb dX4_allows_36 (by decide) ?_
          exact rd_zret hx hb hr hk dX4_allows_71 (by rw [show dieT die last d = false from by rw [c_1]; simp only [dieT]; ((repeat' split) <;> first | rfl | omega | (simp only [decide_eq_true_eq, decide_eq_false_iff_not]; omega))]; rfl)
        · refine lv_iconst (v := nI 1) hx hb dX4_allows_31 (by decide) ?_
          refine lv_goto (tgt := 71) hx hb dX4_allows_32 (by decide) ?_
          exact rd_zret hx hb hr hk dX4_allows_71 (by rw [show dieT die last d = true from by rw [c_1]; simp only [dieT]; ((repeat' split) <;> first | rfl | omega | (simp only [decide_eq_true_eq, decide_eq_false_iff_not]; omega))]; rfl)
    · refine lv_iconst (v := nI 1) hx hb dX4_allows_11 (by decide) ?_
      exact rd_zret hx hb hr hk dX4_allows_12 (by rw [show dieT die last d = true from by rw [c_1]; simp only [dieT]; ((repeat' split) <;> first | rfl | omega | (simp only [decide_eq_true_eq, decide_eq_false_iff_not]; omega))]; rfl)
set_option maxHeartbeats 4000000 in
set_option maxRecDepth 100000 in
theorem c_X4_toll (l : Launch) (D : va_G) (K : Nat → ClassId) (r : Nat → Nat) (th sm ty pm pn sta ms : Int32) (hs : Int64) (T : TW) (Y : va_W) (s : Nat) (hI : Inv T) (hs80 : s < 80) : Rd l yX4_toll wsX4_toll ({ frames := 2, cells := 0, slots := 0, locals := 35 } : Room) D K (refO r th sm ty pm pn sta ms hs :: zC K r T :: Y) [.ref (r 0), .int (nI s)] (.int (nI (tollT T s))) := by
  refine rd_intro (cc := cX4_toll) (maxL := 2) (ret := (some .int)) (by decide) rfl (Nat.le_of_ble_eq_true rfl) ?_
  intro pr en st md ar bl mt co hx hb hml hr hts hown hk hP hE ls hl
  have hown : st.vm.findClass RX4 = some md.cls := hown
  have hl : lv_has ls 2 [(0, .ref (r 0)), (1, .int (nI s))] := hl
  have F7 : (Cond.fieldLink RX4 7 "TramTollsModel" "z" "[I").before ar st = true := hts _ (List.mem_of_getElem? (i := 1) rfl)
  have inX4 : ∀ w ∈ u_ws RX4 TX4 13, w ∈ wsX4_toll := fun w h => List.mem_cons_of_mem _ (List.mem_append_right _ h)
  refine lv_aload_n hx hb dX4_toll_0 rfl (lv_at hl 0 rfl) ?_
  refine va_get (D := D) (ci := 4) (v := .ref (r 1)) (C := RX4) (T := TX4) (N := 13) hx hb hts inX4 hown hE.1 hP 0 rfl rfl 1 (by decide) F7 (fun _ h9 => h9) rfl dX4_toll_1 ?_
  refine lv_sipush (v := nI 164) hx hb dX4_toll_4 (by decide) ?_
  refine lv_iload_n hx hb dX4_toll_7 rfl (lv_at hl 1 rfl) ?_
  refine nv_iadd (x := 164) (y := s) hx hb dX4_toll_8 ?_
  refine va_iald hx hb hE.1 hP 1 0 rfl rfl (pk_in (164 + s) 288 (by omega)) dX4_toll_9 ?_
  rw [pk_cl (164 + s)]
  refine top_i (y := oI (owT T s)) (((congrArg (zT T) (show 164 + s = 164 + s from by omega)).trans (zT_ow (by omega))).trans (show T 2 s = oI (owT T s) from eq_ow hI (by omega))) ?_
  refine lv_iconst (v := -1) hx hb dX4_toll_10 (by decide) ?_
  refine ov_icmp_ne (tgt := 18) hx hb dX4_toll_11 (by decide) (lt31 (ow_lt hI (s := s) (by omega)) (by decide)) (fun k_2 c_1 => ?_) (fun c_1 => ?_)
  · have hk_c_1 := (ow_lt hI (s := s) (by omega)) k_2 c_1
    refine lv_aload_n hx hb dX4_toll_18 rfl (lv_at hl 0 rfl) ?_
    refine va_get (D := D) (ci := 4) (v := .ref (r 1)) (C := RX4) (T := TX4) (N := 13) hx hb hts inX4 hown hE.1 hP 0 rfl rfl 1 (by decide) F7 (fun _ h9 => h9) rfl dX4_toll_19 ?_
    refine lv_iconst (v := nI 0) hx hb dX4_toll_22 (by decide) ?_
    refine va_iald hx hb hE.1 hP 1 0 rfl rfl (pk_in 0 288 (by omega)) dX4_toll_23 ?_
    rw [pk_cl 0]
    refine top_i (y := nI (stT T 0)) (((congrArg (zT T) (show 0 = 0 from by omega)).trans (zT_st (by omega))).trans (show T 10 0 = nI (stT T 0) from eq_st hI (by omega))) ?_
    have hb_3 := st_lt hI (show 0 < 3 by omega)
    refine lv_aload_n hx hb dX4_toll_24 rfl (lv_at hl 0 rfl) ?_
    refine lv_iload_n hx hb dX4_toll_25 rfl (lv_at hl 1 rfl) ?_
    refine rd_V (rest := [.int (nI (stT T 0))]) (ci := 4) (q0 := 0) ⟨hx, hb, hml, hown, hts⟩ hP hE (c_X4_tracks l D K _ _ _ _ _ _ _ _ _ _ _ s hI (by omega)) (cwV 1 hts gX4_toll_X4_tracks rfl rfl rfl hd_X4_tracks ⟨Nat.le_of_ble_eq_true rfl, Nat.le_of_ble_eq_true rfl⟩) rfl rfl rfl rfl hl.1 rfl (Nat.le_of_ble_eq_true rfl) dX4_toll_26 ⟨Nat.zero_le _, Nat.zero_le _⟩ ?_
    have hb_4 := trk_lt T s
    refine nv_imul (x := stT T 0) (y := trkT T s) hx hb dX4_toll_29 ?_
    exact rd_iret hx hb hr hk dX4_toll_30 (by simp [tollT, c_1])
  · refine lv_iconst (v := nI 0) hx hb dX4_toll_14 (by decide) ?_
    refine lv_goto (tgt := 30) hx hb dX4_toll_15 (by decide) ?_
    exact rd_iret hx hb hr hk dX4_toll_30 (by simp [tollT, c_1])
set_option maxHeartbeats 4000000 in
set_option maxRecDepth 100000 in
theorem c_X4_whyNot (l : Launch) (D : va_G) (K : Nat → ClassId) (r : Nat → Nat) (th sm ty pm pn sta ms : Int32) (hs : Int64) (T : TW) (Y : va_W) (p f die d : Nat) (hI : Inv T) (hp : p < 4) (hf : f < 80) (hdie : die < 7) (hd : d < 4) : Rd l yX4_whyNot wsX4_whyNot ({ frames := 3, cells := 0, slots := 0, locals := 57 } : Room) D K (refO r th sm ty pm pn sta ms hs :: zC K r T :: Y) [.ref (r 0), .int (nI p), .int (nI f), .int (nI die), .int (nI d)] (.int (nI (whyT T p f die d))) := by
  refine rd_intro (cc := cX4_whyNot) (maxL := 6) (ret := (some .int)) (by decide) rfl (Nat.le_of_ble_eq_true rfl) ?_
  intro pr en st md ar bl mt co hx hb hml hr hts hown hk hP hE ls hl
  have hown : st.vm.findClass RX4 = some md.cls := hown
  have hl : lv_has ls 6 [(0, .ref (r 0)), (1, .int (nI p)), (2, .int (nI f)), (3, .int (nI die)), (4, .int (nI d))] := hl
  have F7 : (Cond.fieldLink RX4 7 "TramTollsModel" "z" "[I").before ar st = true := hts _ (List.mem_of_getElem? (i := 1) rfl)
  have inX4 : ∀ w ∈ u_ws RX4 TX4 13, w ∈ wsX4_whyNot := fun w h => List.mem_cons_of_mem _ (List.mem_append_right _ h)
  refine lv_iload_n hx hb dX4_whyNot_0 rfl (lv_at hl 2 rfl) ?_
  refine lv_iload hx hb dX4_whyNot_1 (lv_at hl 4 rfl) ?_
  refine rd_S (rest := []) ⟨hx, hb, hml, hown, hts⟩ hP hE (c_X4_beside l D K _ f d (by omega) (by omega)) (va_cwS 2 hts gX4_whyNot_X4_beside rfl rfl rfl hn_X4_beside ⟨Nat.le_of_ble_eq_true rfl, Nat.le_of_ble_eq_true rfl⟩) rfl hl.1 rfl (Nat.le_of_ble_eq_true rfl) dX4_whyNot_3 ⟨Nat.zero_le _, Nat.zero_le _⟩ ?_
  refine lv_istore (lv' := [(5, .int (oI (nbT f d))), (0, .ref (r 0)), (1, .int (nI p)), (2, .int (nI f)), (3, .int (nI die)), (4, .int (nI d))]) hx hb dX4_whyNot_6 hl (by decide) rfl (fun ls hl => ?_)
  refine lv_iload hx hb dX4_whyNot_8 (lv_at hl 0 rfl) ?_
  refine lv_iconst (v := -1) hx hb dX4_whyNot_10 (by decide) ?_
  refine ov_icmp_ne (tgt := 16) hx hb dX4_whyNot_11 (by decide) (lt31 (nb_lt (show f < 80 by omega)) (by decide)) (fun k_2 c_1 => ?_) (fun c_1 => ?_)
  · have hk_c_1 := (nb_lt (show f < 80 by omega)) k_2 c_1
    refine lv_iload_n hx hb dX4_whyNot_16 rfl (lv_at hl 4 rfl) ?_
    refine lv_aload_n hx hb dX4_whyNot_17 rfl (lv_at hl 1 rfl) ?_
    refine lv_iload_n hx hb dX4_whyNot_18 rfl (lv_at hl 2 rfl) ?_
    refine lv_iconst (v := nI 2) hx hb dX4_whyNot_19 (by decide) ?_
    refine rd_V (rest := [.int (nI die)]) (ci := 4) (q0 := 0) ⟨hx, hb, hml, hown, hts⟩ hP hE (c_X4_of l D K _ _ _ _ _ _ _ _ _ _ _ p 2 (by omega) (by omega)) (cwV 2 hts gX4_whyNot_X4_of rfl rfl rfl hd_X4_of ⟨Nat.le_of_ble_eq_true rfl, Nat.le_of_ble_eq_true rfl⟩) rfl rfl rfl rfl hl.1 rfl (Nat.le_of_ble_eq_true rfl) dX4_whyNot_20 ⟨Nat.zero_le _, Nat.zero_le _⟩ ?_
    refine top_i (y := oI (laT T p)) (((congrArg (zT T) (show 268 + 5 * p + 2 = 268 + 5 * p + 2 from by omega)).trans (zT_pp (w := 2) (by omega) (by decide))).trans (show T 7 p = oI (laT T p) from eq_la hI (by omega))) ?_
    refine lv_iload hx hb dX4_whyNot_23 (lv_at hl 5 rfl) ?_
    refine rd_S (rest := []) ⟨hx, hb, hml, hown, hts⟩ hP hE (c_X4_allows l D K _ die d (laT T p) (by omega) (by omega) (la_lt hI (p := p) (by omega))) (va_cwS 3 hts gX4_whyNot_X4_allows rfl rfl rfl hn_X4_allows ⟨Nat.le_of_ble_eq_true rfl, Nat.le_of_ble_eq_true rfl⟩) rfl hl.1 rfl (Nat.le_of_ble_eq_true rfl) dX4_whyNot_25 ⟨Nat.zero_le _, Nat.zero_le _⟩ ?_
    refine bv_if_ne (x := dieT die (laT T p) d) (tgt := 33) hx hb dX4_whyNot_28 (by decide) (fun c_3 => ?_) (fun c_3 => ?_)
    · refine lv_aload_n hx hb dX4_whyNot_33 rfl (lv_at hl 1 rfl) ?_
      refine lv_iload hx hb dX4_whyNot_34 (lv_at hl 0 rfl) ?_
      refine top_i (y := nI k_2) (by rw [c_1]; rfl) ?_
      refine rd_V (rest := []) (ci := 4) (q0 := 0) ⟨hx, hb, hml, hown, hts⟩ hP hE (c_X4_isHouse l D K _ _ _ _ _ _ _ _ _ _ _ k_2 hI (by omega)) (cwV 1 hts gX4_whyNot_X4_isHouse rfl rfl rfl hd_X4_isHouse ⟨Nat.le_of_ble_eq_true rfl, Nat.le_of_ble_eq_true rfl⟩) rfl rfl rfl rfl hl.1 rfl (Nat.le_of_ble_eq_true rfl) dX4_whyNot_36 ⟨Nat.zero_le _, Nat.zero_le _⟩ ?_
      refine bv_if_eq (x := hsT T k_2) (tgt := 44) hx hb dX4_whyNot_39 (by decide) (fun c_4 => ?_) (fun c_4 => ?_)
      · refine lv_aload_n hx hb dX4_whyNot_44 rfl (lv_at hl 1 rfl) ?_
        refine lv_iload_n hx hb dX4_whyNot_45 rfl (lv_at hl 2 rfl) ?_
        refine lv_iload hx hb dX4_whyNot_46 (lv_at hl 0 rfl) ?_
        refine top_i (y := nI k_2) (by rw [c_1]; rfl) ?_
        refine rd_V (rest := []) (ci := 4) (q0 := 0) ⟨hx, hb, hml, hown, hts⟩ hP hE (c_X4_hasTrack l D K _ _ _ _ _ _ _ _ _ _ _ p k_2 hI (by omega) (by omega)) (cwV 2 hts gX4_whyNot_X4_hasTrack rfl rfl rfl hd_X4_hasTrack ⟨Nat.le_of_ble_eq_true rfl, Nat.le_of_ble_eq_true rfl⟩) rfl rfl rfl rfl hl.1 rfl (Nat.le_of_ble_eq_true rfl) dX4_whyNot_48 ⟨Nat.zero_le _, Nat.zero_le _⟩ ?_
        refine bv_if_eq (x := hasT T p k_2) (tgt := 56) hx hb dX4_whyNot_51 (by decide) (fun c_5 => ?_) (fun c_5 => ?_)
        · refine lv_aload_n hx hb dX4_whyNot_56 rfl (lv_at hl 1 rfl) ?_
          refine lv_iload hx hb dX4_whyNot_57 (lv_at hl 0 rfl) ?_
          refine top_i (y := nI k_2) (by rw [c_1]; rfl) ?_
          refine rd_V (rest := []) (ci := 4) (q0 := 0) ⟨hx, hb, hml, hown, hts⟩ hP hE (c_X4_tracks l D K _ _ _ _ _ _ _ _ _ _ _ k_2 hI (by omega)) (cwV 1 hts gX4_whyNot_X4_tracks rfl rfl rfl hd_X4_tracks ⟨Nat.le_of_ble_eq_true rfl, Nat.le_of_ble_eq_true rfl⟩) rfl rfl rfl rfl hl.1 rfl (Nat.le_of_ble_eq_true rfl) dX4_whyNot_59 ⟨Nat.zero_le _, Nat.zero_le _⟩ ?_
          have hb_6 := trk_lt T k_2
          refine lv_aload_n hx hb dX4_whyNot_62 rfl (lv_at hl 1 rfl) ?_
          refine va_get (D := D) (ci := 4) (v := .ref (r 1)) (C := RX4) (T := TX4) (N := 13) hx hb hts inX4 hown hE.1 hP 0 rfl rfl 1 (by decide) F7 (fun _ h9 => h9) rfl dX4_whyNot_63 ?_
          refine lv_iconst (v := nI 1) hx hb dX4_whyNot_66 (by decide) ?_
          refine va_iald hx hb hE.1 hP 1 0 rfl rfl (pk_in 1 288 (by omega)) dX4_whyNot_67 ?_
          rw [pk_cl 1]
          refine top_i (y := nI (stT T 1)) (((congrArg (zT T) (show 1 = 1 from by omega)).trans (zT_st (by omega))).trans (show T 10 1 = nI (stT T 1) from eq_st hI (by omega))) ?_
          have hb_7 := st_lt hI (show 1 < 3 by omega)
          refine nv_icmp_lt (x := trkT T k_2) (y := stT T 1) (tgt := 73) hx hb dX4_whyNot_68 (by decide) (by omega) (by omega) (fun c_8 => ?_) (fun c_8 => ?_)
          · have n_c_8 := Nat.not_le.mpr c_8
            refine lv_aload_n hx hb dX4_whyNot_73 rfl (lv_at hl 1 rfl) ?_
            refine lv_iload hx hb dX4_whyNot_74 (lv_at hl 0 rfl) ?_
            refine top_i (y := nI k_2) (by rw [c_1]; rfl) ?_
            refine rd_V (rest := []) (ci := 4) (q0 := 0) ⟨hx, hb, hml, hown, hts⟩ hP hE (c_X4_toll l D K _ _ _ _ _ _ _ _ _ _ _ k_2 hI (by omega)) (cwV 1 hts gX4_whyNot_X4_toll rfl rfl rfl hd_X4_toll ⟨Nat.le_of_ble_eq_true rfl, Nat.le_of_ble_eq_true rfl⟩) rfl rfl rfl rfl hl.1 rfl (Nat.le_of_ble_eq_true rfl) dX4_whyNot_76 ⟨Nat.zero_le _, Nat.zero_le _⟩ ?_
            have hb_9 := toll_lt (s := k_2) hI
            refine lv_aload_n hx hb dX4_whyNot_79 rfl (lv_at hl 1 rfl) ?_
            refine lv_iload_n hx hb dX4_whyNot_80 rfl (lv_at hl 2 rfl) ?_
            refine lv_iconst (v := nI 0) hx hb dX4_whyNot_81 (by decide) ?_
            refine rd_V (rest := [.int (nI (tollT T k_2))]) (ci := 4) (q0 := 0) ⟨hx, hb, hml, hown, hts⟩ hP hE (c_X4_of l D K _ _ _ _ _ _ _ _ _ _ _ p 0 (by omega) (by omega)) (cwV 2 hts gX4_whyNot_X4_of rfl rfl rfl hd_X4_of ⟨Nat.le_of_ble_eq_true rfl, Nat.le_of_ble_eq_true rfl⟩) rfl rfl rfl rfl hl.1 rfl (Nat.le_of_ble_eq_true rfl) dX4_whyNot_82 ⟨Nat.zero_le _, Nat.zero_le _⟩ ?_
            refine top_i (y := coT T p) ((congrArg (zT T) (show 268 + 5 * p + 0 = 268 + 5 * p + 0 from by omega)).trans (zT_pp (w := 0) (by omega) (by decide))) ?_
            refine lv_icmp_le (x := nI (tollT T k_2)) (y := coT T p) (tgt := 93) hx hb dX4_whyNot_85 (by decide) (fun c_10 => ?_) (fun c_10 => ?_)
            · have n_c_10 := i_le_nlt c_10
              refine lv_iconst (v := nI 0) hx hb dX4_whyNot_93 (by decide) ?_
              exact rd_iret hx hb hr hk dX4_whyNot_94 (by simp [whyT, obsT, c_1, c_3, c_4, c_5, c_8, n_c_8, c_10, n_c_10])
            · have n_c_10 := i_nle_lt c_10
              refine lv_bipush (v := nI 6) hx hb dX4_whyNot_88 (by decide) ?_
              refine lv_goto (tgt := 94) hx hb dX4_whyNot_90 (by decide) ?_
              exact rd_iret hx hb hr hk dX4_whyNot_94 (by simp [whyT, obsT, c_1, c_3, c_4, c_5, c_8, n_c_8, c_10, n_c_10])
          · have n_c_8 := Nat.not_lt.mpr c_8
            refine lv_iconst (v := nI 5) hx hb dX4_whyNot_71 (by decide) ?_
            exact rd_iret hx hb hr hk dX4_whyNot_72 (by simp [whyT, obsT, c_1, c_3, c_4, c_5, c_8, n_c_8])
        · refine lv_iconst (v := nI 4) hx hb dX4_whyNot_54 (by decide) ?_
          exact rd_iret hx hb hr hk dX4_whyNot_55 (by simp [whyT, obsT, c_1, c_3, c_4, c_5])
      · refine lv_iconst (v := nI 3) hx hb dX4_whyNot_42 (by decide) ?_
        exact rd_iret hx hb hr hk dX4_whyNot_43 (by simp [whyT, obsT, c_1, c_3, c_4])
    · refine lv_iconst (v := nI 2) hx hb dX4_whyNot_31 (by decide) ?_
      exact rd_iret hx hb hr hk dX4_whyNot_32 (by simp [whyT, obsT, c_1, c_3])
  · refine lv_iconst (v := nI 1) hx hb dX4_whyNot_14 (by decide) ?_
    exact rd_iret hx hb hr hk dX4_whyNot_15 (by simp [whyT, obsT, c_1])
