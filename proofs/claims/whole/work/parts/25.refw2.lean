theorem hd_X4_directionOf : yX4_directionOf.cls = RX4 ∧ yX4_directionOf.cls ≠ "java/lang/invoke/MethodHandle" ∧ yX4_directionOf.cls ≠ "java/lang/invoke/VarHandle" ∧ (parseMethodDescriptor yX4_directionOf.desc).map (fun d => d.parameters.length) = some 1 := by decide +kernel
theorem hn_X4_directionOf : yX4_directionOf.cls ≠ "java/lang/invoke/MethodHandle" ∧ yX4_directionOf.cls ≠ "java/lang/invoke/VarHandle" ∧ (parseMethodDescriptor yX4_directionOf.desc).map (fun d => d.parameters.length) = some 1 := hd_X4_directionOf.2
theorem hd_X4_mix : yX4_mix.cls = RX4 ∧ yX4_mix.cls ≠ "java/lang/invoke/MethodHandle" ∧ yX4_mix.cls ≠ "java/lang/invoke/VarHandle" ∧ (parseMethodDescriptor yX4_mix.desc).map (fun d => d.parameters.length) = some 1 := by decide +kernel
theorem hn_X4_mix : yX4_mix.cls ≠ "java/lang/invoke/MethodHandle" ∧ yX4_mix.cls ≠ "java/lang/invoke/VarHandle" ∧ (parseMethodDescriptor yX4_mix.desc).map (fun d => d.parameters.length) = some 1 := hd_X4_mix.2
theorem hd_X4_goesTo : yX4_goesTo.cls = RX4 ∧ yX4_goesTo.cls ≠ "java/lang/invoke/MethodHandle" ∧ yX4_goesTo.cls ≠ "java/lang/invoke/VarHandle" ∧ (parseMethodDescriptor yX4_goesTo.desc).map (fun d => d.parameters.length) = some 2 := by decide +kernel
theorem hn_X4_goesTo : yX4_goesTo.cls ≠ "java/lang/invoke/MethodHandle" ∧ yX4_goesTo.cls ≠ "java/lang/invoke/VarHandle" ∧ (parseMethodDescriptor yX4_goesTo.desc).map (fun d => d.parameters.length) = some 2 := hd_X4_goesTo.2
theorem hd_X4_stands : yX4_stands.cls = RX4 ∧ yX4_stands.cls ≠ "java/lang/invoke/MethodHandle" ∧ yX4_stands.cls ≠ "java/lang/invoke/VarHandle" ∧ (parseMethodDescriptor yX4_stands.desc).map (fun d => d.parameters.length) = some 1 := by decide +kernel
theorem hn_X4_stands : yX4_stands.cls ≠ "java/lang/invoke/MethodHandle" ∧ yX4_stands.cls ≠ "java/lang/invoke/VarHandle" ∧ (parseMethodDescriptor yX4_stands.desc).map (fun d => d.parameters.length) = some 1 := hd_X4_stands.2
theorem hd_X4_readBuffer : yX4_readBuffer.cls = RX4 ∧ yX4_readBuffer.cls ≠ "java/lang/invoke/MethodHandle" ∧ yX4_readBuffer.cls ≠ "java/lang/invoke/VarHandle" ∧ (parseMethodDescriptor yX4_readBuffer.desc).map (fun d => d.parameters.length) = some 0 := by decide +kernel
theorem hn_X4_readBuffer : yX4_readBuffer.cls ≠ "java/lang/invoke/MethodHandle" ∧ yX4_readBuffer.cls ≠ "java/lang/invoke/VarHandle" ∧ (parseMethodDescriptor yX4_readBuffer.desc).map (fun d => d.parameters.length) = some 0 := hd_X4_readBuffer.2
theorem hd_X4_isWhole : yX4_isWhole.cls = RX4 ∧ yX4_isWhole.cls ≠ "java/lang/invoke/MethodHandle" ∧ yX4_isWhole.cls ≠ "java/lang/invoke/VarHandle" ∧ (parseMethodDescriptor yX4_isWhole.desc).map (fun d => d.parameters.length) = some 0 := by decide +kernel
theorem hn_X4_isWhole : yX4_isWhole.cls ≠ "java/lang/invoke/MethodHandle" ∧ yX4_isWhole.cls ≠ "java/lang/invoke/VarHandle" ∧ (parseMethodDescriptor yX4_isWhole.desc).map (fun d => d.parameters.length) = some 0 := hd_X4_isWhole.2
theorem hd_X4_plays : yX4_plays.cls = RX4 ∧ yX4_plays.cls ≠ "java/lang/invoke/MethodHandle" ∧ yX4_plays.cls ≠ "java/lang/invoke/VarHandle" ∧ (parseMethodDescriptor yX4_plays.desc).map (fun d => d.parameters.length) = some 1 := by decide +kernel
theorem hn_X4_plays : yX4_plays.cls ≠ "java/lang/invoke/MethodHandle" ∧ yX4_plays.cls ≠ "java/lang/invoke/VarHandle" ∧ (parseMethodDescriptor yX4_plays.desc).map (fun d => d.parameters.length) = some 1 := hd_X4_plays.2
theorem hd_X4_play : yX4_play.cls = RX4 ∧ yX4_play.cls ≠ "java/lang/invoke/MethodHandle" ∧ yX4_play.cls ≠ "java/lang/invoke/VarHandle" ∧ (parseMethodDescriptor yX4_play.desc).map (fun d => d.parameters.length) = some 0 := by decide +kernel
theorem hn_X4_play : yX4_play.cls ≠ "java/lang/invoke/MethodHandle" ∧ yX4_play.cls ≠ "java/lang/invoke/VarHandle" ∧ (parseMethodDescriptor yX4_play.desc).map (fun d => d.parameters.length) = some 0 := hd_X4_play.2
set_option maxHeartbeats 4000000 in
set_option maxRecDepth 100000 in
theorem c_X4_directionOf (l : Launch) (D : va_G) (K : Nat → ClassId) (ws : va_W) (c : Nat) (hc : c < 128) : Rd l yX4_directionOf wsX4_directionOf ({ frames := 1, cells := 0, slots := 0, locals := 12 } : Room) D K (ws) [.int (nI c)] (.int (oI (dirC c))) := by
  refine rd_intro (cc := cX4_directionOf) (maxL := 1) (ret := (some .int)) (by decide) rfl (Nat.le_of_ble_eq_true rfl) ?_
  intro pr en st md ar bl mt co hx hb hml hr hts hown hk hP hE ls hl
  have hown : st.vm.findClass RX4 = some md.cls := hown
  have hl : lv_has ls 1 [(0, .int (nI c))] := hl
  refine lv_iload_n hx hb dX4_directionOf_0 rfl (lv_at hl 0 rfl) ?_
  refine lv_bipush (v := nI 110) hx hb dX4_directionOf_1 (by decide) ?_
  refine nv_icmp_ne (x := c) (y := 110) (tgt := 10) hx hb dX4_directionOf_3 (by decide) (by omega) (by decide) (fun c_1 => ?_) (fun c_1 => ?_)
  · refine lv_iload_n hx hb dX4_directionOf_10 rfl (lv_at hl 0 rfl) ?_
    refine lv_bipush (v := nI 101) hx hb dX4_directionOf_11 (by decide) ?_
    refine nv_icmp_ne (x := c) (y := 101) (tgt := 20) hx hb dX4_directionOf_13 (by decide) (by omega) (by decide) (fun c_2 => ?_) (fun c_2 => ?_)
    · refine lv_iload_n hx hb dX4_directionOf_20 rfl (lv_at hl 0 rfl) ?_
      refine lv_bipush (v := nI 115) hx hb dX4_directionOf_21 (by decide) ?_
      refine nv_icmp_ne (x := c) (y := 115) (tgt := 30) hx hb dX4_directionOf_23 (by decide) (by omega) (by decide) (fun c_3 => ?_) (fun c_3 => ?_)
      · refine lv_iload_n hx hb dX4_directionOf_30 rfl (lv_at hl 0 rfl) ?_
        refine lv_bipush (v := nI 119) hx hb dX4_directionOf_31 (by decide) ?_
        refine nv_icmp_ne (x := c) (y := 119) (tgt := 40) hx hb dX4_directionOf_33 (by decide) (by omega) (by decide) (fun c_4 => ?_) (fun c_4 => ?_)
        · refine lv_iconst (v := -1) hx hb dX4_directionOf_40 (by decide) ?_
          exact rd_iret hx hb hr hk dX4_directionOf_41 (by simp [dirC, oI_n, oI_s, c_1, c_2, c_3, c_4])
        · refine lv_iconst (v := nI 3) hx hb dX4_directionOf_36 (by decide) ?_
          refine lv_goto (tgt := 41) hx hb dX4_directionOf_37 (by decide) ?_
          exact rd_iret hx hb hr hk dX4_directionOf_41 (by simp [dirC, oI_n, oI_s, c_1, c_2, c_3, c_4])
      · refine lv_iconst (v := nI 2) hx hb dX4_directionOf_26 (by decide) ?_
        refine lv_goto (tgt := 41) hx hb dX4_directionOf_27 (by decide) ?_
        exact rd_iret hx hb hr hk dX4_directionOf_41 (by simp [dirC, oI_n, oI_s, c_1, c_2, c_3])
    · refine lv_iconst (v := nI 1) hx hb dX4_directionOf_16 (by decide) ?_
      refine lv_goto (tgt := 41) hx hb dX4_directionOf_17 (by decide) ?_
      exact rd_iret hx hb hr hk dX4_directionOf_41 (by simp [dirC, oI_n, oI_s, c_1, c_2])
  · refine lv_iconst (v := nI 0) hx hb dX4_directionOf_6 (by decide) ?_
    refine lv_goto (tgt := 41) hx hb dX4_directionOf_7 (by decide) ?_
    exact rd_iret hx hb hr hk dX4_directionOf_41 (by simp [dirC, oI_n, oI_s, c_1])
set_option maxHeartbeats 4000000 in
set_option maxRecDepth 100000 in
theorem c_X4_mix (l : Launch) (D : va_G) (K : Nat → ClassId) (sz : Nat) (r : Nat → Nat) (th pn : Int32) (sn ln pm sta ms : Nat) (hs : Int64) (T : TW) (sv : Nat → Int32) (cs : Nat → Nat) (pf : Nat → Int32) (fa : Nat → Nat) (Y : va_W) (v : Int64) : Wr l yX4_mix wsX4_mix ({ frames := 1, cells := 0, slots := 0, locals := 12 } : Room) D K (refO r th (nI sn) (nI ln) (nI pm) pn (nI sta) (nI ms) hs :: zC K r T :: sC K r sv :: bC K r cs :: pC K r pf :: fC K r fa :: Y) sz [.ref (r 0), .long v] (refO r th (nI sn) (nI ln) (nI pm) pn (nI sta) (nI ms) (31 * hs + v) :: zC K r T :: sC K r sv :: bC K r cs :: pC K r pf :: fC K r fa :: Y) none 0 0 := by
  refine wr_intro (cc := cX4_mix) (maxL := 3) (ret := none) (by decide) rfl (Nat.le_of_ble_eq_true rfl) ?_
  intro pr en st md ar bl mt co A hx hb hml hr hts hown hk hsz hAe hP hE hD hS hA hin ls hl
  have hown : st.vm.findClass RX4 = some md.cls := hown
  have hl : lv_has ls 3 [(0, .ref (r 0)), (1, .long v)] := hl
  obtain ⟨H, hH⟩ : ∃ z, z = st.heap := ⟨_, rfl⟩
  obtain ⟨locs, hlo⟩ : ∃ z : List Loc, z = [] := ⟨_, rfl⟩
  have hP : va_P D vwCl (refO r th (nI sn) (nI ln) (nI pm) pn (nI sta) (nI ms) hs :: zC K r T :: sC K r sv :: bC K r cs :: pC K r pf :: fC K r fa :: Y) H := by rw [hH]; exact hP
  have hS : va_S A st.heap H locs := by rw [hH, hlo]; exact hS
  suffices go : W pr l en (headSpec wsX4_mix ({ frames := 1, cells := 0, slots := 0, locals := 12 } : Room)).room st md ar bl mt co H locs 0 0 (MQ bl (wrQ D (refO r th (nI sn) (nI ln) (nI pm) pn (nI sta) (nI ms) hs :: zC K r T :: sC K r sv :: bC K r cs :: pC K r pf :: fC K r fa :: Y) (refO r th (nI sn) (nI ln) (nI pm) pn (nI sta) (nI ms) (31 * hs + v) :: zC K r T :: sC K r sv :: bC K r cs :: pC K r pf :: fC K r fa :: Y) sz none) ar st 0 0 A) (F0 md 0 ls []) by rw [hH, hlo] at go; exact go
  clear hH hlo
  have C212 : (Cond.constantLong RX4 212 (31)).before ar st = true := hts _ (List.mem_of_getElem? (i := 1) rfl)
  have F214 : (Cond.fieldLink RX4 214 "TramTollsModel" "hash" "J").before ar st = true := hts _ (List.mem_of_getElem? (i := 2) rfl)
  have inX4 : ∀ w ∈ u_ws RX4 TX4 13, w ∈ wsX4_mix := fun w h => List.mem_cons_of_mem _ (List.mem_append_right _ h)
  refine lv_aload_n hx hb dX4_mix_0 rfl (lv_at hl 0 rfl) ?_
  refine lv_ldc2 (v := 31) hx hb hown C212 dX4_mix_1 ?_
  refine lv_aload_n hx hb dX4_mix_4 rfl (lv_at hl 0 rfl) ?_
  refine va_get (D := D) (ci := 4) (v := .long hs) (C := RX4) (T := TX4) (N := 13) hx hb hts inX4 hown hE.1 hP 0 rfl rfl 12 (by decide) F214 (fun _ h9 => h9) rfl dX4_mix_5 ?_
  refine lv_lmul (x := 31) (y := hs) hx hb dX4_mix_8 ?_
  refine lv_lload_n hx hb dX4_mix_9 rfl (lv_at hl 1 rfl) ?_
  refine lv_ladd (x := 31 * hs) (y := v) hx hb dX4_mix_10 ?_
  refine va_put (D := D) (ci := 4) (v := .long ((31 * hs) + v)) (ty := .long) (C := RX4) (T := TX4) (N := 13) hx hb hts inX4 tyX4 tyX4_ok nmX4 hown hE.1 hP hD hS 0 rfl rfl 12 (by decide) F214 (fun _ h9 => h9) rfl (by decide +kernel) rfl rfl (Nat.le_of_ble_eq_true rfl) dX4_mix_11 (fun H locs hP hD hS => ?_)
  have hP : va_P D vwCl (refO r th (nI sn) (nI ln) (nI pm) pn (nI sta) (nI ms) ((31 * hs) + v) :: zC K r T :: sC K r sv :: bC K r cs :: pC K r pf :: fC K r fa :: Y) H := hP
  have hD : va_D A (refO r th (nI sn) (nI ln) (nI pm) pn (nI sta) (nI ms) ((31 * hs) + v) :: zC K r T :: sC K r sv :: bC K r cs :: pC K r pf :: fC K r fa :: Y) := hD
  have ew : (refO r th (nI sn) (nI ln) (nI pm) pn (nI sta) (nI ms) ((31 * hs) + v) :: zC K r T :: sC K r sv :: bC K r cs :: pC K r pf :: fC K r fa :: Y) = (refO r th (nI sn) (nI ln) (nI pm) pn (nI sta) (nI ms) (31 * hs + v) :: zC K r T :: sC K r sv :: bC K r cs :: pC K r pf :: fC K r fa :: Y) := by simp 
  rw [ew] at hP hD
  exact wr_vret hAe hP hD hS hx hb hr hk dX4_mix_14 ⟨Nat.le_of_ble_eq_true rfl, Nat.le_of_ble_eq_true rfl⟩
set_option maxHeartbeats 4000000 in
set_option maxRecDepth 100000 in
theorem c_X4_goesTo (l : Launch) (D : va_G) (K : Nat → ClassId) (sz : Nat) (r : Nat → Nat) (th pn : Int32) (sn ln pm sta ms : Nat) (hs : Int64) (T : TW) (sv : Nat → Int32) (cs : Nat → Nat) (pf : Nat → Int32) (fa : Nat → Nat) (Y : va_W) (b : Bool) (s9 : Nat) : Wr l yX4_goesTo wsX4_goesTo ({ frames := 1, cells := 0, slots := 0, locals := 12 } : Room) D K (refO r th (nI sn) (nI ln) (nI pm) pn (nI sta) (nI ms) hs :: zC K r T :: sC K r sv :: bC K r cs :: pC K r pf :: fC K r fa :: Y) sz [.ref (r 0), .int (bI b), .int (nI s9)] (refO r th (nI sn) (nI ln) (nI pm) pn (nI s9) (nI ms) hs :: zC K r T :: sC K r sv :: bC K r cs :: pC K r pf :: fC K r fa :: Y) (some (.int (bI b))) 0 0 := by
  refine wr_intro (cc := cX4_goesTo) (maxL := 3) (ret := (some .boolean)) (by decide) rfl (Nat.le_of_ble_eq_true rfl) ?_
  intro pr en st md ar bl mt co A hx hb hml hr hts hown hk hsz hAe hP hE hD hS hA hin ls hl
  have hown : st.vm.findClass RX4 = some md.cls := hown
  have hl : lv_has ls 3 [(0, .ref (r 0)), (1, .int (bI b)), (2, .int (nI s9))] := hl
  obtain ⟨H, hH⟩ : ∃ z, z = st.heap := ⟨_, rfl⟩
  obtain ⟨locs, hlo⟩ : ∃ z : List Loc, z = [] := ⟨_, rfl⟩
  have hP : va_P D vwCl (refO r th (nI sn) (nI ln) (nI pm) pn (nI sta) (nI ms) hs :: zC K r T :: sC K r sv :: bC K r cs :: pC K r pf :: fC K r fa :: Y) H := by rw [hH]; exact hP
  have hS : va_S A st.heap H locs := by rw [hH, hlo]; exact hS
  suffices go : W pr l en (headSpec wsX4_goesTo ({ frames := 1, cells := 0, slots := 0, locals := 12 } : Room)).room st md ar bl mt co H locs 0 0 (MQ bl (wrQ D (refO r th (nI sn) (nI ln) (nI pm) pn (nI sta) (nI ms) hs :: zC K r T :: sC K r sv :: bC K r cs :: pC K r pf :: fC K r fa :: Y) (refO r th (nI sn) (nI ln) (nI pm) pn (nI s9) (nI ms) hs :: zC K r T :: sC K r sv :: bC K r cs :: pC K r pf :: fC K r fa :: Y) sz (some (.int (bI b)))) ar st 0 0 A) (F0 md 0 ls []) by rw [hH, hlo] at go; exact go
  clear hH hlo
  have F104 : (Cond.fieldLink RX4 104 "TramTollsModel" "state" "I").before ar st = true := hts _ (List.mem_of_getElem? (i := 1) rfl)
  have inX4 : ∀ w ∈ u_ws RX4 TX4 13, w ∈ wsX4_goesTo := fun w h => List.mem_cons_of_mem _ (List.mem_append_right _ h)
  refine lv_aload_n hx hb dX4_goesTo_0 rfl (lv_at hl 0 rfl) ?_
  refine lv_iload_n hx hb dX4_goesTo_1 rfl (lv_at hl 2 rfl) ?_
  refine va_put (D := D) (ci := 4) (v := .int (nI s9)) (ty := .int) (C := RX4) (T := TX4) (N := 13) hx hb hts inX4 tyX4 tyX4_ok nmX4 hown hE.1 hP hD hS 0 rfl rfl 9 (by decide) F104 (fun _ h9 => h9) rfl (by decide +kernel) rfl rfl (Nat.le_of_ble_eq_true rfl) dX4_goesTo_2 (fun H locs hP hD hS => ?_)
  have hP : va_P D vwCl (refO r th (nI sn) (nI ln) (nI pm) pn (nI s9) (nI ms) hs :: zC K r T :: sC K r sv :: bC K r cs :: pC K r pf :: fC K r fa :: Y) H := hP
  have hD : va_D A (refO r th (nI sn) (nI ln) (nI pm) pn (nI s9) (nI ms) hs :: zC K r T :: sC K r sv :: bC K r cs :: pC K r pf :: fC K r fa :: Y) := hD
  refine lv_iload_n hx hb dX4_goesTo_5 rfl (lv_at hl 1 rfl) ?_
  exact wr_zret hAe hP hD hS hx hb hr hk dX4_goesTo_6 ⟨Nat.le_of_ble_eq_true rfl, Nat.le_of_ble_eq_true rfl⟩ (rfl)
set_option maxHeartbeats 4000000 in
set_option maxRecDepth 100000 in
theorem c_X4_stands (l : Launch) (D : va_G) (K : Nat → ClassId) (sz : Nat) (r : Nat → Nat) (th pn : Int32) (sn ln pm sta ms : Nat) (hs : Int64) (T : TW) (sv : Nat → Int32) (cs : Nat → Nat) (pf : Nat → Int32) (fa : Nat → Nat) (Y : va_W) (c : Nat) (hc : c < 128) (hst5 : sta < 5) (hpm : pm < 30) : Wr l yX4_stands wsX4_stands ({ frames := 3, cells := 0, slots := 0, locals := 54 } : Room) D K (refO r th (nI sn) (nI ln) (nI pm) pn (nI sta) (nI ms) hs :: zC K r T :: sC K r sv :: bC K r cs :: pC K r pf :: fC K r fa :: Y) sz [.ref (r 0), .int (nI c)] (refO r th (nI sn) (nI ln) (nI ((stNx c (pm, sta, pn, pf)).1)) ((stNx c (pm, sta, pn, pf)).2.2.1) (nI ((stNx c (pm, sta, pn, pf)).2.1)) (nI ms) hs :: zC K r T :: sC K r sv :: bC K r cs :: pC K r ((stNx c (pm, sta, pn, pf)).2.2.2) :: fC K r fa :: Y) (some (.int (bI (stOk c sta)))) 0 0 := by
  refine wr_intro (cc := cX4_stands) (maxL := 2) (ret := (some .boolean)) (by decide) rfl (Nat.le_of_ble_eq_true rfl) ?_
  intro pr en st md ar bl mt co A hx hb hml hr hts hown hk hsz hAe hP hE hD hS hA hin ls hl
  have hown : st.vm.findClass RX4 = some md.cls := hown
  have hl : lv_has ls 2 [(0, .ref (r 0)), (1, .int (nI c))] := hl
  obtain ⟨H, hH⟩ : ∃ z, z = st.heap := ⟨_, rfl⟩
  obtain ⟨locs, hlo⟩ : ∃ z : List Loc, z = [] := ⟨_, rfl⟩
  have hP : va_P D vwCl (refO r th (nI sn) (nI ln) (nI pm) pn (nI sta) (nI ms) hs :: zC K r T :: sC K r sv :: bC K r cs :: pC K r pf :: fC K r fa :: Y) H := by rw [hH]; exact hP
  have hS : va_S A st.heap H locs := by rw [hH, hlo]; exact hS
  suffices go : W pr l en (headSpec wsX4_stands ({ frames := 3, cells := 0, slots := 0, locals := 54 } : Room)).room st md ar bl mt co H locs 0 0 (MQ bl (wrQ D (refO r th (nI sn) (nI ln) (nI pm) pn (nI sta) (nI ms) hs :: zC K r T :: sC K r sv :: bC K r cs :: pC K r pf :: fC K r fa :: Y) (refO r th (nI sn) (nI ln) (nI ((stNx c (pm, sta, pn, pf)).1)) ((stNx c (pm, sta, pn, pf)).2.2.1) (nI ((stNx c (pm, sta, pn, pf)).2.1)) (nI ms) hs :: zC K r T :: sC K r sv :: bC K r cs :: pC K r ((stNx c (pm, sta, pn, pf)).2.2.2) :: fC K r fa :: Y) sz (some (.int (bI (stOk c sta))))) ar st 0 0 A) (F0 md 0 ls []) by rw [hH, hlo] at go; exact go
  clear hH hlo
  have F104 : (Cond.fieldLink RX4 104 "TramTollsModel" "state" "I").before ar st = true := hts _ (List.mem_of_getElem? (i := 1) rfl)
  have inX4 : ∀ w ∈ u_ws RX4 TX4 13, w ∈ wsX4_stands := fun w h => List.mem_cons_of_mem _ (List.mem_append_right _ h)
  have F107 : (Cond.fieldLink RX4 107 "TramTollsModel" "playerNow" "I").before ar st = true := hts _ (List.mem_of_getElem? (i := 2) rfl)
  have F19 : (Cond.fieldLink RX4 19 "TramTollsModel" "pieces" "[I").before ar st = true := hts _ (List.mem_of_getElem? (i := 3) rfl)
  have F114 : (Cond.fieldLink RX4 114 "TramTollsModel" "pieceMany" "I").before ar st = true := hts _ (List.mem_of_getElem? (i := 4) rfl)
  refine lv_aload_n hx hb dX4_stands_0 rfl (lv_at hl 0 rfl) ?_
  refine va_get (D := D) (ci := 4) (v := .int (nI sta)) (C := RX4) (T := TX4) (N := 13) hx hb hts inX4 hown hE.1 hP 0 rfl rfl 9 (by decide) F104 (fun _ h9 => h9) rfl dX4_stands_1 ?_
  rcases (show sta = 0 ∨ sta = 1 ∨ sta = 2 ∨ sta = 3 ∨ sta = 4 by omega) with rfl | rfl | rfl | rfl | rfl
  · refine lv_tableIn (off := 32) (tgt := 36) hx hb dX4_stands_4 (by decide) (by decide) (by decide) (by decide) ?_
    refine lv_aload_n hx hb dX4_stands_36 rfl (lv_at hl 0 rfl) ?_
    refine lv_iload_n hx hb dX4_stands_37 rfl (lv_at hl 1 rfl) ?_
    refine lv_bipush (v := nI 48) hx hb dX4_stands_38 (by decide) ?_
    refine lv_isub (x := nI c) (y := nI 48) hx hb dX4_stands_40 ?_
    refine va_put (D := D) (ci := 4) (v := .int ((nI c) - (nI 48))) (ty := .int) (C := RX4) (T := TX4) (N := 13) hx hb hts inX4 tyX4 tyX4_ok nmX4 hown hE.1 hP hD hS 0 rfl rfl 8 (by decide) F107 (fun _ h9 => h9) rfl (by decide +kernel) rfl rfl (Nat.le_of_ble_eq_true rfl) dX4_stands_41 (fun H locs hP hD hS => ?_)
    have hP : va_P D vwCl (refO r th (nI sn) (nI ln) (nI pm) ((nI c) - (nI 48)) (nI 0) (nI ms) hs :: zC K r T :: sC K r sv :: bC K r cs :: pC K r pf :: fC K r fa :: Y) H := hP
    have hD : va_D A (refO r th (nI sn) (nI ln) (nI pm) ((nI c) - (nI 48)) (nI 0) (nI ms) hs :: zC K r T :: sC K r sv :: bC K r cs :: pC K r pf :: fC K r fa :: Y) := hD
    refine lv_aload_n hx hb dX4_stands_44 rfl (lv_at hl 0 rfl) ?_
    refine lv_aload_n hx hb dX4_stands_45 rfl (lv_at hl 0 rfl) ?_
    refine va_get (D := D) (ci := 4) (v := .int ((nI c) - (nI 48))) (C := RX4) (T := TX4) (N := 13) hx hb hts inX4 hown hE.1 hP 0 rfl rfl 8 (by decide) F107 (fun _ h9 => h9) rfl dX4_stands_46 ?_
    refine rd_S (rest := [.ref (r 0)]) ⟨hx, hb, hml, hown, hts⟩ hP hE (c_X4_isPlayer l D K _ ((nI c) - (nI 48))) (va_cwS 1 hts gX4_stands_X4_isPlayer rfl rfl rfl hn_X4_isPlayer ⟨Nat.le_of_ble_eq_true rfl, Nat.le_of_ble_eq_true rfl⟩) rfl hl.1 rfl (Nat.le_of_ble_eq_true rfl) dX4_stands_49 ⟨Nat.le_of_ble_eq_true rfl, Nat.le_of_ble_eq_true rfl⟩ ?_
    refine lv_iconst (v := nI 1) hx hb dX4_stands_52 (by decide) ?_
    refine wr_V (rest := []) (ci := 4) (q0 := 0) ⟨hx, hb, hml, hown, hts⟩ hP hE hA hD hS (c_X4_goesTo l D K _ _ _ _ _ _ _ _ _ _ _ _ _ _ _ _ (inR 0 3 ((nI c) - (nI 48))) 1) (cwV 2 hts gX4_stands_X4_goesTo rfl rfl rfl hd_X4_goesTo ⟨Nat.le_of_ble_eq_true rfl, Nat.le_of_ble_eq_true rfl⟩) rfl rfl rfl rfl hl.1 rfl (Nat.le_of_ble_eq_true rfl) dX4_stands_53 ⟨Nat.le_of_ble_eq_true rfl, Nat.le_of_ble_eq_true rfl⟩ (fun H locs hP hD hS => ?_)
    have hP : va_P D vwCl (refO r th (nI sn) (nI ln) (nI pm) ((nI c) - (nI 48)) (nI 1) (nI ms) hs :: zC K r T :: sC K r sv :: bC K r cs :: pC K r pf :: fC K r fa :: Y) H := hP
    have hD : va_D A (refO r th (nI sn) (nI ln) (nI pm) ((nI c) - (nI 48)) (nI 1) (nI ms) hs :: zC K r T :: sC K r sv :: bC K r cs :: pC K r pf :: fC K r fa :: Y) := hD
    have ew : (refO r th (nI sn) (nI ln) (nI pm) ((nI c) - (nI 48)) (nI 1) (nI ms) hs :: zC K r T :: sC K r sv :: bC K r cs :: pC K r pf :: fC K r fa :: Y) = (refO r th (nI sn) (nI ln) (nI ((stNx c (pm, 0, pn, pf)).1)) ((stNx c (pm, 0, pn, pf)).2.2.1) (nI ((stNx c (pm, 0, pn, pf)).2.1)) (nI ms) hs :: zC K r T :: sC K r sv :: bC K r cs :: pC K r ((stNx c (pm, 0, pn, pf)).2.2.2) :: fC K r fa :: Y) := by first | rfl | (simp [stNx, ]; done) | (simp_all [stNx]; done)
    rw [ew] at hP hD
    exact wr_zret hAe hP hD hS hx hb hr hk dX4_stands_56 ⟨Nat.le_of_ble_eq_true rfl, Nat.le_of_ble_eq_true rfl⟩ (by first | rfl | exact congrArg bI (show stOk c 4 = decide (49 ≤ c ∧ c ≤ 54) from by simp [stOk]).symm | (simp [stOk, nI_0, nI_one, bI]; done) | (simp_all [stOk]; done) | (exfalso; omega))
  · refine lv_tableIn (off := 53) (tgt := 57) hx hb dX4_stands_4 (by decide) (by decide) (by decide) (by decide) ?_
    refine lv_aload_n hx hb dX4_stands_57 rfl (lv_at hl 0 rfl) ?_
    refine lv_iload_n hx hb dX4_stands_58 rfl (lv_at hl 1 rfl) ?_
    refine lv_bipush (v := nI 58) hx hb dX4_stands_59 (by decide) ?_
    refine nv_icmp_ne (x := c) (y := 58) (tgt := 68) hx hb dX4_stands_61 (by decide) (by omega) (by decide) (fun c_1 => ?_) (fun c_1 => ?_)
    · refine lv_iconst (v := nI 0) hx hb dX4_stands_68 (by decide) ?_
      refine lv_iconst (v := nI 2) hx hb dX4_stands_69 (by decide) ?_
      refine wr_V (rest := []) (ci := 4) (q0 := 0) ⟨hx, hb, hml, hown, hts⟩ hP hE hA hD hS (c_X4_goesTo l D K _ _ _ _ _ _ _ _ _ _ _ _ _ _ _ _ false 2) (cwV 2 hts gX4_stands_X4_goesTo rfl rfl rfl hd_X4_goesTo ⟨Nat.le_of_ble_eq_true rfl, Nat.le_of_ble_eq_true rfl⟩) rfl rfl rfl rfl hl.1 rfl (Nat.le_of_ble_eq_true rfl) dX4_stands_70 ⟨Nat.le_of_ble_eq_true rfl, Nat.le_of_ble_eq_true rfl⟩ (fun H locs hP hD hS => ?_)
      have hP : va_P D vwCl (refO r th (nI sn) (nI ln) (nI pm) pn (nI 2) (nI ms) hs :: zC K r T :: sC K r sv :: bC K r cs :: pC K r pf :: fC K r fa :: Y) H := hP
      have hD : va_D A (refO r th (nI sn) (nI ln) (nI pm) pn (nI 2) (nI ms) hs :: zC K r T :: sC K r sv :: bC K r cs :: pC K r pf :: fC K r fa :: Y) := hD
      have ew : (refO r th (nI sn) (nI ln) (nI pm) pn (nI 2) (nI ms) hs :: zC K r T :: sC K r sv :: bC K r cs :: pC K r pf :: fC K r fa :: Y) = (refO r th (nI sn) (nI ln) (nI ((stNx c (pm, 1, pn, pf)).1)) ((stNx c (pm, 1, pn, pf)).2.2.1) (nI ((stNx c (pm, 1, pn, pf)).2.1)) (nI ms) hs :: zC K r T :: sC K r sv :: bC K r cs :: pC K r ((stNx c (pm, 1, pn, pf)).2.2.2) :: fC K r fa :: Y) := by first | rfl | (simp [stNx, c_1]; done) | (simp_all [stNx]; done)
      rw [ew] at hP hD
      exact wr_zret hAe hP hD hS hx hb hr hk dX4_stands_73 ⟨Nat.le_of_ble_eq_true rfl, Nat.le_of_ble_eq_true rfl⟩ (by first | rfl | exact congrArg bI (show stOk c 4 = decide (49 ≤ c ∧ c ≤ 54) from by simp [stOk, c_1]).symm | (simp [stOk, nI_0, nI_one, bI, c_1]; done) | (simp_all [stOk]; done) | (exfalso; omega))
    · refine lv_iconst (v := nI 1) hx hb dX4_stands_64 (by decide) ?_
      refine lv_goto (tgt := 69) hx hb dX4_stands_65 (by decide) ?_
      refine lv_iconst (v := nI 2) hx hb dX4_stands_69 (by decide) ?_
      refine wr_V (rest := []) (ci := 4) (q0 := 0) ⟨hx, hb, hml, hown, hts⟩ hP hE hA hD hS (c_X4_goesTo l D K _ _ _ _ _ _ _ _ _ _ _ _ _ _ _ _ true 2) (cwV 2 hts gX4_stands_X4_goesTo rfl rfl rfl hd_X4_goesTo ⟨Nat.le_of_ble_eq_true rfl, Nat.le_of_ble_eq_true rfl⟩) rfl rfl rfl rfl hl.1 rfl (Nat.le_of_ble_eq_true rfl) dX4_stands_70 ⟨Nat.le_of_ble_eq_true rfl, Nat.le_of_ble_eq_true rfl⟩ (fun H locs hP hD hS => ?_)
      have hP : va_P D vwCl (refO r th (nI sn) (nI ln) (nI pm) pn (nI 2) (nI ms) hs :: zC K r T :: sC K r sv :: bC K r cs :: pC K r pf :: fC K r fa :: Y) H := hP
      have hD : va_D A (refO r th (nI sn) (nI ln) (nI pm) pn (nI 2) (nI ms) hs :: zC K r T :: sC K r sv :: bC K r cs :: pC K r pf :: fC K r fa :: Y) := hD
      have ew : (refO r th (nI sn) (nI ln) (nI pm) pn (nI 2) (nI ms) hs :: zC K r T :: sC K r sv :: bC K r cs :: pC K r pf :: fC K r fa :: Y) = (refO r th (nI sn) (nI ln) (nI ((stNx c (pm, 1, pn, pf)).1)) ((stNx c (pm, 1, pn, pf)).2.2.1) (nI ((stNx c (pm, 1, pn, pf)).2.1)) (nI ms) hs :: zC K r T :: sC K r sv :: bC K r cs :: pC K r ((stNx c (pm, 1, pn, pf)).2.2.2) :: fC K r fa :: Y) := by first | rfl | (simp [stNx, c_1]; done) | (simp_all [stNx]; done)
      rw [ew] at hP hD
      exact wr_zret hAe hP hD hS hx hb hr hk dX4_stands_73 ⟨Nat.le_of_ble_eq_true rfl, Nat.le_of_ble_eq_true rfl⟩ (by first | rfl | exact congrArg bI (show stOk c 4 = decide (49 ≤ c ∧ c ≤ 54) from by simp [stOk, c_1]).symm | (simp [stOk, nI_0, nI_one, bI, c_1]; done) | (simp_all [stOk]; done) | (exfalso; omega))
  · refine lv_tableIn (off := 116) (tgt := 120) hx hb dX4_stands_4 (by decide) (by decide) (by decide) (by decide) ?_
    refine lv_aload_n hx hb dX4_stands_120 rfl (lv_at hl 0 rfl) ?_
    refine va_get (D := D) (ci := 4) (v := .int (nI 2)) (C := RX4) (T := TX4) (N := 13) hx hb hts inX4 hown hE.1 hP 0 rfl rfl 9 (by decide) F104 (fun _ h9 => h9) rfl dX4_stands_121 ?_
    refine lv_iconst (v := nI 4) hx hb dX4_stands_124 (by decide) ?_
    refine nv_icmp_ne (x := 2) (y := 4) (tgt := 141) hx hb dX4_stands_125 (by decide) (by decide) (by decide) (fun c_2 => ?_) (fun c_2 => ?_)
    · refine lv_aload_n hx hb dX4_stands_141 rfl (lv_at hl 0 rfl) ?_
      refine va_get (D := D) (ci := 4) (v := .ref (r 4)) (C := RX4) (T := TX4) (N := 13) hx hb hts inX4 hown hE.1 hP 0 rfl rfl 6 (by decide) F19 (fun _ h9 => h9) rfl dX4_stands_142 ?_
      refine lv_iconst (v := nI 3) hx hb dX4_stands_145 (by decide) ?_
      refine lv_aload_n hx hb dX4_stands_146 rfl (lv_at hl 0 rfl) ?_
      refine va_get (D := D) (ci := 4) (v := .int (nI pm)) (C := RX4) (T := TX4) (N := 13) hx hb hts inX4 hown hE.1 hP 0 rfl rfl 7 (by decide) F114 (fun _ h9 => h9) rfl dX4_stands_147 ?_
      refine nv_imul (x := 3) (y := pm) hx hb dX4_stands_150 ?_
      refine lv_aload_n hx hb dX4_stands_151 rfl (lv_at hl 0 rfl) ?_
      refine va_get (D := D) (ci := 4) (v := .int pn) (C := RX4) (T := TX4) (N := 13) hx hb hts inX4 hown hE.1 hP 0 rfl rfl 8 (by decide) F107 (fun _ h9 => h9) rfl dX4_stands_152 ?_
      refine va_iast hx hb hE.1 hP hD hS 4 0 rfl rfl (pk_in (3 * pm) 96 (by omega)) dX4_stands_155 (fun H locs hP hD hS => ?_)
      rw [pk_cl (3 * pm)] at hP hD
      have hP : va_P D vwCl (refO r th (nI sn) (nI ln) (nI pm) pn (nI 2) (nI ms) hs :: zC K r T :: sC K r sv :: bC K r cs :: pC K r (upd pf (3 * pm) pn) :: fC K r fa :: Y) H := hP
      have hD : va_D A (refO r th (nI sn) (nI ln) (nI pm) pn (nI 2) (nI ms) hs :: zC K r T :: sC K r sv :: bC K r cs :: pC K r (upd pf (3 * pm) pn) :: fC K r fa :: Y) := hD
      refine lv_aload_n hx hb dX4_stands_156 rfl (lv_at hl 0 rfl) ?_
      refine va_get (D := D) (ci := 4) (v := .ref (r 4)) (C := RX4) (T := TX4) (N := 13) hx hb hts inX4 hown hE.1 hP 0 rfl rfl 6 (by decide) F19 (fun _ h9 => h9) rfl dX4_stands_157 ?_
      refine lv_iconst (v := nI 3) hx hb dX4_stands_160 (by decide) ?_
      refine lv_aload_n hx hb dX4_stands_161 rfl (lv_at hl 0 rfl) ?_
      refine va_get (D := D) (ci := 4) (v := .int (nI pm)) (C := RX4) (T := TX4) (N := 13) hx hb hts inX4 hown hE.1 hP 0 rfl rfl 7 (by decide) F114 (fun _ h9 => h9) rfl dX4_stands_162 ?_
      refine nv_imul (x := 3) (y := pm) hx hb dX4_stands_165 ?_
      refine lv_iconst (v := nI 1) hx hb dX4_stands_166 (by decide) ?_
      refine nv_iadd (x := 3 * pm) (y := 1) hx hb dX4_stands_167 ?_
      refine lv_iload_n hx hb dX4_stands_168 rfl (lv_at hl 1 rfl) ?_
      refine lv_bipush (v := nI 48) hx hb dX4_stands_169 (by decide) ?_
      refine lv_isub (x := nI c) (y := nI 48) hx hb dX4_stands_171 ?_
      refine va_iast hx hb hE.1 hP hD hS 4 0 rfl rfl (pk_in ((3 * pm) + 1) 96 (by omega)) dX4_stands_172 (fun H locs hP hD hS => ?_)
      rw [pk_cl ((3 * pm) + 1)] at hP hD
      have hP : va_P D vwCl (refO r th (nI sn) (nI ln) (nI pm) pn (nI 2) (nI ms) hs :: zC K r T :: sC K r sv :: bC K r cs :: pC K r (upd (upd pf (3 * pm) pn) ((3 * pm) + 1) ((nI c) - (nI 48))) :: fC K r fa :: Y) H := hP
      have hD : va_D A (refO r th (nI sn) (nI ln) (nI pm) pn (nI 2) (nI ms) hs :: zC K r T :: sC K r sv :: bC K r cs :: pC K r (upd (upd pf (3 * pm) pn) ((3 * pm) + 1) ((nI c) - (nI 48))) :: fC K r fa :: Y) := hD
      refine lv_aload_n hx hb dX4_stands_173 rfl (lv_at hl 0 rfl) ?_
      refine lv_iload_n hx hb dX4_stands_174 rfl (lv_at hl 1 rfl) ?_
      refine lv_bipush (v := nI 49) hx hb dX4_stands_175 (by decide) ?_
      refine lv_bipush (v := nI 54) hx hb dX4_stands_177 (by decide) ?_
      refine rd_S (rest := [.ref (r 0)]) ⟨hx, hb, hml, hown, hts⟩ hP hE (c_X4_in l D K _ (nI c) (nI 49) (nI 54)) (va_cwS 3 hts gX4_stands_X4_in rfl rfl rfl hn_X4_in ⟨Nat.le_of_ble_eq_true rfl, Nat.le_of_ble_eq_true rfl⟩) rfl hl.1 rfl (Nat.le_of_ble_eq_true rfl) dX4_stands_179 ⟨Nat.le_of_ble_eq_true rfl, Nat.le_of_ble_eq_true rfl⟩ ?_
      refine top_i (y := bI (decide (49 ≤ c ∧ c ≤ 54))) (congrArg bI (inR_N (by decide) (by decide) (by omega))) ?_
      refine lv_iconst (v := nI 3) hx hb dX4_stands_182 (by decide) ?_
      refine wr_V (rest := []) (ci := 4) (q0 := 0) ⟨hx, hb, hml, hown, hts⟩ hP hE hA hD hS (c_X4_goesTo l D K _ _ _ _ _ _ _ _ _ _ _ _ _ _ _ _ (decide (49 ≤ c ∧ c ≤ 54)) 3) (cwV 2 hts gX4_stands_X4_goesTo rfl rfl rfl hd_X4_goesTo ⟨Nat.le_of_ble_eq_true rfl, Nat.le_of_ble_eq_true rfl⟩) rfl rfl rfl rfl hl.1 rfl (Nat.le_of_ble_eq_true rfl) dX4_stands_183 ⟨Nat.le_of_ble_eq_true rfl, Nat.le_of_ble_eq_true rfl⟩ (fun H locs hP hD hS => ?_)
      have hP : va_P D vwCl (refO r th (nI sn) (nI ln) (nI pm) pn (nI 3) (nI ms) hs :: zC K r T :: sC K r sv :: bC K r cs :: pC K r (upd (upd pf (3 * pm) pn) ((3 * pm) + 1) ((nI c) - (nI 48))) :: fC K r fa :: Y) H := hP
      have hD : va_D A (refO r th (nI sn) (nI ln) (nI pm) pn (nI 3) (nI ms) hs :: zC K r T :: sC K r sv :: bC K r cs :: pC K r (upd (upd pf (3 * pm) pn) ((3 * pm) + 1) ((nI c) - (nI 48))) :: fC K r fa :: Y) := hD
      have ew : (refO r th (nI sn) (nI ln) (nI pm) pn (nI 3) (nI ms) hs :: zC K r T :: sC K r sv :: bC K r cs :: pC K r (upd (upd pf (3 * pm) pn) ((3 * pm) + 1) ((nI c) - (nI 48))) :: fC K r fa :: Y) = (refO r th (nI sn) (nI ln) (nI ((stNx c (pm, 2, pn, pf)).1)) ((stNx c (pm, 2, pn, pf)).2.2.1) (nI ((stNx c (pm, 2, pn, pf)).2.1)) (nI ms) hs :: zC K r T :: sC K r sv :: bC K r cs :: pC K r ((stNx c (pm, 2, pn, pf)).2.2.2) :: fC K r fa :: Y) := by first | rfl | (simp [stNx, c_2]; done) | (simp_all [stNx]; done)
      rw [ew] at hP hD
      exact wr_zret hAe hP hD hS hx hb hr hk dX4_stands_186 ⟨Nat.le_of_ble_eq_true rfl, Nat.le_of_ble_eq_true rfl⟩ (by first | rfl | exact congrArg bI (show stOk c 4 = decide (49 ≤ c ∧ c ≤ 54) from by simp [stOk, c_2]).symm | (simp [stOk, nI_0, nI_one, bI, c_2]; done) | (simp_all [stOk]; done) | (exfalso; omega))
    exact absurd c_2 (by decide)
  · refine lv_tableIn (off := 70) (tgt := 74) hx hb dX4_stands_4 (by decide) (by decide) (by decide) (by decide) ?_
    refine lv_aload_n hx hb dX4_stands_74 rfl (lv_at hl 0 rfl) ?_
    refine va_get (D := D) (ci := 4) (v := .ref (r 4)) (C := RX4) (T := TX4) (N := 13) hx hb hts inX4 hown hE.1 hP 0 rfl rfl 6 (by decide) F19 (fun _ h9 => h9) rfl dX4_stands_75 ?_
    refine lv_iconst (v := nI 3) hx hb dX4_stands_78 (by decide) ?_
    refine lv_aload_n hx hb dX4_stands_79 rfl (lv_at hl 0 rfl) ?_
    refine va_get (D := D) (ci := 4) (v := .int (nI pm)) (C := RX4) (T := TX4) (N := 13) hx hb hts inX4 hown hE.1 hP 0 rfl rfl 7 (by decide) F114 (fun _ h9 => h9) rfl dX4_stands_80 ?_
    refine nv_imul (x := 3) (y := pm) hx hb dX4_stands_83 ?_
    refine lv_iconst (v := nI 2) hx hb dX4_stands_84 (by decide) ?_
    refine nv_iadd (x := 3 * pm) (y := 2) hx hb dX4_stands_85 ?_
    refine lv_iload_n hx hb dX4_stands_86 rfl (lv_at hl 1 rfl) ?_
    refine rd_S (rest := [.int (nI ((3 * pm) + 2)), .ref (r 4)]) ⟨hx, hb, hml, hown, hts⟩ hP hE (c_X4_directionOf l D K _ c (by omega)) (va_cwS 1 hts gX4_stands_X4_directionOf rfl rfl rfl hn_X4_directionOf ⟨Nat.le_of_ble_eq_true rfl, Nat.le_of_ble_eq_true rfl⟩) rfl hl.1 rfl (Nat.le_of_ble_eq_true rfl) dX4_stands_87 ⟨Nat.le_of_ble_eq_true rfl, Nat.le_of_ble_eq_true rfl⟩ ?_
    refine va_iast hx hb hE.1 hP hD hS 4 0 rfl rfl (pk_in ((3 * pm) + 2) 96 (by omega)) dX4_stands_90 (fun H locs hP hD hS => ?_)
    rw [pk_cl ((3 * pm) + 2)] at hP hD
    have hP : va_P D vwCl (refO r th (nI sn) (nI ln) (nI pm) pn (nI 3) (nI ms) hs :: zC K r T :: sC K r sv :: bC K r cs :: pC K r (upd pf ((3 * pm) + 2) (oI (dirC c))) :: fC K r fa :: Y) H := hP
    have hD : va_D A (refO r th (nI sn) (nI ln) (nI pm) pn (nI 3) (nI ms) hs :: zC K r T :: sC K r sv :: bC K r cs :: pC K r (upd pf ((3 * pm) + 2) (oI (dirC c))) :: fC K r fa :: Y) := hD
    refine lv_aload_n hx hb dX4_stands_91 rfl (lv_at hl 0 rfl) ?_
    refine lv_dup hx hb dX4_stands_92 rfl ?_
    refine va_get (D := D) (ci := 4) (v := .int (nI pm)) (C := RX4) (T := TX4) (N := 13) hx hb hts inX4 hown hE.1 hP 0 rfl rfl 7 (by decide) F114 (fun _ h9 => h9) rfl dX4_stands_93 ?_
    refine lv_iconst (v := nI 1) hx hb dX4_stands_96 (by decide) ?_
    refine nv_iadd (x := pm) (y := 1) hx hb dX4_stands_97 ?_
    refine va_put (D := D) (ci := 4) (v := .int (nI (pm + 1))) (ty := .int) (C := RX4) (T := TX4) (N := 13) hx hb hts inX4 tyX4 tyX4_ok nmX4 hown hE.1 hP hD hS 0 rfl rfl 7 (by decide) F114 (fun _ h9 => h9) rfl (by decide +kernel) rfl rfl (Nat.le_of_ble_eq_true rfl) dX4_stands_98 (fun H locs hP hD hS => ?_)
    have hP : va_P D vwCl (refO r th (nI sn) (nI ln) (nI (pm + 1)) pn (nI 3) (nI ms) hs :: zC K r T :: sC K r sv :: bC K r cs :: pC K r (upd pf ((3 * pm) + 2) (oI (dirC c))) :: fC K r fa :: Y) H := hP
    have hD : va_D A (refO r th (nI sn) (nI ln) (nI (pm + 1)) pn (nI 3) (nI ms) hs :: zC K r T :: sC K r sv :: bC K r cs :: pC K r (upd pf ((3 * pm) + 2) (oI (dirC c))) :: fC K r fa :: Y) := hD
    refine lv_aload_n hx hb dX4_stands_101 rfl (lv_at hl 0 rfl) ?_
    refine lv_iload_n hx hb dX4_stands_102 rfl (lv_at hl 1 rfl) ?_
    refine rd_S (rest := [.ref (r 0)]) ⟨hx, hb, hml, hown, hts⟩ hP hE (c_X4_directionOf l D K _ c (by omega)) (va_cwS 1 hts gX4_stands_X4_directionOf rfl rfl rfl hn_X4_directionOf ⟨Nat.le_of_ble_eq_true rfl, Nat.le_of_ble_eq_true rfl⟩) rfl hl.1 rfl (Nat.le_of_ble_eq_true rfl) dX4_stands_103 ⟨Nat.le_of_ble_eq_true rfl, Nat.le_of_ble_eq_true rfl⟩ ?_
    refine lv_iconst (v := -1) hx hb dX4_stands_106 (by decide) ?_
    refine ov_icmp_eq (tgt := 114) hx hb dX4_stands_107 (by decide) (lt31 (dirC_lt c) (by decide)) (fun c_3 => ?_) (fun k_4 c_3 => ?_)
    · refine lv_iconst (v := nI 0) hx hb dX4_stands_114 (by decide) ?_
      refine lv_iconst (v := nI 4) hx hb dX4_stands_115 (by decide) ?_
      refine wr_V (rest := []) (ci := 4) (q0 := 0) ⟨hx, hb, hml, hown, hts⟩ hP hE hA hD hS (c_X4_goesTo l D K _ _ _ _ _ _ _ _ _ _ _ _ _ _ _ _ false 4) (cwV 2 hts gX4_stands_X4_goesTo rfl rfl rfl hd_X4_goesTo ⟨Nat.le_of_ble_eq_true rfl, Nat.le_of_ble_eq_true rfl⟩) rfl rfl rfl rfl hl.1 rfl (Nat.le_of_ble_eq_true rfl) dX4_stands_116 ⟨Nat.le_of_ble_eq_true rfl, Nat.le_of_ble_eq_true rfl⟩ (fun H locs hP hD hS => ?_)
      have hP : va_P D vwCl (refO r th (nI sn) (nI ln) (nI (pm + 1)) pn (nI 4) (nI ms) hs :: zC K r T :: sC K r sv :: bC K r cs :: pC K r (upd pf ((3 * pm) + 2) (oI (dirC c))) :: fC K r fa :: Y) H := hP
      have hD : va_D A (refO r th (nI sn) (nI ln) (nI (pm + 1)) pn (nI 4) (nI ms) hs :: zC K r T :: sC K r sv :: bC K r cs :: pC K r (upd pf ((3 * pm) + 2) (oI (dirC c))) :: fC K r fa :: Y) := hD
      have ew : (refO r th (nI sn) (nI ln) (nI (pm + 1)) pn (nI 4) (nI ms) hs :: zC K r T :: sC K r sv :: bC K r cs :: pC K r (upd pf ((3 * pm) + 2) (oI (dirC c))) :: fC K r fa :: Y) = (refO r th (nI sn) (nI ln) (nI ((stNx c (pm, 3, pn, pf)).1)) ((stNx c (pm, 3, pn, pf)).2.2.1) (nI ((stNx c (pm, 3, pn, pf)).2.1)) (nI ms) hs :: zC K r T :: sC K r sv :: bC K r cs :: pC K r ((stNx c (pm, 3, pn, pf)).2.2.2) :: fC K r fa :: Y) := by first | rfl | (simp [stNx, c_3]; done) | (simp_all [stNx]; done)
      rw [ew] at hP hD
      exact wr_zret hAe hP hD hS hx hb hr hk dX4_stands_119 ⟨Nat.le_of_ble_eq_true rfl, Nat.le_of_ble_eq_true rfl⟩ (by first | rfl | exact congrArg bI (show stOk c 4 = decide (49 ≤ c ∧ c ≤ 54) from by simp [stOk, c_3]).symm | (simp [stOk, nI_0, nI_one, bI, c_3]; done) | (simp_all [stOk]; done) | (exfalso; omega))
    · have hk_c_3 := (dirC_lt c) k_4 c_3
      refine lv_iconst (v := nI 1) hx hb dX4_stands_110 (by decide) ?_
      refine lv_goto (tgt := 115) hx hb dX4_stands_111 (by decide) ?_
      refine lv_iconst (v := nI 4) hx hb dX4_stands_115 (by decide) ?_
      refine wr_V (rest := []) (ci := 4) (q0 := 0) ⟨hx, hb, hml, hown, hts⟩ hP hE hA hD hS (c_X4_goesTo l D K _ _ _ _ _ _ _ _ _ _ _ _ _ _ _ _ true 4) (cwV 2 hts gX4_stands_X4_goesTo rfl rfl rfl hd_X4_goesTo ⟨Nat.le_of_ble_eq_true rfl, Nat.le_of_ble_eq_true rfl⟩) rfl rfl rfl rfl hl.1 rfl (Nat.le_of_ble_eq_true rfl) dX4_stands_116 ⟨Nat.le_of_ble_eq_true rfl, Nat.le_of_ble_eq_true rfl⟩ (fun H locs hP hD hS => ?_)
      have hP : va_P D vwCl (refO r th (nI sn) (nI ln) (nI (pm + 1)) pn (nI 4) (nI ms) hs :: zC K r T :: sC K r sv :: bC K r cs :: pC K r (upd pf ((3 * pm) + 2) (oI (dirC c))) :: fC K r fa :: Y) H := hP
      have hD : va_D A (refO r th (nI sn) (nI ln) (nI (pm + 1)) pn (nI 4) (nI ms) hs :: zC K r T :: sC K r sv :: bC K r cs :: pC K r (upd pf ((3 * pm) + 2) (oI (dirC c))) :: fC K r fa :: Y) := hD
      have ew : (refO r th (nI sn) (nI ln) (nI (pm + 1)) pn (nI 4) (nI ms) hs :: zC K r T :: sC K r sv :: bC K r cs :: pC K r (upd pf ((3 * pm) + 2) (oI (dirC c))) :: fC K r fa :: Y) = (refO r th (nI sn) (nI ln) (nI ((stNx c (pm, 3, pn, pf)).1)) ((stNx c (pm, 3, pn, pf)).2.2.1) (nI ((stNx c (pm, 3, pn, pf)).2.1)) (nI ms) hs :: zC K r T :: sC K r sv :: bC K r cs :: pC K r ((stNx c (pm, 3, pn, pf)).2.2.2) :: fC K r fa :: Y) := by first | rfl | (simp [stNx, c_3]; done) | (simp_all [stNx]; done)
      rw [ew] at hP hD
      exact wr_zret hAe hP hD hS hx hb hr hk dX4_stands_119 ⟨Nat.le_of_ble_eq_true rfl, Nat.le_of_ble_eq_true rfl⟩ (by first | rfl | exact congrArg bI (show stOk c 4 = decide (49 ≤ c ∧ c ≤ 54) from by simp [stOk, c_3]).symm | (simp [stOk, nI_0, nI_one, bI, c_3]; done) | (simp_all [stOk]; done) | (exfalso; omega))
  · refine lv_tableOut (tgt := 120) hx hb dX4_stands_4 (by decide) (by decide) ?_
    refine lv_aload_n hx hb dX4_stands_120 rfl (lv_at hl 0 rfl) ?_
    refine va_get (D := D) (ci := 4) (v := .int (nI 4)) (C := RX4) (T := TX4) (N := 13) hx hb hts inX4 hown hE.1 hP 0 rfl rfl 9 (by decide) F104 (fun _ h9 => h9) rfl dX4_stands_121 ?_
    refine lv_iconst (v := nI 4) hx hb dX4_stands_124 (by decide) ?_
    refine nv_icmp_ne (x := 4) (y := 4) (tgt := 141) hx hb dX4_stands_125 (by decide) (by decide) (by decide) (fun c_5 => ?_) (fun c_5 => ?_)
    · exact absurd c_5 (by decide)
    refine lv_iload_n hx hb dX4_stands_128 rfl (lv_at hl 1 rfl) ?_
    refine lv_bipush (v := nI 59) hx hb dX4_stands_129 (by decide) ?_
    refine nv_icmp_ne (x := c) (y := 59) (tgt := 141) hx hb dX4_stands_131 (by decide) (by omega) (by decide) (fun c_6 => ?_) (fun c_6 => ?_)
    · refine lv_aload_n hx hb dX4_stands_141 rfl (lv_at hl 0 rfl) ?_
      refine va_get (D := D) (ci := 4) (v := .ref (r 4)) (C := RX4) (T := TX4) (N := 13) hx hb hts inX4 hown hE.1 hP 0 rfl rfl 6 (by decide) F19 (fun _ h9 => h9) rfl dX4_stands_142 ?_
      refine lv_iconst (v := nI 3) hx hb dX4_stands_145 (by decide) ?_
      refine lv_aload_n hx hb dX4_stands_146 rfl (lv_at hl 0 rfl) ?_
      refine va_get (D := D) (ci := 4) (v := .int (nI pm)) (C := RX4) (T := TX4) (N := 13) hx hb hts inX4 hown hE.1 hP 0 rfl rfl 7 (by decide) F114 (fun _ h9 => h9) rfl dX4_stands_147 ?_
      refine nv_imul (x := 3) (y := pm) hx hb dX4_stands_150 ?_
      refine lv_aload_n hx hb dX4_stands_151 rfl (lv_at hl 0 rfl) ?_
      refine va_get (D := D) (ci := 4) (v := .int pn) (C := RX4) (T := TX4) (N := 13) hx hb hts inX4 hown hE.1 hP 0 rfl rfl 8 (by decide) F107 (fun _ h9 => h9) rfl dX4_stands_152 ?_
      refine va_iast hx hb hE.1 hP hD hS 4 0 rfl rfl (pk_in (3 * pm) 96 (by omega)) dX4_stands_155 (fun H locs hP hD hS => ?_)
      rw [pk_cl (3 * pm)] at hP hD
      have hP : va_P D vwCl (refO r th (nI sn) (nI ln) (nI pm) pn (nI 4) (nI ms) hs :: zC K r T :: sC K r sv :: bC K r cs :: pC K r (upd pf (3 * pm) pn) :: fC K r fa :: Y) H := hP
      have hD : va_D A (refO r th (nI sn) (nI ln) (nI pm) pn (nI 4) (nI ms) hs :: zC K r T :: sC K r sv :: bC K r cs :: pC K r (upd pf (3 * pm) pn) :: fC K r fa :: Y) := hD
      refine lv_aload_n hx hb dX4_stands_156 rfl (lv_at hl 0 rfl) ?_
      refine va_get (D := D) (ci := 4) (v := .ref (r 4)) (C := RX4) (T := TX4) (N := 13) hx hb hts inX4 hown hE.1 hP 0 rfl rfl 6 (by decide) F19 (fun _ h9 => h9) rfl dX4_stands_157 ?_
      refine lv_iconst (v := nI 3) hx hb dX4_stands_160 (by decide) ?_
      refine lv_aload_n hx hb dX4_stands_161 rfl (lv_at hl 0 rfl) ?_
      refine va_get (D := D) (ci := 4) (v := .int (nI pm)) (C := RX4) (T := TX4) (N := 13) hx hb hts inX4 hown hE.1 hP 0 rfl rfl 7 (by decide) F114 (fun _ h9 => h9) rfl dX4_stands_162 ?_
      refine nv_imul (x := 3) (y := pm) hx hb dX4_stands_165 ?_
      refine lv_iconst (v := nI 1) hx hb dX4_stands_166 (by decide) ?_
      refine nv_iadd (x := 3 * pm) (y := 1) hx hb dX4_stands_167 ?_
      refine lv_iload_n hx hb dX4_stands_168 rfl (lv_at hl 1 rfl) ?_
      refine lv_bipush (v := nI 48) hx hb dX4_stands_169 (by decide) ?_
      refine lv_isub (x := nI c) (y := nI 48) hx hb dX4_stands_171 ?_
      refine va_iast hx hb hE.1 hP hD hS 4 0 rfl rfl (pk_in ((3 * pm) + 1) 96 (by omega)) dX4_stands_172 (fun H locs hP hD hS => ?_)
      rw [pk_cl ((3 * pm) + 1)] at hP hD
      have hP : va_P D vwCl (refO r th (nI sn) (nI ln) (nI pm) pn (nI 4) (nI ms) hs :: zC K r T :: sC K r sv :: bC K r cs :: pC K r (upd (upd pf (3 * pm) pn) ((3 * pm) + 1) ((nI c) - (nI 48))) :: fC K r fa :: Y) H := hP
      have hD : va_D A (refO r th (nI sn) (nI ln) (nI pm) pn (nI 4) (nI ms) hs :: zC K r T :: sC K r sv :: bC K r cs :: pC K r (upd (upd pf (3 * pm) pn) ((3 * pm) + 1) ((nI c) - (nI 48))) :: fC K r fa :: Y) := hD
      refine lv_aload_n hx hb dX4_stands_173 rfl (lv_at hl 0 rfl) ?_
      refine lv_iload_n hx hb dX4_stands_174 rfl (lv_at hl 1 rfl) ?_
      refine lv_bipush (v := nI 49) hx hb dX4_stands_175 (by decide) ?_
      refine lv_bipush (v := nI 54) hx hb dX4_stands_177 (by decide) ?_
      refine rd_S (rest := [.ref (r 0)]) ⟨hx, hb, hml, hown, hts⟩ hP hE (c_X4_in l D K _ (nI c) (nI 49) (nI 54)) (va_cwS 3 hts gX4_stands_X4_in rfl rfl rfl hn_X4_in ⟨Nat.le_of_ble_eq_true rfl, Nat.le_of_ble_eq_true rfl⟩) rfl hl.1 rfl (Nat.le_of_ble_eq_true rfl) dX4_stands_179 ⟨Nat.le_of_ble_eq_true rfl, Nat.le_of_ble_eq_true rfl⟩ ?_
      refine top_i (y := bI (decide (49 ≤ c ∧ c ≤ 54))) (congrArg bI (inR_N (by decide) (by decide) (by omega))) ?_
      refine lv_iconst (v := nI 3) hx hb dX4_stands_182 (by decide) ?_
      refine wr_V (rest := []) (ci := 4) (q0 := 0) ⟨hx, hb, hml, hown, hts⟩ hP hE hA hD hS (c_X4_goesTo l D K _ _ _ _ _ _ _ _ _ _ _ _ _ _ _ _ (decide (49 ≤ c ∧ c ≤ 54)) 3) (cwV 2 hts gX4_stands_X4_goesTo rfl rfl rfl hd_X4_goesTo ⟨Nat.le_of_ble_eq_true rfl, Nat.le_of_ble_eq_true rfl⟩) rfl rfl rfl rfl hl.1 rfl (Nat.le_of_ble_eq_true rfl) dX4_stands_183 ⟨Nat.le_of_ble_eq_true rfl, Nat.le_of_ble_eq_true rfl⟩ (fun H locs hP hD hS => ?_)
      have hP : va_P D vwCl (refO r th (nI sn) (nI ln) (nI pm) pn (nI 3) (nI ms) hs :: zC K r T :: sC K r sv :: bC K r cs :: pC K r (upd (upd pf (3 * pm) pn) ((3 * pm) + 1) ((nI c) - (nI 48))) :: fC K r fa :: Y) H := hP
      have hD : va_D A (refO r th (nI sn) (nI ln) (nI pm) pn (nI 3) (nI ms) hs :: zC K r T :: sC K r sv :: bC K r cs :: pC K r (upd (upd pf (3 * pm) pn) ((3 * pm) + 1) ((nI c) - (nI 48))) :: fC K r fa :: Y) := hD
      have ew : (refO r th (nI sn) (nI ln) (nI pm) pn (nI 3) (nI ms) hs :: zC K r T :: sC K r sv :: bC K r cs :: pC K r (upd (upd pf (3 * pm) pn) ((3 * pm) + 1) ((nI c) - (nI 48))) :: fC K r fa :: Y) = (refO r th (nI sn) (nI ln) (nI ((stNx c (pm, 4, pn, pf)).1)) ((stNx c (pm, 4, pn, pf)).2.2.1) (nI ((stNx c (pm, 4, pn, pf)).2.1)) (nI ms) hs :: zC K r T :: sC K r sv :: bC K r cs :: pC K r ((stNx c (pm, 4, pn, pf)).2.2.2) :: fC K r fa :: Y) := by first | rfl | (simp [stNx, c_5, c_6]; done) | (simp_all [stNx]; done)
      rw [ew] at hP hD
      exact wr_zret hAe hP hD hS hx hb hr hk dX4_stands_186 ⟨Nat.le_of_ble_eq_true rfl, Nat.le_of_ble_eq_true rfl⟩ (by first | rfl | exact congrArg bI (show stOk c 4 = decide (49 ≤ c ∧ c ≤ 54) from by simp [stOk, c_5, c_6]).symm | (simp [stOk, nI_0, nI_one, bI, c_5, c_6]; done) | (simp_all [stOk]; done) | (exfalso; omega))
    · refine lv_aload_n hx hb dX4_stands_134 rfl (lv_at hl 0 rfl) ?_
      refine lv_iconst (v := nI 1) hx hb dX4_stands_135 (by decide) ?_
      refine lv_iconst (v := nI 0) hx hb dX4_stands_136 (by decide) ?_
      refine wr_V (rest := []) (ci := 4) (q0 := 0) ⟨hx, hb, hml, hown, hts⟩ hP hE hA hD hS (c_X4_goesTo l D K _ _ _ _ _ _ _ _ _ _ _ _ _ _ _ _ true 0) (cwV 2 hts gX4_stands_X4_goesTo rfl rfl rfl hd_X4_goesTo ⟨Nat.le_of_ble_eq_true rfl, Nat.le_of_ble_eq_true rfl⟩) rfl rfl rfl rfl hl.1 rfl (Nat.le_of_ble_eq_true rfl) dX4_stands_137 ⟨Nat.le_of_ble_eq_true rfl, Nat.le_of_ble_eq_true rfl⟩ (fun H locs hP hD hS => ?_)
      have hP : va_P D vwCl (refO r th (nI sn) (nI ln) (nI pm) pn (nI 0) (nI ms) hs :: zC K r T :: sC K r sv :: bC K r cs :: pC K r pf :: fC K r fa :: Y) H := hP
      have hD : va_D A (refO r th (nI sn) (nI ln) (nI pm) pn (nI 0) (nI ms) hs :: zC K r T :: sC K r sv :: bC K r cs :: pC K r pf :: fC K r fa :: Y) := hD
      have ew : (refO r th (nI sn) (nI ln) (nI pm) pn (nI 0) (nI ms) hs :: zC K r T :: sC K r sv :: bC K r cs :: pC K r pf :: fC K r fa :: Y) = (refO r th (nI sn) (nI ln) (nI ((stNx c (pm, 4, pn, pf)).1)) ((stNx c (pm, 4, pn, pf)).2.2.1) (nI ((stNx c (pm, 4, pn, pf)).2.1)) (nI ms) hs :: zC K r T :: sC K r sv :: bC K r cs :: pC K r ((stNx c (pm, 4, pn, pf)).2.2.2) :: fC K r fa :: Y) := by first | rfl | (simp [stNx, c_5, c_6]; done) | (simp_all [stNx]; done)
      rw [ew] at hP hD
      exact wr_zret hAe hP hD hS hx hb hr hk dX4_stands_140 ⟨Nat.le_of_ble_eq_true rfl, Nat.le_of_ble_eq_true rfl⟩ (by first | rfl | exact congrArg bI (show stOk c 4 = decide (49 ≤ c ∧ c ≤ 54) from by simp [stOk, c_5, c_6]).symm | (simp [stOk, nI_0, nI_one, bI, c_5, c_6]; done) | (simp_all [stOk]; done) | (exfalso; omega))
set_option maxHeartbeats 4000000 in
set_option maxRecDepth 100000 in
theorem c_X4_readBuffer (l : Launch) (D : va_G) (K : Nat → ClassId) (sz : Nat) (r : Nat → Nat) (th pn : Int32) (sn ln pm sta ms : Nat) (hs : Int64) (T : TW) (sv : Nat → Int32) (cs : Nat → Nat) (pf : Nat → Int32) (fa : Nat → Nat) (Y : va_W) (hCB : CB cs ln) : Wr l yX4_readBuffer wsX4_readBuffer ({ frames := 4, cells := 0, slots := 0, locals := 75 } : Room) D K (refO r th (nI sn) (nI ln) (nI pm) pn (nI sta) (nI ms) hs :: zC K r T :: sC K r sv :: bC K r cs :: pC K r pf :: fC K r fa :: Y) sz [.ref (r 0)] (refO r th (nI sn) (nI ln) (nI ((rbS cs ln pn pf).2.1)) ((rbS cs ln pn pf).2.2.2.1) (nI ((rbS cs ln pn pf).2.2.1)) (nI ms) hs :: zC K r T :: sC K r sv :: bC K r cs :: pC K r ((rbS cs ln pn pf).2.2.2.2) :: fC K r fa :: Y) (some (.int (nI ((rbS cs ln pn pf).1)))) 0 0 := by
  refine wr_intro (cc := cX4_readBuffer) (maxL := 2) (ret := (some .int)) (by decide) rfl (Nat.le_of_ble_eq_true rfl) ?_
  intro pr en st md ar bl mt co A hx hb hml hr hts hown hk hsz hAe hP hE hD hS hA hin ls hl
  have hown : st.vm.findClass RX4 = some md.cls := hown
  have hl : lv_has ls 2 [(0, .ref (r 0))] := hl
  have hl60 := hCB.1
  obtain ⟨H, hH⟩ : ∃ z, z = st.heap := ⟨_, rfl⟩
  obtain ⟨locs, hlo⟩ : ∃ z : List Loc, z = [] := ⟨_, rfl⟩
  have hP : va_P D vwCl (refO r th (nI sn) (nI ln) (nI pm) pn (nI sta) (nI ms) hs :: zC K r T :: sC K r sv :: bC K r cs :: pC K r pf :: fC K r fa :: Y) H := by rw [hH]; exact hP
  have hS : va_S A st.heap H locs := by rw [hH, hlo]; exact hS
  suffices go : W pr l en (headSpec wsX4_readBuffer ({ frames := 4, cells := 0, slots := 0, locals := 75 } : Room)).room st md ar bl mt co H locs 0 0 (MQ bl (wrQ D (refO r th (nI sn) (nI ln) (nI pm) pn (nI sta) (nI ms) hs :: zC K r T :: sC K r sv :: bC K r cs :: pC K r pf :: fC K r fa :: Y) (refO r th (nI sn) (nI ln) (nI ((rbS cs ln pn pf).2.1)) ((rbS cs ln pn pf).2.2.2.1) (nI ((rbS cs ln pn pf).2.2.1)) (nI ms) hs :: zC K r T :: sC K r sv :: bC K r cs :: pC K r ((rbS cs ln pn pf).2.2.2.2) :: fC K r fa :: Y) sz (some (.int (nI ((rbS cs ln pn pf).1))))) ar st 0 0 A) (F0 md 0 ls []) by rw [hH, hlo] at go; exact go
  clear hH hlo
  have F114 : (Cond.fieldLink RX4 114 "TramTollsModel" "pieceMany" "I").before ar st = true := hts _ (List.mem_of_getElem? (i := 1) rfl)
  have inX4 : ∀ w ∈ u_ws RX4 TX4 13, w ∈ wsX4_readBuffer := fun w h => List.mem_cons_of_mem _ (List.mem_append_right _ h)
  have F104 : (Cond.fieldLink RX4 104 "TramTollsModel" "state" "I").before ar st = true := hts _ (List.mem_of_getElem? (i := 2) rfl)
  have F101 : (Cond.fieldLink RX4 101 "TramTollsModel" "typed" "I").before ar st = true := hts _ (List.mem_of_getElem? (i := 3) rfl)
  have F16 : (Cond.fieldLink RX4 16 "TramTollsModel" "buffer" "[I").before ar st = true := hts _ (List.mem_of_getElem? (i := 4) rfl)
  refine lv_aload_n hx hb dX4_readBuffer_0 rfl (lv_at hl 0 rfl) ?_
  refine lv_iconst (v := nI 0) hx hb dX4_readBuffer_1 (by decide) ?_
  refine va_put (D := D) (ci := 4) (v := .int (nI 0)) (ty := .int) (C := RX4) (T := TX4) (N := 13) hx hb hts inX4 tyX4 tyX4_ok nmX4 hown hE.1 hP hD hS 0 rfl rfl 7 (by decide) F114 (fun _ h9 => h9) rfl (by decide +kernel) rfl rfl (Nat.le_of_ble_eq_true rfl) dX4_readBuffer_2 (fun H locs hP hD hS => ?_)
  have hP : va_P D vwCl (refO r th (nI sn) (nI ln) (nI 0) pn (nI sta) (nI ms) hs :: zC K r T :: sC K r sv :: bC K r cs :: pC K r pf :: fC K r fa :: Y) H := hP
  have hD : va_D A (refO r th (nI sn) (nI ln) (nI 0) pn (nI sta) (nI ms) hs :: zC K r T :: sC K r sv :: bC K r cs :: pC K r pf :: fC K r fa :: Y) := hD
  refine lv_aload_n hx hb dX4_readBuffer_5 rfl (lv_at hl 0 rfl) ?_
  refine lv_iconst (v := nI 0) hx hb dX4_readBuffer_6 (by decide) ?_
  refine va_put (D := D) (ci := 4) (v := .int (nI 0)) (ty := .int) (C := RX4) (T := TX4) (N := 13) hx hb hts inX4 tyX4 tyX4_ok nmX4 hown hE.1 hP hD hS 0 rfl rfl 9 (by decide) F104 (fun _ h9 => h9) rfl (by decide +kernel) rfl rfl (Nat.le_of_ble_eq_true rfl) dX4_readBuffer_7 (fun H locs hP hD hS => ?_)
  have hP : va_P D vwCl (refO r th (nI sn) (nI ln) (nI 0) pn (nI 0) (nI ms) hs :: zC K r T :: sC K r sv :: bC K r cs :: pC K r pf :: fC K r fa :: Y) H := hP
  have hD : va_D A (refO r th (nI sn) (nI ln) (nI 0) pn (nI 0) (nI ms) hs :: zC K r T :: sC K r sv :: bC K r cs :: pC K r pf :: fC K r fa :: Y) := hD
  refine lv_iconst (v := nI 0) hx hb dX4_readBuffer_10 (by decide) ?_
  refine lv_istore_n (lv' := [(1, .int (nI 0)), (0, .ref (r 0))]) hx hb dX4_readBuffer_11 rfl hl (by decide) rfl (fun ls hl => ?_)
  have loop_1 : ∀ (n_12 : Nat) (i : Nat) (a1 : Nat) (a2 : Nat) (a3 : Int32) (a4 : Nat → Int32), (i ≤ ln) → (a2 < 5) → (pmM (a1, a2, a3, a4) ≤ i) → (rbS cs ln pn pf = rdS cs (ln - i) i (a1, a2, a3, a4)) → (ln - i) < n_12 → ∀ (H : Heap) (locs : List Loc), va_P D vwCl (refO r th (nI sn) (nI ln) (nI a1) a3 (nI a2) (nI ms) hs :: zC K r T :: sC K r sv :: bC K r cs :: pC K r a4 :: fC K r fa :: Y) H → va_D A (refO r th (nI sn) (nI ln) (nI a1) a3 (nI a2) (nI ms) hs :: zC K r T :: sC K r sv :: bC K r cs :: pC K r a4 :: fC K r fa :: Y) → va_S A st.heap H locs →  ∀ x_1 : Int32, x_1 = nI i → ∀ ls : Array Slot, lv_has ls 2 [(0, .ref (r 0)), (1, .int x_1)] → W pr l en (headSpec wsX4_readBuffer ({ frames := 4, cells := 0, slots := 0, locals := 75 } : Room)).room st md ar bl mt co H locs 0 0 (MQ bl (wrQ D (refO r th (nI sn) (nI ln) (nI pm) pn (nI sta) (nI ms) hs :: zC K r T :: sC K r sv :: bC K r cs :: pC K r pf :: fC K r fa :: Y) (refO r th (nI sn) (nI ln) (nI ((rbS cs ln pn pf).2.1)) ((rbS cs ln pn pf).2.2.2.1) (nI ((rbS cs ln pn pf).2.2.1)) (nI ms) hs :: zC K r T :: sC K r sv :: bC K r cs :: pC K r ((rbS cs ln pn pf).2.2.2.2) :: fC K r fa :: Y) sz (some (.int (nI ((rbS cs ln pn pf).1))))) ar st 0 0 A) (F0 md 12 ls []) := by
    intro n_12
    induction n_12 with
    | zero => intro i a1 a2 a3 a4 _ _ _ _ hn_12; exact absurd hn_12 (Nat.not_lt_zero _)
    | succ n_12 ih_12 =>
      intro i a1 a2 a3 a4 hi ha2 hpm he hn_12 H locs hP hD hS x_1 ex_1 ls hl
      subst ex_1
      have hl : lv_has ls 2 [(0, .ref (r 0)), (1, .int (nI i))] := hl
      have hpm1 : 2 * a1 ≤ i := Nat.le_trans (pmM_le (a1, a2, a3, a4)) hpm
      refine lv_iload_n hx hb dX4_readBuffer_12 rfl (lv_at hl 1 rfl) ?_
      refine lv_aload_n hx hb dX4_readBuffer_13 rfl (lv_at hl 0 rfl) ?_
      refine va_get (D := D) (ci := 4) (v := .int (nI ln)) (C := RX4) (T := TX4) (N := 13) hx hb hts inX4 hown hE.1 hP 0 rfl rfl 5 (by decide) F101 (fun _ h9 => h9) rfl dX4_readBuffer_14 ?_
      refine nv_icmp_ge (x := i) (y := ln) (tgt := 41) hx hb dX4_readBuffer_17 (by decide) (by omega) (by omega) (fun c_2 => ?_) (fun c_2 => ?_)
      · have n_c_2 := Nat.not_lt.mpr c_2
        refine lv_aload_n hx hb dX4_readBuffer_41 rfl (lv_at hl 0 rfl) ?_
        refine va_get (D := D) (ci := 4) (v := .int (nI ln)) (C := RX4) (T := TX4) (N := 13) hx hb hts inX4 hown hE.1 hP 0 rfl rfl 5 (by decide) F101 (fun _ h9 => h9) rfl dX4_readBuffer_42 ?_
        have er : rbS cs ln pn pf = (i, (a1, a2, a3, a4)) := he.trans (rd_end (by omega))
        have ew : (refO r th (nI sn) (nI ln) (nI a1) a3 (nI a2) (nI ms) hs :: zC K r T :: sC K r sv :: bC K r cs :: pC K r a4 :: fC K r fa :: Y) = (refO r th (nI sn) (nI ln) (nI ((rbS cs ln pn pf).2.1)) ((rbS cs ln pn pf).2.2.2.1) (nI ((rbS cs ln pn pf).2.2.1)) (nI ms) hs :: zC K r T :: sC K r sv :: bC K r cs :: pC K r ((rbS cs ln pn pf).2.2.2.2) :: fC K r fa :: Y) := by rw [er]
        rw [ew] at hP hD
        exact wr_iret hAe hP hD hS hx hb hr hk dX4_readBuffer_45 ⟨Nat.le_of_ble_eq_true rfl, Nat.le_of_ble_eq_true rfl⟩ (by rw [er] <;> exact congrArg nI (show ln = i from by omega))
      · have n_c_2 := Nat.not_le.mpr c_2
        refine lv_aload_n hx hb dX4_readBuffer_20 rfl (lv_at hl 0 rfl) ?_
        refine lv_aload_n hx hb dX4_readBuffer_21 rfl (lv_at hl 0 rfl) ?_
        refine va_get (D := D) (ci := 4) (v := .ref (r 3)) (C := RX4) (T := TX4) (N := 13) hx hb hts inX4 hown hE.1 hP 0 rfl rfl 4 (by decide) F16 (fun _ h9 => h9) rfl dX4_readBuffer_22 ?_
        refine lv_iload_n hx hb dX4_readBuffer_25 rfl (lv_at hl 1 rfl) ?_
        refine va_iald hx hb hE.1 hP 3 0 rfl rfl (pk_in i 60 (by omega)) dX4_readBuffer_26 ?_
        rw [pk_cl i]
        refine top_i (y := nI (cs i)) (rfl) ?_
        have hb_3 := hCB.2 i (by omega)
        refine wr_V (rest := []) (ci := 4) (q0 := 0) ⟨hx, hb, hml, hown, hts⟩ hP hE hA hD hS (c_X4_stands l D K _ _ _ _ _ _ a1 a2 _ _ _ _ _ _ _ _ (cs i) (by omega) (by omega) (by omega)) (cwV 1 hts gX4_readBuffer_X4_stands rfl rfl rfl hd_X4_stands ⟨Nat.le_of_ble_eq_true rfl, Nat.le_of_ble_eq_true rfl⟩) rfl rfl rfl rfl hl.1 rfl (Nat.le_of_ble_eq_true rfl) dX4_readBuffer_27 ⟨Nat.le_of_ble_eq_true rfl, Nat.le_of_ble_eq_true rfl⟩ (fun H locs hP hD hS => ?_)
        have hP : va_P D vwCl (refO r th (nI sn) (nI ln) (nI ((stNx (cs i) (a1, a2, a3, a4)).1)) ((stNx (cs i) (a1, a2, a3, a4)).2.2.1) (nI ((stNx (cs i) (a1, a2, a3, a4)).2.1)) (nI ms) hs :: zC K r T :: sC K r sv :: bC K r cs :: pC K r ((stNx (cs i) (a1, a2, a3, a4)).2.2.2) :: fC K r fa :: Y) H := hP
        have hD : va_D A (refO r th (nI sn) (nI ln) (nI ((stNx (cs i) (a1, a2, a3, a4)).1)) ((stNx (cs i) (a1, a2, a3, a4)).2.2.1) (nI ((stNx (cs i) (a1, a2, a3, a4)).2.1)) (nI ms) hs :: zC K r T :: sC K r sv :: bC K r cs :: pC K r ((stNx (cs i) (a1, a2, a3, a4)).2.2.2) :: fC K r fa :: Y) := hD
        refine bv_if_ne (x := stOk (cs i) a2) (tgt := 35) hx hb dX4_readBuffer_30 (by decide) (fun c_4 => ?_) (fun c_4 => ?_)
        · refine lv_iinc (v := nI (i + 1)) (lv' := [(1, .int (nI (i + 1))), (0, .ref (r 0))]) hx hb dX4_readBuffer_35 hl (k := 1) rfl (nI_add _ 1) (by decide) rfl (fun ls hl => ?_)
          refine lv_goto (tgt := 12) hx hb dX4_readBuffer_38 (by decide) ?_
          exact ih_12 (i + 1) ((stNx (cs i) (a1, a2, a3, a4)).1) ((stNx (cs i) (a1, a2, a3, a4)).2.1) ((stNx (cs i) (a1, a2, a3, a4)).2.2.1) ((stNx (cs i) (a1, a2, a3, a4)).2.2.2) (by omega) (stn_lt (σ := (a1, a2, a3, a4)) ha2) (Nat.le_trans (pmM_nx (cs i) (a1, a2, a3, a4)) (Nat.succ_le_succ hpm)) (he.trans (rd_ok (by omega) c_4)) (by omega) _ _ hP hD hS _ rfl ls (lv_sub hl [1, 0] rfl)
        · refine lv_iload_n hx hb dX4_readBuffer_33 rfl (lv_at hl 1 rfl) ?_
          have er : rbS cs ln pn pf = (i, stNx (cs i) (a1, a2, a3, a4)) := he.trans (rd_no (by omega) c_4)
          have ew : (refO r th (nI sn) (nI ln) (nI ((stNx (cs i) (a1, a2, a3, a4)).1)) ((stNx (cs i) (a1, a2, a3, a4)).2.2.1) (nI ((stNx (cs i) (a1, a2, a3, a4)).2.1)) (nI ms) hs :: zC K r T :: sC K r sv :: bC K r cs :: pC K r ((stNx (cs i) (a1, a2, a3, a4)).2.2.2) :: fC K r fa :: Y) = (refO r th (nI sn) (nI ln) (nI ((rbS cs ln pn pf).2.1)) ((rbS cs ln pn pf).2.2.2.1) (nI ((rbS cs ln pn pf).2.2.1)) (nI ms) hs :: zC K r T :: sC K r sv :: bC K r cs :: pC K r ((rbS cs ln pn pf).2.2.2.2) :: fC K r fa :: Y) := by rw [er]
          rw [ew] at hP hD
          exact wr_iret hAe hP hD hS hx hb hr hk dX4_readBuffer_34 ⟨Nat.le_of_ble_eq_true rfl, Nat.le_of_ble_eq_true rfl⟩ (by rw [er] <;> exact congrArg nI (show ln = i from by omega))
  exact loop_1 _ 0 0 0 pn pf (Nat.zero_le _) (by decide) (Nat.le_refl 0) rfl (Nat.lt_succ_self _) _ _ hP hD hS _ rfl ls (lv_sub hl [1, 0] rfl)
set_option maxHeartbeats 4000000 in
set_option maxRecDepth 100000 in
theorem c_X4_isWhole (l : Launch) (D : va_G) (K : Nat → ClassId) (sz : Nat) (r : Nat → Nat) (th pn : Int32) (sn ln pm sta ms : Nat) (hs : Int64) (T : TW) (sv : Nat → Int32) (cs : Nat → Nat) (pf : Nat → Int32) (fa : Nat → Nat) (Y : va_W) (hCB : CB cs ln) : Wr l yX4_isWhole wsX4_isWhole ({ frames := 5, cells := 0, slots := 0, locals := 96 } : Room) D K (refO r th (nI sn) (nI ln) (nI pm) pn (nI sta) (nI ms) hs :: zC K r T :: sC K r sv :: bC K r cs :: pC K r pf :: fC K r fa :: Y) sz [.ref (r 0)] (refO r th (nI sn) (nI ln) (nI ((rbS cs ln pn pf).2.1)) ((rbS cs ln pn pf).2.2.2.1) (nI ((rbS cs ln pn pf).2.2.1)) (nI ms) hs :: zC K r T :: sC K r sv :: bC K r cs :: pC K r ((rbS cs ln pn pf).2.2.2.2) :: fC K r fa :: Y) (some (.int (bI (whS cs ln pn pf)))) 0 0 := by
  refine wr_intro (cc := cX4_isWhole) (maxL := 1) (ret := (some .boolean)) (by decide) rfl (Nat.le_of_ble_eq_true rfl) ?_
  intro pr en st md ar bl mt co A hx hb hml hr hts hown hk hsz hAe hP hE hD hS hA hin ls hl
  have hown : st.vm.findClass RX4 = some md.cls := hown
  have hl : lv_has ls 1 [(0, .ref (r 0))] := hl
  have hl60 := hCB.1
  obtain ⟨H, hH⟩ : ∃ z, z = st.heap := ⟨_, rfl⟩
  obtain ⟨locs, hlo⟩ : ∃ z : List Loc, z = [] := ⟨_, rfl⟩
  have hP : va_P D vwCl (refO r th (nI sn) (nI ln) (nI pm) pn (nI sta) (nI ms) hs :: zC K r T :: sC K r sv :: bC K r cs :: pC K r pf :: fC K r fa :: Y) H := by rw [hH]; exact hP
  have hS : va_S A st.heap H locs := by rw [hH, hlo]; exact hS
  suffices go : W pr l en (headSpec wsX4_isWhole ({ frames := 5, cells := 0, slots := 0, locals := 96 } : Room)).room st md ar bl mt co H locs 0 0 (MQ bl (wrQ D (refO r th (nI sn) (nI ln) (nI pm) pn (nI sta) (nI ms) hs :: zC K r T :: sC K r sv :: bC K r cs :: pC K r pf :: fC K r fa :: Y) (refO r th (nI sn) (nI ln) (nI ((rbS cs ln pn pf).2.1)) ((rbS cs ln pn pf).2.2.2.1) (nI ((rbS cs ln pn pf).2.2.1)) (nI ms) hs :: zC K r T :: sC K r sv :: bC K r cs :: pC K r ((rbS cs ln pn pf).2.2.2.2) :: fC K r fa :: Y) sz (some (.int (bI (whS cs ln pn pf))))) ar st 0 0 A) (F0 md 0 ls []) by rw [hH, hlo] at go; exact go
  clear hH hlo
  have F101 : (Cond.fieldLink RX4 101 "TramTollsModel" "typed" "I").before ar st = true := hts _ (List.mem_of_getElem? (i := 1) rfl)
  have inX4 : ∀ w ∈ u_ws RX4 TX4 13, w ∈ wsX4_isWhole := fun w h => List.mem_cons_of_mem _ (List.mem_append_right _ h)
  have F104 : (Cond.fieldLink RX4 104 "TramTollsModel" "state" "I").before ar st = true := hts _ (List.mem_of_getElem? (i := 2) rfl)
  refine lv_aload_n hx hb dX4_isWhole_0 rfl (lv_at hl 0 rfl) ?_
  refine wr_V (rest := []) (ci := 4) (q0 := 0) ⟨hx, hb, hml, hown, hts⟩ hP hE hA hD hS (c_X4_readBuffer l D K _ _ _ _ _ _ _ _ _ _ _ _ _ _ _ _ hCB) (cwV 0 hts gX4_isWhole_X4_readBuffer rfl rfl rfl hd_X4_readBuffer ⟨Nat.le_of_ble_eq_true rfl, Nat.le_of_ble_eq_true rfl⟩) rfl rfl rfl rfl hl.1 rfl (Nat.le_of_ble_eq_true rfl) dX4_isWhole_1 ⟨Nat.le_of_ble_eq_true rfl, Nat.le_of_ble_eq_true rfl⟩ (fun H locs hP hD hS => ?_)
  have hP : va_P D vwCl (refO r th (nI sn) (nI ln) (nI ((rbS cs ln pn pf).2.1)) ((rbS cs ln pn pf).2.2.2.1) (nI ((rbS cs ln pn pf).2.2.1)) (nI ms) hs :: zC K r T :: sC K r sv :: bC K r cs :: pC K r ((rbS cs ln pn pf).2.2.2.2) :: fC K r fa :: Y) H := hP
  have hD : va_D A (refO r th (nI sn) (nI ln) (nI ((rbS cs ln pn pf).2.1)) ((rbS cs ln pn pf).2.2.2.1) (nI ((rbS cs ln pn pf).2.2.1)) (nI ms) hs :: zC K r T :: sC K r sv :: bC K r cs :: pC K r ((rbS cs ln pn pf).2.2.2.2) :: fC K r fa :: Y) := hD
  have hb_1 := rb_lt cs ln pn pf
  refine lv_aload_n hx hb dX4_isWhole_4 rfl (lv_at hl 0 rfl) ?_
  refine va_get (D := D) (ci := 4) (v := .int (nI ln)) (C := RX4) (T := TX4) (N := 13) hx hb hts inX4 hown hE.1 hP 0 rfl rfl 5 (by decide) F101 (fun _ h9 => h9) rfl dX4_isWhole_5 ?_
  refine nv_icmp_ne (x := (rbS cs ln pn pf).1) (y := ln) (tgt := 23) hx hb dX4_isWhole_8 (by decide) (by omega) (by omega) (fun c_2 => ?_) (fun c_2 => ?_)
  · refine lv_iconst (v := nI 0) hx hb dX4_isWhole_23 (by decide) ?_
    exact wr_zret hAe hP hD hS hx hb hr hk dX4_isWhole_24 ⟨Nat.le_of_ble_eq_true rfl, Nat.le_of_ble_eq_true rfl⟩ (by first | (simp [whS, bI, nI_0, nI_one, c_2]; done) | (simp_all [whS, bI, nI_0, nI_one]; done))
  · refine lv_aload_n hx hb dX4_isWhole_11 rfl (lv_at hl 0 rfl) ?_
    refine va_get (D := D) (ci := 4) (v := .int (nI ((rbS cs ln pn pf).2.2.1))) (C := RX4) (T := TX4) (N := 13) hx hb hts inX4 hown hE.1 hP 0 rfl rfl 9 (by decide) F104 (fun _ h9 => h9) rfl dX4_isWhole_12 ?_
    refine lv_iconst (v := nI 4) hx hb dX4_isWhole_15 (by decide) ?_
    refine nv_icmp_ne (x := (rbS cs ln pn pf).2.2.1) (y := 4) (tgt := 23) hx hb dX4_isWhole_16 (by decide) (by omega) (by decide) (fun c_3 => ?_) (fun c_3 => ?_)
    · refine lv_iconst (v := nI 0) hx hb dX4_isWhole_23 (by decide) ?_
      exact wr_zret hAe hP hD hS hx hb hr hk dX4_isWhole_24 ⟨Nat.le_of_ble_eq_true rfl, Nat.le_of_ble_eq_true rfl⟩ (by first | (simp [whS, bI, nI_0, nI_one, c_2, c_3]; done) | (simp_all [whS, bI, nI_0, nI_one]; done))
    · refine lv_iconst (v := nI 1) hx hb dX4_isWhole_19 (by decide) ?_
      refine lv_goto (tgt := 24) hx hb dX4_isWhole_20 (by decide) ?_
      exact wr_zret hAe hP hD hS hx hb hr hk dX4_isWhole_24 ⟨Nat.le_of_ble_eq_true rfl, Nat.le_of_ble_eq_true rfl⟩ (by first | (simp [whS, bI, nI_0, nI_one, c_2, c_3]; done) | (simp_all [whS, bI, nI_0, nI_one]; done))
set_option maxHeartbeats 4000000 in
set_option maxRecDepth 100000 in
theorem c_X4_plays (l : Launch) (D : va_G) (K : Nat → ClassId) (sz : Nat) (r : Nat → Nat) (th pn : Int32) (sn ln pm sta ms : Nat) (hs : Int64) (T : TW) (sv : Nat → Int32) (cs : Nat → Nat) (pf : Nat → Int32) (fa : Nat → Nat) (Y : va_W) (i : Nat) (hI : Inv T) (hPC : PcOK pf pm) (hi : i < pm) : Wr l yX4_plays wsX4_plays ({ frames := 4, cells := 0, slots := 0, locals := 83 } : Room) D K (refO r th (nI sn) (nI ln) (nI pm) pn (nI sta) (nI ms) hs :: zC K r T :: sC K r sv :: bC K r cs :: pC K r pf :: fC K r fa :: Y) sz [.ref (r 0), .int (nI i)] (refO r th (nI sn) (nI ln) (nI pm) pn (nI sta) (nI ms) hs :: zC K r (plT1 T (pcP pf i) (pcG pf i) (pcD pf i)) :: sC K r sv :: bC K r cs :: pC K r pf :: fC K r fa :: Y) (some (.int (bI (okP T (pcP pf i) (pcG pf i) (pcD pf i))))) 0 0 := by
  refine wr_intro (cc := cX4_plays) (maxL := 5) (ret := (some .boolean)) (by decide) rfl (Nat.le_of_ble_eq_true rfl) ?_
  intro pr en st md ar bl mt co A hx hb hml hr hts hown hk hsz hAe hP hE hD hS hA hin ls hl
  have hown : st.vm.findClass RX4 = some md.cls := hown
  have hl : lv_has ls 5 [(0, .ref (r 0)), (1, .int (nI i))] := hl
  have hpm30 := hPC.1
  obtain ⟨H, hH⟩ : ∃ z, z = st.heap := ⟨_, rfl⟩
  obtain ⟨locs, hlo⟩ : ∃ z : List Loc, z = [] := ⟨_, rfl⟩
  have hP : va_P D vwCl (refO r th (nI sn) (nI ln) (nI pm) pn (nI sta) (nI ms) hs :: zC K r T :: sC K r sv :: bC K r cs :: pC K r pf :: fC K r fa :: Y) H := by rw [hH]; exact hP
  have hS : va_S A st.heap H locs := by rw [hH, hlo]; exact hS
  suffices go : W pr l en (headSpec wsX4_plays ({ frames := 4, cells := 0, slots := 0, locals := 83 } : Room)).room st md ar bl mt co H locs 0 0 (MQ bl (wrQ D (refO r th (nI sn) (nI ln) (nI pm) pn (nI sta) (nI ms) hs :: zC K r T :: sC K r sv :: bC K r cs :: pC K r pf :: fC K r fa :: Y) (refO r th (nI sn) (nI ln) (nI pm) pn (nI sta) (nI ms) hs :: zC K r (plT1 T (pcP pf i) (pcG pf i) (pcD pf i)) :: sC K r sv :: bC K r cs :: pC K r pf :: fC K r fa :: Y) sz (some (.int (bI (okP T (pcP pf i) (pcG pf i) (pcD pf i)))))) ar st 0 0 A) (F0 md 0 ls []) by rw [hH, hlo] at go; exact go
  clear hH hlo
  have F19 : (Cond.fieldLink RX4 19 "TramTollsModel" "pieces" "[I").before ar st = true := hts _ (List.mem_of_getElem? (i := 1) rfl)
  have inX4 : ∀ w ∈ u_ws RX4 TX4 13, w ∈ wsX4_plays := fun w h => List.mem_cons_of_mem _ (List.mem_append_right _ h)
  refine lv_aload_n hx hb dX4_plays_0 rfl (lv_at hl 0 rfl) ?_
  refine va_get (D := D) (ci := 4) (v := .ref (r 4)) (C := RX4) (T := TX4) (N := 13) hx hb hts inX4 hown hE.1 hP 0 rfl rfl 6 (by decide) F19 (fun _ h9 => h9) rfl dX4_plays_1 ?_
  refine lv_iconst (v := nI 3) hx hb dX4_plays_4 (by decide) ?_
  refine lv_iload_n hx hb dX4_plays_5 rfl (lv_at hl 1 rfl) ?_
  refine nv_imul (x := 3) (y := i) hx hb dX4_plays_6 ?_
  refine va_iald hx hb hE.1 hP 4 0 rfl rfl (pk_in (3 * i) 96 (by omega)) dX4_plays_7 ?_
  rw [pk_cl (3 * i)]
  refine top_i (y := nI (pcP pf i)) ((pc_p hPC (i := i) (by omega)).1) ?_
  have hb_1 := (pc_p hPC (i := i) (by omega)).2
  refine lv_istore_n (lv' := [(2, .int (nI (pcP pf i))), (0, .ref (r 0)), (1, .int (nI i))]) hx hb dX4_plays_8 rfl hl (by decide) rfl (fun ls hl => ?_)
  refine lv_aload_n hx hb dX4_plays_9 rfl (lv_at hl 1 rfl) ?_
  refine va_get (D := D) (ci := 4) (v := .ref (r 4)) (C := RX4) (T := TX4) (N := 13) hx hb hts inX4 hown hE.1 hP 0 rfl rfl 6 (by decide) F19 (fun _ h9 => h9) rfl dX4_plays_10 ?_
  refine lv_iconst (v := nI 3) hx hb dX4_plays_13 (by decide) ?_
  refine lv_iload_n hx hb dX4_plays_14 rfl (lv_at hl 2 rfl) ?_
  refine nv_imul (x := 3) (y := i) hx hb dX4_plays_15 ?_
  refine lv_iconst (v := nI 2) hx hb dX4_plays_16 (by decide) ?_
  refine nv_iadd (x := 3 * i) (y := 2) hx hb dX4_plays_17 ?_
  refine va_iald hx hb hE.1 hP 4 0 rfl rfl (pk_in ((3 * i) + 2) 96 (by omega)) dX4_plays_18 ?_
  rw [pk_cl ((3 * i) + 2)]
  refine top_i (y := nI (pcD pf i)) ((pc_d hPC (i := i) (by omega)).1) ?_
  have hb_2 := (pc_d hPC (i := i) (by omega)).2
  refine lv_istore_n (lv' := [(3, .int (nI (pcD pf i))), (2, .int (nI (pcP pf i))), (0, .ref (r 0)), (1, .int (nI i))]) hx hb dX4_plays_19 rfl hl (by decide) rfl (fun ls hl => ?_)
  refine lv_aload_n hx hb dX4_plays_20 rfl (lv_at hl 2 rfl) ?_
  refine lv_iload_n hx hb dX4_plays_21 rfl (lv_at hl 1 rfl) ?_
  refine lv_aload_n hx hb dX4_plays_22 rfl (lv_at hl 2 rfl) ?_
  refine lv_iload_n hx hb dX4_plays_23 rfl (lv_at hl 1 rfl) ?_
  refine lv_iconst (v := nI 1) hx hb dX4_plays_24 (by decide) ?_
  refine rd_V (rest := [.int (nI (pcP pf i)), .ref (r 0)]) (ci := 4) (q0 := 0) ⟨hx, hb, hml, hown, hts⟩ hP hE (c_X4_of l D K _ _ _ _ _ _ _ _ _ _ _ (pcP pf i) 1 (by omega) (by omega)) (cwV 2 hts gX4_plays_X4_of rfl rfl rfl hd_X4_of ⟨Nat.le_of_ble_eq_true rfl, Nat.le_of_ble_eq_true rfl⟩) rfl rfl rfl rfl hl.1 rfl (Nat.le_of_ble_eq_true rfl) dX4_plays_25 ⟨Nat.le_of_ble_eq_true rfl, Nat.le_of_ble_eq_true rfl⟩ ?_
  refine top_i (y := nI (hdT T (pcP pf i))) (((congrArg (zT T) (show 268 + 5 * (pcP pf i) + 1 = 268 + 5 * (pcP pf i) + 1 from by omega)).trans (zT_pp (w := 1) (by omega) (by decide))).trans (show T 6 (pcP pf i) = nI (hdT T (pcP pf i)) from eq_hd hI (by omega))) ?_
  have hb_3 := hd_lt hI (show (pcP pf i) < 4 by omega)
  refine lv_aload_n hx hb dX4_plays_28 rfl (lv_at hl 2 rfl) ?_
  refine va_get (D := D) (ci := 4) (v := .ref (r 4)) (C := RX4) (T := TX4) (N := 13) hx hb hts inX4 hown hE.1 hP 0 rfl rfl 6 (by decide) F19 (fun _ h9 => h9) rfl dX4_plays_29 ?_
  refine lv_iconst (v := nI 3) hx hb dX4_plays_32 (by decide) ?_
  refine lv_iload_n hx hb dX4_plays_33 rfl (lv_at hl 3 rfl) ?_
  refine nv_imul (x := 3) (y := i) hx hb dX4_plays_34 ?_
  refine lv_iconst (v := nI 1) hx hb dX4_plays_35 (by decide) ?_
  refine nv_iadd (x := 3 * i) (y := 1) hx hb dX4_plays_36 ?_
  refine va_iald hx hb hE.1 hP 4 0 rfl rfl (pk_in ((3 * i) + 1) 96 (by omega)) dX4_plays_37 ?_
  rw [pk_cl ((3 * i) + 1)]
  refine top_i (y := nI (pcG pf i)) ((pc_g hPC (i := i) (by omega)).1) ?_
  have hb_4 := (pc_g hPC (i := i) (by omega)).2
  refine lv_iload_n hx hb dX4_plays_38 rfl (lv_at hl 0 rfl) ?_
  refine rd_V (rest := []) (ci := 4) (q0 := 0) ⟨hx, hb, hml, hown, hts⟩ hP hE (c_X4_whyNot l D K _ _ _ _ _ _ _ _ _ _ _ (pcP pf i) (hdT T (pcP pf i)) (pcG pf i) (pcD pf i) hI (by omega) (by omega) (by omega) (by omega)) (cwV 4 hts gX4_plays_X4_whyNot rfl rfl rfl hd_X4_whyNot ⟨Nat.le_of_ble_eq_true rfl, Nat.le_of_ble_eq_true rfl⟩) rfl rfl rfl rfl hl.1 rfl (Nat.le_of_ble_eq_true rfl) dX4_plays_39 ⟨Nat.le_of_ble_eq_true rfl, Nat.le_of_ble_eq_true rfl⟩ ?_
  have hb_5 := why_lt T (pcP pf i) (hdT T (pcP pf i)) (pcG pf i) (pcD pf i)
  refine nv_if_ne (x := whyT T (pcP pf i) (hdT T (pcP pf i)) (pcG pf i) (pcD pf i)) (tgt := 49) hx hb dX4_plays_42 (by decide) (by omega) (fun c_6 => ?_) (fun c_6 => ?_)
  · have n_c_6 : ¬ whyT T (pcP pf i) (hdT T (pcP pf i)) (pcG pf i) (pcD pf i) = 0 := by omega
    refine lv_iconst (v := nI 0) hx hb dX4_plays_49 (by decide) ?_
    refine lv_istore (lv' := [(4, .int (nI 0)), (3, .int (nI (pcD pf i))), (2, .int (nI (pcP pf i))), (0, .ref (r 0)), (1, .int (nI i))]) hx hb dX4_plays_50 hl (by decide) rfl (fun ls hl => ?_)
    refine lv_iload hx hb dX4_plays_52 (lv_at hl 0 rfl) ?_
    refine nv_if_eq (x := 0) (tgt := 70) hx hb dX4_plays_54 (by decide) (by decide) (fun c_8 => ?_) (fun c_8 => ?_)
    · have n_c_8 : ¬ 0 < 0 := by omega
      refine lv_iload hx hb dX4_plays_70 (lv_at hl 0 rfl) ?_
      have ew : (refO r th (nI sn) (nI ln) (nI pm) pn (nI sta) (nI ms) hs :: zC K r T :: sC K r sv :: bC K r cs :: pC K r pf :: fC K r fa :: Y) = (refO r th (nI sn) (nI ln) (nI pm) pn (nI sta) (nI ms) hs :: zC K r (plT1 T (pcP pf i) (pcG pf i) (pcD pf i)) :: sC K r sv :: bC K r cs :: pC K r pf :: fC K r fa :: Y) := by rw [plT1_no (by omega)]
      rw [ew] at hP hD
      exact wr_zret hAe hP hD hS hx hb hr hk dX4_plays_72 ⟨Nat.le_of_ble_eq_true rfl, Nat.le_of_ble_eq_true rfl⟩ (by first | (simp [okP, bI, nI_0, nI_one, c_6, n_c_6, c_8, n_c_8]; done) | (simp [okP, bI, nI_0, nI_one]; omega))
    exact absurd c_8 (by decide)
  · have n_c_6 : ¬ 0 < whyT T (pcP pf i) (hdT T (pcP pf i)) (pcG pf i) (pcD pf i) := by omega
    obtain ⟨to_7, hto_7⟩ := why_nb c_6
    have hbto_7 := nb_lt (hd_lt hI (pc_p hPC hi).2) to_7 hto_7
    refine lv_iconst (v := nI 1) hx hb dX4_plays_45 (by decide) ?_
    refine lv_goto (tgt := 50) hx hb dX4_plays_46 (by decide) ?_
    refine lv_istore (lv' := [(4, .int (nI 1)), (3, .int (nI (pcD pf i))), (2, .int (nI (pcP pf i))), (0, .ref (r 0)), (1, .int (nI i))]) hx hb dX4_plays_50 hl (by decide) rfl (fun ls hl => ?_)
    refine lv_iload hx hb dX4_plays_52 (lv_at hl 0 rfl) ?_
    refine nv_if_eq (x := 1) (tgt := 70) hx hb dX4_plays_54 (by decide) (by decide) (fun c_9 => ?_) (fun c_9 => ?_)
    · exact absurd c_9 (by decide)
    have n_c_9 : ¬ 1 = 0 := by omega
    refine lv_aload_n hx hb dX4_plays_57 rfl (lv_at hl 3 rfl) ?_
    refine lv_iload_n hx hb dX4_plays_58 rfl (lv_at hl 2 rfl) ?_
    refine lv_aload_n hx hb dX4_plays_59 rfl (lv_at hl 3 rfl) ?_
    refine lv_iload_n hx hb dX4_plays_60 rfl (lv_at hl 2 rfl) ?_
    refine lv_iconst (v := nI 1) hx hb dX4_plays_61 (by decide) ?_
    refine rd_V (rest := [.int (nI (pcP pf i)), .ref (r 0)]) (ci := 4) (q0 := 0) ⟨hx, hb, hml, hown, hts⟩ hP hE (c_X4_of l D K _ _ _ _ _ _ _ _ _ _ _ (pcP pf i) 1 (by omega) (by omega)) (cwV 2 hts gX4_plays_X4_of rfl rfl rfl hd_X4_of ⟨Nat.le_of_ble_eq_true rfl, Nat.le_of_ble_eq_true rfl⟩) rfl rfl rfl rfl hl.1 rfl (Nat.le_of_ble_eq_true rfl) dX4_plays_62 ⟨Nat.le_of_ble_eq_true rfl, Nat.le_of_ble_eq_true rfl⟩ ?_
    refine top_i (y := nI (hdT T (pcP pf i))) (((congrArg (zT T) (show 268 + 5 * (pcP pf i) + 1 = 268 + 5 * (pcP pf i) + 1 from by omega)).trans (zT_pp (w := 1) (by omega) (by decide))).trans (show T 6 (pcP pf i) = nI (hdT T (pcP pf i)) from eq_hd hI (by omega))) ?_
    have hb_10 := hd_lt hI (show (pcP pf i) < 4 by omega)
    refine lv_iload_n hx hb dX4_plays_65 rfl (lv_at hl 1 rfl) ?_
    refine wr_V (rest := []) (ci := 4) (q0 := 0) ⟨hx, hb, hml, hown, hts⟩ hP hE hA hD hS (c_X4_layIt l D K _ _ _ _ _ _ _ _ _ _ _ _ _ _ _ _ (pcP pf i) (hdT T (pcP pf i)) (pcD pf i) to_7 hI (by omega) (by omega) (by omega) hto_7) (cwV 3 hts gX4_plays_X4_layIt rfl rfl rfl hd_X4_layIt ⟨Nat.le_of_ble_eq_true rfl, Nat.le_of_ble_eq_true rfl⟩) rfl rfl rfl rfl hl.1 rfl (Nat.le_of_ble_eq_true rfl) dX4_plays_66 ⟨Nat.le_of_ble_eq_true rfl, Nat.le_of_ble_eq_true rfl⟩ (fun H locs hP hD hS => ?_)
    have hP : va_P D vwCl (refO r th (nI sn) (nI ln) (nI pm) pn (nI sta) (nI ms) hs :: zC K r (layT T (pcP pf i) to_7 (pcD pf i)) :: sC K r sv :: bC K r cs :: pC K r pf :: fC K r fa :: Y) H := hP
    have hD : va_D A (refO r th (nI sn) (nI ln) (nI pm) pn (nI sta) (nI ms) hs :: zC K r (layT T (pcP pf i) to_7 (pcD pf i)) :: sC K r sv :: bC K r cs :: pC K r pf :: fC K r fa :: Y) := hD
    refine lv_pop hx hb dX4_plays_69 rfl ?_
    refine lv_iload hx hb dX4_plays_70 (lv_at hl 0 rfl) ?_
    have ew : (refO r th (nI sn) (nI ln) (nI pm) pn (nI sta) (nI ms) hs :: zC K r (layT T (pcP pf i) to_7 (pcD pf i)) :: sC K r sv :: bC K r cs :: pC K r pf :: fC K r fa :: Y) = (refO r th (nI sn) (nI ln) (nI pm) pn (nI sta) (nI ms) hs :: zC K r (plT1 T (pcP pf i) (pcG pf i) (pcD pf i)) :: sC K r sv :: bC K r cs :: pC K r pf :: fC K r fa :: Y) := by rw [plT1_ok c_6 hto_7]
    rw [ew] at hP hD
    exact wr_zret hAe hP hD hS hx hb hr hk dX4_plays_72 ⟨Nat.le_of_ble_eq_true rfl, Nat.le_of_ble_eq_true rfl⟩ (by first | (simp [okP, bI, nI_0, nI_one, c_6, n_c_6, hto_7, c_9, n_c_9]; done) | (simp [okP, bI, nI_0, nI_one]; omega))
set_option maxHeartbeats 4000000 in
set_option maxRecDepth 100000 in
theorem c_X4_play (l : Launch) (D : va_G) (K : Nat → ClassId) (sz : Nat) (r : Nat → Nat) (th pn : Int32) (sn ln pm sta ms : Nat) (hs : Int64) (T : TW) (sv : Nat → Int32) (cs : Nat → Nat) (pf : Nat → Int32) (fa : Nat → Nat) (Y : va_W) (hCB : CB cs ln) (hI : Inv T) (hsn : sn ≤ 6) (hPC : whS cs ln pn pf = true → PcOK (rbS cs ln pn pf).2.2.2.2 (rbS cs ln pn pf).2.1) : Wr l yX4_play wsX4_play ({ frames := 6, cells := 0, slots := 0, locals := 116 } : Room) D K (refO r th (nI sn) (nI ln) (nI pm) pn (nI sta) (nI ms) hs :: zC K r T :: sC K r sv :: bC K r cs :: pC K r pf :: fC K r fa :: Y) sz [.ref (r 0)] (if whS cs ln pn pf = true then refO r (nI 0) (nI (svN sn)) (nI 0) (nI ((rbS cs ln pn pf).2.1)) ((rbS cs ln pn pf).2.2.2.1) (nI ((rbS cs ln pn pf).2.2.1)) (nI ms) hs :: zC K r ((plR (rbS cs ln pn pf).2.2.2.2 (rbS cs ln pn pf).2.1 0 T).1) :: sC K r (savS sv sn T) :: bC K r cs :: pC K r ((rbS cs ln pn pf).2.2.2.2) :: fC K r fa :: Y else refO r (nI 1) (nI sn) (nI ln) (nI ((rbS cs ln pn pf).2.1)) ((rbS cs ln pn pf).2.2.2.1) (nI ((rbS cs ln pn pf).2.2.1)) (nI ms) hs :: zC K r T :: sC K r sv :: bC K r cs :: pC K r ((rbS cs ln pn pf).2.2.2.2) :: fC K r fa :: Y) (some (.int (nI (if whS cs ln pn pf = true then (plR (rbS cs ln pn pf).2.2.2.2 (rbS cs ln pn pf).2.1 0 T).2 else 0)))) 0 0 := by
  refine wr_intro (cc := cX4_play) (maxL := 2) (ret := (some .int)) (by decide) rfl (Nat.le_of_ble_eq_true rfl) ?_
  intro pr en st md ar bl mt co A hx hb hml hr hts hown hk hsz hAe hP hE hD hS hA hin ls hl
  have hown : st.vm.findClass RX4 = some md.cls := hown
  have hl : lv_has ls 2 [(0, .ref (r 0))] := hl
  have hl60 := hCB.1
  obtain ⟨H, hH⟩ : ∃ z, z = st.heap := ⟨_, rfl⟩
  obtain ⟨locs, hlo⟩ : ∃ z : List Loc, z = [] := ⟨_, rfl⟩
  have hP : va_P D vwCl (refO r th (nI sn) (nI ln) (nI pm) pn (nI sta) (nI ms) hs :: zC K r T :: sC K r sv :: bC K r cs :: pC K r pf :: fC K r fa :: Y) H := by rw [hH]; exact hP
  have hS : va_S A st.heap H locs := by rw [hH, hlo]; exact hS
  suffices go : W pr l en (headSpec wsX4_play ({ frames := 6, cells := 0, slots := 0, locals := 116 } : Room)).room st md ar bl mt co H locs 0 0 (MQ bl (wrQ D (refO r th (nI sn) (nI ln) (nI pm) pn (nI sta) (nI ms) hs :: zC K r T :: sC K r sv :: bC K r cs :: pC K r pf :: fC K r fa :: Y) (if whS cs ln pn pf = true then refO r (nI 0) (nI (svN sn)) (nI 0) (nI ((rbS cs ln pn pf).2.1)) ((rbS cs ln pn pf).2.2.2.1) (nI ((rbS cs ln pn pf).2.2.1)) (nI ms) hs :: zC K r ((plR (rbS cs ln pn pf).2.2.2.2 (rbS cs ln pn pf).2.1 0 T).1) :: sC K r (savS sv sn T) :: bC K r cs :: pC K r ((rbS cs ln pn pf).2.2.2.2) :: fC K r fa :: Y else refO r (nI 1) (nI sn) (nI ln) (nI ((rbS cs ln pn pf).2.1)) ((rbS cs ln pn pf).2.2.2.1) (nI ((rbS cs ln pn pf).2.2.1)) (nI ms) hs :: zC K r T :: sC K r sv :: bC K r cs :: pC K r ((rbS cs ln pn pf).2.2.2.2) :: fC K r fa :: Y) sz (some (.int (nI (if whS cs ln pn pf = true then (plR (rbS cs ln pn pf).2.2.2.2 (rbS cs ln pn pf).2.1 0 T).2 else 0))))) ar st 0 0 A) (F0 md 0 ls []) by rw [hH, hlo] at go; exact go
  clear hH hlo
  have F29 : (Cond.fieldLink RX4 29 "TramTollsModel" "thrown" "I").before ar st = true := hts _ (List.mem_of_getElem? (i := 1) rfl)
  have inX4 : ∀ w ∈ u_ws RX4 TX4 13, w ∈ wsX4_play := fun w h => List.mem_cons_of_mem _ (List.mem_append_right _ h)
  have F114 : (Cond.fieldLink RX4 114 "TramTollsModel" "pieceMany" "I").before ar st = true := hts _ (List.mem_of_getElem? (i := 2) rfl)
  have F101 : (Cond.fieldLink RX4 101 "TramTollsModel" "typed" "I").before ar st = true := hts _ (List.mem_of_getElem? (i := 3) rfl)
  refine lv_aload_n hx hb dX4_play_0 rfl (lv_at hl 0 rfl) ?_
  refine lv_aload_n hx hb dX4_play_1 rfl (lv_at hl 0 rfl) ?_
  refine wr_V (rest := [.ref (r 0)]) (ci := 4) (q0 := 0) ⟨hx, hb, hml, hown, hts⟩ hP hE hA hD hS (c_X4_isWhole l D K _ _ _ _ _ _ _ _ _ _ _ _ _ _ _ _ hCB) (cwV 0 hts gX4_play_X4_isWhole rfl rfl rfl hd_X4_isWhole ⟨Nat.le_of_ble_eq_true rfl, Nat.le_of_ble_eq_true rfl⟩) rfl rfl rfl rfl hl.1 rfl (Nat.le_of_ble_eq_true rfl) dX4_play_2 ⟨Nat.le_of_ble_eq_true rfl, Nat.le_of_ble_eq_true rfl⟩ (fun H locs hP hD hS => ?_)
  have hP : va_P D vwCl (refO r th (nI sn) (nI ln) (nI ((rbS cs ln pn pf).2.1)) ((rbS cs ln pn pf).2.2.2.1) (nI ((rbS cs ln pn pf).2.2.1)) (nI ms) hs :: zC K r T :: sC K r sv :: bC K r cs :: pC K r ((rbS cs ln pn pf).2.2.2.2) :: fC K r fa :: Y) H := hP
  have hD : va_D A (refO r th (nI sn) (nI ln) (nI ((rbS cs ln pn pf).2.1)) ((rbS cs ln pn pf).2.2.2.1) (nI ((rbS cs ln pn pf).2.2.1)) (nI ms) hs :: zC K r T :: sC K r sv :: bC K r cs :: pC K r ((rbS cs ln pn pf).2.2.2.2) :: fC K r fa :: Y) := hD
  refine bv_if_eq (x := whS cs ln pn pf) (tgt := 12) hx hb dX4_play_5 (by decide) (fun c_1 => ?_) (fun c_1 => ?_)
  · refine lv_iconst (v := nI 1) hx hb dX4_play_12 (by decide) ?_
    refine va_put (D := D) (ci := 4) (v := .int (nI 1)) (ty := .int) (C := RX4) (T := TX4) (N := 13) hx hb hts inX4 tyX4 tyX4_ok nmX4 hown hE.1 hP hD hS 0 rfl rfl 0 (by decide) F29 (fun _ h9 => h9) rfl (by decide +kernel) rfl rfl (Nat.le_of_ble_eq_true rfl) dX4_play_13 (fun H locs hP hD hS => ?_)
    have hP : va_P D vwCl (refO r (nI 1) (nI sn) (nI ln) (nI ((rbS cs ln pn pf).2.1)) ((rbS cs ln pn pf).2.2.2.1) (nI ((rbS cs ln pn pf).2.2.1)) (nI ms) hs :: zC K r T :: sC K r sv :: bC K r cs :: pC K r ((rbS cs ln pn pf).2.2.2.2) :: fC K r fa :: Y) H := hP
    have hD : va_D A (refO r (nI 1) (nI sn) (nI ln) (nI ((rbS cs ln pn pf).2.1)) ((rbS cs ln pn pf).2.2.2.1) (nI ((rbS cs ln pn pf).2.2.1)) (nI ms) hs :: zC K r T :: sC K r sv :: bC K r cs :: pC K r ((rbS cs ln pn pf).2.2.2.2) :: fC K r fa :: Y) := hD
    refine lv_aload_n hx hb dX4_play_16 rfl (lv_at hl 0 rfl) ?_
    refine va_get (D := D) (ci := 4) (v := .int (nI 1)) (C := RX4) (T := TX4) (N := 13) hx hb hts inX4 hown hE.1 hP 0 rfl rfl 0 (by decide) F29 (fun _ h9 => h9) rfl dX4_play_17 ?_
    refine nv_if_le (x := 1) (tgt := 25) hx hb dX4_play_20 (by decide) (by decide) (fun c_2 => ?_) (fun c_2 => ?_)
    · exact absurd c_2 (by decide)
    have n_c_2 : ¬ 1 = 0 := by omega
    refine lv_iconst (v := nI 0) hx hb dX4_play_23 (by decide) ?_
    have ew : (refO r (nI 1) (nI sn) (nI ln) (nI ((rbS cs ln pn pf).2.1)) ((rbS cs ln pn pf).2.2.2.1) (nI ((rbS cs ln pn pf).2.2.1)) (nI ms) hs :: zC K r T :: sC K r sv :: bC K r cs :: pC K r ((rbS cs ln pn pf).2.2.2.2) :: fC K r fa :: Y) = (if whS cs ln pn pf = true then refO r (nI 0) (nI (svN sn)) (nI 0) (nI ((rbS cs ln pn pf).2.1)) ((rbS cs ln pn pf).2.2.2.1) (nI ((rbS cs ln pn pf).2.2.1)) (nI ms) hs :: zC K r ((plR (rbS cs ln pn pf).2.2.2.2 (rbS cs ln pn pf).2.1 0 T).1) :: sC K r (savS sv sn T) :: bC K r cs :: pC K r ((rbS cs ln pn pf).2.2.2.2) :: fC K r fa :: Y else refO r (nI 1) (nI sn) (nI ln) (nI ((rbS cs ln pn pf).2.1)) ((rbS cs ln pn pf).2.2.2.1) (nI ((rbS cs ln pn pf).2.2.1)) (nI ms) hs :: zC K r T :: sC K r sv :: bC K r cs :: pC K r ((rbS cs ln pn pf).2.2.2.2) :: fC K r fa :: Y) := by rw [if_neg (by rw [c_1]; decide)]
    rw [ew] at hP hD
    exact wr_iret hAe hP hD hS hx hb hr hk dX4_play_24 ⟨Nat.le_of_ble_eq_true rfl, Nat.le_of_ble_eq_true rfl⟩ (by rw [if_neg (by rw [c_1]; decide)])
  · have hPC := hPC c_1
    refine lv_iconst (v := nI 0) hx hb dX4_play_8 (by decide) ?_
    refine lv_goto (tgt := 13) hx hb dX4_play_9 (by decide) ?_
    refine va_put (D := D) (ci := 4) (v := .int (nI 0)) (ty := .int) (C := RX4) (T := TX4) (N := 13) hx hb hts inX4 tyX4 tyX4_ok nmX4 hown hE.1 hP hD hS 0 rfl rfl 0 (by decide) F29 (fun _ h9 => h9) rfl (by decide +kernel) rfl rfl (Nat.le_of_ble_eq_true rfl) dX4_play_13 (fun H locs hP hD hS => ?_)
    have hP : va_P D vwCl (refO r (nI 0) (nI sn) (nI ln) (nI ((rbS cs ln pn pf).2.1)) ((rbS cs ln pn pf).2.2.2.1) (nI ((rbS cs ln pn pf).2.2.1)) (nI ms) hs :: zC K r T :: sC K r sv :: bC K r cs :: pC K r ((rbS cs ln pn pf).2.2.2.2) :: fC K r fa :: Y) H := hP
    have hD : va_D A (refO r (nI 0) (nI sn) (nI ln) (nI ((rbS cs ln pn pf).2.1)) ((rbS cs ln pn pf).2.2.2.1) (nI ((rbS cs ln pn pf).2.2.1)) (nI ms) hs :: zC K r T :: sC K r sv :: bC K r cs :: pC K r ((rbS cs ln pn pf).2.2.2.2) :: fC K r fa :: Y) := hD
    refine lv_aload_n hx hb dX4_play_16 rfl (lv_at hl 0 rfl) ?_
    refine va_get (D := D) (ci := 4) (v := .int (nI 0)) (C := RX4) (T := TX4) (N := 13) hx hb hts inX4 hown hE.1 hP 0 rfl rfl 0 (by decide) F29 (fun _ h9 => h9) rfl dX4_play_17 ?_
    refine nv_if_le (x := 0) (tgt := 25) hx hb dX4_play_20 (by decide) (by decide) (fun c_3 => ?_) (fun c_3 => ?_)
    · have n_c_3 : ¬ 0 < 0 := by omega
      refine lv_aload_n hx hb dX4_play_25 rfl (lv_at hl 0 rfl) ?_
      refine wr_V (rest := []) (ci := 4) (q0 := 0) ⟨hx, hb, hml, hown, hts⟩ hP hE hA hD hS (c_X4_save l D K _ _ _ _ sn _ _ _ _ _ _ _ _ _ _ _ hsn) (cwV 0 hts gX4_play_X4_save rfl rfl rfl hd_X4_save ⟨Nat.le_of_ble_eq_true rfl, Nat.le_of_ble_eq_true rfl⟩) rfl rfl rfl rfl hl.1 rfl (Nat.le_of_ble_eq_true rfl) dX4_play_26 ⟨Nat.le_of_ble_eq_true rfl, Nat.le_of_ble_eq_true rfl⟩ (fun H locs hP hD hS => ?_)
      have hP : va_P D vwCl (refO r (nI 0) (nI (svN sn)) (nI ln) (nI ((rbS cs ln pn pf).2.1)) ((rbS cs ln pn pf).2.2.2.1) (nI ((rbS cs ln pn pf).2.2.1)) (nI ms) hs :: zC K r T :: sC K r (savS sv sn T) :: bC K r cs :: pC K r ((rbS cs ln pn pf).2.2.2.2) :: fC K r fa :: Y) H := hP
      have hD : va_D A (refO r (nI 0) (nI (svN sn)) (nI ln) (nI ((rbS cs ln pn pf).2.1)) ((rbS cs ln pn pf).2.2.2.1) (nI ((rbS cs ln pn pf).2.2.1)) (nI ms) hs :: zC K r T :: sC K r (savS sv sn T) :: bC K r cs :: pC K r ((rbS cs ln pn pf).2.2.2.2) :: fC K r fa :: Y) := hD
      refine lv_iconst (v := nI 0) hx hb dX4_play_29 (by decide) ?_
      refine lv_istore_n (lv' := [(1, .int (nI 0)), (0, .ref (r 0))]) hx hb dX4_play_30 rfl hl (by decide) rfl (fun ls hl => ?_)
      have loop_4 : ∀ (n_31 : Nat) (i : Nat) (Tx : TW), (i ≤ (rbS cs ln pn pf).2.1) → (Inv Tx) → (plR (rbS cs ln pn pf).2.2.2.2 (rbS cs ln pn pf).2.1 0 T = plR (rbS cs ln pn pf).2.2.2.2 ((rbS cs ln pn pf).2.1 - i) i Tx) → ((rbS cs ln pn pf).2.1 - i) < n_31 → ∀ (H : Heap) (locs : List Loc), va_P D vwCl (refO r (nI 0) (nI (svN sn)) (nI ln) (nI ((rbS cs ln pn pf).2.1)) ((rbS cs ln pn pf).2.2.2.1) (nI ((rbS cs ln pn pf).2.2.1)) (nI ms) hs :: zC K r Tx :: sC K r (savS sv sn T) :: bC K r cs :: pC K r ((rbS cs ln pn pf).2.2.2.2) :: fC K r fa :: Y) H → va_D A (refO r (nI 0) (nI (svN sn)) (nI ln) (nI ((rbS cs ln pn pf).2.1)) ((rbS cs ln pn pf).2.2.2.1) (nI ((rbS cs ln pn pf).2.2.1)) (nI ms) hs :: zC K r Tx :: sC K r (savS sv sn T) :: bC K r cs :: pC K r ((rbS cs ln pn pf).2.2.2.2) :: fC K r fa :: Y) → va_S A st.heap H locs →  ∀ x_1 : Int32, x_1 = nI i → ∀ ls : Array Slot, lv_has ls 2 [(0, .ref (r 0)), (1, .int x_1)] → W pr l en (headSpec wsX4_play ({ frames := 6, cells := 0, slots := 0, locals := 116 } : Room)).room st md ar bl mt co H locs 0 0 (MQ bl (wrQ D (refO r th (nI sn) (nI ln) (nI pm) pn (nI sta) (nI ms) hs :: zC K r T :: sC K r sv :: bC K r cs :: pC K r pf :: fC K r fa :: Y) (if whS cs ln pn pf = true then refO r (nI 0) (nI (svN sn)) (nI 0) (nI ((rbS cs ln pn pf).2.1)) ((rbS cs ln pn pf).2.2.2.1) (nI ((rbS cs ln pn pf).2.2.1)) (nI ms) hs :: zC K r ((plR (rbS cs ln pn pf).2.2.2.2 (rbS cs ln pn pf).2.1 0 T).1) :: sC K r (savS sv sn T) :: bC K r cs :: pC K r ((rbS cs ln pn pf).2.2.2.2) :: fC K r fa :: Y else refO r (nI 1) (nI sn) (nI ln) (nI ((rbS cs ln pn pf).2.1)) ((rbS cs ln pn pf).2.2.2.1) (nI ((rbS cs ln pn pf).2.2.1)) (nI ms) hs :: zC K r T :: sC K r sv :: bC K r cs :: pC K r ((rbS cs ln pn pf).2.2.2.2) :: fC K r fa :: Y) sz (some (.int (nI (if whS cs ln pn pf = true then (plR (rbS cs ln pn pf).2.2.2.2 (rbS cs ln pn pf).2.1 0 T).2 else 0))))) ar st 0 0 A) (F0 md 31 ls []) := by
        intro n_31
        induction n_31 with
        | zero => intro i Tx _ _ _ hn_31; exact absurd hn_31 (Nat.not_lt_zero _)
        | succ n_31 ih_31 =>
          intro i Tx hi hIx he hn_31 H locs hP hD hS x_1 ex_1 ls hl
          subst ex_1
          have hl : lv_has ls 2 [(0, .ref (r 0)), (1, .int (nI i))] := hl
          have hpm30 := hPC.1
          refine lv_iload_n hx hb dX4_play_31 rfl (lv_at hl 1 rfl) ?_
          refine lv_aload_n hx hb dX4_play_32 rfl (lv_at hl 0 rfl) ?_
          refine va_get (D := D) (ci := 4) (v := .int (nI ((rbS cs ln pn pf).2.1))) (C := RX4) (T := TX4) (N := 13) hx hb hts inX4 hown hE.1 hP 0 rfl rfl 7 (by decide) F114 (fun _ h9 => h9) rfl dX4_play_33 ?_
          refine nv_icmp_ge (x := i) (y := (rbS cs ln pn pf).2.1) (tgt := 53) hx hb dX4_play_36 (by decide) (by omega) (by omega) (fun c_5 => ?_) (fun c_5 => ?_)
          · have n_c_5 := Nat.not_lt.mpr c_5
            refine lv_aload_n hx hb dX4_play_53 rfl (lv_at hl 0 rfl) ?_
            refine lv_iconst (v := nI 0) hx hb dX4_play_54 (by decide) ?_
            refine va_put (D := D) (ci := 4) (v := .int (nI 0)) (ty := .int) (C := RX4) (T := TX4) (N := 13) hx hb hts inX4 tyX4 tyX4_ok nmX4 hown hE.1 hP hD hS 0 rfl rfl 5 (by decide) F101 (fun _ h9 => h9) rfl (by decide +kernel) rfl rfl (Nat.le_of_ble_eq_true rfl) dX4_play_55 (fun H locs hP hD hS => ?_)
            have hP : va_P D vwCl (refO r (nI 0) (nI (svN sn)) (nI 0) (nI ((rbS cs ln pn pf).2.1)) ((rbS cs ln pn pf).2.2.2.1) (nI ((rbS cs ln pn pf).2.2.1)) (nI ms) hs :: zC K r Tx :: sC K r (savS sv sn T) :: bC K r cs :: pC K r ((rbS cs ln pn pf).2.2.2.2) :: fC K r fa :: Y) H := hP
            have hD : va_D A (refO r (nI 0) (nI (svN sn)) (nI 0) (nI ((rbS cs ln pn pf).2.1)) ((rbS cs ln pn pf).2.2.2.1) (nI ((rbS cs ln pn pf).2.2.1)) (nI ms) hs :: zC K r Tx :: sC K r (savS sv sn T) :: bC K r cs :: pC K r ((rbS cs ln pn pf).2.2.2.2) :: fC K r fa :: Y) := hD
            refine lv_iload_n hx hb dX4_play_58 rfl (lv_at hl 1 rfl) ?_
            have er : (plR (rbS cs ln pn pf).2.2.2.2 (rbS cs ln pn pf).2.1 0 T) = (Tx, i) := he.trans (by first | exact plR_end (by omega) | (rw [plR_no (by omega) c_5, plT1_stay c_5]))
            have ew : (refO r (nI 0) (nI (svN sn)) (nI 0) (nI ((rbS cs ln pn pf).2.1)) ((rbS cs ln pn pf).2.2.2.1) (nI ((rbS cs ln pn pf).2.2.1)) (nI ms) hs :: zC K r Tx :: sC K r (savS sv sn T) :: bC K r cs :: pC K r ((rbS cs ln pn pf).2.2.2.2) :: fC K r fa :: Y) = (if whS cs ln pn pf = true then refO r (nI 0) (nI (svN sn)) (nI 0) (nI ((rbS cs ln pn pf).2.1)) ((rbS cs ln pn pf).2.2.2.1) (nI ((rbS cs ln pn pf).2.2.1)) (nI ms) hs :: zC K r ((plR (rbS cs ln pn pf).2.2.2.2 (rbS cs ln pn pf).2.1 0 T).1) :: sC K r (savS sv sn T) :: bC K r cs :: pC K r ((rbS cs ln pn pf).2.2.2.2) :: fC K r fa :: Y else refO r (nI 1) (nI sn) (nI ln) (nI ((rbS cs ln pn pf).2.1)) ((rbS cs ln pn pf).2.2.2.1) (nI ((rbS cs ln pn pf).2.2.1)) (nI ms) hs :: zC K r T :: sC K r sv :: bC K r cs :: pC K r ((rbS cs ln pn pf).2.2.2.2) :: fC K r fa :: Y) := by rw [if_pos c_1, er]
            rw [ew] at hP hD
            exact wr_iret hAe hP hD hS hx hb hr hk dX4_play_59 ⟨Nat.le_of_ble_eq_true rfl, Nat.le_of_ble_eq_true rfl⟩ (by rw [if_pos c_1, er])
          · have n_c_5 := Nat.not_le.mpr c_5
            refine lv_aload_n hx hb dX4_play_39 rfl (lv_at hl 0 rfl) ?_
            refine lv_iload_n hx hb dX4_play_40 rfl (lv_at hl 1 rfl) ?_
            refine wr_V (rest := []) (ci := 4) (q0 := 0) ⟨hx, hb, hml, hown, hts⟩ hP hE hA hD hS (c_X4_plays l D K _ _ _ _ _ _ _ _ _ _ _ _ _ _ _ _ i hIx hPC (by omega)) (cwV 1 hts gX4_play_X4_plays rfl rfl rfl hd_X4_plays ⟨Nat.le_of_ble_eq_true rfl, Nat.le_of_ble_eq_true rfl⟩) rfl rfl rfl rfl hl.1 rfl (Nat.le_of_ble_eq_true rfl) dX4_play_41 ⟨Nat.le_of_ble_eq_true rfl, Nat.le_of_ble_eq_true rfl⟩ (fun H locs hP hD hS => ?_)
            have hP : va_P D vwCl (refO r (nI 0) (nI (svN sn)) (nI ln) (nI ((rbS cs ln pn pf).2.1)) ((rbS cs ln pn pf).2.2.2.1) (nI ((rbS cs ln pn pf).2.2.1)) (nI ms) hs :: zC K r (plT1 Tx (pcP ((rbS cs ln pn pf).2.2.2.2) i) (pcG ((rbS cs ln pn pf).2.2.2.2) i) (pcD ((rbS cs ln pn pf).2.2.2.2) i)) :: sC K r (savS sv sn T) :: bC K r cs :: pC K r ((rbS cs ln pn pf).2.2.2.2) :: fC K r fa :: Y) H := hP
            have hD : va_D A (refO r (nI 0) (nI (svN sn)) (nI ln) (nI ((rbS cs ln pn pf).2.1)) ((rbS cs ln pn pf).2.2.2.1) (nI ((rbS cs ln pn pf).2.2.1)) (nI ms) hs :: zC K r (plT1 Tx (pcP ((rbS cs ln pn pf).2.2.2.2) i) (pcG ((rbS cs ln pn pf).2.2.2.2) i) (pcD ((rbS cs ln pn pf).2.2.2.2) i)) :: sC K r (savS sv sn T) :: bC K r cs :: pC K r ((rbS cs ln pn pf).2.2.2.2) :: fC K r fa :: Y) := hD
            refine bv_if_eq (x := okP Tx (pcP ((rbS cs ln pn pf).2.2.2.2) i) (pcG ((rbS cs ln pn pf).2.2.2.2) i) (pcD ((rbS cs ln pn pf).2.2.2.2) i)) (tgt := 53) hx hb dX4_play_44 (by decide) (fun c_6 => ?_) (fun c_6 => ?_)
            · refine lv_aload_n hx hb dX4_play_53 rfl (lv_at hl 0 rfl) ?_
              refine lv_iconst (v := nI 0) hx hb dX4_play_54 (by decide) ?_
              refine va_put (D := D) (ci := 4) (v := .int (nI 0)) (ty := .int) (C := RX4) (T := TX4) (N := 13) hx hb hts inX4 tyX4 tyX4_ok nmX4 hown hE.1 hP hD hS 0 rfl rfl 5 (by decide) F101 (fun _ h9 => h9) rfl (by decide +kernel) rfl rfl (Nat.le_of_ble_eq_true rfl) dX4_play_55 (fun H locs hP hD hS => ?_)
              have hP : va_P D vwCl (refO r (nI 0) (nI (svN sn)) (nI 0) (nI ((rbS cs ln pn pf).2.1)) ((rbS cs ln pn pf).2.2.2.1) (nI ((rbS cs ln pn pf).2.2.1)) (nI ms) hs :: zC K r (plT1 Tx (pcP ((rbS cs ln pn pf).2.2.2.2) i) (pcG ((rbS cs ln pn pf).2.2.2.2) i) (pcD ((rbS cs ln pn pf).2.2.2.2) i)) :: sC K r (savS sv sn T) :: bC K r cs :: pC K r ((rbS cs ln pn pf).2.2.2.2) :: fC K r fa :: Y) H := hP
              have hD : va_D A (refO r (nI 0) (nI (svN sn)) (nI 0) (nI ((rbS cs ln pn pf).2.1)) ((rbS cs ln pn pf).2.2.2.1) (nI ((rbS cs ln pn pf).2.2.1)) (nI ms) hs :: zC K r (plT1 Tx (pcP ((rbS cs ln pn pf).2.2.2.2) i) (pcG ((rbS cs ln pn pf).2.2.2.2) i) (pcD ((rbS cs ln pn pf).2.2.2.2) i)) :: sC K r (savS sv sn T) :: bC K r cs :: pC K r ((rbS cs ln pn pf).2.2.2.2) :: fC K r fa :: Y) := hD
              refine lv_iload_n hx hb dX4_play_58 rfl (lv_at hl 1 rfl) ?_
              have er : (plR (rbS cs ln pn pf).2.2.2.2 (rbS cs ln pn pf).2.1 0 T) = (plT1 Tx (pcP ((rbS cs ln pn pf).2.2.2.2) i) (pcG ((rbS cs ln pn pf).2.2.2.2) i) (pcD ((rbS cs ln pn pf).2.2.2.2) i), i) := he.trans (by first | exact plR_end (by omega) | (rw [plR_no (by omega) c_6, plT1_stay c_6]))
              have ew : (refO r (nI 0) (nI (svN sn)) (nI 0) (nI ((rbS cs ln pn pf).2.1)) ((rbS cs ln pn pf).2.2.2.1) (nI ((rbS cs ln pn pf).2.2.1)) (nI ms) hs :: zC K r (plT1 Tx (pcP ((rbS cs ln pn pf).2.2.2.2) i) (pcG ((rbS cs ln pn pf).2.2.2.2) i) (pcD ((rbS cs ln pn pf).2.2.2.2) i)) :: sC K r (savS sv sn T) :: bC K r cs :: pC K r ((rbS cs ln pn pf).2.2.2.2) :: fC K r fa :: Y) = (if whS cs ln pn pf = true then refO r (nI 0) (nI (svN sn)) (nI 0) (nI ((rbS cs ln pn pf).2.1)) ((rbS cs ln pn pf).2.2.2.1) (nI ((rbS cs ln pn pf).2.2.1)) (nI ms) hs :: zC K r ((plR (rbS cs ln pn pf).2.2.2.2 (rbS cs ln pn pf).2.1 0 T).1) :: sC K r (savS sv sn T) :: bC K r cs :: pC K r ((rbS cs ln pn pf).2.2.2.2) :: fC K r fa :: Y else refO r (nI 1) (nI sn) (nI ln) (nI ((rbS cs ln pn pf).2.1)) ((rbS cs ln pn pf).2.2.2.1) (nI ((rbS cs ln pn pf).2.2.1)) (nI ms) hs :: zC K r T :: sC K r sv :: bC K r cs :: pC K r ((rbS cs ln pn pf).2.2.2.2) :: fC K r fa :: Y) := by rw [if_pos c_1, er]
              rw [ew] at hP hD
              exact wr_iret hAe hP hD hS hx hb hr hk dX4_play_59 ⟨Nat.le_of_ble_eq_true rfl, Nat.le_of_ble_eq_true rfl⟩ (by rw [if_pos c_1, er])
            · refine lv_iinc (v := nI (i + 1)) (lv' := [(1, .int (nI (i + 1))), (0, .ref (r 0))]) hx hb dX4_play_47 hl (k := 1) rfl (nI_add _ 1) (by decide) rfl (fun ls hl => ?_)
              refine lv_goto (tgt := 31) hx hb dX4_play_50 (by decide) ?_
              exact ih_31 (i + 1) (plT1 Tx (pcP ((rbS cs ln pn pf).2.2.2.2) i) (pcG ((rbS cs ln pn pf).2.2.2.2) i) (pcD ((rbS cs ln pn pf).2.2.2.2) i)) (by omega) (plT1_inv hIx (pc_p hPC (i := i) (by omega)).2 (pc_d hPC (i := i) (by omega)).2) (he.trans (plR_ok (by omega) c_6)) (by omega) _ _ hP hD hS _ rfl ls (lv_sub hl [1, 0] rfl)
      exact loop_4 _ 0 T (Nat.zero_le _) hI rfl (Nat.lt_succ_self _) _ _ hP hD hS _ rfl ls (lv_sub hl [1, 0] rfl)
    exact absurd c_3 (by decide)
