theorem hd_X1_share : yX1_share.cls = RX1 ∧ yX1_share.cls ≠ "java/lang/invoke/MethodHandle" ∧ yX1_share.cls ≠ "java/lang/invoke/VarHandle" ∧ (parseMethodDescriptor yX1_share.desc).map (fun d => d.parameters.length) = some 0 := by decide +kernel
theorem hn_X1_share : yX1_share.cls ≠ "java/lang/invoke/MethodHandle" ∧ yX1_share.cls ≠ "java/lang/invoke/VarHandle" ∧ (parseMethodDescriptor yX1_share.desc).map (fun d => d.parameters.length) = some 0 := hd_X1_share.2
set_option maxHeartbeats 4000000 in
set_option maxRecDepth 100000 in
theorem c_X1_share (l : Launch) (D : va_G) (K : Nat → ClassId) (a : Nat → Nat) (T : TW) (X : va_W)  (hI : Inv T) : Rd l yX1_share wsX1_share ({ frames := 4, cells := 0, slots := 0, locals := 77 } : Room) D K (townW K a T ++ X) [.ref (a 0)] (.double (shD (swT T 2) (swT T 1))) := by
  refine rd_intro (cc := cX1_share) (maxL := 2) (ret := (some .double)) (by decide) rfl (Nat.le_of_ble_eq_true rfl) ?_
  intro pr en st md ar bl mt co hx hb hml hr hts hown hk hP hE ls hl
  have hown : st.vm.findClass RX1 = some md.cls := hown
  have hl : lv_has ls 2 [(0, .ref (a 0))] := hl
  have h21 := sw_21 T
  have h1 := sw_pos hI
  have h80 := sw_le T 1
  have hck := chk1_all h1 h80 h21
  refine lv_aload_n hx hb dX1_share_0 rfl (lv_at hl 0 rfl) ?_
  refine lv_iconst (v := nI 1) hx hb dX1_share_1 (by decide) ?_
  refine rd_V (rest := []) (ci := 1) (q0 := 0) ⟨hx, hb, hml, hown, hts⟩ hP hE (c_X1_squaresWithTracks l D K _ _ _ 1 hI (by omega)) (cwV 1 hts gX1_share_X1_squaresWithTracks rfl rfl rfl hd_X1_squaresWithTracks ⟨Nat.le_of_ble_eq_true rfl, Nat.le_of_ble_eq_true rfl⟩) rfl rfl rfl rfl hl.1 rfl (Nat.le_of_ble_eq_true rfl) dX1_share_2 ⟨Nat.zero_le _, Nat.zero_le _⟩ ?_
  have hb_1 := sw_le T 1
  refine lv_istore_n (lv' := [(1, .int (nI (swT T 1))), (0, .ref (a 0))]) hx hb dX1_share_5 rfl hl (by decide) rfl (fun ls hl => ?_)
  refine lv_iload_n hx hb dX1_share_6 rfl (lv_at hl 0 rfl) ?_
  refine nv_if_ne (x := swT T 1) (tgt := 14) hx hb dX1_share_7 (by decide) (by omega) (fun c_2 => ?_) (fun c_2 => ?_)
  · have n_c_2 : ¬ swT T 1 = 0 := by omega
    refine lv_aload_n hx hb dX1_share_14 rfl (lv_at hl 1 rfl) ?_
    refine lv_iconst (v := nI 2) hx hb dX1_share_15 (by decide) ?_
    refine rd_V (rest := []) (ci := 1) (q0 := 0) ⟨hx, hb, hml, hown, hts⟩ hP hE (c_X1_squaresWithTracks l D K _ _ _ 2 hI (by omega)) (cwV 1 hts gX1_share_X1_squaresWithTracks rfl rfl rfl hd_X1_squaresWithTracks ⟨Nat.le_of_ble_eq_true rfl, Nat.le_of_ble_eq_true rfl⟩) rfl rfl rfl rfl hl.1 rfl (Nat.le_of_ble_eq_true rfl) dX1_share_16 ⟨Nat.zero_le _, Nat.zero_le _⟩ ?_
    have hb_3 := sw_le T 2
    refine lv_i2d hx hb dX1_share_19 ?_
    refine lv_iload_n hx hb dX1_share_20 rfl (lv_at hl 0 rfl) ?_
    refine lv_i2d hx hb dX1_share_21 ?_
    refine lv_ddiv hx hb dX1_share_22 (ck_n hck) ?_
    exact rd_dret hx hb hr hk dX1_share_23 (rfl)
  omega
