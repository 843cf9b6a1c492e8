theorem hd_X4_mixPlayer : yX4_mixPlayer.cls = RX4 ∧ yX4_mixPlayer.cls ≠ "java/lang/invoke/MethodHandle" ∧ yX4_mixPlayer.cls ≠ "java/lang/invoke/VarHandle" ∧ (parseMethodDescriptor yX4_mixPlayer.desc).map (fun d => d.parameters.length) = some 1 := by decide +kernel
theorem hn_X4_mixPlayer : yX4_mixPlayer.cls ≠ "java/lang/invoke/MethodHandle" ∧ yX4_mixPlayer.cls ≠ "java/lang/invoke/VarHandle" ∧ (parseMethodDescriptor yX4_mixPlayer.desc).map (fun d => d.parameters.length) = some 1 := hd_X4_mixPlayer.2
theorem hd_X4_share : yX4_share.cls = RX4 ∧ yX4_share.cls ≠ "java/lang/invoke/MethodHandle" ∧ yX4_share.cls ≠ "java/lang/invoke/VarHandle" ∧ (parseMethodDescriptor yX4_share.desc).map (fun d => d.parameters.length) = some 0 := by decide +kernel
theorem hn_X4_share : yX4_share.cls ≠ "java/lang/invoke/MethodHandle" ∧ yX4_share.cls ≠ "java/lang/invoke/VarHandle" ∧ (parseMethodDescriptor yX4_share.desc).map (fun d => d.parameters.length) = some 0 := hd_X4_share.2
theorem hd_X4_bitsOf : yX4_bitsOf.cls = RX4 ∧ yX4_bitsOf.cls ≠ "java/lang/invoke/MethodHandle" ∧ yX4_bitsOf.cls ≠ "java/lang/invoke/VarHandle" ∧ (parseMethodDescriptor yX4_bitsOf.desc).map (fun d => d.parameters.length) = some 1 := by decide +kernel
theorem hn_X4_bitsOf : yX4_bitsOf.cls ≠ "java/lang/invoke/MethodHandle" ∧ yX4_bitsOf.cls ≠ "java/lang/invoke/VarHandle" ∧ (parseMethodDescriptor yX4_bitsOf.desc).map (fun d => d.parameters.length) = some 1 := hd_X4_bitsOf.2
theorem hd_X3_bitsOfShare : yX3_bitsOfShare.cls = RX3 ∧ yX3_bitsOfShare.cls ≠ "java/lang/invoke/MethodHandle" ∧ yX3_bitsOfShare.cls ≠ "java/lang/invoke/VarHandle" ∧ (parseMethodDescriptor yX3_bitsOfShare.desc).map (fun d => d.parameters.length) = some 1 := by decide +kernel
theorem hn_X3_bitsOfShare : yX3_bitsOfShare.cls ≠ "java/lang/invoke/MethodHandle" ∧ yX3_bitsOfShare.cls ≠ "java/lang/invoke/VarHandle" ∧ (parseMethodDescriptor yX3_bitsOfShare.desc).map (fun d => d.parameters.length) = some 1 := hd_X3_bitsOfShare.2
set_option maxHeartbeats 4000000 in
set_option maxRecDepth 100000 in
theorem c_X4_mixPlayer (l : Launch) (D : va_G) (K : Nat → ClassId) (sz : Nat) (r : Nat → Nat) (th pn : Int32) (sn ln pm sta ms : Nat) (hs : Int64) (T : TW) (sv : Nat → Int32) (cs : Nat → Nat) (pf : Nat → Int32) (fa : Nat → Nat) (Y : va_W) (p : Nat) (hI : Inv T) (hp : p < 4) : Wr l yX4_mixPlayer wsX4_mixPlayer ({ frames := 6, cells := 0, slots := 0, locals := 137 } : Room) D K (refO r th (nI sn) (nI ln) (nI pm) pn (nI sta) (nI ms) hs :: zC K r T :: sC K r sv :: bC K r cs :: pC K r pf :: fC K r fa :: Y) sz [.ref (r 0), .int (nI p)] (refO r th (nI sn) (nI ln) (nI pm) pn (nI sta) (nI (misM T p 12)) (dgP T p hs) :: zC K r T :: sC K r sv :: bC K r cs :: pC K r pf :: fC K r (faB T p 6 (dst T p 1)) :: Y) none 0 0 := by
  refine wr_intro (cc := cX4_mixPlayer) (maxL := 4) (ret := none) (by decide) rfl (Nat.le_of_ble_eq_true rfl) ?_
  intro pr en st md ar bl mt co A hx hb hml hr hts hown hk hsz hAe hP hE hD hS hA hin ls hl
  have hown : st.vm.findClass RX4 = some md.cls := hown
  have hl : lv_has ls 4 [(0, .ref (r 0)), (1, .int (nI p))] := hl
  obtain ⟨H, hH⟩ : ∃ z, z = st.heap := ⟨_, rfl⟩
  obtain ⟨locs, hlo⟩ : ∃ z : List Loc, z = [] := ⟨_, rfl⟩
  have hP : va_P D vwCl (refO r th (nI sn) (nI ln) (nI pm) pn (nI sta) (nI ms) hs :: zC K r T :: sC K r sv :: bC K r cs :: pC K r pf :: fC K r fa :: Y) H := by rw [hH]; exact hP
  have hS : va_S A st.heap H locs := by rw [hH, hlo]; exact hS
  suffices go : W pr l en (headSpec wsX4_mixPlayer ({ frames := 6, cells := 0, slots := 0, locals := 137 } : Room)).room st md ar bl mt co H locs 0 0 (MQ bl (wrQ D (refO r th (nI sn) (nI ln) (nI pm) pn (nI sta) (nI ms) hs :: zC K r T :: sC K r sv :: bC K r cs :: pC K r pf :: fC K r fa :: Y) (refO r th (nI sn) (nI ln) (nI pm) pn (nI sta) (nI (misM T p 12)) (dgP T p hs) :: zC K r T :: sC K r sv :: bC K r cs :: pC K r pf :: fC K r (faB T p 6 (dst T p 1)) :: Y) sz none) ar st 0 0 A) (F0 md 0 ls []) by rw [hH, hlo] at go; exact go
  clear hH hlo
  refine lv_iconst (v := nI 0) hx hb dX4_mixPlayer_0 (by decide) ?_
  refine lv_istore_n (lv' := [(2, .int (nI 0)), (0, .ref (r 0)), (1, .int (nI p))]) hx hb dX4_mixPlayer_1 rfl hl (by decide) rfl (fun ls hl => ?_)
  have loop_1 : ∀ (n_2 : Nat) (i : Nat), (i ≤ 10) → (10 - i) < n_2 → ∀ (H : Heap) (locs : List Loc), va_P D vwCl (refO r th (nI sn) (nI ln) (nI pm) pn (nI sta) (nI ms) (mxN (ppT T p) i hs) :: zC K r T :: sC K r sv :: bC K r cs :: pC K r pf :: fC K r fa :: Y) H → va_D A (refO r th (nI sn) (nI ln) (nI pm) pn (nI sta) (nI ms) (mxN (ppT T p) i hs) :: zC K r T :: sC K r sv :: bC K r cs :: pC K r pf :: fC K r fa :: Y) → va_S A st.heap H locs →  ∀ x_2 : Int32, x_2 = nI i → ∀ ls : Array Slot, lv_has ls 4 [(0, .ref (r 0)), (1, .int (nI p)), (2, .int x_2)] → W pr l en (headSpec wsX4_mixPlayer ({ frames := 6, cells := 0, slots := 0, locals := 137 } : Room)).room st md ar bl mt co H locs 0 0 (MQ bl (wrQ D (refO r th (nI sn) (nI ln) (nI pm) pn (nI sta) (nI ms) hs :: zC K r T :: sC K r sv :: bC K r cs :: pC K r pf :: fC K r fa :: Y) (refO r th (nI sn) (nI ln) (nI pm) pn (nI sta) (nI (misM T p 12)) (dgP T p hs) :: zC K r T :: sC K r sv :: bC K r cs :: pC K r pf :: fC K r (faB T p 6 (dst T p 1)) :: Y) sz none) ar st 0 0 A) (F0 md 2 ls []) := by
    intro n_2
    induction n_2 with
    | zero => intro i _ hn_2; exact absurd hn_2 (Nat.not_lt_zero _)
    | succ n_2 ih_2 =>
      intro i hi hn_2 H locs hP hD hS x_2 ex_2 ls hl
      subst ex_2
      have hl : lv_has ls 4 [(0, .ref (r 0)), (1, .int (nI p)), (2, .int (nI i))] := hl
      refine lv_iload_n hx hb dX4_mixPlayer_2 rfl (lv_at hl 2 rfl) ?_
      refine lv_bipush (v := nI 9) hx hb dX4_mixPlayer_3 (by decide) ?_
      refine nv_icmp_gt (x := i) (y := 9) (tgt := 25) hx hb dX4_mixPlayer_5 (by decide) (by omega) (by decide) (fun c_2 => ?_) (fun c_2 => ?_)
      · have n_c_2 := Nat.not_le.mpr c_2
        refine lv_aload_n hx hb dX4_mixPlayer_25 rfl (lv_at hl 0 rfl) ?_
        refine lv_aload_n hx hb dX4_mixPlayer_26 rfl (lv_at hl 0 rfl) ?_
        refine lv_iload_n hx hb dX4_mixPlayer_27 rfl (lv_at hl 1 rfl) ?_
        refine lv_bipush (v := nI 44) hx hb dX4_mixPlayer_28 (by decide) ?_
        refine lv_iconst (v := nI 0) hx hb dX4_mixPlayer_30 (by decide) ?_
        refine wr_V (rest := [.ref (r 0)]) (ci := 4) (q0 := 0) ⟨hx, hb, hml, hown, hts⟩ hP hE hA hD hS (c_X4_wayTo l D K _ _ _ _ _ _ _ _ _ _ _ _ _ _ _ _ p 44 0 hI (by omega) (by omega) (by omega)) (cwV 3 hts gX4_mixPlayer_X4_wayTo rfl rfl rfl hd_X4_wayTo ⟨Nat.le_of_ble_eq_true rfl, Nat.le_of_ble_eq_true rfl⟩) rfl rfl rfl rfl hl.1 rfl (Nat.le_of_ble_eq_true rfl) dX4_mixPlayer_31 ⟨Nat.le_of_ble_eq_true rfl, Nat.le_of_ble_eq_true rfl⟩ (fun H locs hP hD hS => ?_)
        have hP : va_P D vwCl (refO r th (nI sn) (nI ln) (nI pm) pn (nI sta) (nI ms) (mxN (ppT T p) i hs) :: zC K r T :: sC K r sv :: bC K r cs :: pC K r pf :: fC K r (dst T p 0) :: Y) H := hP
        have hD : va_D A (refO r th (nI sn) (nI ln) (nI pm) pn (nI sta) (nI ms) (mxN (ppT T p) i hs) :: zC K r T :: sC K r sv :: bC K r cs :: pC K r pf :: fC K r (dst T p 0) :: Y) := hD
        refine lv_i2l (v := (oI (wyO (dst T p 0 44))).toInt64) hx hb dX4_mixPlayer_34 rfl ?_
        refine wr_V (rest := []) (ci := 4) (q0 := 0) ⟨hx, hb, hml, hown, hts⟩ hP hE hA hD hS (c_X4_mix l D K _ _ _ _ _ _ _ _ _ _ _ _ _ _ _ _ ((oI (wyO (dst T p 0 44))).toInt64)) (cwV 1 hts gX4_mixPlayer_X4_mix rfl rfl rfl hd_X4_mix ⟨Nat.le_of_ble_eq_true rfl, Nat.le_of_ble_eq_true rfl⟩) rfl rfl rfl rfl hl.1 rfl (Nat.le_of_ble_eq_true rfl) dX4_mixPlayer_35 ⟨Nat.le_of_ble_eq_true rfl, Nat.le_of_ble_eq_true rfl⟩ (fun H locs hP hD hS => ?_)
        have hP : va_P D vwCl (refO r th (nI sn) (nI ln) (nI pm) pn (nI sta) (nI ms) (31 * (mxN (ppT T p) i hs) + ((oI (wyO (dst T p 0 44))).toInt64)) :: zC K r T :: sC K r sv :: bC K r cs :: pC K r pf :: fC K r (dst T p 0) :: Y) H := hP
        have hD : va_D A (refO r th (nI sn) (nI ln) (nI pm) pn (nI sta) (nI ms) (31 * (mxN (ppT T p) i hs) + ((oI (wyO (dst T p 0 44))).toInt64)) :: zC K r T :: sC K r sv :: bC K r cs :: pC K r pf :: fC K r (dst T p 0) :: Y) := hD
        refine lv_aload_n hx hb dX4_mixPlayer_38 rfl (lv_at hl 0 rfl) ?_
        refine lv_aload_n hx hb dX4_mixPlayer_39 rfl (lv_at hl 0 rfl) ?_
        refine lv_iload_n hx hb dX4_mixPlayer_40 rfl (lv_at hl 1 rfl) ?_
        refine lv_bipush (v := nI 44) hx hb dX4_mixPlayer_41 (by decide) ?_
        refine lv_iconst (v := nI 1) hx hb dX4_mixPlayer_43 (by decide) ?_
        refine wr_V (rest := [.ref (r 0)]) (ci := 4) (q0 := 0) ⟨hx, hb, hml, hown, hts⟩ hP hE hA hD hS (c_X4_wayTo l D K _ _ _ _ _ _ _ _ _ _ _ _ _ _ _ _ p 44 1 hI (by omega) (by omega) (by omega)) (cwV 3 hts gX4_mixPlayer_X4_wayTo rfl rfl rfl hd_X4_wayTo ⟨Nat.le_of_ble_eq_true rfl, Nat.le_of_ble_eq_true rfl⟩) rfl rfl rfl rfl hl.1 rfl (Nat.le_of_ble_eq_true rfl) dX4_mixPlayer_44 ⟨Nat.le_of_ble_eq_true rfl, Nat.le_of_ble_eq_true rfl⟩ (fun H locs hP hD hS => ?_)
        have hP : va_P D vwCl (refO r th (nI sn) (nI ln) (nI pm) pn (nI sta) (nI ms) (31 * (mxN (ppT T p) i hs) + ((oI (wyO (dst T p 0 44))).toInt64)) :: zC K r T :: sC K r sv :: bC K r cs :: pC K r pf :: fC K r (dst T p 1) :: Y) H := hP
        have hD : va_D A (refO r th (nI sn) (nI ln) (nI pm) pn (nI sta) (nI ms) (31 * (mxN (ppT T p) i hs) + ((oI (wyO (dst T p 0 44))).toInt64)) :: zC K r T :: sC K r sv :: bC K r cs :: pC K r pf :: fC K r (dst T p 1) :: Y) := hD
        refine lv_i2l (v := (oI (wyO (dst T p 1 44))).toInt64) hx hb dX4_mixPlayer_47 rfl ?_
        refine wr_V (rest := []) (ci := 4) (q0 := 0) ⟨hx, hb, hml, hown, hts⟩ hP hE hA hD hS (c_X4_mix l D K _ _ _ _ _ _ _ _ _ _ _ _ _ _ _ _ ((oI (wyO (dst T p 1 44))).toInt64)) (cwV 1 hts gX4_mixPlayer_X4_mix rfl rfl rfl hd_X4_mix ⟨Nat.le_of_ble_eq_true rfl, Nat.le_of_ble_eq_true rfl⟩) rfl rfl rfl rfl hl.1 rfl (Nat.le_of_ble_eq_true rfl) dX4_mixPlayer_48 ⟨Nat.le_of_ble_eq_true rfl, Nat.le_of_ble_eq_true rfl⟩ (fun H locs hP hD hS => ?_)
        have hP : va_P D vwCl (refO r th (nI sn) (nI ln) (nI pm) pn (nI sta) (nI ms) (31 * (31 * (mxN (ppT T p) i hs) + ((oI (wyO (dst T p 0 44))).toInt64)) + ((oI (wyO (dst T p 1 44))).toInt64)) :: zC K r T :: sC K r sv :: bC K r cs :: pC K r pf :: fC K r (dst T p 1) :: Y) H := hP
        have hD : va_D A (refO r th (nI sn) (nI ln) (nI pm) pn (nI sta) (nI ms) (31 * (31 * (mxN (ppT T p) i hs) + ((oI (wyO (dst T p 0 44))).toInt64)) + ((oI (wyO (dst T p 1 44))).toInt64)) :: zC K r T :: sC K r sv :: bC K r cs :: pC K r pf :: fC K r (dst T p 1) :: Y) := hD
        refine lv_iconst (v := nI 1) hx hb dX4_mixPlayer_51 (by decide) ?_
        refine lv_istore_n (lv' := [(2, .int (nI 1)), (0, .ref (r 0)), (1, .int (nI p))]) hx hb dX4_mixPlayer_52 rfl hl (by decide) rfl (fun ls hl => ?_)
        have loop_3 : ∀ (n_53 : Nat) (k : Nat), (k ≤ 6) → (6 - k) < n_53 → ∀ (H : Heap) (locs : List Loc), va_P D vwCl (refO r th (nI sn) (nI ln) (nI pm) pn (nI sta) (nI ms) (itN (fun k h => mxN (fun d => nI (whyT T p (hdT T p) (k + 1) d)) 4 h) k (31 * (31 * (mxN (ppT T p) 10 hs) + (oI (wyO (dst T p 0 44))).toInt64) + (oI (wyO (dst T p 1 44))).toInt64)) :: zC K r T :: sC K r sv :: bC K r cs :: pC K r pf :: fC K r (dst T p 1) :: Y) H → va_D A (refO r th (nI sn) (nI ln) (nI pm) pn (nI sta) (nI ms) (itN (fun k h => mxN (fun d => nI (whyT T p (hdT T p) (k + 1) d)) 4 h) k (31 * (31 * (mxN (ppT T p) 10 hs) + (oI (wyO (dst T p 0 44))).toInt64) + (oI (wyO (dst T p 1 44))).toInt64)) :: zC K r T :: sC K r sv :: bC K r cs :: pC K r pf :: fC K r (dst T p 1) :: Y) → va_S A st.heap H locs →  ∀ x_2 : Int32, x_2 = nI (k + 1) → ∀ ls : Array Slot, lv_has ls 4 [(0, .ref (r 0)), (1, .int (nI p)), (2, .int x_2)] → W pr l en (headSpec wsX4_mixPlayer ({ frames := 6, cells := 0, slots := 0, locals := 137 } : Room)).room st md ar bl mt co H locs 0 0 (MQ bl (wrQ D (refO r th (nI sn) (nI ln) (nI pm) pn (nI sta) (nI ms) hs :: zC K r T :: sC K r sv :: bC K r cs :: pC K r pf :: fC K r fa :: Y) (refO r th (nI sn) (nI ln) (nI pm) pn (nI sta) (nI (misM T p 12)) (dgP T p hs) :: zC K r T :: sC K r sv :: bC K r cs :: pC K r pf :: fC K r (faB T p 6 (dst T p 1)) :: Y) sz none) ar st 0 0 A) (F0 md 53 ls []) := by
          intro n_53
          induction n_53 with
          | zero => intro k _ hn_53; exact absurd hn_53 (Nat.not_lt_zero _)
          | succ n_53 ih_53 =>
            intro k hk6 hn_53 H locs hP hD hS x_2 ex_2 ls hl
            subst ex_2
            have hl : lv_has ls 4 [(0, .ref (r 0)), (1, .int (nI p)), (2, .int (nI (k + 1)))] := hl
            refine lv_iload_n hx hb dX4_mixPlayer_53 rfl (lv_at hl 2 rfl) ?_
            refine lv_bipush (v := nI 6) hx hb dX4_mixPlayer_54 (by decide) ?_
            refine nv_icmp_gt (x := k + 1) (y := 6) (tgt := 96) hx hb dX4_mixPlayer_56 (by decide) (by omega) (by decide) (fun c_4 => ?_) (fun c_4 => ?_)
            · have n_c_4 := Nat.not_le.mpr c_4
              refine lv_iconst (v := nI 1) hx hb dX4_mixPlayer_96 (by decide) ?_
              refine lv_istore_n (lv' := [(2, .int (nI 1)), (0, .ref (r 0)), (1, .int (nI p))]) hx hb dX4_mixPlayer_97 rfl hl (by decide) rfl (fun ls hl => ?_)
              have loop_5 : ∀ (n_98 : Nat) (k : Nat) (mx : Nat), (k ≤ 6) → (0 < k → mx = misM T p 12) → (6 - k) < n_98 → ∀ (H : Heap) (locs : List Loc), va_P D vwCl (refO r th (nI sn) (nI ln) (nI pm) pn (nI sta) (nI mx) (mxN (fun k => oI (bdT T p (k + 1))) k (itN (fun k h => mxN (fun d => nI (whyT T p (hdT T p) (k + 1) d)) 4 h) 6 (31 * (31 * (mxN (ppT T p) 10 hs) + (oI (wyO (dst T p 0 44))).toInt64) + (oI (wyO (dst T p 1 44))).toInt64))) :: zC K r T :: sC K r sv :: bC K r cs :: pC K r pf :: fC K r (faB T p k (dst T p 1)) :: Y) H → va_D A (refO r th (nI sn) (nI ln) (nI pm) pn (nI sta) (nI mx) (mxN (fun k => oI (bdT T p (k + 1))) k (itN (fun k h => mxN (fun d => nI (whyT T p (hdT T p) (k + 1) d)) 4 h) 6 (31 * (31 * (mxN (ppT T p) 10 hs) + (oI (wyO (dst T p 0 44))).toInt64) + (oI (wyO (dst T p 1 44))).toInt64))) :: zC K r T :: sC K r sv :: bC K r cs :: pC K r pf :: fC K r (faB T p k (dst T p 1)) :: Y) → va_S A st.heap H locs →  ∀ x_2 : Int32, x_2 = nI (k + 1) → ∀ ls : Array Slot, lv_has ls 4 [(0, .ref (r 0)), (1, .int (nI p)), (2, .int x_2)] → W pr l en (headSpec wsX4_mixPlayer ({ frames := 6, cells := 0, slots := 0, locals := 137 } : Room)).room st md ar bl mt co H locs 0 0 (MQ bl (wrQ D (refO r th (nI sn) (nI ln) (nI pm) pn (nI sta) (nI ms) hs :: zC K r T :: sC K r sv :: bC K r cs :: pC K r pf :: fC K r fa :: Y) (refO r th (nI sn) (nI ln) (nI pm) pn (nI sta) (nI (misM T p 12)) (dgP T p hs) :: zC K r T :: sC K r sv :: bC K r cs :: pC K r pf :: fC K r (faB T p 6 (dst T p 1)) :: Y) sz none) ar st 0 0 A) (F0 md 98 ls []) := by
                intro n_98
                induction n_98 with
                | zero => intro k mx _ _ hn_98; exact absurd hn_98 (Nat.not_lt_zero _)
                | succ n_98 ih_98 =>
                  intro k mx hk6 hmx hn_98 H locs hP hD hS x_2 ex_2 ls hl
                  subst ex_2
                  have hl : lv_has ls 4 [(0, .ref (r 0)), (1, .int (nI p)), (2, .int (nI (k + 1)))] := hl
                  refine lv_iload_n hx hb dX4_mixPlayer_98 rfl (lv_at hl 2 rfl) ?_
                  refine lv_bipush (v := nI 6) hx hb dX4_mixPlayer_99 (by decide) ?_
                  refine nv_icmp_gt (x := k + 1) (y := 6) (tgt := 121) hx hb dX4_mixPlayer_101 (by decide) (by omega) (by decide) (fun c_6 => ?_) (fun c_6 => ?_)
                  · have n_c_6 := Nat.not_le.mpr c_6
                    rw [hmx (by omega), show k = 6 from by omega, ← dgP_eq] at hP hD
                    have hP : va_P D vwCl (refO r th (nI sn) (nI ln) (nI pm) pn (nI sta) (nI (misM T p 12)) (dgP T p hs) :: zC K r T :: sC K r sv :: bC K r cs :: pC K r pf :: fC K r (faB T p 6 (dst T p 1)) :: Y) H := hP
                    have hD : va_D A (refO r th (nI sn) (nI ln) (nI pm) pn (nI sta) (nI (misM T p 12)) (dgP T p hs) :: zC K r T :: sC K r sv :: bC K r cs :: pC K r pf :: fC K r (faB T p 6 (dst T p 1)) :: Y) := hD
                    exact wr_vret hAe hP hD hS hx hb hr hk dX4_mixPlayer_121 ⟨Nat.le_of_ble_eq_true rfl, Nat.le_of_ble_eq_true rfl⟩
                  · have n_c_6 := Nat.not_lt.mpr c_6
                    refine lv_aload_n hx hb dX4_mixPlayer_104 rfl (lv_at hl 0 rfl) ?_
                    refine lv_aload_n hx hb dX4_mixPlayer_105 rfl (lv_at hl 0 rfl) ?_
                    refine lv_iload_n hx hb dX4_mixPlayer_106 rfl (lv_at hl 1 rfl) ?_
                    refine lv_iload_n hx hb dX4_mixPlayer_107 rfl (lv_at hl 2 rfl) ?_
                    refine wr_V (rest := [.ref (r 0)]) (ci := 4) (q0 := 0) ⟨hx, hb, hml, hown, hts⟩ hP hE hA hD hS (c_X4_bestOf l D K _ _ _ _ _ _ _ _ _ _ _ _ _ _ _ _ p (k + 1) hI (by omega) (by omega)) (cwV 2 hts gX4_mixPlayer_X4_bestOf rfl rfl rfl hd_X4_bestOf ⟨Nat.le_of_ble_eq_true rfl, Nat.le_of_ble_eq_true rfl⟩) rfl rfl rfl rfl hl.1 rfl (Nat.le_of_ble_eq_true rfl) dX4_mixPlayer_108 ⟨Nat.le_of_ble_eq_true rfl, Nat.le_of_ble_eq_true rfl⟩ (fun H locs hP hD hS => ?_)
                    have hP : va_P D vwCl (refO r th (nI sn) (nI ln) (nI pm) pn (nI sta) (nI (misM T p 12)) (mxN (fun k => oI (bdT T p (k + 1))) k (itN (fun k h => mxN (fun d => nI (whyT T p (hdT T p) (k + 1) d)) 4 h) 6 (31 * (31 * (mxN (ppT T p) 10 hs) + (oI (wyO (dst T p 0 44))).toInt64) + (oI (wyO (dst T p 1 44))).toInt64))) :: zC K r T :: sC K r sv :: bC K r cs :: pC K r pf :: fC K r ((bq T p (k + 1) (faB T p k (dst T p 1))).2.2.2) :: Y) H := hP
                    have hD : va_D A (refO r th (nI sn) (nI ln) (nI pm) pn (nI sta) (nI (misM T p 12)) (mxN (fun k => oI (bdT T p (k + 1))) k (itN (fun k h => mxN (fun d => nI (whyT T p (hdT T p) (k + 1) d)) 4 h) 6 (31 * (31 * (mxN (ppT T p) 10 hs) + (oI (wyO (dst T p 0 44))).toInt64) + (oI (wyO (dst T p 1 44))).toInt64))) :: zC K r T :: sC K r sv :: bC K r cs :: pC K r pf :: fC K r ((bq T p (k + 1) (faB T p k (dst T p 1))).2.2.2) :: Y) := hD
                    refine top_i (y := oI (bdT T p (k + 1))) (congrArg oI (bq_fa T p (k + 1) _)) ?_
                    refine lv_i2l (v := (oI (bdT T p (k + 1))).toInt64) hx hb dX4_mixPlayer_111 rfl ?_
                    refine wr_V (rest := []) (ci := 4) (q0 := 0) ⟨hx, hb, hml, hown, hts⟩ hP hE hA hD hS (c_X4_mix l D K _ _ _ _ _ _ _ _ _ _ _ _ _ _ _ _ ((oI (bdT T p (k + 1))).toInt64)) (cwV 1 hts gX4_mixPlayer_X4_mix rfl rfl rfl hd_X4_mix ⟨Nat.le_of_ble_eq_true rfl, Nat.le_of_ble_eq_true rfl⟩) rfl rfl rfl rfl hl.1 rfl (Nat.le_of_ble_eq_true rfl) dX4_mixPlayer_112 ⟨Nat.le_of_ble_eq_true rfl, Nat.le_of_ble_eq_true rfl⟩ (fun H locs hP hD hS => ?_)
                    have hP : va_P D vwCl (refO r th (nI sn) (nI ln) (nI pm) pn (nI sta) (nI (misM T p 12)) (31 * (mxN (fun k => oI (bdT T p (k + 1))) k (itN (fun k h => mxN (fun d => nI (whyT T p (hdT T p) (k + 1) d)) 4 h) 6 (31 * (31 * (mxN (ppT T p) 10 hs) + (oI (wyO (dst T p 0 44))).toInt64) + (oI (wyO (dst T p 1 44))).toInt64))) + ((oI (bdT T p (k + 1))).toInt64)) :: zC K r T :: sC K r sv :: bC K r cs :: pC K r pf :: fC K r ((bq T p (k + 1) (faB T p k (dst T p 1))).2.2.2) :: Y) H := hP
                    have hD : va_D A (refO r th (nI sn) (nI ln) (nI pm) pn (nI sta) (nI (misM T p 12)) (31 * (mxN (fun k => oI (bdT T p (k + 1))) k (itN (fun k h => mxN (fun d => nI (whyT T p (hdT T p) (k + 1) d)) 4 h) 6 (31 * (31 * (mxN (ppT T p) 10 hs) + (oI (wyO (dst T p 0 44))).toInt64) + (oI (wyO (dst T p 1 44))).toInt64))) + ((oI (bdT T p (k + 1))).toInt64)) :: zC K r T :: sC K r sv :: bC K r cs :: pC K r pf :: fC K r ((bq T p (k + 1) (faB T p k (dst T p 1))).2.2.2) :: Y) := hD
                    refine lv_iinc (v := nI (k + 1 + 1)) (lv' := [(2, .int (nI (k + 1 + 1))), (0, .ref (r 0)), (1, .int (nI p))]) hx hb dX4_mixPlayer_115 hl (k := 2) rfl (nI_add _ 1) (by decide) rfl (fun ls hl => ?_)
                    refine lv_goto (tgt := 98) hx hb dX4_mixPlayer_118 (by decide) ?_
                    have hP : va_P D vwCl (refO r th (nI sn) (nI ln) (nI pm) pn (nI sta) (nI (misM T p 12)) (mxN (fun k => oI (bdT T p (k + 1))) (k + 1) (itN (fun k h => mxN (fun d => nI (whyT T p (hdT T p) (k + 1) d)) 4 h) 6 (31 * (31 * (mxN (ppT T p) 10 hs) + (oI (wyO (dst T p 0 44))).toInt64) + (oI (wyO (dst T p 1 44))).toInt64))) :: zC K r T :: sC K r sv :: bC K r cs :: pC K r pf :: fC K r (faB T p (k + 1) (dst T p 1)) :: Y) H := by rw [faB_succ, mxN_succ (fun k => oI (bdT T p (k + 1))) k (itN (fun k h => mxN (fun d => nI (whyT T p (hdT T p) (k + 1) d)) 4 h) 6 (31 * (31 * (mxN (ppT T p) 10 hs) + (oI (wyO (dst T p 0 44))).toInt64) + (oI (wyO (dst T p 1 44))).toInt64))]; exact hP
                    have hD : va_D A (refO r th (nI sn) (nI ln) (nI pm) pn (nI sta) (nI (misM T p 12)) (mxN (fun k => oI (bdT T p (k + 1))) (k + 1) (itN (fun k h => mxN (fun d => nI (whyT T p (hdT T p) (k + 1) d)) 4 h) 6 (31 * (31 * (mxN (ppT T p) 10 hs) + (oI (wyO (dst T p 0 44))).toInt64) + (oI (wyO (dst T p 1 44))).toInt64))) :: zC K r T :: sC K r sv :: bC K r cs :: pC K r pf :: fC K r (faB T p (k + 1) (dst T p 1)) :: Y) := by rw [faB_succ, mxN_succ (fun k => oI (bdT T p (k + 1))) k (itN (fun k h => mxN (fun d => nI (whyT T p (hdT T p) (k + 1) d)) 4 h) 6 (31 * (31 * (mxN (ppT T p) 10 hs) + (oI (wyO (dst T p 0 44))).toInt64) + (oI (wyO (dst T p 1 44))).toInt64))]; exact hD
                    exact ih_98 (k + 1) (misM T p 12) (by omega) (fun _ => rfl) (by omega) _ _ hP hD hS _ rfl ls (lv_sub hl [1, 2, 0] rfl)
              rw [show k = 6 from by omega] at hP hD
              have hP : va_P D vwCl (refO r th (nI sn) (nI ln) (nI pm) pn (nI sta) (nI ms) (mxN (fun k => oI (bdT T p (k + 1))) 0 (itN (fun k h => mxN (fun d => nI (whyT T p (hdT T p) (k + 1) d)) 4 h) 6 (31 * (31 * (mxN (ppT T p) 10 hs) + (oI (wyO (dst T p 0 44))).toInt64) + (oI (wyO (dst T p 1 44))).toInt64))) :: zC K r T :: sC K r sv :: bC K r cs :: pC K r pf :: fC K r (faB T p 0 (dst T p 1)) :: Y) H := by rw [faB_zero, mxN_zero (fun k => oI (bdT T p (k + 1))) (itN (fun k h => mxN (fun d => nI (whyT T p (hdT T p) (k + 1) d)) 4 h) 6 (31 * (31 * (mxN (ppT T p) 10 hs) + (oI (wyO (dst T p 0 44))).toInt64) + (oI (wyO (dst T p 1 44))).toInt64))]; exact hP
              have hD : va_D A (refO r th (nI sn) (nI ln) (nI pm) pn (nI sta) (nI ms) (mxN (fun k => oI (bdT T p (k + 1))) 0 (itN (fun k h => mxN (fun d => nI (whyT T p (hdT T p) (k + 1) d)) 4 h) 6 (31 * (31 * (mxN (ppT T p) 10 hs) + (oI (wyO (dst T p 0 44))).toInt64) + (oI (wyO (dst T p 1 44))).toInt64))) :: zC K r T :: sC K r sv :: bC K r cs :: pC K r pf :: fC K r (faB T p 0 (dst T p 1)) :: Y) := by rw [faB_zero, mxN_zero (fun k => oI (bdT T p (k + 1))) (itN (fun k h => mxN (fun d => nI (whyT T p (hdT T p) (k + 1) d)) 4 h) 6 (31 * (31 * (mxN (ppT T p) 10 hs) + (oI (wyO (dst T p 0 44))).toInt64) + (oI (wyO (dst T p 1 44))).toInt64))]; exact hD
              exact loop_5 _ 0 ms (by decide) (fun q9 => absurd q9 (Nat.not_lt_zero _)) (Nat.lt_succ_self _) _ _ hP hD hS _ rfl ls (lv_sub hl [1, 2, 0] rfl)
            · have n_c_4 := Nat.not_lt.mpr c_4
              refine lv_iconst (v := nI 0) hx hb dX4_mixPlayer_59 (by decide) ?_
              refine lv_istore_n (lv' := [(3, .int (nI 0)), (0, .ref (r 0)), (1, .int (nI p)), (2, .int (nI (k + 1)))]) hx hb dX4_mixPlayer_60 rfl hl (by decide) rfl (fun ls hl => ?_)
              have loop_7 : ∀ (n_61 : Nat) (d : Nat), (d ≤ 4) → (4 - d) < n_61 → ∀ (H : Heap) (locs : List Loc), va_P D vwCl (refO r th (nI sn) (nI ln) (nI pm) pn (nI sta) (nI ms) (mxN (fun d => nI (whyT T p (hdT T p) (k + 1) d)) d (itN (fun k h => mxN (fun d => nI (whyT T p (hdT T p) (k + 1) d)) 4 h) k (31 * (31 * (mxN (ppT T p) 10 hs) + (oI (wyO (dst T p 0 44))).toInt64) + (oI (wyO (dst T p 1 44))).toInt64))) :: zC K r T :: sC K r sv :: bC K r cs :: pC K r pf :: fC K r (dst T p 1) :: Y) H → va_D A (refO r th (nI sn) (nI ln) (nI pm) pn (nI sta) (nI ms) (mxN (fun d => nI (whyT T p (hdT T p) (k + 1) d)) d (itN (fun k h => mxN (fun d => nI (whyT T p (hdT T p) (k + 1) d)) 4 h) k (31 * (31 * (mxN (ppT T p) 10 hs) + (oI (wyO (dst T p 0 44))).toInt64) + (oI (wyO (dst T p 1 44))).toInt64))) :: zC K r T :: sC K r sv :: bC K r cs :: pC K r pf :: fC K r (dst T p 1) :: Y) → va_S A st.heap H locs →  ∀ x_3 : Int32, x_3 = nI d → ∀ ls : Array Slot, lv_has ls 4 [(0, .ref (r 0)), (1, .int (nI p)), (2, .int (nI (k + 1))), (3, .int x_3)] → W pr l en (headSpec wsX4_mixPlayer ({ frames := 6, cells := 0, slots := 0, locals := 137 } : Room)).room st md ar bl mt co H locs 0 0 (MQ bl (wrQ D (refO r th (nI sn) (nI ln) (nI pm) pn (nI sta) (nI ms) hs :: zC K r T :: sC K r sv :: bC K r cs :: pC K r pf :: fC K r fa :: Y) (refO r th (nI sn) (nI ln) (nI pm) pn (nI sta) (nI (misM T p 12)) (dgP T p hs) :: zC K r T :: sC K r sv :: bC K r cs :: pC K r pf :: fC K r (faB T p 6 (dst T p 1)) :: Y) sz none) ar st 0 0 A) (F0 md 61 ls []) := by
                intro n_61
                induction n_61 with
                | zero => intro d _ hn_61; exact absurd hn_61 (Nat.not_lt_zero _)
                | succ n_61 ih_61 =>
                  intro d hd hn_61 H locs hP hD hS x_3 ex_3 ls hl
                  subst ex_3
                  have hl : lv_has ls 4 [(0, .ref (r 0)), (1, .int (nI p)), (2, .int (nI (k + 1))), (3, .int (nI d))] := hl
                  refine lv_iload_n hx hb dX4_mixPlayer_61 rfl (lv_at hl 3 rfl) ?_
                  refine lv_iconst (v := nI 4) hx hb dX4_mixPlayer_62 (by decide) ?_
                  refine nv_icmp_ge (x := d) (y := 4) (tgt := 90) hx hb dX4_mixPlayer_63 (by decide) (by omega) (by decide) (fun c_8 => ?_) (fun c_8 => ?_)
                  · have n_c_8 := Nat.not_lt.mpr c_8
                    refine lv_iinc (v := nI (k + 1 + 1)) (lv' := [(2, .int (nI (k + 1 + 1))), (0, .ref (r 0)), (1, .int (nI p)), (3, .int (nI d))]) hx hb dX4_mixPlayer_90 hl (k := 2) rfl (nI_add _ 1) (by decide) rfl (fun ls hl => ?_)
                    refine lv_goto (tgt := 53) hx hb dX4_mixPlayer_93 (by decide) ?_
                    rw [show d = 4 from by omega] at hP hD
                    have hP : va_P D vwCl (refO r th (nI sn) (nI ln) (nI pm) pn (nI sta) (nI ms) (itN (fun k h => mxN (fun d => nI (whyT T p (hdT T p) (k + 1) d)) 4 h) (k + 1) (31 * (31 * (mxN (ppT T p) 10 hs) + (oI (wyO (dst T p 0 44))).toInt64) + (oI (wyO (dst T p 1 44))).toInt64)) :: zC K r T :: sC K r sv :: bC K r cs :: pC K r pf :: fC K r (dst T p 1) :: Y) H := by rw [itN_succ (fun k h => mxN (fun d => nI (whyT T p (hdT T p) (k + 1) d)) 4 h) k (31 * (31 * (mxN (ppT T p) 10 hs) + (oI (wyO (dst T p 0 44))).toInt64) + (oI (wyO (dst T p 1 44))).toInt64)]; exact hP
                    have hD : va_D A (refO r th (nI sn) (nI ln) (nI pm) pn (nI sta) (nI ms) (itN (fun k h => mxN (fun d => nI (whyT T p (hdT T p) (k + 1) d)) 4 h) (k + 1) (31 * (31 * (mxN (ppT T p) 10 hs) + (oI (wyO (dst T p 0 44))).toInt64) + (oI (wyO (dst T p 1 44))).toInt64)) :: zC K r T :: sC K r sv :: bC K r cs :: pC K r pf :: fC K r (dst T p 1) :: Y) := by rw [itN_succ (fun k h => mxN (fun d => nI (whyT T p (hdT T p) (k + 1) d)) 4 h) k (31 * (31 * (mxN (ppT T p) 10 hs) + (oI (wyO (dst T p 0 44))).toInt64) + (oI (wyO (dst T p 1 44))).toInt64)]; exact hD
                    exact ih_53 (k + 1) (by omega) (by omega) _ _ hP hD hS _ rfl ls (lv_sub hl [1, 2, 0] rfl)
                  · have n_c_8 := Nat.not_le.mpr c_8
                    refine lv_aload_n hx hb dX4_mixPlayer_66 rfl (lv_at hl 0 rfl) ?_
                    refine lv_aload_n hx hb dX4_mixPlayer_67 rfl (lv_at hl 0 rfl) ?_
                    refine lv_iload_n hx hb dX4_mixPlayer_68 rfl (lv_at hl 1 rfl) ?_
                    refine lv_aload_n hx hb dX4_mixPlayer_69 rfl (lv_at hl 0 rfl) ?_
                    refine lv_iload_n hx hb dX4_mixPlayer_70 rfl (lv_at hl 1 rfl) ?_
                    refine lv_iconst (v := nI 1) hx hb dX4_mixPlayer_71 (by decide) ?_
                    refine rd_V (rest := [.int (nI p), .ref (r 0), .ref (r 0)]) (ci := 4) (q0 := 0) ⟨hx, hb, hml, hown, hts⟩ hP hE (c_X4_of l D K _ _ _ _ _ _ _ _ _ _ _ p 1 (by omega) (by omega)) (cwV 2 hts gX4_mixPlayer_X4_of rfl rfl rfl hd_X4_of ⟨Nat.le_of_ble_eq_true rfl, Nat.le_of_ble_eq_true rfl⟩) rfl rfl rfl rfl hl.1 rfl (Nat.le_of_ble_eq_true rfl) dX4_mixPlayer_72 ⟨Nat.le_of_ble_eq_true rfl, Nat.le_of_ble_eq_true rfl⟩ ?_
                    refine top_i (y := nI (hdT T p)) (((congrArg (zT T) (show 268 + 5 * p + 1 = 268 + 5 * p + 1 from by omega)).trans (zT_pp (w := 1) (by omega) (by decide))).trans (show T 6 p = nI (hdT T p) from eq_hd hI (by omega))) ?_
                    have hb_9 := hd_lt hI (show p < 4 by omega)
                    refine lv_iload_n hx hb dX4_mixPlayer_75 rfl (lv_at hl 2 rfl) ?_
                    refine lv_iload_n hx hb dX4_mixPlayer_76 rfl (lv_at hl 3 rfl) ?_
                    refine rd_V (rest := [.ref (r 0)]) (ci := 4) (q0 := 0) ⟨hx, hb, hml, hown, hts⟩ hP hE (c_X4_whyNot l D K _ _ _ _ _ _ _ _ _ _ _ p (hdT T p) (k + 1) d hI (by omega) (by omega) (by omega) (by omega)) (cwV 4 hts gX4_mixPlayer_X4_whyNot rfl rfl rfl hd_X4_whyNot ⟨Nat.le_of_ble_eq_true rfl, Nat.le_of_ble_eq_true rfl⟩) rfl rfl rfl rfl hl.1 rfl (Nat.le_of_ble_eq_true rfl) dX4_mixPlayer_77 ⟨Nat.le_of_ble_eq_true rfl, Nat.le_of_ble_eq_true rfl⟩ ?_
                    have hb_10 := why_lt T p (hdT T p) (k + 1) d
                    refine lv_i2l (v := (nI (whyT T p (hdT T p) (k + 1) d)).toInt64) hx hb dX4_mixPlayer_80 rfl ?_
                    refine wr_V (rest := []) (ci := 4) (q0 := 0) ⟨hx, hb, hml, hown, hts⟩ hP hE hA hD hS (c_X4_mix l D K _ _ _ _ _ _ _ _ _ _ _ _ _ _ _ _ ((nI (whyT T p (hdT T p) (k + 1) d)).toInt64)) (cwV 1 hts gX4_mixPlayer_X4_mix rfl rfl rfl hd_X4_mix ⟨Nat.le_of_ble_eq_true rfl, Nat.le_of_ble_eq_true rfl⟩) rfl rfl rfl rfl hl.1 rfl (Nat.le_of_ble_eq_true rfl) dX4_mixPlayer_81 ⟨Nat.le_of_ble_eq_true rfl, Nat.le_of_ble_eq_true rfl⟩ (fun H locs hP hD hS => ?_)
                    have hP : va_P D vwCl (refO r th (nI sn) (nI ln) (nI pm) pn (nI sta) (nI ms) (31 * (mxN (fun d => nI (whyT T p (hdT T p) (k + 1) d)) d (itN (fun k h => mxN (fun d => nI (whyT T p (hdT T p) (k + 1) d)) 4 h) k (31 * (31 * (mxN (ppT T p) 10 hs) + (oI (wyO (dst T p 0 44))).toInt64) + (oI (wyO (dst T p 1 44))).toInt64))) + ((nI (whyT T p (hdT T p) (k + 1) d)).toInt64)) :: zC K r T :: sC K r sv :: bC K r cs :: pC K r pf :: fC K r (dst T p 1) :: Y) H := hP
                    have hD : va_D A (refO r th (nI sn) (nI ln) (nI pm) pn (nI sta) (nI ms) (31 * (mxN (fun d => nI (whyT T p (hdT T p) (k + 1) d)) d (itN (fun k h => mxN (fun d => nI (whyT T p (hdT T p) (k + 1) d)) 4 h) k (31 * (31 * (mxN (ppT T p) 10 hs) + (oI (wyO (dst T p 0 44))).toInt64) + (oI (wyO (dst T p 1 44))).toInt64))) + ((nI (whyT T p (hdT T p) (k + 1) d)).toInt64)) :: zC K r T :: sC K r sv :: bC K r cs :: pC K r pf :: fC K r (dst T p 1) :: Y) := hD
                    refine lv_iinc (v := nI (d + 1)) (lv' := [(3, .int (nI (d + 1))), (0, .ref (r 0)), (1, .int (nI p)), (2, .int (nI (k + 1)))]) hx hb dX4_mixPlayer_84 hl (k := 3) rfl (nI_add _ 1) (by decide) rfl (fun ls hl => ?_)
                    refine lv_goto (tgt := 61) hx hb dX4_mixPlayer_87 (by decide) ?_
                    have hP : va_P D vwCl (refO r th (nI sn) (nI ln) (nI pm) pn (nI sta) (nI ms) (mxN (fun d => nI (whyT T p (hdT T p) (k + 1) d)) (d + 1) (itN (fun k h => mxN (fun d => nI (whyT T p (hdT T p) (k + 1) d)) 4 h) k (31 * (31 * (mxN (ppT T p) 10 hs) + (oI (wyO (dst T p 0 44))).toInt64) + (oI (wyO (dst T p 1 44))).toInt64))) :: zC K r T :: sC K r sv :: bC K r cs :: pC K r pf :: fC K r (dst T p 1) :: Y) H := by rw [mxN_succ (fun d => nI (whyT T p (hdT T p) (k + 1) d)) d (itN (fun k h => mxN (fun d => nI (whyT T p (hdT T p) (k + 1) d)) 4 h) k (31 * (31 * (mxN (ppT T p) 10 hs) + (oI (wyO (dst T p 0 44))).toInt64) + (oI (wyO (dst T p 1 44))).toInt64))]; exact hP
                    have hD : va_D A (refO r th (nI sn) (nI ln) (nI pm) pn (nI sta) (nI ms) (mxN (fun d => nI (whyT T p (hdT T p) (k + 1) d)) (d + 1) (itN (fun k h => mxN (fun d => nI (whyT T p (hdT T p) (k + 1) d)) 4 h) k (31 * (31 * (mxN (ppT T p) 10 hs) + (oI (wyO (dst T p 0 44))).toInt64) + (oI (wyO (dst T p 1 44))).toInt64))) :: zC K r T :: sC K r sv :: bC K r cs :: pC K r pf :: fC K r (dst T p 1) :: Y) := by rw [mxN_succ (fun d => nI (whyT T p (hdT T p) (k + 1) d)) d (itN (fun k h => mxN (fun d => nI (whyT T p (hdT T p) (k + 1) d)) 4 h) k (31 * (31 * (mxN (ppT T p) 10 hs) + (oI (wyO (dst T p 0 44))).toInt64) + (oI (wyO (dst T p 1 44))).toInt64))]; exact hD
                    exact ih_61 (d + 1) (by omega) (by omega) _ _ hP hD hS _ rfl ls (lv_sub hl [1, 2, 3, 0] rfl)
              have hP : va_P D vwCl (refO r th (nI sn) (nI ln) (nI pm) pn (nI sta) (nI ms) (mxN (fun d => nI (whyT T p (hdT T p) (k + 1) d)) 0 (itN (fun k h => mxN (fun d => nI (whyT T p (hdT T p) (k + 1) d)) 4 h) k (31 * (31 * (mxN (ppT T p) 10 hs) + (oI (wyO (dst T p 0 44))).toInt64) + (oI (wyO (dst T p 1 44))).toInt64))) :: zC K r T :: sC K r sv :: bC K r cs :: pC K r pf :: fC K r (dst T p 1) :: Y) H := by rw [mxN_zero (fun d => nI (whyT T p (hdT T p) (k + 1) d)) (itN (fun k h => mxN (fun d => nI (whyT T p (hdT T p) (k + 1) d)) 4 h) k (31 * (31 * (mxN (ppT T p) 10 hs) + (oI (wyO (dst T p 0 44))).toInt64) + (oI (wyO (dst T p 1 44))).toInt64))]; exact hP
              have hD : va_D A (refO r th (nI sn) (nI ln) (nI pm) pn (nI sta) (nI ms) (mxN (fun d => nI (whyT T p (hdT T p) (k + 1) d)) 0 (itN (fun k h => mxN (fun d => nI (whyT T p (hdT T p) (k + 1) d)) 4 h) k (31 * (31 * (mxN (ppT T p) 10 hs) + (oI (wyO (dst T p 0 44))).toInt64) + (oI (wyO (dst T p 1 44))).toInt64))) :: zC K r T :: sC K r sv :: bC K r cs :: pC K r pf :: fC K r (dst T p 1) :: Y) := by rw [mxN_zero (fun d => nI (whyT T p (hdT T p) (k + 1) d)) (itN (fun k h => mxN (fun d => nI (whyT T p (hdT T p) (k + 1) d)) 4 h) k (31 * (31 * (mxN (ppT T p) 10 hs) + (oI (wyO (dst T p 0 44))).toInt64) + (oI (wyO (dst T p 1 44))).toInt64))]; exact hD
              exact loop_7 _ 0 (by decide) (Nat.lt_succ_self _) _ _ hP hD hS _ rfl ls (lv_sub hl [1, 2, 3, 0] rfl)
        rw [show i = 10 from by omega] at hP hD
        have hP : va_P D vwCl (refO r th (nI sn) (nI ln) (nI pm) pn (nI sta) (nI ms) (itN (fun k h => mxN (fun d => nI (whyT T p (hdT T p) (k + 1) d)) 4 h) 0 (31 * (31 * (mxN (ppT T p) 10 hs) + (oI (wyO (dst T p 0 44))).toInt64) + (oI (wyO (dst T p 1 44))).toInt64)) :: zC K r T :: sC K r sv :: bC K r cs :: pC K r pf :: fC K r (dst T p 1) :: Y) H := by rw [itN_zero (fun k h => mxN (fun d => nI (whyT T p (hdT T p) (k + 1) d)) 4 h) (31 * (31 * (mxN (ppT T p) 10 hs) + (oI (wyO (dst T p 0 44))).toInt64) + (oI (wyO (dst T p 1 44))).toInt64)]; exact hP
        have hD : va_D A (refO r th (nI sn) (nI ln) (nI pm) pn (nI sta) (nI ms) (itN (fun k h => mxN (fun d => nI (whyT T p (hdT T p) (k + 1) d)) 4 h) 0 (31 * (31 * (mxN (ppT T p) 10 hs) + (oI (wyO (dst T p 0 44))).toInt64) + (oI (wyO (dst T p 1 44))).toInt64)) :: zC K r T :: sC K r sv :: bC K r cs :: pC K r pf :: fC K r (dst T p 1) :: Y) := by rw [itN_zero (fun k h => mxN (fun d => nI (whyT T p (hdT T p) (k + 1) d)) 4 h) (31 * (31 * (mxN (ppT T p) 10 hs) + (oI (wyO (dst T p 0 44))).toInt64) + (oI (wyO (dst T p 1 44))).toInt64)]; exact hD
        exact loop_3 _ 0 (by decide) (Nat.lt_succ_self _) _ _ hP hD hS _ rfl ls (lv_sub hl [1, 2, 0] rfl)
      · have n_c_2 := Nat.not_lt.mpr c_2
        refine lv_aload_n hx hb dX4_mixPlayer_8 rfl (lv_at hl 0 rfl) ?_
        refine lv_aload_n hx hb dX4_mixPlayer_9 rfl (lv_at hl 0 rfl) ?_
        refine lv_iload_n hx hb dX4_mixPlayer_10 rfl (lv_at hl 1 rfl) ?_
        refine lv_iload_n hx hb dX4_mixPlayer_11 rfl (lv_at hl 2 rfl) ?_
        refine rd_V (rest := [.ref (r 0)]) (ci := 4) (q0 := 0) ⟨hx, hb, hml, hown, hts⟩ hP hE (c_X4_toldPlayer l D K _ _ _ _ _ _ _ _ _ _ _ p i hI (by omega) (by omega)) (cwV 2 hts gX4_mixPlayer_X4_toldPlayer rfl rfl rfl hd_X4_toldPlayer ⟨Nat.le_of_ble_eq_true rfl, Nat.le_of_ble_eq_true rfl⟩) rfl rfl rfl rfl hl.1 rfl (Nat.le_of_ble_eq_true rfl) dX4_mixPlayer_12 ⟨Nat.le_of_ble_eq_true rfl, Nat.le_of_ble_eq_true rfl⟩ ?_
        refine lv_i2l (v := (ppT T p i).toInt64) hx hb dX4_mixPlayer_15 rfl ?_
        refine wr_V (rest := []) (ci := 4) (q0 := 0) ⟨hx, hb, hml, hown, hts⟩ hP hE hA hD hS (c_X4_mix l D K _ _ _ _ _ _ _ _ _ _ _ _ _ _ _ _ ((ppT T p i).toInt64)) (cwV 1 hts gX4_mixPlayer_X4_mix rfl rfl rfl hd_X4_mix ⟨Nat.le_of_ble_eq_true rfl, Nat.le_of_ble_eq_true rfl⟩) rfl rfl rfl rfl hl.1 rfl (Nat.le_of_ble_eq_true rfl) dX4_mixPlayer_16 ⟨Nat.le_of_ble_eq_true rfl, Nat.le_of_ble_eq_true rfl⟩ (fun H locs hP hD hS => ?_)
        have hP : va_P D vwCl (refO r th (nI sn) (nI ln) (nI pm) pn (nI sta) (nI ms) (31 * (mxN (ppT T p) i hs) + ((ppT T p i).toInt64)) :: zC K r T :: sC K r sv :: bC K r cs :: pC K r pf :: fC K r fa :: Y) H := hP
        have hD : va_D A (refO r th (nI sn) (nI ln) (nI pm) pn (nI sta) (nI ms) (31 * (mxN (ppT T p) i hs) + ((ppT T p i).toInt64)) :: zC K r T :: sC K r sv :: bC K r cs :: pC K r pf :: fC K r fa :: Y) := hD
        refine lv_iinc (v := nI (i + 1)) (lv' := [(2, .int (nI (i + 1))), (0, .ref (r 0)), (1, .int (nI p))]) hx hb dX4_mixPlayer_19 hl (k := 2) rfl (nI_add _ 1) (by decide) rfl (fun ls hl => ?_)
        refine lv_goto (tgt := 2) hx hb dX4_mixPlayer_22 (by decide) ?_
        have hP : va_P D vwCl (refO r th (nI sn) (nI ln) (nI pm) pn (nI sta) (nI ms) (mxN (ppT T p) (i + 1) hs) :: zC K r T :: sC K r sv :: bC K r cs :: pC K r pf :: fC K r fa :: Y) H := by rw [mxN_succ (ppT T p) i hs]; exact hP
        have hD : va_D A (refO r th (nI sn) (nI ln) (nI pm) pn (nI sta) (nI ms) (mxN (ppT T p) (i + 1) hs) :: zC K r T :: sC K r sv :: bC K r cs :: pC K r pf :: fC K r fa :: Y) := by rw [mxN_succ (ppT T p) i hs]; exact hD
        exact ih_2 (i + 1) (by omega) (by omega) _ _ hP hD hS _ rfl ls (lv_sub hl [1, 2, 0] rfl)
  have hP : va_P D vwCl (refO r th (nI sn) (nI ln) (nI pm) pn (nI sta) (nI ms) (mxN (ppT T p) 0 hs) :: zC K r T :: sC K r sv :: bC K r cs :: pC K r pf :: fC K r fa :: Y) H := by rw [mxN_zero (ppT T p) hs]; exact hP
  have hD : va_D A (refO r th (nI sn) (nI ln) (nI pm) pn (nI sta) (nI ms) (mxN (ppT T p) 0 hs) :: zC K r T :: sC K r sv :: bC K r cs :: pC K r pf :: fC K r fa :: Y) := by rw [mxN_zero (ppT T p) hs]; exact hD
  exact loop_1 _ 0 (by decide) (Nat.lt_succ_self _) _ _ hP hD hS _ rfl ls (lv_sub hl [1, 2, 0] rfl)
set_option maxHeartbeats 4000000 in
set_option maxRecDepth 100000 in
theorem c_X4_share (l : Launch) (D : va_G) (K : Nat → ClassId) (r : Nat → Nat) (th sm ty pm pn sta ms : Int32) (hs : Int64) (T : TW) (Y : va_W)  (hI : Inv T)  : Rd l yX4_share wsX4_share ({ frames := 3, cells := 0, slots := 0, locals := 58 } : Room) D K (refO r th sm ty pm pn sta ms hs :: zC K r T :: Y) [.ref (r 0)] (.double (shD (swT T 2) (swT T 1))) := by
  refine rd_intro (cc := cX4_share) (maxL := 1) (ret := (some .double)) (by decide) rfl (Nat.le_of_ble_eq_true rfl) ?_
  intro pr en st md ar bl mt co hx hb hml hr hts hown hk hP hE ls hl
  have hown : st.vm.findClass RX4 = some md.cls := hown
  have hl : lv_has ls 1 [(0, .ref (r 0))] := hl
  have h21 := sw_21 T
  have h1 := sw_pos hI
  have h80 := sw_le T 1
  have hck := chk1_all h1 h80 h21
  refine lv_aload_n hx hb dX4_share_0 rfl (lv_at hl 0 rfl) ?_
  refine lv_iconst (v := nI 2) hx hb dX4_share_1 (by decide) ?_
  refine rd_V (rest := []) (ci := 4) (q0 := 0) ⟨hx, hb, hml, hown, hts⟩ hP hE (c_X4_squaresWith l D K _ _ _ _ _ _ _ _ _ _ _ 2 hI (by omega)) (cwV 1 hts gX4_share_X4_squaresWith rfl rfl rfl hd_X4_squaresWith ⟨Nat.le_of_ble_eq_true rfl, Nat.le_of_ble_eq_true rfl⟩) rfl rfl rfl rfl hl.1 rfl (Nat.le_of_ble_eq_true rfl) dX4_share_2 ⟨Nat.zero_le _, Nat.zero_le _⟩ ?_
  have hb_1 := sw_le T 2
  refine lv_i2d hx hb dX4_share_5 ?_
  refine lv_aload_n hx hb dX4_share_6 rfl (lv_at hl 0 rfl) ?_
  refine lv_iconst (v := nI 1) hx hb dX4_share_7 (by decide) ?_
  refine rd_V (rest := [.double (FP.i2d (nI (swT T 2)))]) (ci := 4) (q0 := 0) ⟨hx, hb, hml, hown, hts⟩ hP hE (c_X4_squaresWith l D K _ _ _ _ _ _ _ _ _ _ _ 1 hI (by omega)) (cwV 1 hts gX4_share_X4_squaresWith rfl rfl rfl hd_X4_squaresWith ⟨Nat.le_of_ble_eq_true rfl, Nat.le_of_ble_eq_true rfl⟩) rfl rfl rfl rfl hl.1 rfl (Nat.le_of_ble_eq_true rfl) dX4_share_8 ⟨Nat.zero_le _, Nat.zero_le _⟩ ?_
  have hb_2 := sw_le T 1
  refine lv_i2d hx hb dX4_share_11 ?_
  refine lv_ddiv hx hb dX4_share_12 (ck_n hck) ?_
  exact rd_dret hx hb hr hk dX4_share_13 (rfl)
set_option maxHeartbeats 4000000 in
set_option maxRecDepth 100000 in
theorem c_X4_bitsOf (l : Launch) (D : va_G) (K : Nat → ClassId) (ws : va_W) (k m : Nat) (hm1 : 1 ≤ m) (hm80 : m ≤ 80) (hkm : k ≤ m) : Rd l yX4_bitsOf wsX4_bitsOf ({ frames := 1, cells := 0, slots := 0, locals := 12 } : Room) D K (ws) [.double (shD k m)] (.long (shB k m)) := by
  refine rd_intro (cc := cX4_bitsOf) (maxL := 6) (ret := (some .long)) (by decide) rfl (Nat.le_of_ble_eq_true rfl) ?_
  intro pr en st md ar bl mt co hx hb hml hr hts hown hk hP hE ls hl
  have hown : st.vm.findClass RX4 = some md.cls := hown
  have hl : lv_has ls 6 [(0, .double (shD k m))] := hl
  have hck := chk1_all hm1 hm80 hkm
  have hsh : shB 0 m = 0 := rfl
  have C204 : (Cond.constantLong RX4 204 (1023)).before ar st = true := hts _ (List.mem_of_getElem? (i := 1) rfl)
  have C206 : (Cond.constantDouble RX4 206 (4611686018427387904)).before ar st = true := hts _ (List.mem_of_getElem? (i := 2) rfl)
  have C208 : (Cond.constantDouble RX4 208 (4841369599423283200)).before ar st = true := hts _ (List.mem_of_getElem? (i := 3) rfl)
  have C210 : (Cond.constantLong RX4 210 (4503599627370496)).before ar st = true := hts _ (List.mem_of_getElem? (i := 4) rfl)
  refine lv_dload_n hx hb dX4_bitsOf_0 rfl (lv_at hl 0 rfl) ?_
  refine lv_dconst0 hx hb dX4_bitsOf_1 ?_
  refine lv_dcmp hx hb dX4_bitsOf_2 ?_
  refine lv_if_ne (x := Op.cmpValue (FP.dcmp (shD k m) FP.dconst0) .l) (tgt := 8) hx hb dX4_bitsOf_3 (by decide) (fun c_1 => ?_) (fun c_1 => ?_)
  · have hk0 : ¬ k = 0 := fun q => by subst q; exact c_1 (ck_0 hck).1
    refine lv_dload_n hx hb dX4_bitsOf_8 rfl (lv_at hl 0 rfl) ?_
    refine lv_dstore_n (lv' := [(2, .double (shD k m)), (0, .double (shD k m))]) hx hb dX4_bitsOf_9 rfl hl (by decide) rfl (fun ls hl => ?_)
    refine lv_ldc2 (v := 1023) hx hb hown C204 dX4_bitsOf_10 ?_
    refine lv_lstore (lv' := [(4, .long 1023), (2, .double (shD k m)), (0, .double (shD k m))]) hx hb dX4_bitsOf_13 hl (by decide) rfl (fun ls hl => ?_)
    refine lv_dload_n hx hb dX4_bitsOf_15 rfl (lv_at hl 1 rfl) ?_
    refine lv_ldc2d (v := 4611686018427387904) hx hb hown C206 dX4_bitsOf_16 ?_
    refine lv_dcmp hx hb dX4_bitsOf_19 ?_
    refine lv_if_lt (x := Op.cmpValue (FP.dcmp (shD k m) 4611686018427387904) .l) (tgt := 38) hx hb dX4_bitsOf_20 (by decide) (fun c_2 => ?_) (fun c_2 => ?_)
    · have loop_3 : ∀ (n_38 : Nat) (j : Nat), (j ≤ shJ k m) → (shJ k m - j) < n_38 →  ∀ x_2 : UInt64, x_2 = dbl (shD k m) j → ∀ x_4 : Int64, x_4 = 1023 - (nI j).toInt64 → ∀ ls : Array Slot, lv_has ls 6 [(2, .double x_2), (4, .long x_4)] → W pr l en (headSpec wsX4_bitsOf ({ frames := 1, cells := 0, slots := 0, locals := 12 } : Room)).room st md ar bl mt co st.heap [] 0 0 (MQ bl (rdQ (.long (shB k m))) ar st 0 0 (fun _ => False)) (F0 md 38 ls []) := by
        intro n_38
        induction n_38 with
        | zero => intro j _ hn_38; exact absurd hn_38 (Nat.not_lt_zero _)
        | succ n_38 ih_38 =>
          intro j hj hn_38 x_2 ex_2 x_4 ex_4 ls hl
          subst ex_2
          subst ex_4
          have hl : lv_has ls 6 [(2, .double (dbl (shD k m) j)), (4, .long (1023 - (nI j).toInt64))] := hl
          have hj7 := (ck_k hk0 hck).1
          refine lv_dload_n hx hb dX4_bitsOf_38 rfl (lv_at hl 0 rfl) ?_
          refine lv_dconst1 hx hb dX4_bitsOf_39 ?_
          refine lv_dcmp hx hb dX4_bitsOf_40 ?_
          refine lv_if_ge (x := Op.cmpValue (FP.dcmp (dbl (shD k m) j) FP.dconst1) .g) (tgt := 59) hx hb dX4_bitsOf_41 (by decide) (fun c_4 => ?_) (fun c_4 => ?_)
          · have hst := ck_stop hk0 hck hj c_4
            refine lv_lload hx hb dX4_bitsOf_59 (lv_at hl 1 rfl) ?_
            refine lv_bipush (v := nI 52) hx hb dX4_bitsOf_61 (by decide) ?_
            refine lv_lshl (v := (1023 - (nI j).toInt64) <<< ((nI 52).toInt64 &&& 63)) hx hb dX4_bitsOf_63 rfl ?_
            refine lv_dload_n hx hb dX4_bitsOf_64 rfl (lv_at hl 0 rfl) ?_
            refine lv_ldc2d (v := 4841369599423283200) hx hb hown C208 dX4_bitsOf_65 ?_
            refine lv_dmul hx hb dX4_bitsOf_68 (by rw [ck_stop hk0 hck hj c_4]; exact isN_vf (ck_k hk0 hck).2.2.2.2.2.2.2.1) ?_
            refine lv_d2l hx hb dX4_bitsOf_69 ?_
            refine lv_ladd (x := (1023 - (nI j).toInt64) <<< ((nI 52).toInt64 &&& 63)) (y := FP.d2l (FP.dmul (dbl (shD k m) j) 4841369599423283200)) hx hb dX4_bitsOf_70 ?_
            refine lv_ldc2 (v := 4503599627370496) hx hb hown C210 dX4_bitsOf_71 ?_
            refine lv_lsub (x := ((1023 - (nI j).toInt64) <<< ((nI 52).toInt64 &&& 63)) + (FP.d2l (FP.dmul (dbl (shD k m) j) 4841369599423283200))) (y := 4503599627370496) hx hb dX4_bitsOf_74 ?_
            exact rd_lret hx hb hr hk dX4_bitsOf_75 (by rw [ck_stop hk0 hck hj c_4]; exact (ck_k hk0 hck).2.2.2.2.2.2.2.2)
          · have hgo := ck_go hk0 hck hj c_4
            refine lv_dload_n hx hb dX4_bitsOf_44 rfl (lv_at hl 0 rfl) ?_
            refine lv_ldc2d (v := 4611686018427387904) hx hb hown C206 dX4_bitsOf_45 ?_
            refine lv_dmul hx hb dX4_bitsOf_48 (ck_dmul hk0 hck (ck_go hk0 hck hj c_4)) ?_
            refine lv_dstore_n (lv' := [(2, .double (FP.dmul (dbl (shD k m) j) 4611686018427387904)), (4, .long (1023 - (nI j).toInt64))]) hx hb dX4_bitsOf_49 rfl hl (by decide) rfl (fun ls hl => ?_)
            refine lv_lload hx hb dX4_bitsOf_50 (lv_at hl 1 rfl) ?_
            refine lv_lconst (v := 1) hx hb dX4_bitsOf_52 (by decide) ?_
            refine lv_lsub (x := 1023 - (nI j).toInt64) (y := 1) hx hb dX4_bitsOf_53 ?_
            refine lv_lstore (lv' := [(4, .long ((1023 - (nI j).toInt64) - 1)), (2, .double (FP.dmul (dbl (shD k m) j) 4611686018427387904))]) hx hb dX4_bitsOf_54 hl (by decide) rfl (fun ls hl => ?_)
            refine lv_goto (tgt := 38) hx hb dX4_bitsOf_56 (by decide) ?_
            exact ih_38 (j + 1) (ck_go hk0 hck hj c_4) (by omega) _ rfl _ (ex_dn (by have := (ck_k hk0 hck).1; omega)) ls (lv_sub hl [1, 0] rfl)
      exact loop_3 _ 0 (Nat.zero_le _) (Nat.lt_succ_self _) _ rfl _ rfl ls (lv_sub hl [1, 0] rfl)
    exact absurd (ck_k hk0 hck).2.2.2.1 c_2
  · have hz0 : k = 0 := Decidable.byContradiction fun q => (ck_k q hck).2.1 c_1
    refine lv_lconst (v := 0) hx hb dX4_bitsOf_6 (by decide) ?_
    exact rd_lret hx hb hr hk dX4_bitsOf_7 (by subst hz0; rfl)
set_option maxHeartbeats 4000000 in
set_option maxRecDepth 100000 in
theorem c_X3_bitsOfShare (l : Launch) (D : va_G) (K : Nat → ClassId) (ws : va_W) (k m : Nat) (hm1 : 1 ≤ m) (hm80 : m ≤ 80) (hkm : k ≤ m) : Rd l yX3_bitsOfShare wsX3_bitsOfShare ({ frames := 1, cells := 0, slots := 0, locals := 12 } : Room) D K (ws) [.double (shD k m)] (.long (shB k m)) := by
  refine rd_intro (cc := cX3_bitsOfShare) (maxL := 7) (ret := (some .long)) (by decide) rfl (Nat.le_of_ble_eq_true rfl) ?_
  intro pr en st md ar bl mt co hx hb hml hr hts hown hk hP hE ls hl
  have hown : st.vm.findClass RX3 = some md.cls := hown
  have hl : lv_has ls 7 [(0, .double (shD k m))] := hl
  have hck := chk1_all hm1 hm80 hkm
  have hsh : shB 0 m = 0 := rfl
  have C256 : (Cond.constantLong RX3 256 (1023)).before ar st = true := hts _ (List.mem_of_getElem? (i := 1) rfl)
  have C260 : (Cond.constantDouble RX3 260 (4841369599423283200)).before ar st = true := hts _ (List.mem_of_getElem? (i := 3) rfl)
  have C258 : (Cond.constantDouble RX3 258 (4611686018427387904)).before ar st = true := hts _ (List.mem_of_getElem? (i := 2) rfl)
  refine lv_dload_n hx hb dX3_bitsOfShare_0 rfl (lv_at hl 0 rfl) ?_
  refine lv_dconst0 hx hb dX3_bitsOfShare_1 ?_
  refine lv_dcmp hx hb dX3_bitsOfShare_2 ?_
  refine lv_if_gt (x := Op.cmpValue (FP.dcmp (shD k m) FP.dconst0) .g) (tgt := 8) hx hb dX3_bitsOfShare_3 (by decide) (fun c_1 => ?_) (fun c_1 => ?_)
  · have hk0 : ¬ k = 0 := fun q => by subst q; exact absurd c_1 (i_le_nlt (ck_0 hck).2)
    refine lv_dload_n hx hb dX3_bitsOfShare_8 rfl (lv_at hl 0 rfl) ?_
    refine lv_dstore_n (lv' := [(2, .double (shD k m)), (0, .double (shD k m))]) hx hb dX3_bitsOfShare_9 rfl hl (by decide) rfl (fun ls hl => ?_)
    refine lv_ldc2 (v := 1023) hx hb hown C256 dX3_bitsOfShare_10 ?_
    refine lv_lstore (lv' := [(4, .long 1023), (2, .double (shD k m)), (0, .double (shD k m))]) hx hb dX3_bitsOfShare_13 hl (by decide) rfl (fun ls hl => ?_)
    refine lv_iconst (v := nI 0) hx hb dX3_bitsOfShare_15 (by decide) ?_
    refine lv_istore (lv' := [(6, .int (nI 0)), (4, .long 1023), (2, .double (shD k m)), (0, .double (shD k m))]) hx hb dX3_bitsOfShare_16 hl (by decide) rfl (fun ls hl => ?_)
    have loop_2 : ∀ (n_18 : Nat) (j : Nat), (j ≤ shJ k m) → (shJ k m - j) < n_18 →  ∀ x_2 : UInt64, x_2 = dbl (shD k m) j → ∀ x_4 : Int64, x_4 = 1023 - (nI j).toInt64 → ∀ x_6 : Int32, x_6 = nI j → ∀ ls : Array Slot, lv_has ls 7 [(2, .double x_2), (4, .long x_4), (6, .int x_6)] → W pr l en (headSpec wsX3_bitsOfShare ({ frames := 1, cells := 0, slots := 0, locals := 12 } : Room)).room st md ar bl mt co st.heap [] 0 0 (MQ bl (rdQ (.long (shB k m))) ar st 0 0 (fun _ => False)) (F0 md 18 ls []) := by
      intro n_18
      induction n_18 with
      | zero => intro j _ hn_18; exact absurd hn_18 (Nat.not_lt_zero _)
      | succ n_18 ih_18 =>
        intro j hj hn_18 x_2 ex_2 x_4 ex_4 x_6 ex_6 ls hl
        subst ex_2
        subst ex_4
        subst ex_6
        have hl : lv_has ls 7 [(2, .double (dbl (shD k m) j)), (4, .long (1023 - (nI j).toInt64)), (6, .int (nI j))] := hl
        have hj7 := (ck_k hk0 hck).1
        refine lv_iload hx hb dX3_bitsOfShare_18 (lv_at hl 2 rfl) ?_
        refine lv_sipush (v := nI 1022) hx hb dX3_bitsOfShare_20 (by decide) ?_
        refine nv_icmp_ge (x := j) (y := 1022) (tgt := 50) hx hb dX3_bitsOfShare_23 (by decide) (by omega) (by decide) (fun c_3 => ?_) (fun c_3 => ?_)
        · exact absurd (ck_k hk0 hck).1 (by omega)
        have n_c_3 := Nat.not_le.mpr c_3
        refine lv_dload_n hx hb dX3_bitsOfShare_26 rfl (lv_at hl 0 rfl) ?_
        refine lv_dconst1 hx hb dX3_bitsOfShare_27 ?_
        refine lv_dcmp hx hb dX3_bitsOfShare_28 ?_
        refine lv_if_ge (x := Op.cmpValue (FP.dcmp (dbl (shD k m) j) FP.dconst1) .g) (tgt := 50) hx hb dX3_bitsOfShare_29 (by decide) (fun c_4 => ?_) (fun c_4 => ?_)
        · have hst := ck_stop hk0 hck hj c_4
          refine lv_lload hx hb dX3_bitsOfShare_50 (lv_at hl 1 rfl) ?_
          refine lv_bipush (v := nI 52) hx hb dX3_bitsOfShare_52 (by decide) ?_
          refine lv_lshl (v := (1023 - (nI j).toInt64) <<< ((nI 52).toInt64 &&& 63)) hx hb dX3_bitsOfShare_54 rfl ?_
          refine lv_dload_n hx hb dX3_bitsOfShare_55 rfl (lv_at hl 0 rfl) ?_
          refine lv_dconst1 hx hb dX3_bitsOfShare_56 ?_
          refine lv_dsub hx hb dX3_bitsOfShare_57 (by rw [ck_stop hk0 hck hj c_4]; exact isN_vf (ck_k hk0 hck).2.2.2.2.2.1) ?_
          refine lv_ldc2d (v := 4841369599423283200) hx hb hown C260 dX3_bitsOfShare_58 ?_
          refine lv_dmul hx hb dX3_bitsOfShare_61 (by rw [ck_stop hk0 hck hj c_4]; exact isN_vf (ck_k hk0 hck).2.2.2.2.2.2.1) ?_
          refine lv_d2l hx hb dX3_bitsOfShare_62 ?_
          refine lv_ladd (x := (1023 - (nI j).toInt64) <<< ((nI 52).toInt64 &&& 63)) (y := FP.d2l (FP.dmul (FP.dsub (dbl (shD k m) j) FP.dconst1) 4841369599423283200)) hx hb dX3_bitsOfShare_63 ?_
          exact rd_lret hx hb hr hk dX3_bitsOfShare_64 (by rw [ck_stop hk0 hck hj c_4, shB, if_neg hk0])
        · have hgo := ck_go hk0 hck hj c_4
          refine lv_dload_n hx hb dX3_bitsOfShare_32 rfl (lv_at hl 0 rfl) ?_
          refine lv_ldc2d (v := 4611686018427387904) hx hb hown C258 dX3_bitsOfShare_33 ?_
          refine lv_dmul hx hb dX3_bitsOfShare_36 (ck_dmul hk0 hck (ck_go hk0 hck hj c_4)) ?_
          refine lv_dstore_n (lv' := [(2, .double (FP.dmul (dbl (shD k m) j) 4611686018427387904)), (4, .long (1023 - (nI j).toInt64)), (6, .int (nI j))]) hx hb dX3_bitsOfShare_37 rfl hl (by decide) rfl (fun ls hl => ?_)
          refine lv_lload hx hb dX3_bitsOfShare_38 (lv_at hl 1 rfl) ?_
          refine lv_lconst (v := 1) hx hb dX3_bitsOfShare_40 (by decide) ?_
          refine lv_lsub (x := 1023 - (nI j).toInt64) (y := 1) hx hb dX3_bitsOfShare_41 ?_
          refine lv_lstore (lv' := [(4, .long ((1023 - (nI j).toInt64) - 1)), (2, .double (FP.dmul (dbl (shD k m) j) 4611686018427387904)), (6, .int (nI j))]) hx hb dX3_bitsOfShare_42 hl (by decide) rfl (fun ls hl => ?_)
          refine lv_iinc (v := nI (j + 1)) (lv' := [(6, .int (nI (j + 1))), (4, .long ((1023 - (nI j).toInt64) - 1)), (2, .double (FP.dmul (dbl (shD k m) j) 4611686018427387904))]) hx hb dX3_bitsOfShare_44 hl (k := 2) rfl (nI_add _ 1) (by decide) rfl (fun ls hl => ?_)
          refine lv_goto (tgt := 18) hx hb dX3_bitsOfShare_47 (by decide) ?_
          exact ih_18 (j + 1) (ck_go hk0 hck hj c_4) (by omega) _ rfl _ (ex_dn (by have := (ck_k hk0 hck).1; omega)) _ rfl ls (lv_sub hl [2, 1, 0] rfl)
    exact loop_2 _ 0 (Nat.zero_le _) (Nat.lt_succ_self _) _ rfl _ rfl _ rfl ls (lv_sub hl [2, 1, 0] rfl)
  · have hz0 : k = 0 := Decidable.byContradiction fun q => c_1 (ck_k q hck).2.2.1
    refine lv_lconst (v := 0) hx hb dX3_bitsOfShare_6 (by decide) ?_
    exact rd_lret hx hb hr hk dX3_bitsOfShare_7 (by subst hz0; rfl)
