theorem hd_X3_isSettingValue : yX3_isSettingValue.cls = RX3 ∧ yX3_isSettingValue.cls ≠ "java/lang/invoke/MethodHandle" ∧ yX3_isSettingValue.cls ≠ "java/lang/invoke/VarHandle" ∧ (parseMethodDescriptor yX3_isSettingValue.desc).map (fun d => d.parameters.length) = some 2 := by decide +kernel
theorem hn_X3_isSettingValue : yX3_isSettingValue.cls ≠ "java/lang/invoke/MethodHandle" ∧ yX3_isSettingValue.cls ≠ "java/lang/invoke/VarHandle" ∧ (parseMethodDescriptor yX3_isSettingValue.desc).map (fun d => d.parameters.length) = some 2 := hd_X3_isSettingValue.2
theorem hd_X3_sum : yX3_sum.cls = RX3 ∧ yX3_sum.cls ≠ "java/lang/invoke/MethodHandle" ∧ yX3_sum.cls ≠ "java/lang/invoke/VarHandle" ∧ (parseMethodDescriptor yX3_sum.desc).map (fun d => d.parameters.length) = some 1 := by decide +kernel
theorem hn_X3_sum : yX3_sum.cls ≠ "java/lang/invoke/MethodHandle" ∧ yX3_sum.cls ≠ "java/lang/invoke/VarHandle" ∧ (parseMethodDescriptor yX3_sum.desc).map (fun d => d.parameters.length) = some 1 := hd_X3_sum.2
theorem hd_X3_propertyOfSquare : yX3_propertyOfSquare.cls = RX3 ∧ yX3_propertyOfSquare.cls ≠ "java/lang/invoke/MethodHandle" ∧ yX3_propertyOfSquare.cls ≠ "java/lang/invoke/VarHandle" ∧ (parseMethodDescriptor yX3_propertyOfSquare.desc).map (fun d => d.parameters.length) = some 2 := by decide +kernel
theorem hn_X3_propertyOfSquare : yX3_propertyOfSquare.cls ≠ "java/lang/invoke/MethodHandle" ∧ yX3_propertyOfSquare.cls ≠ "java/lang/invoke/VarHandle" ∧ (parseMethodDescriptor yX3_propertyOfSquare.desc).map (fun d => d.parameters.length) = some 2 := hd_X3_propertyOfSquare.2
theorem hd_X3_propertyOfStop : yX3_propertyOfStop.cls = RX3 ∧ yX3_propertyOfStop.cls ≠ "java/lang/invoke/MethodHandle" ∧ yX3_propertyOfStop.cls ≠ "java/lang/invoke/VarHandle" ∧ (parseMethodDescriptor yX3_propertyOfStop.desc).map (fun d => d.parameters.length) = some 2 := by decide +kernel
theorem hn_X3_propertyOfStop : yX3_propertyOfStop.cls ≠ "java/lang/invoke/MethodHandle" ∧ yX3_propertyOfStop.cls ≠ "java/lang/invoke/VarHandle" ∧ (parseMethodDescriptor yX3_propertyOfStop.desc).map (fun d => d.parameters.length) = some 2 := hd_X3_propertyOfStop.2
theorem hd_X3_propertyOfPlayer : yX3_propertyOfPlayer.cls = RX3 ∧ yX3_propertyOfPlayer.cls ≠ "java/lang/invoke/MethodHandle" ∧ yX3_propertyOfPlayer.cls ≠ "java/lang/invoke/VarHandle" ∧ (parseMethodDescriptor yX3_propertyOfPlayer.desc).map (fun d => d.parameters.length) = some 2 := by decide +kernel
theorem hn_X3_propertyOfPlayer : yX3_propertyOfPlayer.cls ≠ "java/lang/invoke/MethodHandle" ∧ yX3_propertyOfPlayer.cls ≠ "java/lang/invoke/VarHandle" ∧ (parseMethodDescriptor yX3_propertyOfPlayer.desc).map (fun d => d.parameters.length) = some 2 := hd_X3_propertyOfPlayer.2
theorem hd_X3_numberOf : yX3_numberOf.cls = RX3 ∧ yX3_numberOf.cls ≠ "java/lang/invoke/MethodHandle" ∧ yX3_numberOf.cls ≠ "java/lang/invoke/VarHandle" ∧ (parseMethodDescriptor yX3_numberOf.desc).map (fun d => d.parameters.length) = some 1 := by decide +kernel
theorem hn_X3_numberOf : yX3_numberOf.cls ≠ "java/lang/invoke/MethodHandle" ∧ yX3_numberOf.cls ≠ "java/lang/invoke/VarHandle" ∧ (parseMethodDescriptor yX3_numberOf.desc).map (fun d => d.parameters.length) = some 1 := hd_X3_numberOf.2
set_option maxHeartbeats 4000000 in
set_option maxRecDepth 100000 in
theorem c_X3_isSettingValue (l : Launch) (D : va_G) (K : Nat → ClassId) (ws : va_W) (k : Nat) (x : Int32) (hk3 : k < 3) : Rd l yX3_isSettingValue wsX3_isSettingValue ({ frames := 1, cells := 0, slots := 0, locals := 12 } : Room) D K (ws) [.int (nI k), .int x] (.int (bI (stvR k x))) := by
  refine rd_intro (cc := cX3_isSettingValue) (maxL := 2) (ret := (some .boolean)) (by decide) rfl (Nat.le_of_ble_eq_true rfl) ?_
  intro pr en st md ar bl mt co hx hb hml hr hts hown hk hP hE ls hl
  have hown : st.vm.findClass RX3 = some md.cls := hown
  have hl : lv_has ls 2 [(0, .int (nI k)), (1, .int x)] := hl
  refine lv_iload_n hx hb dX3_isSettingValue_0 rfl (lv_at hl 0 rfl) ?_
  refine lv_iconst (v := nI 1) hx hb dX3_isSettingValue_1 (by decide) ?_
  refine nv_icmp_ne (x := k) (y := 1) (tgt := 21) hx hb dX3_isSettingValue_2 (by decide) (by omega) (by decide) (fun c_1 => ?_) (fun c_1 => ?_)
  · refine lv_iload_n hx hb dX3_isSettingValue_21 rfl (lv_at hl 1 rfl) ?_
    refine lv_if_lt (x := x) (tgt := 35) hx hb dX3_isSettingValue_22 (by decide) (fun c_2 => ?_) (fun c_2 => ?_)
    · refine lv_iconst (v := nI 0) hx hb dX3_isSettingValue_35 (by decide) ?_
      exact rd_zret hx hb hr hk dX3_isSettingValue_36 (by simp [stvR, inR, bI, nI_0, lit_1, lit_4, lit_9, c_1, c_2])
    · refine lv_iload_n hx hb dX3_isSettingValue_25 rfl (lv_at hl 1 rfl) ?_
      refine lv_bipush (v := nI 9) hx hb dX3_isSettingValue_26 (by decide) ?_
      refine lv_icmp_gt (x := x) (y := nI 9) (tgt := 35) hx hb dX3_isSettingValue_28 (by decide) (fun c_3 => ?_) (fun c_3 => ?_)
      · have n_c_3 := i_lt_nle c_3
        refine lv_iconst (v := nI 0) hx hb dX3_isSettingValue_35 (by decide) ?_
        exact rd_zret hx hb hr hk dX3_isSettingValue_36 (by simp [stvR, inR, bI, nI_0, lit_1, lit_4, lit_9, c_1, c_2, c_3, n_c_3])
      · have n_c_3 := i_nlt_le c_3
        refine lv_iconst (v := nI 1) hx hb dX3_isSettingValue_31 (by decide) ?_
        refine lv_goto (tgt := 36) hx hb dX3_isSettingValue_32 (by decide) ?_
        exact rd_zret hx hb hr hk dX3_isSettingValue_36 (by simp [stvR, inR, bI, nI_0, lit_1, lit_4, lit_9, c_1, c_2, c_3, n_c_3])
  · refine lv_iload_n hx hb dX3_isSettingValue_5 rfl (lv_at hl 1 rfl) ?_
    refine lv_iconst (v := nI 1) hx hb dX3_isSettingValue_6 (by decide) ?_
    refine lv_icmp_lt (x := x) (y := nI 1) (tgt := 19) hx hb dX3_isSettingValue_7 (by decide) (fun c_4 => ?_) (fun c_4 => ?_)
    · have n_c_4 := i_lt_nle c_4
      refine lv_iconst (v := nI 0) hx hb dX3_isSettingValue_19 (by decide) ?_
      exact rd_zret hx hb hr hk dX3_isSettingValue_20 (by simp [stvR, inR, bI, nI_0, lit_1, lit_4, lit_9, c_1, c_4, n_c_4])
    · have n_c_4 := i_nlt_le c_4
      refine lv_iload_n hx hb dX3_isSettingValue_10 rfl (lv_at hl 1 rfl) ?_
      refine lv_iconst (v := nI 4) hx hb dX3_isSettingValue_11 (by decide) ?_
      refine lv_icmp_gt (x := x) (y := nI 4) (tgt := 19) hx hb dX3_isSettingValue_12 (by decide) (fun c_5 => ?_) (fun c_5 => ?_)
      · have n_c_5 := i_lt_nle c_5
        refine lv_iconst (v := nI 0) hx hb dX3_isSettingValue_19 (by decide) ?_
        exact rd_zret hx hb hr hk dX3_isSettingValue_20 (by simp [stvR, inR, bI, nI_0, lit_1, lit_4, lit_9, c_1, c_4, n_c_4, c_5, n_c_5])
      · have n_c_5 := i_nlt_le c_5
        refine lv_iconst (v := nI 1) hx hb dX3_isSettingValue_15 (by decide) ?_
        refine lv_goto (tgt := 20) hx hb dX3_isSettingValue_16 (by decide) ?_
        exact rd_zret hx hb hr hk dX3_isSettingValue_20 (by simp [stvR, inR, bI, nI_0, lit_1, lit_4, lit_9, c_1, c_4, n_c_4, c_5, n_c_5])
set_option maxHeartbeats 4000000 in
set_option maxRecDepth 100000 in
theorem c_X3_sum (l : Launch) (D : va_G) (K : Nat → ClassId) (ws : va_W) (q0 h n : Nat) (f : Nat → Int32) (hq : ws[q0]? = some (h, .inl (K 0, n, .inl f))) (hn : n < 2 ^ 31) : Rd l yX3_sum wsX3_sum ({ frames := 1, cells := 0, slots := 0, locals := 12 } : Room) D K (ws) [.ref h] (.int (sumI f n)) := by
  refine rd_intro (cc := cX3_sum) (maxL := 3) (ret := (some .int)) (by decide) rfl (Nat.le_of_ble_eq_true rfl) ?_
  intro pr en st md ar bl mt co hx hb hml hr hts hown hk hP hE ls hl
  have hown : st.vm.findClass RX3 = some md.cls := hown
  have hl : lv_has ls 3 [(0, .ref h)] := hl
  refine lv_iconst (v := nI 0) hx hb dX3_sum_0 (by decide) ?_
  refine lv_istore_n (lv' := [(1, .int (nI 0)), (0, .ref h)]) hx hb dX3_sum_1 rfl hl (by decide) rfl (fun ls hl => ?_)
  refine lv_iconst (v := nI 0) hx hb dX3_sum_2 (by decide) ?_
  refine lv_istore_n (lv' := [(2, .int (nI 0)), (1, .int (nI 0)), (0, .ref h)]) hx hb dX3_sum_3 rfl hl (by decide) rfl (fun ls hl => ?_)
  have loop_1 : ∀ (n_4 : Nat) (i : Nat), (i ≤ n) → (n - i) < n_4 →  ∀ x_1 : Int32, x_1 = sumI f i → ∀ x_2 : Int32, x_2 = nI i → ∀ ls : Array Slot, lv_has ls 3 [(0, .ref h), (1, .int x_1), (2, .int x_2)] → W pr l en (headSpec wsX3_sum ({ frames := 1, cells := 0, slots := 0, locals := 12 } : Room)).room st md ar bl mt co st.heap [] 0 0 (MQ bl (rdQ (.int (sumI f n))) ar st 0 0 (fun _ => False)) (F0 md 4 ls []) := by
    intro n_4
    induction n_4 with
    | zero => intro i _ hn_4; exact absurd hn_4 (Nat.not_lt_zero _)
    | succ n_4 ih_4 =>
      intro i hi hn_4 x_1 ex_1 x_2 ex_2 ls hl
      subst ex_1
      subst ex_2
      have hl : lv_has ls 3 [(0, .ref h), (1, .int (sumI f i)), (2, .int (nI i))] := hl
      refine lv_iload_n hx hb dX3_sum_4 rfl (lv_at hl 2 rfl) ?_
      refine lv_aload_n hx hb dX3_sum_5 rfl (lv_at hl 0 rfl) ?_
      refine va_alen (v := nI n) hx hb hE.1 hP q0 0 hq rfl rfl dX3_sum_6 ?_
      refine nv_icmp_ge (x := i) (y := n) (tgt := 22) hx hb dX3_sum_7 (by decide) (by omega) (by omega) (fun c_2 => ?_) (fun c_2 => ?_)
      · have n_c_2 := Nat.not_lt.mpr c_2
        refine lv_iload_n hx hb dX3_sum_22 rfl (lv_at hl 1 rfl) ?_
        exact rd_iret hx hb hr hk dX3_sum_23 (by rw [show i = n from by omega])
      · have n_c_2 := Nat.not_le.mpr c_2
        refine lv_iload_n hx hb dX3_sum_10 rfl (lv_at hl 1 rfl) ?_
        refine lv_aload_n hx hb dX3_sum_11 rfl (lv_at hl 0 rfl) ?_
        refine lv_iload_n hx hb dX3_sum_12 rfl (lv_at hl 2 rfl) ?_
        refine va_iald hx hb hE.1 hP q0 0 hq rfl (pk_in i n (by omega)) dX3_sum_13 ?_
        rw [pk_cl i]
        refine lv_iadd (x := sumI f i) (y := f i) hx hb dX3_sum_14 ?_
        refine lv_istore_n (lv' := [(1, .int ((sumI f i) + (f i))), (0, .ref h), (2, .int (nI i))]) hx hb dX3_sum_15 rfl hl (by decide) rfl (fun ls hl => ?_)
        refine lv_iinc (v := nI (i + 1)) (lv' := [(2, .int (nI (i + 1))), (1, .int ((sumI f i) + (f i))), (0, .ref h)]) hx hb dX3_sum_16 hl (k := 2) rfl (nI_add _ 1) (by decide) rfl (fun ls hl => ?_)
        refine lv_goto (tgt := 4) hx hb dX3_sum_19 (by decide) ?_
        exact ih_4 (i + 1) (by omega) (by omega) _ rfl _ rfl ls (lv_sub hl [2, 1, 0] rfl)
  exact loop_1 _ 0 (Nat.zero_le _) (Nat.lt_succ_self _) _ rfl _ rfl ls (lv_sub hl [2, 1, 0] rfl)
set_option maxHeartbeats 4000000 in
set_option maxRecDepth 100000 in
theorem c_X3_propertyOfSquare (l : Launch) (D : va_G) (K : Nat → ClassId) (a b t c : Nat → Nat) (g : Nat → Nat → Nat) (T : TW) (X : va_W) (len : Nat → Option Nat) (qu : Nat → Nat) (n : Nat) (cs : Nat → Nat) (ln sn : Nat) (Sv : Nat → TW) (hI : Inv T) (sq w : Nat) (hsq : sq < 80) (hw : w < 4) : Rd l yX3_propertyOfSquare wsX3_propertyOfSquare ({ frames := 3, cells := 0, slots := 0, locals := 55 } : Room) D K (townW K a T ++ (waysW K b len qu n ++ (textW K t cs ln ++ (mainW K a b t c g sn ++ svW K g Sv X)))) [.ref (c 0), .int (nI sq), .int (nI w)] (.int (psT T sq w)) := by
  refine rd_intro (cc := cX3_propertyOfSquare) (maxL := 3) (ret := (some .int)) (by decide) rfl (Nat.le_of_ble_eq_true rfl) ?_
  intro pr en st md ar bl mt co hx hb hml hr hts hown hk hP hE ls hl
  have hown : st.vm.findClass RX3 = some md.cls := hown
  have hl : lv_has ls 3 [(0, .ref (c 0)), (1, .int (nI sq)), (2, .int (nI w))] := hl
  have F12 : (Cond.fieldLink RX3 12 "TramTolls" "town" "LTramTolls$Town;").before ar st = true := hts _ (List.mem_of_getElem? (i := 1) rfl)
  have inX3 : ∀ w ∈ u_ws RX3 TX3 5, w ∈ wsX3_propertyOfSquare := fun w h => List.mem_cons_of_mem _ (List.mem_append_left _ (List.mem_append_right _ h))
  have F262 : (Cond.fieldLink RX3 262 "TramTolls$Town" "trackMasks" "[I").before ar st = true := hts _ (List.mem_of_getElem? (i := 2) rfl)
  have inX1 : ∀ w ∈ u_ws RX1 TX1 12, w ∈ wsX3_propertyOfSquare := fun w h => List.mem_cons_of_mem _ (List.mem_append_right _ h)
  have F265 : (Cond.fieldLink RX3 265 "TramTolls$Town" "owners" "[I").before ar st = true := hts _ (List.mem_of_getElem? (i := 3) rfl)
  have F60 : (Cond.fieldLink RX3 60 "TramTolls$Town" "houses" "[I").before ar st = true := hts _ (List.mem_of_getElem? (i := 4) rfl)
  refine lv_iload_n hx hb dX3_propertyOfSquare_0 rfl (lv_at hl 2 rfl) ?_
  rcases (show w = 0 ∨ w = 1 ∨ w = 2 ∨ w = 3 by omega) with rfl | rfl | rfl | rfl
  · refine lv_tableIn (off := 27) (tgt := 28) hx hb dX3_propertyOfSquare_1 (by decide) (by decide) (by decide) (by decide) ?_
    refine lv_aload_n hx hb dX3_propertyOfSquare_28 rfl (lv_at hl 0 rfl) ?_
    refine va_get (D := D) (ci := 3) (v := .ref (a 0)) (C := RX3) (T := TX3) (N := 5) hx hb hts inX3 hown hE.1 hP 17 rfl rfl 0 (by decide) F12 (fun _ h9 => h9) rfl dX3_propertyOfSquare_29 ?_
    refine va_get (D := D) (ci := 1) (v := .ref (a 2)) (C := RX1) (T := TX1) (N := 12) hx hb hts inX1 hown hE.1 hP 0 rfl rfl 1 (by decide) F262 (fun _ h9 => h9) rfl dX3_propertyOfSquare_32 ?_
    refine lv_iload_n hx hb dX3_propertyOfSquare_35 rfl (lv_at hl 1 rfl) ?_
    refine rd_S (rest := []) ⟨hx, hb, hml, hown, hts⟩ hP hE (c_X3_at l D K _ 2 _ 80 _ sq rfl (by omega) (by omega)) (va_cwS 2 hts gX3_propertyOfSquare_X3_at rfl rfl rfl hn_X3_at ⟨Nat.le_of_ble_eq_true rfl, Nat.le_of_ble_eq_true rfl⟩) rfl hl.1 rfl (Nat.le_of_ble_eq_true rfl) dX3_propertyOfSquare_36 ⟨Nat.zero_le _, Nat.zero_le _⟩ ?_
    refine top_i (y := nI (mkT T sq)) (show T 1 sq = nI (mkT T sq) from eq_mk hI (by omega)) ?_
    have hb_1 := mk_lt hI (show sq < 80 by omega)
    exact rd_iret hx hb hr hk dX3_propertyOfSquare_39 (by rfl)
  · refine lv_tableIn (off := 39) (tgt := 40) hx hb dX3_propertyOfSquare_1 (by decide) (by decide) (by decide) (by decide) ?_
    refine lv_aload_n hx hb dX3_propertyOfSquare_40 rfl (lv_at hl 0 rfl) ?_
    refine va_get (D := D) (ci := 3) (v := .ref (a 0)) (C := RX3) (T := TX3) (N := 5) hx hb hts inX3 hown hE.1 hP 17 rfl rfl 0 (by decide) F12 (fun _ h9 => h9) rfl dX3_propertyOfSquare_41 ?_
    refine va_get (D := D) (ci := 1) (v := .ref (a 3)) (C := RX1) (T := TX1) (N := 12) hx hb hts inX1 hown hE.1 hP 0 rfl rfl 2 (by decide) F265 (fun _ h9 => h9) rfl dX3_propertyOfSquare_44 ?_
    refine lv_iload_n hx hb dX3_propertyOfSquare_47 rfl (lv_at hl 1 rfl) ?_
    refine rd_S (rest := []) ⟨hx, hb, hml, hown, hts⟩ hP hE (c_X3_at l D K _ 3 _ 80 _ sq rfl (by omega) (by omega)) (va_cwS 2 hts gX3_propertyOfSquare_X3_at rfl rfl rfl hn_X3_at ⟨Nat.le_of_ble_eq_true rfl, Nat.le_of_ble_eq_true rfl⟩) rfl hl.1 rfl (Nat.le_of_ble_eq_true rfl) dX3_propertyOfSquare_48 ⟨Nat.zero_le _, Nat.zero_le _⟩ ?_
    refine top_i (y := oI (owT T sq)) (show T 2 sq = oI (owT T sq) from eq_ow hI (by omega)) ?_
    exact rd_iret hx hb hr hk dX3_propertyOfSquare_51 (by rfl)
  · refine lv_tableIn (off := 51) (tgt := 52) hx hb dX3_propertyOfSquare_1 (by decide) (by decide) (by decide) (by decide) ?_
    refine lv_aload_n hx hb dX3_propertyOfSquare_52 rfl (lv_at hl 0 rfl) ?_
    refine va_get (D := D) (ci := 3) (v := .ref (a 0)) (C := RX3) (T := TX3) (N := 5) hx hb hts inX3 hown hE.1 hP 17 rfl rfl 0 (by decide) F12 (fun _ h9 => h9) rfl dX3_propertyOfSquare_53 ?_
    refine va_get (D := D) (ci := 1) (v := .ref (a 1)) (C := RX1) (T := TX1) (N := 12) hx hb hts inX1 hown hE.1 hP 0 rfl rfl 0 (by decide) F60 (fun _ h9 => h9) rfl dX3_propertyOfSquare_56 ?_
    refine lv_iload_n hx hb dX3_propertyOfSquare_59 rfl (lv_at hl 1 rfl) ?_
    refine rd_S (rest := []) ⟨hx, hb, hml, hown, hts⟩ hP hE (c_X3_at l D K _ 1 _ 80 _ sq rfl (by omega) (by omega)) (va_cwS 2 hts gX3_propertyOfSquare_X3_at rfl rfl rfl hn_X3_at ⟨Nat.le_of_ble_eq_true rfl, Nat.le_of_ble_eq_true rfl⟩) rfl hl.1 rfl (Nat.le_of_ble_eq_true rfl) dX3_propertyOfSquare_60 ⟨Nat.zero_le _, Nat.zero_le _⟩ ?_
    refine top_i (y := bI (hsT T sq)) (show T 0 sq = bI (hsT T sq) from eq_hs hI (by omega)) ?_
    exact rd_iret hx hb hr hk dX3_propertyOfSquare_63 (by rfl)
  · refine lv_tableOut (tgt := 64) hx hb dX3_propertyOfSquare_1 (by decide) (by decide) ?_
    refine lv_aload_n hx hb dX3_propertyOfSquare_64 rfl (lv_at hl 0 rfl) ?_
    refine va_get (D := D) (ci := 3) (v := .ref (a 0)) (C := RX3) (T := TX3) (N := 5) hx hb hts inX3 hown hE.1 hP 17 rfl rfl 0 (by decide) F12 (fun _ h9 => h9) rfl dX3_propertyOfSquare_65 ?_
    refine lv_iload_n hx hb dX3_propertyOfSquare_68 rfl (lv_at hl 1 rfl) ?_
    refine rd_V (rest := []) (ci := 1) (q0 := 0) ⟨hx, hb, hml, hown, hts⟩ hP hE (c_X1_lowestStopOn l D K _ _ _ (some sq) hI (fun k z => by cases z; omega)) (cwV 1 hts gX3_propertyOfSquare_X1_lowestStopOn rfl rfl rfl hd_X1_lowestStopOn ⟨Nat.le_of_ble_eq_true rfl, Nat.le_of_ble_eq_true rfl⟩) rfl rfl rfl rfl hl.1 rfl (Nat.le_of_ble_eq_true rfl) dX3_propertyOfSquare_69 ⟨Nat.zero_le _, Nat.zero_le _⟩ ?_
    exact rd_iret hx hb hr hk dX3_propertyOfSquare_72 (by rfl)
set_option maxHeartbeats 4000000 in
set_option maxRecDepth 100000 in
theorem c_X3_propertyOfStop (l : Launch) (D : va_G) (K : Nat → ClassId) (a b t c : Nat → Nat) (g : Nat → Nat → Nat) (T : TW) (X : va_W) (len : Nat → Option Nat) (qu : Nat → Nat) (n : Nat) (cs : Nat → Nat) (ln sn : Nat) (Sv : Nat → TW) (hI : Inv T) (t9 w : Nat) (ht9 : t9 < 12) (hw : w < 3) : Rd l yX3_propertyOfStop wsX3_propertyOfStop ({ frames := 4, cells := 0, slots := 0, locals := 76 } : Room) D K (townW K a T ++ (waysW K b len qu n ++ (textW K t cs ln ++ (mainW K a b t c g sn ++ svW K g Sv X)))) [.ref (c 0), .int (nI t9), .int (nI w)] (.int (ptT T t9 w)) := by
  refine rd_intro (cc := cX3_propertyOfStop) (maxL := 3) (ret := (some .int)) (by decide) rfl (Nat.le_of_ble_eq_true rfl) ?_
  intro pr en st md ar bl mt co hx hb hml hr hts hown hk hP hE ls hl
  have hown : st.vm.findClass RX3 = some md.cls := hown
  have hl : lv_has ls 3 [(0, .ref (c 0)), (1, .int (nI t9)), (2, .int (nI w))] := hl
  have F12 : (Cond.fieldLink RX3 12 "TramTolls" "town" "LTramTolls$Town;").before ar st = true := hts _ (List.mem_of_getElem? (i := 1) rfl)
  have inX3 : ∀ w ∈ u_ws RX3 TX3 5, w ∈ wsX3_propertyOfStop := fun w h => List.mem_cons_of_mem _ (List.mem_append_left _ (List.mem_append_right _ h))
  have F89 : (Cond.fieldLink RX3 89 "TramTolls$Town" "stopSquares" "[I").before ar st = true := hts _ (List.mem_of_getElem? (i := 2) rfl)
  have inX1 : ∀ w ∈ u_ws RX1 TX1 12, w ∈ wsX3_propertyOfStop := fun w h => List.mem_cons_of_mem _ (List.mem_append_right _ h)
  have F92 : (Cond.fieldLink RX3 92 "TramTolls$Town" "stopPlayers" "[I").before ar st = true := hts _ (List.mem_of_getElem? (i := 3) rfl)
  refine lv_aload_n hx hb dX3_propertyOfStop_0 rfl (lv_at hl 0 rfl) ?_
  refine va_get (D := D) (ci := 3) (v := .ref (a 0)) (C := RX3) (T := TX3) (N := 5) hx hb hts inX3 hown hE.1 hP 17 rfl rfl 0 (by decide) F12 (fun _ h9 => h9) rfl dX3_propertyOfStop_1 ?_
  refine lv_iload_n hx hb dX3_propertyOfStop_4 rfl (lv_at hl 1 rfl) ?_
  refine rd_V (rest := []) (ci := 1) (q0 := 0) ⟨hx, hb, hml, hown, hts⟩ hP hE (c_X1_isThere l D K _ _ _ t9 hI (by omega)) (cwV 1 hts gX3_propertyOfStop_X1_isThere rfl rfl rfl hd_X1_isThere ⟨Nat.le_of_ble_eq_true rfl, Nat.le_of_ble_eq_true rfl⟩) rfl rfl rfl rfl hl.1 rfl (Nat.le_of_ble_eq_true rfl) dX3_propertyOfStop_5 ⟨Nat.zero_le _, Nat.zero_le _⟩ ?_
  refine bv_if_ne (x := (sqT T t9).isSome) (tgt := 13) hx hb dX3_propertyOfStop_8 (by decide) (fun c_1 => ?_) (fun c_1 => ?_)
  · obtain ⟨s9, hs9⟩ := Option.isSome_iff_exists.mp c_1
    obtain ⟨p9, hp9⟩ := sq_is_pl hI (by omega) hs9
    refine lv_iload_n hx hb dX3_propertyOfStop_13 rfl (lv_at hl 2 rfl) ?_
    rcases (show w = 0 ∨ w = 1 ∨ (¬ w = 0 ∧ ¬ w = 1) by omega) with rfl | rfl | ⟨q_0, q_1⟩
    · refine lv_lookup (off := 26) (tgt := 40) hx hb dX3_propertyOfStop_14 (by decide) (by decide) (by decide) ?_
      refine lv_aload_n hx hb dX3_propertyOfStop_40 rfl (lv_at hl 0 rfl) ?_
      refine va_get (D := D) (ci := 3) (v := .ref (a 0)) (C := RX3) (T := TX3) (N := 5) hx hb hts inX3 hown hE.1 hP 17 rfl rfl 0 (by decide) F12 (fun _ h9 => h9) rfl dX3_propertyOfStop_41 ?_
      refine va_get (D := D) (ci := 1) (v := .ref (a 4)) (C := RX1) (T := TX1) (N := 12) hx hb hts inX1 hown hE.1 hP 0 rfl rfl 3 (by decide) F89 (fun _ h9 => h9) rfl dX3_propertyOfStop_44 ?_
      refine lv_iload_n hx hb dX3_propertyOfStop_47 rfl (lv_at hl 1 rfl) ?_
      refine rd_S (rest := []) ⟨hx, hb, hml, hown, hts⟩ hP hE (c_X3_at l D K _ 4 _ 12 _ t9 rfl (by omega) (by omega)) (va_cwS 2 hts gX3_propertyOfStop_X3_at rfl rfl rfl hn_X3_at ⟨Nat.le_of_ble_eq_true rfl, Nat.le_of_ble_eq_true rfl⟩) rfl hl.1 rfl (Nat.le_of_ble_eq_true rfl) dX3_propertyOfStop_48 ⟨Nat.zero_le _, Nat.zero_le _⟩ ?_
      refine top_i (y := oI (sqT T t9)) (show T 3 t9 = oI (sqT T t9) from eq_sq hI (by omega)) ?_
      refine top_i (y := nI s9) (by rw [hs9]; rfl) ?_
      exact rd_iret hx hb hr hk dX3_propertyOfStop_51 (by first | rfl | (simp [ptT, rchT, onT, bI, oI_n, oI_s, nI_0, nI_one, c_1, hs9, hp9]; done) | simp_all [ptT, rchT, onT, bI, oI_n, oI_s, nI_0, nI_one])
    · refine lv_lookup (off := 38) (tgt := 52) hx hb dX3_propertyOfStop_14 (by decide) (by decide) (by decide) ?_
      refine lv_aload_n hx hb dX3_propertyOfStop_52 rfl (lv_at hl 0 rfl) ?_
      refine va_get (D := D) (ci := 3) (v := .ref (a 0)) (C := RX3) (T := TX3) (N := 5) hx hb hts inX3 hown hE.1 hP 17 rfl rfl 0 (by decide) F12 (fun _ h9 => h9) rfl dX3_propertyOfStop_53 ?_
      refine va_get (D := D) (ci := 1) (v := .ref (a 5)) (C := RX1) (T := TX1) (N := 12) hx hb hts inX1 hown hE.1 hP 0 rfl rfl 4 (by decide) F92 (fun _ h9 => h9) rfl dX3_propertyOfStop_56 ?_
      refine lv_iload_n hx hb dX3_propertyOfStop_59 rfl (lv_at hl 1 rfl) ?_
      refine rd_S (rest := []) ⟨hx, hb, hml, hown, hts⟩ hP hE (c_X3_at l D K _ 5 _ 12 _ t9 rfl (by omega) (by omega)) (va_cwS 2 hts gX3_propertyOfStop_X3_at rfl rfl rfl hn_X3_at ⟨Nat.le_of_ble_eq_true rfl, Nat.le_of_ble_eq_true rfl⟩) rfl hl.1 rfl (Nat.le_of_ble_eq_true rfl) dX3_propertyOfStop_60 ⟨Nat.zero_le _, Nat.zero_le _⟩ ?_
      refine top_i (y := oI (plT T t9)) (show T 4 t9 = oI (plT T t9) from eq_pl hI (by omega)) ?_
      refine top_i (y := nI p9) (by rw [hp9]; rfl) ?_
      exact rd_iret hx hb hr hk dX3_propertyOfStop_63 (by first | rfl | (simp [ptT, rchT, onT, bI, oI_n, oI_s, nI_0, nI_one, c_1, hs9, hp9]; done) | simp_all [ptT, rchT, onT, bI, oI_n, oI_s, nI_0, nI_one])
    · refine lv_lookup (off := 50) (tgt := 64) hx hb dX3_propertyOfStop_14 (by decide) ((lv_osw (k := nI 0) (fun q => q_0 ((nI_eq (by omega) (by decide)).mp q)) (by decide)).trans ((lv_osw (k := nI 1) (fun q => q_1 ((nI_eq (by omega) (by decide)).mp q)) (by decide)).trans (rfl))) (by decide) ?_
      refine lv_aload_n hx hb dX3_propertyOfStop_64 rfl (lv_at hl 0 rfl) ?_
      refine va_get (D := D) (ci := 3) (v := .ref (a 0)) (C := RX3) (T := TX3) (N := 5) hx hb hts inX3 hown hE.1 hP 17 rfl rfl 0 (by decide) F12 (fun _ h9 => h9) rfl dX3_propertyOfStop_65 ?_
      refine lv_iload_n hx hb dX3_propertyOfStop_68 rfl (lv_at hl 1 rfl) ?_
      refine rd_V (rest := []) (ci := 1) (q0 := 0) ⟨hx, hb, hml, hown, hts⟩ hP hE (c_X1_isReached l D K _ _ _ t9 p9 s9 hI (by omega) hp9 hs9) (cwV 1 hts gX3_propertyOfStop_X1_isReached rfl rfl rfl hd_X1_isReached ⟨Nat.le_of_ble_eq_true rfl, Nat.le_of_ble_eq_true rfl⟩) rfl rfl rfl rfl hl.1 rfl (Nat.le_of_ble_eq_true rfl) dX3_propertyOfStop_69 ⟨Nat.zero_le _, Nat.zero_le _⟩ ?_
      refine bv_if_eq (x := hasT T p9 s9) (tgt := 79) hx hb dX3_propertyOfStop_72 (by decide) (fun c_2 => ?_) (fun c_2 => ?_)
      · refine lv_iconst (v := nI 0) hx hb dX3_propertyOfStop_79 (by decide) ?_
        exact rd_iret hx hb hr hk dX3_propertyOfStop_80 (by first | rfl | (simp [ptT, rchT, onT, bI, oI_n, oI_s, nI_0, nI_one, c_1, hs9, hp9, q_0, q_1, c_2]; done) | simp_all [ptT, rchT, onT, bI, oI_n, oI_s, nI_0, nI_one])
      · refine lv_iconst (v := nI 1) hx hb dX3_propertyOfStop_75 (by decide) ?_
        refine lv_goto (tgt := 80) hx hb dX3_propertyOfStop_76 (by decide) ?_
        exact rd_iret hx hb hr hk dX3_propertyOfStop_80 (by first | rfl | (simp [ptT, rchT, onT, bI, oI_n, oI_s, nI_0, nI_one, c_1, hs9, hp9, q_0, q_1, c_2]; done) | simp_all [ptT, rchT, onT, bI, oI_n, oI_s, nI_0, nI_one])
  · have hs9 : sqT T t9 = none := by cases q9 : sqT T t9 with
  | none => rfl
  | some z => rw [q9] at c_1; cases c_1
    refine lv_iconst (v := -1) hx hb dX3_propertyOfStop_11 (by decide) ?_
    exact rd_iret hx hb hr hk dX3_propertyOfStop_12 (by first | rfl | (simp [ptT, rchT, onT, bI, oI_n, oI_s, nI_0, nI_one, c_1, hs9]; done) | simp_all [ptT, rchT, onT, bI, oI_n, oI_s, nI_0, nI_one])
set_option maxHeartbeats 4000000 in
set_option maxRecDepth 100000 in
theorem c_X3_propertyOfPlayer (l : Launch) (D : va_G) (K : Nat → ClassId) (a b t c : Nat → Nat) (g : Nat → Nat → Nat) (T : TW) (X : va_W) (len : Nat → Option Nat) (qu : Nat → Nat) (n : Nat) (cs : Nat → Nat) (ln sn : Nat) (Sv : Nat → TW) (hI : Inv T) (p w : Nat) (hp : p < 4) (hw : w < 10) : Rd l yX3_propertyOfPlayer wsX3_propertyOfPlayer ({ frames := 5, cells := 0, slots := 0, locals := 99 } : Room) D K (townW K a T ++ (waysW K b len qu n ++ (textW K t cs ln ++ (mainW K a b t c g sn ++ svW K g Sv X)))) [.ref (c 0), .int (nI p), .int (nI w)] (.int (ppT T p w)) := by
  refine rd_intro (cc := cX3_propertyOfPlayer) (maxL := 3) (ret := (some .int)) (by decide) rfl (Nat.le_of_ble_eq_true rfl) ?_
  intro pr en st md ar bl mt co hx hb hml hr hts hown hk hP hE ls hl
  have hown : st.vm.findClass RX3 = some md.cls := hown
  have hl : lv_has ls 3 [(0, .ref (c 0)), (1, .int (nI p)), (2, .int (nI w))] := hl
  have F12 : (Cond.fieldLink RX3 12 "TramTolls" "town" "LTramTolls$Town;").before ar st = true := hts _ (List.mem_of_getElem? (i := 1) rfl)
  have inX3 : ∀ w ∈ u_ws RX3 TX3 5, w ∈ wsX3_propertyOfPlayer := fun w h => List.mem_cons_of_mem _ (List.mem_append_left _ (List.mem_append_right _ h))
  have F141 : (Cond.fieldLink RX3 141 "TramTolls$Town" "coins" "[I").before ar st = true := hts _ (List.mem_of_getElem? (i := 2) rfl)
  have inX1 : ∀ w ∈ u_ws RX1 TX1 12, w ∈ wsX3_propertyOfPlayer := fun w h => List.mem_cons_of_mem _ (List.mem_append_right _ h)
  have F116 : (Cond.fieldLink RX3 116 "TramTolls$Town" "heads" "[I").before ar st = true := hts _ (List.mem_of_getElem? (i := 3) rfl)
  have F274 : (Cond.fieldLink RX3 274 "TramTolls$Town" "lastDirections" "[I").before ar st = true := hts _ (List.mem_of_getElem? (i := 4) rfl)
  have F289 : (Cond.fieldLink RX3 289 "TramTolls$Town" "tollsPaid" "[I").before ar st = true := hts _ (List.mem_of_getElem? (i := 5) rfl)
  have F292 : (Cond.fieldLink RX3 292 "TramTolls$Town" "tollsGot" "[I").before ar st = true := hts _ (List.mem_of_getElem? (i := 6) rfl)
  refine lv_iload_n hx hb dX3_propertyOfPlayer_0 rfl (lv_at hl 2 rfl) ?_
  rcases (show w = 0 ∨ w = 1 ∨ w = 2 ∨ w = 3 ∨ w = 4 ∨ w = 5 ∨ w = 6 ∨ w = 7 ∨ w = 8 ∨ w = 9 by omega) with rfl | rfl | rfl | rfl | rfl | rfl | rfl | rfl | rfl | rfl
  · refine lv_tableIn (off := 51) (tgt := 52) hx hb dX3_propertyOfPlayer_1 (by decide) (by decide) (by decide) (by decide) ?_
    refine lv_aload_n hx hb dX3_propertyOfPlayer_52 rfl (lv_at hl 0 rfl) ?_
    refine va_get (D := D) (ci := 3) (v := .ref (a 0)) (C := RX3) (T := TX3) (N := 5) hx hb hts inX3 hown hE.1 hP 17 rfl rfl 0 (by decide) F12 (fun _ h9 => h9) rfl dX3_propertyOfPlayer_53 ?_
    refine va_get (D := D) (ci := 1) (v := .ref (a 6)) (C := RX1) (T := TX1) (N := 12) hx hb hts inX1 hown hE.1 hP 0 rfl rfl 5 (by decide) F141 (fun _ h9 => h9) rfl dX3_propertyOfPlayer_56 ?_
    refine lv_iload_n hx hb dX3_propertyOfPlayer_59 rfl (lv_at hl 1 rfl) ?_
    refine rd_S (rest := []) ⟨hx, hb, hml, hown, hts⟩ hP hE (c_X3_at l D K _ 6 _ 4 _ p rfl (by omega) (by omega)) (va_cwS 2 hts gX3_propertyOfPlayer_X3_at rfl rfl rfl hn_X3_at ⟨Nat.le_of_ble_eq_true rfl, Nat.le_of_ble_eq_true rfl⟩) rfl hl.1 rfl (Nat.le_of_ble_eq_true rfl) dX3_propertyOfPlayer_60 ⟨Nat.zero_le _, Nat.zero_le _⟩ ?_
    refine top_i (y := coT T p) (rfl) ?_
    exact rd_iret hx hb hr hk dX3_propertyOfPlayer_63 (by first | rfl | (simp [ppT, bI, nI_0, nI_one]))
  · refine lv_tableIn (off := 63) (tgt := 64) hx hb dX3_propertyOfPlayer_1 (by decide) (by decide) (by decide) (by decide) ?_
    refine lv_aload_n hx hb dX3_propertyOfPlayer_64 rfl (lv_at hl 0 rfl) ?_
    refine va_get (D := D) (ci := 3) (v := .ref (a 0)) (C := RX3) (T := TX3) (N := 5) hx hb hts inX3 hown hE.1 hP 17 rfl rfl 0 (by decide) F12 (fun _ h9 => h9) rfl dX3_propertyOfPlayer_65 ?_
    refine lv_iload_n hx hb dX3_propertyOfPlayer_68 rfl (lv_at hl 1 rfl) ?_
    refine rd_V (rest := []) (ci := 1) (q0 := 0) ⟨hx, hb, hml, hown, hts⟩ hP hE (c_X1_lineLength l D K _ _ _ p hI (by omega)) (cwV 1 hts gX3_propertyOfPlayer_X1_lineLength rfl rfl rfl hd_X1_lineLength ⟨Nat.le_of_ble_eq_true rfl, Nat.le_of_ble_eq_true rfl⟩) rfl rfl rfl rfl hl.1 rfl (Nat.le_of_ble_eq_true rfl) dX3_propertyOfPlayer_69 ⟨Nat.zero_le _, Nat.zero_le _⟩ ?_
    have hb_1 := fa_cnt_le (fun s => hasT T p s) 80
    exact rd_iret hx hb hr hk dX3_propertyOfPlayer_72 (by first | rfl | (simp [ppT, bI, nI_0, nI_one]))
  · refine lv_tableIn (off := 72) (tgt := 73) hx hb dX3_propertyOfPlayer_1 (by decide) (by decide) (by decide) (by decide) ?_
    refine lv_aload_n hx hb dX3_propertyOfPlayer_73 rfl (lv_at hl 0 rfl) ?_
    refine va_get (D := D) (ci := 3) (v := .ref (a 0)) (C := RX3) (T := TX3) (N := 5) hx hb hts inX3 hown hE.1 hP 17 rfl rfl 0 (by decide) F12 (fun _ h9 => h9) rfl dX3_propertyOfPlayer_74 ?_
    refine va_get (D := D) (ci := 1) (v := .ref (a 7)) (C := RX1) (T := TX1) (N := 12) hx hb hts inX1 hown hE.1 hP 0 rfl rfl 6 (by decide) F116 (fun _ h9 => h9) rfl dX3_propertyOfPlayer_77 ?_
    refine lv_iload_n hx hb dX3_propertyOfPlayer_80 rfl (lv_at hl 1 rfl) ?_
    refine rd_S (rest := []) ⟨hx, hb, hml, hown, hts⟩ hP hE (c_X3_at l D K _ 7 _ 4 _ p rfl (by omega) (by omega)) (va_cwS 2 hts gX3_propertyOfPlayer_X3_at rfl rfl rfl hn_X3_at ⟨Nat.le_of_ble_eq_true rfl, Nat.le_of_ble_eq_true rfl⟩) rfl hl.1 rfl (Nat.le_of_ble_eq_true rfl) dX3_propertyOfPlayer_81 ⟨Nat.zero_le _, Nat.zero_le _⟩ ?_
    refine top_i (y := nI (hdT T p)) (show T 6 p = nI (hdT T p) from eq_hd hI (by omega)) ?_
    have hb_2 := hd_lt hI (show p < 4 by omega)
    exact rd_iret hx hb hr hk dX3_propertyOfPlayer_84 (by first | rfl | (simp [ppT, bI, nI_0, nI_one]))
  · refine lv_tableIn (off := 84) (tgt := 85) hx hb dX3_propertyOfPlayer_1 (by decide) (by decide) (by decide) (by decide) ?_
    refine lv_aload_n hx hb dX3_propertyOfPlayer_85 rfl (lv_at hl 0 rfl) ?_
    refine va_get (D := D) (ci := 3) (v := .ref (a 0)) (C := RX3) (T := TX3) (N := 5) hx hb hts inX3 hown hE.1 hP 17 rfl rfl 0 (by decide) F12 (fun _ h9 => h9) rfl dX3_propertyOfPlayer_86 ?_
    refine va_get (D := D) (ci := 1) (v := .ref (a 8)) (C := RX1) (T := TX1) (N := 12) hx hb hts inX1 hown hE.1 hP 0 rfl rfl 7 (by decide) F274 (fun _ h9 => h9) rfl dX3_propertyOfPlayer_89 ?_
    refine lv_iload_n hx hb dX3_propertyOfPlayer_92 rfl (lv_at hl 1 rfl) ?_
    refine rd_S (rest := []) ⟨hx, hb, hml, hown, hts⟩ hP hE (c_X3_at l D K _ 8 _ 4 _ p rfl (by omega) (by omega)) (va_cwS 2 hts gX3_propertyOfPlayer_X3_at rfl rfl rfl hn_X3_at ⟨Nat.le_of_ble_eq_true rfl, Nat.le_of_ble_eq_true rfl⟩) rfl hl.1 rfl (Nat.le_of_ble_eq_true rfl) dX3_propertyOfPlayer_93 ⟨Nat.zero_le _, Nat.zero_le _⟩ ?_
    refine top_i (y := oI (laT T p)) (show T 7 p = oI (laT T p) from eq_la hI (by omega)) ?_
    exact rd_iret hx hb hr hk dX3_propertyOfPlayer_96 (by first | rfl | (simp [ppT, bI, nI_0, nI_one]))
  · refine lv_tableIn (off := 96) (tgt := 97) hx hb dX3_propertyOfPlayer_1 (by decide) (by decide) (by decide) (by decide) ?_
    refine lv_aload_n hx hb dX3_propertyOfPlayer_97 rfl (lv_at hl 0 rfl) ?_
    refine va_get (D := D) (ci := 3) (v := .ref (a 0)) (C := RX3) (T := TX3) (N := 5) hx hb hts inX3 hown hE.1 hP 17 rfl rfl 0 (by decide) F12 (fun _ h9 => h9) rfl dX3_propertyOfPlayer_98 ?_
    refine lv_iload_n hx hb dX3_propertyOfPlayer_101 rfl (lv_at hl 1 rfl) ?_
    refine rd_V (rest := []) (ci := 1) (q0 := 0) ⟨hx, hb, hml, hown, hts⟩ hP hE (c_X1_squaresOwned l D K _ _ _ p hI (by omega)) (cwV 1 hts gX3_propertyOfPlayer_X1_squaresOwned rfl rfl rfl hd_X1_squaresOwned ⟨Nat.le_of_ble_eq_true rfl, Nat.le_of_ble_eq_true rfl⟩) rfl rfl rfl rfl hl.1 rfl (Nat.le_of_ble_eq_true rfl) dX3_propertyOfPlayer_102 ⟨Nat.zero_le _, Nat.zero_le _⟩ ?_
    exact rd_iret hx hb hr hk dX3_propertyOfPlayer_105 (by first | rfl | (simp [ppT, bI, nI_0, nI_one]))
  · refine lv_tableIn (off := 105) (tgt := 106) hx hb dX3_propertyOfPlayer_1 (by decide) (by decide) (by decide) (by decide) ?_
    refine lv_aload_n hx hb dX3_propertyOfPlayer_106 rfl (lv_at hl 0 rfl) ?_
    refine va_get (D := D) (ci := 3) (v := .ref (a 0)) (C := RX3) (T := TX3) (N := 5) hx hb hts inX3 hown hE.1 hP 17 rfl rfl 0 (by decide) F12 (fun _ h9 => h9) rfl dX3_propertyOfPlayer_107 ?_
    refine lv_iload_n hx hb dX3_propertyOfPlayer_110 rfl (lv_at hl 1 rfl) ?_
    refine rd_V (rest := []) (ci := 1) (q0 := 0) ⟨hx, hb, hml, hown, hts⟩ hP hE (c_X1_stopsOfLine l D K _ _ _ p hI (by omega)) (cwV 1 hts gX3_propertyOfPlayer_X1_stopsOfLine rfl rfl rfl hd_X1_stopsOfLine ⟨Nat.le_of_ble_eq_true rfl, Nat.le_of_ble_eq_true rfl⟩) rfl rfl rfl rfl hl.1 rfl (Nat.le_of_ble_eq_true rfl) dX3_propertyOfPlayer_111 ⟨Nat.zero_le _, Nat.zero_le _⟩ ?_
    have hb_3 := sl_le T p
    exact rd_iret hx hb hr hk dX3_propertyOfPlayer_114 (by first | rfl | (simp [ppT, bI, nI_0, nI_one]))
  · refine lv_tableIn (off := 114) (tgt := 115) hx hb dX3_propertyOfPlayer_1 (by decide) (by decide) (by decide) (by decide) ?_
    refine lv_aload_n hx hb dX3_propertyOfPlayer_115 rfl (lv_at hl 0 rfl) ?_
    refine va_get (D := D) (ci := 3) (v := .ref (a 0)) (C := RX3) (T := TX3) (N := 5) hx hb hts inX3 hown hE.1 hP 17 rfl rfl 0 (by decide) F12 (fun _ h9 => h9) rfl dX3_propertyOfPlayer_116 ?_
    refine lv_iload_n hx hb dX3_propertyOfPlayer_119 rfl (lv_at hl 1 rfl) ?_
    refine rd_V (rest := []) (ci := 1) (q0 := 0) ⟨hx, hb, hml, hown, hts⟩ hP hE (c_X1_stopsReached l D K _ _ _ p hI (by omega)) (cwV 1 hts gX3_propertyOfPlayer_X1_stopsReached rfl rfl rfl hd_X1_stopsReached ⟨Nat.le_of_ble_eq_true rfl, Nat.le_of_ble_eq_true rfl⟩) rfl rfl rfl rfl hl.1 rfl (Nat.le_of_ble_eq_true rfl) dX3_propertyOfPlayer_120 ⟨Nat.zero_le _, Nat.zero_le _⟩ ?_
    have hb_4 := sr_le T p
    exact rd_iret hx hb hr hk dX3_propertyOfPlayer_123 (by first | rfl | (simp [ppT, bI, nI_0, nI_one]))
  · refine lv_tableIn (off := 123) (tgt := 124) hx hb dX3_propertyOfPlayer_1 (by decide) (by decide) (by decide) (by decide) ?_
    refine lv_aload_n hx hb dX3_propertyOfPlayer_124 rfl (lv_at hl 0 rfl) ?_
    refine va_get (D := D) (ci := 3) (v := .ref (a 0)) (C := RX3) (T := TX3) (N := 5) hx hb hts inX3 hown hE.1 hP 17 rfl rfl 0 (by decide) F12 (fun _ h9 => h9) rfl dX3_propertyOfPlayer_125 ?_
    refine lv_iload_n hx hb dX3_propertyOfPlayer_128 rfl (lv_at hl 1 rfl) ?_
    refine rd_V (rest := []) (ci := 1) (q0 := 0) ⟨hx, hb, hml, hown, hts⟩ hP hE (c_X1_joinsStops l D K _ _ _ p hI (by omega)) (cwV 1 hts gX3_propertyOfPlayer_X1_joinsStops rfl rfl rfl hd_X1_joinsStops ⟨Nat.le_of_ble_eq_true rfl, Nat.le_of_ble_eq_true rfl⟩) rfl rfl rfl rfl hl.1 rfl (Nat.le_of_ble_eq_true rfl) dX3_propertyOfPlayer_129 ⟨Nat.zero_le _, Nat.zero_le _⟩ ?_
    refine bv_if_eq (x := joinT T p) (tgt := 139) hx hb dX3_propertyOfPlayer_132 (by decide) (fun c_5 => ?_) (fun c_5 => ?_)
    · refine lv_iconst (v := nI 0) hx hb dX3_propertyOfPlayer_139 (by decide) ?_
      exact rd_iret hx hb hr hk dX3_propertyOfPlayer_140 (by first | rfl | (simp [ppT, bI, nI_0, nI_one, c_5]))
    · refine lv_iconst (v := nI 1) hx hb dX3_propertyOfPlayer_135 (by decide) ?_
      refine lv_goto (tgt := 140) hx hb dX3_propertyOfPlayer_136 (by decide) ?_
      exact rd_iret hx hb hr hk dX3_propertyOfPlayer_140 (by first | rfl | (simp [ppT, bI, nI_0, nI_one, c_5]))
  · refine lv_tableIn (off := 140) (tgt := 141) hx hb dX3_propertyOfPlayer_1 (by decide) (by decide) (by decide) (by decide) ?_
    refine lv_aload_n hx hb dX3_propertyOfPlayer_141 rfl (lv_at hl 0 rfl) ?_
    refine va_get (D := D) (ci := 3) (v := .ref (a 0)) (C := RX3) (T := TX3) (N := 5) hx hb hts inX3 hown hE.1 hP 17 rfl rfl 0 (by decide) F12 (fun _ h9 => h9) rfl dX3_propertyOfPlayer_142 ?_
    refine va_get (D := D) (ci := 1) (v := .ref (a 9)) (C := RX1) (T := TX1) (N := 12) hx hb hts inX1 hown hE.1 hP 0 rfl rfl 8 (by decide) F289 (fun _ h9 => h9) rfl dX3_propertyOfPlayer_145 ?_
    refine lv_iload_n hx hb dX3_propertyOfPlayer_148 rfl (lv_at hl 1 rfl) ?_
    refine rd_S (rest := []) ⟨hx, hb, hml, hown, hts⟩ hP hE (c_X3_at l D K _ 9 _ 4 _ p rfl (by omega) (by omega)) (va_cwS 2 hts gX3_propertyOfPlayer_X3_at rfl rfl rfl hn_X3_at ⟨Nat.le_of_ble_eq_true rfl, Nat.le_of_ble_eq_true rfl⟩) rfl hl.1 rfl (Nat.le_of_ble_eq_true rfl) dX3_propertyOfPlayer_149 ⟨Nat.zero_le _, Nat.zero_le _⟩ ?_
    refine top_i (y := T 8 p) (rfl) ?_
    exact rd_iret hx hb hr hk dX3_propertyOfPlayer_152 (by first | rfl | (simp [ppT, bI, nI_0, nI_one]))
  · refine lv_tableOut (tgt := 153) hx hb dX3_propertyOfPlayer_1 (by decide) (by decide) ?_
    refine lv_aload_n hx hb dX3_propertyOfPlayer_153 rfl (lv_at hl 0 rfl) ?_
    refine va_get (D := D) (ci := 3) (v := .ref (a 0)) (C := RX3) (T := TX3) (N := 5) hx hb hts inX3 hown hE.1 hP 17 rfl rfl 0 (by decide) F12 (fun _ h9 => h9) rfl dX3_propertyOfPlayer_154 ?_
    refine va_get (D := D) (ci := 1) (v := .ref (a 10)) (C := RX1) (T := TX1) (N := 12) hx hb hts inX1 hown hE.1 hP 0 rfl rfl 9 (by decide) F292 (fun _ h9 => h9) rfl dX3_propertyOfPlayer_157 ?_
    refine lv_iload_n hx hb dX3_propertyOfPlayer_160 rfl (lv_at hl 1 rfl) ?_
    refine rd_S (rest := []) ⟨hx, hb, hml, hown, hts⟩ hP hE (c_X3_at l D K _ 10 _ 4 _ p rfl (by omega) (by omega)) (va_cwS 2 hts gX3_propertyOfPlayer_X3_at rfl rfl rfl hn_X3_at ⟨Nat.le_of_ble_eq_true rfl, Nat.le_of_ble_eq_true rfl⟩) rfl hl.1 rfl (Nat.le_of_ble_eq_true rfl) dX3_propertyOfPlayer_161 ⟨Nat.zero_le _, Nat.zero_le _⟩ ?_
    refine top_i (y := T 9 p) (rfl) ?_
    exact rd_iret hx hb hr hk dX3_propertyOfPlayer_164 (by first | rfl | (simp [ppT, bI, nI_0, nI_one]))
set_option maxHeartbeats 4000000 in
set_option maxRecDepth 100000 in
theorem c_X3_numberOf (l : Launch) (D : va_G) (K : Nat → ClassId) (a b t c : Nat → Nat) (g : Nat → Nat → Nat) (T : TW) (X : va_W) (len : Nat → Option Nat) (qu : Nat → Nat) (n : Nat) (cs : Nat → Nat) (ln sn : Nat) (Sv : Nat → TW) (hI : Inv T) (w : Nat) (hw : w < 8) : Rd l yX3_numberOf wsX3_numberOf ({ frames := 6, cells := 0, slots := 0, locals := 121 } : Room) D K (townW K a T ++ (waysW K b len qu n ++ (textW K t cs ln ++ (mainW K a b t c g sn ++ svW K g Sv X)))) [.ref (c 0), .int (nI w)] (.int (nbrT T sn w)) := by
  refine rd_intro (cc := cX3_numberOf) (maxL := 2) (ret := (some .int)) (by decide) rfl (Nat.le_of_ble_eq_true rfl) ?_
  intro pr en st md ar bl mt co hx hb hml hr hts hown hk hP hE ls hl
  have hown : st.vm.findClass RX3 = some md.cls := hown
  have hl : lv_has ls 2 [(0, .ref (c 0)), (1, .int (nI w))] := hl
  have F12 : (Cond.fieldLink RX3 12 "TramTolls" "town" "LTramTolls$Town;").before ar st = true := hts _ (List.mem_of_getElem? (i := 1) rfl)
  have inX3 : ∀ w ∈ u_ws RX3 TX3 5, w ∈ wsX3_numberOf := fun w h => List.mem_cons_of_mem _ (List.mem_append_left _ (List.mem_append_right _ h))
  have F60 : (Cond.fieldLink RX3 60 "TramTolls$Town" "houses" "[I").before ar st = true := hts _ (List.mem_of_getElem? (i := 2) rfl)
  have inX1 : ∀ w ∈ u_ws RX1 TX1 12, w ∈ wsX3_numberOf := fun w h => List.mem_cons_of_mem _ (List.mem_append_right _ h)
  have F305 : (Cond.fieldLink RX3 305 "TramTolls$Town" "piecesLaid" "I").before ar st = true := hts _ (List.mem_of_getElem? (i := 3) rfl)
  have F289 : (Cond.fieldLink RX3 289 "TramTolls$Town" "tollsPaid" "[I").before ar st = true := hts _ (List.mem_of_getElem? (i := 4) rfl)
  have F188 : (Cond.fieldLink RX3 188 "TramTolls" "savedCount" "I").before ar st = true := hts _ (List.mem_of_getElem? (i := 5) rfl)
  refine lv_iload_n hx hb dX3_numberOf_0 rfl (lv_at hl 1 rfl) ?_
  rcases (show w = 0 ∨ w = 1 ∨ w = 2 ∨ w = 3 ∨ w = 4 ∨ w = 5 ∨ w = 6 ∨ w = 7 by omega) with rfl | rfl | rfl | rfl | rfl | rfl | rfl | rfl
  · refine lv_tableIn (off := 43) (tgt := 44) hx hb dX3_numberOf_1 (by decide) (by decide) (by decide) (by decide) ?_
    refine lv_aload_n hx hb dX3_numberOf_44 rfl (lv_at hl 0 rfl) ?_
    refine va_get (D := D) (ci := 3) (v := .ref (a 0)) (C := RX3) (T := TX3) (N := 5) hx hb hts inX3 hown hE.1 hP 17 rfl rfl 0 (by decide) F12 (fun _ h9 => h9) rfl dX3_numberOf_45 ?_
    refine va_get (D := D) (ci := 1) (v := .ref (a 1)) (C := RX1) (T := TX1) (N := 12) hx hb hts inX1 hown hE.1 hP 0 rfl rfl 0 (by decide) F60 (fun _ h9 => h9) rfl dX3_numberOf_48 ?_
    refine rd_S (rest := []) ⟨hx, hb, hml, hown, hts⟩ hP hE (c_X3_sum l D K _ 1 _ 80 _ rfl (by decide)) (va_cwS 1 hts gX3_numberOf_X3_sum rfl rfl rfl hn_X3_sum ⟨Nat.le_of_ble_eq_true rfl, Nat.le_of_ble_eq_true rfl⟩) rfl hl.1 rfl (Nat.le_of_ble_eq_true rfl) dX3_numberOf_51 ⟨Nat.zero_le _, Nat.zero_le _⟩ ?_
    exact rd_iret hx hb hr hk dX3_numberOf_54 (by rfl)
  · refine lv_tableIn (off := 54) (tgt := 55) hx hb dX3_numberOf_1 (by decide) (by decide) (by decide) (by decide) ?_
    refine lv_aload_n hx hb dX3_numberOf_55 rfl (lv_at hl 0 rfl) ?_
    refine va_get (D := D) (ci := 3) (v := .ref (a 0)) (C := RX3) (T := TX3) (N := 5) hx hb hts inX3 hown hE.1 hP 17 rfl rfl 0 (by decide) F12 (fun _ h9 => h9) rfl dX3_numberOf_56 ?_
    refine rd_V (rest := []) (ci := 1) (q0 := 0) ⟨hx, hb, hml, hown, hts⟩ hP hE (c_X1_stopsThere l D K _ _ _  hI ) (cwV 0 hts gX3_numberOf_X1_stopsThere rfl rfl rfl hd_X1_stopsThere ⟨Nat.le_of_ble_eq_true rfl, Nat.le_of_ble_eq_true rfl⟩) rfl rfl rfl rfl hl.1 rfl (Nat.le_of_ble_eq_true rfl) dX3_numberOf_59 ⟨Nat.zero_le _, Nat.zero_le _⟩ ?_
    exact rd_iret hx hb hr hk dX3_numberOf_62 (by rfl)
  · refine lv_tableIn (off := 62) (tgt := 63) hx hb dX3_numberOf_1 (by decide) (by decide) (by decide) (by decide) ?_
    refine lv_aload_n hx hb dX3_numberOf_63 rfl (lv_at hl 0 rfl) ?_
    refine va_get (D := D) (ci := 3) (v := .ref (a 0)) (C := RX3) (T := TX3) (N := 5) hx hb hts inX3 hown hE.1 hP 17 rfl rfl 0 (by decide) F12 (fun _ h9 => h9) rfl dX3_numberOf_64 ?_
    refine lv_iconst (v := nI 1) hx hb dX3_numberOf_67 (by decide) ?_
    refine rd_V (rest := []) (ci := 1) (q0 := 0) ⟨hx, hb, hml, hown, hts⟩ hP hE (c_X1_squaresWithTracks l D K _ _ _ 1 hI (by omega)) (cwV 1 hts gX3_numberOf_X1_squaresWithTracks rfl rfl rfl hd_X1_squaresWithTracks ⟨Nat.le_of_ble_eq_true rfl, Nat.le_of_ble_eq_true rfl⟩) rfl rfl rfl rfl hl.1 rfl (Nat.le_of_ble_eq_true rfl) dX3_numberOf_68 ⟨Nat.zero_le _, Nat.zero_le _⟩ ?_
    have hb_1 := sw_le T 1
    exact rd_iret hx hb hr hk dX3_numberOf_71 (by rfl)
  · refine lv_tableIn (off := 71) (tgt := 72) hx hb dX3_numberOf_1 (by decide) (by decide) (by decide) (by decide) ?_
    refine lv_aload_n hx hb dX3_numberOf_72 rfl (lv_at hl 0 rfl) ?_
    refine va_get (D := D) (ci := 3) (v := .ref (a 0)) (C := RX3) (T := TX3) (N := 5) hx hb hts inX3 hown hE.1 hP 17 rfl rfl 0 (by decide) F12 (fun _ h9 => h9) rfl dX3_numberOf_73 ?_
    refine lv_iconst (v := nI 2) hx hb dX3_numberOf_76 (by decide) ?_
    refine rd_V (rest := []) (ci := 1) (q0 := 0) ⟨hx, hb, hml, hown, hts⟩ hP hE (c_X1_squaresWithTracks l D K _ _ _ 2 hI (by omega)) (cwV 1 hts gX3_numberOf_X1_squaresWithTracks rfl rfl rfl hd_X1_squaresWithTracks ⟨Nat.le_of_ble_eq_true rfl, Nat.le_of_ble_eq_true rfl⟩) rfl rfl rfl rfl hl.1 rfl (Nat.le_of_ble_eq_true rfl) dX3_numberOf_77 ⟨Nat.zero_le _, Nat.zero_le _⟩ ?_
    have hb_2 := sw_le T 2
    exact rd_iret hx hb hr hk dX3_numberOf_80 (by rfl)
  · refine lv_tableIn (off := 80) (tgt := 81) hx hb dX3_numberOf_1 (by decide) (by decide) (by decide) (by decide) ?_
    refine lv_aload_n hx hb dX3_numberOf_81 rfl (lv_at hl 0 rfl) ?_
    refine va_get (D := D) (ci := 3) (v := .ref (a 0)) (C := RX3) (T := TX3) (N := 5) hx hb hts inX3 hown hE.1 hP 17 rfl rfl 0 (by decide) F12 (fun _ h9 => h9) rfl dX3_numberOf_82 ?_
    refine va_get (D := D) (ci := 1) (v := .int (T 11 0)) (C := RX1) (T := TX1) (N := 12) hx hb hts inX1 hown hE.1 hP 0 rfl rfl 11 (by decide) F305 (fun _ h9 => h9) rfl dX3_numberOf_85 ?_
    exact rd_iret hx hb hr hk dX3_numberOf_88 (by rfl)
  · refine lv_tableIn (off := 88) (tgt := 89) hx hb dX3_numberOf_1 (by decide) (by decide) (by decide) (by decide) ?_
    refine lv_aload_n hx hb dX3_numberOf_89 rfl (lv_at hl 0 rfl) ?_
    refine va_get (D := D) (ci := 3) (v := .ref (a 0)) (C := RX3) (T := TX3) (N := 5) hx hb hts inX3 hown hE.1 hP 17 rfl rfl 0 (by decide) F12 (fun _ h9 => h9) rfl dX3_numberOf_90 ?_
    refine va_get (D := D) (ci := 1) (v := .ref (a 9)) (C := RX1) (T := TX1) (N := 12) hx hb hts inX1 hown hE.1 hP 0 rfl rfl 8 (by decide) F289 (fun _ h9 => h9) rfl dX3_numberOf_93 ?_
    refine rd_S (rest := []) ⟨hx, hb, hml, hown, hts⟩ hP hE (c_X3_sum l D K _ 9 _ 4 _ rfl (by decide)) (va_cwS 1 hts gX3_numberOf_X3_sum rfl rfl rfl hn_X3_sum ⟨Nat.le_of_ble_eq_true rfl, Nat.le_of_ble_eq_true rfl⟩) rfl hl.1 rfl (Nat.le_of_ble_eq_true rfl) dX3_numberOf_96 ⟨Nat.zero_le _, Nat.zero_le _⟩ ?_
    exact rd_iret hx hb hr hk dX3_numberOf_99 (by rfl)
  · refine lv_tableIn (off := 99) (tgt := 100) hx hb dX3_numberOf_1 (by decide) (by decide) (by decide) (by decide) ?_
    refine lv_aload_n hx hb dX3_numberOf_100 rfl (lv_at hl 0 rfl) ?_
    refine va_get (D := D) (ci := 3) (v := .ref (a 0)) (C := RX3) (T := TX3) (N := 5) hx hb hts inX3 hown hE.1 hP 17 rfl rfl 0 (by decide) F12 (fun _ h9 => h9) rfl dX3_numberOf_101 ?_
    refine rd_V (rest := []) (ci := 1) (q0 := 0) ⟨hx, hb, hml, hown, hts⟩ hP hE (c_X1_linesThatJoin l D K _ _ _  hI ) (cwV 0 hts gX3_numberOf_X1_linesThatJoin rfl rfl rfl hd_X1_linesThatJoin ⟨Nat.le_of_ble_eq_true rfl, Nat.le_of_ble_eq_true rfl⟩) rfl rfl rfl rfl hl.1 rfl (Nat.le_of_ble_eq_true rfl) dX3_numberOf_104 ⟨Nat.zero_le _, Nat.zero_le _⟩ ?_
    exact rd_iret hx hb hr hk dX3_numberOf_107 (by rfl)
  · refine lv_tableOut (tgt := 108) hx hb dX3_numberOf_1 (by decide) (by decide) ?_
    refine lv_aload_n hx hb dX3_numberOf_108 rfl (lv_at hl 0 rfl) ?_
    refine va_get (D := D) (ci := 3) (v := .int (nI sn)) (C := RX3) (T := TX3) (N := 5) hx hb hts inX3 hown hE.1 hP 17 rfl rfl 2 (by decide) F188 (fun _ h9 => h9) rfl dX3_numberOf_109 ?_
    exact rd_iret hx hb hr hk dX3_numberOf_112 (by rfl)
