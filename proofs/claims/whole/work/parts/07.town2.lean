theorem hd_X1_leader : yX1_leader.cls = RX1 ∧ yX1_leader.cls ≠ "java/lang/invoke/MethodHandle" ∧ yX1_leader.cls ≠ "java/lang/invoke/VarHandle" ∧ (parseMethodDescriptor yX1_leader.desc).map (fun d => d.parameters.length) = some 0 := by decide +kernel
theorem hn_X1_leader : yX1_leader.cls ≠ "java/lang/invoke/MethodHandle" ∧ yX1_leader.cls ≠ "java/lang/invoke/VarHandle" ∧ (parseMethodDescriptor yX1_leader.desc).map (fun d => d.parameters.length) = some 0 := hd_X1_leader.2
theorem hd_X3_lesser : yX3_lesser.cls = RX3 ∧ yX3_lesser.cls ≠ "java/lang/invoke/MethodHandle" ∧ yX3_lesser.cls ≠ "java/lang/invoke/VarHandle" ∧ (parseMethodDescriptor yX3_lesser.desc).map (fun d => d.parameters.length) = some 2 := by decide +kernel
theorem hn_X3_lesser : yX3_lesser.cls ≠ "java/lang/invoke/MethodHandle" ∧ yX3_lesser.cls ≠ "java/lang/invoke/VarHandle" ∧ (parseMethodDescriptor yX3_lesser.desc).map (fun d => d.parameters.length) = some 2 := hd_X3_lesser.2
theorem hd_J6_numberOfTrailingZeros_0f7a4 : yJ6_numberOfTrailingZeros_0f7a4.cls = RJ6 ∧ yJ6_numberOfTrailingZeros_0f7a4.cls ≠ "java/lang/invoke/MethodHandle" ∧ yJ6_numberOfTrailingZeros_0f7a4.cls ≠ "java/lang/invoke/VarHandle" ∧ (parseMethodDescriptor yJ6_numberOfTrailingZeros_0f7a4.desc).map (fun d => d.parameters.length) = some 1 := by decide +kernel
theorem hn_J6_numberOfTrailingZeros_0f7a4 : yJ6_numberOfTrailingZeros_0f7a4.cls ≠ "java/lang/invoke/MethodHandle" ∧ yJ6_numberOfTrailingZeros_0f7a4.cls ≠ "java/lang/invoke/VarHandle" ∧ (parseMethodDescriptor yJ6_numberOfTrailingZeros_0f7a4.desc).map (fun d => d.parameters.length) = some 1 := hd_J6_numberOfTrailingZeros_0f7a4.2
theorem hd_X1_layPiece : yX1_layPiece.cls = RX1 ∧ yX1_layPiece.cls ≠ "java/lang/invoke/MethodHandle" ∧ yX1_layPiece.cls ≠ "java/lang/invoke/VarHandle" ∧ (parseMethodDescriptor yX1_layPiece.desc).map (fun d => d.parameters.length) = some 3 := by decide +kernel
theorem hn_X1_layPiece : yX1_layPiece.cls ≠ "java/lang/invoke/MethodHandle" ∧ yX1_layPiece.cls ≠ "java/lang/invoke/VarHandle" ∧ (parseMethodDescriptor yX1_layPiece.desc).map (fun d => d.parameters.length) = some 3 := hd_X1_layPiece.2
theorem hd_X1_removeTrack : yX1_removeTrack.cls = RX1 ∧ yX1_removeTrack.cls ≠ "java/lang/invoke/MethodHandle" ∧ yX1_removeTrack.cls ≠ "java/lang/invoke/VarHandle" ∧ (parseMethodDescriptor yX1_removeTrack.desc).map (fun d => d.parameters.length) = some 2 := by decide +kernel
theorem hn_X1_removeTrack : yX1_removeTrack.cls ≠ "java/lang/invoke/MethodHandle" ∧ yX1_removeTrack.cls ≠ "java/lang/invoke/VarHandle" ∧ (parseMethodDescriptor yX1_removeTrack.desc).map (fun d => d.parameters.length) = some 2 := hd_X1_removeTrack.2
set_option maxHeartbeats 4000000 in
set_option maxRecDepth 100000 in
theorem c_X1_leader (l : Launch) (D : va_G) (K : Nat → ClassId) (a : Nat → Nat) (T : TW) (X : va_W)  (hI : Inv T) : Rd l yX1_leader wsX1_leader ({ frames := 4, cells := 0, slots := 0, locals := 78 } : Room) D K (townW K a T ++ X) [.ref (a 0)] (.int (nI (ldT T 4))) := by
  refine rd_intro (cc := cX1_leader) (maxL := 4) (ret := (some .int)) (by decide) rfl (Nat.le_of_ble_eq_true rfl) ?_
  intro pr en st md ar bl mt co hx hb hml hr hts hown hk hP hE ls hl
  have hown : st.vm.findClass RX1 = some md.cls := hown
  have hl : lv_has ls 4 [(0, .ref (a 0))] := hl
  have F27 : (Cond.fieldLink RX1 27 "TramTolls$Town" "coins" "[I").before ar st = true := hts _ (List.mem_of_getElem? (i := 1) rfl)
  have inX1 : ∀ w ∈ u_ws RX1 TX1 12, w ∈ wsX1_leader := fun w h => List.mem_cons_of_mem _ (List.mem_append_right _ h)
  have IniX3 : (Cond.initialized RX3).before ar st = true := hts _ (List.mem_of_getElem? (i := 10) rfl)
  have Sta_X3_at : (Cond.static yX3_at).before ar st = true := hts _ (List.mem_of_getElem? (i := 9) rfl)
  refine lv_iconst (v := nI 0) hx hb dX1_leader_0 (by decide) ?_
  refine lv_istore_n (lv' := [(1, .int (nI 0)), (0, .ref (a 0))]) hx hb dX1_leader_1 rfl hl (by decide) rfl (fun ls hl => ?_)
  refine lv_iconst (v := nI 1) hx hb dX1_leader_2 (by decide) ?_
  refine lv_istore_n (lv' := [(2, .int (nI 1)), (1, .int (nI 0)), (0, .ref (a 0))]) hx hb dX1_leader_3 rfl hl (by decide) rfl (fun ls hl => ?_)
  have loop_1 : ∀ (n_4 : Nat) (i : Nat), (1 ≤ i) → (i ≤ 4) → (4 - i) < n_4 →  ∀ x_1 : Int32, x_1 = nI (ldT T i) → ∀ x_2 : Int32, x_2 = nI i → ∀ ls : Array Slot, lv_has ls 4 [(0, .ref (a 0)), (1, .int x_1), (2, .int x_2)] → W pr l en (headSpec wsX1_leader ({ frames := 4, cells := 0, slots := 0, locals := 78 } : Room)).room st md ar bl mt co st.heap [] 0 0 (MQ bl (rdQ (.int (nI (ldT T 4)))) ar st 0 0 (fun _ => False)) (F0 md 4 ls []) := by
    intro n_4
    induction n_4 with
    | zero => intro i _ _ hn_4; exact absurd hn_4 (Nat.not_lt_zero _)
    | succ n_4 ih_4 =>
      intro i hi1 hi hn_4 x_1 ex_1 x_2 ex_2 ls hl
      subst ex_1
      subst ex_2
      have hl : lv_has ls 4 [(0, .ref (a 0)), (1, .int (nI (ldT T i))), (2, .int (nI i))] := hl
      have hld := ld_lt T i hi1
      refine lv_iload_n hx hb dX1_leader_4 rfl (lv_at hl 2 rfl) ?_
      refine lv_iconst (v := nI 4) hx hb dX1_leader_5 (by decide) ?_
      refine nv_icmp_ge (x := i) (y := 4) (tgt := 56) hx hb dX1_leader_6 (by decide) (by omega) (by decide) (fun c_2 => ?_) (fun c_2 => ?_)
      · have n_c_2 := Nat.not_lt.mpr c_2
        refine lv_iload_n hx hb dX1_leader_56 rfl (lv_at hl 1 rfl) ?_
        exact rd_iret hx hb hr hk dX1_leader_57 (by rw [show i = 4 from by omega])
      · have n_c_2 := Nat.not_le.mpr c_2
        refine lv_aload_n hx hb dX1_leader_9 rfl (lv_at hl 0 rfl) ?_
        refine lv_iload_n hx hb dX1_leader_10 rfl (lv_at hl 2 rfl) ?_
        refine rd_V (rest := []) (ci := 1) (q0 := 0) ⟨hx, hb, hml, hown, hts⟩ hP hE (c_X1_stopsReached l D K _ _ _ i hI (by omega)) (cwV 1 hts gX1_leader_X1_stopsReached rfl rfl rfl hd_X1_stopsReached ⟨Nat.le_of_ble_eq_true rfl, Nat.le_of_ble_eq_true rfl⟩) rfl rfl rfl rfl hl.1 rfl (Nat.le_of_ble_eq_true rfl) dX1_leader_11 ⟨Nat.zero_le _, Nat.zero_le _⟩ ?_
        have hb_3 := sr_le T i
        refine lv_aload_n hx hb dX1_leader_14 rfl (lv_at hl 0 rfl) ?_
        refine lv_iload_n hx hb dX1_leader_15 rfl (lv_at hl 1 rfl) ?_
        refine rd_V (rest := [.int (nI (srT T i))]) (ci := 1) (q0 := 0) ⟨hx, hb, hml, hown, hts⟩ hP hE (c_X1_stopsReached l D K _ _ _ (ldT T i) hI (by omega)) (cwV 1 hts gX1_leader_X1_stopsReached rfl rfl rfl hd_X1_stopsReached ⟨Nat.le_of_ble_eq_true rfl, Nat.le_of_ble_eq_true rfl⟩) rfl rfl rfl rfl hl.1 rfl (Nat.le_of_ble_eq_true rfl) dX1_leader_16 ⟨Nat.zero_le _, Nat.zero_le _⟩ ?_
        have hb_4 := sr_le T (ldT T i)
        refine lv_isub (x := nI (srT T i)) (y := nI (srT T (ldT T i))) hx hb dX1_leader_19 ?_
        refine lv_istore_n (lv' := [(3, .int ((nI (srT T i)) - (nI (srT T (ldT T i))))), (0, .ref (a 0)), (1, .int (nI (ldT T i))), (2, .int (nI i))]) hx hb dX1_leader_20 rfl hl (by decide) rfl (fun ls hl => ?_)
        refine lv_iload_n hx hb dX1_leader_21 rfl (lv_at hl 0 rfl) ?_
        refine lv_if_gt (x := (nI (srT T i)) - (nI (srT T (ldT T i)))) (tgt := 48) hx hb dX1_leader_22 (by decide) (fun c_5 => ?_) (fun c_5 => ?_)
        · have d_c_5 := (sub_gt (by omega) (by omega)).mp c_5
          refine lv_iload_n hx hb dX1_leader_48 rfl (lv_at hl 3 rfl) ?_
          refine lv_istore_n (lv' := [(1, .int (nI i)), (3, .int ((nI (srT T i)) - (nI (srT T (ldT T i))))), (0, .ref (a 0)), (2, .int (nI i))]) hx hb dX1_leader_49 rfl hl (by decide) rfl (fun ls hl => ?_)
          refine lv_iinc (v := nI (i + 1)) (lv' := [(2, .int (nI (i + 1))), (1, .int (nI i)), (3, .int ((nI (srT T i)) - (nI (srT T (ldT T i))))), (0, .ref (a 0))]) hx hb dX1_leader_50 hl (k := 3) rfl (nI_add _ 1) (by decide) rfl (fun ls hl => ?_)
          refine lv_goto (tgt := 4) hx hb dX1_leader_53 (by decide) ?_
          exact ih_4 (i + 1) (by omega) (by omega) (by omega) _ (by rw [ldT, if_neg (by omega), if_pos (by simp [btT, c_2, n_c_2, c_5, d_c_5])]) _ rfl ls (lv_sub hl [3, 1, 0] rfl)
        · have d_c_5 : ¬ srT T (ldT T i) < srT T i := fun q => c_5 ((sub_gt (by omega) (by omega)).mpr q)
          have e_c_5 := Nat.not_lt.mp d_c_5
          refine lv_iload_n hx hb dX1_leader_25 rfl (lv_at hl 0 rfl) ?_
          refine lv_if_ne (x := (nI (srT T i)) - (nI (srT T (ldT T i)))) (tgt := 50) hx hb dX1_leader_26 (by decide) (fun c_6 => ?_) (fun c_6 => ?_)
          · have d_c_6 : ¬ srT T i = srT T (ldT T i) := fun q => c_6 ((sub_eq0 (by omega) (by omega)).mpr q)
            refine lv_iinc (v := nI (i + 1)) (lv' := [(2, .int (nI (i + 1))), (3, .int ((nI (srT T i)) - (nI (srT T (ldT T i))))), (0, .ref (a 0)), (1, .int (nI (ldT T i)))]) hx hb dX1_leader_50 hl (k := 3) rfl (nI_add _ 1) (by decide) rfl (fun ls hl => ?_)
            refine lv_goto (tgt := 4) hx hb dX1_leader_53 (by decide) ?_
            exact ih_4 (i + 1) (by omega) (by omega) (by omega) _ (by rw [ldT, if_neg (by omega), if_neg (by simp [btT, c_2, n_c_2, c_5, d_c_5, e_c_5, c_6, d_c_6])]) _ rfl ls (lv_sub hl [2, 3, 0] rfl)
          · have d_c_6 := (sub_eq0 (by omega) (by omega)).mp c_6
            refine lv_aload_n hx hb dX1_leader_29 rfl (lv_at hl 1 rfl) ?_
            refine va_get (D := D) (ci := 1) (v := .ref (a 6)) (C := RX1) (T := TX1) (N := 12) hx hb hts inX1 hown hE.1 hP 0 rfl rfl 5 (by decide) F27 (fun _ h9 => h9) rfl dX1_leader_30 ?_
            refine lv_iload_n hx hb dX1_leader_33 rfl (lv_at hl 3 rfl) ?_
            refine rd_SN (rest := []) ⟨hx, hb, hml, hown, hts⟩ hP hE (c_X3_at l D K _ 6 _ 4 _ i rfl (by omega) (by omega)) (va_cnB (host := RX3) 2 hts gX1_leader_X3_at_n70 rfl rfl rfl hE.2.2.2.2.1 IniX3 hn_X3_at ⟨Nat.le_of_ble_eq_true rfl, Nat.le_of_ble_eq_true rfl⟩) Sta_X3_at rfl hl.1 rfl (Nat.le_of_ble_eq_true rfl) dX1_leader_34 ⟨Nat.zero_le _, Nat.zero_le _⟩ ?_
            refine top_i (y := coT T i) (rfl) ?_
            refine lv_aload_n hx hb dX1_leader_37 rfl (lv_at hl 1 rfl) ?_
            refine va_get (D := D) (ci := 1) (v := .ref (a 6)) (C := RX1) (T := TX1) (N := 12) hx hb hts inX1 hown hE.1 hP 0 rfl rfl 5 (by decide) F27 (fun _ h9 => h9) rfl dX1_leader_38 ?_
            refine lv_iload_n hx hb dX1_leader_41 rfl (lv_at hl 2 rfl) ?_
            refine rd_SN (rest := [.int (coT T i)]) ⟨hx, hb, hml, hown, hts⟩ hP hE (c_X3_at l D K _ 6 _ 4 _ (ldT T i) rfl (by omega) (by omega)) (va_cnB (host := RX3) 2 hts gX1_leader_X3_at_n70 rfl rfl rfl hE.2.2.2.2.1 IniX3 hn_X3_at ⟨Nat.le_of_ble_eq_true rfl, Nat.le_of_ble_eq_true rfl⟩) Sta_X3_at rfl hl.1 rfl (Nat.le_of_ble_eq_true rfl) dX1_leader_42 ⟨Nat.zero_le _, Nat.zero_le _⟩ ?_
            refine top_i (y := coT T (ldT T i)) (rfl) ?_
            refine lv_icmp_le (x := coT T i) (y := coT T (ldT T i)) (tgt := 50) hx hb dX1_leader_45 (by decide) (fun c_7 => ?_) (fun c_7 => ?_)
            · have n_c_7 := i_le_nlt c_7
              refine lv_iinc (v := nI (i + 1)) (lv' := [(2, .int (nI (i + 1))), (3, .int ((nI (srT T i)) - (nI (srT T (ldT T i))))), (0, .ref (a 0)), (1, .int (nI (ldT T i)))]) hx hb dX1_leader_50 hl (k := 3) rfl (nI_add _ 1) (by decide) rfl (fun ls hl => ?_)
              refine lv_goto (tgt := 4) hx hb dX1_leader_53 (by decide) ?_
              exact ih_4 (i + 1) (by omega) (by omega) (by omega) _ (by rw [ldT, if_neg (by omega), if_neg (by simp [btT, c_2, n_c_2, c_5, d_c_5, e_c_5, c_6, d_c_6, c_7, n_c_7])]) _ rfl ls (lv_sub hl [2, 3, 0] rfl)
            · have n_c_7 := i_nle_lt c_7
              refine lv_iload_n hx hb dX1_leader_48 rfl (lv_at hl 3 rfl) ?_
              refine lv_istore_n (lv' := [(1, .int (nI i)), (3, .int ((nI (srT T i)) - (nI (srT T (ldT T i))))), (0, .ref (a 0)), (2, .int (nI i))]) hx hb dX1_leader_49 rfl hl (by decide) rfl (fun ls hl => ?_)
              refine lv_iinc (v := nI (i + 1)) (lv' := [(2, .int (nI (i + 1))), (1, .int (nI i)), (3, .int ((nI (srT T i)) - (nI (srT T (ldT T i))))), (0, .ref (a 0))]) hx hb dX1_leader_50 hl (k := 3) rfl (nI_add _ 1) (by decide) rfl (fun ls hl => ?_)
              refine lv_goto (tgt := 4) hx hb dX1_leader_53 (by decide) ?_
              exact ih_4 (i + 1) (by omega) (by omega) (by omega) _ (by rw [ldT, if_neg (by omega), if_pos (by simp [btT, c_2, n_c_2, c_5, d_c_5, e_c_5, c_6, d_c_6, c_7, n_c_7])]) _ rfl ls (lv_sub hl [3, 1, 0] rfl)
  exact loop_1 _ 1 (by decide) (by decide) (Nat.lt_succ_self _) _ rfl _ rfl ls (lv_sub hl [2, 1, 0] rfl)
set_option maxHeartbeats 4000000 in
set_option maxRecDepth 100000 in
theorem c_X3_lesser (l : Launch) (D : va_G) (K : Nat → ClassId) (ws : va_W) (a b : Option Nat) (h1 : ∀ k, a = some k → k < 2 ^ 31) (h2 : ∀ k, b = some k → k < 2 ^ 31) : Rd l yX3_lesser wsX3_lesser ({ frames := 2, cells := 0, slots := 0, locals := 33 } : Room) D K (ws) [.int (oI a), .int (oI b)] (.int (oI (lesO a b))) := by
  refine rd_intro (cc := cX3_lesser) (maxL := 2) (ret := (some .int)) (by decide) rfl (Nat.le_of_ble_eq_true rfl) ?_
  intro pr en st md ar bl mt co hx hb hml hr hts hown hk hP hE ls hl
  have hown : st.vm.findClass RX3 = some md.cls := hown
  have hl : lv_has ls 2 [(0, .int (oI a)), (1, .int (oI b))] := hl
  have ML314 : (Cond.methodLink RX3 314 Lib.Math.min.name).before ar st = true := hts _ (List.mem_of_getElem? (i := 1) rfl)
  have MMs : (Cond.static Lib.Math.min.name).before ar st = true := hts _ (List.mem_of_getElem? (i := 2) rfl)
  have MMi : (Cond.initialized "java/lang/Math").before ar st = true := hts _ (List.mem_of_getElem? (i := 3) rfl)
  have MMc : (Cond.code Lib.Math.min.name Lib.Math.min.code 2 (some .int)).before ar st = true := hts _ (List.mem_of_getElem? (i := 4) rfl)
  refine lv_iload_n hx hb dX3_lesser_0 rfl (lv_at hl 0 rfl) ?_
  refine lv_iconst (v := -1) hx hb dX3_lesser_1 (by decide) ?_
  refine ov_icmp_eq (tgt := 10) hx hb dX3_lesser_2 (by decide) h1 (fun c_1 => ?_) (fun k_2 c_1 => ?_)
  · refine lv_iload_n hx hb dX3_lesser_10 rfl (lv_at hl 0 rfl) ?_
    refine lv_iconst (v := -1) hx hb dX3_lesser_11 (by decide) ?_
    refine ov_icmp_ne (tgt := 19) hx hb dX3_lesser_12 (by decide) h1 (fun k_4 c_3 => ?_) (fun c_3 => ?_)
    · have hk_c_3 := h1 k_4 c_3
      refine lv_iload_n hx hb dX3_lesser_19 rfl (lv_at hl 0 rfl) ?_
      refine top_i (y := nI k_4) (by rw [c_3]; rfl) ?_
      exact rd_iret hx hb hr hk dX3_lesser_20 (by first | (simp [lesO, oI_n, oI_s, c_1, c_3]; done) | simp_all [lesO, oI_n, oI_s])
    · refine lv_iload_n hx hb dX3_lesser_15 rfl (lv_at hl 1 rfl) ?_
      refine lv_goto (tgt := 20) hx hb dX3_lesser_16 (by decide) ?_
      exact rd_iret hx hb hr hk dX3_lesser_20 (by first | (simp [lesO, oI_n, oI_s, c_1, c_3]; done) | simp_all [lesO, oI_n, oI_s])
  · have hk_c_1 := h1 k_2 c_1
    refine lv_iload_n hx hb dX3_lesser_5 rfl (lv_at hl 1 rfl) ?_
    refine lv_iconst (v := -1) hx hb dX3_lesser_6 (by decide) ?_
    refine ov_icmp_ne (tgt := 21) hx hb dX3_lesser_7 (by decide) h2 (fun k_6 c_5 => ?_) (fun c_5 => ?_)
    · have hk_c_5 := h2 k_6 c_5
      refine lv_iload_n hx hb dX3_lesser_21 rfl (lv_at hl 0 rfl) ?_
      refine top_i (y := nI k_2) (by rw [c_1]; rfl) ?_
      refine lv_iload_n hx hb dX3_lesser_22 rfl (lv_at hl 1 rfl) ?_
      refine top_i (y := nI k_6) (by rw [c_5]; rfl) ?_
      refine va_mmin hx hb (hml.trans hl.1.symm) hown ML314 MMs MMi MMc (Nat.le_of_ble_eq_true rfl) (Nat.le_of_ble_eq_true rfl) (Nat.zero_le _) (Nat.zero_le _) dX3_lesser_23 ?_
      refine top_i (y := nI (Nat.min k_2 k_6)) (min_nI (by omega) (by omega)) ?_
      exact rd_iret hx hb hr hk dX3_lesser_26 (by first | (simp [lesO, oI_n, oI_s, c_1, c_5]; done) | simp_all [lesO, oI_n, oI_s])
    · refine lv_iload_n hx hb dX3_lesser_10 rfl (lv_at hl 0 rfl) ?_
      refine top_i (y := nI k_2) (by rw [c_1]; rfl) ?_
      refine lv_iconst (v := -1) hx hb dX3_lesser_11 (by decide) ?_
      refine lv_icmp_ne (x := nI k_2) (y := -1) (tgt := 19) hx hb dX3_lesser_12 (by decide) (fun c_7 => ?_) (fun c_7 => ?_)
      · refine lv_iload_n hx hb dX3_lesser_19 rfl (lv_at hl 0 rfl) ?_
        refine top_i (y := nI k_2) (by rw [c_1]; rfl) ?_
        exact rd_iret hx hb hr hk dX3_lesser_20 (by first | (simp [lesO, oI_n, oI_s, c_1, c_5, c_7]; done) | simp_all [lesO, oI_n, oI_s])
      · refine lv_iload_n hx hb dX3_lesser_15 rfl (lv_at hl 1 rfl) ?_
        refine lv_goto (tgt := 20) hx hb dX3_lesser_16 (by decide) ?_
        exact rd_iret hx hb hr hk dX3_lesser_20 (by first | (simp [lesO, oI_n, oI_s, c_1, c_5, c_7]; done) | simp_all [lesO, oI_n, oI_s])
set_option maxHeartbeats 4000000 in
set_option maxRecDepth 100000 in
theorem c_J6_numberOfTrailingZeros_0f7a4 (l : Launch) (D : va_G) (K : Nat → ClassId) (ws : va_W) (m : Nat) (h0 : 0 < m) (hm : m < 16) : Rd l yJ6_numberOfTrailingZeros_0f7a4 wsJ6_numberOfTrailingZeros_0f7a4 ({ frames := 1, cells := 0, slots := 0, locals := 12 } : Room) D K (ws) [.int (nI m)] (.int (nI (lob m))) := by
  refine rd_intro (cc := cJ6_numberOfTrailingZeros_0f7a4) (maxL := 2) (ret := (some .int)) (by decide) rfl (Nat.le_of_ble_eq_true rfl) ?_
  intro pr en st md ar bl mt co hx hb hml hr hts hown hk hP hE ls hl
  have hown : st.vm.findClass RJ6 = some md.cls := hown
  have hl : lv_has ls 2 [(0, .int (nI m))] := hl
  have C264 : (Cond.constant RJ6 264 (65536)).before ar st = true := hts _ (List.mem_of_getElem? (i := 1) rfl)
  refine lv_iload_n hx hb dJ6_numberOfTrailingZeros_0f7a4_0 rfl (lv_at hl 0 rfl) ?_
  refine lv_iconst (v := -1) hx hb dJ6_numberOfTrailingZeros_0f7a4_1 (by decide) ?_
  refine lv_ixor (x := nI m) (y := -1) hx hb dJ6_numberOfTrailingZeros_0f7a4_2 ?_
  refine lv_iload_n hx hb dJ6_numberOfTrailingZeros_0f7a4_3 rfl (lv_at hl 0 rfl) ?_
  refine lv_iconst (v := nI 1) hx hb dJ6_numberOfTrailingZeros_0f7a4_4 (by decide) ?_
  refine nv_isub (x := m) (y := 1) hx hb dJ6_numberOfTrailingZeros_0f7a4_5 (by omega) ?_
  refine lv_iand (x := (nI m) ^^^ (-1)) (y := nI (m - 1)) hx hb dJ6_numberOfTrailingZeros_0f7a4_6 ?_
  refine lv_istore_n (lv' := [(0, .int (((nI m) ^^^ (-1)) &&& (nI (m - 1))))]) hx hb dJ6_numberOfTrailingZeros_0f7a4_7 rfl hl (by decide) rfl (fun ls hl => ?_)
  refine lv_iload_n hx hb dJ6_numberOfTrailingZeros_0f7a4_8 rfl (lv_at hl 0 rfl) ?_
  refine lv_if_gt (x := ((nI m) ^^^ (-1)) &&& (nI (m - 1))) (tgt := 17) hx hb dJ6_numberOfTrailingZeros_0f7a4_9 (by decide) (fun c_1 => ?_) (fun c_1 => ?_)
  · refine lv_iconst (v := nI 1) hx hb dJ6_numberOfTrailingZeros_0f7a4_17 (by decide) ?_
    refine lv_istore_n (lv' := [(1, .int (nI 1)), (0, .int (((nI m) ^^^ (-1)) &&& (nI (m - 1))))]) hx hb dJ6_numberOfTrailingZeros_0f7a4_18 rfl hl (by decide) rfl (fun ls hl => ?_)
    refine lv_iload_n hx hb dJ6_numberOfTrailingZeros_0f7a4_19 rfl (lv_at hl 1 rfl) ?_
    refine lv_ldcw (v := nI 65536) hx hb hown C264 dJ6_numberOfTrailingZeros_0f7a4_20 ?_
    refine lv_icmp_le (x := ((nI m) ^^^ (-1)) &&& (nI (m - 1))) (y := nI 65536) (tgt := 34) hx hb dJ6_numberOfTrailingZeros_0f7a4_23 (by decide) (fun c_2 => ?_) (fun c_2 => ?_)
    · have n_c_2 := i_le_nlt c_2
      refine lv_iload_n hx hb dJ6_numberOfTrailingZeros_0f7a4_34 rfl (lv_at hl 1 rfl) ?_
      refine lv_sipush (v := nI 256) hx hb dJ6_numberOfTrailingZeros_0f7a4_35 (by decide) ?_
      refine lv_icmp_le (x := ((nI m) ^^^ (-1)) &&& (nI (m - 1))) (y := nI 256) (tgt := 49) hx hb dJ6_numberOfTrailingZeros_0f7a4_38 (by decide) (fun c_3 => ?_) (fun c_3 => ?_)
      · have n_c_3 := i_le_nlt c_3
        refine lv_iload_n hx hb dJ6_numberOfTrailingZeros_0f7a4_49 rfl (lv_at hl 1 rfl) ?_
        refine lv_bipush (v := nI 16) hx hb dJ6_numberOfTrailingZeros_0f7a4_50 (by decide) ?_
        refine lv_icmp_le (x := ((nI m) ^^^ (-1)) &&& (nI (m - 1))) (y := nI 16) (tgt := 62) hx hb dJ6_numberOfTrailingZeros_0f7a4_52 (by decide) (fun c_4 => ?_) (fun c_4 => ?_)
        · have n_c_4 := i_le_nlt c_4
          refine lv_iload_n hx hb dJ6_numberOfTrailingZeros_0f7a4_62 rfl (lv_at hl 1 rfl) ?_
          refine lv_iconst (v := nI 4) hx hb dJ6_numberOfTrailingZeros_0f7a4_63 (by decide) ?_
          refine lv_icmp_le (x := ((nI m) ^^^ (-1)) &&& (nI (m - 1))) (y := nI 4) (tgt := 74) hx hb dJ6_numberOfTrailingZeros_0f7a4_64 (by decide) (fun c_5 => ?_) (fun c_5 => ?_)
          · have n_c_5 := i_le_nlt c_5
            refine lv_iload_n hx hb dJ6_numberOfTrailingZeros_0f7a4_74 rfl (lv_at hl 0 rfl) ?_
            refine lv_iload_n hx hb dJ6_numberOfTrailingZeros_0f7a4_75 rfl (lv_at hl 1 rfl) ?_
            refine lv_iconst (v := nI 1) hx hb dJ6_numberOfTrailingZeros_0f7a4_76 (by decide) ?_
            refine lv_iushr (v := ((((nI m) ^^^ (-1)) &&& (nI (m - 1))).toUInt32 >>> ((nI 1).toUInt32 &&& Int32.toUInt32 31)).toInt32) hx hb dJ6_numberOfTrailingZeros_0f7a4_77 rfl ?_
            refine lv_iadd (x := nI 1) (y := ((((nI m) ^^^ (-1)) &&& (nI (m - 1))).toUInt32 >>> ((nI 1).toUInt32 &&& Int32.toUInt32 31)).toInt32) hx hb dJ6_numberOfTrailingZeros_0f7a4_78 ?_
            exact rd_iret hx hb hr hk dJ6_numberOfTrailingZeros_0f7a4_79 (by have h := (show ∀ m, m < 16 → ((!decide (0 < m)) || (!decide (0 < ((nI m) ^^^ (-1)) &&& (nI (m - 1)))) || (!decide (((nI m) ^^^ (-1)) &&& (nI (m - 1)) ≤ nI 65536)) || (!decide (((nI m) ^^^ (-1)) &&& (nI (m - 1)) ≤ nI 256)) || (!decide (((nI m) ^^^ (-1)) &&& (nI (m - 1)) ≤ nI 16)) || (!decide (((nI m) ^^^ (-1)) &&& (nI (m - 1)) ≤ nI 4)) || decide ((nI 1) + (((((nI m) ^^^ (-1)) &&& (nI (m - 1))).toUInt32 >>> ((nI 1).toUInt32 &&& Int32.toUInt32 31)).toInt32) = nI (lob m))) = true from by decide +kernel) m hm; simp only [h0, c_1, c_2, c_3, c_4, c_5, decide_true, Bool.not_true, Bool.false_or, not_false_eq_true, decide_eq_true_eq] at h; exact h)
          · have n_c_5 := i_nle_lt c_5
            refine lv_iinc (v := nI 3) (lv' := [(1, .int (nI 3)), (0, .int (((nI m) ^^^ (-1)) &&& (nI (m - 1))))]) hx hb dJ6_numberOfTrailingZeros_0f7a4_67 hl (k := 0) rfl (nI_add _ 2) (by decide) rfl (fun ls hl => ?_)
            refine lv_iload_n hx hb dJ6_numberOfTrailingZeros_0f7a4_70 rfl (lv_at hl 1 rfl) ?_
            refine lv_iconst (v := nI 2) hx hb dJ6_numberOfTrailingZeros_0f7a4_71 (by decide) ?_
            refine lv_iushr (v := ((((nI m) ^^^ (-1)) &&& (nI (m - 1))).toUInt32 >>> ((nI 2).toUInt32 &&& Int32.toUInt32 31)).toInt32) hx hb dJ6_numberOfTrailingZeros_0f7a4_72 rfl ?_
            refine lv_istore_n (lv' := [(0, .int (((((nI m) ^^^ (-1)) &&& (nI (m - 1))).toUInt32 >>> ((nI 2).toUInt32 &&& Int32.toUInt32 31)).toInt32)), (1, .int (nI 3))]) hx hb dJ6_numberOfTrailingZeros_0f7a4_73 rfl hl (by decide) rfl (fun ls hl => ?_)
            refine lv_iload_n hx hb dJ6_numberOfTrailingZeros_0f7a4_74 rfl (lv_at hl 1 rfl) ?_
            refine lv_iload_n hx hb dJ6_numberOfTrailingZeros_0f7a4_75 rfl (lv_at hl 0 rfl) ?_
            refine lv_iconst (v := nI 1) hx hb dJ6_numberOfTrailingZeros_0f7a4_76 (by decide) ?_
            refine lv_iushr (v := ((((((nI m) ^^^ (-1)) &&& (nI (m - 1))).toUInt32 >>> ((nI 2).toUInt32 &&& Int32.toUInt32 31)).toInt32).toUInt32 >>> ((nI 1).toUInt32 &&& Int32.toUInt32 31)).toInt32) hx hb dJ6_numberOfTrailingZeros_0f7a4_77 rfl ?_
            refine lv_iadd (x := nI 3) (y := ((((((nI m) ^^^ (-1)) &&& (nI (m - 1))).toUInt32 >>> ((nI 2).toUInt32 &&& Int32.toUInt32 31)).toInt32).toUInt32 >>> ((nI 1).toUInt32 &&& Int32.toUInt32 31)).toInt32) hx hb dJ6_numberOfTrailingZeros_0f7a4_78 ?_
            exact rd_iret hx hb hr hk dJ6_numberOfTrailingZeros_0f7a4_79 (by have h := (show ∀ m, m < 16 → ((!decide (0 < m)) || (!decide (0 < ((nI m) ^^^ (-1)) &&& (nI (m - 1)))) || (!decide (((nI m) ^^^ (-1)) &&& (nI (m - 1)) ≤ nI 65536)) || (!decide (((nI m) ^^^ (-1)) &&& (nI (m - 1)) ≤ nI 256)) || (!decide (((nI m) ^^^ (-1)) &&& (nI (m - 1)) ≤ nI 16)) || (!decide (¬ ((nI m) ^^^ (-1)) &&& (nI (m - 1)) ≤ nI 4)) || decide ((nI 3) + (((((((nI m) ^^^ (-1)) &&& (nI (m - 1))).toUInt32 >>> ((nI 2).toUInt32 &&& Int32.toUInt32 31)).toInt32).toUInt32 >>> ((nI 1).toUInt32 &&& Int32.toUInt32 31)).toInt32) = nI (lob m))) = true from by decide +kernel) m hm; simp only [h0, c_1, c_2, c_3, c_4, c_5, decide_true, Bool.not_true, Bool.false_or, not_false_eq_true, decide_eq_true_eq] at h; exact h)
        · have n_c_4 := i_nle_lt c_4
          refine lv_iinc (v := nI 5) (lv' := [(1, .int (nI 5)), (0, .int (((nI m) ^^^ (-1)) &&& (nI (m - 1))))]) hx hb dJ6_numberOfTrailingZeros_0f7a4_55 hl (k := 0) rfl (nI_add _ 4) (by decide) rfl (fun ls hl => ?_)
          refine lv_iload_n hx hb dJ6_numberOfTrailingZeros_0f7a4_58 rfl (lv_at hl 1 rfl) ?_
          refine lv_iconst (v := nI 4) hx hb dJ6_numberOfTrailingZeros_0f7a4_59 (by decide) ?_
          refine lv_iushr (v := ((((nI m) ^^^ (-1)) &&& (nI (m - 1))).toUInt32 >>> ((nI 4).toUInt32 &&& Int32.toUInt32 31)).toInt32) hx hb dJ6_numberOfTrailingZeros_0f7a4_60 rfl ?_
          refine lv_istore_n (lv' := [(0, .int (((((nI m) ^^^ (-1)) &&& (nI (m - 1))).toUInt32 >>> ((nI 4).toUInt32 &&& Int32.toUInt32 31)).toInt32)), (1, .int (nI 5))]) hx hb dJ6_numberOfTrailingZeros_0f7a4_61 rfl hl (by decide) rfl (fun ls hl => ?_)
          refine lv_iload_n hx hb dJ6_numberOfTrailingZeros_0f7a4_62 rfl (lv_at hl 0 rfl) ?_
          refine lv_iconst (v := nI 4) hx hb dJ6_numberOfTrailingZeros_0f7a4_63 (by decide) ?_
          refine lv_icmp_le (x := ((((nI m) ^^^ (-1)) &&& (nI (m - 1))).toUInt32 >>> ((nI 4).toUInt32 &&& Int32.toUInt32 31)).toInt32) (y := nI 4) (tgt := 74) hx hb dJ6_numberOfTrailingZeros_0f7a4_64 (by decide) (fun c_6 => ?_) (fun c_6 => ?_)
          · have n_c_6 := i_le_nlt c_6
            refine lv_iload_n hx hb dJ6_numberOfTrailingZeros_0f7a4_74 rfl (lv_at hl 1 rfl) ?_
            refine lv_iload_n hx hb dJ6_numberOfTrailingZeros_0f7a4_75 rfl (lv_at hl 0 rfl) ?_
            refine lv_iconst (v := nI 1) hx hb dJ6_numberOfTrailingZeros_0f7a4_76 (by decide) ?_
            refine lv_iushr (v := ((((((nI m) ^^^ (-1)) &&& (nI (m - 1))).toUInt32 >>> ((nI 4).toUInt32 &&& Int32.toUInt32 31)).toInt32).toUInt32 >>> ((nI 1).toUInt32 &&& Int32.toUInt32 31)).toInt32) hx hb dJ6_numberOfTrailingZeros_0f7a4_77 rfl ?_
            refine lv_iadd (x := nI 5) (y := ((((((nI m) ^^^ (-1)) &&& (nI (m - 1))).toUInt32 >>> ((nI 4).toUInt32 &&& Int32.toUInt32 31)).toInt32).toUInt32 >>> ((nI 1).toUInt32 &&& Int32.toUInt32 31)).toInt32) hx hb dJ6_numberOfTrailingZeros_0f7a4_78 ?_
            exact rd_iret hx hb hr hk dJ6_numberOfTrailingZeros_0f7a4_79 (by have h := (show ∀ m, m < 16 → ((!decide (0 < m)) || (!decide (0 < ((nI m) ^^^ (-1)) &&& (nI (m - 1)))) || (!decide (((nI m) ^^^ (-1)) &&& (nI (m - 1)) ≤ nI 65536)) || (!decide (((nI m) ^^^ (-1)) &&& (nI (m - 1)) ≤ nI 256)) || (!decide (¬ ((nI m) ^^^ (-1)) &&& (nI (m - 1)) ≤ nI 16)) || (!decide (((((nI m) ^^^ (-1)) &&& (nI (m - 1))).toUInt32 >>> ((nI 4).toUInt32 &&& Int32.toUInt32 31)).toInt32 ≤ nI 4)) || decide ((nI 5) + (((((((nI m) ^^^ (-1)) &&& (nI (m - 1))).toUInt32 >>> ((nI 4).toUInt32 &&& Int32.toUInt32 31)).toInt32).toUInt32 >>> ((nI 1).toUInt32 &&& Int32.toUInt32 31)).toInt32) = nI (lob m))) = true from by decide +kernel) m hm; simp only [h0, c_1, c_2, c_3, c_4, c_6, decide_true, Bool.not_true, Bool.false_or, not_false_eq_true, decide_eq_true_eq] at h; exact h)
          · have n_c_6 := i_nle_lt c_6
            refine lv_iinc (v := nI 7) (lv' := [(1, .int (nI 7)), (0, .int (((((nI m) ^^^ (-1)) &&& (nI (m - 1))).toUInt32 >>> ((nI 4).toUInt32 &&& Int32.toUInt32 31)).toInt32))]) hx hb dJ6_numberOfTrailingZeros_0f7a4_67 hl (k := 1) rfl (nI_add _ 2) (by decide) rfl (fun ls hl => ?_)
            refine lv_iload_n hx hb dJ6_numberOfTrailingZeros_0f7a4_70 rfl (lv_at hl 1 rfl) ?_
            refine lv_iconst (v := nI 2) hx hb dJ6_numberOfTrailingZeros_0f7a4_71 (by decide) ?_
            refine lv_iushr (v := ((((((nI m) ^^^ (-1)) &&& (nI (m - 1))).toUInt32 >>> ((nI 4).toUInt32 &&& Int32.toUInt32 31)).toInt32).toUInt32 >>> ((nI 2).toUInt32 &&& Int32.toUInt32 31)).toInt32) hx hb dJ6_numberOfTrailingZeros_0f7a4_72 rfl ?_
            refine lv_istore_n (lv' := [(0, .int (((((((nI m) ^^^ (-1)) &&& (nI (m - 1))).toUInt32 >>> ((nI 4).toUInt32 &&& Int32.toUInt32 31)).toInt32).toUInt32 >>> ((nI 2).toUInt32 &&& Int32.toUInt32 31)).toInt32)), (1, .int (nI 7))]) hx hb dJ6_numberOfTrailingZeros_0f7a4_73 rfl hl (by decide) rfl (fun ls hl => ?_)
            refine lv_iload_n hx hb dJ6_numberOfTrailingZeros_0f7a4_74 rfl (lv_at hl 1 rfl) ?_
            refine lv_iload_n hx hb dJ6_numberOfTrailingZeros_0f7a4_75 rfl (lv_at hl 0 rfl) ?_
            refine lv_iconst (v := nI 1) hx hb dJ6_numberOfTrailingZeros_0f7a4_76 (by decide) ?_
            refine lv_iushr (v := ((((((((nI m) ^^^ (-1)) &&& (nI (m - 1))).toUInt32 >>> ((nI 4).toUInt32 &&& Int32.toUInt32 31)).toInt32).toUInt32 >>> ((nI 2).toUInt32 &&& Int32.toUInt32 31)).toInt32).toUInt32 >>> ((nI 1).toUInt32 &&& Int32.toUInt32 31)).toInt32) hx hb dJ6_numberOfTrailingZeros_0f7a4_77 rfl ?_
            refine lv_iadd (x := nI 7) (y := ((((((((nI m) ^^^ (-1)) &&& (nI (m - 1))).toUInt32 >>> ((nI 4).toUInt32 &&& Int32.toUInt32 31)).toInt32).toUInt32 >>> ((nI 2).toUInt32 &&& Int32.toUInt32 31)).toInt32).toUInt32 >>> ((nI 1).toUInt32 &&& Int32.toUInt32 31)).toInt32) hx hb dJ6_numberOfTrailingZeros_0f7a4_78 ?_
            exact rd_iret hx hb hr hk dJ6_numberOfTrailingZeros_0f7a4_79 (by have h := (show ∀ m, m < 16 → ((!decide (0 < m)) || (!decide (0 < ((nI m) ^^^ (-1)) &&& (nI (m - 1)))) || (!decide (((nI m) ^^^ (-1)) &&& (nI (m - 1)) ≤ nI 65536)) || (!decide (((nI m) ^^^ (-1)) &&& (nI (m - 1)) ≤ nI 256)) || (!decide (¬ ((nI m) ^^^ (-1)) &&& (nI (m - 1)) ≤ nI 16)) || (!decide (¬ ((((nI m) ^^^ (-1)) &&& (nI (m - 1))).toUInt32 >>> ((nI 4).toUInt32 &&& Int32.toUInt32 31)).toInt32 ≤ nI 4)) || decide ((nI 7) + (((((((((nI m) ^^^ (-1)) &&& (nI (m - 1))).toUInt32 >>> ((nI 4).toUInt32 &&& Int32.toUInt32 31)).toInt32).toUInt32 >>> ((nI 2).toUInt32 &&& Int32.toUInt32 31)).toInt32).toUInt32 >>> ((nI 1).toUInt32 &&& Int32.toUInt32 31)).toInt32) = nI (lob m))) = true from by decide +kernel) m hm; simp only [h0, c_1, c_2, c_3, c_4, c_6, decide_true, Bool.not_true, Bool.false_or, not_false_eq_true, decide_eq_true_eq] at h; exact h)
      · have n_c_3 := i_nle_lt c_3
        refine lv_iinc (v := nI 9) (lv' := [(1, .int (nI 9)), (0, .int (((nI m) ^^^ (-1)) &&& (nI (m - 1))))]) hx hb dJ6_numberOfTrailingZeros_0f7a4_41 hl (k := 0) rfl (nI_add _ 8) (by decide) rfl (fun ls hl => ?_)
        refine lv_iload_n hx hb dJ6_numberOfTrailingZeros_0f7a4_44 rfl (lv_at hl 1 rfl) ?_
        refine lv_bipush (v := nI 8) hx hb dJ6_numberOfTrailingZeros_0f7a4_45 (by decide) ?_
        refine lv_iushr (v := ((((nI m) ^^^ (-1)) &&& (nI (m - 1))).toUInt32 >>> ((nI 8).toUInt32 &&& Int32.toUInt32 31)).toInt32) hx hb dJ6_numberOfTrailingZeros_0f7a4_47 rfl ?_
        refine lv_istore_n (lv' := [(0, .int (((((nI m) ^^^ (-1)) &&& (nI (m - 1))).toUInt32 >>> ((nI 8).toUInt32 &&& Int32.toUInt32 31)).toInt32)), (1, .int (nI 9))]) hx hb dJ6_numberOfTrailingZeros_0f7a4_48 rfl hl (by decide) rfl (fun ls hl => ?_)
        refine lv_iload_n hx hb dJ6_numberOfTrailingZeros_0f7a4_49 rfl (lv_at hl 0 rfl) ?_
        refine lv_bipush (v := nI 16) hx hb dJ6_numberOfTrailingZeros_0f7a4_50 (by decide) ?_
        refine lv_icmp_le (x := ((((nI m) ^^^ (-1)) &&& (nI (m - 1))).toUInt32 >>> ((nI 8).toUInt32 &&& Int32.toUInt32 31)).toInt32) (y := nI 16) (tgt := 62) hx hb dJ6_numberOfTrailingZeros_0f7a4_52 (by decide) (fun c_7 => ?_) (fun c_7 => ?_)
        · have n_c_7 := i_le_nlt c_7
          refine lv_iload_n hx hb dJ6_numberOfTrailingZeros_0f7a4_62 rfl (lv_at hl 0 rfl) ?_
          refine lv_iconst (v := nI 4) hx hb dJ6_numberOfTrailingZeros_0f7a4_63 (by decide) ?_
          refine lv_icmp_le (x := ((((nI m) ^^^ (-1)) &&& (nI (m - 1))).toUInt32 >>> ((nI 8).toUInt32 &&& Int32.toUInt32 31)).toInt32) (y := nI 4) (tgt := 74) hx hb dJ6_numberOfTrailingZeros_0f7a4_64 (by decide) (fun c_8 => ?_) (fun c_8 => ?_)
          · have n_c_8 := i_le_nlt c_8
            refine lv_iload_n hx hb dJ6_numberOfTrailingZeros_0f7a4_74 rfl (lv_at hl 1 rfl) ?_
            refine lv_iload_n hx hb dJ6_numberOfTrailingZeros_0f7a4_75 rfl (lv_at hl 0 rfl) ?_
            refine lv_iconst (v := nI 1) hx hb dJ6_numberOfTrailingZeros_0f7a4_76 (by decide) ?_
            refine lv_iushr (v := ((((((nI m) ^^^ (-1)) &&& (nI (m - 1))).toUInt32 >>> ((nI 8).toUInt32 &&& Int32.toUInt32 31)).toInt32).toUInt32 >>> ((nI 1).toUInt32 &&& Int32.toUInt32 31)).toInt32) hx hb dJ6_numberOfTrailingZeros_0f7a4_77 rfl ?_
            refine lv_iadd (x := nI 9) (y := ((((((nI m) ^^^ (-1)) &&& (nI (m - 1))).toUInt32 >>> ((nI 8).toUInt32 &&& Int32.toUInt32 31)).toInt32).toUInt32 >>> ((nI 1).toUInt32 &&& Int32.toUInt32 31)).toInt32) hx hb dJ6_numberOfTrailingZeros_0f7a4_78 ?_
            exact rd_iret hx hb hr hk dJ6_numberOfTrailingZeros_0f7a4_79 (by have h := (show ∀ m, m < 16 → ((!decide (0 < m)) || (!decide (0 < ((nI m) ^^^ (-1)) &&& (nI (m - 1)))) || (!decide (((nI m) ^^^ (-1)) &&& (nI (m - 1)) ≤ nI 65536)) || (!decide (¬ ((nI m) ^^^ (-1)) &&& (nI (m - 1)) ≤ nI 256)) || (!decide (((((nI m) ^^^ (-1)) &&& (nI (m - 1))).toUInt32 >>> ((nI 8).toUInt32 &&& Int32.toUInt32 31)).toInt32 ≤ nI 16)) || (!decide (((((nI m) ^^^ (-1)) &&& (nI (m - 1))).toUInt32 >>> ((nI 8).toUInt32 &&& Int32.toUInt32 31)).toInt32 ≤ nI 4)) || decide ((nI 9) + (((((((nI m) ^^^ (-1)) &&& (nI (m - 1))).toUInt32 >>> ((nI 8).toUInt32 &&& Int32.toUInt32 31)).toInt32).toUInt32 >>> ((nI 1).toUInt32 &&& Int32.toUInt32 31)).toInt32) = nI (lob m))) = true from by decide +kernel) m hm; simp only [h0, c_1, c_2, c_3, c_7, c_8, decide_true, Bool.not_true, Bool.false_or, not_false_eq_true, decide_eq_true_eq] at h; exact h)
          · have n_c_8 := i_nle_lt c_8
            refine lv_iinc (v := nI 11) (lv' := [(1, .int (nI 11)), (0, .int (((((nI m) ^^^ (-1)) &&& (nI (m - 1))).toUInt32 >>> ((nI 8).toUInt32 &&& Int32.toUInt32 31)).toInt32))]) hx hb dJ6_numberOfTrailingZeros_0f7a4_67 hl (k := 1) rfl (nI_add _ 2) (by decide) rfl (fun ls hl => ?_)
            refine lv_iload_n hx hb dJ6_numberOfTrailingZeros_0f7a4_70 rfl (lv_at hl 1 rfl) ?_
            refine lv_iconst (v := nI 2) hx hb dJ6_numberOfTrailingZeros_0f7a4_71 (by decide) ?_
            refine lv_iushr (v := ((((((nI m) ^^^ (-1)) &&& (nI (m - 1))).toUInt32 >>> ((nI 8).toUInt32 &&& Int32.toUInt32 31)).toInt32).toUInt32 >>> ((nI 2).toUInt32 &&& Int32.toUInt32 31)).toInt32) hx hb dJ6_numberOfTrailingZeros_0f7a4_72 rfl ?_
            refine lv_istore_n (lv' := [(0, .int (((((((nI m) ^^^ (-1)) &&& (nI (m - 1))).toUInt32 >>> ((nI 8).toUInt32 &&& Int32.toUInt32 31)).toInt32).toUInt32 >>> ((nI 2).toUInt32 &&& Int32.toUInt32 31)).toInt32)), (1, .int (nI 11))]) hx hb dJ6_numberOfTrailingZeros_0f7a4_73 rfl hl (by decide) rfl (fun ls hl => ?_)
            refine lv_iload_n hx hb dJ6_numberOfTrailingZeros_0f7a4_74 rfl (lv_at hl 1 rfl) ?_
            refine lv_iload_n hx hb dJ6_numberOfTrailingZeros_0f7a4_75 rfl (lv_at hl 0 rfl) ?_
            refine lv_iconst (v := nI 1) hx hb dJ6_numberOfTrailingZeros_0f7a4_76 (by decide) ?_
            refine lv_iushr (v := ((((((((nI m) ^^^ (-1)) &&& (nI (m - 1))).toUInt32 >>> ((nI 8).toUInt32 &&& Int32.toUInt32 31)).toInt32).toUInt32 >>> ((nI 2).toUInt32 &&& Int32.toUInt32 31)).toInt32).toUInt32 >>> ((nI 1).toUInt32 &&& Int32.toUInt32 31)).toInt32) hx hb dJ6_numberOfTrailingZeros_0f7a4_77 rfl ?_
            refine lv_iadd (x := nI 11) (y := ((((((((nI m) ^^^ (-1)) &&& (nI (m - 1))).toUInt32 >>> ((nI 8).toUInt32 &&& Int32.toUInt32 31)).toInt32).toUInt32 >>> ((nI 2).toUInt32 &&& Int32.toUInt32 31)).toInt32).toUInt32 >>> ((nI 1).toUInt32 &&& Int32.toUInt32 31)).toInt32) hx hb dJ6_numberOfTrailingZeros_0f7a4_78 ?_
            exact rd_iret hx hb hr hk dJ6_numberOfTrailingZeros_0f7a4_79 (by have h := (show ∀ m, m < 16 → ((!decide (0 < m)) || (!decide (0 < ((nI m) ^^^ (-1)) &&& (nI (m - 1)))) || (!decide (((nI m) ^^^ (-1)) &&& (nI (m - 1)) ≤ nI 65536)) || (!decide (¬ ((nI m) ^^^ (-1)) &&& (nI (m - 1)) ≤ nI 256)) || (!decide (((((nI m) ^^^ (-1)) &&& (nI (m - 1))).toUInt32 >>> ((nI 8).toUInt32 &&& Int32.toUInt32 31)).toInt32 ≤ nI 16)) || (!decide (¬ ((((nI m) ^^^ (-1)) &&& (nI (m - 1))).toUInt32 >>> ((nI 8).toUInt32 &&& Int32.toUInt32 31)).toInt32 ≤ nI 4)) || decide ((nI 11) + (((((((((nI m) ^^^ (-1)) &&& (nI (m - 1))).toUInt32 >>> ((nI 8).toUInt32 &&& Int32.toUInt32 31)).toInt32).toUInt32 >>> ((nI 2).toUInt32 &&& Int32.toUInt32 31)).toInt32).toUInt32 >>> ((nI 1).toUInt32 &&& Int32.toUInt32 31)).toInt32) = nI (lob m))) = true from by decide +kernel) m hm; simp only [h0, c_1, c_2, c_3, c_7, c_8, decide_true, Bool.not_true, Bool.false_or, not_false_eq_true, decide_eq_true_eq] at h; exact h)
        · have n_c_7 := i_nle_lt c_7
          refine lv_iinc (v := nI 13) (lv' := [(1, .int (nI 13)), (0, .int (((((nI m) ^^^ (-1)) &&& (nI (m - 1))).toUInt32 >>> ((nI 8).toUInt32 &&& Int32.toUInt32 31)).toInt32))]) hx hb dJ6_numberOfTrailingZeros_0f7a4_55 hl (k := 1) rfl (nI_add _ 4) (by decide) rfl (fun ls hl => ?_)
          refine lv_iload_n hx hb dJ6_numberOfTrailingZeros_0f7a4_58 rfl (lv_at hl 1 rfl) ?_
          refine lv_iconst (v := nI 4) hx hb dJ6_numberOfTrailingZeros_0f7a4_59 (by decide) ?_
          refine lv_iushr (v := ((((((nI m) ^^^ (-1)) &&& (nI (m - 1))).toUInt32 >>> ((nI 8).toUInt32 &&& Int32.toUInt32 31)).toInt32).toUInt32 >>> ((nI 4).toUInt32 &&& Int32.toUInt32 31)).toInt32) hx hb dJ6_numberOfTrailingZeros_0f7a4_60 rfl ?_
          refine lv_istore_n (lv' := [(0, .int (((((((nI m) ^^^ (-1)) &&& (nI (m - 1))).toUInt32 >>> ((nI 8).toUInt32 &&& Int32.toUInt32 31)).toInt32).toUInt32 >>> ((nI 4).toUInt32 &&& Int32.toUInt32 31)).toInt32)), (1, .int (nI 13))]) hx hb dJ6_numberOfTrailingZeros_0f7a4_61 rfl hl (by decide) rfl (fun ls hl => ?_)
          refine lv_iload_n hx hb dJ6_numberOfTrailingZeros_0f7a4_62 rfl (lv_at hl 0 rfl) ?_
          refine lv_iconst (v := nI 4) hx hb dJ6_numberOfTrailingZeros_0f7a4_63 (by decide) ?_
          refine lv_icmp_le (x := ((((((nI m) ^^^ (-1)) &&& (nI (m - 1))).toUInt32 >>> ((nI 8).toUInt32 &&& Int32.toUInt32 31)).toInt32).toUInt32 >>> ((nI 4).toUInt32 &&& Int32.toUInt32 31)).toInt32) (y := nI 4) (tgt := 74) hx hb dJ6_numberOfTrailingZeros_0f7a4_64 (by decide) (fun c_9 => ?_) (fun c_9 => ?_)
          · have n_c_9 := i_le_nlt c_9
            refine lv_iload_n hx hb dJ6_numberOfTrailingZeros_0f7a4_74 rfl (lv_at hl 1 rfl) ?_
            refine lv_iload_n hx hb dJ6_numberOfTrailingZeros_0f7a4_75 rfl (lv_at hl 0 rfl) ?_
            refine lv_iconst (v := nI 1) hx hb dJ6_numberOfTrailingZeros_0f7a4_76 (by decide) ?_
            refine lv_iushr (v := ((((((((nI m) ^^^ (-1)) &&& (nI (m - 1))).toUInt32 >>> ((nI 8).toUInt32 &&& Int32.toUInt32 31)).toInt32).toUInt32 >>> ((nI 4).toUInt32 &&& Int32.toUInt32 31)).toInt32).toUInt32 >>> ((nI 1).toUInt32 &&& Int32.toUInt32 31)).toInt32) hx hb dJ6_numberOfTrailingZeros_0f7a4_77 rfl ?_
            refine lv_iadd (x := nI 13) (y := ((((((((nI m) ^^^ (-1)) &&& (nI (m - 1))).toUInt32 >>> ((nI 8).toUInt32 &&& Int32.toUInt32 31)).toInt32).toUInt32 >>> ((nI 4).toUInt32 &&& Int32.toUInt32 31)).toInt32).toUInt32 >>> ((nI 1).toUInt32 &&& Int32.toUInt32 31)).toInt32) hx hb dJ6_numberOfTrailingZeros_0f7a4_78 ?_
            exact rd_iret hx hb hr hk dJ6_numberOfTrailingZeros_0f7a4_79 (by have h := (show ∀ m, m < 16 → ((!decide (0 < m)) || (!decide (0 < ((nI m) ^^^ (-1)) &&& (nI (m - 1)))) || (!decide (((nI m) ^^^ (-1)) &&& (nI (m - 1)) ≤ nI 65536)) || (!decide (¬ ((nI m) ^^^ (-1)) &&& (nI (m - 1)) ≤ nI 256)) || (!decide (¬ ((((nI m) ^^^ (-1)) &&& (nI (m - 1))).toUInt32 >>> ((nI 8).toUInt32 &&& Int32.toUInt32 31)).toInt32 ≤ nI 16)) || (!decide (((((((nI m) ^^^ (-1)) &&& (nI (m - 1))).toUInt32 >>> ((nI 8).toUInt32 &&& Int32.toUInt32 31)).toInt32).toUInt32 >>> ((nI 4).toUInt32 &&& Int32.toUInt32 31)).toInt32 ≤ nI 4)) || decide ((nI 13) + (((((((((nI m) ^^^ (-1)) &&& (nI (m - 1))).toUInt32 >>> ((nI 8).toUInt32 &&& Int32.toUInt32 31)).toInt32).toUInt32 >>> ((nI 4).toUInt32 &&& Int32.toUInt32 31)).toInt32).toUInt32 >>> ((nI 1).toUInt32 &&& Int32.toUInt32 31)).toInt32) = nI (lob m))) = true from by decide +kernel) m hm; simp only [h0, c_1, c_2, c_3, c_7, c_9, decide_true, Bool.not_true, Bool.false_or, not_false_eq_true, decide_eq_true_eq] at h; exact h)
          · have n_c_9 := i_nle_lt c_9
            refine lv_iinc (v := nI 15) (lv' := [(1, .int (nI 15)), (0, .int (((((((nI m) ^^^ (-1)) &&& (nI (m - 1))).toUInt32 >>> ((nI 8).toUInt32 &&& Int32.toUInt32 31)).toInt32).toUInt32 >>> ((nI 4).toUInt32 &&& Int32.toUInt32 31)).toInt32))]) hx hb dJ6_numberOfTrailingZeros_0f7a4_67 hl (k := 1) rfl (nI_add _ 2) (by decide) rfl (fun ls hl => ?_)
            refine lv_iload_n hx hb dJ6_numberOfTrailingZeros_0f7a4_70 rfl (lv_at hl 1 rfl) ?_
            refine lv_iconst (v := nI 2) hx hb dJ6_numberOfTrailingZeros_0f7a4_71 (by decide) ?_
            refine lv_iushr (v := ((((((((nI m) ^^^ (-1)) &&& (nI (m - 1))).toUInt32 >>> ((nI 8).toUInt32 &&& Int32.toUInt32 31)).toInt32).toUInt32 >>> ((nI 4).toUInt32 &&& Int32.toUInt32 31)).toInt32).toUInt32 >>> ((nI 2).toUInt32 &&& Int32.toUInt32 31)).toInt32) hx hb dJ6_numberOfTrailingZeros_0f7a4_72 rfl ?_
            refine lv_istore_n (lv' := [(0, .int (((((((((nI m) ^^^ (-1)) &&& (nI (m - 1))).toUInt32 >>> ((nI 8).toUInt32 &&& Int32.toUInt32 31)).toInt32).toUInt32 >>> ((nI 4).toUInt32 &&& Int32.toUInt32 31)).toInt32).toUInt32 >>> ((nI 2).toUInt32 &&& Int32.toUInt32 31)).toInt32)), (1, .int (nI 15))]) hx hb dJ6_numberOfTrailingZeros_0f7a4_73 rfl hl (by decide) rfl (fun ls hl => ?_)
            refine lv_iload_n hx hb dJ6_numberOfTrailingZeros_0f7a4_74 rfl (lv_at hl 1 rfl) ?_
            refine lv_iload_n hx hb dJ6_numberOfTrailingZeros_0f7a4_75 rfl (lv_at hl 0 rfl) ?_
            refine lv_iconst (v := nI 1) hx hb dJ6_numberOfTrailingZeros_0f7a4_76 (by decide) ?_
            refine lv_iushr (v := ((((((((((nI m) ^^^ (-1)) &&& (nI (m - 1))).toUInt32 >>> ((nI 8).toUInt32 &&& Int32.toUInt32 31)).toInt32).toUInt32 >>> ((nI 4).toUInt32 &&& Int32.toUInt32 31)).toInt32).toUInt32 >>> ((nI 2).toUInt32 &&& Int32.toUInt32 31)).toInt32).toUInt32 >>> ((nI 1).toUInt32 &&& Int32.toUInt32 31)).toInt32) hx hb dJ6_numberOfTrailingZeros_0f7a4_77 rfl ?_
            refine lv_iadd (x := nI 15) (y := ((((((((((nI m) ^^^ (-1)) &&& (nI (m - 1))).toUInt32 >>> ((nI 8).toUInt32 &&& Int32.toUInt32 31)).toInt32).toUInt32 >>> ((nI 4).toUInt32 &&& Int32.toUInt32 31)).toInt32).toUInt32 >>> ((nI 2).toUInt32 &&& Int32.toUInt32 31)).toInt32).toUInt32 >>> ((nI 1).toUInt32 &&& Int32.toUInt32 31)).toInt32) hx hb dJ6_numberOfTrailingZeros_0f7a4_78 ?_
            exact rd_iret hx hb hr hk dJ6_numberOfTrailingZeros_0f7a4_79 (by have h := (show ∀ m, m < 16 → ((!decide (0 < m)) || (!decide (0 < ((nI m) ^^^ (-1)) &&& (nI (m - 1)))) || (!decide (((nI m) ^^^ (-1)) &&& (nI (m - 1)) ≤ nI 65536)) || (!decide (¬ ((nI m) ^^^ (-1)) &&& (nI (m - 1)) ≤ nI 256)) || (!decide (¬ ((((nI m) ^^^ (-1)) &&& (nI (m - 1))).toUInt32 >>> ((nI 8).toUInt32 &&& Int32.toUInt32 31)).toInt32 ≤ nI 16)) || (!decide (¬ ((((((nI m) ^^^ (-1)) &&& (nI (m - 1))).toUInt32 >>> ((nI 8).toUInt32 &&& Int32.toUInt32 31)).toInt32).toUInt32 >>> ((nI 4).toUInt32 &&& Int32.toUInt32 31)).toInt32 ≤ nI 4)) || decide ((nI 15) + (((((((((((nI m) ^^^ (-1)) &&& (nI (m - 1))).toUInt32 >>> ((nI 8).toUInt32 &&& Int32.toUInt32 31)).toInt32).toUInt32 >>> ((nI 4).toUInt32 &&& Int32.toUInt32 31)).toInt32).toUInt32 >>> ((nI 2).toUInt32 &&& Int32.toUInt32 31)).toInt32).toUInt32 >>> ((nI 1).toUInt32 &&& Int32.toUInt32 31)).toInt32) = nI (lob m))) = true from by decide +kernel) m hm; simp only [h0, c_1, c_2, c_3, c_7, c_9, decide_true, Bool.not_true, Bool.false_or, not_false_eq_true, decide_eq_true_eq] at h; exact h)
    · have n_c_2 := i_nle_lt c_2
      refine lv_iinc (v := nI 17) (lv' := [(1, .int (nI 17)), (0, .int (((nI m) ^^^ (-1)) &&& (nI (m - 1))))]) hx hb dJ6_numberOfTrailingZeros_0f7a4_26 hl (k := 0) rfl (nI_add _ 16) (by decide) rfl (fun ls hl => ?_)
      refine lv_iload_n hx hb dJ6_numberOfTrailingZeros_0f7a4_29 rfl (lv_at hl 1 rfl) ?_
      refine lv_bipush (v := nI 16) hx hb dJ6_numberOfTrailingZeros_0f7a4_30 (by decide) ?_
      refine lv_iushr (v := ((((nI m) ^^^ (-1)) &&& (nI (m - 1))).toUInt32 >>> ((nI 16).toUInt32 &&& Int32.toUInt32 31)).toInt32) hx hb dJ6_numberOfTrailingZeros_0f7a4_32 rfl ?_
      refine lv_istore_n (lv' := [(0, .int (((((nI m) ^^^ (-1)) &&& (nI (m - 1))).toUInt32 >>> ((nI 16).toUInt32 &&& Int32.toUInt32 31)).toInt32)), (1, .int (nI 17))]) hx hb dJ6_numberOfTrailingZeros_0f7a4_33 rfl hl (by decide) rfl (fun ls hl => ?_)
      refine lv_iload_n hx hb dJ6_numberOfTrailingZeros_0f7a4_34 rfl (lv_at hl 0 rfl) ?_
      refine lv_sipush (v := nI 256) hx hb dJ6_numberOfTrailingZeros_0f7a4_35 (by decide) ?_
      refine lv_icmp_le (x := ((((nI m) ^^^ (-1)) &&& (nI (m - 1))).toUInt32 >>> ((nI 16).toUInt32 &&& Int32.toUInt32 31)).toInt32) (y := nI 256) (tgt := 49) hx hb dJ6_numberOfTrailingZeros_0f7a4_38 (by decide) (fun c_10 => ?_) (fun c_10 => ?_)
      · have n_c_10 := i_le_nlt c_10
        refine lv_iload_n hx hb dJ6_numberOfTrailingZeros_0f7a4_49 rfl (lv_at hl 0 rfl) ?_
        refine lv_bipush (v := nI 16) hx hb dJ6_numberOfTrailingZeros_0f7a4_50 (by decide) ?_
        refine lv_icmp_le (x := ((((nI m) ^^^ (-1)) &&& (nI (m - 1))).toUInt32 >>> ((nI 16).toUInt32 &&& Int32.toUInt32 31)).toInt32) (y := nI 16) (tgt := 62) hx hb dJ6_numberOfTrailingZeros_0f7a4_52 (by decide) (fun c_11 => ?_) (fun c_11 => ?_)
        · have n_c_11 := i_le_nlt c_11
          refine lv_iload_n hx hb dJ6_numberOfTrailingZeros_0f7a4_62 rfl (lv_at hl 0 rfl) ?_
          refine lv_iconst (v := nI 4) hx hb dJ6_numberOfTrailingZeros_0f7a4_63 (by decide) ?_
          refine lv_icmp_le (x := ((((nI m) ^^^ (-1)) &&& (nI (m - 1))).toUInt32 >>> ((nI 16).toUInt32 &&& Int32.toUInt32 31)).toInt32) (y := nI 4) (tgt := 74) hx hb dJ6_numberOfTrailingZeros_0f7a4_64 (by decide) (fun c_12 => ?_) (fun c_12 => ?_)
          · have n_c_12 := i_le_nlt c_12
            refine lv_iload_n hx hb dJ6_numberOfTrailingZeros_0f7a4_74 rfl (lv_at hl 1 rfl) ?_
            refine lv_iload_n hx hb dJ6_numberOfTrailingZeros_0f7a4_75 rfl (lv_at hl 0 rfl) ?_
            refine lv_iconst (v := nI 1) hx hb dJ6_numberOfTrailingZeros_0f7a4_76 (by decide) ?_
            refine lv_iushr (v := ((((((nI m) ^^^ (-1)) &&& (nI (m - 1))).toUInt32 >>> ((nI 16).toUInt32 &&& Int32.toUInt32 31)).toInt32).toUInt32 >>> ((nI 1).toUInt32 &&& Int32.toUInt32 31)).toInt32) hx hb dJ6_numberOfTrailingZeros_0f7a4_77 rfl ?_
            refine lv_iadd (x := nI 17) (y := ((((((nI m) ^^^ (-1)) &&& (nI (m - 1))).toUInt32 >>> ((nI 16).toUInt32 &&& Int32.toUInt32 31)).toInt32).toUInt32 >>> ((nI 1).toUInt32 &&& Int32.toUInt32 31)).toInt32) hx hb dJ6_numberOfTrailingZeros_0f7a4_78 ?_
            exact rd_iret hx hb hr hk dJ6_numberOfTrailingZeros_0f7a4_79 (by have h := (show ∀ m, m < 16 → ((!decide (0 < m)) || (!decide (0 < ((nI m) ^^^ (-1)) &&& (nI (m - 1)))) || (!decide (¬ ((nI m) ^^^ (-1)) &&& (nI (m - 1)) ≤ nI 65536)) || (!decide (((((nI m) ^^^ (-1)) &&& (nI (m - 1))).toUInt32 >>> ((nI 16).toUInt32 &&& Int32.toUInt32 31)).toInt32 ≤ nI 256)) || (!decide (((((nI m) ^^^ (-1)) &&& (nI (m - 1))).toUInt32 >>> ((nI 16).toUInt32 &&& Int32.toUInt32 31)).toInt32 ≤ nI 16)) || (!decide (((((nI m) ^^^ (-1)) &&& (nI (m - 1))).toUInt32 >>> ((nI 16).toUInt32 &&& Int32.toUInt32 31)).toInt32 ≤ nI 4)) || decide ((nI 17) + (((((((nI m) ^^^ (-1)) &&& (nI (m - 1))).toUInt32 >>> ((nI 16).toUInt32 &&& Int32.toUInt32 31)).toInt32).toUInt32 >>> ((nI 1).toUInt32 &&& Int32.toUInt32 31)).toInt32) = nI (lob m))) = true from by decide +kernel) m hm; simp only [h0, c_1, c_2, c_10, c_11, c_12, decide_true, Bool.not_true, Bool.false_or, not_false_eq_true, decide_eq_true_eq] at h; exact h)
          · have n_c_12 := i_nle_lt c_12
            refine lv_iinc (v := nI 19) (lv' := [(1, .int (nI 19)), (0, .int (((((nI m) ^^^ (-1)) &&& (nI (m - 1))).toUInt32 >>> ((nI 16).toUInt32 &&& Int32.toUInt32 31)).toInt32))]) hx hb dJ6_numberOfTrailingZeros_0f7a4_67 hl (k := 1) rfl (nI_add _ 2) (by decide) rfl (fun ls hl => ?_)
            refine lv_iload_n hx hb dJ6_numberOfTrailingZeros_0f7a4_70 rfl (lv_at hl 1 rfl) ?_
            refine lv_iconst (v := nI 2) hx hb dJ6_numberOfTrailingZeros_0f7a4_71 (by decide) ?_
            refine lv_iushr (v := ((((((nI m) ^^^ (-1)) &&& (nI (m - 1))).toUInt32 >>> ((nI 16).toUInt32 &&& Int32.toUInt32 31)).toInt32).toUInt32 >>> ((nI 2).toUInt32 &&& Int32.toUInt32 31)).toInt32) hx hb dJ6_numberOfTrailingZeros_0f7a4_72 rfl ?_
            refine lv_istore_n (lv' := [(0, .int (((((((nI m) ^^^ (-1)) &&& (nI (m - 1))).toUInt32 >>> ((nI 16).toUInt32 &&& Int32.toUInt32 31)).toInt32).toUInt32 >>> ((nI 2).toUInt32 &&& Int32.toUInt32 31)).toInt32)), (1, .int (nI 19))]) hx hb dJ6_numberOfTrailingZeros_0f7a4_73 rfl hl (by decide) rfl (fun ls hl => ?_)
            refine lv_iload_n hx hb dJ6_numberOfTrailingZeros_0f7a4_74 rfl (lv_at hl 1 rfl) ?_
            refine lv_iload_n hx hb dJ6_numberOfTrailingZeros_0f7a4_75 rfl (lv_at hl 0 rfl) ?_
            refine lv_iconst (v := nI 1) hx hb dJ6_numberOfTrailingZeros_0f7a4_76 (by decide) ?_
            refine lv_iushr (v := ((((((((nI m) ^^^ (-1)) &&& (nI (m - 1))).toUInt32 >>> ((nI 16).toUInt32 &&& Int32.toUInt32 31)).toInt32).toUInt32 >>> ((nI 2).toUInt32 &&& Int32.toUInt32 31)).toInt32).toUInt32 >>> ((nI 1).toUInt32 &&& Int32.toUInt32 31)).toInt32) hx hb dJ6_numberOfTrailingZeros_0f7a4_77 rfl ?_
            refine lv_iadd (x := nI 19) (y := ((((((((nI m) ^^^ (-1)) &&& (nI (m - 1))).toUInt32 >>> ((nI 16).toUInt32 &&& Int32.toUInt32 31)).toInt32).toUInt32 >>> ((nI 2).toUInt32 &&& Int32.toUInt32 31)).toInt32).toUInt32 >>> ((nI 1).toUInt32 &&& Int32.toUInt32 31)).toInt32) hx hb dJ6_numberOfTrailingZeros_0f7a4_78 ?_
            exact rd_iret hx hb hr hk dJ6_numberOfTrailingZeros_0f7a4_79 (by have h := (show ∀ m, m < 16 → ((!decide (0 < m)) || (!decide (0 < ((nI m) ^^^ (-1)) &&& (nI (m - 1)))) || (!decide (¬ ((nI m) ^^^ (-1)) &&& (nI (m - 1)) ≤ nI 65536)) || (!decide (((((nI m) ^^^ (-1)) &&& (nI (m - 1))).toUInt32 >>> ((nI 16).toUInt32 &&& Int32.toUInt32 31)).toInt32 ≤ nI 256)) || (!decide (((((nI m) ^^^ (-1)) &&& (nI (m - 1))).toUInt32 >>> ((nI 16).toUInt32 &&& Int32.toUInt32 31)).toInt32 ≤ nI 16)) || (!decide (¬ ((((nI m) ^^^ (-1)) &&& (nI (m - 1))).toUInt32 >>> ((nI 16).toUInt32 &&& Int32.toUInt32 31)).toInt32 ≤ nI 4)) || decide ((nI 19) + (((((((((nI m) ^^^ (-1)) &&& (nI (m - 1))).toUInt32 >>> ((nI 16).toUInt32 &&& Int32.toUInt32 31)).toInt32).toUInt32 >>> ((nI 2).toUInt32 &&& Int32.toUInt32 31)).toInt32).toUInt32 >>> ((nI 1).toUInt32 &&& Int32.toUInt32 31)).toInt32) = nI (lob m))) = true from by decide +kernel) m hm; simp only [h0, c_1, c_2, c_10, c_11, c_12, decide_true, Bool.not_true, Bool.false_or, not_false_eq_true, decide_eq_true_eq] at h; exact h)
        · have n_c_11 := i_nle_lt c_11
          refine lv_iinc (v := nI 21) (lv' := [(1, .int (nI 21)), (0, .int (((((nI m) ^^^ (-1)) &&& (nI (m - 1))).toUInt32 >>> ((nI 16).toUInt32 &&& Int32.toUInt32 31)).toInt32))]) hx hb dJ6_numberOfTrailingZeros_0f7a4_55 hl (k := 1) rfl (nI_add _ 4) (by decide) rfl (fun ls hl => ?_)
          refine lv_iload_n hx hb dJ6_numberOfTrailingZeros_0f7a4_58 rfl (lv_at hl 1 rfl) ?_
          refine lv_iconst (v := nI 4) hx hb dJ6_numberOfTrailingZeros_0f7a4_59 (by decide) ?_
          refine lv_iushr (v := ((((((nI m) ^^^ (-1)) &&& (nI (m - 1))).toUInt32 >>> ((nI 16).toUInt32 &&& Int32.toUInt32 31)).toInt32).toUInt32 >>> ((nI 4).toUInt32 &&& Int32.toUInt32 31)).toInt32) hx hb dJ6_numberOfTrailingZeros_0f7a4_60 rfl ?_
          refine lv_istore_n (lv' := [(0, .int (((((((nI m) ^^^ (-1)) &&& (nI (m - 1))).toUInt32 >>> ((nI 16).toUInt32 &&& Int32.toUInt32 31)).toInt32).toUInt32 >>> ((nI 4).toUInt32 &&& Int32.toUInt32 31)).toInt32)), (1, .int (nI 21))]) hx hb dJ6_numberOfTrailingZeros_0f7a4_61 rfl hl (by decide) rfl (fun ls hl => ?_)
          refine lv_iload_n hx hb dJ6_numberOfTrailingZeros_0f7a4_62 rfl (lv_at hl 0 rfl) ?_
          refine lv_iconst (v := nI 4) hx hb dJ6_numberOfTrailingZeros_0f7a4_63 (by decide) ?_
          refine lv_icmp_le (x := ((((((nI m) ^^^ (-1)) &&& (nI (m - 1))).toUInt32 >>> ((nI 16).toUInt32 &&& Int32.toUInt32 31)).toInt32).toUInt32 >>> ((nI 4).toUInt32 &&& Int32.toUInt32 31)).toInt32) (y := nI 4) (tgt := 74) hx hb dJ6_numberOfTrailingZeros_0f7a4_64 (by decide) (fun c_13 => ?_) (fun c_13 => ?_)
          · have n_c_13 := i_le_nlt c_13
            refine lv_iload_n hx hb dJ6_numberOfTrailingZeros_0f7a4_74 rfl (lv_at hl 1 rfl) ?_
            refine lv_iload_n hx hb dJ6_numberOfTrailingZeros_0f7a4_75 rfl (lv_at hl 0 rfl) ?_
            refine lv_iconst (v := nI 1) hx hb dJ6_numberOfTrailingZeros_0f7a4_76 (by decide) ?_
            refine lv_iushr (v := ((((((((nI m) ^^^ (-1)) &&& (nI (m - 1))).toUInt32 >>> ((nI 16).toUInt32 &&& Int32.toUInt32 31)).toInt32).toUInt32 >>> ((nI 4).toUInt32 &&& Int32.toUInt32 31)).toInt32).toUInt32 >>> ((nI 1).toUInt32 &&& Int32.toUInt32 31)).toInt32) hx hb dJ6_numberOfTrailingZeros_0f7a4_77 rfl ?_
            refine lv_iadd (x := nI 21) (y := ((((((((nI m) ^^^ (-1)) &&& (nI (m - 1))).toUInt32 >>> ((nI 16).toUInt32 &&& Int32.toUInt32 31)).toInt32).toUInt32 >>> ((nI 4).toUInt32 &&& Int32.toUInt32 31)).toInt32).toUInt32 >>> ((nI 1).toUInt32 &&& Int32.toUInt32 31)).toInt32) hx hb dJ6_numberOfTrailingZeros_0f7a4_78 ?_
            exact rd_iret hx hb hr hk dJ6_numberOfTrailingZeros_0f7a4_79 (by have h := (show ∀ m, m < 16 → ((!decide (0 < m)) || (!decide (0 < ((nI m) ^^^ (-1)) &&& (nI (m - 1)))) || (!decide (¬ ((nI m) ^^^ (-1)) &&& (nI (m - 1)) ≤ nI 65536)) || (!decide (((((nI m) ^^^ (-1)) &&& (nI (m - 1))).toUInt32 >>> ((nI 16).toUInt32 &&& Int32.toUInt32 31)).toInt32 ≤ nI 256)) || (!decide (¬ ((((nI m) ^^^ (-1)) &&& (nI (m - 1))).toUInt32 >>> ((nI 16).toUInt32 &&& Int32.toUInt32 31)).toInt32 ≤ nI 16)) || (!decide (((((((nI m) ^^^ (-1)) &&& (nI (m - 1))).toUInt32 >>> ((nI 16).toUInt32 &&& Int32.toUInt32 31)).toInt32).toUInt32 >>> ((nI 4).toUInt32 &&& Int32.toUInt32 31)).toInt32 ≤ nI 4)) || decide ((nI 21) + (((((((((nI m) ^^^ (-1)) &&& (nI (m - 1))).toUInt32 >>> ((nI 16).toUInt32 &&& Int32.toUInt32 31)).toInt32).toUInt32 >>> ((nI 4).toUInt32 &&& Int32.toUInt32 31)).toInt32).toUInt32 >>> ((nI 1).toUInt32 &&& Int32.toUInt32 31)).toInt32) = nI (lob m))) = true from by decide +kernel) m hm; simp only [h0, c_1, c_2, c_10, c_11, c_13, decide_true, Bool.not_true, Bool.false_or, not_false_eq_true, decide_eq_true_eq] at h; exact h)
          · have n_c_13 := i_nle_lt c_13
            refine lv_iinc (v := nI 23) (lv' := [(1, .int (nI 23)), (0, .int (((((((nI m) ^^^ (-1)) &&& (nI (m - 1))).toUInt32 >>> ((nI 16).toUInt32 &&& Int32.toUInt32 31)).toInt32).toUInt32 >>> ((nI 4).toUInt32 &&& Int32.toUInt32 31)).toInt32))]) hx hb dJ6_numberOfTrailingZeros_0f7a4_67 hl (k := 1) rfl (nI_add _ 2) (by decide) rfl (fun ls hl => ?_)
            refine lv_iload_n hx hb dJ6_numberOfTrailingZeros_0f7a4_70 rfl (lv_at hl 1 rfl) ?_
            refine lv_iconst (v := nI 2) hx hb dJ6_numberOfTrailingZeros_0f7a4_71 (by decide) ?_
            refine lv_iushr (v := ((((((((nI m) ^^^ (-1)) &&& (nI (m - 1))).toUInt32 >>> ((nI 16).toUInt32 &&& Int32.toUInt32 31)).toInt32).toUInt32 >>> ((nI 4).toUInt32 &&& Int32.toUInt32 31)).toInt32).toUInt32 >>> ((nI 2).toUInt32 &&& Int32.toUInt32 31)).toInt32) hx hb dJ6_numberOfTrailingZeros_0f7a4_72 rfl ?_
            refine lv_istore_n (lv' := [(0, .int (((((((((nI m) ^^^ (-1)) &&& (nI (m - 1))).toUInt32 >>> ((nI 16).toUInt32 &&& Int32.toUInt32 31)).toInt32).toUInt32 >>> ((nI 4).toUInt32 &&& Int32.toUInt32 31)).toInt32).toUInt32 >>> ((nI 2).toUInt32 &&& Int32.toUInt32 31)).toInt32)), (1, .int (nI 23))]) hx hb dJ6_numberOfTrailingZeros_0f7a4_73 rfl hl (by decide) rfl (fun ls hl => ?_)
            refine lv_iload_n hx hb dJ6_numberOfTrailingZeros_0f7a4_74 rfl (lv_at hl 1 rfl) ?_
            refine lv_iload_n hx hb dJ6_numberOfTrailingZeros_0f7a4_75 rfl (lv_at hl 0 rfl) ?_
            refine lv_iconst (v := nI 1) hx hb dJ6_numberOfTrailingZeros_0f7a4_76 (by decide) ?_
            refine lv_iushr (v := ((((((((((nI m) ^^^ (-1)) &&& (nI (m - 1))).toUInt32 >>> ((nI 16).toUInt32 &&& Int32.toUInt32 31)).toInt32).toUInt32 >>> ((nI 4).toUInt32 &&& Int32.toUInt32 31)).toInt32).toUInt32 >>> ((nI 2).toUInt32 &&& Int32.toUInt32 31)).toInt32).toUInt32 >>> ((nI 1).toUInt32 &&& Int32.toUInt32 31)).toInt32) hx hb dJ6_numberOfTrailingZeros_0f7a4_77 rfl ?_
            refine lv_iadd (x := nI 23) (y := ((((((((((nI m) ^^^ (-1)) &&& (nI (m - 1))).toUInt32 >>> ((nI 16).toUInt32 &&& Int32.toUInt32 31)).toInt32).toUInt32 >>> ((nI 4).toUInt32 &&& Int32.toUInt32 31)).toInt32).toUInt32 >>> ((nI 2).toUInt32 &&& Int32.toUInt32 31)).toInt32).toUInt32 >>> ((nI 1).toUInt32 &&& Int32.toUInt32 31)).toInt32) hx hb dJ6_numberOfTrailingZeros_0f7a4_78 ?_
            exact rd_iret hx hb hr hk dJ6_numberOfTrailingZeros_0f7a4_79 (by have h := (show ∀ m, m < 16 → ((!decide (0 < m)) || (!decide (0 < ((nI m) ^^^ (-1)) &&& (nI (m - 1)))) || (!decide (¬ ((nI m) ^^^ (-1)) &&& (nI (m - 1)) ≤ nI 65536)) || (!decide (((((nI m) ^^^ (-1)) &&& (nI (m - 1))).toUInt32 >>> ((nI 16).toUInt32 &&& Int32.toUInt32 31)).toInt32 ≤ nI 256)) || (!decide (¬ ((((nI m) ^^^ (-1)) &&& (nI (m - 1))).toUInt32 >>> ((nI 16).toUInt32 &&& Int32.toUInt32 31)).toInt32 ≤ nI 16)) || (!decide (¬ ((((((nI m) ^^^ (-1)) &&& (nI (m - 1))).toUInt32 >>> ((nI 16).toUInt32 &&& Int32.toUInt32 31)).toInt32).toUInt32 >>> ((nI 4).toUInt32 &&& Int32.toUInt32 31)).toInt32 ≤ nI 4)) || decide ((nI 23) + (((((((((((nI m) ^^^ (-1)) &&& (nI (m - 1))).toUInt32 >>> ((nI 16).toUInt32 &&& Int32.toUInt32 31)).toInt32).toUInt32 >>> ((nI 4).toUInt32 &&& Int32.toUInt32 31)).toInt32).toUInt32 >>> ((nI 2).toUInt32 &&& Int32.toUInt32 31)).toInt32).toUInt32 >>> ((nI 1).toUInt32 &&& Int32.toUInt32 31)).toInt32) = nI (lob m))) = true from by decide +kernel) m hm; simp only [h0, c_1, c_2, c_10, c_11, c_13, decide_true, Bool.not_true, Bool.false_or, not_false_eq_true, decide_eq_true_eq] at h; exact h)
      · have n_c_10 := i_nle_lt c_10
        refine lv_iinc (v := nI 25) (lv' := [(1, .int (nI 25)), (0, .int (((((nI m) ^^^ (-1)) &&& (nI (m - 1))).toUInt32 >>> ((nI 16).toUInt32 &&& Int32.toUInt32 31)).toInt32))]) hx hb dJ6_numberOfTrailingZeros_0f7a4_41 hl (k := 1) rfl (nI_add _ 8) (by decide) rfl (fun ls hl => ?_)
        refine lv_iload_n hx hb dJ6_numberOfTrailingZeros_0f7a4_44 rfl (lv_at hl 1 rfl) ?_
        refine lv_bipush (v := nI 8) hx hb dJ6_numberOfTrailingZeros_0f7a4_45 (by decide) ?_
        refine lv_iushr (v := ((((((nI m) ^^^ (-1)) &&& (nI (m - 1))).toUInt32 >>> ((nI 16).toUInt32 &&& Int32.toUInt32 31)).toInt32).toUInt32 >>> ((nI 8).toUInt32 &&& Int32.toUInt32 31)).toInt32) hx hb dJ6_numberOfTrailingZeros_0f7a4_47 rfl ?_
        refine lv_istore_n (lv' := [(0, .int (((((((nI m) ^^^ (-1)) &&& (nI (m - 1))).toUInt32 >>> ((nI 16).toUInt32 &&& Int32.toUInt32 31)).toInt32).toUInt32 >>> ((nI 8).toUInt32 &&& Int32.toUInt32 31)).toInt32)), (1, .int (nI 25))]) hx hb dJ6_numberOfTrailingZeros_0f7a4_48 rfl hl (by decide) rfl (fun ls hl => ?_)
        refine lv_iload_n hx hb dJ6_numberOfTrailingZeros_0f7a4_49 rfl (lv_at hl 0 rfl) ?_
        refine lv_bipush (v := nI 16) hx hb dJ6_numberOfTrailingZeros_0f7a4_50 (by decide) ?_
        refine lv_icmp_le (x := ((((((nI m) ^^^ (-1)) &&& (nI (m - 1))).toUInt32 >>> ((nI 16).toUInt32 &&& Int32.toUInt32 31)).toInt32).toUInt32 >>> ((nI 8).toUInt32 &&& Int32.toUInt32 31)).toInt32) (y := nI 16) (tgt := 62) hx hb dJ6_numberOfTrailingZeros_0f7a4_52 (by decide) (fun c_14 => ?_) (fun c_14 => ?_)
        · have n_c_14 := i_le_nlt c_14
          refine lv_iload_n hx hb dJ6_numberOfTrailingZeros_0f7a4_62 rfl (lv_at hl 0 rfl) ?_
          refine lv_iconst (v := nI 4) hx hb dJ6_numberOfTrailingZeros_0f7a4_63 (by decide) ?_
          refine lv_icmp_le (x := ((((((nI m) ^^^ (-1)) &&& (nI (m - 1))).toUInt32 >>> ((nI 16).toUInt32 &&& Int32.toUInt32 31)).toInt32).toUInt32 >>> ((nI 8).toUInt32 &&& Int32.toUInt32 31)).toInt32) (y := nI 4) (tgt := 74) hx hb dJ6_numberOfTrailingZeros_0f7a4_64 (by decide) (fun c_15 => ?_) (fun c_15 => ?_)
          · have n_c_15 := i_le_nlt c_15
            refine lv_iload_n hx hb dJ6_numberOfTrailingZeros_0f7a4_74 rfl (lv_at hl 1 rfl) ?_
            refine lv_iload_n hx hb dJ6_numberOfTrailingZeros_0f7a4_75 rfl (lv_at hl 0 rfl) ?_
            refine lv_iconst (v := nI 1) hx hb dJ6_numberOfTrailingZeros_0f7a4_76 (by decide) ?_
            refine lv_iushr (v := ((((((((nI m) ^^^ (-1)) &&& (nI (m - 1))).toUInt32 >>> ((nI 16).toUInt32 &&& Int32.toUInt32 31)).toInt32).toUInt32 >>> ((nI 8).toUInt32 &&& Int32.toUInt32 31)).toInt32).toUInt32 >>> ((nI 1).toUInt32 &&& Int32.toUInt32 31)).toInt32) hx hb dJ6_numberOfTrailingZeros_0f7a4_77 rfl ?_
            refine lv_iadd (x := nI 25) (y := ((((((((nI m) ^^^ (-1)) &&& (nI (m - 1))).toUInt32 >>> ((nI 16).toUInt32 &&& Int32.toUInt32 31)).toInt32).toUInt32 >>> ((nI 8).toUInt32 &&& Int32.toUInt32 31)).toInt32).toUInt32 >>> ((nI 1).toUInt32 &&& Int32.toUInt32 31)).toInt32) hx hb dJ6_numberOfTrailingZeros_0f7a4_78 ?_
            exact rd_iret hx hb hr hk dJ6_numberOfTrailingZeros_0f7a4_79 (by have h := (show ∀ m, m < 16 → ((!decide (0 < m)) || (!decide (0 < ((nI m) ^^^ (-1)) &&& (nI (m - 1)))) || (!decide (¬ ((nI m) ^^^ (-1)) &&& (nI (m - 1)) ≤ nI 65536)) || (!decide (¬ ((((nI m) ^^^ (-1)) &&& (nI (m - 1))).toUInt32 >>> ((nI 16).toUInt32 &&& Int32.toUInt32 31)).toInt32 ≤ nI 256)) || (!decide (((((((nI m) ^^^ (-1)) &&& (nI (m - 1))).toUInt32 >>> ((nI 16).toUInt32 &&& Int32.toUInt32 31)).toInt32).toUInt32 >>> ((nI 8).toUInt32 &&& Int32.toUInt32 31)).toInt32 ≤ nI 16)) || (!decide (((((((nI m) ^^^ (-1)) &&& (nI (m - 1))).toUInt32 >>> ((nI 16).toUInt32 &&& Int32.toUInt32 31)).toInt32).toUInt32 >>> ((nI 8).toUInt32 &&& Int32.toUInt32 31)).toInt32 ≤ nI 4)) || decide ((nI 25) + (((((((((nI m) ^^^ (-1)) &&& (nI (m - 1))).toUInt32 >>> ((nI 16).toUInt32 &&& Int32.toUInt32 31)).toInt32).toUInt32 >>> ((nI 8).toUInt32 &&& Int32.toUInt32 31)).toInt32).toUInt32 >>> ((nI 1).toUInt32 &&& Int32.toUInt32 31)).toInt32) = nI (lob m))) = true from by decide +kernel) m hm; simp only [h0, c_1, c_2, c_10, c_14, c_15, decide_true, Bool.not_true, Bool.false_or, not_false_eq_true, decide_eq_true_eq] at h; exact h)
          · have n_c_15 := i_nle_lt c_15
            refine lv_iinc (v := nI 27) (lv' := [(1, .int (nI 27)), (0, .int (((((((nI m) ^^^ (-1)) &&& (nI (m - 1))).toUInt32 >>> ((nI 16).toUInt32 &&& Int32.toUInt32 31)).toInt32).toUInt32 >>> ((nI 8).toUInt32 &&& Int32.toUInt32 31)).toInt32))]) hx hb dJ6_numberOfTrailingZeros_0f7a4_67 hl (k := 1) rfl (nI_add _ 2) (by decide) rfl (fun ls hl => ?_)
            refine lv_iload_n hx hb dJ6_numberOfTrailingZeros_0f7a4_70 rfl (lv_at hl 1 rfl) ?_
            refine lv_iconst (v := nI 2) hx hb dJ6_numberOfTrailingZeros_0f7a4_71 (by decide) ?_
            refine lv_iushr (v := ((((((((nI m) ^^^ (-1)) &&& (nI (m - 1))).toUInt32 >>> ((nI 16).toUInt32 &&& Int32.toUInt32 31)).toInt32).toUInt32 >>> ((nI 8).toUInt32 &&& Int32.toUInt32 31)).toInt32).toUInt32 >>> ((nI 2).toUInt32 &&& Int32.toUInt32 31)).toInt32) hx hb dJ6_numberOfTrailingZeros_0f7a4_72 rfl ?_
            refine lv_istore_n (lv' := [(0, .int (((((((((nI m) ^^^ (-1)) &&& (nI (m - 1))).toUInt32 >>> ((nI 16).toUInt32 &&& Int32.toUInt32 31)).toInt32).toUInt32 >>> ((nI 8).toUInt32 &&& Int32.toUInt32 31)).toInt32).toUInt32 >>> ((nI 2).toUInt32 &&& Int32.toUInt32 31)).toInt32)), (1, .int (nI 27))]) hx hb dJ6_numberOfTrailingZeros_0f7a4_73 rfl hl (by decide) rfl (fun ls hl => ?_)
            refine lv_iload_n hx hb dJ6_numberOfTrailingZeros_0f7a4_74 rfl (lv_at hl 1 rfl) ?_
            refine lv_iload_n hx hb dJ6_numberOfTrailingZeros_0f7a4_75 rfl (lv_at hl 0 rfl) ?_
            refine lv_iconst (v := nI 1) hx hb dJ6_numberOfTrailingZeros_0f7a4_76 (by decide) ?_
            refine lv_iushr (v := ((((((((((nI m) ^^^ (-1)) &&& (nI (m - 1))).toUInt32 >>> ((nI 16).toUInt32 &&& Int32.toUInt32 31)).toInt32).toUInt32 >>> ((nI 8).toUInt32 &&& Int32.toUInt32 31)).toInt32).toUInt32 >>> ((nI 2).toUInt32 &&& Int32.toUInt32 31)).toInt32).toUInt32 >>> ((nI 1).toUInt32 &&& Int32.toUInt32 31)).toInt32) hx hb dJ6_numberOfTrailingZeros_0f7a4_77 rfl ?_
            refine lv_iadd (x := nI 27) (y := ((((((((((nI m) ^^^ (-1)) &&& (nI (m - 1))).toUInt32 >>> ((nI 16).toUInt32 &&& Int32.toUInt32 31)).toInt32).toUInt32 >>> ((nI 8).toUInt32 &&& Int32.toUInt32 31)).toInt32).toUInt32 >>> ((nI 2).toUInt32 &&& Int32.toUInt32 31)).toInt32).toUInt32 >>> ((nI 1).toUInt32 &&& Int32.toUInt32 31)).toInt32) hx hb dJ6_numberOfTrailingZeros_0f7a4_78 ?_
            exact rd_iret hx hb hr hk dJ6_numberOfTrailingZeros_0f7a4_79 (by have h := (show ∀ m, m < 16 → ((!decide (0 < m)) || (!decide (0 < ((nI m) ^^^ (-1)) &&& (nI (m - 1)))) || (!decide (¬ ((nI m) ^^^ (-1)) &&& (nI (m - 1)) ≤ nI 65536)) || (!decide (¬ ((((nI m) ^^^ (-1)) &&& (nI (m - 1))).toUInt32 >>> ((nI 16).toUInt32 &&& Int32.toUInt32 31)).toInt32 ≤ nI 256)) || (!decide (((((((nI m) ^^^ (-1)) &&& (nI (m - 1))).toUInt32 >>> ((nI 16).toUInt32 &&& Int32.toUInt32 31)).toInt32).toUInt32 >>> ((nI 8).toUInt32 &&& Int32.toUInt32 31)).toInt32 ≤ nI 16)) || (!decide (¬ ((((((nI m) ^^^ (-1)) &&& (nI (m - 1))).toUInt32 >>> ((nI 16).toUInt32 &&& Int32.toUInt32 31)).toInt32).toUInt32 >>> ((nI 8).toUInt32 &&& Int32.toUInt32 31)).toInt32 ≤ nI 4)) || decide ((nI 27) + (((((((((((nI m) ^^^ (-1)) &&& (nI (m - 1))).toUInt32 >>> ((nI 16).toUInt32 &&& Int32.toUInt32 31)).toInt32).toUInt32 >>> ((nI 8).toUInt32 &&& Int32.toUInt32 31)).toInt32).toUInt32 >>> ((nI 2).toUInt32 &&& Int32.toUInt32 31)).toInt32).toUInt32 >>> ((nI 1).toUInt32 &&& Int32.toUInt32 31)).toInt32) = nI (lob m))) = true from by decide +kernel) m hm; simp only [h0, c_1, c_2, c_10, c_14, c_15, decide_true, Bool.not_true, Bool.false_or, not_false_eq_true, decide_eq_true_eq] at h; exact h)
        · have n_c_14 := i_nle_lt c_14
          refine lv_iinc (v := nI 29) (lv' := [(1, .int (nI 29)), (0, .int (((((((nI m) ^^^ (-1)) &&& (nI (m - 1))).toUInt32 >>> ((nI 16).toUInt32 &&& Int32.toUInt32 31)).toInt32).toUInt32 >>> ((nI 8).toUInt32 &&& Int32.toUInt32 31)).toInt32))]) hx hb dJ6_numberOfTrailingZeros_0f7a4_55 hl (k := 1) rfl (nI_add _ 4) (by decide) rfl (fun ls hl => ?_)
          refine lv_iload_n hx hb dJ6_numberOfTrailingZeros_0f7a4_58 rfl (lv_at hl 1 rfl) ?_
          refine lv_iconst (v := nI 4) hx hb dJ6_numberOfTrailingZeros_0f7a4_59 (by decide) ?_
          refine lv_iushr (v := ((((((((nI m) ^^^ (-1)) &&& (nI (m - 1))).toUInt32 >>> ((nI 16).toUInt32 &&& Int32.toUInt32 31)).toInt32).toUInt32 >>> ((nI 8).toUInt32 &&& Int32.toUInt32 31)).toInt32).toUInt32 >>> ((nI 4).toUInt32 &&& Int32.toUInt32 31)).toInt32) hx hb dJ6_numberOfTrailingZeros_0f7a4_60 rfl ?_
          refine lv_istore_n (lv' := [(0, .int (((((((((nI m) ^^^ (-1)) &&& (nI (m - 1))).toUInt32 >>> ((nI 16).toUInt32 &&& Int32.toUInt32 31)).toInt32).toUInt32 >>> ((nI 8).toUInt32 &&& Int32.toUInt32 31)).toInt32).toUInt32 >>> ((nI 4).toUInt32 &&& Int32.toUInt32 31)).toInt32)), (1, .int (nI 29))]) hx hb dJ6_numberOfTrailingZeros_0f7a4_61 rfl hl (by decide) rfl (fun ls hl => ?_)
          refine lv_iload_n hx hb dJ6_numberOfTrailingZeros_0f7a4_62 rfl (lv_at hl 0 rfl) ?_
          refine lv_iconst (v := nI 4) hx hb dJ6_numberOfTrailingZeros_0f7a4_63 (by decide) ?_
          refine lv_icmp_le (x := ((((((((nI m) ^^^ (-1)) &&& (nI (m - 1))).toUInt32 >>> ((nI 16).toUInt32 &&& Int32.toUInt32 31)).toInt32).toUInt32 >>> ((nI 8).toUInt32 &&& Int32.toUInt32 31)).toInt32).toUInt32 >>> ((nI 4).toUInt32 &&& Int32.toUInt32 31)).toInt32) (y := nI 4) (tgt := 74) hx hb dJ6_numberOfTrailingZeros_0f7a4_64 (by decide) (fun c_16 => ?_) (fun c_16 => ?_)
          · have n_c_16 := i_le_nlt c_16
            refine lv_iload_n hx hb dJ6_numberOfTrailingZeros_0f7a4_74 rfl (lv_at hl 1 rfl) ?_
            refine lv_iload_n hx hb dJ6_numberOfTrailingZeros_0f7a4_75 rfl (lv_at hl 0 rfl) ?_
            refine lv_iconst (v := nI 1) hx hb dJ6_numberOfTrailingZeros_0f7a4_76 (by decide) ?_
            refine lv_iushr (v := ((((((((((nI m) ^^^ (-1)) &&& (nI (m - 1))).toUInt32 >>> ((nI 16).toUInt32 &&& Int32.toUInt32 31)).toInt32).toUInt32 >>> ((nI 8).toUInt32 &&& Int32.toUInt32 31)).toInt32).toUInt32 >>> ((nI 4).toUInt32 &&& Int32.toUInt32 31)).toInt32).toUInt32 >>> ((nI 1).toUInt32 &&& Int32.toUInt32 31)).toInt32) hx hb dJ6_numberOfTrailingZeros_0f7a4_77 rfl ?_
            refine lv_iadd (x := nI 29) (y := ((((((((((nI m) ^^^ (-1)) &&& (nI (m - 1))).toUInt32 >>> ((nI 16).toUInt32 &&& Int32.toUInt32 31)).toInt32).toUInt32 >>> ((nI 8).toUInt32 &&& Int32.toUInt32 31)).toInt32).toUInt32 >>> ((nI 4).toUInt32 &&& Int32.toUInt32 31)).toInt32).toUInt32 >>> ((nI 1).toUInt32 &&& Int32.toUInt32 31)).toInt32) hx hb dJ6_numberOfTrailingZeros_0f7a4_78 ?_
            exact rd_iret hx hb hr hk dJ6_numberOfTrailingZeros_0f7a4_79 (by have h := (show ∀ m, m < 16 → ((!decide (0 < m)) || (!decide (0 < ((nI m) ^^^ (-1)) &&& (nI (m - 1)))) || (!decide (¬ ((nI m) ^^^ (-1)) &&& (nI (m - 1)) ≤ nI 65536)) || (!decide (¬ ((((nI m) ^^^ (-1)) &&& (nI (m - 1))).toUInt32 >>> ((nI 16).toUInt32 &&& Int32.toUInt32 31)).toInt32 ≤ nI 256)) || (!decide (¬ ((((((nI m) ^^^ (-1)) &&& (nI (m - 1))).toUInt32 >>> ((nI 16).toUInt32 &&& Int32.toUInt32 31)).toInt32).toUInt32 >>> ((nI 8).toUInt32 &&& Int32.toUInt32 31)).toInt32 ≤ nI 16)) || (!decide (((((((((nI m) ^^^ (-1)) &&& (nI (m - 1))).toUInt32 >>> ((nI 16).toUInt32 &&& Int32.toUInt32 31)).toInt32).toUInt32 >>> ((nI 8).toUInt32 &&& Int32.toUInt32 31)).toInt32).toUInt32 >>> ((nI 4).toUInt32 &&& Int32.toUInt32 31)).toInt32 ≤ nI 4)) || decide ((nI 29) + (((((((((((nI m) ^^^ (-1)) &&& (nI (m - 1))).toUInt32 >>> ((nI 16).toUInt32 &&& Int32.toUInt32 31)).toInt32).toUInt32 >>> ((nI 8).toUInt32 &&& Int32.toUInt32 31)).toInt32).toUInt32 >>> ((nI 4).toUInt32 &&& Int32.toUInt32 31)).toInt32).toUInt32 >>> ((nI 1).toUInt32 &&& Int32.toUInt32 31)).toInt32) = nI (lob m))) = true from by decide +kernel) m hm; simp only [h0, c_1, c_2, c_10, c_14, c_16, decide_true, Bool.not_true, Bool.false_or, not_false_eq_true, decide_eq_true_eq] at h; exact h)
          · have n_c_16 := i_nle_lt c_16
            refine lv_iinc (v := nI 31) (lv' := [(1, .int (nI 31)), (0, .int (((((((((nI m) ^^^ (-1)) &&& (nI (m - 1))).toUInt32 >>> ((nI 16).toUInt32 &&& Int32.toUInt32 31)).toInt32).toUInt32 >>> ((nI 8).toUInt32 &&& Int32.toUInt32 31)).toInt32).toUInt32 >>> ((nI 4).toUInt32 &&& Int32.toUInt32 31)).toInt32))]) hx hb dJ6_numberOfTrailingZeros_0f7a4_67 hl (k := 1) rfl (nI_add _ 2) (by decide) rfl (fun ls hl => ?_)
            refine lv_iload_n hx hb dJ6_numberOfTrailingZeros_0f7a4_70 rfl (lv_at hl 1 rfl) ?_
            refine lv_iconst (v := nI 2) hx hb dJ6_numberOfTrailingZeros_0f7a4_71 (by decide) ?_
            refine lv_iushr (v := ((((((((((nI m) ^^^ (-1)) &&& (nI (m - 1))).toUInt32 >>> ((nI 16).toUInt32 &&& Int32.toUInt32 31)).toInt32).toUInt32 >>> ((nI 8).toUInt32 &&& Int32.toUInt32 31)).toInt32).toUInt32 >>> ((nI 4).toUInt32 &&& Int32.toUInt32 31)).toInt32).toUInt32 >>> ((nI 2).toUInt32 &&& Int32.toUInt32 31)).toInt32) hx hb dJ6_numberOfTrailingZeros_0f7a4_72 rfl ?_
            refine lv_istore_n (lv' := [(0, .int (((((((((((nI m) ^^^ (-1)) &&& (nI (m - 1))).toUInt32 >>> ((nI 16).toUInt32 &&& Int32.toUInt32 31)).toInt32).toUInt32 >>> ((nI 8).toUInt32 &&& Int32.toUInt32 31)).toInt32).toUInt32 >>> ((nI 4).toUInt32 &&& Int32.toUInt32 31)).toInt32).toUInt32 >>> ((nI 2).toUInt32 &&& Int32.toUInt32 31)).toInt32)), (1, .int (nI 31))]) hx hb dJ6_numberOfTrailingZeros_0f7a4_73 rfl hl (by decide) rfl (fun ls hl => ?_)
            refine lv_iload_n hx hb dJ6_numberOfTrailingZeros_0f7a4_74 rfl (lv_at hl 1 rfl) ?_
            refine lv_iload_n hx hb dJ6_numberOfTrailingZeros_0f7a4_75 rfl (lv_at hl 0 rfl) ?_
            refine lv_iconst (v := nI 1) hx hb dJ6_numberOfTrailingZeros_0f7a4_76 (by decide) ?_
            refine lv_iushr (v := ((((((((((((nI m) ^^^ (-1)) &&& (nI (m - 1))).toUInt32 >>> ((nI 16).toUInt32 &&& Int32.toUInt32 31)).toInt32).toUInt32 >>> ((nI 8).toUInt32 &&& Int32.toUInt32 31)).toInt32).toUInt32 >>> ((nI 4).toUInt32 &&& Int32.toUInt32 31)).toInt32).toUInt32 >>> ((nI 2).toUInt32 &&& Int32.toUInt32 31)).toInt32).toUInt32 >>> ((nI 1).toUInt32 &&& Int32.toUInt32 31)).toInt32) hx hb dJ6_numberOfTrailingZeros_0f7a4_77 rfl ?_
            refine lv_iadd (x := nI 31) (y := ((((((((((((nI m) ^^^ (-1)) &&& (nI (m - 1))).toUInt32 >>> ((nI 16).toUInt32 &&& Int32.toUInt32 31)).toInt32).toUInt32 >>> ((nI 8).toUInt32 &&& Int32.toUInt32 31)).toInt32).toUInt32 >>> ((nI 4).toUInt32 &&& Int32.toUInt32 31)).toInt32).toUInt32 >>> ((nI 2).toUInt32 &&& Int32.toUInt32 31)).toInt32).toUInt32 >>> ((nI 1).toUInt32 &&& Int32.toUInt32 31)).toInt32) hx hb dJ6_numberOfTrailingZeros_0f7a4_78 ?_
            exact rd_iret hx hb hr hk dJ6_numberOfTrailingZeros_0f7a4_79 (by have h := (show ∀ m, m < 16 → ((!decide (0 < m)) || (!decide (0 < ((nI m) ^^^ (-1)) &&& (nI (m - 1)))) || (!decide (¬ ((nI m) ^^^ (-1)) &&& (nI (m - 1)) ≤ nI 65536)) || (!decide (¬ ((((nI m) ^^^ (-1)) &&& (nI (m - 1))).toUInt32 >>> ((nI 16).toUInt32 &&& Int32.toUInt32 31)).toInt32 ≤ nI 256)) || (!decide (¬ ((((((nI m) ^^^ (-1)) &&& (nI (m - 1))).toUInt32 >>> ((nI 16).toUInt32 &&& Int32.toUInt32 31)).toInt32).toUInt32 >>> ((nI 8).toUInt32 &&& Int32.toUInt32 31)).toInt32 ≤ nI 16)) || (!decide (¬ ((((((((nI m) ^^^ (-1)) &&& (nI (m - 1))).toUInt32 >>> ((nI 16).toUInt32 &&& Int32.toUInt32 31)).toInt32).toUInt32 >>> ((nI 8).toUInt32 &&& Int32.toUInt32 31)).toInt32).toUInt32 >>> ((nI 4).toUInt32 &&& Int32.toUInt32 31)).toInt32 ≤ nI 4)) || decide ((nI 31) + (((((((((((((nI m) ^^^ (-1)) &&& (nI (m - 1))).toUInt32 >>> ((nI 16).toUInt32 &&& Int32.toUInt32 31)).toInt32).toUInt32 >>> ((nI 8).toUInt32 &&& Int32.toUInt32 31)).toInt32).toUInt32 >>> ((nI 4).toUInt32 &&& Int32.toUInt32 31)).toInt32).toUInt32 >>> ((nI 2).toUInt32 &&& Int32.toUInt32 31)).toInt32).toUInt32 >>> ((nI 1).toUInt32 &&& Int32.toUInt32 31)).toInt32) = nI (lob m))) = true from by decide +kernel) m hm; simp only [h0, c_1, c_2, c_10, c_14, c_16, decide_true, Bool.not_true, Bool.false_or, not_false_eq_true, decide_eq_true_eq] at h; exact h)
  · refine lv_iload_n hx hb dJ6_numberOfTrailingZeros_0f7a4_12 rfl (lv_at hl 0 rfl) ?_
    refine lv_bipush (v := nI 32) hx hb dJ6_numberOfTrailingZeros_0f7a4_13 (by decide) ?_
    refine lv_iand (x := ((nI m) ^^^ (-1)) &&& (nI (m - 1))) (y := nI 32) hx hb dJ6_numberOfTrailingZeros_0f7a4_15 ?_
    exact rd_iret hx hb hr hk dJ6_numberOfTrailingZeros_0f7a4_16 (by have h := (show ∀ m, m < 16 → ((!decide (0 < m)) || (!decide (¬ 0 < ((nI m) ^^^ (-1)) &&& (nI (m - 1)))) || decide ((((nI m) ^^^ (-1)) &&& (nI (m - 1))) &&& (nI 32) = nI (lob m))) = true from by decide +kernel) m hm; simp only [h0, c_1, decide_true, Bool.not_true, Bool.false_or, not_false_eq_true, decide_eq_true_eq] at h; exact h)
set_option maxHeartbeats 4000000 in
set_option maxRecDepth 100000 in
theorem c_X1_layPiece (l : Launch) (D : va_G) (K : Nat → ClassId) (sz : Nat) (a : Nat → Nat) (T : TW) (X : va_W) (p f d to : Nat) (hI : Inv T) (hp : p < 4) (hf : f < 80) (hd : d < 4) (hto : nbT f d = some to) : Wr l yX1_layPiece wsX1_layPiece ({ frames := 4, cells := 0, slots := 0, locals := 75 } : Room) D K (townW K a T ++ X) sz [.ref (a 0), .int (nI p), .int (nI f), .int (nI d)] (townW K a (layT T p to d) ++ X) (some (.int (nI (tollT T to)))) 0 0 := by
  refine wr_intro (cc := cX1_layPiece) (maxL := 7) (ret := (some .int)) (by decide) rfl (Nat.le_of_ble_eq_true rfl) ?_
  intro pr en st md ar bl mt co A hx hb hml hr hts hown hk hsz hAe hP hE hD hS hA hin ls hl
  have hown : st.vm.findClass RX1 = some md.cls := hown
  have hl : lv_has ls 7 [(0, .ref (a 0)), (1, .int (nI p)), (2, .int (nI f)), (3, .int (nI d))] := hl
  have hto80 := nb_lt hf to hto
  obtain ⟨H, hH⟩ : ∃ z, z = st.heap := ⟨_, rfl⟩
  obtain ⟨locs, hlo⟩ : ∃ z : List Loc, z = [] := ⟨_, rfl⟩
  have hP : va_P D vwCl (townW K a T ++ X) H := by rw [hH]; exact hP
  have hS : va_S A st.heap H locs := by rw [hH, hlo]; exact hS
  suffices go : W pr l en (headSpec wsX1_layPiece ({ frames := 4, cells := 0, slots := 0, locals := 75 } : Room)).room st md ar bl mt co H locs 0 0 (MQ bl (wrQ D (townW K a T ++ X) (townW K a (layT T p to d) ++ X) sz (some (.int (nI (tollT T to))))) ar st 0 0 A) (F0 md 0 ls []) by rw [hH, hlo] at go; exact go
  clear hH hlo
  have IniX3 : (Cond.initialized RX3).before ar st = true := hts _ (List.mem_of_getElem? (i := 11) rfl)
  have Sta_X3_neighbour : (Cond.static yX3_neighbour).before ar st = true := hts _ (List.mem_of_getElem? (i := 10) rfl)
  have F18 : (Cond.fieldLink RX1 18 "TramTolls$Town" "owners" "[I").before ar st = true := hts _ (List.mem_of_getElem? (i := 1) rfl)
  have inX1 : ∀ w ∈ u_ws RX1 TX1 12, w ∈ wsX1_layPiece := fun w h => List.mem_cons_of_mem _ (List.mem_append_right _ h)
  have Sta_X3_at : (Cond.static yX3_at).before ar st = true := hts _ (List.mem_of_getElem? (i := 18) rfl)
  have F27 : (Cond.fieldLink RX1 27 "TramTolls$Town" "coins" "[I").before ar st = true := hts _ (List.mem_of_getElem? (i := 2) rfl)
  have Sta_X3_increase : (Cond.static yX3_increase).before ar st = true := hts _ (List.mem_of_getElem? (i := 33) rfl)
  have F47 : (Cond.fieldLink RX1 47 "TramTolls$Town" "tollsGot" "[I").before ar st = true := hts _ (List.mem_of_getElem? (i := 3) rfl)
  have F53 : (Cond.fieldLink RX1 53 "TramTolls$Town" "settings" "[I").before ar st = true := hts _ (List.mem_of_getElem? (i := 4) rfl)
  have F44 : (Cond.fieldLink RX1 44 "TramTolls$Town" "tollsPaid" "[I").before ar st = true := hts _ (List.mem_of_getElem? (i := 5) rfl)
  have F15 : (Cond.fieldLink RX1 15 "TramTolls$Town" "trackMasks" "[I").before ar st = true := hts _ (List.mem_of_getElem? (i := 6) rfl)
  have Sta_X3_put : (Cond.static yX3_put).before ar st = true := hts _ (List.mem_of_getElem? (i := 31) rfl)
  have F38 : (Cond.fieldLink RX1 38 "TramTolls$Town" "heads" "[I").before ar st = true := hts _ (List.mem_of_getElem? (i := 7) rfl)
  have F41 : (Cond.fieldLink RX1 41 "TramTolls$Town" "lastDirections" "[I").before ar st = true := hts _ (List.mem_of_getElem? (i := 8) rfl)
  have F66 : (Cond.fieldLink RX1 66 "TramTolls$Town" "piecesLaid" "I").before ar st = true := hts _ (List.mem_of_getElem? (i := 9) rfl)
  refine lv_iload_n hx hb dX1_layPiece_0 rfl (lv_at hl 2 rfl) ?_
  refine lv_iload_n hx hb dX1_layPiece_1 rfl (lv_at hl 3 rfl) ?_
  refine rd_SN (rest := []) ⟨hx, hb, hml, hown, hts⟩ hP hE (c_X3_neighbour l D K _ f d (by omega) (by omega)) (va_cnB (host := RX3) 2 hts gX1_layPiece_X3_neighbour_n83 rfl rfl rfl hE.2.2.2.2.2.2.2.2.2.1 IniX3 hn_X3_neighbour ⟨Nat.le_of_ble_eq_true rfl, Nat.le_of_ble_eq_true rfl⟩) Sta_X3_neighbour rfl hl.1 rfl (Nat.le_of_ble_eq_true rfl) dX1_layPiece_2 ⟨Nat.le_of_ble_eq_true rfl, Nat.le_of_ble_eq_true rfl⟩ ?_
  refine top_i (y := nI to) (by rw [hto]; rfl) ?_
  refine lv_istore (lv' := [(4, .int (nI to)), (0, .ref (a 0)), (1, .int (nI p)), (2, .int (nI f)), (3, .int (nI d))]) hx hb dX1_layPiece_5 hl (by decide) rfl (fun ls hl => ?_)
  refine lv_aload_n hx hb dX1_layPiece_7 rfl (lv_at hl 1 rfl) ?_
  refine lv_iload hx hb dX1_layPiece_8 (lv_at hl 0 rfl) ?_
  refine rd_V (rest := []) (ci := 1) (q0 := 0) ⟨hx, hb, hml, hown, hts⟩ hP hE (c_X1_tollOn l D K _ _ _ to hI (by omega)) (cwV 1 hts gX1_layPiece_X1_tollOn rfl rfl rfl hd_X1_tollOn ⟨Nat.le_of_ble_eq_true rfl, Nat.le_of_ble_eq_true rfl⟩) rfl rfl rfl rfl hl.1 rfl (Nat.le_of_ble_eq_true rfl) dX1_layPiece_10 ⟨Nat.le_of_ble_eq_true rfl, Nat.le_of_ble_eq_true rfl⟩ ?_
  have hb_1 := toll_lt (s := to) hI
  refine lv_istore (lv' := [(5, .int (nI (tollT T to))), (4, .int (nI to)), (0, .ref (a 0)), (1, .int (nI p)), (2, .int (nI f)), (3, .int (nI d))]) hx hb dX1_layPiece_13 hl (by decide) rfl (fun ls hl => ?_)
  refine lv_aload_n hx hb dX1_layPiece_15 rfl (lv_at hl 2 rfl) ?_
  refine va_get (D := D) (ci := 1) (v := .ref (a 3)) (C := RX1) (T := TX1) (N := 12) hx hb hts inX1 hown hE.1 hP 0 rfl rfl 2 (by decide) F18 (fun _ h9 => h9) rfl dX1_layPiece_16 ?_
  refine lv_iload hx hb dX1_layPiece_19 (lv_at hl 1 rfl) ?_
  refine rd_SN (rest := []) ⟨hx, hb, hml, hown, hts⟩ hP hE (c_X3_at l D K _ 3 _ 80 _ to rfl (by omega) (by omega)) (va_cnB (host := RX3) 2 hts gX1_layPiece_X3_at_n70 rfl rfl rfl hE.2.2.2.2.1 IniX3 hn_X3_at ⟨Nat.le_of_ble_eq_true rfl, Nat.le_of_ble_eq_true rfl⟩) Sta_X3_at rfl hl.1 rfl (Nat.le_of_ble_eq_true rfl) dX1_layPiece_21 ⟨Nat.le_of_ble_eq_true rfl, Nat.le_of_ble_eq_true rfl⟩ ?_
  refine top_i (y := oI (owT T to)) (show T 2 to = oI (owT T to) from eq_ow hI (by omega)) ?_
  refine lv_istore (lv' := [(6, .int (oI (owT T to))), (5, .int (nI (tollT T to))), (4, .int (nI to)), (0, .ref (a 0)), (1, .int (nI p)), (2, .int (nI f)), (3, .int (nI d))]) hx hb dX1_layPiece_24 hl (by decide) rfl (fun ls hl => ?_)
  refine lv_iload hx hb dX1_layPiece_26 (lv_at hl 0 rfl) ?_
  refine lv_iconst (v := -1) hx hb dX1_layPiece_28 (by decide) ?_
  refine ov_icmp_ne (tgt := 45) hx hb dX1_layPiece_29 (by decide) (lt31 (ow_lt hI (s := to) (by omega)) (by decide)) (fun k_3 c_2 => ?_) (fun c_2 => ?_)
  · have hk_c_2 := (ow_lt hI (s := to) (by omega)) k_3 c_2
    refine lv_aload_n hx hb dX1_layPiece_45 rfl (lv_at hl 3 rfl) ?_
    refine va_get (D := D) (ci := 1) (v := .ref (a 6)) (C := RX1) (T := TX1) (N := 12) hx hb hts inX1 hown hE.1 hP 0 rfl rfl 5 (by decide) F27 (fun _ h9 => h9) rfl dX1_layPiece_46 ?_
    refine lv_iload hx hb dX1_layPiece_49 (lv_at hl 0 rfl) ?_
    refine top_i (y := nI k_3) (by rw [c_2]; rfl) ?_
    refine lv_iload hx hb dX1_layPiece_51 (lv_at hl 1 rfl) ?_
    refine wr_SN (rest := []) ⟨hx, hb, hml, hown, hts⟩ hP hE hA hD hS (c_X3_increase l D K _ _ 6 _ 4 _ k_3 (nI (tollT T to)) rfl (by omega) (by omega)) (va_cnB (host := RX3) 3 hts gX1_layPiece_X3_increase_n101 rfl rfl rfl hE.2.2.2.2.2.2.2.2.2.2.2.2.2.1 IniX3 hn_X3_increase ⟨Nat.le_of_ble_eq_true rfl, Nat.le_of_ble_eq_true rfl⟩) Sta_X3_increase rfl hl.1 rfl (Nat.le_of_ble_eq_true rfl) dX1_layPiece_53 ⟨Nat.le_of_ble_eq_true rfl, Nat.le_of_ble_eq_true rfl⟩ (fun H locs hP hD hS => ?_)
    have hP : va_P D vwCl (townW K a (incT T 5 k_3 (nI (tollT T to))) ++ X) H := hP
    have hD : va_D A (townW K a (incT T 5 k_3 (nI (tollT T to))) ++ X) := hD
    refine lv_aload_n hx hb dX1_layPiece_56 rfl (lv_at hl 3 rfl) ?_
    refine va_get (D := D) (ci := 1) (v := .ref (a 10)) (C := RX1) (T := TX1) (N := 12) hx hb hts inX1 hown hE.1 hP 0 rfl rfl 9 (by decide) F47 (fun _ h9 => h9) rfl dX1_layPiece_57 ?_
    refine lv_iload hx hb dX1_layPiece_60 (lv_at hl 0 rfl) ?_
    refine top_i (y := nI k_3) (by rw [c_2]; rfl) ?_
    refine lv_iload hx hb dX1_layPiece_62 (lv_at hl 1 rfl) ?_
    refine wr_SN (rest := []) ⟨hx, hb, hml, hown, hts⟩ hP hE hA hD hS (c_X3_increase l D K _ _ 10 _ 4 _ k_3 (nI (tollT T to)) rfl (by omega) (by omega)) (va_cnB (host := RX3) 3 hts gX1_layPiece_X3_increase_n101 rfl rfl rfl hE.2.2.2.2.2.2.2.2.2.2.2.2.2.1 IniX3 hn_X3_increase ⟨Nat.le_of_ble_eq_true rfl, Nat.le_of_ble_eq_true rfl⟩) Sta_X3_increase rfl hl.1 rfl (Nat.le_of_ble_eq_true rfl) dX1_layPiece_64 ⟨Nat.le_of_ble_eq_true rfl, Nat.le_of_ble_eq_true rfl⟩ (fun H locs hP hD hS => ?_)
    have hP : va_P D vwCl (townW K a (incT (incT T 5 k_3 (nI (tollT T to))) 9 k_3 (nI (tollT T to))) ++ X) H := hP
    have hD : va_D A (townW K a (incT (incT T 5 k_3 (nI (tollT T to))) 9 k_3 (nI (tollT T to))) ++ X) := hD
    refine lv_aload_n hx hb dX1_layPiece_67 rfl (lv_at hl 3 rfl) ?_
    refine va_get (D := D) (ci := 1) (v := .ref (a 6)) (C := RX1) (T := TX1) (N := 12) hx hb hts inX1 hown hE.1 hP 0 rfl rfl 5 (by decide) F27 (fun _ h9 => h9) rfl dX1_layPiece_68 ?_
    refine lv_iload_n hx hb dX1_layPiece_71 rfl (lv_at hl 4 rfl) ?_
    refine lv_aload_n hx hb dX1_layPiece_72 rfl (lv_at hl 3 rfl) ?_
    refine va_get (D := D) (ci := 1) (v := .ref (a 11)) (C := RX1) (T := TX1) (N := 12) hx hb hts inX1 hown hE.1 hP 0 rfl rfl 10 (by decide) F53 (fun _ h9 => h9) rfl dX1_layPiece_73 ?_
    refine lv_iconst (v := nI 2) hx hb dX1_layPiece_76 (by decide) ?_
    refine rd_SN (rest := [.int (nI p), .ref (a 6)]) ⟨hx, hb, hml, hown, hts⟩ hP hE (c_X3_at l D K _ 11 _ 3 _ 2 rfl (by omega) (by omega)) (va_cnB (host := RX3) 2 hts gX1_layPiece_X3_at_n70 rfl rfl rfl hE.2.2.2.2.1 IniX3 hn_X3_at ⟨Nat.le_of_ble_eq_true rfl, Nat.le_of_ble_eq_true rfl⟩) Sta_X3_at rfl hl.1 rfl (Nat.le_of_ble_eq_true rfl) dX1_layPiece_77 ⟨Nat.le_of_ble_eq_true rfl, Nat.le_of_ble_eq_true rfl⟩ ?_
    refine top_i (y := nI (stT T 2)) (show T 10 2 = nI (stT T 2) from eq_st hI (by omega)) ?_
    have hb_4 := st_lt hI (show 2 < 3 by omega)
    refine lv_iload hx hb dX1_layPiece_80 (lv_at hl 1 rfl) ?_
    refine lv_isub (x := nI (stT T 2)) (y := nI (tollT T to)) hx hb dX1_layPiece_82 ?_
    refine wr_SN (rest := []) ⟨hx, hb, hml, hown, hts⟩ hP hE hA hD hS (c_X3_increase l D K _ _ 6 _ 4 _ p ((nI (stT T 2)) - (nI (tollT T to))) rfl (by omega) (by omega)) (va_cnB (host := RX3) 3 hts gX1_layPiece_X3_increase_n101 rfl rfl rfl hE.2.2.2.2.2.2.2.2.2.2.2.2.2.1 IniX3 hn_X3_increase ⟨Nat.le_of_ble_eq_true rfl, Nat.le_of_ble_eq_true rfl⟩) Sta_X3_increase rfl hl.1 rfl (Nat.le_of_ble_eq_true rfl) dX1_layPiece_83 ⟨Nat.le_of_ble_eq_true rfl, Nat.le_of_ble_eq_true rfl⟩ (fun H locs hP hD hS => ?_)
    have hP : va_P D vwCl (townW K a (incT (incT (incT T 5 k_3 (nI (tollT T to))) 9 k_3 (nI (tollT T to))) 5 p ((nI (stT T 2)) - (nI (tollT T to)))) ++ X) H := hP
    have hD : va_D A (townW K a (incT (incT (incT T 5 k_3 (nI (tollT T to))) 9 k_3 (nI (tollT T to))) 5 p ((nI (stT T 2)) - (nI (tollT T to)))) ++ X) := hD
    refine lv_aload_n hx hb dX1_layPiece_86 rfl (lv_at hl 3 rfl) ?_
    refine va_get (D := D) (ci := 1) (v := .ref (a 9)) (C := RX1) (T := TX1) (N := 12) hx hb hts inX1 hown hE.1 hP 0 rfl rfl 8 (by decide) F44 (fun _ h9 => h9) rfl dX1_layPiece_87 ?_
    refine lv_iload_n hx hb dX1_layPiece_90 rfl (lv_at hl 4 rfl) ?_
    refine lv_iload hx hb dX1_layPiece_91 (lv_at hl 1 rfl) ?_
    refine wr_SN (rest := []) ⟨hx, hb, hml, hown, hts⟩ hP hE hA hD hS (c_X3_increase l D K _ _ 9 _ 4 _ p (nI (tollT T to)) rfl (by omega) (by omega)) (va_cnB (host := RX3) 3 hts gX1_layPiece_X3_increase_n101 rfl rfl rfl hE.2.2.2.2.2.2.2.2.2.2.2.2.2.1 IniX3 hn_X3_increase ⟨Nat.le_of_ble_eq_true rfl, Nat.le_of_ble_eq_true rfl⟩) Sta_X3_increase rfl hl.1 rfl (Nat.le_of_ble_eq_true rfl) dX1_layPiece_93 ⟨Nat.le_of_ble_eq_true rfl, Nat.le_of_ble_eq_true rfl⟩ (fun H locs hP hD hS => ?_)
    have hP : va_P D vwCl (townW K a (incT (incT (incT (incT T 5 k_3 (nI (tollT T to))) 9 k_3 (nI (tollT T to))) 5 p ((nI (stT T 2)) - (nI (tollT T to)))) 8 p (nI (tollT T to))) ++ X) H := hP
    have hD : va_D A (townW K a (incT (incT (incT (incT T 5 k_3 (nI (tollT T to))) 9 k_3 (nI (tollT T to))) 5 p ((nI (stT T 2)) - (nI (tollT T to)))) 8 p (nI (tollT T to))) ++ X) := hD
    refine lv_aload_n hx hb dX1_layPiece_96 rfl (lv_at hl 3 rfl) ?_
    refine va_get (D := D) (ci := 1) (v := .ref (a 2)) (C := RX1) (T := TX1) (N := 12) hx hb hts inX1 hown hE.1 hP 0 rfl rfl 1 (by decide) F15 (fun _ h9 => h9) rfl dX1_layPiece_97 ?_
    refine lv_iload hx hb dX1_layPiece_100 (lv_at hl 2 rfl) ?_
    refine lv_aload_n hx hb dX1_layPiece_102 rfl (lv_at hl 3 rfl) ?_
    refine va_get (D := D) (ci := 1) (v := .ref (a 2)) (C := RX1) (T := TX1) (N := 12) hx hb hts inX1 hown hE.1 hP 0 rfl rfl 1 (by decide) F15 (fun _ h9 => h9) rfl dX1_layPiece_103 ?_
    refine lv_iload hx hb dX1_layPiece_106 (lv_at hl 2 rfl) ?_
    refine rd_SN (rest := [.int (nI to), .ref (a 2)]) ⟨hx, hb, hml, hown, hts⟩ hP hE (c_X3_at l D K _ 2 _ 80 _ to rfl (by omega) (by omega)) (va_cnB (host := RX3) 2 hts gX1_layPiece_X3_at_n70 rfl rfl rfl hE.2.2.2.2.1 IniX3 hn_X3_at ⟨Nat.le_of_ble_eq_true rfl, Nat.le_of_ble_eq_true rfl⟩) Sta_X3_at rfl hl.1 rfl (Nat.le_of_ble_eq_true rfl) dX1_layPiece_108 ⟨Nat.le_of_ble_eq_true rfl, Nat.le_of_ble_eq_true rfl⟩ ?_
    refine top_i (y := nI (mkT T to)) (show T 1 to = nI (mkT T to) from eq_mk hI (by omega)) ?_
    have hb_5 := mk_lt hI (show to < 80 by omega)
    refine lv_iconst (v := nI 1) hx hb dX1_layPiece_111 (by decide) ?_
    refine lv_iload_n hx hb dX1_layPiece_112 rfl (lv_at hl 4 rfl) ?_
    refine nv_ishl1 (y := p) hx hb dX1_layPiece_113 (by omega) ?_
    refine nv_ior (x := mkT T to) (y := 2 ^ p) hx hb dX1_layPiece_114 ?_
    refine wr_SN (rest := []) ⟨hx, hb, hml, hown, hts⟩ hP hE hA hD hS (c_X3_put l D K _ _ 2 _ 80 _ to (nI ((mkT T to) ||| (2 ^ p))) rfl (by omega) (by omega)) (va_cnB (host := RX3) 3 hts gX1_layPiece_X3_put_n97 rfl rfl rfl hE.2.2.2.2.2.2.2.2.2.2.2.2.1 IniX3 hn_X3_put ⟨Nat.le_of_ble_eq_true rfl, Nat.le_of_ble_eq_true rfl⟩) Sta_X3_put rfl hl.1 rfl (Nat.le_of_ble_eq_true rfl) dX1_layPiece_115 ⟨Nat.le_of_ble_eq_true rfl, Nat.le_of_ble_eq_true rfl⟩ (fun H locs hP hD hS => ?_)
    have hP : va_P D vwCl (townW K a (setT (incT (incT (incT (incT T 5 k_3 (nI (tollT T to))) 9 k_3 (nI (tollT T to))) 5 p ((nI (stT T 2)) - (nI (tollT T to)))) 8 p (nI (tollT T to))) 1 to (nI ((mkT T to) ||| (2 ^ p)))) ++ X) H := hP
    have hD : va_D A (townW K a (setT (incT (incT (incT (incT T 5 k_3 (nI (tollT T to))) 9 k_3 (nI (tollT T to))) 5 p ((nI (stT T 2)) - (nI (tollT T to)))) 8 p (nI (tollT T to))) 1 to (nI ((mkT T to) ||| (2 ^ p)))) ++ X) := hD
    refine lv_aload_n hx hb dX1_layPiece_118 rfl (lv_at hl 3 rfl) ?_
    refine va_get (D := D) (ci := 1) (v := .ref (a 7)) (C := RX1) (T := TX1) (N := 12) hx hb hts inX1 hown hE.1 hP 0 rfl rfl 6 (by decide) F38 (fun _ h9 => h9) rfl dX1_layPiece_119 ?_
    refine lv_iload_n hx hb dX1_layPiece_122 rfl (lv_at hl 4 rfl) ?_
    refine lv_iload hx hb dX1_layPiece_123 (lv_at hl 2 rfl) ?_
    refine wr_SN (rest := []) ⟨hx, hb, hml, hown, hts⟩ hP hE hA hD hS (c_X3_put l D K _ _ 7 _ 4 _ p (nI to) rfl (by omega) (by omega)) (va_cnB (host := RX3) 3 hts gX1_layPiece_X3_put_n97 rfl rfl rfl hE.2.2.2.2.2.2.2.2.2.2.2.2.1 IniX3 hn_X3_put ⟨Nat.le_of_ble_eq_true rfl, Nat.le_of_ble_eq_true rfl⟩) Sta_X3_put rfl hl.1 rfl (Nat.le_of_ble_eq_true rfl) dX1_layPiece_125 ⟨Nat.le_of_ble_eq_true rfl, Nat.le_of_ble_eq_true rfl⟩ (fun H locs hP hD hS => ?_)
    have hP : va_P D vwCl (townW K a (setT (setT (incT (incT (incT (incT T 5 k_3 (nI (tollT T to))) 9 k_3 (nI (tollT T to))) 5 p ((nI (stT T 2)) - (nI (tollT T to)))) 8 p (nI (tollT T to))) 1 to (nI ((mkT T to) ||| (2 ^ p)))) 6 p (nI to)) ++ X) H := hP
    have hD : va_D A (townW K a (setT (setT (incT (incT (incT (incT T 5 k_3 (nI (tollT T to))) 9 k_3 (nI (tollT T to))) 5 p ((nI (stT T 2)) - (nI (tollT T to)))) 8 p (nI (tollT T to))) 1 to (nI ((mkT T to) ||| (2 ^ p)))) 6 p (nI to)) ++ X) := hD
    refine lv_aload_n hx hb dX1_layPiece_128 rfl (lv_at hl 3 rfl) ?_
    refine va_get (D := D) (ci := 1) (v := .ref (a 8)) (C := RX1) (T := TX1) (N := 12) hx hb hts inX1 hown hE.1 hP 0 rfl rfl 7 (by decide) F41 (fun _ h9 => h9) rfl dX1_layPiece_129 ?_
    refine lv_iload_n hx hb dX1_layPiece_132 rfl (lv_at hl 4 rfl) ?_
    refine lv_iload_n hx hb dX1_layPiece_133 rfl (lv_at hl 6 rfl) ?_
    refine wr_SN (rest := []) ⟨hx, hb, hml, hown, hts⟩ hP hE hA hD hS (c_X3_put l D K _ _ 8 _ 4 _ p (nI d) rfl (by omega) (by omega)) (va_cnB (host := RX3) 3 hts gX1_layPiece_X3_put_n97 rfl rfl rfl hE.2.2.2.2.2.2.2.2.2.2.2.2.1 IniX3 hn_X3_put ⟨Nat.le_of_ble_eq_true rfl, Nat.le_of_ble_eq_true rfl⟩) Sta_X3_put rfl hl.1 rfl (Nat.le_of_ble_eq_true rfl) dX1_layPiece_134 ⟨Nat.le_of_ble_eq_true rfl, Nat.le_of_ble_eq_true rfl⟩ (fun H locs hP hD hS => ?_)
    have hP : va_P D vwCl (townW K a (setT (setT (setT (incT (incT (incT (incT T 5 k_3 (nI (tollT T to))) 9 k_3 (nI (tollT T to))) 5 p ((nI (stT T 2)) - (nI (tollT T to)))) 8 p (nI (tollT T to))) 1 to (nI ((mkT T to) ||| (2 ^ p)))) 6 p (nI to)) 7 p (nI d)) ++ X) H := hP
    have hD : va_D A (townW K a (setT (setT (setT (incT (incT (incT (incT T 5 k_3 (nI (tollT T to))) 9 k_3 (nI (tollT T to))) 5 p ((nI (stT T 2)) - (nI (tollT T to)))) 8 p (nI (tollT T to))) 1 to (nI ((mkT T to) ||| (2 ^ p)))) 6 p (nI to)) 7 p (nI d)) ++ X) := hD
    refine lv_aload_n hx hb dX1_layPiece_137 rfl (lv_at hl 3 rfl) ?_
    refine lv_dup hx hb dX1_layPiece_138 rfl ?_
    refine va_get (D := D) (ci := 1) (v := .int (T 11 0)) (C := RX1) (T := TX1) (N := 12) hx hb hts inX1 hown hE.1 hP 0 rfl rfl 11 (by decide) F66 (fun _ h9 => h9) rfl dX1_layPiece_139 ?_
    refine lv_iconst (v := nI 1) hx hb dX1_layPiece_142 (by decide) ?_
    refine lv_iadd (x := T 11 0) (y := nI 1) hx hb dX1_layPiece_143 ?_
    refine va_put (D := D) (ci := 1) (v := .int ((T 11 0) + (nI 1))) (ty := .int) (C := RX1) (T := TX1) (N := 12) hx hb hts inX1 tyX1 tyX1_ok nmX1 hown hE.1 hP hD hS 0 rfl rfl 11 (by decide) F66 (fun _ h9 => h9) rfl (by decide +kernel) rfl rfl (Nat.le_of_ble_eq_true rfl) dX1_layPiece_144 (fun H locs hP hD hS => ?_)
    have hP : va_P D vwCl (townW K a (setT (setT (setT (setT (incT (incT (incT (incT T 5 k_3 (nI (tollT T to))) 9 k_3 (nI (tollT T to))) 5 p ((nI (stT T 2)) - (nI (tollT T to)))) 8 p (nI (tollT T to))) 1 to (nI ((mkT T to) ||| (2 ^ p)))) 6 p (nI to)) 7 p (nI d)) 11 0 ((T 11 0) + (nI 1))) ++ X) H := hP
    have hD : va_D A (townW K a (setT (setT (setT (setT (incT (incT (incT (incT T 5 k_3 (nI (tollT T to))) 9 k_3 (nI (tollT T to))) 5 p ((nI (stT T 2)) - (nI (tollT T to)))) 8 p (nI (tollT T to))) 1 to (nI ((mkT T to) ||| (2 ^ p)))) 6 p (nI to)) 7 p (nI d)) 11 0 ((T 11 0) + (nI 1))) ++ X) := hD
    refine lv_iload hx hb dX1_layPiece_147 (lv_at hl 1 rfl) ?_
    have ew : (townW K a (setT (setT (setT (setT (incT (incT (incT (incT T 5 k_3 (nI (tollT T to))) 9 k_3 (nI (tollT T to))) 5 p ((nI (stT T 2)) - (nI (tollT T to)))) 8 p (nI (tollT T to))) 1 to (nI ((mkT T to) ||| (2 ^ p)))) 6 p (nI to)) 7 p (nI d)) 11 0 ((T 11 0) + (nI 1))) ++ X) = (townW K a (layT T p to d) ++ X) := by simp [layT, nI_one, c_2]
    rw [ew] at hP hD
    exact wr_iret hAe hP hD hS hx hb hr hk dX1_layPiece_149 ⟨Nat.le_of_ble_eq_true rfl, Nat.le_of_ble_eq_true rfl⟩ (rfl)
  · refine lv_aload_n hx hb dX1_layPiece_32 rfl (lv_at hl 3 rfl) ?_
    refine va_get (D := D) (ci := 1) (v := .ref (a 3)) (C := RX1) (T := TX1) (N := 12) hx hb hts inX1 hown hE.1 hP 0 rfl rfl 2 (by decide) F18 (fun _ h9 => h9) rfl dX1_layPiece_33 ?_
    refine lv_iload hx hb dX1_layPiece_36 (lv_at hl 2 rfl) ?_
    refine lv_iload_n hx hb dX1_layPiece_38 rfl (lv_at hl 4 rfl) ?_
    refine wr_SN (rest := []) ⟨hx, hb, hml, hown, hts⟩ hP hE hA hD hS (c_X3_put l D K _ _ 3 _ 80 _ to (nI p) rfl (by omega) (by omega)) (va_cnB (host := RX3) 3 hts gX1_layPiece_X3_put_n97 rfl rfl rfl hE.2.2.2.2.2.2.2.2.2.2.2.2.1 IniX3 hn_X3_put ⟨Nat.le_of_ble_eq_true rfl, Nat.le_of_ble_eq_true rfl⟩) Sta_X3_put rfl hl.1 rfl (Nat.le_of_ble_eq_true rfl) dX1_layPiece_39 ⟨Nat.le_of_ble_eq_true rfl, Nat.le_of_ble_eq_true rfl⟩ (fun H locs hP hD hS => ?_)
    have hP : va_P D vwCl (townW K a (setT T 2 to (nI p)) ++ X) H := hP
    have hD : va_D A (townW K a (setT T 2 to (nI p)) ++ X) := hD
    refine lv_goto (tgt := 67) hx hb dX1_layPiece_42 (by decide) ?_
    refine lv_aload_n hx hb dX1_layPiece_67 rfl (lv_at hl 3 rfl) ?_
    refine va_get (D := D) (ci := 1) (v := .ref (a 6)) (C := RX1) (T := TX1) (N := 12) hx hb hts inX1 hown hE.1 hP 0 rfl rfl 5 (by decide) F27 (fun _ h9 => h9) rfl dX1_layPiece_68 ?_
    refine lv_iload_n hx hb dX1_layPiece_71 rfl (lv_at hl 4 rfl) ?_
    refine lv_aload_n hx hb dX1_layPiece_72 rfl (lv_at hl 3 rfl) ?_
    refine va_get (D := D) (ci := 1) (v := .ref (a 11)) (C := RX1) (T := TX1) (N := 12) hx hb hts inX1 hown hE.1 hP 0 rfl rfl 10 (by decide) F53 (fun _ h9 => h9) rfl dX1_layPiece_73 ?_
    refine lv_iconst (v := nI 2) hx hb dX1_layPiece_76 (by decide) ?_
    refine rd_SN (rest := [.int (nI p), .ref (a 6)]) ⟨hx, hb, hml, hown, hts⟩ hP hE (c_X3_at l D K _ 11 _ 3 _ 2 rfl (by omega) (by omega)) (va_cnB (host := RX3) 2 hts gX1_layPiece_X3_at_n70 rfl rfl rfl hE.2.2.2.2.1 IniX3 hn_X3_at ⟨Nat.le_of_ble_eq_true rfl, Nat.le_of_ble_eq_true rfl⟩) Sta_X3_at rfl hl.1 rfl (Nat.le_of_ble_eq_true rfl) dX1_layPiece_77 ⟨Nat.le_of_ble_eq_true rfl, Nat.le_of_ble_eq_true rfl⟩ ?_
    refine top_i (y := nI (stT T 2)) (show T 10 2 = nI (stT T 2) from eq_st hI (by omega)) ?_
    have hb_6 := st_lt hI (show 2 < 3 by omega)
    refine lv_iload hx hb dX1_layPiece_80 (lv_at hl 1 rfl) ?_
    refine lv_isub (x := nI (stT T 2)) (y := nI (tollT T to)) hx hb dX1_layPiece_82 ?_
    refine wr_SN (rest := []) ⟨hx, hb, hml, hown, hts⟩ hP hE hA hD hS (c_X3_increase l D K _ _ 6 _ 4 _ p ((nI (stT T 2)) - (nI (tollT T to))) rfl (by omega) (by omega)) (va_cnB (host := RX3) 3 hts gX1_layPiece_X3_increase_n101 rfl rfl rfl hE.2.2.2.2.2.2.2.2.2.2.2.2.2.1 IniX3 hn_X3_increase ⟨Nat.le_of_ble_eq_true rfl, Nat.le_of_ble_eq_true rfl⟩) Sta_X3_increase rfl hl.1 rfl (Nat.le_of_ble_eq_true rfl) dX1_layPiece_83 ⟨Nat.le_of_ble_eq_true rfl, Nat.le_of_ble_eq_true rfl⟩ (fun H locs hP hD hS => ?_)
    have hP : va_P D vwCl (townW K a (incT (setT T 2 to (nI p)) 5 p ((nI (stT T 2)) - (nI (tollT T to)))) ++ X) H := hP
    have hD : va_D A (townW K a (incT (setT T 2 to (nI p)) 5 p ((nI (stT T 2)) - (nI (tollT T to)))) ++ X) := hD
    refine lv_aload_n hx hb dX1_layPiece_86 rfl (lv_at hl 3 rfl) ?_
    refine va_get (D := D) (ci := 1) (v := .ref (a 9)) (C := RX1) (T := TX1) (N := 12) hx hb hts inX1 hown hE.1 hP 0 rfl rfl 8 (by decide) F44 (fun _ h9 => h9) rfl dX1_layPiece_87 ?_
    refine lv_iload_n hx hb dX1_layPiece_90 rfl (lv_at hl 4 rfl) ?_
    refine lv_iload hx hb dX1_layPiece_91 (lv_at hl 1 rfl) ?_
    refine wr_SN (rest := []) ⟨hx, hb, hml, hown, hts⟩ hP hE hA hD hS (c_X3_increase l D K _ _ 9 _ 4 _ p (nI (tollT T to)) rfl (by omega) (by omega)) (va_cnB (host := RX3) 3 hts gX1_layPiece_X3_increase_n101 rfl rfl rfl hE.2.2.2.2.2.2.2.2.2.2.2.2.2.1 IniX3 hn_X3_increase ⟨Nat.le_of_ble_eq_true rfl, Nat.le_of_ble_eq_true rfl⟩) Sta_X3_increase rfl hl.1 rfl (Nat.le_of_ble_eq_true rfl) dX1_layPiece_93 ⟨Nat.le_of_ble_eq_true rfl, Nat.le_of_ble_eq_true rfl⟩ (fun H locs hP hD hS => ?_)
    have hP : va_P D vwCl (townW K a (incT (incT (setT T 2 to (nI p)) 5 p ((nI (stT T 2)) - (nI (tollT T to)))) 8 p (nI (tollT T to))) ++ X) H := hP
    have hD : va_D A (townW K a (incT (incT (setT T 2 to (nI p)) 5 p ((nI (stT T 2)) - (nI (tollT T to)))) 8 p (nI (tollT T to))) ++ X) := hD
    refine lv_aload_n hx hb dX1_layPiece_96 rfl (lv_at hl 3 rfl) ?_
    refine va_get (D := D) (ci := 1) (v := .ref (a 2)) (C := RX1) (T := TX1) (N := 12) hx hb hts inX1 hown hE.1 hP 0 rfl rfl 1 (by decide) F15 (fun _ h9 => h9) rfl dX1_layPiece_97 ?_
    refine lv_iload hx hb dX1_layPiece_100 (lv_at hl 2 rfl) ?_
    refine lv_aload_n hx hb dX1_layPiece_102 rfl (lv_at hl 3 rfl) ?_
    refine va_get (D := D) (ci := 1) (v := .ref (a 2)) (C := RX1) (T := TX1) (N := 12) hx hb hts inX1 hown hE.1 hP 0 rfl rfl 1 (by decide) F15 (fun _ h9 => h9) rfl dX1_layPiece_103 ?_
    refine lv_iload hx hb dX1_layPiece_106 (lv_at hl 2 rfl) ?_
    refine rd_SN (rest := [.int (nI to), .ref (a 2)]) ⟨hx, hb, hml, hown, hts⟩ hP hE (c_X3_at l D K _ 2 _ 80 _ to rfl (by omega) (by omega)) (va_cnB (host := RX3) 2 hts gX1_layPiece_X3_at_n70 rfl rfl rfl hE.2.2.2.2.1 IniX3 hn_X3_at ⟨Nat.le_of_ble_eq_true rfl, Nat.le_of_ble_eq_true rfl⟩) Sta_X3_at rfl hl.1 rfl (Nat.le_of_ble_eq_true rfl) dX1_layPiece_108 ⟨Nat.le_of_ble_eq_true rfl, Nat.le_of_ble_eq_true rfl⟩ ?_
    refine top_i (y := nI (mkT T to)) (show T 1 to = nI (mkT T to) from eq_mk hI (by omega)) ?_
    have hb_7 := mk_lt hI (show to < 80 by omega)
    refine lv_iconst (v := nI 1) hx hb dX1_layPiece_111 (by decide) ?_
    refine lv_iload_n hx hb dX1_layPiece_112 rfl (lv_at hl 4 rfl) ?_
    refine nv_ishl1 (y := p) hx hb dX1_layPiece_113 (by omega) ?_
    refine nv_ior (x := mkT T to) (y := 2 ^ p) hx hb dX1_layPiece_114 ?_
    refine wr_SN (rest := []) ⟨hx, hb, hml, hown, hts⟩ hP hE hA hD hS (c_X3_put l D K _ _ 2 _ 80 _ to (nI ((mkT T to) ||| (2 ^ p))) rfl (by omega) (by omega)) (va_cnB (host := RX3) 3 hts gX1_layPiece_X3_put_n97 rfl rfl rfl hE.2.2.2.2.2.2.2.2.2.2.2.2.1 IniX3 hn_X3_put ⟨Nat.le_of_ble_eq_true rfl, Nat.le_of_ble_eq_true rfl⟩) Sta_X3_put rfl hl.1 rfl (Nat.le_of_ble_eq_true rfl) dX1_layPiece_115 ⟨Nat.le_of_ble_eq_true rfl, Nat.le_of_ble_eq_true rfl⟩ (fun H locs hP hD hS => ?_)
    have hP : va_P D vwCl (townW K a (setT (incT (incT (setT T 2 to (nI p)) 5 p ((nI (stT T 2)) - (nI (tollT T to)))) 8 p (nI (tollT T to))) 1 to (nI ((mkT T to) ||| (2 ^ p)))) ++ X) H := hP
    have hD : va_D A (townW K a (setT (incT (incT (setT T 2 to (nI p)) 5 p ((nI (stT T 2)) - (nI (tollT T to)))) 8 p (nI (tollT T to))) 1 to (nI ((mkT T to) ||| (2 ^ p)))) ++ X) := hD
    refine lv_aload_n hx hb dX1_layPiece_118 rfl (lv_at hl 3 rfl) ?_
    refine va_get (D := D) (ci := 1) (v := .ref (a 7)) (C := RX1) (T := TX1) (N := 12) hx hb hts inX1 hown hE.1 hP 0 rfl rfl 6 (by decide) F38 (fun _ h9 => h9) rfl dX1_layPiece_119 ?_
    refine lv_iload_n hx hb dX1_layPiece_122 rfl (lv_at hl 4 rfl) ?_
    refine lv_iload hx hb dX1_layPiece_123 (lv_at hl 2 rfl) ?_
    refine wr_SN (rest := []) ⟨hx, hb, hml, hown, hts⟩ hP hE hA hD hS (c_X3_put l D K _ _ 7 _ 4 _ p (nI to) rfl (by omega) (by omega)) (va_cnB (host := RX3) 3 hts gX1_layPiece_X3_put_n97 rfl rfl rfl hE.2.2.2.2.2.2.2.2.2.2.2.2.1 IniX3 hn_X3_put ⟨Nat.le_of_ble_eq_true rfl, Nat.le_of_ble_eq_true rfl⟩) Sta_X3_put rfl hl.1 rfl (Nat.le_of_ble_eq_true rfl) dX1_layPiece_125 ⟨Nat.le_of_ble_eq_true rfl, Nat.le_of_ble_eq_true rfl⟩ (fun H locs hP hD hS => ?_)
    have hP : va_P D vwCl (townW K a (setT (setT (incT (incT (setT T 2 to (nI p)) 5 p ((nI (stT T 2)) - (nI (tollT T to)))) 8 p (nI (tollT T to))) 1 to (nI ((mkT T to) ||| (2 ^ p)))) 6 p (nI to)) ++ X) H := hP
    have hD : va_D A (townW K a (setT (setT (incT (incT (setT T 2 to (nI p)) 5 p ((nI (stT T 2)) - (nI (tollT T to)))) 8 p (nI (tollT T to))) 1 to (nI ((mkT T to) ||| (2 ^ p)))) 6 p (nI to)) ++ X) := hD
    refine lv_aload_n hx hb dX1_layPiece_128 rfl (lv_at hl 3 rfl) ?_
    refine va_get (D := D) (ci := 1) (v := .ref (a 8)) (C := RX1) (T := TX1) (N := 12) hx hb hts inX1 hown hE.1 hP 0 rfl rfl 7 (by decide) F41 (fun _ h9 => h9) rfl dX1_layPiece_129 ?_
    refine lv_iload_n hx hb dX1_layPiece_132 rfl (lv_at hl 4 rfl) ?_
    refine lv_iload_n hx hb dX1_layPiece_133 rfl (lv_at hl 6 rfl) ?_
    refine wr_SN (rest := []) ⟨hx, hb, hml, hown, hts⟩ hP hE hA hD hS (c_X3_put l D K _ _ 8 _ 4 _ p (nI d) rfl (by omega) (by omega)) (va_cnB (host := RX3) 3 hts gX1_layPiece_X3_put_n97 rfl rfl rfl hE.2.2.2.2.2.2.2.2.2.2.2.2.1 IniX3 hn_X3_put ⟨Nat.le_of_ble_eq_true rfl, Nat.le_of_ble_eq_true rfl⟩) Sta_X3_put rfl hl.1 rfl (Nat.le_of_ble_eq_true rfl) dX1_layPiece_134 ⟨Nat.le_of_ble_eq_true rfl, Nat.le_of_ble_eq_true rfl⟩ (fun H locs hP hD hS => ?_)
    have hP : va_P D vwCl (townW K a (setT (setT (setT (incT (incT (setT T 2 to (nI p)) 5 p ((nI (stT T 2)) - (nI (tollT T to)))) 8 p (nI (tollT T to))) 1 to (nI ((mkT T to) ||| (2 ^ p)))) 6 p (nI to)) 7 p (nI d)) ++ X) H := hP
    have hD : va_D A (townW K a (setT (setT (setT (incT (incT (setT T 2 to (nI p)) 5 p ((nI (stT T 2)) - (nI (tollT T to)))) 8 p (nI (tollT T to))) 1 to (nI ((mkT T to) ||| (2 ^ p)))) 6 p (nI to)) 7 p (nI d)) ++ X) := hD
    refine lv_aload_n hx hb dX1_layPiece_137 rfl (lv_at hl 3 rfl) ?_
    refine lv_dup hx hb dX1_layPiece_138 rfl ?_
    refine va_get (D := D) (ci := 1) (v := .int (T 11 0)) (C := RX1) (T := TX1) (N := 12) hx hb hts inX1 hown hE.1 hP 0 rfl rfl 11 (by decide) F66 (fun _ h9 => h9) rfl dX1_layPiece_139 ?_
    refine lv_iconst (v := nI 1) hx hb dX1_layPiece_142 (by decide) ?_
    refine lv_iadd (x := T 11 0) (y := nI 1) hx hb dX1_layPiece_143 ?_
    refine va_put (D := D) (ci := 1) (v := .int ((T 11 0) + (nI 1))) (ty := .int) (C := RX1) (T := TX1) (N := 12) hx hb hts inX1 tyX1 tyX1_ok nmX1 hown hE.1 hP hD hS 0 rfl rfl 11 (by decide) F66 (fun _ h9 => h9) rfl (by decide +kernel) rfl rfl (Nat.le_of_ble_eq_true rfl) dX1_layPiece_144 (fun H locs hP hD hS => ?_)
    have hP : va_P D vwCl (townW K a (setT (setT (setT (setT (incT (incT (setT T 2 to (nI p)) 5 p ((nI (stT T 2)) - (nI (tollT T to)))) 8 p (nI (tollT T to))) 1 to (nI ((mkT T to) ||| (2 ^ p)))) 6 p (nI to)) 7 p (nI d)) 11 0 ((T 11 0) + (nI 1))) ++ X) H := hP
    have hD : va_D A (townW K a (setT (setT (setT (setT (incT (incT (setT T 2 to (nI p)) 5 p ((nI (stT T 2)) - (nI (tollT T to)))) 8 p (nI (tollT T to))) 1 to (nI ((mkT T to) ||| (2 ^ p)))) 6 p (nI to)) 7 p (nI d)) 11 0 ((T 11 0) + (nI 1))) ++ X) := hD
    refine lv_iload hx hb dX1_layPiece_147 (lv_at hl 1 rfl) ?_
    have ew : (townW K a (setT (setT (setT (setT (incT (incT (setT T 2 to (nI p)) 5 p ((nI (stT T 2)) - (nI (tollT T to)))) 8 p (nI (tollT T to))) 1 to (nI ((mkT T to) ||| (2 ^ p)))) 6 p (nI to)) 7 p (nI d)) 11 0 ((T 11 0) + (nI 1))) ++ X) = (townW K a (layT T p to d) ++ X) := by simp [layT, nI_one, c_2]
    rw [ew] at hP hD
    exact wr_iret hAe hP hD hS hx hb hr hk dX1_layPiece_149 ⟨Nat.le_of_ble_eq_true rfl, Nat.le_of_ble_eq_true rfl⟩ (rfl)
set_option maxHeartbeats 4000000 in
set_option maxRecDepth 100000 in
theorem c_X1_removeTrack (l : Launch) (D : va_G) (K : Nat → ClassId) (sz : Nat) (a : Nat → Nat) (T : TW) (X : va_W) (p s : Nat) (hI : Inv T) (hp : p < 4) (hs : s < 80) : Wr l yX1_removeTrack wsX1_removeTrack ({ frames := 2, cells := 0, slots := 0, locals := 34 } : Room) D K (townW K a T ++ X) sz [.ref (a 0), .int (nI p), .int (nI s)] (townW K a (rmT T p s) ++ X) none 0 0 := by
  refine wr_intro (cc := cX1_removeTrack) (maxL := 4) (ret := none) (by decide) rfl (Nat.le_of_ble_eq_true rfl) ?_
  intro pr en st md ar bl mt co A hx hb hml hr hts hown hk hsz hAe hP hE hD hS hA hin ls hl
  have hown : st.vm.findClass RX1 = some md.cls := hown
  have hl : lv_has ls 4 [(0, .ref (a 0)), (1, .int (nI p)), (2, .int (nI s))] := hl
  obtain ⟨H, hH⟩ : ∃ z, z = st.heap := ⟨_, rfl⟩
  obtain ⟨locs, hlo⟩ : ∃ z : List Loc, z = [] := ⟨_, rfl⟩
  have hP : va_P D vwCl (townW K a T ++ X) H := by rw [hH]; exact hP
  have hS : va_S A st.heap H locs := by rw [hH, hlo]; exact hS
  suffices go : W pr l en (headSpec wsX1_removeTrack ({ frames := 2, cells := 0, slots := 0, locals := 34 } : Room)).room st md ar bl mt co H locs 0 0 (MQ bl (wrQ D (townW K a T ++ X) (townW K a (rmT T p s) ++ X) sz none) ar st 0 0 A) (F0 md 0 ls []) by rw [hH, hlo] at go; exact go
  clear hH hlo
  have F15 : (Cond.fieldLink RX1 15 "TramTolls$Town" "trackMasks" "[I").before ar st = true := hts _ (List.mem_of_getElem? (i := 1) rfl)
  have inX1 : ∀ w ∈ u_ws RX1 TX1 12, w ∈ wsX1_removeTrack := fun w h => List.mem_cons_of_mem _ (List.mem_append_right _ h)
  have IniX3 : (Cond.initialized RX3).before ar st = true := hts _ (List.mem_of_getElem? (i := 4) rfl)
  have Sta_X3_at : (Cond.static yX3_at).before ar st = true := hts _ (List.mem_of_getElem? (i := 3) rfl)
  have Sta_X3_put : (Cond.static yX3_put).before ar st = true := hts _ (List.mem_of_getElem? (i := 6) rfl)
  have F18 : (Cond.fieldLink RX1 18 "TramTolls$Town" "owners" "[I").before ar st = true := hts _ (List.mem_of_getElem? (i := 2) rfl)
  refine lv_aload_n hx hb dX1_removeTrack_0 rfl (lv_at hl 0 rfl) ?_
  refine va_get (D := D) (ci := 1) (v := .ref (a 2)) (C := RX1) (T := TX1) (N := 12) hx hb hts inX1 hown hE.1 hP 0 rfl rfl 1 (by decide) F15 (fun _ h9 => h9) rfl dX1_removeTrack_1 ?_
  refine lv_iload_n hx hb dX1_removeTrack_4 rfl (lv_at hl 2 rfl) ?_
  refine rd_SN (rest := []) ⟨hx, hb, hml, hown, hts⟩ hP hE (c_X3_at l D K _ 2 _ 80 _ s rfl (by omega) (by omega)) (va_cnB (host := RX3) 2 hts gX1_removeTrack_X3_at_n70 rfl rfl rfl hE.2.2.2.2.1 IniX3 hn_X3_at ⟨Nat.le_of_ble_eq_true rfl, Nat.le_of_ble_eq_true rfl⟩) Sta_X3_at rfl hl.1 rfl (Nat.le_of_ble_eq_true rfl) dX1_removeTrack_5 ⟨Nat.le_of_ble_eq_true rfl, Nat.le_of_ble_eq_true rfl⟩ ?_
  refine top_i (y := nI (mkT T s)) (show T 1 s = nI (mkT T s) from eq_mk hI (by omega)) ?_
  have hb_1 := mk_lt hI (show s < 80 by omega)
  refine lv_iconst (v := nI 1) hx hb dX1_removeTrack_8 (by decide) ?_
  refine lv_iload_n hx hb dX1_removeTrack_9 rfl (lv_at hl 1 rfl) ?_
  refine nv_ishl1 (y := p) hx hb dX1_removeTrack_10 (by omega) ?_
  refine lv_iconst (v := -1) hx hb dX1_removeTrack_11 (by decide) ?_
  refine lv_ixor (x := nI (2 ^ p)) (y := -1) hx hb dX1_removeTrack_12 ?_
  refine lv_iand (x := nI (mkT T s)) (y := (nI (2 ^ p)) ^^^ (-1)) hx hb dX1_removeTrack_13 ?_
  refine top_i (y := nI (clr (mkT T s) p)) (clr_eq (by omega) (by omega)) ?_
  have hcl := clr_le (mkT T s) p
  refine lv_istore_n (lv' := [(3, .int (nI (clr (mkT T s) p))), (0, .ref (a 0)), (1, .int (nI p)), (2, .int (nI s))]) hx hb dX1_removeTrack_14 rfl hl (by decide) rfl (fun ls hl => ?_)
  refine lv_aload_n hx hb dX1_removeTrack_15 rfl (lv_at hl 1 rfl) ?_
  refine va_get (D := D) (ci := 1) (v := .ref (a 2)) (C := RX1) (T := TX1) (N := 12) hx hb hts inX1 hown hE.1 hP 0 rfl rfl 1 (by decide) F15 (fun _ h9 => h9) rfl dX1_removeTrack_16 ?_
  refine lv_iload_n hx hb dX1_removeTrack_19 rfl (lv_at hl 3 rfl) ?_
  refine lv_iload_n hx hb dX1_removeTrack_20 rfl (lv_at hl 0 rfl) ?_
  refine wr_SN (rest := []) ⟨hx, hb, hml, hown, hts⟩ hP hE hA hD hS (c_X3_put l D K _ _ 2 _ 80 _ s (nI (clr (mkT T s) p)) rfl (by omega) (by omega)) (va_cnB (host := RX3) 3 hts gX1_removeTrack_X3_put_n97 rfl rfl rfl hE.2.2.2.2.2.2.2.2.2.2.2.2.1 IniX3 hn_X3_put ⟨Nat.le_of_ble_eq_true rfl, Nat.le_of_ble_eq_true rfl⟩) Sta_X3_put rfl hl.1 rfl (Nat.le_of_ble_eq_true rfl) dX1_removeTrack_21 ⟨Nat.le_of_ble_eq_true rfl, Nat.le_of_ble_eq_true rfl⟩ (fun H locs hP hD hS => ?_)
  have hP : va_P D vwCl (townW K a (setT T 1 s (nI (clr (mkT T s) p))) ++ X) H := hP
  have hD : va_D A (townW K a (setT T 1 s (nI (clr (mkT T s) p))) ++ X) := hD
  refine lv_aload_n hx hb dX1_removeTrack_24 rfl (lv_at hl 1 rfl) ?_
  refine va_get (D := D) (ci := 1) (v := .ref (a 3)) (C := RX1) (T := TX1) (N := 12) hx hb hts inX1 hown hE.1 hP 0 rfl rfl 2 (by decide) F18 (fun _ h9 => h9) rfl dX1_removeTrack_25 ?_
  refine lv_iload_n hx hb dX1_removeTrack_28 rfl (lv_at hl 3 rfl) ?_
  refine rd_SN (rest := []) ⟨hx, hb, hml, hown, hts⟩ hP hE (c_X3_at l D K _ 3 _ 80 _ s rfl (by omega) (by omega)) (va_cnB (host := RX3) 2 hts gX1_removeTrack_X3_at_n70 rfl rfl rfl hE.2.2.2.2.1 IniX3 hn_X3_at ⟨Nat.le_of_ble_eq_true rfl, Nat.le_of_ble_eq_true rfl⟩) Sta_X3_at rfl hl.1 rfl (Nat.le_of_ble_eq_true rfl) dX1_removeTrack_29 ⟨Nat.le_of_ble_eq_true rfl, Nat.le_of_ble_eq_true rfl⟩ ?_
  refine top_i (y := oI (owT T s)) (show T 2 s = oI (owT T s) from eq_ow hI (by omega)) ?_
  refine lv_iload_n hx hb dX1_removeTrack_32 rfl (lv_at hl 2 rfl) ?_
  refine oo_icmp_ne (x := owT T s) (y := some p) (tgt := 56) hx hb dX1_removeTrack_33 (by decide) (lt31 (ow_lt hI (s := s) (by omega)) (by decide)) (fun k q => by cases q; exact (by omega)) (fun c_2 => ?_) (fun c_2 => ?_)
  · have ew : (townW K a (setT T 1 s (nI (clr (mkT T s) p))) ++ X) = (townW K a (rmT T p s) ++ X) := by simp [rmT, lowm, oI_n, oI_s, c_2]
    rw [ew] at hP hD
    exact wr_vret hAe hP hD hS hx hb hr hk dX1_removeTrack_56 ⟨Nat.le_of_ble_eq_true rfl, Nat.le_of_ble_eq_true rfl⟩
  · refine lv_aload_n hx hb dX1_removeTrack_36 rfl (lv_at hl 1 rfl) ?_
    refine va_get (D := D) (ci := 1) (v := .ref (a 3)) (C := RX1) (T := TX1) (N := 12) hx hb hts inX1 hown hE.1 hP 0 rfl rfl 2 (by decide) F18 (fun _ h9 => h9) rfl dX1_removeTrack_37 ?_
    refine lv_iload_n hx hb dX1_removeTrack_40 rfl (lv_at hl 3 rfl) ?_
    refine lv_iload_n hx hb dX1_removeTrack_41 rfl (lv_at hl 0 rfl) ?_
    refine nv_if_ne (x := clr (mkT T s) p) (tgt := 49) hx hb dX1_removeTrack_42 (by decide) (by omega) (fun c_3 => ?_) (fun c_3 => ?_)
    · have n_c_3 : ¬ clr (mkT T s) p = 0 := by omega
      refine lv_iload_n hx hb dX1_removeTrack_49 rfl (lv_at hl 0 rfl) ?_
      refine rd_S (rest := [.int (nI s), .ref (a 3)]) ⟨hx, hb, hml, hown, hts⟩ hP hE (c_J6_numberOfTrailingZeros_0f7a4 l D K _ (clr (mkT T s) p) (by omega) (by omega)) (va_cwS 1 hts gX1_removeTrack_J6_numberOfTrailingZeros_0f7a4 rfl rfl rfl hn_J6_numberOfTrailingZeros_0f7a4 ⟨Nat.le_of_ble_eq_true rfl, Nat.le_of_ble_eq_true rfl⟩) rfl hl.1 rfl (Nat.le_of_ble_eq_true rfl) dX1_removeTrack_50 ⟨Nat.le_of_ble_eq_true rfl, Nat.le_of_ble_eq_true rfl⟩ ?_
      have hb_4 := lob_lt (clr (mkT T s) p)
      refine wr_SN (rest := []) ⟨hx, hb, hml, hown, hts⟩ hP hE hA hD hS (c_X3_put l D K _ _ 3 _ 80 _ s (nI (lob (clr (mkT T s) p))) rfl (by omega) (by omega)) (va_cnB (host := RX3) 3 hts gX1_removeTrack_X3_put_n97 rfl rfl rfl hE.2.2.2.2.2.2.2.2.2.2.2.2.1 IniX3 hn_X3_put ⟨Nat.le_of_ble_eq_true rfl, Nat.le_of_ble_eq_true rfl⟩) Sta_X3_put rfl hl.1 rfl (Nat.le_of_ble_eq_true rfl) dX1_removeTrack_53 ⟨Nat.le_of_ble_eq_true rfl, Nat.le_of_ble_eq_true rfl⟩ (fun H locs hP hD hS => ?_)
      have hP : va_P D vwCl (townW K a (setT (setT T 1 s (nI (clr (mkT T s) p))) 2 s (nI (lob (clr (mkT T s) p)))) ++ X) H := hP
      have hD : va_D A (townW K a (setT (setT T 1 s (nI (clr (mkT T s) p))) 2 s (nI (lob (clr (mkT T s) p)))) ++ X) := hD
      have ew : (townW K a (setT (setT T 1 s (nI (clr (mkT T s) p))) 2 s (nI (lob (clr (mkT T s) p)))) ++ X) = (townW K a (rmT T p s) ++ X) := by simp [rmT, lowm, oI_n, oI_s, c_2, c_3, n_c_3]
      rw [ew] at hP hD
      exact wr_vret hAe hP hD hS hx hb hr hk dX1_removeTrack_56 ⟨Nat.le_of_ble_eq_true rfl, Nat.le_of_ble_eq_true rfl⟩
    · have n_c_3 : ¬ 0 < clr (mkT T s) p := by omega
      refine lv_iconst (v := -1) hx hb dX1_removeTrack_45 (by decide) ?_
      refine lv_goto (tgt := 53) hx hb dX1_removeTrack_46 (by decide) ?_
      refine wr_SN (rest := []) ⟨hx, hb, hml, hown, hts⟩ hP hE hA hD hS (c_X3_put l D K _ _ 3 _ 80 _ s (-1) rfl (by omega) (by omega)) (va_cnB (host := RX3) 3 hts gX1_removeTrack_X3_put_n97 rfl rfl rfl hE.2.2.2.2.2.2.2.2.2.2.2.2.1 IniX3 hn_X3_put ⟨Nat.le_of_ble_eq_true rfl, Nat.le_of_ble_eq_true rfl⟩) Sta_X3_put rfl hl.1 rfl (Nat.le_of_ble_eq_true rfl) dX1_removeTrack_53 ⟨Nat.le_of_ble_eq_true rfl, Nat.le_of_ble_eq_true rfl⟩ (fun H locs hP hD hS => ?_)
      have hP : va_P D vwCl (townW K a (setT (setT T 1 s (nI (clr (mkT T s) p))) 2 s (-1)) ++ X) H := hP
      have hD : va_D A (townW K a (setT (setT T 1 s (nI (clr (mkT T s) p))) 2 s (-1)) ++ X) := hD
      have ew : (townW K a (setT (setT T 1 s (nI (clr (mkT T s) p))) 2 s (-1)) ++ X) = (townW K a (rmT T p s) ++ X) := by simp [rmT, lowm, oI_n, oI_s, c_2, c_3, n_c_3]
      rw [ew] at hP hD
      exact wr_vret hAe hP hD hS hx hb hr hk dX1_removeTrack_56 ⟨Nat.le_of_ble_eq_true rfl, Nat.le_of_ble_eq_true rfl⟩
