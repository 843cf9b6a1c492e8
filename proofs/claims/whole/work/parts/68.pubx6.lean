theorem hd_X1_removeLine : yX1_removeLine.cls = RX1 ∧ yX1_removeLine.cls ≠ "java/lang/invoke/MethodHandle" ∧ yX1_removeLine.cls ≠ "java/lang/invoke/VarHandle" ∧ (parseMethodDescriptor yX1_removeLine.desc).map (fun d => d.parameters.length) = some 1 := by decide +kernel
theorem hn_X1_removeLine : yX1_removeLine.cls ≠ "java/lang/invoke/MethodHandle" ∧ yX1_removeLine.cls ≠ "java/lang/invoke/VarHandle" ∧ (parseMethodDescriptor yX1_removeLine.desc).map (fun d => d.parameters.length) = some 1 := hd_X1_removeLine.2
set_option maxHeartbeats 4000000 in
set_option maxRecDepth 100000 in
theorem c_X3_at_d (l : Launch) (D : va_G) (K : Nat → ClassId) (dp fs : Nat) (k : Nat) (hk : k < 4) : Rs dp fs l yX3_at wsX3_at ({ frames := 1, cells := 0, slots := 0, locals := 12 } : Room) D K [.ref dp, .int (nI k)] (.int (depF k)) := by
  refine rs_intro (cc := cX3_at) (maxL := 2) (ret := (some .int)) (by decide) rfl (Nat.le_of_ble_eq_true rfl) ?_
  intro pr en st md ar bl mt co hx hb hml hr hts hown hk hE hZ ls hl
  have hown : st.vm.findClass RX3 = some md.cls := hown
  have hl : lv_has ls 2 [(0, .ref dp), (1, .int (nI k))] := hl
  refine lv_iload_n hx hb dX3_at_0 rfl (lv_at hl 1 rfl) ?_
  refine nv_if_lt (x := k) (tgt := 16) hx hb dX3_at_1 (by decide) (by omega) ?_
  refine lv_iload_n hx hb dX3_at_4 rfl (lv_at hl 1 rfl) ?_
  refine lv_aload_n hx hb dX3_at_5 rfl (lv_at hl 0 rfl) ?_
  refine va_tlen hx hb hZ.2.2.1.2.va va_S.rf (v := nI 4) rfl dX3_at_6 ?_
  refine nv_icmp_ge (x := k) (y := 4) (tgt := 16) hx hb dX3_at_7 (by decide) (by omega) (by decide) (fun c_2 => ?_) (fun c_2 => ?_)
  · exact absurd hk (by omega)
  have n_c_2 := Nat.not_le.mpr c_2
  refine lv_aload_n hx hb dX3_at_10 rfl (lv_at hl 0 rfl) ?_
  refine lv_iload_n hx hb dX3_at_11 rfl (lv_at hl 1 rfl) ?_
  refine va_ti hx hb hZ.2.2.1.2.va va_S.rf (pk_in k 4 (by omega)) (v := .int (depF k)) (by rw [pk_cl k]) dX3_at_12 ?_
  refine lv_goto (tgt := 17) hx hb dX3_at_13 (by decide) ?_
  exact rd_iret hx hb hr hk dX3_at_17 (rfl)
set_option maxHeartbeats 4000000 in
set_option maxRecDepth 100000 in
theorem c_X1_removeLine (l : Launch) (D : va_G) (K : Nat → ClassId) (dp fs : Nat) (sz : Nat) (a : Nat → Nat) (T : TW) (X : va_W) (p : Nat) (hI : Inv T) (hp : p < 4) : Sx dp fs l yX1_removeLine wsX1_removeLine ({ frames := 3, cells := 0, slots := 0, locals := 57 } : Room) D K (townW K a T ++ X) sz [.ref (a 0), .int (nI p)] (townW K a (tkT T p) ++ X) (some (.int (nI (tuC T p 80)))) 0 0 := by
  refine sx_intro (cc := cX1_removeLine) (maxL := 5) (ret := (some .int)) (by decide) rfl (Nat.le_of_ble_eq_true rfl) ?_
  intro pr en st md ar bl mt co A hx hb hml hr hts hown hk hsz hAe hP hE hD hS hA hin hXw hZ ls hl
  have hown : st.vm.findClass RX1 = some md.cls := hown
  have hl : lv_has ls 5 [(0, .ref (a 0)), (1, .int (nI p))] := hl
  obtain ⟨H, hH⟩ : ∃ z, z = st.heap := ⟨_, rfl⟩
  obtain ⟨locs, hlo⟩ : ∃ z : List Loc, z = [] := ⟨_, rfl⟩
  have hP : va_P D vwCl (townW K a T ++ X) H := by rw [hH]; exact hP
  have hS : va_S A st.heap H locs := by rw [hH, hlo]; exact hS
  suffices go : W pr l en (headSpec wsX1_removeLine ({ frames := 3, cells := 0, slots := 0, locals := 57 } : Room)).room st md ar bl mt co H locs 0 0 (MQ bl (wrQ D (townW K a T ++ X) (townW K a (tkT T p) ++ X) sz (some (.int (nI (tuC T p 80))))) ar st 0 0 A) (F0 md 0 ls []) by rw [hH, hlo] at go; exact go
  clear hH hlo
  have IniX3 : (Cond.initialized RX3).before ar st = true := hts _ (List.mem_of_getElem? (i := 4) rfl)
  have Sta_X3_at : (Cond.static yX3_at).before ar st = true := hts _ (List.mem_of_getElem? (i := 3) rfl)
  have F38 : (Cond.fieldLink RX1 38 "TramTolls$Town" "heads" "[I").before ar st = true := hts _ (List.mem_of_getElem? (i := 1) rfl)
  have inX1 : ∀ w ∈ u_ws RX1 TX1 12, w ∈ wsX1_removeLine := fun w h => List.mem_cons_of_mem _ (List.mem_append_right _ h)
  have Sta_X3_put : (Cond.static yX3_put).before ar st = true := hts _ (List.mem_of_getElem? (i := 17) rfl)
  have F41 : (Cond.fieldLink RX1 41 "TramTolls$Town" "lastDirections" "[I").before ar st = true := hts _ (List.mem_of_getElem? (i := 2) rfl)
  refine va_getsN hx hb hZ.2.2.1.1 hS hown (va_Nw.use rfl hXw.2.2.2.2.2.2.2.1) (fun _ h9 => h9) dX1_removeLine_0 ?_
  refine lv_iload_n hx hb dX1_removeLine_3 rfl (lv_at hl 1 rfl) ?_
  refine rs_SN (rest := []) ⟨hx, hb, hml, hown, hts⟩ hE hZ hS (c_X3_at_d l D K dp fs p (by omega)) (va_cnB (host := RX3) 2 hts gX1_removeLine_X3_at_n70 rfl rfl rfl hE.2.2.2.2.1 IniX3 hn_X3_at ⟨Nat.le_of_ble_eq_true rfl, Nat.le_of_ble_eq_true rfl⟩) Sta_X3_at rfl hl.1 rfl (Nat.le_of_ble_eq_true rfl) dX1_removeLine_4 ⟨Nat.le_of_ble_eq_true rfl, Nat.le_of_ble_eq_true rfl⟩ ?_
  refine top_i (y := nI (dep p)) (rfl) ?_
  have hb_1 := dep_lt p
  refine lv_istore_n (lv' := [(2, .int (nI (dep p))), (0, .ref (a 0)), (1, .int (nI p))]) hx hb dX1_removeLine_7 rfl hl (by decide) rfl (fun ls hl => ?_)
  refine lv_iconst (v := nI 0) hx hb dX1_removeLine_8 (by decide) ?_
  refine lv_istore_n (lv' := [(3, .int (nI 0)), (2, .int (nI (dep p))), (0, .ref (a 0)), (1, .int (nI p))]) hx hb dX1_removeLine_9 rfl hl (by decide) rfl (fun ls hl => ?_)
  refine lv_iconst (v := nI 0) hx hb dX1_removeLine_10 (by decide) ?_
  refine lv_istore (lv' := [(4, .int (nI 0)), (3, .int (nI 0)), (2, .int (nI (dep p))), (0, .ref (a 0)), (1, .int (nI p))]) hx hb dX1_removeLine_11 hl (by decide) rfl (fun ls hl => ?_)
  have loop_2 : ∀ (n_13 : Nat) (i : Nat), (i ≤ 80) → (80 - i) < n_13 → ∀ (H : Heap) (locs : List Loc), va_P D vwCl (townW K a (tuR T p i) ++ X) H → va_D A (townW K a (tuR T p i) ++ X) → va_S A st.heap H locs →  ∀ x_3 : Int32, x_3 = nI (tuC T p i) → ∀ x_4 : Int32, x_4 = nI i → ∀ ls : Array Slot, lv_has ls 5 [(0, .ref (a 0)), (1, .int (nI p)), (2, .int (nI (dep p))), (3, .int x_3), (4, .int x_4)] → W pr l en (headSpec wsX1_removeLine ({ frames := 3, cells := 0, slots := 0, locals := 57 } : Room)).room st md ar bl mt co H locs 0 0 (MQ bl (wrQ D (townW K a T ++ X) (townW K a (tkT T p) ++ X) sz (some (.int (nI (tuC T p 80))))) ar st 0 0 A) (F0 md 13 ls []) := by
    intro n_13
    induction n_13 with
    | zero => intro i _ hn_13; exact absurd hn_13 (Nat.not_lt_zero _)
    | succ n_13 ih_13 =>
      intro i hi hn_13 H locs hP hD hS x_3 ex_3 x_4 ex_4 ls hl
      subst ex_3
      subst ex_4
      have hl : lv_has ls 5 [(0, .ref (a 0)), (1, .int (nI p)), (2, .int (nI (dep p))), (3, .int (nI (tuC T p i))), (4, .int (nI i))] := hl
      have hIi := tuR_inv (p := p) hI hp i hi
      have htc := tuC_le T p i
      refine lv_iload hx hb dX1_removeLine_13 (lv_at hl 4 rfl) ?_
      refine lv_bipush (v := nI 80) hx hb dX1_removeLine_15 (by decide) ?_
      refine nv_icmp_ge (x := i) (y := 80) (tgt := 52) hx hb dX1_removeLine_17 (by decide) (by omega) (by decide) (fun c_3 => ?_) (fun c_3 => ?_)
      · have n_c_3 := Nat.not_lt.mpr c_3
        have e80 : i = 80 := by omega
        refine lv_aload_n hx hb dX1_removeLine_52 rfl (lv_at hl 0 rfl) ?_
        refine va_get (D := D) (ci := 1) (v := .ref (a 7)) (C := RX1) (T := TX1) (N := 12) hx hb hts inX1 hown hE.1 hP 0 rfl rfl 6 (by decide) F38 (fun _ h9 => h9) rfl dX1_removeLine_53 ?_
        refine lv_iload_n hx hb dX1_removeLine_56 rfl (lv_at hl 1 rfl) ?_
        refine lv_iload_n hx hb dX1_removeLine_57 rfl (lv_at hl 2 rfl) ?_
        refine wr_SN (rest := []) ⟨hx, hb, hml, hown, hts⟩ hP hE hA hD hS (c_X3_put l D K _ _ 7 _ 4 _ p (nI (dep p)) rfl (by omega) (by omega)) (va_cnB (host := RX3) 3 hts gX1_removeLine_X3_put_n97 rfl rfl rfl hE.2.2.2.2.2.2.2.2.2.2.2.2.1 IniX3 hn_X3_put ⟨Nat.le_of_ble_eq_true rfl, Nat.le_of_ble_eq_true rfl⟩) Sta_X3_put rfl hl.1 rfl (Nat.le_of_ble_eq_true rfl) dX1_removeLine_58 ⟨Nat.le_of_ble_eq_true rfl, Nat.le_of_ble_eq_true rfl⟩ (fun H locs hP hD hS => ?_)
        have hP : va_P D vwCl (townW K a (setT (tuR T p i) 6 p (nI (dep p))) ++ X) H := hP
        have hD : va_D A (townW K a (setT (tuR T p i) 6 p (nI (dep p))) ++ X) := hD
        refine lv_aload_n hx hb dX1_removeLine_61 rfl (lv_at hl 0 rfl) ?_
        refine va_get (D := D) (ci := 1) (v := .ref (a 8)) (C := RX1) (T := TX1) (N := 12) hx hb hts inX1 hown hE.1 hP 0 rfl rfl 7 (by decide) F41 (fun _ h9 => h9) rfl dX1_removeLine_62 ?_
        refine lv_iload_n hx hb dX1_removeLine_65 rfl (lv_at hl 1 rfl) ?_
        refine lv_iconst (v := -1) hx hb dX1_removeLine_66 (by decide) ?_
        refine wr_SN (rest := []) ⟨hx, hb, hml, hown, hts⟩ hP hE hA hD hS (c_X3_put l D K _ _ 8 _ 4 _ p (-1) rfl (by omega) (by omega)) (va_cnB (host := RX3) 3 hts gX1_removeLine_X3_put_n97 rfl rfl rfl hE.2.2.2.2.2.2.2.2.2.2.2.2.1 IniX3 hn_X3_put ⟨Nat.le_of_ble_eq_true rfl, Nat.le_of_ble_eq_true rfl⟩) Sta_X3_put rfl hl.1 rfl (Nat.le_of_ble_eq_true rfl) dX1_removeLine_67 ⟨Nat.le_of_ble_eq_true rfl, Nat.le_of_ble_eq_true rfl⟩ (fun H locs hP hD hS => ?_)
        have hP : va_P D vwCl (townW K a (setT (setT (tuR T p i) 6 p (nI (dep p))) 7 p (-1)) ++ X) H := hP
        have hD : va_D A (townW K a (setT (setT (tuR T p i) 6 p (nI (dep p))) 7 p (-1)) ++ X) := hD
        refine lv_iload_n hx hb dX1_removeLine_70 rfl (lv_at hl 3 rfl) ?_
        have ew : (townW K a (setT (setT (tuR T p i) 6 p (nI (dep p))) 7 p (-1)) ++ X) = (townW K a (tkT T p) ++ X) := by rw [e80]; rfl
        rw [ew] at hP hD
        exact wr_iret hAe hP hD hS hx hb hr hk dX1_removeLine_71 ⟨Nat.le_of_ble_eq_true rfl, Nat.le_of_ble_eq_true rfl⟩ (by rw [e80])
      · have n_c_3 := Nat.not_le.mpr c_3
        refine lv_iload hx hb dX1_removeLine_20 (lv_at hl 4 rfl) ?_
        refine lv_iload_n hx hb dX1_removeLine_22 rfl (lv_at hl 2 rfl) ?_
        refine nv_icmp_eq (x := i) (y := dep p) (tgt := 46) hx hb dX1_removeLine_23 (by decide) (by omega) (by omega) (fun c_4 => ?_) (fun c_4 => ?_)
        · refine lv_iinc (v := nI (i + 1)) (lv' := [(4, .int (nI (i + 1))), (0, .ref (a 0)), (1, .int (nI p)), (2, .int (nI (dep p))), (3, .int (nI (tuC T p i)))]) hx hb dX1_removeLine_46 hl (k := 4) rfl (nI_add _ 1) (by decide) rfl (fun ls hl => ?_)
          refine lv_goto (tgt := 13) hx hb dX1_removeLine_49 (by decide) ?_
          have hP : va_P D vwCl (townW K a (tuR T p (i + 1)) ++ X) H := by rw [tuR_no (fun q9 => by first | exact q9.2 (by assumption) | (have q8 := q9.1; rw [c_4] at q8; cases q8))]; exact hP
          have hD : va_D A (townW K a (tuR T p (i + 1)) ++ X) := by rw [tuR_no (fun q9 => by first | exact q9.2 (by assumption) | (have q8 := q9.1; rw [c_4] at q8; cases q8))]; exact hD
          exact ih_13 (i + 1) (by omega) (by omega) _ _ hP hD hS _ (by rw [tuC_no (fun q9 => by first | exact q9.2 (by assumption) | (have q8 := q9.1; rw [c_4] at q8; cases q8))]) _ rfl ls (lv_sub hl [1, 2, 3, 4, 0] rfl)
        · refine lv_aload_n hx hb dX1_removeLine_26 rfl (lv_at hl 0 rfl) ?_
          refine lv_iload_n hx hb dX1_removeLine_27 rfl (lv_at hl 1 rfl) ?_
          refine lv_iload hx hb dX1_removeLine_28 (lv_at hl 4 rfl) ?_
          refine rd_V (rest := []) (ci := 1) (q0 := 0) ⟨hx, hb, hml, hown, hts⟩ hP hE (c_X1_hasTrack l D K _ _ _ p i hIi (by omega) (by omega)) (cwV 2 hts gX1_removeLine_X1_hasTrack rfl rfl rfl hd_X1_hasTrack ⟨Nat.le_of_ble_eq_true rfl, Nat.le_of_ble_eq_true rfl⟩) rfl rfl rfl rfl hl.1 rfl (Nat.le_of_ble_eq_true rfl) dX1_removeLine_30 ⟨Nat.le_of_ble_eq_true rfl, Nat.le_of_ble_eq_true rfl⟩ ?_
          refine bv_if_eq (x := hasT (tuR T p i) p i) (tgt := 46) hx hb dX1_removeLine_33 (by decide) (fun c_5 => ?_) (fun c_5 => ?_)
          · refine lv_iinc (v := nI (i + 1)) (lv' := [(4, .int (nI (i + 1))), (0, .ref (a 0)), (1, .int (nI p)), (2, .int (nI (dep p))), (3, .int (nI (tuC T p i)))]) hx hb dX1_removeLine_46 hl (k := 4) rfl (nI_add _ 1) (by decide) rfl (fun ls hl => ?_)
            refine lv_goto (tgt := 13) hx hb dX1_removeLine_49 (by decide) ?_
            have hP : va_P D vwCl (townW K a (tuR T p (i + 1)) ++ X) H := by rw [tuR_no (fun q9 => by first | exact q9.2 (by assumption) | (have q8 := q9.1; rw [c_5] at q8; cases q8))]; exact hP
            have hD : va_D A (townW K a (tuR T p (i + 1)) ++ X) := by rw [tuR_no (fun q9 => by first | exact q9.2 (by assumption) | (have q8 := q9.1; rw [c_5] at q8; cases q8))]; exact hD
            exact ih_13 (i + 1) (by omega) (by omega) _ _ hP hD hS _ (by rw [tuC_no (fun q9 => by first | exact q9.2 (by assumption) | (have q8 := q9.1; rw [c_5] at q8; cases q8))]) _ rfl ls (lv_sub hl [1, 2, 3, 4, 0] rfl)
          · refine lv_aload_n hx hb dX1_removeLine_36 rfl (lv_at hl 0 rfl) ?_
            refine lv_iload_n hx hb dX1_removeLine_37 rfl (lv_at hl 1 rfl) ?_
            refine lv_iload hx hb dX1_removeLine_38 (lv_at hl 4 rfl) ?_
            refine wr_V (rest := []) (ci := 1) (q0 := 0) ⟨hx, hb, hml, hown, hts⟩ hP hE hA hD hS (c_X1_removeTrack l D K _ _ _ _ p i hIi (by omega) (by omega)) (cwV 2 hts gX1_removeLine_X1_removeTrack rfl rfl rfl hd_X1_removeTrack ⟨Nat.le_of_ble_eq_true rfl, Nat.le_of_ble_eq_true rfl⟩) rfl rfl rfl rfl hl.1 rfl (Nat.le_of_ble_eq_true rfl) dX1_removeLine_40 ⟨Nat.le_of_ble_eq_true rfl, Nat.le_of_ble_eq_true rfl⟩ (fun H locs hP hD hS => ?_)
            have hP : va_P D vwCl (townW K a (rmT (tuR T p i) p i) ++ X) H := hP
            have hD : va_D A (townW K a (rmT (tuR T p i) p i) ++ X) := hD
            refine lv_iinc (v := nI (tuC T p i + 1)) (lv' := [(3, .int (nI (tuC T p i + 1))), (0, .ref (a 0)), (1, .int (nI p)), (2, .int (nI (dep p))), (4, .int (nI i))]) hx hb dX1_removeLine_43 hl (k := 3) rfl (nI_add _ 1) (by decide) rfl (fun ls hl => ?_)
            refine lv_iinc (v := nI (i + 1)) (lv' := [(4, .int (nI (i + 1))), (3, .int (nI (tuC T p i + 1))), (0, .ref (a 0)), (1, .int (nI p)), (2, .int (nI (dep p)))]) hx hb dX1_removeLine_46 hl (k := 4) rfl (nI_add _ 1) (by decide) rfl (fun ls hl => ?_)
            refine lv_goto (tgt := 13) hx hb dX1_removeLine_49 (by decide) ?_
            have hP : va_P D vwCl (townW K a (tuR T p (i + 1)) ++ X) H := by rw [tuR_yes c_5 c_4]; exact hP
            have hD : va_D A (townW K a (tuR T p (i + 1)) ++ X) := by rw [tuR_yes c_5 c_4]; exact hD
            exact ih_13 (i + 1) (by omega) (by omega) _ _ hP hD hS _ (by rw [tuC_yes c_5 c_4]) _ rfl ls (lv_sub hl [2, 3, 4, 1, 0] rfl)
  exact loop_2 _ 0 (by decide) (Nat.lt_succ_self _) _ _ hP hD hS _ rfl _ rfl ls (lv_sub hl [3, 4, 2, 1, 0] rfl)
set_option maxHeartbeats 4000000 in
set_option maxRecDepth 100000 in
theorem c_X3_takeUp (l : Launch) (D : va_G) (K : Nat → ClassId) (dp fs : Nat) (hst : l.stackTraces = false) (sz : Nat) (a b t c : Nat → Nat) (g : Nat → Nat → Nat) (T : TW) (X : va_W) (len : Nat → Option Nat) (qu : Nat → Nat) (n : Nat) (cs : Nat → Nat) (ln sn : Nat) (Sv : Nat → TW) (x : Int32) (hI : Inv T) (hsn : sn ≤ 6) : Tx dp fs l yX3_takeUp wsX3_takeUp ({ frames := 6, cells := 1, slots := 6, locals := 103 } : Room) D K (townW K a T ++ (waysW K b len qu n ++ (textW K t cs ln ++ (mainW K a b t c g sn ++ svW K g Sv X)))) sz [.ref (c 0), .int x] (tuE x) xnA (townW K a (tkT T (tn x)) ++ (waysW K b len qu n ++ (textW K t cs ln ++ (mainW K a b t c (svG g sn) (svN sn) ++ svW K (svG g sn) (svV Sv sn T) X)))) (nI (tuC T (tn x) 80)) 1 6 := by
  refine tx_intro (cc := cX3_takeUp) (maxL := 2) (ret := (some .int)) (by decide) rfl (Nat.le_of_ble_eq_true rfl) ?_
  intro pr en st md ar bl mt co A hx hb hml hr hts hown hk hsz hAe hP hE hD hS hA hxt hXw hZ ls hl
  have hown : st.vm.findClass RX3 = some md.cls := hown
  have hl : lv_has ls 2 [(0, .ref (c 0)), (1, .int x)] := hl
  obtain ⟨H, hH⟩ : ∃ z, z = st.heap := ⟨_, rfl⟩
  obtain ⟨locs, hlo⟩ : ∃ z : List Loc, z = [] := ⟨_, rfl⟩
  have hP : va_P D vwCl (townW K a T ++ (waysW K b len qu n ++ (textW K t cs ln ++ (mainW K a b t c g sn ++ svW K g Sv X)))) H := by rw [hH]; exact hP
  have hS : va_S A st.heap H locs := by rw [hH, hlo]; exact hS
  suffices go : W pr l en (headSpec wsX3_takeUp ({ frames := 6, cells := 1, slots := 6, locals := 103 } : Room)).room st md ar bl mt co H locs 0 0 (vx_MQ bl (txQ D (townW K a T ++ (waysW K b len qu n ++ (textW K t cs ln ++ (mainW K a b t c g sn ++ svW K g Sv X)))) (townW K a (tkT T (tn x)) ++ (waysW K b len qu n ++ (textW K t cs ln ++ (mainW K a b t c (svG g sn) (svN sn) ++ svW K (svG g sn) (svV Sv sn T) X)))) sz (nI (tuC T (tn x) 80)) (tuE x)) (txX D (townW K a T ++ (waysW K b len qu n ++ (textW K t cs ln ++ (mainW K a b t c g sn ++ svW K g Sv X)))) sz (tuE x) xnA) ar st 1 6 A) (F0 md 0 ls []) by rw [hH, hlo] at go; exact go
  clear hH hlo
  have F12 : (Cond.fieldLink RX3 12 "TramTolls" "town" "LTramTolls$Town;").before ar st = true := hts _ (List.mem_of_getElem? (i := 3) rfl)
  have inX3 : ∀ w ∈ u_ws RX3 TX3 5, w ∈ wsX3_takeUp := fun w h => List.mem_cons_of_mem _ (List.mem_append_left _ (List.mem_append_left _ (List.mem_append_right _ h)))
  have K38 : (Cond.classLink RX3 38 "java/lang/IndexOutOfBoundsException").before ar st = true := hts _ (List.mem_of_getElem? (i := 1) rfl)
  have KI38 : (Cond.initialized "java/lang/IndexOutOfBoundsException").before ar st = true := hts _ (List.mem_of_getElem? (i := 2) rfl)
  refine lv_iload_n hx hb dX3_takeUp_0 rfl (lv_at hl 1 rfl) ?_
  refine rd_S (rest := []) ⟨hx, hb, hml, hown, hts⟩ hP hE (c_X3_isPlayer l D K _ x) (va_cwS 1 hts gX3_takeUp_X3_isPlayer rfl rfl rfl hn_X3_isPlayer ⟨Nat.le_of_ble_eq_true rfl, Nat.le_of_ble_eq_true rfl⟩) rfl hl.1 rfl (Nat.le_of_ble_eq_true rfl) dX3_takeUp_1 ⟨Nat.le_of_ble_eq_true rfl, Nat.le_of_ble_eq_true rfl⟩ ?_
  refine bv_if_ne (x := inR 0 3 x) (tgt := 17) hx hb dX3_takeUp_4 (by decide) (fun c_1 => ?_) (fun c_1 => ?_)
  · obtain ⟨s9, lo_s9, hi_s9, e_s9⟩ := inR_nL (a := 0) (b := 3) rfl rfl (by decide) (by decide) c_1
    subst e_s9
    have t_s9 := tn_nI (n := s9) (by omega)
    refine lv_aload_n hx hb dX3_takeUp_17 rfl (lv_at hl 0 rfl) ?_
    refine wr_V (rest := []) (ci := 3) (q0 := 17) ⟨hx, hb, hml, hown, hts⟩ hP hE hA hD hS (c_X3_saveState l D K _ _ _ _ _ _ _ _ _ _ _ _ _ sn _ hsn) (cwV 0 hts gX3_takeUp_X3_saveState rfl rfl rfl hd_X3_saveState ⟨Nat.le_of_ble_eq_true rfl, Nat.le_of_ble_eq_true rfl⟩) rfl rfl rfl rfl hl.1 rfl (Nat.le_of_ble_eq_true rfl) dX3_takeUp_18 ⟨Nat.le_of_ble_eq_true rfl, Nat.le_of_ble_eq_true rfl⟩ (fun H locs hP hD hS => ?_)
    have hP : va_P D vwCl (townW K a T ++ (waysW K b len qu n ++ (textW K t cs ln ++ (mainW K a b t c (svG g sn) (svN sn) ++ svW K (svG g sn) (svV Sv sn T) X)))) H := hP
    have hD : va_D A (townW K a T ++ (waysW K b len qu n ++ (textW K t cs ln ++ (mainW K a b t c (svG g sn) (svN sn) ++ svW K (svG g sn) (svV Sv sn T) X)))) := hD
    refine lv_aload_n hx hb dX3_takeUp_21 rfl (lv_at hl 0 rfl) ?_
    refine va_get (D := D) (ci := 3) (v := .ref (a 0)) (C := RX3) (T := TX3) (N := 5) hx hb hts inX3 hown hE.1 hP 17 rfl rfl 0 (by decide) F12 (fun _ h9 => h9) rfl dX3_takeUp_22 ?_
    refine lv_iload_n hx hb dX3_takeUp_25 rfl (lv_at hl 1 rfl) ?_
    refine sx_V (rest := []) (ci := 1) (q0 := 0) ⟨hx, hb, hml, hown, hts⟩ hP hE hA hD hS hXw hZ (c_X1_removeLine l D K dp fs _ _ _ _ s9 hI (by omega)) (cwV 1 hts gX3_takeUp_X1_removeLine rfl rfl rfl hd_X1_removeLine ⟨Nat.le_of_ble_eq_true rfl, Nat.le_of_ble_eq_true rfl⟩) rfl rfl rfl rfl hl.1 rfl (Nat.le_of_ble_eq_true rfl) dX3_takeUp_26 ⟨Nat.le_of_ble_eq_true rfl, Nat.le_of_ble_eq_true rfl⟩ (fun H locs hP hD hS => ?_)
    have hP : va_P D vwCl (townW K a (tkT T s9) ++ (waysW K b len qu n ++ (textW K t cs ln ++ (mainW K a b t c (svG g sn) (svN sn) ++ svW K (svG g sn) (svV Sv sn T) X)))) H := hP
    have hD : va_D A (townW K a (tkT T s9) ++ (waysW K b len qu n ++ (textW K t cs ln ++ (mainW K a b t c (svG g sn) (svN sn) ++ svW K (svG g sn) (svV Sv sn T) X)))) := hD
    have ew : (townW K a (tkT T s9) ++ (waysW K b len qu n ++ (textW K t cs ln ++ (mainW K a b t c (svG g sn) (svN sn) ++ svW K (svG g sn) (svV Sv sn T) X)))) = (townW K a (tkT T (tn (nI s9))) ++ (waysW K b len qu n ++ (textW K t cs ln ++ (mainW K a b t c (svG g sn) (svN sn) ++ svW K (svG g sn) (svV Sv sn T) X)))) := by first | rfl | (simp [c_1, t_s9]; done) | (simp [c_1, t_s9] <;> rfl)
    rw [ew] at hP hD
    refine tx_iret hAe hP hD hS hx hb hr hk dX3_takeUp_29 ⟨Nat.le_of_ble_eq_true rfl, Nat.le_of_ble_eq_true rfl⟩ ?_ (by first | rfl | (simp [setT_eq, c_1, t_s9]; done) | (simp [setT_eq, c_1, t_s9] <;> rfl))
    first | (simp [tuE, c_1, t_s9]; done) | (subst_vars; simp [tuE, c_1, t_s9]; done) | simp_all [tuE]
  · refine tx_thr (n := 1) (cls := xIO) (is := 103) hx hb hst hown (by decide +kernel) K38 KI38 (fun w h => hts w (List.mem_cons_of_mem _ (List.mem_append_right _ h))) xh_IO xg_IO hXw.2.2.2.1 hXw (List.mem_of_getElem? (i := 6) rfl) hZ hAe hP hD hS (hl.1.trans hml.symm) hxt ⟨Nat.le_of_ble_eq_true rfl, Nat.le_of_ble_eq_true rfl⟩ ⟨Nat.le_of_ble_eq_true rfl, Nat.le_of_ble_eq_true rfl⟩ hk ⟨Nat.le_of_ble_eq_true rfl, Nat.le_of_ble_eq_true rfl⟩ (by decide) rfl ?_ dX3_takeUp_7 dX3_takeUp_10 dX3_takeUp_11 dX3_takeUp_13 dX3_takeUp_16
    first | (simp [tuE, c_1]; done) | (subst_vars; simp [tuE, c_1]; done) | simp_all [tuE]
