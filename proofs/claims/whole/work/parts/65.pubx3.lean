set_option maxHeartbeats 4000000 in
set_option maxRecDepth 100000 in
theorem c_X3_digestPlayer (l : Launch) (D : va_G) (K : Nat → ClassId) (sz : Nat) (a b t c : Nat → Nat) (g : Nat → Nat → Nat) (T : TW) (X : va_W) (len : Nat → Option Nat) (qu : Nat → Nat) (n : Nat) (cs : Nat → Nat) (ln sn : Nat) (Sv : Nat → TW) (h0 : Int64) (p : Nat) (hI : Inv T) (hK : HK T) (hp : p < 4) : Wr l yX3_digestPlayer wsX3_digestPlayer ({ frames := 6, cells := 0, slots := 0, locals := 140 } : Room) D K (townW K a T ++ (waysW K b len qu n ++ (textW K t cs ln ++ (mainW K a b t c g sn ++ svW K g Sv X)))) sz [.ref (c 0), .long h0, .int (nI p)] (townW K a T ++ (waysW K b ((wyP T p (len, qu, n)).1) ((wyP T p (len, qu, n)).2.1) ((wyP T p (len, qu, n)).2.2) ++ (textW K t cs ln ++ (mainW K a b t c g sn ++ svW K g Sv X)))) (some (.long (dgP T p h0))) 0 0 := by
  refine wr_intro (cc := cX3_digestPlayer) (maxL := 9) (ret := (some .long)) (by decide) rfl (Nat.le_of_ble_eq_true rfl) ?_
  intro pr en st md ar bl mt co A hx hb hml hr hts hown hk hsz hAe hP hE hD hS hA hin ls hl
  have hown : st.vm.findClass RX3 = some md.cls := hown
  have hl : lv_has ls 9 [(0, .ref (c 0)), (1, .long h0), (3, .int (nI p))] := hl
  obtain ⟨H, hH⟩ : ∃ z, z = st.heap := ⟨_, rfl⟩
  obtain ⟨locs, hlo⟩ : ∃ z : List Loc, z = [] := ⟨_, rfl⟩
  have hP : va_P D vwCl (townW K a T ++ (waysW K b len qu n ++ (textW K t cs ln ++ (mainW K a b t c g sn ++ svW K g Sv X)))) H := by rw [hH]; exact hP
  have hS : va_S A st.heap H locs := by rw [hH, hlo]; exact hS
  suffices go : W pr l en (headSpec wsX3_digestPlayer ({ frames := 6, cells := 0, slots := 0, locals := 140 } : Room)).room st md ar bl mt co H locs 0 0 (MQ bl (wrQ D (townW K a T ++ (waysW K b len qu n ++ (textW K t cs ln ++ (mainW K a b t c g sn ++ svW K g Sv X)))) (townW K a T ++ (waysW K b ((wyP T p (len, qu, n)).1) ((wyP T p (len, qu, n)).2.1) ((wyP T p (len, qu, n)).2.2) ++ (textW K t cs ln ++ (mainW K a b t c g sn ++ svW K g Sv X)))) sz (some (.long (dgP T p h0)))) ar st 0 0 A) (F0 md 0 ls []) by rw [hH, hlo] at go; exact go
  clear hH hlo
  have C243 : (Cond.constantLong RX3 243 (31)).before ar st = true := hts _ (List.mem_of_getElem? (i := 1) rfl)
  have F30 : (Cond.fieldLink RX3 30 "TramTolls" "ways" "LTramTolls$Ways;").before ar st = true := hts _ (List.mem_of_getElem? (i := 2) rfl)
  have inX3 : ∀ w ∈ u_ws RX3 TX3 5, w ∈ wsX3_digestPlayer := fun w h => List.mem_cons_of_mem _ (List.mem_append_left _ (List.mem_append_left _ (List.mem_append_right _ h)))
  have F12 : (Cond.fieldLink RX3 12 "TramTolls" "town" "LTramTolls$Town;").before ar st = true := hts _ (List.mem_of_getElem? (i := 3) rfl)
  have F116 : (Cond.fieldLink RX3 116 "TramTolls$Town" "heads" "[I").before ar st = true := hts _ (List.mem_of_getElem? (i := 4) rfl)
  have inX1 : ∀ w ∈ u_ws RX1 TX1 12, w ∈ wsX3_digestPlayer := fun w h => List.mem_cons_of_mem _ (List.mem_append_left _ (List.mem_append_right _ h))
  refine lv_lload_n hx hb dX3_digestPlayer_0 rfl (lv_at hl 1 rfl) ?_
  refine lv_lstore (lv' := [(4, .long h0), (0, .ref (c 0)), (1, .long h0), (3, .int (nI p))]) hx hb dX3_digestPlayer_1 hl (by decide) rfl (fun ls hl => ?_)
  refine lv_iconst (v := nI 0) hx hb dX3_digestPlayer_3 (by decide) ?_
  refine lv_istore (lv' := [(6, .int (nI 0)), (4, .long h0), (0, .ref (c 0)), (1, .long h0), (3, .int (nI p))]) hx hb dX3_digestPlayer_4 hl (by decide) rfl (fun ls hl => ?_)
  have loop_1 : ∀ (n_6 : Nat) (i : Nat), (i ≤ 10) → (10 - i) < n_6 → ∀ (H : Heap) (locs : List Loc), va_P D vwCl (townW K a T ++ (waysW K b len qu n ++ (textW K t cs ln ++ (mainW K a b t c g sn ++ svW K g Sv X)))) H → va_D A (townW K a T ++ (waysW K b len qu n ++ (textW K t cs ln ++ (mainW K a b t c g sn ++ svW K g Sv X)))) → va_S A st.heap H locs →  ∀ x_4 : Int64, x_4 = mxN (ppT T p) i h0 → ∀ x_6 : Int32, x_6 = nI i → ∀ ls : Array Slot, lv_has ls 9 [(0, .ref (c 0)), (3, .int (nI p)), (4, .long x_4), (6, .int x_6)] → W pr l en (headSpec wsX3_digestPlayer ({ frames := 6, cells := 0, slots := 0, locals := 140 } : Room)).room st md ar bl mt co H locs 0 0 (MQ bl (wrQ D (townW K a T ++ (waysW K b len qu n ++ (textW K t cs ln ++ (mainW K a b t c g sn ++ svW K g Sv X)))) (townW K a T ++ (waysW K b ((wyP T p (len, qu, n)).1) ((wyP T p (len, qu, n)).2.1) ((wyP T p (len, qu, n)).2.2) ++ (textW K t cs ln ++ (mainW K a b t c g sn ++ svW K g Sv X)))) sz (some (.long (dgP T p h0)))) ar st 0 0 A) (F0 md 6 ls []) := by
    intro n_6
    induction n_6 with
    | zero => intro i _ hn_6; exact absurd hn_6 (Nat.not_lt_zero _)
    | succ n_6 ih_6 =>
      intro i hi hn_6 H locs hP hD hS x_4 ex_4 x_6 ex_6 ls hl
      subst ex_4
      subst ex_6
      have hl : lv_has ls 9 [(0, .ref (c 0)), (3, .int (nI p)), (4, .long (mxN (ppT T p) i h0)), (6, .int (nI i))] := hl
      refine lv_iload hx hb dX3_digestPlayer_6 (lv_at hl 3 rfl) ?_
      refine lv_bipush (v := nI 9) hx hb dX3_digestPlayer_8 (by decide) ?_
      refine nv_icmp_gt (x := i) (y := 9) (tgt := 36) hx hb dX3_digestPlayer_10 (by decide) (by omega) (by decide) (fun c_2 => ?_) (fun c_2 => ?_)
      · have n_c_2 := Nat.not_le.mpr c_2
        have e9c_2 : i = 10 := by omega
        subst e9c_2
        refine lv_ldc2 (v := 31) hx hb hown C243 dX3_digestPlayer_36 ?_
        refine lv_lload hx hb dX3_digestPlayer_39 (lv_at hl 2 rfl) ?_
        refine lv_lmul (x := 31) (y := mxN (ppT T p) 10 h0) hx hb dX3_digestPlayer_41 ?_
        refine lv_aload_n hx hb dX3_digestPlayer_42 rfl (lv_at hl 0 rfl) ?_
        refine va_get (D := D) (ci := 3) (v := .ref (b 0)) (C := RX3) (T := TX3) (N := 5) hx hb hts inX3 hown hE.1 hP 17 rfl rfl 4 (by decide) F30 (fun _ h9 => h9) rfl dX3_digestPlayer_43 ?_
        refine lv_aload_n hx hb dX3_digestPlayer_46 rfl (lv_at hl 0 rfl) ?_
        refine va_get (D := D) (ci := 3) (v := .ref (a 0)) (C := RX3) (T := TX3) (N := 5) hx hb hts inX3 hown hE.1 hP 17 rfl rfl 0 (by decide) F12 (fun _ h9 => h9) rfl dX3_digestPlayer_47 ?_
        refine lv_iload_n hx hb dX3_digestPlayer_50 rfl (lv_at hl 1 rfl) ?_
        refine lv_bipush (v := nI 44) hx hb dX3_digestPlayer_51 (by decide) ?_
        refine wr_V (rest := [.long (31 * (mxN (ppT T p) 10 h0))]) (ci := 2) (q0 := 12) ⟨hx, hb, hml, hown, hts⟩ hP hE hA hD hS (c_X2_fewestPieces l D K _ _ _ _ _ _ _ _ p 44 hI (by omega) (by omega)) (cwV 3 hts gX3_digestPlayer_X2_fewestPieces rfl rfl rfl hd_X2_fewestPieces ⟨Nat.le_of_ble_eq_true rfl, Nat.le_of_ble_eq_true rfl⟩) rfl rfl rfl rfl hl.1 rfl (Nat.le_of_ble_eq_true rfl) dX3_digestPlayer_53 ⟨Nat.le_of_ble_eq_true rfl, Nat.le_of_ble_eq_true rfl⟩ (fun H locs hP hD hS => ?_)
        have hP : va_P D vwCl (townW K a T ++ (waysW K b ((fewS T p qu).1) ((fewS T p qu).2.1) ((fewS T p qu).2.2) ++ (textW K t cs ln ++ (mainW K a b t c g sn ++ svW K g Sv X)))) H := hP
        have hD : va_D A (townW K a T ++ (waysW K b ((fewS T p qu).1) ((fewS T p qu).2.1) ((fewS T p qu).2.2) ++ (textW K t cs ln ++ (mainW K a b t c g sn ++ svW K g Sv X)))) := hD
        refine top_i (y := oI (wyO (dst T p 0 44))) (congrArg oI (few_eq hK _ (by omega))) ?_
        refine lv_i2l (v := (oI (wyO (dst T p 0 44))).toInt64) hx hb dX3_digestPlayer_56 rfl ?_
        refine lv_ladd (x := 31 * (mxN (ppT T p) 10 h0)) (y := (oI (wyO (dst T p 0 44))).toInt64) hx hb dX3_digestPlayer_57 ?_
        refine lv_lstore (lv' := [(4, .long ((31 * (mxN (ppT T p) 10 h0)) + ((oI (wyO (dst T p 0 44))).toInt64))), (0, .ref (c 0)), (3, .int (nI p)), (6, .int (nI 10))]) hx hb dX3_digestPlayer_58 hl (by decide) rfl (fun ls hl => ?_)
        refine lv_ldc2 (v := 31) hx hb hown C243 dX3_digestPlayer_60 ?_
        refine lv_lload hx hb dX3_digestPlayer_63 (lv_at hl 0 rfl) ?_
        refine lv_lmul (x := 31) (y := (31 * (mxN (ppT T p) 10 h0)) + ((oI (wyO (dst T p 0 44))).toInt64)) hx hb dX3_digestPlayer_65 ?_
        refine lv_aload_n hx hb dX3_digestPlayer_66 rfl (lv_at hl 1 rfl) ?_
        refine va_get (D := D) (ci := 3) (v := .ref (b 0)) (C := RX3) (T := TX3) (N := 5) hx hb hts inX3 hown hE.1 hP 17 rfl rfl 4 (by decide) F30 (fun _ h9 => h9) rfl dX3_digestPlayer_67 ?_
        refine lv_aload_n hx hb dX3_digestPlayer_70 rfl (lv_at hl 1 rfl) ?_
        refine va_get (D := D) (ci := 3) (v := .ref (a 0)) (C := RX3) (T := TX3) (N := 5) hx hb hts inX3 hown hE.1 hP 17 rfl rfl 0 (by decide) F12 (fun _ h9 => h9) rfl dX3_digestPlayer_71 ?_
        refine lv_iload_n hx hb dX3_digestPlayer_74 rfl (lv_at hl 2 rfl) ?_
        refine lv_bipush (v := nI 44) hx hb dX3_digestPlayer_75 (by decide) ?_
        refine wr_V (rest := [.long (31 * ((31 * (mxN (ppT T p) 10 h0)) + ((oI (wyO (dst T p 0 44))).toInt64)))]) (ci := 2) (q0 := 12) ⟨hx, hb, hml, hown, hts⟩ hP hE hA hD hS (c_X2_leastTolls l D K _ _ _ _ _ _ _ _ p 44 hI (by omega) (by omega)) (cwV 3 hts gX3_digestPlayer_X2_leastTolls rfl rfl rfl hd_X2_leastTolls ⟨Nat.le_of_ble_eq_true rfl, Nat.le_of_ble_eq_true rfl⟩) rfl rfl rfl rfl hl.1 rfl (Nat.le_of_ble_eq_true rfl) dX3_digestPlayer_77 ⟨Nat.le_of_ble_eq_true rfl, Nat.le_of_ble_eq_true rfl⟩ (fun H locs hP hD hS => ?_)
        have hP : va_P D vwCl (townW K a T ++ (waysW K b (cheS T p ((fewS T p qu).1)) ((fewS T p qu).2.1) ((fewS T p qu).2.2) ++ (textW K t cs ln ++ (mainW K a b t c g sn ++ svW K g Sv X)))) H := hP
        have hD : va_D A (townW K a T ++ (waysW K b (cheS T p ((fewS T p qu).1)) ((fewS T p qu).2.1) ((fewS T p qu).2.2) ++ (textW K t cs ln ++ (mainW K a b t c g sn ++ svW K g Sv X)))) := hD
        refine top_i (y := oI (wyO (dst T p 1 44))) (congrArg oI (che_eq hI _ (by omega))) ?_
        refine lv_i2l (v := (oI (wyO (dst T p 1 44))).toInt64) hx hb dX3_digestPlayer_80 rfl ?_
        refine lv_ladd (x := 31 * ((31 * (mxN (ppT T p) 10 h0)) + ((oI (wyO (dst T p 0 44))).toInt64))) (y := (oI (wyO (dst T p 1 44))).toInt64) hx hb dX3_digestPlayer_81 ?_
        refine lv_lstore (lv' := [(4, .long ((31 * ((31 * (mxN (ppT T p) 10 h0)) + ((oI (wyO (dst T p 0 44))).toInt64))) + ((oI (wyO (dst T p 1 44))).toInt64))), (0, .ref (c 0)), (3, .int (nI p)), (6, .int (nI 10))]) hx hb dX3_digestPlayer_82 hl (by decide) rfl (fun ls hl => ?_)
        refine lv_aload_n hx hb dX3_digestPlayer_84 rfl (lv_at hl 1 rfl) ?_
        refine va_get (D := D) (ci := 3) (v := .ref (a 0)) (C := RX3) (T := TX3) (N := 5) hx hb hts inX3 hown hE.1 hP 17 rfl rfl 0 (by decide) F12 (fun _ h9 => h9) rfl dX3_digestPlayer_85 ?_
        refine va_get (D := D) (ci := 1) (v := .ref (a 7)) (C := RX1) (T := TX1) (N := 12) hx hb hts inX1 hown hE.1 hP 0 rfl rfl 6 (by decide) F116 (fun _ h9 => h9) rfl dX3_digestPlayer_88 ?_
        refine lv_iload_n hx hb dX3_digestPlayer_91 rfl (lv_at hl 2 rfl) ?_
        refine rd_S (rest := []) ⟨hx, hb, hml, hown, hts⟩ hP hE (c_X3_at l D K _ 7 _ 4 _ p rfl (by omega) (by omega)) (va_cwS 2 hts gX3_digestPlayer_X3_at rfl rfl rfl hn_X3_at ⟨Nat.le_of_ble_eq_true rfl, Nat.le_of_ble_eq_true rfl⟩) rfl hl.1 rfl (Nat.le_of_ble_eq_true rfl) dX3_digestPlayer_92 ⟨Nat.le_of_ble_eq_true rfl, Nat.le_of_ble_eq_true rfl⟩ ?_
        refine top_i (y := nI (hdT T p)) (show T 6 p = nI (hdT T p) from eq_hd hI (by omega)) ?_
        have hb_3 := hd_lt hI (show p < 4 by omega)
        refine lv_istore (lv' := [(6, .int (nI (hdT T p))), (4, .long ((31 * ((31 * (mxN (ppT T p) 10 h0)) + ((oI (wyO (dst T p 0 44))).toInt64))) + ((oI (wyO (dst T p 1 44))).toInt64))), (0, .ref (c 0)), (3, .int (nI p))]) hx hb dX3_digestPlayer_95 hl (by decide) rfl (fun ls hl => ?_)
        refine lv_iconst (v := nI 1) hx hb dX3_digestPlayer_97 (by decide) ?_
        refine lv_istore (lv' := [(7, .int (nI 1)), (6, .int (nI (hdT T p))), (4, .long ((31 * ((31 * (mxN (ppT T p) 10 h0)) + ((oI (wyO (dst T p 0 44))).toInt64))) + ((oI (wyO (dst T p 1 44))).toInt64))), (0, .ref (c 0)), (3, .int (nI p))]) hx hb dX3_digestPlayer_98 hl (by decide) rfl (fun ls hl => ?_)
        have loop_4 : ∀ (n_100 : Nat) (k7 : Nat), (k7 ≤ 6) → (6 - k7) < n_100 → ∀ (H : Heap) (locs : List Loc), va_P D vwCl (townW K a T ++ (waysW K b (cheS T p (fewS T p qu).1) ((fewS T p qu).2.1) ((fewS T p qu).2.2) ++ (textW K t cs ln ++ (mainW K a b t c g sn ++ svW K g Sv X)))) H → va_D A (townW K a T ++ (waysW K b (cheS T p (fewS T p qu).1) ((fewS T p qu).2.1) ((fewS T p qu).2.2) ++ (textW K t cs ln ++ (mainW K a b t c g sn ++ svW K g Sv X)))) → va_S A st.heap H locs →  ∀ x_4 : Int64, x_4 = itN (fun k h => mxN (fun d => nI (whyT T p (hdT T p) (k + 1) d)) 4 h) k7 (31 * (31 * (mxN (ppT T p) 10 h0) + (oI (wyO (dst T p 0 44))).toInt64) + (oI (wyO (dst T p 1 44))).toInt64) → ∀ x_7 : Int32, x_7 = nI (k7 + 1) → ∀ ls : Array Slot, lv_has ls 9 [(0, .ref (c 0)), (3, .int (nI p)), (4, .long x_4), (6, .int (nI (hdT T p))), (7, .int x_7)] → W pr l en (headSpec wsX3_digestPlayer ({ frames := 6, cells := 0, slots := 0, locals := 140 } : Room)).room st md ar bl mt co H locs 0 0 (MQ bl (wrQ D (townW K a T ++ (waysW K b len qu n ++ (textW K t cs ln ++ (mainW K a b t c g sn ++ svW K g Sv X)))) (townW K a T ++ (waysW K b ((wyP T p (len, qu, n)).1) ((wyP T p (len, qu, n)).2.1) ((wyP T p (len, qu, n)).2.2) ++ (textW K t cs ln ++ (mainW K a b t c g sn ++ svW K g Sv X)))) sz (some (.long (dgP T p h0)))) ar st 0 0 A) (F0 md 100 ls []) := by
          intro n_100
          induction n_100 with
          | zero => intro k7 _ hn_100; exact absurd hn_100 (Nat.not_lt_zero _)
          | succ n_100 ih_100 =>
            intro k7 hk6 hn_100 H locs hP hD hS x_4 ex_4 x_7 ex_7 ls hl
            subst ex_4
            subst ex_7
            have hl : lv_has ls 9 [(0, .ref (c 0)), (3, .int (nI p)), (4, .long (itN (fun k h => mxN (fun d => nI (whyT T p (hdT T p) (k + 1) d)) 4 h) k7 (31 * (31 * (mxN (ppT T p) 10 h0) + (oI (wyO (dst T p 0 44))).toInt64) + (oI (wyO (dst T p 1 44))).toInt64))), (6, .int (nI (hdT T p))), (7, .int (nI (k7 + 1)))] := hl
            refine lv_iload hx hb dX3_digestPlayer_100 (lv_at hl 4 rfl) ?_
            refine lv_bipush (v := nI 6) hx hb dX3_digestPlayer_102 (by decide) ?_
            refine nv_icmp_gt (x := k7 + 1) (y := 6) (tgt := 152) hx hb dX3_digestPlayer_104 (by decide) (by omega) (by decide) (fun c_5 => ?_) (fun c_5 => ?_)
            · have n_c_5 := Nat.not_le.mpr c_5
              have e9c_5 : k7 = 6 := by omega
              subst e9c_5
              refine lv_iconst (v := nI 1) hx hb dX3_digestPlayer_152 (by decide) ?_
              refine lv_istore (lv' := [(7, .int (nI 1)), (0, .ref (c 0)), (3, .int (nI p)), (4, .long (itN (fun k h => mxN (fun d => nI (whyT T p (hdT T p) (k + 1) d)) 4 h) 6 (31 * (31 * (mxN (ppT T p) 10 h0) + (oI (wyO (dst T p 0 44))).toInt64) + (oI (wyO (dst T p 1 44))).toInt64))), (6, .int (nI (hdT T p)))]) hx hb dX3_digestPlayer_153 hl (by decide) rfl (fun ls hl => ?_)
              have loop_6 : ∀ (n_155 : Nat) (k7 : Nat), (k7 ≤ 6) → (6 - k7) < n_155 → ∀ (H : Heap) (locs : List Loc), va_P D vwCl (townW K a T ++ (waysW K b ((wyM T p k7 (cheS T p (fewS T p qu).1, (fewS T p qu).2.1, (fewS T p qu).2.2)).1) ((wyM T p k7 (cheS T p (fewS T p qu).1, (fewS T p qu).2.1, (fewS T p qu).2.2)).2.1) ((wyM T p k7 (cheS T p (fewS T p qu).1, (fewS T p qu).2.1, (fewS T p qu).2.2)).2.2) ++ (textW K t cs ln ++ (mainW K a b t c g sn ++ svW K g Sv X)))) H → va_D A (townW K a T ++ (waysW K b ((wyM T p k7 (cheS T p (fewS T p qu).1, (fewS T p qu).2.1, (fewS T p qu).2.2)).1) ((wyM T p k7 (cheS T p (fewS T p qu).1, (fewS T p qu).2.1, (fewS T p qu).2.2)).2.1) ((wyM T p k7 (cheS T p (fewS T p qu).1, (fewS T p qu).2.1, (fewS T p qu).2.2)).2.2) ++ (textW K t cs ln ++ (mainW K a b t c g sn ++ svW K g Sv X)))) → va_S A st.heap H locs →  ∀ x_4 : Int64, x_4 = mxN (fun k => oI (bdT T p (k + 1))) k7 (itN (fun k h => mxN (fun d => nI (whyT T p (hdT T p) (k + 1) d)) 4 h) 6 (31 * (31 * (mxN (ppT T p) 10 h0) + (oI (wyO (dst T p 0 44))).toInt64) + (oI (wyO (dst T p 1 44))).toInt64)) → ∀ x_7 : Int32, x_7 = nI (k7 + 1) → ∀ ls : Array Slot, lv_has ls 9 [(0, .ref (c 0)), (3, .int (nI p)), (4, .long x_4), (7, .int x_7)] → W pr l en (headSpec wsX3_digestPlayer ({ frames := 6, cells := 0, slots := 0, locals := 140 } : Room)).room st md ar bl mt co H locs 0 0 (MQ bl (wrQ D (townW K a T ++ (waysW K b len qu n ++ (textW K t cs ln ++ (mainW K a b t c g sn ++ svW K g Sv X)))) (townW K a T ++ (waysW K b ((wyP T p (len, qu, n)).1) ((wyP T p (len, qu, n)).2.1) ((wyP T p (len, qu, n)).2.2) ++ (textW K t cs ln ++ (mainW K a b t c g sn ++ svW K g Sv X)))) sz (some (.long (dgP T p h0)))) ar st 0 0 A) (F0 md 155 ls []) := by
                intro n_155
                induction n_155 with
                | zero => intro k7 _ hn_155; exact absurd hn_155 (Nat.not_lt_zero _)
                | succ n_155 ih_155 =>
                  intro k7 hk6 hn_155 H locs hP hD hS x_4 ex_4 x_7 ex_7 ls hl
                  subst ex_4
                  subst ex_7
                  have hl : lv_has ls 9 [(0, .ref (c 0)), (3, .int (nI p)), (4, .long (mxN (fun k => oI (bdT T p (k + 1))) k7 (itN (fun k h => mxN (fun d => nI (whyT T p (hdT T p) (k + 1) d)) 4 h) 6 (31 * (31 * (mxN (ppT T p) 10 h0) + (oI (wyO (dst T p 0 44))).toInt64) + (oI (wyO (dst T p 1 44))).toInt64)))), (7, .int (nI (k7 + 1)))] := hl
                  refine lv_iload hx hb dX3_digestPlayer_155 (lv_at hl 3 rfl) ?_
                  refine lv_bipush (v := nI 6) hx hb dX3_digestPlayer_157 (by decide) ?_
                  refine nv_icmp_gt (x := k7 + 1) (y := 6) (tgt := 192) hx hb dX3_digestPlayer_159 (by decide) (by omega) (by decide) (fun c_7 => ?_) (fun c_7 => ?_)
                  · have n_c_7 := Nat.not_le.mpr c_7
                    have e9c_7 : k7 = 6 := by omega
                    subst e9c_7
                    refine lv_lload hx hb dX3_digestPlayer_192 (lv_at hl 2 rfl) ?_
                    have hP : va_P D vwCl (townW K a T ++ (waysW K b ((wyP T p (len, qu, n)).1) ((wyP T p (len, qu, n)).2.1) ((wyP T p (len, qu, n)).2.2) ++ (textW K t cs ln ++ (mainW K a b t c g sn ++ svW K g Sv X)))) H := by rw [wyP_eq]; exact hP
                    have hD : va_D A (townW K a T ++ (waysW K b ((wyP T p (len, qu, n)).1) ((wyP T p (len, qu, n)).2.1) ((wyP T p (len, qu, n)).2.2) ++ (textW K t cs ln ++ (mainW K a b t c g sn ++ svW K g Sv X)))) := by rw [wyP_eq]; exact hD
                    exact wr_lret hAe hP hD hS hx hb hr hk dX3_digestPlayer_194 ⟨Nat.le_of_ble_eq_true rfl, Nat.le_of_ble_eq_true rfl⟩ (by exact (dgP_eq T p h0).symm)
                  · have n_c_7 := Nat.not_lt.mpr c_7
                    refine lv_ldc2 (v := 31) hx hb hown C243 dX3_digestPlayer_162 ?_
                    refine lv_lload hx hb dX3_digestPlayer_165 (lv_at hl 2 rfl) ?_
                    refine lv_lmul (x := 31) (y := mxN (fun k => oI (bdT T p (k + 1))) k7 (itN (fun k h => mxN (fun d => nI (whyT T p (hdT T p) (k + 1) d)) 4 h) 6 (31 * (31 * (mxN (ppT T p) 10 h0) + (oI (wyO (dst T p 0 44))).toInt64) + (oI (wyO (dst T p 1 44))).toInt64))) hx hb dX3_digestPlayer_167 ?_
                    refine lv_aload_n hx hb dX3_digestPlayer_168 rfl (lv_at hl 0 rfl) ?_
                    refine va_get (D := D) (ci := 3) (v := .ref (b 0)) (C := RX3) (T := TX3) (N := 5) hx hb hts inX3 hown hE.1 hP 17 rfl rfl 4 (by decide) F30 (fun _ h9 => h9) rfl dX3_digestPlayer_169 ?_
                    refine lv_aload_n hx hb dX3_digestPlayer_172 rfl (lv_at hl 0 rfl) ?_
                    refine va_get (D := D) (ci := 3) (v := .ref (a 0)) (C := RX3) (T := TX3) (N := 5) hx hb hts inX3 hown hE.1 hP 17 rfl rfl 0 (by decide) F12 (fun _ h9 => h9) rfl dX3_digestPlayer_173 ?_
                    refine lv_iload_n hx hb dX3_digestPlayer_176 rfl (lv_at hl 1 rfl) ?_
                    refine lv_iload hx hb dX3_digestPlayer_177 (lv_at hl 3 rfl) ?_
                    refine wr_V (rest := [.long (31 * (mxN (fun k => oI (bdT T p (k + 1))) k7 (itN (fun k h => mxN (fun d => nI (whyT T p (hdT T p) (k + 1) d)) 4 h) 6 (31 * (31 * (mxN (ppT T p) 10 h0) + (oI (wyO (dst T p 0 44))).toInt64) + (oI (wyO (dst T p 1 44))).toInt64))))]) (ci := 2) (q0 := 12) ⟨hx, hb, hml, hown, hts⟩ hP hE hA hD hS (c_X2_bestDirection l D K _ _ _ _ _ _ _ _ p (k7 + 1) hI (by omega) (by omega)) (cwV 3 hts gX3_digestPlayer_X2_bestDirection rfl rfl rfl hd_X2_bestDirection ⟨Nat.le_of_ble_eq_true rfl, Nat.le_of_ble_eq_true rfl⟩) rfl rfl rfl rfl hl.1 rfl (Nat.le_of_ble_eq_true rfl) dX3_digestPlayer_179 ⟨Nat.le_of_ble_eq_true rfl, Nat.le_of_ble_eq_true rfl⟩ (fun H locs hP hD hS => ?_)
                    have hP : va_P D vwCl (townW K a T ++ (waysW K b ((mfS T p ((wyM T p k7 (cheS T p (fewS T p qu).1, (fewS T p qu).2.1, (fewS T p qu).2.2)).2.1)).1) ((mfS T p ((wyM T p k7 (cheS T p (fewS T p qu).1, (fewS T p qu).2.1, (fewS T p qu).2.2)).2.1)).2.1) ((mfS T p ((wyM T p k7 (cheS T p (fewS T p qu).1, (fewS T p qu).2.1, (fewS T p qu).2.2)).2.1)).2.2) ++ (textW K t cs ln ++ (mainW K a b t c g sn ++ svW K g Sv X)))) H := hP
                    have hD : va_D A (townW K a T ++ (waysW K b ((mfS T p ((wyM T p k7 (cheS T p (fewS T p qu).1, (fewS T p qu).2.1, (fewS T p qu).2.2)).2.1)).1) ((mfS T p ((wyM T p k7 (cheS T p (fewS T p qu).1, (fewS T p qu).2.1, (fewS T p qu).2.2)).2.1)).2.1) ((mfS T p ((wyM T p k7 (cheS T p (fewS T p qu).1, (fewS T p qu).2.1, (fewS T p qu).2.2)).2.1)).2.2) ++ (textW K t cs ln ++ (mainW K a b t c g sn ++ svW K g Sv X)))) := hD
                    refine top_i (y := oI (bdT T p (k7 + 1))) (bd_dir hI hK _ (by omega)) ?_
                    refine lv_i2l (v := (oI (bdT T p (k7 + 1))).toInt64) hx hb dX3_digestPlayer_182 rfl ?_
                    refine lv_ladd (x := 31 * (mxN (fun k => oI (bdT T p (k + 1))) k7 (itN (fun k h => mxN (fun d => nI (whyT T p (hdT T p) (k + 1) d)) 4 h) 6 (31 * (31 * (mxN (ppT T p) 10 h0) + (oI (wyO (dst T p 0 44))).toInt64) + (oI (wyO (dst T p 1 44))).toInt64)))) (y := (oI (bdT T p (k7 + 1))).toInt64) hx hb dX3_digestPlayer_183 ?_
                    refine lv_lstore (lv' := [(4, .long ((31 * (mxN (fun k => oI (bdT T p (k + 1))) k7 (itN (fun k h => mxN (fun d => nI (whyT T p (hdT T p) (k + 1) d)) 4 h) 6 (31 * (31 * (mxN (ppT T p) 10 h0) + (oI (wyO (dst T p 0 44))).toInt64) + (oI (wyO (dst T p 1 44))).toInt64)))) + ((oI (bdT T p (k7 + 1))).toInt64))), (0, .ref (c 0)), (3, .int (nI p)), (7, .int (nI (k7 + 1)))]) hx hb dX3_digestPlayer_184 hl (by decide) rfl (fun ls hl => ?_)
                    refine lv_iinc (v := nI (k7 + 1 + 1)) (lv' := [(7, .int (nI (k7 + 1 + 1))), (4, .long ((31 * (mxN (fun k => oI (bdT T p (k + 1))) k7 (itN (fun k h => mxN (fun d => nI (whyT T p (hdT T p) (k + 1) d)) 4 h) 6 (31 * (31 * (mxN (ppT T p) 10 h0) + (oI (wyO (dst T p 0 44))).toInt64) + (oI (wyO (dst T p 1 44))).toInt64)))) + ((oI (bdT T p (k7 + 1))).toInt64))), (0, .ref (c 0)), (3, .int (nI p))]) hx hb dX3_digestPlayer_186 hl (k := 3) rfl (nI_add _ 1) (by decide) rfl (fun ls hl => ?_)
                    refine lv_goto (tgt := 155) hx hb dX3_digestPlayer_189 (by decide) ?_
                    have hP : va_P D vwCl (townW K a T ++ (waysW K b ((wyM T p (k7 + 1) (cheS T p (fewS T p qu).1, (fewS T p qu).2.1, (fewS T p qu).2.2)).1) ((wyM T p (k7 + 1) (cheS T p (fewS T p qu).1, (fewS T p qu).2.1, (fewS T p qu).2.2)).2.1) ((wyM T p (k7 + 1) (cheS T p (fewS T p qu).1, (fewS T p qu).2.1, (fewS T p qu).2.2)).2.2) ++ (textW K t cs ln ++ (mainW K a b t c g sn ++ svW K g Sv X)))) H := by rw [wyM_succ]; exact hP
                    have hD : va_D A (townW K a T ++ (waysW K b ((wyM T p (k7 + 1) (cheS T p (fewS T p qu).1, (fewS T p qu).2.1, (fewS T p qu).2.2)).1) ((wyM T p (k7 + 1) (cheS T p (fewS T p qu).1, (fewS T p qu).2.1, (fewS T p qu).2.2)).2.1) ((wyM T p (k7 + 1) (cheS T p (fewS T p qu).1, (fewS T p qu).2.1, (fewS T p qu).2.2)).2.2) ++ (textW K t cs ln ++ (mainW K a b t c g sn ++ svW K g Sv X)))) := by rw [wyM_succ]; exact hD
                    exact ih_155 (k7 + 1) (by omega) (by omega) _ _ hP hD hS _ ((mxN_succ (fun k => oI (bdT T p (k + 1))) k7 (itN (fun k h => mxN (fun d => nI (whyT T p (hdT T p) (k + 1) d)) 4 h) 6 (31 * (31 * (mxN (ppT T p) 10 h0) + (oI (wyO (dst T p 0 44))).toInt64) + (oI (wyO (dst T p 1 44))).toInt64))).symm) _ rfl ls (lv_sub hl [2, 3, 1, 0] rfl)
              have hP : va_P D vwCl (townW K a T ++ (waysW K b ((wyM T p 0 (cheS T p (fewS T p qu).1, (fewS T p qu).2.1, (fewS T p qu).2.2)).1) ((wyM T p 0 (cheS T p (fewS T p qu).1, (fewS T p qu).2.1, (fewS T p qu).2.2)).2.1) ((wyM T p 0 (cheS T p (fewS T p qu).1, (fewS T p qu).2.1, (fewS T p qu).2.2)).2.2) ++ (textW K t cs ln ++ (mainW K a b t c g sn ++ svW K g Sv X)))) H := by rw [wyM_zero]; exact hP
              have hD : va_D A (townW K a T ++ (waysW K b ((wyM T p 0 (cheS T p (fewS T p qu).1, (fewS T p qu).2.1, (fewS T p qu).2.2)).1) ((wyM T p 0 (cheS T p (fewS T p qu).1, (fewS T p qu).2.1, (fewS T p qu).2.2)).2.1) ((wyM T p 0 (cheS T p (fewS T p qu).1, (fewS T p qu).2.1, (fewS T p qu).2.2)).2.2) ++ (textW K t cs ln ++ (mainW K a b t c g sn ++ svW K g Sv X)))) := by rw [wyM_zero]; exact hD
              exact loop_6 _ 0 (by decide) (Nat.lt_succ_self _) _ _ hP hD hS _ ((mxN_zero (fun k => oI (bdT T p (k + 1))) (itN (fun k h => mxN (fun d => nI (whyT T p (hdT T p) (k + 1) d)) 4 h) 6 (31 * (31 * (mxN (ppT T p) 10 h0) + (oI (wyO (dst T p 0 44))).toInt64) + (oI (wyO (dst T p 1 44))).toInt64))).symm) _ rfl ls (lv_sub hl [1, 2, 3, 0] rfl)
            · have n_c_5 := Nat.not_lt.mpr c_5
              refine lv_iconst (v := nI 0) hx hb dX3_digestPlayer_107 (by decide) ?_
              refine lv_istore (lv' := [(8, .int (nI 0)), (0, .ref (c 0)), (3, .int (nI p)), (4, .long (itN (fun k h => mxN (fun d => nI (whyT T p (hdT T p) (k + 1) d)) 4 h) k7 (31 * (31 * (mxN (ppT T p) 10 h0) + (oI (wyO (dst T p 0 44))).toInt64) + (oI (wyO (dst T p 1 44))).toInt64))), (6, .int (nI (hdT T p))), (7, .int (nI (k7 + 1)))]) hx hb dX3_digestPlayer_108 hl (by decide) rfl (fun ls hl => ?_)
              have loop_8 : ∀ (n_110 : Nat) (d7 : Nat), (d7 ≤ 4) → (4 - d7) < n_110 → ∀ (H : Heap) (locs : List Loc), va_P D vwCl (townW K a T ++ (waysW K b (cheS T p (fewS T p qu).1) ((fewS T p qu).2.1) ((fewS T p qu).2.2) ++ (textW K t cs ln ++ (mainW K a b t c g sn ++ svW K g Sv X)))) H → va_D A (townW K a T ++ (waysW K b (cheS T p (fewS T p qu).1) ((fewS T p qu).2.1) ((fewS T p qu).2.2) ++ (textW K t cs ln ++ (mainW K a b t c g sn ++ svW K g Sv X)))) → va_S A st.heap H locs →  ∀ x_4 : Int64, x_4 = mxN (fun d => nI (whyT T p (hdT T p) (k7 + 1) d)) d7 (itN (fun k h => mxN (fun d => nI (whyT T p (hdT T p) (k + 1) d)) 4 h) k7 (31 * (31 * (mxN (ppT T p) 10 h0) + (oI (wyO (dst T p 0 44))).toInt64) + (oI (wyO (dst T p 1 44))).toInt64)) → ∀ x_8 : Int32, x_8 = nI d7 → ∀ ls : Array Slot, lv_has ls 9 [(0, .ref (c 0)), (3, .int (nI p)), (4, .long x_4), (6, .int (nI (hdT T p))), (7, .int (nI (k7 + 1))), (8, .int x_8)] → W pr l en (headSpec wsX3_digestPlayer ({ frames := 6, cells := 0, slots := 0, locals := 140 } : Room)).room st md ar bl mt co H locs 0 0 (MQ bl (wrQ D (townW K a T ++ (waysW K b len qu n ++ (textW K t cs ln ++ (mainW K a b t c g sn ++ svW K g Sv X)))) (townW K a T ++ (waysW K b ((wyP T p (len, qu, n)).1) ((wyP T p (len, qu, n)).2.1) ((wyP T p (len, qu, n)).2.2) ++ (textW K t cs ln ++ (mainW K a b t c g sn ++ svW K g Sv X)))) sz (some (.long (dgP T p h0)))) ar st 0 0 A) (F0 md 110 ls []) := by
                intro n_110
                induction n_110 with
                | zero => intro d7 _ hn_110; exact absurd hn_110 (Nat.not_lt_zero _)
                | succ n_110 ih_110 =>
                  intro d7 hd hn_110 H locs hP hD hS x_4 ex_4 x_8 ex_8 ls hl
                  subst ex_4
                  subst ex_8
                  have hl : lv_has ls 9 [(0, .ref (c 0)), (3, .int (nI p)), (4, .long (mxN (fun d => nI (whyT T p (hdT T p) (k7 + 1) d)) d7 (itN (fun k h => mxN (fun d => nI (whyT T p (hdT T p) (k + 1) d)) 4 h) k7 (31 * (31 * (mxN (ppT T p) 10 h0) + (oI (wyO (dst T p 0 44))).toInt64) + (oI (wyO (dst T p 1 44))).toInt64)))), (6, .int (nI (hdT T p))), (7, .int (nI (k7 + 1))), (8, .int (nI d7))] := hl
                  refine lv_iload hx hb dX3_digestPlayer_110 (lv_at hl 5 rfl) ?_
                  refine lv_iconst (v := nI 4) hx hb dX3_digestPlayer_112 (by decide) ?_
                  refine nv_icmp_ge (x := d7) (y := 4) (tgt := 146) hx hb dX3_digestPlayer_113 (by decide) (by omega) (by decide) (fun c_9 => ?_) (fun c_9 => ?_)
                  · have n_c_9 := Nat.not_lt.mpr c_9
                    have e9c_9 : d7 = 4 := by omega
                    subst e9c_9
                    refine lv_iinc (v := nI (k7 + 1 + 1)) (lv' := [(7, .int (nI (k7 + 1 + 1))), (0, .ref (c 0)), (3, .int (nI p)), (4, .long (mxN (fun d => nI (whyT T p (hdT T p) (k7 + 1) d)) 4 (itN (fun k h => mxN (fun d => nI (whyT T p (hdT T p) (k + 1) d)) 4 h) k7 (31 * (31 * (mxN (ppT T p) 10 h0) + (oI (wyO (dst T p 0 44))).toInt64) + (oI (wyO (dst T p 1 44))).toInt64)))), (6, .int (nI (hdT T p))), (8, .int (nI 4))]) hx hb dX3_digestPlayer_146 hl (k := 4) rfl (nI_add _ 1) (by decide) rfl (fun ls hl => ?_)
                    refine lv_goto (tgt := 100) hx hb dX3_digestPlayer_149 (by decide) ?_
                    exact ih_100 (k7 + 1) (by omega) (by omega) _ _ hP hD hS _ ((itN_succ (fun k h => mxN (fun d => nI (whyT T p (hdT T p) (k + 1) d)) 4 h) k7 (31 * (31 * (mxN (ppT T p) 10 h0) + (oI (wyO (dst T p 0 44))).toInt64) + (oI (wyO (dst T p 1 44))).toInt64)).symm) _ rfl ls (lv_sub hl [1, 2, 3, 4, 0] rfl)
                  · have n_c_9 := Nat.not_le.mpr c_9
                    refine lv_ldc2 (v := 31) hx hb hown C243 dX3_digestPlayer_116 ?_
                    refine lv_lload hx hb dX3_digestPlayer_119 (lv_at hl 2 rfl) ?_
                    refine lv_lmul (x := 31) (y := mxN (fun d => nI (whyT T p (hdT T p) (k7 + 1) d)) d7 (itN (fun k h => mxN (fun d => nI (whyT T p (hdT T p) (k + 1) d)) 4 h) k7 (31 * (31 * (mxN (ppT T p) 10 h0) + (oI (wyO (dst T p 0 44))).toInt64) + (oI (wyO (dst T p 1 44))).toInt64))) hx hb dX3_digestPlayer_121 ?_
                    refine lv_aload_n hx hb dX3_digestPlayer_122 rfl (lv_at hl 0 rfl) ?_
                    refine va_get (D := D) (ci := 3) (v := .ref (a 0)) (C := RX3) (T := TX3) (N := 5) hx hb hts inX3 hown hE.1 hP 17 rfl rfl 0 (by decide) F12 (fun _ h9 => h9) rfl dX3_digestPlayer_123 ?_
                    refine lv_iload_n hx hb dX3_digestPlayer_126 rfl (lv_at hl 1 rfl) ?_
                    refine lv_iload hx hb dX3_digestPlayer_127 (lv_at hl 3 rfl) ?_
                    refine lv_iload hx hb dX3_digestPlayer_129 (lv_at hl 4 rfl) ?_
                    refine lv_iload hx hb dX3_digestPlayer_131 (lv_at hl 5 rfl) ?_
                    refine rd_V (rest := [.long (31 * (mxN (fun d => nI (whyT T p (hdT T p) (k7 + 1) d)) d7 (itN (fun k h => mxN (fun d => nI (whyT T p (hdT T p) (k + 1) d)) 4 h) k7 (31 * (31 * (mxN (ppT T p) 10 h0) + (oI (wyO (dst T p 0 44))).toInt64) + (oI (wyO (dst T p 1 44))).toInt64))))]) (ci := 1) (q0 := 0) ⟨hx, hb, hml, hown, hts⟩ hP hE (c_X1_reason l D K _ _ _ p (hdT T p) (k7 + 1) d7 hI (by omega) (by omega) (by omega) (by omega)) (cwV 4 hts gX3_digestPlayer_X1_reason rfl rfl rfl hd_X1_reason ⟨Nat.le_of_ble_eq_true rfl, Nat.le_of_ble_eq_true rfl⟩) rfl rfl rfl rfl hl.1 rfl (Nat.le_of_ble_eq_true rfl) dX3_digestPlayer_133 ⟨Nat.le_of_ble_eq_true rfl, Nat.le_of_ble_eq_true rfl⟩ ?_
                    have hb_10 := why_lt T p (hdT T p) (k7 + 1) d7
                    refine lv_i2l (v := (nI (whyT T p (hdT T p) (k7 + 1) d7)).toInt64) hx hb dX3_digestPlayer_136 rfl ?_
                    refine lv_ladd (x := 31 * (mxN (fun d => nI (whyT T p (hdT T p) (k7 + 1) d)) d7 (itN (fun k h => mxN (fun d => nI (whyT T p (hdT T p) (k + 1) d)) 4 h) k7 (31 * (31 * (mxN (ppT T p) 10 h0) + (oI (wyO (dst T p 0 44))).toInt64) + (oI (wyO (dst T p 1 44))).toInt64)))) (y := (nI (whyT T p (hdT T p) (k7 + 1) d7)).toInt64) hx hb dX3_digestPlayer_137 ?_
                    refine lv_lstore (lv' := [(4, .long ((31 * (mxN (fun d => nI (whyT T p (hdT T p) (k7 + 1) d)) d7 (itN (fun k h => mxN (fun d => nI (whyT T p (hdT T p) (k + 1) d)) 4 h) k7 (31 * (31 * (mxN (ppT T p) 10 h0) + (oI (wyO (dst T p 0 44))).toInt64) + (oI (wyO (dst T p 1 44))).toInt64)))) + ((nI (whyT T p (hdT T p) (k7 + 1) d7)).toInt64))), (0, .ref (c 0)), (3, .int (nI p)), (6, .int (nI (hdT T p))), (7, .int (nI (k7 + 1))), (8, .int (nI d7))]) hx hb dX3_digestPlayer_138 hl (by decide) rfl (fun ls hl => ?_)
                    refine lv_iinc (v := nI (d7 + 1)) (lv' := [(8, .int (nI (d7 + 1))), (4, .long ((31 * (mxN (fun d => nI (whyT T p (hdT T p) (k7 + 1) d)) d7 (itN (fun k h => mxN (fun d => nI (whyT T p (hdT T p) (k + 1) d)) 4 h) k7 (31 * (31 * (mxN (ppT T p) 10 h0) + (oI (wyO (dst T p 0 44))).toInt64) + (oI (wyO (dst T p 1 44))).toInt64)))) + ((nI (whyT T p (hdT T p) (k7 + 1) d7)).toInt64))), (0, .ref (c 0)), (3, .int (nI p)), (6, .int (nI (hdT T p))), (7, .int (nI (k7 + 1)))]) hx hb dX3_digestPlayer_140 hl (k := 5) rfl (nI_add _ 1) (by decide) rfl (fun ls hl => ?_)
                    refine lv_goto (tgt := 110) hx hb dX3_digestPlayer_143 (by decide) ?_
                    exact ih_110 (d7 + 1) (by omega) (by omega) _ _ hP hD hS _ ((mxN_succ (fun d => nI (whyT T p (hdT T p) (k7 + 1) d)) d7 (itN (fun k h => mxN (fun d => nI (whyT T p (hdT T p) (k + 1) d)) 4 h) k7 (31 * (31 * (mxN (ppT T p) 10 h0) + (oI (wyO (dst T p 0 44))).toInt64) + (oI (wyO (dst T p 1 44))).toInt64))).symm) _ rfl ls (lv_sub hl [2, 3, 1, 4, 5, 0] rfl)
              exact loop_8 _ 0 (by decide) (Nat.lt_succ_self _) _ _ hP hD hS _ ((mxN_zero (fun d => nI (whyT T p (hdT T p) (k7 + 1) d)) (itN (fun k h => mxN (fun d => nI (whyT T p (hdT T p) (k + 1) d)) 4 h) k7 (31 * (31 * (mxN (ppT T p) 10 h0) + (oI (wyO (dst T p 0 44))).toInt64) + (oI (wyO (dst T p 1 44))).toInt64))).symm) _ rfl ls (lv_sub hl [1, 2, 3, 4, 5, 0] rfl)
        exact loop_4 _ 0 (by decide) (Nat.lt_succ_self _) _ _ hP hD hS _ ((itN_zero (fun k h => mxN (fun d => nI (whyT T p (hdT T p) (k + 1) d)) 4 h) (31 * (31 * (mxN (ppT T p) 10 h0) + (oI (wyO (dst T p 0 44))).toInt64) + (oI (wyO (dst T p 1 44))).toInt64)).symm) _ rfl ls (lv_sub hl [3, 4, 2, 1, 0] rfl)
      · have n_c_2 := Nat.not_lt.mpr c_2
        refine lv_ldc2 (v := 31) hx hb hown C243 dX3_digestPlayer_13 ?_
        refine lv_lload hx hb dX3_digestPlayer_16 (lv_at hl 2 rfl) ?_
        refine lv_lmul (x := 31) (y := mxN (ppT T p) i h0) hx hb dX3_digestPlayer_18 ?_
        refine lv_aload_n hx hb dX3_digestPlayer_19 rfl (lv_at hl 0 rfl) ?_
        refine lv_iload_n hx hb dX3_digestPlayer_20 rfl (lv_at hl 1 rfl) ?_
        refine lv_iload hx hb dX3_digestPlayer_21 (lv_at hl 3 rfl) ?_
        refine rd_V (rest := [.long (31 * (mxN (ppT T p) i h0))]) (ci := 3) (q0 := 17) ⟨hx, hb, hml, hown, hts⟩ hP hE (c_X3_propertyOfPlayer l D K _ _ _ _ _ _ _ _ _ _ _ _ _ _ hI p i (by omega) (by omega)) (cwV 2 hts gX3_digestPlayer_X3_propertyOfPlayer rfl rfl rfl hd_X3_propertyOfPlayer ⟨Nat.le_of_ble_eq_true rfl, Nat.le_of_ble_eq_true rfl⟩) rfl rfl rfl rfl hl.1 rfl (Nat.le_of_ble_eq_true rfl) dX3_digestPlayer_23 ⟨Nat.le_of_ble_eq_true rfl, Nat.le_of_ble_eq_true rfl⟩ ?_
        refine lv_i2l (v := (ppT T p i).toInt64) hx hb dX3_digestPlayer_26 rfl ?_
        refine lv_ladd (x := 31 * (mxN (ppT T p) i h0)) (y := (ppT T p i).toInt64) hx hb dX3_digestPlayer_27 ?_
        refine lv_lstore (lv' := [(4, .long ((31 * (mxN (ppT T p) i h0)) + ((ppT T p i).toInt64))), (0, .ref (c 0)), (3, .int (nI p)), (6, .int (nI i))]) hx hb dX3_digestPlayer_28 hl (by decide) rfl (fun ls hl => ?_)
        refine lv_iinc (v := nI (i + 1)) (lv' := [(6, .int (nI (i + 1))), (4, .long ((31 * (mxN (ppT T p) i h0)) + ((ppT T p i).toInt64))), (0, .ref (c 0)), (3, .int (nI p))]) hx hb dX3_digestPlayer_30 hl (k := 3) rfl (nI_add _ 1) (by decide) rfl (fun ls hl => ?_)
        refine lv_goto (tgt := 6) hx hb dX3_digestPlayer_33 (by decide) ?_
        exact ih_6 (i + 1) (by omega) (by omega) _ _ hP hD hS _ ((mxN_succ (ppT T p) i h0).symm) _ rfl ls (lv_sub hl [2, 3, 1, 0] rfl)
  exact loop_1 _ 0 (by decide) (Nat.lt_succ_self _) _ _ hP hD hS _ ((mxN_zero (ppT T p) h0).symm) _ rfl ls (lv_sub hl [2, 4, 1, 0] rfl)
