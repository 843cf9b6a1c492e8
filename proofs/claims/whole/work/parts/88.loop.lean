/-! the law's loop -/
set_option maxHeartbeats 4000000 in
set_option maxRecDepth 100000 in
theorem law_loop {pr : Program} {l : Launch} {en : Env} {st : State} {md : MethodId} {ar : Array Value} {bl : List Frame} {mt : Method} {co : Code} {D : va_G} {K : Nat → ClassId} {A : Nat → Prop} {Q : State → Prop} {b9 : Nat} {a b t c r : Nat → Nat} {o : Nat} {dp fs L : Nat} {xs : Nat → Int32} (hx : pr.tables.exec = Jvm.exec) (hb : co.code = cL_law) (hml : co.maxLocals = 9) (hts : ∀ w ∈ wsL_law, w.before ar st = true) (hown : st.vm.findClass RL = some md.cls) (hst : l.stackTraces = false) (hE : ev D K st) (hXw : xw st) (hxn : xn st) (hZ : xst dp fs A st st.heap) (hA : ∀ q : Nat, st.heap.size ≤ q → A q) (hX : va_X b9 L xs st st.heap) (hbl : b9 < st.heap.size) (hbA : ¬ A b9) (hL : L ≤ 2048) (fin : ∀ (cells slots : Nat) (H : Heap) (locs : List Loc) (ls : Array Slot), va_S A st.heap H locs → cells ≤ 601024 → slots ≤ 7293034 → W pr l en room_1 st md ar bl mt co H locs cells slots Q (F0 md 1557 ls [.int 1])) : ∀ (n k : Nat), 4 * k ≤ L → L < 4 * (k + n) → Nx pr l en st md ar bl mt co D K A Q b9 a b t c r o k (200 + k) (10000 + 6 * k) 23
  | 0, k, h1, h2 => by omega
  | n9 + 1, k, hk0, hn9 => by
    have kk : 4 * k + 4 ≤ L → Nx pr l en st md ar bl mt co D K A Q b9 a b t c r o k (200 + k + 1) (10000 + 6 * k + 6) 1550 := by
      intro hk4 T len qu n cs ln sn Sv g th pn pm sta ms hs sv pf fa of hLI H locs ls hP hD hS hl
      refine lv_iinc (v := nI (4 * (k + 1))) (lv' := [(4, .int (nI (4 * (k + 1)))), (0, .ref b9), (1, .ref (c 0)), (2, .ref (r 0)), (3, .ref o)]) hx hb dL_law_1550 hl (k := 0) rfl (by rw [show 4 * (k + 1) = 4 * k + 4 from by omega]; exact nI_add _ 4) (by decide) rfl (fun ls hl => ?_)
      refine lv_goto (tgt := 23) hx hb dL_law_1553 (by decide) ?_
      refine W.widen (k := 200 + (k + 1)) (n := 10000 + 6 * (k + 1)) (by omega) (by omega) ?_
      exact law_loop hx hb hml hts hown hst hE hXw hxn hZ hA hX hbl hbA hL fin n9 (k + 1) (by omega) (by omega) _ _ _ _ _ _ _ _ _ _ _ _ _ _ _ _ _ _ _ hLI H locs ls hP hD hS hl
    intro T len qu n cs ln sn Sv g th pn pm sta ms hs sv pf fa of hLI H locs ls hP hD hS hl
    refine lv_iload hx hb dL_law_23 (lv_at hl 0 rfl) ?_
    refine lv_aload_n hx hb dL_law_25 rfl (lv_at hl 1 rfl) ?_
    refine va_slen hx hb hX hbl hbA hS dL_law_26 ?_
    refine lv_iconst (v := nI 4) hx hb dL_law_27 (by decide) ?_
    refine lv_isub (x := nI L) (y := nI 4) hx hb dL_law_28 ?_
    refine lv_icmp_gt (x := nI (4 * k)) (y := nI L - nI 4) (tgt := 1556) hx hb dL_law_29 (by decide) (fun c_1 => ?_) (fun c_1 => ?_)
    · refine lv_iconst (v := 1) hx hb dL_law_1556 (by decide) ?_
      exact fin _ _ H locs ls hS (by omega) (by omega)
    · have hk4 := len_sub hL (by omega) c_1
      refine lv_aload_n hx hb dL_law_32 rfl (lv_at hl 1 rfl) ?_
      refine lv_iload hx hb dL_law_33 (lv_at hl 0 rfl) ?_
      refine va_sld hx hb hX hbl hbA hS (pk_in (4 * k) L (by omega)) dL_law_35 ?_
      rw [pk_cl (4 * k)]
      refine lv_bipush (v := nI 31) hx hb dL_law_36 (by decide) ?_
      refine lv_iand (x := xs (4 * k)) (y := nI 31) hx hb dL_law_38 ?_
      obtain ⟨j, hj, e2⟩ := pk_andE (xs (4 * k)) (m := nI 31) 5 (by decide)
      refine top_i (y := nI j) e2 ?_
      rcases (show j = 0 ∨ j = 1 ∨ j = 2 ∨ j = 3 ∨ j = 4 ∨ j = 5 ∨ j = 6 ∨ j = 7 ∨ j = 8 ∨ j = 9 ∨ j = 10 ∨ j = 11 ∨ j = 12 ∨ j = 13 ∨ j = 14 ∨ j = 15 ∨ j = 16 ∨ j = 17 ∨ j = 18 ∨ j = 19 ∨ j = 20 ∨ j = 21 ∨ j = 22 ∨ j = 23 ∨ j = 24 ∨ j = 25 ∨ j = 26 ∨ j = 27 ∨ j = 28 ∨ j = 29 ∨ j = 30 ∨ j = 31 by omega) with rfl | rfl | rfl | rfl | rfl | rfl | rfl | rfl | rfl | rfl | rfl | rfl | rfl | rfl | rfl | rfl | rfl | rfl | rfl | rfl | rfl | rfl | rfl | rfl | rfl | rfl | rfl | rfl | rfl | rfl | rfl | rfl
      · refine lv_tableIn (off := 113) (tgt := 152) hx hb dL_law_39 (by decide) (by decide) (by decide) (by decide) ?_
        exact lc_house hx hb hml hts hown hst hE hXw hxn hZ hA hX hbl hbA k hk4 hL _ _ (by omega) (by omega) (kk hk4) _ _ _ _ _ _ _ _ _ _ _ _ _ _ _ _ _ _ _ hLI H locs ls hP hD hS hl
      · refine lv_tableIn (off := 197) (tgt := 236) hx hb dL_law_39 (by decide) (by decide) (by decide) (by decide) ?_
        exact lc_stop hx hb hml hts hown hst hE hXw hxn hZ hA hX hbl hbA k hk4 hL _ _ (by omega) (by omega) (kk hk4) _ _ _ _ _ _ _ _ _ _ _ _ _ _ _ _ _ _ _ hLI H locs ls hP hD hS hl
      · refine lv_tableIn (off := 265) (tgt := 304) hx hb dL_law_39 (by decide) (by decide) (by decide) (by decide) ?_
        exact lc_drop hx hb hml hts hown hst hE hXw hxn hZ hA hX hbl hbA k hk4 hL _ _ (by omega) (by omega) (kk hk4) _ _ _ _ _ _ _ _ _ _ _ _ _ _ _ _ _ _ _ hLI H locs ls hP hD hS hl
      · refine lv_tableIn (off := 321) (tgt := 360) hx hb dL_law_39 (by decide) (by decide) (by decide) (by decide) ?_
        exact lc_lay hx hb hml hts hown hst hE hXw hxn hZ hA hX hbl hbA k hk4 hL _ _ (by omega) (by omega) (kk hk4) _ _ _ _ _ _ _ _ _ _ _ _ _ _ _ _ _ _ _ hLI H locs ls hP hD hS hl
      · refine lv_tableIn (off := 401) (tgt := 440) hx hb dL_law_39 (by decide) (by decide) (by decide) (by decide) ?_
        exact lc_branch hx hb hml hts hown hst hE hXw hxn hZ hA hX hbl hbA k hk4 hL _ _ (by omega) (by omega) (kk hk4) _ _ _ _ _ _ _ _ _ _ _ _ _ _ _ _ _ _ _ hLI H locs ls hP hD hS hl
      · refine lv_tableIn (off := 481) (tgt := 520) hx hb dL_law_39 (by decide) (by decide) (by decide) (by decide) ?_
        exact lc_takeUp hx hb hml hts hown hst hE hXw hxn hZ hA hX hbl hbA k hk4 hL _ _ (by omega) (by omega) (kk hk4) _ _ _ _ _ _ _ _ _ _ _ _ _ _ _ _ _ _ _ hLI H locs ls hP hD hS hl
      · refine lv_tableIn (off := 537) (tgt := 576) hx hb dL_law_39 (by decide) (by decide) (by decide) (by decide) ?_
        exact lc_give hx hb hml hts hown hst hE hXw hxn hZ hA hX hbl hbA k hk4 hL _ _ (by omega) (by omega) (kk hk4) _ _ _ _ _ _ _ _ _ _ _ _ _ _ _ _ _ _ _ hLI H locs ls hP hD hS hl
      · refine lv_tableIn (off := 605) (tgt := 644) hx hb dL_law_39 (by decide) (by decide) (by decide) (by decide) ?_
        exact lc_set hx hb hml hts hown hst hE hXw hxn hZ hA hX hbl hbA k hk4 hL _ _ (by omega) (by omega) (kk hk4) _ _ _ _ _ _ _ _ _ _ _ _ _ _ _ _ _ _ _ hLI H locs ls hP hD hS hl
      · refine lv_tableIn (off := 673) (tgt := 712) hx hb dL_law_39 (by decide) (by decide) (by decide) (by decide) ?_
        exact lc_append hx hb hml hts hown hst hE hXw hxn hZ hA hX hbl hbA k hk4 hL _ _ (by omega) (by omega) (kk hk4) _ _ _ _ _ _ _ _ _ _ _ _ _ _ _ _ _ _ _ hLI H locs ls hP hD hS hl
      · refine lv_tableIn (off := 729) (tgt := 768) hx hb dL_law_39 (by decide) (by decide) (by decide) (by decide) ?_
        exact lc_clearBuffer hx hb hml hts hown hst hE hXw hxn hZ hA hX hbl hbA k hk4 hL _ _ (by omega) (by omega) (kk hk4) _ _ _ _ _ _ _ _ _ _ _ _ _ _ _ _ _ _ _ hLI H locs ls hP hD hS hl
      · refine lv_tableIn (off := 742) (tgt := 781) hx hb dL_law_39 (by decide) (by decide) (by decide) (by decide) ?_
        exact lc_firstError hx hb hml hts hown hst hE hXw hxn hZ hA hX hbl hbA k hk4 hL _ _ (by omega) (by omega) (kk hk4) _ _ _ _ _ _ _ _ _ _ _ _ _ _ _ _ _ _ _ hLI H locs ls hP hD hS hl
      · refine lv_tableIn (off := 755) (tgt := 794) hx hb dL_law_39 (by decide) (by decide) (by decide) (by decide) ?_
        exact lc_play hx hb hml hts hown hst hE hXw hxn hZ hA hX hbl hbA k hk4 hL _ _ (by omega) (by omega) (kk hk4) _ _ _ _ _ _ _ _ _ _ _ _ _ _ _ _ _ _ _ hLI H locs ls hP hD hS hl
      · refine lv_tableIn (off := 799) (tgt := 838) hx hb dL_law_39 (by decide) (by decide) (by decide) (by decide) ?_
        exact lc_undo hx hb hml hts hown hst hE hXw hxn hZ hA hX hbl hbA k hk4 hL _ _ (by omega) (by omega) (kk hk4) _ _ _ _ _ _ _ _ _ _ _ _ _ _ _ _ _ _ _ hLI H locs ls hP hD hS hl
      · refine lv_tableIn (off := 843) (tgt := 882) hx hb dL_law_39 (by decide) (by decide) (by decide) (by decide) ?_
        exact lc_square hx hb hml hts hown hst hE hXw hxn hZ hA hX hbl hbA k hk4 hL _ _ (by omega) (by omega) (kk hk4) _ _ _ _ _ _ _ _ _ _ _ _ _ _ _ _ _ _ _ hLI H locs ls hP hD hS hl
      · refine lv_tableIn (off := 911) (tgt := 950) hx hb dL_law_39 (by decide) (by decide) (by decide) (by decide) ?_
        exact lc_stopOf hx hb hml hts hown hst hE hXw hxn hZ hA hX hbl hbA k hk4 hL _ _ (by omega) (by omega) (kk hk4) _ _ _ _ _ _ _ _ _ _ _ _ _ _ _ _ _ _ _ hLI H locs ls hP hD hS hl
      · refine lv_tableIn (off := 979) (tgt := 1018) hx hb dL_law_39 (by decide) (by decide) (by decide) (by decide) ?_
        exact lc_player hx hb hml hts hown hst hE hXw hxn hZ hA hX hbl hbA k hk4 hL _ _ (by omega) (by omega) (kk hk4) _ _ _ _ _ _ _ _ _ _ _ _ _ _ _ _ _ _ _ hLI H locs ls hP hD hS hl
      · refine lv_tableIn (off := 1047) (tgt := 1086) hx hb dL_law_39 (by decide) (by decide) (by decide) (by decide) ?_
        exact lc_refusal hx hb hml hts hown hst hE hXw hxn hZ hA hX hbl hbA k hk4 hL _ _ (by omega) (by omega) (kk hk4) _ _ _ _ _ _ _ _ _ _ _ _ _ _ _ _ _ _ _ hLI H locs ls hP hD hS hl
      · refine lv_tableIn (off := 1127) (tgt := 1166) hx hb dL_law_39 (by decide) (by decide) (by decide) (by decide) ?_
        exact lc_count hx hb hml hts hown hst hE hXw hxn hZ hA hX hbl hbA k hk4 hL _ _ (by omega) (by omega) (kk hk4) _ _ _ _ _ _ _ _ _ _ _ _ _ _ _ _ _ _ _ hLI H locs ls hP hD hS hl
      · refine lv_tableIn (off := 1183) (tgt := 1222) hx hb dL_law_39 (by decide) (by decide) (by decide) (by decide) ?_
        exact lc_setting hx hb hml hts hown hst hE hXw hxn hZ hA hX hbl hbA k hk4 hL _ _ (by omega) (by omega) (kk hk4) _ _ _ _ _ _ _ _ _ _ _ _ _ _ _ _ _ _ _ hLI H locs ls hP hD hS hl
      · refine lv_tableIn (off := 1239) (tgt := 1278) hx hb dL_law_39 (by decide) (by decide) (by decide) (by decide) ?_
        exact lc_away hx hb hml hts hown hst hE hXw hxn hZ hA hX hbl hbA k hk4 hL _ _ (by omega) (by omega) (kk hk4) _ _ _ _ _ _ _ _ _ _ _ _ _ _ _ _ _ _ _ hLI H locs ls hP hD hS hl
      · refine lv_tableIn (off := 1307) (tgt := 1346) hx hb dL_law_39 (by decide) (by decide) (by decide) (by decide) ?_
        exact lc_cheapest hx hb hml hts hown hst hE hXw hxn hZ hA hX hbl hbA k hk4 hL _ _ (by omega) (by omega) (kk hk4) _ _ _ _ _ _ _ _ _ _ _ _ _ _ _ _ _ _ _ hLI H locs ls hP hD hS hl
      · refine lv_tableIn (off := 1375) (tgt := 1414) hx hb dL_law_39 (by decide) (by decide) (by decide) (by decide) ?_
        exact lc_best hx hb hml hts hown hst hE hXw hxn hZ hA hX hbl hbA k hk4 hL _ _ (by omega) (by omega) (kk hk4) _ _ _ _ _ _ _ _ _ _ _ _ _ _ _ _ _ _ _ hLI H locs ls hP hD hS hl
      · refine lv_tableIn (off := 1443) (tgt := 1482) hx hb dL_law_39 (by decide) (by decide) (by decide) (by decide) ?_
        exact lc_ahead hx hb hml hts hown hst hE hXw hxn hZ hA hX hbl hbA k hk4 hL _ _ (by omega) (by omega) (kk hk4) _ _ _ _ _ _ _ _ _ _ _ _ _ _ _ _ _ _ _ hLI H locs ls hP hD hS hl
      · refine lv_tableIn (off := 1456) (tgt := 1495) hx hb dL_law_39 (by decide) (by decide) (by decide) (by decide) ?_
        exact lc_shared hx hb hml hts hown hst hE hXw hxn hZ hA hX hbl hbA k hk4 hL _ _ (by omega) (by omega) (kk hk4) _ _ _ _ _ _ _ _ _ _ _ _ _ _ _ _ _ _ _ hLI H locs ls hP hD hS hl
      · refine lv_tableIn (off := 1497) (tgt := 1536) hx hb dL_law_39 (by decide) (by decide) (by decide) (by decide) ?_
        exact lc_digest hx hb hml hts hown hst hE hXw hxn hZ hA hX hbl hbA k hk4 hL _ _ (by omega) (by omega) (kk hk4) _ _ _ _ _ _ _ _ _ _ _ _ _ _ _ _ _ _ _ hLI H locs ls hP hD hS hl
      · refine lv_tableOut (tgt := 1550) hx hb dL_law_39 (by decide) (by decide) ?_
        refine W.widen (k := 200 + k + 1) (n := 10000 + 6 * k + 6) (by omega) (by omega) ?_
        exact kk hk4 _ _ _ _ _ _ _ _ _ _ _ _ _ _ _ _ _ _ _ hLI H locs ls hP hD hS hl
      · refine lv_tableOut (tgt := 1550) hx hb dL_law_39 (by decide) (by decide) ?_
        refine W.widen (k := 200 + k + 1) (n := 10000 + 6 * k + 6) (by omega) (by omega) ?_
        exact kk hk4 _ _ _ _ _ _ _ _ _ _ _ _ _ _ _ _ _ _ _ hLI H locs ls hP hD hS hl
      · refine lv_tableOut (tgt := 1550) hx hb dL_law_39 (by decide) (by decide) ?_
        refine W.widen (k := 200 + k + 1) (n := 10000 + 6 * k + 6) (by omega) (by omega) ?_
        exact kk hk4 _ _ _ _ _ _ _ _ _ _ _ _ _ _ _ _ _ _ _ hLI H locs ls hP hD hS hl
      · refine lv_tableOut (tgt := 1550) hx hb dL_law_39 (by decide) (by decide) ?_
        refine W.widen (k := 200 + k + 1) (n := 10000 + 6 * k + 6) (by omega) (by omega) ?_
        exact kk hk4 _ _ _ _ _ _ _ _ _ _ _ _ _ _ _ _ _ _ _ hLI H locs ls hP hD hS hl
      · refine lv_tableOut (tgt := 1550) hx hb dL_law_39 (by decide) (by decide) ?_
        refine W.widen (k := 200 + k + 1) (n := 10000 + 6 * k + 6) (by omega) (by omega) ?_
        exact kk hk4 _ _ _ _ _ _ _ _ _ _ _ _ _ _ _ _ _ _ _ hLI H locs ls hP hD hS hl
      · refine lv_tableOut (tgt := 1550) hx hb dL_law_39 (by decide) (by decide) ?_
        refine W.widen (k := 200 + k + 1) (n := 10000 + 6 * k + 6) (by omega) (by omega) ?_
        exact kk hk4 _ _ _ _ _ _ _ _ _ _ _ _ _ _ _ _ _ _ _ hLI H locs ls hP hD hS hl
      · refine lv_tableOut (tgt := 1550) hx hb dL_law_39 (by decide) (by decide) ?_
        refine W.widen (k := 200 + k + 1) (n := 10000 + 6 * k + 6) (by omega) (by omega) ?_
        exact kk hk4 _ _ _ _ _ _ _ _ _ _ _ _ _ _ _ _ _ _ _ hLI H locs ls hP hD hS hl
