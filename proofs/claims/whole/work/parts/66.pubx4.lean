theorem hd_X3_digestPlayer : yX3_digestPlayer.cls = RX3 ∧ yX3_digestPlayer.cls ≠ "java/lang/invoke/MethodHandle" ∧ yX3_digestPlayer.cls ≠ "java/lang/invoke/VarHandle" ∧ (parseMethodDescriptor yX3_digestPlayer.desc).map (fun d => d.parameters.length) = some 2 := by decide +kernel
theorem hn_X3_digestPlayer : yX3_digestPlayer.cls ≠ "java/lang/invoke/MethodHandle" ∧ yX3_digestPlayer.cls ≠ "java/lang/invoke/VarHandle" ∧ (parseMethodDescriptor yX3_digestPlayer.desc).map (fun d => d.parameters.length) = some 2 := hd_X3_digestPlayer.2
set_option maxHeartbeats 4000000 in
set_option maxRecDepth 100000 in
theorem c_X3_digest (l : Launch) (D : va_G) (K : Nat → ClassId) (sz : Nat) (a b t c : Nat → Nat) (g : Nat → Nat → Nat) (T : TW) (X : va_W) (len : Nat → Option Nat) (qu : Nat → Nat) (n : Nat) (cs : Nat → Nat) (ln sn : Nat) (Sv : Nat → TW) (hI : Inv T) (hK : HK T) (hCB : CB cs ln) : Wr l yX3_digest wsX3_digest ({ frames := 7, cells := 0, slots := 0, locals := 168 } : Room) D K (townW K a T ++ (waysW K b len qu n ++ (textW K t cs ln ++ (mainW K a b t c g sn ++ svW K g Sv X)))) sz [.ref (c 0)] (townW K a T ++ (waysW K b ((wyD T 4 (len, qu, n)).1) ((wyD T 4 (len, qu, n)).2.1) ((wyD T 4 (len, qu, n)).2.2) ++ (textW K t cs ln ++ (mainW K a b t c g sn ++ svW K g Sv X)))) (some (.long (dgT T sn cs ln))) 0 0 := by
  refine wr_intro (cc := cX3_digest) (maxL := 5) (ret := (some .long)) (by decide) rfl (Nat.le_of_ble_eq_true rfl) ?_
  intro pr en st md ar bl mt co A hx hb hml hr hts hown hk hsz hAe hP hE hD hS hA hin ls hl
  have hown : st.vm.findClass RX3 = some md.cls := hown
  have hl : lv_has ls 5 [(0, .ref (c 0))] := hl
  have hl60 := hCB.1
  obtain ⟨H, hH⟩ : ∃ z, z = st.heap := ⟨_, rfl⟩
  obtain ⟨locs, hlo⟩ : ∃ z : List Loc, z = [] := ⟨_, rfl⟩
  have hP : va_P D vwCl (townW K a T ++ (waysW K b len qu n ++ (textW K t cs ln ++ (mainW K a b t c g sn ++ svW K g Sv X)))) H := by rw [hH]; exact hP
  have hS : va_S A st.heap H locs := by rw [hH, hlo]; exact hS
  suffices go : W pr l en (headSpec wsX3_digest ({ frames := 7, cells := 0, slots := 0, locals := 168 } : Room)).room st md ar bl mt co H locs 0 0 (MQ bl (wrQ D (townW K a T ++ (waysW K b len qu n ++ (textW K t cs ln ++ (mainW K a b t c g sn ++ svW K g Sv X)))) (townW K a T ++ (waysW K b ((wyD T 4 (len, qu, n)).1) ((wyD T 4 (len, qu, n)).2.1) ((wyD T 4 (len, qu, n)).2.2) ++ (textW K t cs ln ++ (mainW K a b t c g sn ++ svW K g Sv X)))) sz (some (.long (dgT T sn cs ln)))) ar st 0 0 A) (F0 md 0 ls []) by rw [hH, hlo] at go; exact go
  clear hH hlo
  have C241 : (Cond.constantLong RX3 241 (2909)).before ar st = true := hts _ (List.mem_of_getElem? (i := 1) rfl)
  have C243 : (Cond.constantLong RX3 243 (31)).before ar st = true := hts _ (List.mem_of_getElem? (i := 2) rfl)
  have F12 : (Cond.fieldLink RX3 12 "TramTolls" "town" "LTramTolls$Town;").before ar st = true := hts _ (List.mem_of_getElem? (i := 3) rfl)
  have inX3 : ∀ w ∈ u_ws RX3 TX3 5, w ∈ wsX3_digest := fun w h => List.mem_cons_of_mem _ (List.mem_append_left _ (List.mem_append_left _ (List.mem_append_left _ (List.mem_append_right _ h))))
  have F23 : (Cond.fieldLink RX3 23 "TramTolls" "text" "LTramTolls$Text;").before ar st = true := hts _ (List.mem_of_getElem? (i := 5) rfl)
  have F165 : (Cond.fieldLink RX3 165 "TramTolls$Text" "length" "I").before ar st = true := hts _ (List.mem_of_getElem? (i := 6) rfl)
  have inX0 : ∀ w ∈ u_ws RX0 TX0 2, w ∈ wsX3_digest := fun w h => List.mem_cons_of_mem _ (List.mem_append_left _ (List.mem_append_right _ h))
  have F253 : (Cond.fieldLink RX3 253 "TramTolls$Text" "codes" "[I").before ar st = true := hts _ (List.mem_of_getElem? (i := 7) rfl)
  have F160 : (Cond.fieldLink RX3 160 "TramTolls$Town" "settings" "[I").before ar st = true := hts _ (List.mem_of_getElem? (i := 4) rfl)
  have inX1 : ∀ w ∈ u_ws RX1 TX1 12, w ∈ wsX3_digest := fun w h => List.mem_cons_of_mem _ (List.mem_append_left _ (List.mem_append_left _ (List.mem_append_right _ h)))
  refine lv_ldc2 (v := 2909) hx hb hown C241 dX3_digest_0 ?_
  refine lv_lstore_n (lv' := [(1, .long 2909), (0, .ref (c 0))]) hx hb dX3_digest_3 rfl hl (by decide) rfl (fun ls hl => ?_)
  refine lv_iconst (v := nI 0) hx hb dX3_digest_4 (by decide) ?_
  refine lv_istore_n (lv' := [(3, .int (nI 0)), (1, .long 2909), (0, .ref (c 0))]) hx hb dX3_digest_5 rfl hl (by decide) rfl (fun ls hl => ?_)
  have loop_1 : ∀ (n_6 : Nat) (i : Nat), (i ≤ 8) → (8 - i) < n_6 → ∀ (H : Heap) (locs : List Loc), va_P D vwCl (townW K a T ++ (waysW K b len qu n ++ (textW K t cs ln ++ (mainW K a b t c g sn ++ svW K g Sv X)))) H → va_D A (townW K a T ++ (waysW K b len qu n ++ (textW K t cs ln ++ (mainW K a b t c g sn ++ svW K g Sv X)))) → va_S A st.heap H locs →  ∀ x_1 : Int64, x_1 = mxN (nbrT T sn) i 2909 → ∀ x_3 : Int32, x_3 = nI i → ∀ ls : Array Slot, lv_has ls 5 [(0, .ref (c 0)), (1, .long x_1), (3, .int x_3)] → W pr l en (headSpec wsX3_digest ({ frames := 7, cells := 0, slots := 0, locals := 168 } : Room)).room st md ar bl mt co H locs 0 0 (MQ bl (wrQ D (townW K a T ++ (waysW K b len qu n ++ (textW K t cs ln ++ (mainW K a b t c g sn ++ svW K g Sv X)))) (townW K a T ++ (waysW K b ((wyD T 4 (len, qu, n)).1) ((wyD T 4 (len, qu, n)).2.1) ((wyD T 4 (len, qu, n)).2.2) ++ (textW K t cs ln ++ (mainW K a b t c g sn ++ svW K g Sv X)))) sz (some (.long (dgT T sn cs ln)))) ar st 0 0 A) (F0 md 6 ls []) := by
    intro n_6
    induction n_6 with
    | zero => intro i _ hn_6; exact absurd hn_6 (Nat.not_lt_zero _)
    | succ n_6 ih_6 =>
      intro i hi hn_6 H locs hP hD hS x_1 ex_1 x_3 ex_3 ls hl
      subst ex_1
      subst ex_3
      have hl : lv_has ls 5 [(0, .ref (c 0)), (1, .long (mxN (nbrT T sn) i 2909)), (3, .int (nI i))] := hl
      refine lv_iload_n hx hb dX3_digest_6 rfl (lv_at hl 2 rfl) ?_
      refine lv_bipush (v := nI 7) hx hb dX3_digest_7 (by decide) ?_
      refine nv_icmp_gt (x := i) (y := 7) (tgt := 31) hx hb dX3_digest_9 (by decide) (by omega) (by decide) (fun c_2 => ?_) (fun c_2 => ?_)
      · have n_c_2 := Nat.not_le.mpr c_2
        have e9c_2 : i = 8 := by omega
        subst e9c_2
        refine lv_iconst (v := nI 0) hx hb dX3_digest_31 (by decide) ?_
        refine lv_istore_n (lv' := [(3, .int (nI 0)), (0, .ref (c 0)), (1, .long (mxN (nbrT T sn) 8 2909))]) hx hb dX3_digest_32 rfl hl (by decide) rfl (fun ls hl => ?_)
        have loop_3 : ∀ (n_33 : Nat) (i : Nat), (i ≤ 3) → (3 - i) < n_33 → ∀ (H : Heap) (locs : List Loc), va_P D vwCl (townW K a T ++ (waysW K b len qu n ++ (textW K t cs ln ++ (mainW K a b t c g sn ++ svW K g Sv X)))) H → va_D A (townW K a T ++ (waysW K b len qu n ++ (textW K t cs ln ++ (mainW K a b t c g sn ++ svW K g Sv X)))) → va_S A st.heap H locs →  ∀ x_1 : Int64, x_1 = mxN (fun k => nI (stT T k)) i (dg1 T sn) → ∀ x_3 : Int32, x_3 = nI i → ∀ ls : Array Slot, lv_has ls 5 [(0, .ref (c 0)), (1, .long x_1), (3, .int x_3)] → W pr l en (headSpec wsX3_digest ({ frames := 7, cells := 0, slots := 0, locals := 168 } : Room)).room st md ar bl mt co H locs 0 0 (MQ bl (wrQ D (townW K a T ++ (waysW K b len qu n ++ (textW K t cs ln ++ (mainW K a b t c g sn ++ svW K g Sv X)))) (townW K a T ++ (waysW K b ((wyD T 4 (len, qu, n)).1) ((wyD T 4 (len, qu, n)).2.1) ((wyD T 4 (len, qu, n)).2.2) ++ (textW K t cs ln ++ (mainW K a b t c g sn ++ svW K g Sv X)))) sz (some (.long (dgT T sn cs ln)))) ar st 0 0 A) (F0 md 33 ls []) := by
          intro n_33
          induction n_33 with
          | zero => intro i _ hn_33; exact absurd hn_33 (Nat.not_lt_zero _)
          | succ n_33 ih_33 =>
            intro i hi hn_33 H locs hP hD hS x_1 ex_1 x_3 ex_3 ls hl
            subst ex_1
            subst ex_3
            have hl : lv_has ls 5 [(0, .ref (c 0)), (1, .long (mxN (fun k => nI (stT T k)) i (dg1 T sn))), (3, .int (nI i))] := hl
            refine lv_iload_n hx hb dX3_digest_33 rfl (lv_at hl 2 rfl) ?_
            refine lv_iconst (v := nI 3) hx hb dX3_digest_34 (by decide) ?_
            refine nv_icmp_ge (x := i) (y := 3) (tgt := 63) hx hb dX3_digest_35 (by decide) (by omega) (by decide) (fun c_4 => ?_) (fun c_4 => ?_)
            · have n_c_4 := Nat.not_lt.mpr c_4
              have e9c_4 : i = 3 := by omega
              subst e9c_4
              refine lv_iconst (v := nI 0) hx hb dX3_digest_63 (by decide) ?_
              refine lv_istore_n (lv' := [(3, .int (nI 0)), (0, .ref (c 0)), (1, .long (mxN (fun k => nI (stT T k)) 3 (dg1 T sn)))]) hx hb dX3_digest_64 rfl hl (by decide) rfl (fun ls hl => ?_)
              have loop_5 : ∀ (n_65 : Nat) (i : Nat), (i ≤ 80) → (80 - i) < n_65 → ∀ (H : Heap) (locs : List Loc), va_P D vwCl (townW K a T ++ (waysW K b len qu n ++ (textW K t cs ln ++ (mainW K a b t c g sn ++ svW K g Sv X)))) H → va_D A (townW K a T ++ (waysW K b len qu n ++ (textW K t cs ln ++ (mainW K a b t c g sn ++ svW K g Sv X)))) → va_S A st.heap H locs →  ∀ x_1 : Int64, x_1 = itN (fun s h => mxN (psT T s) 4 h) i (dg2 T sn) → ∀ x_3 : Int32, x_3 = nI i → ∀ ls : Array Slot, lv_has ls 5 [(0, .ref (c 0)), (1, .long x_1), (3, .int x_3)] → W pr l en (headSpec wsX3_digest ({ frames := 7, cells := 0, slots := 0, locals := 168 } : Room)).room st md ar bl mt co H locs 0 0 (MQ bl (wrQ D (townW K a T ++ (waysW K b len qu n ++ (textW K t cs ln ++ (mainW K a b t c g sn ++ svW K g Sv X)))) (townW K a T ++ (waysW K b ((wyD T 4 (len, qu, n)).1) ((wyD T 4 (len, qu, n)).2.1) ((wyD T 4 (len, qu, n)).2.2) ++ (textW K t cs ln ++ (mainW K a b t c g sn ++ svW K g Sv X)))) sz (some (.long (dgT T sn cs ln)))) ar st 0 0 A) (F0 md 65 ls []) := by
                intro n_65
                induction n_65 with
                | zero => intro i _ hn_65; exact absurd hn_65 (Nat.not_lt_zero _)
                | succ n_65 ih_65 =>
                  intro i hi hn_65 H locs hP hD hS x_1 ex_1 x_3 ex_3 ls hl
                  subst ex_1
                  subst ex_3
                  have hl : lv_has ls 5 [(0, .ref (c 0)), (1, .long (itN (fun s h => mxN (psT T s) 4 h) i (dg2 T sn))), (3, .int (nI i))] := hl
                  refine lv_iload_n hx hb dX3_digest_65 rfl (lv_at hl 2 rfl) ?_
                  refine lv_bipush (v := nI 80) hx hb dX3_digest_66 (by decide) ?_
                  refine nv_icmp_ge (x := i) (y := 80) (tgt := 107) hx hb dX3_digest_68 (by decide) (by omega) (by decide) (fun c_6 => ?_) (fun c_6 => ?_)
                  · have n_c_6 := Nat.not_lt.mpr c_6
                    have e9c_6 : i = 80 := by omega
                    subst e9c_6
                    refine lv_iconst (v := nI 0) hx hb dX3_digest_107 (by decide) ?_
                    refine lv_istore_n (lv' := [(3, .int (nI 0)), (0, .ref (c 0)), (1, .long (itN (fun s h => mxN (psT T s) 4 h) 80 (dg2 T sn)))]) hx hb dX3_digest_108 rfl hl (by decide) rfl (fun ls hl => ?_)
                    have loop_7 : ∀ (n_109 : Nat) (i : Nat), (i ≤ 12) → (12 - i) < n_109 → ∀ (H : Heap) (locs : List Loc), va_P D vwCl (townW K a T ++ (waysW K b len qu n ++ (textW K t cs ln ++ (mainW K a b t c g sn ++ svW K g Sv X)))) H → va_D A (townW K a T ++ (waysW K b len qu n ++ (textW K t cs ln ++ (mainW K a b t c g sn ++ svW K g Sv X)))) → va_S A st.heap H locs →  ∀ x_1 : Int64, x_1 = itN (fun t h => mxN (ptT T t) 3 h) i (dg3 T sn) → ∀ x_3 : Int32, x_3 = nI i → ∀ ls : Array Slot, lv_has ls 5 [(0, .ref (c 0)), (1, .long x_1), (3, .int x_3)] → W pr l en (headSpec wsX3_digest ({ frames := 7, cells := 0, slots := 0, locals := 168 } : Room)).room st md ar bl mt co H locs 0 0 (MQ bl (wrQ D (townW K a T ++ (waysW K b len qu n ++ (textW K t cs ln ++ (mainW K a b t c g sn ++ svW K g Sv X)))) (townW K a T ++ (waysW K b ((wyD T 4 (len, qu, n)).1) ((wyD T 4 (len, qu, n)).2.1) ((wyD T 4 (len, qu, n)).2.2) ++ (textW K t cs ln ++ (mainW K a b t c g sn ++ svW K g Sv X)))) sz (some (.long (dgT T sn cs ln)))) ar st 0 0 A) (F0 md 109 ls []) := by
                      intro n_109
                      induction n_109 with
                      | zero => intro i _ hn_109; exact absurd hn_109 (Nat.not_lt_zero _)
                      | succ n_109 ih_109 =>
                        intro i hi hn_109 H locs hP hD hS x_1 ex_1 x_3 ex_3 ls hl
                        subst ex_1
                        subst ex_3
                        have hl : lv_has ls 5 [(0, .ref (c 0)), (1, .long (itN (fun t h => mxN (ptT T t) 3 h) i (dg3 T sn))), (3, .int (nI i))] := hl
                        refine lv_iload_n hx hb dX3_digest_109 rfl (lv_at hl 2 rfl) ?_
                        refine lv_bipush (v := nI 12) hx hb dX3_digest_110 (by decide) ?_
                        refine nv_icmp_ge (x := i) (y := 12) (tgt := 151) hx hb dX3_digest_112 (by decide) (by omega) (by decide) (fun c_8 => ?_) (fun c_8 => ?_)
                        · have n_c_8 := Nat.not_lt.mpr c_8
                          have e9c_8 : i = 12 := by omega
                          subst e9c_8
                          refine lv_iconst (v := nI 0) hx hb dX3_digest_151 (by decide) ?_
                          refine lv_istore_n (lv' := [(3, .int (nI 0)), (0, .ref (c 0)), (1, .long (itN (fun t h => mxN (ptT T t) 3 h) 12 (dg3 T sn)))]) hx hb dX3_digest_152 rfl hl (by decide) rfl (fun ls hl => ?_)
                          have loop_9 : ∀ (n_153 : Nat) (i : Nat), (i ≤ 4) → (4 - i) < n_153 → ∀ (H : Heap) (locs : List Loc), va_P D vwCl (townW K a T ++ (waysW K b ((wyD T i (len, qu, n)).1) ((wyD T i (len, qu, n)).2.1) ((wyD T i (len, qu, n)).2.2) ++ (textW K t cs ln ++ (mainW K a b t c g sn ++ svW K g Sv X)))) H → va_D A (townW K a T ++ (waysW K b ((wyD T i (len, qu, n)).1) ((wyD T i (len, qu, n)).2.1) ((wyD T i (len, qu, n)).2.2) ++ (textW K t cs ln ++ (mainW K a b t c g sn ++ svW K g Sv X)))) → va_S A st.heap H locs →  ∀ x_1 : Int64, x_1 = itN (fun p h => dgP T p h) i (dg4 T sn) → ∀ x_3 : Int32, x_3 = nI i → ∀ ls : Array Slot, lv_has ls 5 [(0, .ref (c 0)), (1, .long x_1), (3, .int x_3)] → W pr l en (headSpec wsX3_digest ({ frames := 7, cells := 0, slots := 0, locals := 168 } : Room)).room st md ar bl mt co H locs 0 0 (MQ bl (wrQ D (townW K a T ++ (waysW K b len qu n ++ (textW K t cs ln ++ (mainW K a b t c g sn ++ svW K g Sv X)))) (townW K a T ++ (waysW K b ((wyD T 4 (len, qu, n)).1) ((wyD T 4 (len, qu, n)).2.1) ((wyD T 4 (len, qu, n)).2.2) ++ (textW K t cs ln ++ (mainW K a b t c g sn ++ svW K g Sv X)))) sz (some (.long (dgT T sn cs ln)))) ar st 0 0 A) (F0 md 153 ls []) := by
                            intro n_153
                            induction n_153 with
                            | zero => intro i _ hn_153; exact absurd hn_153 (Nat.not_lt_zero _)
                            | succ n_153 ih_153 =>
                              intro i hi hn_153 H locs hP hD hS x_1 ex_1 x_3 ex_3 ls hl
                              subst ex_1
                              subst ex_3
                              have hl : lv_has ls 5 [(0, .ref (c 0)), (1, .long (itN (fun p h => dgP T p h) i (dg4 T sn))), (3, .int (nI i))] := hl
                              refine lv_iload_n hx hb dX3_digest_153 rfl (lv_at hl 2 rfl) ?_
                              refine lv_iconst (v := nI 4) hx hb dX3_digest_154 (by decide) ?_
                              refine nv_icmp_ge (x := i) (y := 4) (tgt := 171) hx hb dX3_digest_155 (by decide) (by omega) (by decide) (fun c_10 => ?_) (fun c_10 => ?_)
                              · have n_c_10 := Nat.not_lt.mpr c_10
                                have e9c_10 : i = 4 := by omega
                                subst e9c_10
                                refine lv_ldc2 (v := 31) hx hb hown C243 dX3_digest_171 ?_
                                refine lv_lload_n hx hb dX3_digest_174 rfl (lv_at hl 1 rfl) ?_
                                refine lv_lmul (x := 31) (y := itN (fun p h => dgP T p h) 4 (dg4 T sn)) hx hb dX3_digest_175 ?_
                                refine lv_aload_n hx hb dX3_digest_176 rfl (lv_at hl 0 rfl) ?_
                                refine va_get (D := D) (ci := 3) (v := .ref (a 0)) (C := RX3) (T := TX3) (N := 5) hx hb hts inX3 hown hE.1 hP 17 rfl rfl 0 (by decide) F12 (fun _ h9 => h9) rfl dX3_digest_177 ?_
                                refine rd_V (rest := [.long (31 * (itN (fun p h => dgP T p h) 4 (dg4 T sn)))]) (ci := 1) (q0 := 0) ⟨hx, hb, hml, hown, hts⟩ hP hE (c_X1_leader l D K _ _ _  hI ) (cwV 0 hts gX3_digest_X1_leader rfl rfl rfl hd_X1_leader ⟨Nat.le_of_ble_eq_true rfl, Nat.le_of_ble_eq_true rfl⟩) rfl rfl rfl rfl hl.1 rfl (Nat.le_of_ble_eq_true rfl) dX3_digest_180 ⟨Nat.le_of_ble_eq_true rfl, Nat.le_of_ble_eq_true rfl⟩ ?_
                                have hb_11 := ld_lt T 4 (by decide)
                                refine lv_i2l (v := (nI (ldT T 4)).toInt64) hx hb dX3_digest_183 rfl ?_
                                refine lv_ladd (x := 31 * (itN (fun p h => dgP T p h) 4 (dg4 T sn))) (y := (nI (ldT T 4)).toInt64) hx hb dX3_digest_184 ?_
                                refine lv_lstore_n (lv' := [(1, .long ((31 * (itN (fun p h => dgP T p h) 4 (dg4 T sn))) + ((nI (ldT T 4)).toInt64))), (0, .ref (c 0)), (3, .int (nI 4))]) hx hb dX3_digest_185 rfl hl (by decide) rfl (fun ls hl => ?_)
                                refine lv_ldc2 (v := 31) hx hb hown C243 dX3_digest_186 ?_
                                refine lv_lload_n hx hb dX3_digest_189 rfl (lv_at hl 0 rfl) ?_
                                refine lv_lmul (x := 31) (y := (31 * (itN (fun p h => dgP T p h) 4 (dg4 T sn))) + ((nI (ldT T 4)).toInt64)) hx hb dX3_digest_190 ?_
                                refine lv_aload_n hx hb dX3_digest_191 rfl (lv_at hl 1 rfl) ?_
                                refine va_get (D := D) (ci := 3) (v := .ref (a 0)) (C := RX3) (T := TX3) (N := 5) hx hb hts inX3 hown hE.1 hP 17 rfl rfl 0 (by decide) F12 (fun _ h9 => h9) rfl dX3_digest_192 ?_
                                refine rd_V (rest := [.long (31 * ((31 * (itN (fun p h => dgP T p h) 4 (dg4 T sn))) + ((nI (ldT T 4)).toInt64)))]) (ci := 1) (q0 := 0) ⟨hx, hb, hml, hown, hts⟩ hP hE (c_X1_share l D K _ _ _ hI) (cwV 0 hts gX3_digest_X1_share rfl rfl rfl hd_X1_share ⟨Nat.le_of_ble_eq_true rfl, Nat.le_of_ble_eq_true rfl⟩) rfl rfl rfl rfl hl.1 rfl (Nat.le_of_ble_eq_true rfl) dX3_digest_195 ⟨Nat.le_of_ble_eq_true rfl, Nat.le_of_ble_eq_true rfl⟩ ?_
                                refine rd_S (rest := [.long (31 * ((31 * (itN (fun p h => dgP T p h) 4 (dg4 T sn))) + ((nI (ldT T 4)).toInt64)))]) ⟨hx, hb, hml, hown, hts⟩ hP hE (c_X3_bitsOfShare l D K _ (swT T 2) (swT T 1) (sw_pos hI) (sw_le T 1) (sw_21 T)) (va_cwS 1 hts gX3_digest_X3_bitsOfShare rfl rfl rfl hn_X3_bitsOfShare ⟨Nat.le_of_ble_eq_true rfl, Nat.le_of_ble_eq_true rfl⟩) rfl hl.1 rfl (Nat.le_of_ble_eq_true rfl) dX3_digest_198 ⟨Nat.le_of_ble_eq_true rfl, Nat.le_of_ble_eq_true rfl⟩ ?_
                                refine lv_ladd (x := 31 * ((31 * (itN (fun p h => dgP T p h) 4 (dg4 T sn))) + ((nI (ldT T 4)).toInt64))) (y := shB (swT T 2) (swT T 1)) hx hb dX3_digest_201 ?_
                                refine lv_lstore_n (lv' := [(1, .long ((31 * ((31 * (itN (fun p h => dgP T p h) 4 (dg4 T sn))) + ((nI (ldT T 4)).toInt64))) + (shB (swT T 2) (swT T 1)))), (0, .ref (c 0)), (3, .int (nI 4))]) hx hb dX3_digest_202 rfl hl (by decide) rfl (fun ls hl => ?_)
                                refine lv_ldc2 (v := 31) hx hb hown C243 dX3_digest_203 ?_
                                refine lv_lload_n hx hb dX3_digest_206 rfl (lv_at hl 0 rfl) ?_
                                refine lv_lmul (x := 31) (y := (31 * ((31 * (itN (fun p h => dgP T p h) 4 (dg4 T sn))) + ((nI (ldT T 4)).toInt64))) + (shB (swT T 2) (swT T 1))) hx hb dX3_digest_207 ?_
                                refine lv_aload_n hx hb dX3_digest_208 rfl (lv_at hl 1 rfl) ?_
                                refine va_get (D := D) (ci := 3) (v := .ref (t 0)) (C := RX3) (T := TX3) (N := 5) hx hb hts inX3 hown hE.1 hP 17 rfl rfl 3 (by decide) F23 (fun _ h9 => h9) rfl dX3_digest_209 ?_
                                refine va_get (D := D) (ci := 0) (v := .int (nI ln)) (C := RX0) (T := TX0) (N := 2) hx hb hts inX0 hown hE.1 hP 15 rfl rfl 1 (by decide) F165 (fun _ h9 => h9) rfl dX3_digest_212 ?_
                                refine lv_i2l (v := (nI ln).toInt64) hx hb dX3_digest_215 rfl ?_
                                refine lv_ladd (x := 31 * ((31 * ((31 * (itN (fun p h => dgP T p h) 4 (dg4 T sn))) + ((nI (ldT T 4)).toInt64))) + (shB (swT T 2) (swT T 1)))) (y := (nI ln).toInt64) hx hb dX3_digest_216 ?_
                                refine lv_lstore_n (lv' := [(1, .long ((31 * ((31 * ((31 * (itN (fun p h => dgP T p h) 4 (dg4 T sn))) + ((nI (ldT T 4)).toInt64))) + (shB (swT T 2) (swT T 1)))) + ((nI ln).toInt64))), (0, .ref (c 0)), (3, .int (nI 4))]) hx hb dX3_digest_217 rfl hl (by decide) rfl (fun ls hl => ?_)
                                refine lv_iconst (v := nI 0) hx hb dX3_digest_218 (by decide) ?_
                                refine lv_istore_n (lv' := [(3, .int (nI 0)), (1, .long ((31 * ((31 * ((31 * (itN (fun p h => dgP T p h) 4 (dg4 T sn))) + ((nI (ldT T 4)).toInt64))) + (shB (swT T 2) (swT T 1)))) + ((nI ln).toInt64))), (0, .ref (c 0))]) hx hb dX3_digest_219 rfl hl (by decide) rfl (fun ls hl => ?_)
                                have loop_12 : ∀ (n_220 : Nat) (i : Nat), (i ≤ ln) → (ln - i) < n_220 → ∀ (H : Heap) (locs : List Loc), va_P D vwCl (townW K a T ++ (waysW K b ((wyD T 4 (len, qu, n)).1) ((wyD T 4 (len, qu, n)).2.1) ((wyD T 4 (len, qu, n)).2.2) ++ (textW K t cs ln ++ (mainW K a b t c g sn ++ svW K g Sv X)))) H → va_D A (townW K a T ++ (waysW K b ((wyD T 4 (len, qu, n)).1) ((wyD T 4 (len, qu, n)).2.1) ((wyD T 4 (len, qu, n)).2.2) ++ (textW K t cs ln ++ (mainW K a b t c g sn ++ svW K g Sv X)))) → va_S A st.heap H locs →  ∀ x_1 : Int64, x_1 = mxN (fun i => nI (cs i)) i (dg8 T sn ln) → ∀ x_3 : Int32, x_3 = nI i → ∀ ls : Array Slot, lv_has ls 5 [(0, .ref (c 0)), (1, .long x_1), (3, .int x_3)] → W pr l en (headSpec wsX3_digest ({ frames := 7, cells := 0, slots := 0, locals := 168 } : Room)).room st md ar bl mt co H locs 0 0 (MQ bl (wrQ D (townW K a T ++ (waysW K b len qu n ++ (textW K t cs ln ++ (mainW K a b t c g sn ++ svW K g Sv X)))) (townW K a T ++ (waysW K b ((wyD T 4 (len, qu, n)).1) ((wyD T 4 (len, qu, n)).2.1) ((wyD T 4 (len, qu, n)).2.2) ++ (textW K t cs ln ++ (mainW K a b t c g sn ++ svW K g Sv X)))) sz (some (.long (dgT T sn cs ln)))) ar st 0 0 A) (F0 md 220 ls []) := by
                                  intro n_220
                                  induction n_220 with
                                  | zero => intro i _ hn_220; exact absurd hn_220 (Nat.not_lt_zero _)
                                  | succ n_220 ih_220 =>
                                    intro i hi hn_220 H locs hP hD hS x_1 ex_1 x_3 ex_3 ls hl
                                    subst ex_1
                                    subst ex_3
                                    have hl : lv_has ls 5 [(0, .ref (c 0)), (1, .long (mxN (fun i => nI (cs i)) i (dg8 T sn ln))), (3, .int (nI i))] := hl
                                    refine lv_iload_n hx hb dX3_digest_220 rfl (lv_at hl 2 rfl) ?_
                                    refine lv_aload_n hx hb dX3_digest_221 rfl (lv_at hl 0 rfl) ?_
                                    refine va_get (D := D) (ci := 3) (v := .ref (t 0)) (C := RX3) (T := TX3) (N := 5) hx hb hts inX3 hown hE.1 hP 17 rfl rfl 3 (by decide) F23 (fun _ h9 => h9) rfl dX3_digest_222 ?_
                                    refine va_get (D := D) (ci := 0) (v := .int (nI ln)) (C := RX0) (T := TX0) (N := 2) hx hb hts inX0 hown hE.1 hP 15 rfl rfl 1 (by decide) F165 (fun _ h9 => h9) rfl dX3_digest_225 ?_
                                    refine nv_icmp_ge (x := i) (y := ln) (tgt := 256) hx hb dX3_digest_228 (by decide) (by omega) (by omega) (fun c_13 => ?_) (fun c_13 => ?_)
                                    · have n_c_13 := Nat.not_lt.mpr c_13
                                      refine lv_lload_n hx hb dX3_digest_256 rfl (lv_at hl 1 rfl) ?_
                                      exact wr_lret hAe hP hD hS hx hb hr hk dX3_digest_257 ⟨Nat.le_of_ble_eq_true rfl, Nat.le_of_ble_eq_true rfl⟩ (by rw [show i = ln from by omega, dgT_eq])
                                    · have n_c_13 := Nat.not_le.mpr c_13
                                      refine lv_ldc2 (v := 31) hx hb hown C243 dX3_digest_231 ?_
                                      refine lv_lload_n hx hb dX3_digest_234 rfl (lv_at hl 1 rfl) ?_
                                      refine lv_lmul (x := 31) (y := mxN (fun i => nI (cs i)) i (dg8 T sn ln)) hx hb dX3_digest_235 ?_
                                      refine lv_aload_n hx hb dX3_digest_236 rfl (lv_at hl 0 rfl) ?_
                                      refine va_get (D := D) (ci := 3) (v := .ref (t 0)) (C := RX3) (T := TX3) (N := 5) hx hb hts inX3 hown hE.1 hP 17 rfl rfl 3 (by decide) F23 (fun _ h9 => h9) rfl dX3_digest_237 ?_
                                      refine va_get (D := D) (ci := 0) (v := .ref (t 1)) (C := RX0) (T := TX0) (N := 2) hx hb hts inX0 hown hE.1 hP 15 rfl rfl 0 (by decide) F253 (fun _ h9 => h9) rfl dX3_digest_240 ?_
                                      refine lv_iload_n hx hb dX3_digest_243 rfl (lv_at hl 2 rfl) ?_
                                      refine rd_S (rest := [.long (31 * (mxN (fun i => nI (cs i)) i (dg8 T sn ln)))]) ⟨hx, hb, hml, hown, hts⟩ hP hE (c_X3_at l D K _ 16 _ 60 _ i rfl (by omega) (by omega)) (va_cwS 2 hts gX3_digest_X3_at rfl rfl rfl hn_X3_at ⟨Nat.le_of_ble_eq_true rfl, Nat.le_of_ble_eq_true rfl⟩) rfl hl.1 rfl (Nat.le_of_ble_eq_true rfl) dX3_digest_244 ⟨Nat.le_of_ble_eq_true rfl, Nat.le_of_ble_eq_true rfl⟩ ?_
                                      refine top_i (y := nI (cs i)) (rfl) ?_
                                      have hb_14 := hCB.2 i (by omega)
                                      refine lv_i2l (v := (nI (cs i)).toInt64) hx hb dX3_digest_247 rfl ?_
                                      refine lv_ladd (x := 31 * (mxN (fun i => nI (cs i)) i (dg8 T sn ln))) (y := (nI (cs i)).toInt64) hx hb dX3_digest_248 ?_
                                      refine lv_lstore_n (lv' := [(1, .long ((31 * (mxN (fun i => nI (cs i)) i (dg8 T sn ln))) + ((nI (cs i)).toInt64))), (0, .ref (c 0)), (3, .int (nI i))]) hx hb dX3_digest_249 rfl hl (by decide) rfl (fun ls hl => ?_)
                                      refine lv_iinc (v := nI (i + 1)) (lv' := [(3, .int (nI (i + 1))), (1, .long ((31 * (mxN (fun i => nI (cs i)) i (dg8 T sn ln))) + ((nI (cs i)).toInt64))), (0, .ref (c 0))]) hx hb dX3_digest_250 hl (k := 2) rfl (nI_add _ 1) (by decide) rfl (fun ls hl => ?_)
                                      refine lv_goto (tgt := 220) hx hb dX3_digest_253 (by decide) ?_
                                      exact ih_220 (i + 1) (by omega) (by omega) _ _ hP hD hS _ ((mxN_succ (fun i => nI (cs i)) i (dg8 T sn ln)).symm) _ rfl ls (lv_sub hl [2, 1, 0] rfl)
                                exact loop_12 _ 0 (Nat.zero_le _) (Nat.lt_succ_self _) _ _ hP hD hS _ (by rw [mxN_zero, dg8_eq, dg5_eq]) _ rfl ls (lv_sub hl [2, 1, 0] rfl)
                              · have n_c_10 := Nat.not_le.mpr c_10
                                refine lv_aload_n hx hb dX3_digest_158 rfl (lv_at hl 0 rfl) ?_
                                refine lv_lload_n hx hb dX3_digest_159 rfl (lv_at hl 1 rfl) ?_
                                refine lv_iload_n hx hb dX3_digest_160 rfl (lv_at hl 2 rfl) ?_
                                refine wr_V (rest := []) (ci := 3) (q0 := 17) ⟨hx, hb, hml, hown, hts⟩ hP hE hA hD hS (c_X3_digestPlayer l D K _ _ _ _ _ _ _ _ _ _ _ _ _ sn _ (itN (fun p h => dgP T p h) i (dg4 T sn)) i hI hK (by omega)) (cwV 2 hts gX3_digest_X3_digestPlayer rfl rfl rfl hd_X3_digestPlayer ⟨Nat.le_of_ble_eq_true rfl, Nat.le_of_ble_eq_true rfl⟩) rfl rfl rfl rfl hl.1 rfl (Nat.le_of_ble_eq_true rfl) dX3_digest_161 ⟨Nat.le_of_ble_eq_true rfl, Nat.le_of_ble_eq_true rfl⟩ (fun H locs hP hD hS => ?_)
                                have hP : va_P D vwCl (townW K a T ++ (waysW K b ((wyP T i ((wyD T i (len, qu, n)).1, (wyD T i (len, qu, n)).2.1, (wyD T i (len, qu, n)).2.2)).1) ((wyP T i ((wyD T i (len, qu, n)).1, (wyD T i (len, qu, n)).2.1, (wyD T i (len, qu, n)).2.2)).2.1) ((wyP T i ((wyD T i (len, qu, n)).1, (wyD T i (len, qu, n)).2.1, (wyD T i (len, qu, n)).2.2)).2.2) ++ (textW K t cs ln ++ (mainW K a b t c g sn ++ svW K g Sv X)))) H := hP
                                have hD : va_D A (townW K a T ++ (waysW K b ((wyP T i ((wyD T i (len, qu, n)).1, (wyD T i (len, qu, n)).2.1, (wyD T i (len, qu, n)).2.2)).1) ((wyP T i ((wyD T i (len, qu, n)).1, (wyD T i (len, qu, n)).2.1, (wyD T i (len, qu, n)).2.2)).2.1) ((wyP T i ((wyD T i (len, qu, n)).1, (wyD T i (len, qu, n)).2.1, (wyD T i (len, qu, n)).2.2)).2.2) ++ (textW K t cs ln ++ (mainW K a b t c g sn ++ svW K g Sv X)))) := hD
                                refine lv_lstore_n (lv' := [(1, .long (dgP T i (itN (fun p h => dgP T p h) i (dg4 T sn)))), (0, .ref (c 0)), (3, .int (nI i))]) hx hb dX3_digest_164 rfl hl (by decide) rfl (fun ls hl => ?_)
                                refine lv_iinc (v := nI (i + 1)) (lv' := [(3, .int (nI (i + 1))), (1, .long (dgP T i (itN (fun p h => dgP T p h) i (dg4 T sn)))), (0, .ref (c 0))]) hx hb dX3_digest_165 hl (k := 2) rfl (nI_add _ 1) (by decide) rfl (fun ls hl => ?_)
                                refine lv_goto (tgt := 153) hx hb dX3_digest_168 (by decide) ?_
                                have hP : va_P D vwCl (townW K a T ++ (waysW K b ((wyD T (i + 1) (len, qu, n)).1) ((wyD T (i + 1) (len, qu, n)).2.1) ((wyD T (i + 1) (len, qu, n)).2.2) ++ (textW K t cs ln ++ (mainW K a b t c g sn ++ svW K g Sv X)))) H := by rw [wyD_succ]; exact hP
                                have hD : va_D A (townW K a T ++ (waysW K b ((wyD T (i + 1) (len, qu, n)).1) ((wyD T (i + 1) (len, qu, n)).2.1) ((wyD T (i + 1) (len, qu, n)).2.2) ++ (textW K t cs ln ++ (mainW K a b t c g sn ++ svW K g Sv X)))) := by rw [wyD_succ]; exact hD
                                exact ih_153 (i + 1) (by omega) (by omega) _ _ hP hD hS _ ((itN_succ (fun p h => dgP T p h) i (dg4 T sn)).symm) _ rfl ls (lv_sub hl [2, 1, 0] rfl)
                          have hP : va_P D vwCl (townW K a T ++ (waysW K b ((wyD T 0 (len, qu, n)).1) ((wyD T 0 (len, qu, n)).2.1) ((wyD T 0 (len, qu, n)).2.2) ++ (textW K t cs ln ++ (mainW K a b t c g sn ++ svW K g Sv X)))) H := by rw [wyD_zero]; exact hP
                          have hD : va_D A (townW K a T ++ (waysW K b ((wyD T 0 (len, qu, n)).1) ((wyD T 0 (len, qu, n)).2.1) ((wyD T 0 (len, qu, n)).2.2) ++ (textW K t cs ln ++ (mainW K a b t c g sn ++ svW K g Sv X)))) := by rw [wyD_zero]; exact hD
                          exact loop_9 _ 0 (Nat.zero_le _) (Nat.lt_succ_self _) _ _ hP hD hS _ ((dg4_eq T sn).symm.trans (itN_zero (fun p h => dgP T p h) (dg4 T sn)).symm) _ rfl ls (lv_sub hl [1, 2, 0] rfl)
                        · have n_c_8 := Nat.not_le.mpr c_8
                          refine lv_iconst (v := nI 0) hx hb dX3_digest_115 (by decide) ?_
                          refine lv_istore (lv' := [(4, .int (nI 0)), (0, .ref (c 0)), (1, .long (itN (fun t h => mxN (ptT T t) 3 h) i (dg3 T sn))), (3, .int (nI i))]) hx hb dX3_digest_116 hl (by decide) rfl (fun ls hl => ?_)
                          have loop_15 : ∀ (n_118 : Nat) (j : Nat), (j ≤ 3) → (3 - j) < n_118 → ∀ (H : Heap) (locs : List Loc), va_P D vwCl (townW K a T ++ (waysW K b len qu n ++ (textW K t cs ln ++ (mainW K a b t c g sn ++ svW K g Sv X)))) H → va_D A (townW K a T ++ (waysW K b len qu n ++ (textW K t cs ln ++ (mainW K a b t c g sn ++ svW K g Sv X)))) → va_S A st.heap H locs →  ∀ x_1 : Int64, x_1 = mxN (ptT T i) j (itN (fun t h => mxN (ptT T t) 3 h) i (dg3 T sn)) → ∀ x_4 : Int32, x_4 = nI j → ∀ ls : Array Slot, lv_has ls 5 [(0, .ref (c 0)), (1, .long x_1), (3, .int (nI i)), (4, .int x_4)] → W pr l en (headSpec wsX3_digest ({ frames := 7, cells := 0, slots := 0, locals := 168 } : Room)).room st md ar bl mt co H locs 0 0 (MQ bl (wrQ D (townW K a T ++ (waysW K b len qu n ++ (textW K t cs ln ++ (mainW K a b t c g sn ++ svW K g Sv X)))) (townW K a T ++ (waysW K b ((wyD T 4 (len, qu, n)).1) ((wyD T 4 (len, qu, n)).2.1) ((wyD T 4 (len, qu, n)).2.2) ++ (textW K t cs ln ++ (mainW K a b t c g sn ++ svW K g Sv X)))) sz (some (.long (dgT T sn cs ln)))) ar st 0 0 A) (F0 md 118 ls []) := by
                            intro n_118
                            induction n_118 with
                            | zero => intro j _ hn_118; exact absurd hn_118 (Nat.not_lt_zero _)
                            | succ n_118 ih_118 =>
                              intro j hj hn_118 H locs hP hD hS x_1 ex_1 x_4 ex_4 ls hl
                              subst ex_1
                              subst ex_4
                              have hl : lv_has ls 5 [(0, .ref (c 0)), (1, .long (mxN (ptT T i) j (itN (fun t h => mxN (ptT T t) 3 h) i (dg3 T sn)))), (3, .int (nI i)), (4, .int (nI j))] := hl
                              refine lv_iload hx hb dX3_digest_118 (lv_at hl 3 rfl) ?_
                              refine lv_iconst (v := nI 2) hx hb dX3_digest_120 (by decide) ?_
                              refine nv_icmp_gt (x := j) (y := 2) (tgt := 145) hx hb dX3_digest_121 (by decide) (by omega) (by decide) (fun c_16 => ?_) (fun c_16 => ?_)
                              · have n_c_16 := Nat.not_le.mpr c_16
                                have e9c_16 : j = 3 := by omega
                                subst e9c_16
                                refine lv_iinc (v := nI (i + 1)) (lv' := [(3, .int (nI (i + 1))), (0, .ref (c 0)), (1, .long (mxN (ptT T i) 3 (itN (fun t h => mxN (ptT T t) 3 h) i (dg3 T sn)))), (4, .int (nI 3))]) hx hb dX3_digest_145 hl (k := 2) rfl (nI_add _ 1) (by decide) rfl (fun ls hl => ?_)
                                refine lv_goto (tgt := 109) hx hb dX3_digest_148 (by decide) ?_
                                exact ih_109 (i + 1) (by omega) (by omega) _ _ hP hD hS _ ((itN_succ (fun t h => mxN (ptT T t) 3 h) i (dg3 T sn)).symm) _ rfl ls (lv_sub hl [1, 2, 0] rfl)
                              · have n_c_16 := Nat.not_lt.mpr c_16
                                refine lv_ldc2 (v := 31) hx hb hown C243 dX3_digest_124 ?_
                                refine lv_lload_n hx hb dX3_digest_127 rfl (lv_at hl 1 rfl) ?_
                                refine lv_lmul (x := 31) (y := mxN (ptT T i) j (itN (fun t h => mxN (ptT T t) 3 h) i (dg3 T sn))) hx hb dX3_digest_128 ?_
                                refine lv_aload_n hx hb dX3_digest_129 rfl (lv_at hl 0 rfl) ?_
                                refine lv_iload_n hx hb dX3_digest_130 rfl (lv_at hl 2 rfl) ?_
                                refine lv_iload hx hb dX3_digest_131 (lv_at hl 3 rfl) ?_
                                refine rd_V (rest := [.long (31 * (mxN (ptT T i) j (itN (fun t h => mxN (ptT T t) 3 h) i (dg3 T sn))))]) (ci := 3) (q0 := 17) ⟨hx, hb, hml, hown, hts⟩ hP hE (c_X3_propertyOfStop l D K _ _ _ _ _ _ _ _ _ _ _ _ _ _ hI i j (by omega) (by omega)) (cwV 2 hts gX3_digest_X3_propertyOfStop rfl rfl rfl hd_X3_propertyOfStop ⟨Nat.le_of_ble_eq_true rfl, Nat.le_of_ble_eq_true rfl⟩) rfl rfl rfl rfl hl.1 rfl (Nat.le_of_ble_eq_true rfl) dX3_digest_133 ⟨Nat.le_of_ble_eq_true rfl, Nat.le_of_ble_eq_true rfl⟩ ?_
                                refine lv_i2l (v := (ptT T i j).toInt64) hx hb dX3_digest_136 rfl ?_
                                refine lv_ladd (x := 31 * (mxN (ptT T i) j (itN (fun t h => mxN (ptT T t) 3 h) i (dg3 T sn)))) (y := (ptT T i j).toInt64) hx hb dX3_digest_137 ?_
                                refine lv_lstore_n (lv' := [(1, .long ((31 * (mxN (ptT T i) j (itN (fun t h => mxN (ptT T t) 3 h) i (dg3 T sn)))) + ((ptT T i j).toInt64))), (0, .ref (c 0)), (3, .int (nI i)), (4, .int (nI j))]) hx hb dX3_digest_138 rfl hl (by decide) rfl (fun ls hl => ?_)
                                refine lv_iinc (v := nI (j + 1)) (lv' := [(4, .int (nI (j + 1))), (1, .long ((31 * (mxN (ptT T i) j (itN (fun t h => mxN (ptT T t) 3 h) i (dg3 T sn)))) + ((ptT T i j).toInt64))), (0, .ref (c 0)), (3, .int (nI i))]) hx hb dX3_digest_139 hl (k := 3) rfl (nI_add _ 1) (by decide) rfl (fun ls hl => ?_)
                                refine lv_goto (tgt := 118) hx hb dX3_digest_142 (by decide) ?_
                                exact ih_118 (j + 1) (by omega) (by omega) _ _ hP hD hS _ ((mxN_succ (ptT T i) j (itN (fun t h => mxN (ptT T t) 3 h) i (dg3 T sn))).symm) _ rfl ls (lv_sub hl [2, 1, 3, 0] rfl)
                          exact loop_15 _ 0 (Nat.zero_le _) (Nat.lt_succ_self _) _ _ hP hD hS _ ((mxN_zero (ptT T i) (itN (fun t h => mxN (ptT T t) 3 h) i (dg3 T sn))).symm) _ rfl ls (lv_sub hl [1, 2, 3, 0] rfl)
                    exact loop_7 _ 0 (Nat.zero_le _) (Nat.lt_succ_self _) _ _ hP hD hS _ ((dg3_eq T sn).symm.trans (itN_zero (fun t h => mxN (ptT T t) 3 h) (dg3 T sn)).symm) _ rfl ls (lv_sub hl [1, 2, 0] rfl)
                  · have n_c_6 := Nat.not_le.mpr c_6
                    refine lv_iconst (v := nI 0) hx hb dX3_digest_71 (by decide) ?_
                    refine lv_istore (lv' := [(4, .int (nI 0)), (0, .ref (c 0)), (1, .long (itN (fun s h => mxN (psT T s) 4 h) i (dg2 T sn))), (3, .int (nI i))]) hx hb dX3_digest_72 hl (by decide) rfl (fun ls hl => ?_)
                    have loop_17 : ∀ (n_74 : Nat) (j : Nat), (j ≤ 4) → (4 - j) < n_74 → ∀ (H : Heap) (locs : List Loc), va_P D vwCl (townW K a T ++ (waysW K b len qu n ++ (textW K t cs ln ++ (mainW K a b t c g sn ++ svW K g Sv X)))) H → va_D A (townW K a T ++ (waysW K b len qu n ++ (textW K t cs ln ++ (mainW K a b t c g sn ++ svW K g Sv X)))) → va_S A st.heap H locs →  ∀ x_1 : Int64, x_1 = mxN (psT T i) j (itN (fun s h => mxN (psT T s) 4 h) i (dg2 T sn)) → ∀ x_4 : Int32, x_4 = nI j → ∀ ls : Array Slot, lv_has ls 5 [(0, .ref (c 0)), (1, .long x_1), (3, .int (nI i)), (4, .int x_4)] → W pr l en (headSpec wsX3_digest ({ frames := 7, cells := 0, slots := 0, locals := 168 } : Room)).room st md ar bl mt co H locs 0 0 (MQ bl (wrQ D (townW K a T ++ (waysW K b len qu n ++ (textW K t cs ln ++ (mainW K a b t c g sn ++ svW K g Sv X)))) (townW K a T ++ (waysW K b ((wyD T 4 (len, qu, n)).1) ((wyD T 4 (len, qu, n)).2.1) ((wyD T 4 (len, qu, n)).2.2) ++ (textW K t cs ln ++ (mainW K a b t c g sn ++ svW K g Sv X)))) sz (some (.long (dgT T sn cs ln)))) ar st 0 0 A) (F0 md 74 ls []) := by
                      intro n_74
                      induction n_74 with
                      | zero => intro j _ hn_74; exact absurd hn_74 (Nat.not_lt_zero _)
                      | succ n_74 ih_74 =>
                        intro j hj hn_74 H locs hP hD hS x_1 ex_1 x_4 ex_4 ls hl
                        subst ex_1
                        subst ex_4
                        have hl : lv_has ls 5 [(0, .ref (c 0)), (1, .long (mxN (psT T i) j (itN (fun s h => mxN (psT T s) 4 h) i (dg2 T sn)))), (3, .int (nI i)), (4, .int (nI j))] := hl
                        refine lv_iload hx hb dX3_digest_74 (lv_at hl 3 rfl) ?_
                        refine lv_iconst (v := nI 3) hx hb dX3_digest_76 (by decide) ?_
                        refine nv_icmp_gt (x := j) (y := 3) (tgt := 101) hx hb dX3_digest_77 (by decide) (by omega) (by decide) (fun c_18 => ?_) (fun c_18 => ?_)
                        · have n_c_18 := Nat.not_le.mpr c_18
                          have e9c_18 : j = 4 := by omega
                          subst e9c_18
                          refine lv_iinc (v := nI (i + 1)) (lv' := [(3, .int (nI (i + 1))), (0, .ref (c 0)), (1, .long (mxN (psT T i) 4 (itN (fun s h => mxN (psT T s) 4 h) i (dg2 T sn)))), (4, .int (nI 4))]) hx hb dX3_digest_101 hl (k := 2) rfl (nI_add _ 1) (by decide) rfl (fun ls hl => ?_)
                          refine lv_goto (tgt := 65) hx hb dX3_digest_104 (by decide) ?_
                          exact ih_65 (i + 1) (by omega) (by omega) _ _ hP hD hS _ ((itN_succ (fun s h => mxN (psT T s) 4 h) i (dg2 T sn)).symm) _ rfl ls (lv_sub hl [1, 2, 0] rfl)
                        · have n_c_18 := Nat.not_lt.mpr c_18
                          refine lv_ldc2 (v := 31) hx hb hown C243 dX3_digest_80 ?_
                          refine lv_lload_n hx hb dX3_digest_83 rfl (lv_at hl 1 rfl) ?_
                          refine lv_lmul (x := 31) (y := mxN (psT T i) j (itN (fun s h => mxN (psT T s) 4 h) i (dg2 T sn))) hx hb dX3_digest_84 ?_
                          refine lv_aload_n hx hb dX3_digest_85 rfl (lv_at hl 0 rfl) ?_
                          refine lv_iload_n hx hb dX3_digest_86 rfl (lv_at hl 2 rfl) ?_
                          refine lv_iload hx hb dX3_digest_87 (lv_at hl 3 rfl) ?_
                          refine rd_V (rest := [.long (31 * (mxN (psT T i) j (itN (fun s h => mxN (psT T s) 4 h) i (dg2 T sn))))]) (ci := 3) (q0 := 17) ⟨hx, hb, hml, hown, hts⟩ hP hE (c_X3_propertyOfSquare l D K _ _ _ _ _ _ _ _ _ _ _ _ _ _ hI i j (by omega) (by omega)) (cwV 2 hts gX3_digest_X3_propertyOfSquare rfl rfl rfl hd_X3_propertyOfSquare ⟨Nat.le_of_ble_eq_true rfl, Nat.le_of_ble_eq_true rfl⟩) rfl rfl rfl rfl hl.1 rfl (Nat.le_of_ble_eq_true rfl) dX3_digest_89 ⟨Nat.le_of_ble_eq_true rfl, Nat.le_of_ble_eq_true rfl⟩ ?_
                          refine lv_i2l (v := (psT T i j).toInt64) hx hb dX3_digest_92 rfl ?_
                          refine lv_ladd (x := 31 * (mxN (psT T i) j (itN (fun s h => mxN (psT T s) 4 h) i (dg2 T sn)))) (y := (psT T i j).toInt64) hx hb dX3_digest_93 ?_
                          refine lv_lstore_n (lv' := [(1, .long ((31 * (mxN (psT T i) j (itN (fun s h => mxN (psT T s) 4 h) i (dg2 T sn)))) + ((psT T i j).toInt64))), (0, .ref (c 0)), (3, .int (nI i)), (4, .int (nI j))]) hx hb dX3_digest_94 rfl hl (by decide) rfl (fun ls hl => ?_)
                          refine lv_iinc (v := nI (j + 1)) (lv' := [(4, .int (nI (j + 1))), (1, .long ((31 * (mxN (psT T i) j (itN (fun s h => mxN (psT T s) 4 h) i (dg2 T sn)))) + ((psT T i j).toInt64))), (0, .ref (c 0)), (3, .int (nI i))]) hx hb dX3_digest_95 hl (k := 3) rfl (nI_add _ 1) (by decide) rfl (fun ls hl => ?_)
                          refine lv_goto (tgt := 74) hx hb dX3_digest_98 (by decide) ?_
                          exact ih_74 (j + 1) (by omega) (by omega) _ _ hP hD hS _ ((mxN_succ (psT T i) j (itN (fun s h => mxN (psT T s) 4 h) i (dg2 T sn))).symm) _ rfl ls (lv_sub hl [2, 1, 3, 0] rfl)
                    exact loop_17 _ 0 (Nat.zero_le _) (Nat.lt_succ_self _) _ _ hP hD hS _ ((mxN_zero (psT T i) (itN (fun s h => mxN (psT T s) 4 h) i (dg2 T sn))).symm) _ rfl ls (lv_sub hl [1, 2, 3, 0] rfl)
              exact loop_5 _ 0 (Nat.zero_le _) (Nat.lt_succ_self _) _ _ hP hD hS _ ((dg2_eq T sn).symm.trans (itN_zero (fun s h => mxN (psT T s) 4 h) (dg2 T sn)).symm) _ rfl ls (lv_sub hl [1, 2, 0] rfl)
            · have n_c_4 := Nat.not_le.mpr c_4
              refine lv_ldc2 (v := 31) hx hb hown C243 dX3_digest_38 ?_
              refine lv_lload_n hx hb dX3_digest_41 rfl (lv_at hl 1 rfl) ?_
              refine lv_lmul (x := 31) (y := mxN (fun k => nI (stT T k)) i (dg1 T sn)) hx hb dX3_digest_42 ?_
              refine lv_aload_n hx hb dX3_digest_43 rfl (lv_at hl 0 rfl) ?_
              refine va_get (D := D) (ci := 3) (v := .ref (a 0)) (C := RX3) (T := TX3) (N := 5) hx hb hts inX3 hown hE.1 hP 17 rfl rfl 0 (by decide) F12 (fun _ h9 => h9) rfl dX3_digest_44 ?_
              refine va_get (D := D) (ci := 1) (v := .ref (a 11)) (C := RX1) (T := TX1) (N := 12) hx hb hts inX1 hown hE.1 hP 0 rfl rfl 10 (by decide) F160 (fun _ h9 => h9) rfl dX3_digest_47 ?_
              refine lv_iload_n hx hb dX3_digest_50 rfl (lv_at hl 2 rfl) ?_
              refine rd_S (rest := [.long (31 * (mxN (fun k => nI (stT T k)) i (dg1 T sn)))]) ⟨hx, hb, hml, hown, hts⟩ hP hE (c_X3_at l D K _ 11 _ 3 _ i rfl (by omega) (by omega)) (va_cwS 2 hts gX3_digest_X3_at rfl rfl rfl hn_X3_at ⟨Nat.le_of_ble_eq_true rfl, Nat.le_of_ble_eq_true rfl⟩) rfl hl.1 rfl (Nat.le_of_ble_eq_true rfl) dX3_digest_51 ⟨Nat.le_of_ble_eq_true rfl, Nat.le_of_ble_eq_true rfl⟩ ?_
              refine top_i (y := nI (stT T i)) (show T 10 i = nI (stT T i) from eq_st hI (by omega)) ?_
              have hb_19 := st_lt hI (show i < 3 by omega)
              refine lv_i2l (v := (nI (stT T i)).toInt64) hx hb dX3_digest_54 rfl ?_
              refine lv_ladd (x := 31 * (mxN (fun k => nI (stT T k)) i (dg1 T sn))) (y := (nI (stT T i)).toInt64) hx hb dX3_digest_55 ?_
              refine lv_lstore_n (lv' := [(1, .long ((31 * (mxN (fun k => nI (stT T k)) i (dg1 T sn))) + ((nI (stT T i)).toInt64))), (0, .ref (c 0)), (3, .int (nI i))]) hx hb dX3_digest_56 rfl hl (by decide) rfl (fun ls hl => ?_)
              refine lv_iinc (v := nI (i + 1)) (lv' := [(3, .int (nI (i + 1))), (1, .long ((31 * (mxN (fun k => nI (stT T k)) i (dg1 T sn))) + ((nI (stT T i)).toInt64))), (0, .ref (c 0))]) hx hb dX3_digest_57 hl (k := 2) rfl (nI_add _ 1) (by decide) rfl (fun ls hl => ?_)
              refine lv_goto (tgt := 33) hx hb dX3_digest_60 (by decide) ?_
              exact ih_33 (i + 1) (by omega) (by omega) _ _ hP hD hS _ ((mxN_succ (fun k => nI (stT T k)) i (dg1 T sn)).symm) _ rfl ls (lv_sub hl [2, 1, 0] rfl)
        exact loop_3 _ 0 (Nat.zero_le _) (Nat.lt_succ_self _) _ _ hP hD hS _ ((dg1_eq T sn).symm.trans (mxN_zero (fun k => nI (stT T k)) (dg1 T sn)).symm) _ rfl ls (lv_sub hl [1, 2, 0] rfl)
      · have n_c_2 := Nat.not_lt.mpr c_2
        refine lv_ldc2 (v := 31) hx hb hown C243 dX3_digest_12 ?_
        refine lv_lload_n hx hb dX3_digest_15 rfl (lv_at hl 1 rfl) ?_
        refine lv_lmul (x := 31) (y := mxN (nbrT T sn) i 2909) hx hb dX3_digest_16 ?_
        refine lv_aload_n hx hb dX3_digest_17 rfl (lv_at hl 0 rfl) ?_
        refine lv_iload_n hx hb dX3_digest_18 rfl (lv_at hl 2 rfl) ?_
        refine rd_V (rest := [.long (31 * (mxN (nbrT T sn) i 2909))]) (ci := 3) (q0 := 17) ⟨hx, hb, hml, hown, hts⟩ hP hE (c_X3_numberOf l D K _ _ _ _ _ _ _ _ _ _ _ _ _ _ hI i (by omega)) (cwV 1 hts gX3_digest_X3_numberOf rfl rfl rfl hd_X3_numberOf ⟨Nat.le_of_ble_eq_true rfl, Nat.le_of_ble_eq_true rfl⟩) rfl rfl rfl rfl hl.1 rfl (Nat.le_of_ble_eq_true rfl) dX3_digest_19 ⟨Nat.le_of_ble_eq_true rfl, Nat.le_of_ble_eq_true rfl⟩ ?_
        refine lv_i2l (v := (nbrT T sn i).toInt64) hx hb dX3_digest_22 rfl ?_
        refine lv_ladd (x := 31 * (mxN (nbrT T sn) i 2909)) (y := (nbrT T sn i).toInt64) hx hb dX3_digest_23 ?_
        refine lv_lstore_n (lv' := [(1, .long ((31 * (mxN (nbrT T sn) i 2909)) + ((nbrT T sn i).toInt64))), (0, .ref (c 0)), (3, .int (nI i))]) hx hb dX3_digest_24 rfl hl (by decide) rfl (fun ls hl => ?_)
        refine lv_iinc (v := nI (i + 1)) (lv' := [(3, .int (nI (i + 1))), (1, .long ((31 * (mxN (nbrT T sn) i 2909)) + ((nbrT T sn i).toInt64))), (0, .ref (c 0))]) hx hb dX3_digest_25 hl (k := 2) rfl (nI_add _ 1) (by decide) rfl (fun ls hl => ?_)
        refine lv_goto (tgt := 6) hx hb dX3_digest_28 (by decide) ?_
        exact ih_6 (i + 1) (by omega) (by omega) _ _ hP hD hS _ ((mxN_succ (nbrT T sn) i 2909).symm) _ rfl ls (lv_sub hl [2, 1, 0] rfl)
  exact loop_1 _ 0 (Nat.zero_le _) (Nat.lt_succ_self _) _ _ hP hD hS _ ((mxN_zero (nbrT T sn) 2909).symm) _ rfl ls (lv_sub hl [2, 1, 0] rfl)
