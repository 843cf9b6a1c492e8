theorem hd_X4_digest : yX4_digest.cls = RX4 ∧ yX4_digest.cls ≠ "java/lang/invoke/MethodHandle" ∧ yX4_digest.cls ≠ "java/lang/invoke/VarHandle" ∧ (parseMethodDescriptor yX4_digest.desc).map (fun d => d.parameters.length) = some 0 := by decide +kernel
theorem hn_X4_digest : yX4_digest.cls ≠ "java/lang/invoke/MethodHandle" ∧ yX4_digest.cls ≠ "java/lang/invoke/VarHandle" ∧ (parseMethodDescriptor yX4_digest.desc).map (fun d => d.parameters.length) = some 0 := hd_X4_digest.2
set_option maxHeartbeats 4000000 in
set_option maxRecDepth 100000 in
theorem c_X4_digest (l : Launch) (D : va_G) (K : Nat → ClassId) (sz : Nat) (r : Nat → Nat) (th pn : Int32) (sn ln pm sta ms : Nat) (hs : Int64) (T : TW) (sv : Nat → Int32) (cs : Nat → Nat) (pf : Nat → Int32) (fa : Nat → Nat) (Y : va_W) (hI : Inv T) (hCB : CB cs ln) : Wr l yX4_digest wsX4_digest ({ frames := 7, cells := 0, slots := 0, locals := 160 } : Room) D K (refO r th (nI sn) (nI ln) (nI pm) pn (nI sta) (nI ms) hs :: zC K r T :: sC K r sv :: bC K r cs :: pC K r pf :: fC K r fa :: Y) sz [.ref (r 0)] (refO r (nI 0) (nI sn) (nI ln) (nI pm) pn (nI sta) (nI (msP T ms 4)) (dgT T sn cs ln) :: zC K r T :: sC K r sv :: bC K r cs :: pC K r pf :: fC K r (faP T fa 4) :: Y) (some (.long (dgT T sn cs ln))) 0 0 := by
  refine wr_intro (cc := cX4_digest) (maxL := 3) (ret := (some .long)) (by decide) rfl (Nat.le_of_ble_eq_true rfl) ?_
  intro pr en st md ar bl mt co A hx hb hml hr hts hown hk hsz hAe hP hE hD hS hA hin ls hl
  have hown : st.vm.findClass RX4 = some md.cls := hown
  have hl : lv_has ls 3 [(0, .ref (r 0))] := hl
  have hl60 := hCB.1
  obtain ⟨H, hH⟩ : ∃ z, z = st.heap := ⟨_, rfl⟩
  obtain ⟨locs, hlo⟩ : ∃ z : List Loc, z = [] := ⟨_, rfl⟩
  have hP : va_P D vwCl (refO r th (nI sn) (nI ln) (nI pm) pn (nI sta) (nI ms) hs :: zC K r T :: sC K r sv :: bC K r cs :: pC K r pf :: fC K r fa :: Y) H := by rw [hH]; exact hP
  have hS : va_S A st.heap H locs := by rw [hH, hlo]; exact hS
  suffices go : W pr l en (headSpec wsX4_digest ({ frames := 7, cells := 0, slots := 0, locals := 160 } : Room)).room st md ar bl mt co H locs 0 0 (MQ bl (wrQ D (refO r th (nI sn) (nI ln) (nI pm) pn (nI sta) (nI ms) hs :: zC K r T :: sC K r sv :: bC K r cs :: pC K r pf :: fC K r fa :: Y) (refO r (nI 0) (nI sn) (nI ln) (nI pm) pn (nI sta) (nI (msP T ms 4)) (dgT T sn cs ln) :: zC K r T :: sC K r sv :: bC K r cs :: pC K r pf :: fC K r (faP T fa 4) :: Y) sz (some (.long (dgT T sn cs ln)))) ar st 0 0 A) (F0 md 0 ls []) by rw [hH, hlo] at go; exact go
  clear hH hlo
  have F29 : (Cond.fieldLink RX4 29 "TramTollsModel" "thrown" "I").before ar st = true := hts _ (List.mem_of_getElem? (i := 1) rfl)
  have inX4 : ∀ w ∈ u_ws RX4 TX4 13, w ∈ wsX4_digest := fun w h => List.mem_cons_of_mem _ (List.mem_append_right _ h)
  have C222 : (Cond.constantLong RX4 222 (2909)).before ar st = true := hts _ (List.mem_of_getElem? (i := 2) rfl)
  have F214 : (Cond.fieldLink RX4 214 "TramTollsModel" "hash" "J").before ar st = true := hts _ (List.mem_of_getElem? (i := 3) rfl)
  have F101 : (Cond.fieldLink RX4 101 "TramTollsModel" "typed" "I").before ar st = true := hts _ (List.mem_of_getElem? (i := 5) rfl)
  have F16 : (Cond.fieldLink RX4 16 "TramTollsModel" "buffer" "[I").before ar st = true := hts _ (List.mem_of_getElem? (i := 6) rfl)
  have F7 : (Cond.fieldLink RX4 7 "TramTollsModel" "z" "[I").before ar st = true := hts _ (List.mem_of_getElem? (i := 4) rfl)
  refine lv_aload_n hx hb dX4_digest_0 rfl (lv_at hl 0 rfl) ?_
  refine lv_iconst (v := nI 0) hx hb dX4_digest_1 (by decide) ?_
  refine va_put (D := D) (ci := 4) (v := .int (nI 0)) (ty := .int) (C := RX4) (T := TX4) (N := 13) hx hb hts inX4 tyX4 tyX4_ok nmX4 hown hE.1 hP hD hS 0 rfl rfl 0 (by decide) F29 (fun _ h9 => h9) rfl (by decide +kernel) rfl rfl (Nat.le_of_ble_eq_true rfl) dX4_digest_2 (fun H locs hP hD hS => ?_)
  have hP : va_P D vwCl (refO r (nI 0) (nI sn) (nI ln) (nI pm) pn (nI sta) (nI ms) hs :: zC K r T :: sC K r sv :: bC K r cs :: pC K r pf :: fC K r fa :: Y) H := hP
  have hD : va_D A (refO r (nI 0) (nI sn) (nI ln) (nI pm) pn (nI sta) (nI ms) hs :: zC K r T :: sC K r sv :: bC K r cs :: pC K r pf :: fC K r fa :: Y) := hD
  refine lv_aload_n hx hb dX4_digest_5 rfl (lv_at hl 0 rfl) ?_
  refine lv_ldc2 (v := 2909) hx hb hown C222 dX4_digest_6 ?_
  refine va_put (D := D) (ci := 4) (v := .long 2909) (ty := .long) (C := RX4) (T := TX4) (N := 13) hx hb hts inX4 tyX4 tyX4_ok nmX4 hown hE.1 hP hD hS 0 rfl rfl 12 (by decide) F214 (fun _ h9 => h9) rfl (by decide +kernel) rfl rfl (Nat.le_of_ble_eq_true rfl) dX4_digest_9 (fun H locs hP hD hS => ?_)
  have hP : va_P D vwCl (refO r (nI 0) (nI sn) (nI ln) (nI pm) pn (nI sta) (nI ms) 2909 :: zC K r T :: sC K r sv :: bC K r cs :: pC K r pf :: fC K r fa :: Y) H := hP
  have hD : va_D A (refO r (nI 0) (nI sn) (nI ln) (nI pm) pn (nI sta) (nI ms) 2909 :: zC K r T :: sC K r sv :: bC K r cs :: pC K r pf :: fC K r fa :: Y) := hD
  refine lv_iconst (v := nI 0) hx hb dX4_digest_12 (by decide) ?_
  refine lv_istore_n (lv' := [(1, .int (nI 0)), (0, .ref (r 0))]) hx hb dX4_digest_13 rfl hl (by decide) rfl (fun ls hl => ?_)
  have loop_1 : ∀ (n_14 : Nat) (i : Nat), (i ≤ 8) → (8 - i) < n_14 → ∀ (H : Heap) (locs : List Loc), va_P D vwCl (refO r (nI 0) (nI sn) (nI ln) (nI pm) pn (nI sta) (nI ms) (mxN (nbrT T sn) i 2909) :: zC K r T :: sC K r sv :: bC K r cs :: pC K r pf :: fC K r fa :: Y) H → va_D A (refO r (nI 0) (nI sn) (nI ln) (nI pm) pn (nI sta) (nI ms) (mxN (nbrT T sn) i 2909) :: zC K r T :: sC K r sv :: bC K r cs :: pC K r pf :: fC K r fa :: Y) → va_S A st.heap H locs →  ∀ x_1 : Int32, x_1 = nI i → ∀ ls : Array Slot, lv_has ls 3 [(0, .ref (r 0)), (1, .int x_1)] → W pr l en (headSpec wsX4_digest ({ frames := 7, cells := 0, slots := 0, locals := 160 } : Room)).room st md ar bl mt co H locs 0 0 (MQ bl (wrQ D (refO r th (nI sn) (nI ln) (nI pm) pn (nI sta) (nI ms) hs :: zC K r T :: sC K r sv :: bC K r cs :: pC K r pf :: fC K r fa :: Y) (refO r (nI 0) (nI sn) (nI ln) (nI pm) pn (nI sta) (nI (msP T ms 4)) (dgT T sn cs ln) :: zC K r T :: sC K r sv :: bC K r cs :: pC K r pf :: fC K r (faP T fa 4) :: Y) sz (some (.long (dgT T sn cs ln)))) ar st 0 0 A) (F0 md 14 ls []) := by
    intro n_14
    induction n_14 with
    | zero => intro i _ hn_14; exact absurd hn_14 (Nat.not_lt_zero _)
    | succ n_14 ih_14 =>
      intro i hi hn_14 H locs hP hD hS x_1 ex_1 ls hl
      subst ex_1
      have hl : lv_has ls 3 [(0, .ref (r 0)), (1, .int (nI i))] := hl
      refine lv_iload_n hx hb dX4_digest_14 rfl (lv_at hl 1 rfl) ?_
      refine lv_bipush (v := nI 7) hx hb dX4_digest_15 (by decide) ?_
      refine nv_icmp_gt (x := i) (y := 7) (tgt := 36) hx hb dX4_digest_17 (by decide) (by omega) (by decide) (fun c_2 => ?_) (fun c_2 => ?_)
      · have n_c_2 := Nat.not_le.mpr c_2
        refine lv_iconst (v := nI 0) hx hb dX4_digest_36 (by decide) ?_
        refine lv_istore_n (lv' := [(1, .int (nI 0)), (0, .ref (r 0))]) hx hb dX4_digest_37 rfl hl (by decide) rfl (fun ls hl => ?_)
        have loop_3 : ∀ (n_38 : Nat) (i : Nat), (i ≤ 3) → (3 - i) < n_38 → ∀ (H : Heap) (locs : List Loc), va_P D vwCl (refO r (nI 0) (nI sn) (nI ln) (nI pm) pn (nI sta) (nI ms) (mxN (fun k => nI (stT T k)) i (dg1 T sn)) :: zC K r T :: sC K r sv :: bC K r cs :: pC K r pf :: fC K r fa :: Y) H → va_D A (refO r (nI 0) (nI sn) (nI ln) (nI pm) pn (nI sta) (nI ms) (mxN (fun k => nI (stT T k)) i (dg1 T sn)) :: zC K r T :: sC K r sv :: bC K r cs :: pC K r pf :: fC K r fa :: Y) → va_S A st.heap H locs →  ∀ x_1 : Int32, x_1 = nI i → ∀ ls : Array Slot, lv_has ls 3 [(0, .ref (r 0)), (1, .int x_1)] → W pr l en (headSpec wsX4_digest ({ frames := 7, cells := 0, slots := 0, locals := 160 } : Room)).room st md ar bl mt co H locs 0 0 (MQ bl (wrQ D (refO r th (nI sn) (nI ln) (nI pm) pn (nI sta) (nI ms) hs :: zC K r T :: sC K r sv :: bC K r cs :: pC K r pf :: fC K r fa :: Y) (refO r (nI 0) (nI sn) (nI ln) (nI pm) pn (nI sta) (nI (msP T ms 4)) (dgT T sn cs ln) :: zC K r T :: sC K r sv :: bC K r cs :: pC K r pf :: fC K r (faP T fa 4) :: Y) sz (some (.long (dgT T sn cs ln)))) ar st 0 0 A) (F0 md 38 ls []) := by
          intro n_38
          induction n_38 with
          | zero => intro i _ hn_38; exact absurd hn_38 (Nat.not_lt_zero _)
          | succ n_38 ih_38 =>
            intro i hi hn_38 H locs hP hD hS x_1 ex_1 ls hl
            subst ex_1
            have hl : lv_has ls 3 [(0, .ref (r 0)), (1, .int (nI i))] := hl
            refine lv_iload_n hx hb dX4_digest_38 rfl (lv_at hl 1 rfl) ?_
            refine lv_iconst (v := nI 2) hx hb dX4_digest_39 (by decide) ?_
            refine nv_icmp_gt (x := i) (y := 2) (tgt := 62) hx hb dX4_digest_40 (by decide) (by omega) (by decide) (fun c_4 => ?_) (fun c_4 => ?_)
            · have n_c_4 := Nat.not_le.mpr c_4
              refine lv_iconst (v := nI 0) hx hb dX4_digest_62 (by decide) ?_
              refine lv_istore_n (lv' := [(1, .int (nI 0)), (0, .ref (r 0))]) hx hb dX4_digest_63 rfl hl (by decide) rfl (fun ls hl => ?_)
              have loop_5 : ∀ (n_64 : Nat) (i : Nat), (i ≤ 80) → (80 - i) < n_64 → ∀ (H : Heap) (locs : List Loc), va_P D vwCl (refO r (nI 0) (nI sn) (nI ln) (nI pm) pn (nI sta) (nI ms) (itN (fun s h => mxN (psT T s) 4 h) i (dg2 T sn)) :: zC K r T :: sC K r sv :: bC K r cs :: pC K r pf :: fC K r fa :: Y) H → va_D A (refO r (nI 0) (nI sn) (nI ln) (nI pm) pn (nI sta) (nI ms) (itN (fun s h => mxN (psT T s) 4 h) i (dg2 T sn)) :: zC K r T :: sC K r sv :: bC K r cs :: pC K r pf :: fC K r fa :: Y) → va_S A st.heap H locs →  ∀ x_1 : Int32, x_1 = nI i → ∀ ls : Array Slot, lv_has ls 3 [(0, .ref (r 0)), (1, .int x_1)] → W pr l en (headSpec wsX4_digest ({ frames := 7, cells := 0, slots := 0, locals := 160 } : Room)).room st md ar bl mt co H locs 0 0 (MQ bl (wrQ D (refO r th (nI sn) (nI ln) (nI pm) pn (nI sta) (nI ms) hs :: zC K r T :: sC K r sv :: bC K r cs :: pC K r pf :: fC K r fa :: Y) (refO r (nI 0) (nI sn) (nI ln) (nI pm) pn (nI sta) (nI (msP T ms 4)) (dgT T sn cs ln) :: zC K r T :: sC K r sv :: bC K r cs :: pC K r pf :: fC K r (faP T fa 4) :: Y) sz (some (.long (dgT T sn cs ln)))) ar st 0 0 A) (F0 md 64 ls []) := by
                intro n_64
                induction n_64 with
                | zero => intro i _ hn_64; exact absurd hn_64 (Nat.not_lt_zero _)
                | succ n_64 ih_64 =>
                  intro i hi hn_64 H locs hP hD hS x_1 ex_1 ls hl
                  subst ex_1
                  have hl : lv_has ls 3 [(0, .ref (r 0)), (1, .int (nI i))] := hl
                  refine lv_iload_n hx hb dX4_digest_64 rfl (lv_at hl 1 rfl) ?_
                  refine lv_bipush (v := nI 80) hx hb dX4_digest_65 (by decide) ?_
                  refine nv_icmp_ge (x := i) (y := 80) (tgt := 100) hx hb dX4_digest_67 (by decide) (by omega) (by decide) (fun c_6 => ?_) (fun c_6 => ?_)
                  · have n_c_6 := Nat.not_lt.mpr c_6
                    refine lv_iconst (v := nI 0) hx hb dX4_digest_100 (by decide) ?_
                    refine lv_istore_n (lv' := [(1, .int (nI 0)), (0, .ref (r 0))]) hx hb dX4_digest_101 rfl hl (by decide) rfl (fun ls hl => ?_)
                    have loop_7 : ∀ (n_102 : Nat) (i : Nat), (i ≤ 12) → (12 - i) < n_102 → ∀ (H : Heap) (locs : List Loc), va_P D vwCl (refO r (nI 0) (nI sn) (nI ln) (nI pm) pn (nI sta) (nI ms) (itN (fun t h => mxN (ptT T t) 3 h) i (dg3 T sn)) :: zC K r T :: sC K r sv :: bC K r cs :: pC K r pf :: fC K r fa :: Y) H → va_D A (refO r (nI 0) (nI sn) (nI ln) (nI pm) pn (nI sta) (nI ms) (itN (fun t h => mxN (ptT T t) 3 h) i (dg3 T sn)) :: zC K r T :: sC K r sv :: bC K r cs :: pC K r pf :: fC K r fa :: Y) → va_S A st.heap H locs →  ∀ x_1 : Int32, x_1 = nI i → ∀ ls : Array Slot, lv_has ls 3 [(0, .ref (r 0)), (1, .int x_1)] → W pr l en (headSpec wsX4_digest ({ frames := 7, cells := 0, slots := 0, locals := 160 } : Room)).room st md ar bl mt co H locs 0 0 (MQ bl (wrQ D (refO r th (nI sn) (nI ln) (nI pm) pn (nI sta) (nI ms) hs :: zC K r T :: sC K r sv :: bC K r cs :: pC K r pf :: fC K r fa :: Y) (refO r (nI 0) (nI sn) (nI ln) (nI pm) pn (nI sta) (nI (msP T ms 4)) (dgT T sn cs ln) :: zC K r T :: sC K r sv :: bC K r cs :: pC K r pf :: fC K r (faP T fa 4) :: Y) sz (some (.long (dgT T sn cs ln)))) ar st 0 0 A) (F0 md 102 ls []) := by
                      intro n_102
                      induction n_102 with
                      | zero => intro i _ hn_102; exact absurd hn_102 (Nat.not_lt_zero _)
                      | succ n_102 ih_102 =>
                        intro i hi hn_102 H locs hP hD hS x_1 ex_1 ls hl
                        subst ex_1
                        have hl : lv_has ls 3 [(0, .ref (r 0)), (1, .int (nI i))] := hl
                        refine lv_iload_n hx hb dX4_digest_102 rfl (lv_at hl 1 rfl) ?_
                        refine lv_bipush (v := nI 12) hx hb dX4_digest_103 (by decide) ?_
                        refine nv_icmp_ge (x := i) (y := 12) (tgt := 138) hx hb dX4_digest_105 (by decide) (by omega) (by decide) (fun c_8 => ?_) (fun c_8 => ?_)
                        · have n_c_8 := Nat.not_lt.mpr c_8
                          refine lv_iconst (v := nI 0) hx hb dX4_digest_138 (by decide) ?_
                          refine lv_istore_n (lv' := [(1, .int (nI 0)), (0, .ref (r 0))]) hx hb dX4_digest_139 rfl hl (by decide) rfl (fun ls hl => ?_)
                          have loop_9 : ∀ (n_140 : Nat) (i : Nat), (i ≤ 4) → (4 - i) < n_140 → ∀ (H : Heap) (locs : List Loc), va_P D vwCl (refO r (nI 0) (nI sn) (nI ln) (nI pm) pn (nI sta) (nI (msP T ms i)) (itN (fun p h => dgP T p h) i (dg4 T sn)) :: zC K r T :: sC K r sv :: bC K r cs :: pC K r pf :: fC K r (faP T fa i) :: Y) H → va_D A (refO r (nI 0) (nI sn) (nI ln) (nI pm) pn (nI sta) (nI (msP T ms i)) (itN (fun p h => dgP T p h) i (dg4 T sn)) :: zC K r T :: sC K r sv :: bC K r cs :: pC K r pf :: fC K r (faP T fa i) :: Y) → va_S A st.heap H locs →  ∀ x_1 : Int32, x_1 = nI i → ∀ ls : Array Slot, lv_has ls 3 [(0, .ref (r 0)), (1, .int x_1)] → W pr l en (headSpec wsX4_digest ({ frames := 7, cells := 0, slots := 0, locals := 160 } : Room)).room st md ar bl mt co H locs 0 0 (MQ bl (wrQ D (refO r th (nI sn) (nI ln) (nI pm) pn (nI sta) (nI ms) hs :: zC K r T :: sC K r sv :: bC K r cs :: pC K r pf :: fC K r fa :: Y) (refO r (nI 0) (nI sn) (nI ln) (nI pm) pn (nI sta) (nI (msP T ms 4)) (dgT T sn cs ln) :: zC K r T :: sC K r sv :: bC K r cs :: pC K r pf :: fC K r (faP T fa 4) :: Y) sz (some (.long (dgT T sn cs ln)))) ar st 0 0 A) (F0 md 140 ls []) := by
                            intro n_140
                            induction n_140 with
                            | zero => intro i _ hn_140; exact absurd hn_140 (Nat.not_lt_zero _)
                            | succ n_140 ih_140 =>
                              intro i hi hn_140 H locs hP hD hS x_1 ex_1 ls hl
                              subst ex_1
                              have hl : lv_has ls 3 [(0, .ref (r 0)), (1, .int (nI i))] := hl
                              refine lv_iload_n hx hb dX4_digest_140 rfl (lv_at hl 1 rfl) ?_
                              refine lv_iconst (v := nI 4) hx hb dX4_digest_141 (by decide) ?_
                              refine nv_icmp_ge (x := i) (y := 4) (tgt := 156) hx hb dX4_digest_142 (by decide) (by omega) (by decide) (fun c_10 => ?_) (fun c_10 => ?_)
                              · have n_c_10 := Nat.not_lt.mpr c_10
                                rw [show i = 4 from by omega] at hP hD
                                refine lv_aload_n hx hb dX4_digest_156 rfl (lv_at hl 0 rfl) ?_
                                refine lv_aload_n hx hb dX4_digest_157 rfl (lv_at hl 0 rfl) ?_
                                refine rd_V (rest := [.ref (r 0)]) (ci := 4) (q0 := 0) ⟨hx, hb, hml, hown, hts⟩ hP hE (c_X4_first l D K _ _ _ _ _ _ _ _ _ _ _  hI ) (cwV 0 hts gX4_digest_X4_first rfl rfl rfl hd_X4_first ⟨Nat.le_of_ble_eq_true rfl, Nat.le_of_ble_eq_true rfl⟩) rfl rfl rfl rfl hl.1 rfl (Nat.le_of_ble_eq_true rfl) dX4_digest_158 ⟨Nat.le_of_ble_eq_true rfl, Nat.le_of_ble_eq_true rfl⟩ ?_
                                have hb_11 := ld_lt T 4 (by decide)
                                refine lv_i2l (v := (nI (ldT T 4)).toInt64) hx hb dX4_digest_161 rfl ?_
                                refine wr_V (rest := []) (ci := 4) (q0 := 0) ⟨hx, hb, hml, hown, hts⟩ hP hE hA hD hS (c_X4_mix l D K _ _ _ _ _ _ _ _ _ _ _ _ _ _ _ _ ((nI (ldT T 4)).toInt64)) (cwV 1 hts gX4_digest_X4_mix rfl rfl rfl hd_X4_mix ⟨Nat.le_of_ble_eq_true rfl, Nat.le_of_ble_eq_true rfl⟩) rfl rfl rfl rfl hl.1 rfl (Nat.le_of_ble_eq_true rfl) dX4_digest_162 ⟨Nat.le_of_ble_eq_true rfl, Nat.le_of_ble_eq_true rfl⟩ (fun H locs hP hD hS => ?_)
                                have hP : va_P D vwCl (refO r (nI 0) (nI sn) (nI ln) (nI pm) pn (nI sta) (nI (msP T ms 4)) (31 * (itN (fun p h => dgP T p h) 4 (dg4 T sn)) + ((nI (ldT T 4)).toInt64)) :: zC K r T :: sC K r sv :: bC K r cs :: pC K r pf :: fC K r (faP T fa 4) :: Y) H := hP
                                have hD : va_D A (refO r (nI 0) (nI sn) (nI ln) (nI pm) pn (nI sta) (nI (msP T ms 4)) (31 * (itN (fun p h => dgP T p h) 4 (dg4 T sn)) + ((nI (ldT T 4)).toInt64)) :: zC K r T :: sC K r sv :: bC K r cs :: pC K r pf :: fC K r (faP T fa 4) :: Y) := hD
                                refine lv_aload_n hx hb dX4_digest_165 rfl (lv_at hl 0 rfl) ?_
                                refine lv_aload_n hx hb dX4_digest_166 rfl (lv_at hl 0 rfl) ?_
                                refine rd_V (rest := [.ref (r 0)]) (ci := 4) (q0 := 0) ⟨hx, hb, hml, hown, hts⟩ hP hE (c_X4_share l D K _ _ _ _ _ _ _ _ _ _ _ hI) (cwV 0 hts gX4_digest_X4_share rfl rfl rfl hd_X4_share ⟨Nat.le_of_ble_eq_true rfl, Nat.le_of_ble_eq_true rfl⟩) rfl rfl rfl rfl hl.1 rfl (Nat.le_of_ble_eq_true rfl) dX4_digest_167 ⟨Nat.le_of_ble_eq_true rfl, Nat.le_of_ble_eq_true rfl⟩ ?_
                                refine rd_S (rest := [.ref (r 0)]) ⟨hx, hb, hml, hown, hts⟩ hP hE (c_X4_bitsOf l D K _ (swT T 2) (swT T 1) (sw_pos hI) (sw_le T 1) (sw_21 T)) (va_cwS 1 hts gX4_digest_X4_bitsOf rfl rfl rfl hn_X4_bitsOf ⟨Nat.le_of_ble_eq_true rfl, Nat.le_of_ble_eq_true rfl⟩) rfl hl.1 rfl (Nat.le_of_ble_eq_true rfl) dX4_digest_170 ⟨Nat.le_of_ble_eq_true rfl, Nat.le_of_ble_eq_true rfl⟩ ?_
                                refine wr_V (rest := []) (ci := 4) (q0 := 0) ⟨hx, hb, hml, hown, hts⟩ hP hE hA hD hS (c_X4_mix l D K _ _ _ _ _ _ _ _ _ _ _ _ _ _ _ _ (shB (swT T 2) (swT T 1))) (cwV 1 hts gX4_digest_X4_mix rfl rfl rfl hd_X4_mix ⟨Nat.le_of_ble_eq_true rfl, Nat.le_of_ble_eq_true rfl⟩) rfl rfl rfl rfl hl.1 rfl (Nat.le_of_ble_eq_true rfl) dX4_digest_173 ⟨Nat.le_of_ble_eq_true rfl, Nat.le_of_ble_eq_true rfl⟩ (fun H locs hP hD hS => ?_)
                                have hP : va_P D vwCl (refO r (nI 0) (nI sn) (nI ln) (nI pm) pn (nI sta) (nI (msP T ms 4)) (31 * (31 * (itN (fun p h => dgP T p h) 4 (dg4 T sn)) + ((nI (ldT T 4)).toInt64)) + (shB (swT T 2) (swT T 1))) :: zC K r T :: sC K r sv :: bC K r cs :: pC K r pf :: fC K r (faP T fa 4) :: Y) H := hP
                                have hD : va_D A (refO r (nI 0) (nI sn) (nI ln) (nI pm) pn (nI sta) (nI (msP T ms 4)) (31 * (31 * (itN (fun p h => dgP T p h) 4 (dg4 T sn)) + ((nI (ldT T 4)).toInt64)) + (shB (swT T 2) (swT T 1))) :: zC K r T :: sC K r sv :: bC K r cs :: pC K r pf :: fC K r (faP T fa 4) :: Y) := hD
                                refine lv_aload_n hx hb dX4_digest_176 rfl (lv_at hl 0 rfl) ?_
                                refine lv_aload_n hx hb dX4_digest_177 rfl (lv_at hl 0 rfl) ?_
                                refine va_get (D := D) (ci := 4) (v := .int (nI ln)) (C := RX4) (T := TX4) (N := 13) hx hb hts inX4 hown hE.1 hP 0 rfl rfl 5 (by decide) F101 (fun _ h9 => h9) rfl dX4_digest_178 ?_
                                refine lv_i2l (v := (nI ln).toInt64) hx hb dX4_digest_181 rfl ?_
                                refine wr_V (rest := []) (ci := 4) (q0 := 0) ⟨hx, hb, hml, hown, hts⟩ hP hE hA hD hS (c_X4_mix l D K _ _ _ _ _ _ _ _ _ _ _ _ _ _ _ _ ((nI ln).toInt64)) (cwV 1 hts gX4_digest_X4_mix rfl rfl rfl hd_X4_mix ⟨Nat.le_of_ble_eq_true rfl, Nat.le_of_ble_eq_true rfl⟩) rfl rfl rfl rfl hl.1 rfl (Nat.le_of_ble_eq_true rfl) dX4_digest_182 ⟨Nat.le_of_ble_eq_true rfl, Nat.le_of_ble_eq_true rfl⟩ (fun H locs hP hD hS => ?_)
                                have hP : va_P D vwCl (refO r (nI 0) (nI sn) (nI ln) (nI pm) pn (nI sta) (nI (msP T ms 4)) (31 * (31 * (31 * (itN (fun p h => dgP T p h) 4 (dg4 T sn)) + ((nI (ldT T 4)).toInt64)) + (shB (swT T 2) (swT T 1))) + ((nI ln).toInt64)) :: zC K r T :: sC K r sv :: bC K r cs :: pC K r pf :: fC K r (faP T fa 4) :: Y) H := hP
                                have hD : va_D A (refO r (nI 0) (nI sn) (nI ln) (nI pm) pn (nI sta) (nI (msP T ms 4)) (31 * (31 * (31 * (itN (fun p h => dgP T p h) 4 (dg4 T sn)) + ((nI (ldT T 4)).toInt64)) + (shB (swT T 2) (swT T 1))) + ((nI ln).toInt64)) :: zC K r T :: sC K r sv :: bC K r cs :: pC K r pf :: fC K r (faP T fa 4) :: Y) := hD
                                refine lv_iconst (v := nI 0) hx hb dX4_digest_185 (by decide) ?_
                                refine lv_istore_n (lv' := [(1, .int (nI 0)), (0, .ref (r 0))]) hx hb dX4_digest_186 rfl hl (by decide) rfl (fun ls hl => ?_)
                                have loop_12 : ∀ (n_187 : Nat) (i : Nat), (i ≤ ln) → (ln - i) < n_187 → ∀ (H : Heap) (locs : List Loc), va_P D vwCl (refO r (nI 0) (nI sn) (nI ln) (nI pm) pn (nI sta) (nI (msP T ms 4)) (mxN (fun i => nI (cs i)) i (dg8 T sn ln)) :: zC K r T :: sC K r sv :: bC K r cs :: pC K r pf :: fC K r (faP T fa 4) :: Y) H → va_D A (refO r (nI 0) (nI sn) (nI ln) (nI pm) pn (nI sta) (nI (msP T ms 4)) (mxN (fun i => nI (cs i)) i (dg8 T sn ln)) :: zC K r T :: sC K r sv :: bC K r cs :: pC K r pf :: fC K r (faP T fa 4) :: Y) → va_S A st.heap H locs →  ∀ x_1 : Int32, x_1 = nI i → ∀ ls : Array Slot, lv_has ls 3 [(0, .ref (r 0)), (1, .int x_1)] → W pr l en (headSpec wsX4_digest ({ frames := 7, cells := 0, slots := 0, locals := 160 } : Room)).room st md ar bl mt co H locs 0 0 (MQ bl (wrQ D (refO r th (nI sn) (nI ln) (nI pm) pn (nI sta) (nI ms) hs :: zC K r T :: sC K r sv :: bC K r cs :: pC K r pf :: fC K r fa :: Y) (refO r (nI 0) (nI sn) (nI ln) (nI pm) pn (nI sta) (nI (msP T ms 4)) (dgT T sn cs ln) :: zC K r T :: sC K r sv :: bC K r cs :: pC K r pf :: fC K r (faP T fa 4) :: Y) sz (some (.long (dgT T sn cs ln)))) ar st 0 0 A) (F0 md 187 ls []) := by
                                  intro n_187
                                  induction n_187 with
                                  | zero => intro i _ hn_187; exact absurd hn_187 (Nat.not_lt_zero _)
                                  | succ n_187 ih_187 =>
                                    intro i hi hn_187 H locs hP hD hS x_1 ex_1 ls hl
                                    subst ex_1
                                    have hl : lv_has ls 3 [(0, .ref (r 0)), (1, .int (nI i))] := hl
                                    refine lv_iload_n hx hb dX4_digest_187 rfl (lv_at hl 1 rfl) ?_
                                    refine lv_aload_n hx hb dX4_digest_188 rfl (lv_at hl 0 rfl) ?_
                                    refine va_get (D := D) (ci := 4) (v := .int (nI ln)) (C := RX4) (T := TX4) (N := 13) hx hb hts inX4 hown hE.1 hP 0 rfl rfl 5 (by decide) F101 (fun _ h9 => h9) rfl dX4_digest_189 ?_
                                    refine nv_icmp_ge (x := i) (y := ln) (tgt := 212) hx hb dX4_digest_192 (by decide) (by omega) (by omega) (fun c_13 => ?_) (fun c_13 => ?_)
                                    · have n_c_13 := Nat.not_lt.mpr c_13
                                      refine lv_aload_n hx hb dX4_digest_212 rfl (lv_at hl 0 rfl) ?_
                                      refine va_get (D := D) (ci := 4) (v := .long (mxN (fun i => nI (cs i)) i (dg8 T sn ln))) (C := RX4) (T := TX4) (N := 13) hx hb hts inX4 hown hE.1 hP 0 rfl rfl 12 (by decide) F214 (fun _ h9 => h9) rfl dX4_digest_213 ?_
                                      rw [show i = ln from by omega] at hP hD
                                      have hP : va_P D vwCl (refO r (nI 0) (nI sn) (nI ln) (nI pm) pn (nI sta) (nI (msP T ms 4)) (dgT T sn cs ln) :: zC K r T :: sC K r sv :: bC K r cs :: pC K r pf :: fC K r (faP T fa 4) :: Y) H := by rw [dgT_eq]; exact hP
                                      have hD : va_D A (refO r (nI 0) (nI sn) (nI ln) (nI pm) pn (nI sta) (nI (msP T ms 4)) (dgT T sn cs ln) :: zC K r T :: sC K r sv :: bC K r cs :: pC K r pf :: fC K r (faP T fa 4) :: Y) := by rw [dgT_eq]; exact hD
                                      exact wr_lret hAe hP hD hS hx hb hr hk dX4_digest_216 ⟨Nat.le_of_ble_eq_true rfl, Nat.le_of_ble_eq_true rfl⟩ (by rw [show i = ln from by omega, dgT_eq])
                                    · have n_c_13 := Nat.not_le.mpr c_13
                                      refine lv_aload_n hx hb dX4_digest_195 rfl (lv_at hl 0 rfl) ?_
                                      refine lv_aload_n hx hb dX4_digest_196 rfl (lv_at hl 0 rfl) ?_
                                      refine va_get (D := D) (ci := 4) (v := .ref (r 3)) (C := RX4) (T := TX4) (N := 13) hx hb hts inX4 hown hE.1 hP 0 rfl rfl 4 (by decide) F16 (fun _ h9 => h9) rfl dX4_digest_197 ?_
                                      refine lv_iload_n hx hb dX4_digest_200 rfl (lv_at hl 1 rfl) ?_
                                      refine va_iald hx hb hE.1 hP 3 0 rfl rfl (pk_in i 60 (by omega)) dX4_digest_201 ?_
                                      rw [pk_cl i]
                                      refine top_i (y := nI (cs i)) (rfl) ?_
                                      have hb_14 := hCB.2 i (by omega)
                                      refine lv_i2l (v := (nI (cs i)).toInt64) hx hb dX4_digest_202 rfl ?_
                                      refine wr_V (rest := []) (ci := 4) (q0 := 0) ⟨hx, hb, hml, hown, hts⟩ hP hE hA hD hS (c_X4_mix l D K _ _ _ _ _ _ _ _ _ _ _ _ _ _ _ _ ((nI (cs i)).toInt64)) (cwV 1 hts gX4_digest_X4_mix rfl rfl rfl hd_X4_mix ⟨Nat.le_of_ble_eq_true rfl, Nat.le_of_ble_eq_true rfl⟩) rfl rfl rfl rfl hl.1 rfl (Nat.le_of_ble_eq_true rfl) dX4_digest_203 ⟨Nat.le_of_ble_eq_true rfl, Nat.le_of_ble_eq_true rfl⟩ (fun H locs hP hD hS => ?_)
                                      have hP : va_P D vwCl (refO r (nI 0) (nI sn) (nI ln) (nI pm) pn (nI sta) (nI (msP T ms 4)) (31 * (mxN (fun i => nI (cs i)) i (dg8 T sn ln)) + ((nI (cs i)).toInt64)) :: zC K r T :: sC K r sv :: bC K r cs :: pC K r pf :: fC K r (faP T fa 4) :: Y) H := hP
                                      have hD : va_D A (refO r (nI 0) (nI sn) (nI ln) (nI pm) pn (nI sta) (nI (msP T ms 4)) (31 * (mxN (fun i => nI (cs i)) i (dg8 T sn ln)) + ((nI (cs i)).toInt64)) :: zC K r T :: sC K r sv :: bC K r cs :: pC K r pf :: fC K r (faP T fa 4) :: Y) := hD
                                      refine lv_iinc (v := nI (i + 1)) (lv' := [(1, .int (nI (i + 1))), (0, .ref (r 0))]) hx hb dX4_digest_206 hl (k := 1) rfl (nI_add _ 1) (by decide) rfl (fun ls hl => ?_)
                                      refine lv_goto (tgt := 187) hx hb dX4_digest_209 (by decide) ?_
                                      have hP : va_P D vwCl (refO r (nI 0) (nI sn) (nI ln) (nI pm) pn (nI sta) (nI (msP T ms 4)) (mxN (fun i => nI (cs i)) (i + 1) (dg8 T sn ln)) :: zC K r T :: sC K r sv :: bC K r cs :: pC K r pf :: fC K r (faP T fa 4) :: Y) H := by rw [mxN_succ (fun i => nI (cs i)) i (dg8 T sn ln)]; exact hP
                                      have hD : va_D A (refO r (nI 0) (nI sn) (nI ln) (nI pm) pn (nI sta) (nI (msP T ms 4)) (mxN (fun i => nI (cs i)) (i + 1) (dg8 T sn ln)) :: zC K r T :: sC K r sv :: bC K r cs :: pC K r pf :: fC K r (faP T fa 4) :: Y) := by rw [mxN_succ (fun i => nI (cs i)) i (dg8 T sn ln)]; exact hD
                                      exact ih_187 (i + 1) (by omega) (by omega) _ _ hP hD hS _ rfl ls (lv_sub hl [1, 0] rfl)
                                have hP : va_P D vwCl (refO r (nI 0) (nI sn) (nI ln) (nI pm) pn (nI sta) (nI (msP T ms 4)) (mxN (fun i => nI (cs i)) 0 (dg8 T sn ln)) :: zC K r T :: sC K r sv :: bC K r cs :: pC K r pf :: fC K r (faP T fa 4) :: Y) H := by rw [mxN_zero (fun i => nI (cs i)) (dg8 T sn ln), dg8_eq, dg5_eq]; exact hP
                                have hD : va_D A (refO r (nI 0) (nI sn) (nI ln) (nI pm) pn (nI sta) (nI (msP T ms 4)) (mxN (fun i => nI (cs i)) 0 (dg8 T sn ln)) :: zC K r T :: sC K r sv :: bC K r cs :: pC K r pf :: fC K r (faP T fa 4) :: Y) := by rw [mxN_zero (fun i => nI (cs i)) (dg8 T sn ln), dg8_eq, dg5_eq]; exact hD
                                exact loop_12 _ 0 (Nat.zero_le _) (Nat.lt_succ_self _) _ _ hP hD hS _ rfl ls (lv_sub hl [1, 0] rfl)
                              · have n_c_10 := Nat.not_le.mpr c_10
                                refine lv_aload_n hx hb dX4_digest_145 rfl (lv_at hl 0 rfl) ?_
                                refine lv_iload_n hx hb dX4_digest_146 rfl (lv_at hl 1 rfl) ?_
                                refine wr_V (rest := []) (ci := 4) (q0 := 0) ⟨hx, hb, hml, hown, hts⟩ hP hE hA hD hS (c_X4_mixPlayer l D K _ _ _ _ _ _ _ _ _ _ _ _ _ _ _ _ i hI (by omega)) (cwV 1 hts gX4_digest_X4_mixPlayer rfl rfl rfl hd_X4_mixPlayer ⟨Nat.le_of_ble_eq_true rfl, Nat.le_of_ble_eq_true rfl⟩) rfl rfl rfl rfl hl.1 rfl (Nat.le_of_ble_eq_true rfl) dX4_digest_147 ⟨Nat.le_of_ble_eq_true rfl, Nat.le_of_ble_eq_true rfl⟩ (fun H locs hP hD hS => ?_)
                                have hP : va_P D vwCl (refO r (nI 0) (nI sn) (nI ln) (nI pm) pn (nI sta) (nI (misM T i 12)) (dgP T i (itN (fun p h => dgP T p h) i (dg4 T sn))) :: zC K r T :: sC K r sv :: bC K r cs :: pC K r pf :: fC K r (faB T i 6 (dst T i 1)) :: Y) H := hP
                                have hD : va_D A (refO r (nI 0) (nI sn) (nI ln) (nI pm) pn (nI sta) (nI (misM T i 12)) (dgP T i (itN (fun p h => dgP T p h) i (dg4 T sn))) :: zC K r T :: sC K r sv :: bC K r cs :: pC K r pf :: fC K r (faB T i 6 (dst T i 1)) :: Y) := hD
                                refine lv_iinc (v := nI (i + 1)) (lv' := [(1, .int (nI (i + 1))), (0, .ref (r 0))]) hx hb dX4_digest_150 hl (k := 1) rfl (nI_add _ 1) (by decide) rfl (fun ls hl => ?_)
                                refine lv_goto (tgt := 140) hx hb dX4_digest_153 (by decide) ?_
                                have hP : va_P D vwCl (refO r (nI 0) (nI sn) (nI ln) (nI pm) pn (nI sta) (nI (msP T ms (i + 1))) (itN (fun p h => dgP T p h) (i + 1) (dg4 T sn)) :: zC K r T :: sC K r sv :: bC K r cs :: pC K r pf :: fC K r (faP T fa (i + 1)) :: Y) H := by rw [itN_succ (fun p h => dgP T p h) i (dg4 T sn), faP_succ, msP_succ]; exact hP
                                have hD : va_D A (refO r (nI 0) (nI sn) (nI ln) (nI pm) pn (nI sta) (nI (msP T ms (i + 1))) (itN (fun p h => dgP T p h) (i + 1) (dg4 T sn)) :: zC K r T :: sC K r sv :: bC K r cs :: pC K r pf :: fC K r (faP T fa (i + 1)) :: Y) := by rw [itN_succ (fun p h => dgP T p h) i (dg4 T sn), faP_succ, msP_succ]; exact hD
                                exact ih_140 (i + 1) (by omega) (by omega) _ _ hP hD hS _ rfl ls (lv_sub hl [1, 0] rfl)
                          rw [show i = 12 from by omega] at hP hD
                          have hP : va_P D vwCl (refO r (nI 0) (nI sn) (nI ln) (nI pm) pn (nI sta) (nI (msP T ms 0)) (itN (fun p h => dgP T p h) 0 (dg4 T sn)) :: zC K r T :: sC K r sv :: bC K r cs :: pC K r pf :: fC K r (faP T fa 0) :: Y) H := by rw [itN_zero (fun p h => dgP T p h) (dg4 T sn), dg4_eq, faP_zero, msP_zero]; exact hP
                          have hD : va_D A (refO r (nI 0) (nI sn) (nI ln) (nI pm) pn (nI sta) (nI (msP T ms 0)) (itN (fun p h => dgP T p h) 0 (dg4 T sn)) :: zC K r T :: sC K r sv :: bC K r cs :: pC K r pf :: fC K r (faP T fa 0) :: Y) := by rw [itN_zero (fun p h => dgP T p h) (dg4 T sn), dg4_eq, faP_zero, msP_zero]; exact hD
                          exact loop_9 _ 0 (Nat.zero_le _) (Nat.lt_succ_self _) _ _ hP hD hS _ rfl ls (lv_sub hl [1, 0] rfl)
                        · have n_c_8 := Nat.not_le.mpr c_8
                          refine lv_iconst (v := nI 0) hx hb dX4_digest_108 (by decide) ?_
                          refine lv_istore_n (lv' := [(2, .int (nI 0)), (0, .ref (r 0)), (1, .int (nI i))]) hx hb dX4_digest_109 rfl hl (by decide) rfl (fun ls hl => ?_)
                          have loop_15 : ∀ (n_110 : Nat) (j : Nat), (j ≤ 3) → (3 - j) < n_110 → ∀ (H : Heap) (locs : List Loc), va_P D vwCl (refO r (nI 0) (nI sn) (nI ln) (nI pm) pn (nI sta) (nI ms) (mxN (ptT T i) j (itN (fun t h => mxN (ptT T t) 3 h) i (dg3 T sn))) :: zC K r T :: sC K r sv :: bC K r cs :: pC K r pf :: fC K r fa :: Y) H → va_D A (refO r (nI 0) (nI sn) (nI ln) (nI pm) pn (nI sta) (nI ms) (mxN (ptT T i) j (itN (fun t h => mxN (ptT T t) 3 h) i (dg3 T sn))) :: zC K r T :: sC K r sv :: bC K r cs :: pC K r pf :: fC K r fa :: Y) → va_S A st.heap H locs →  ∀ x_2 : Int32, x_2 = nI j → ∀ ls : Array Slot, lv_has ls 3 [(0, .ref (r 0)), (1, .int (nI i)), (2, .int x_2)] → W pr l en (headSpec wsX4_digest ({ frames := 7, cells := 0, slots := 0, locals := 160 } : Room)).room st md ar bl mt co H locs 0 0 (MQ bl (wrQ D (refO r th (nI sn) (nI ln) (nI pm) pn (nI sta) (nI ms) hs :: zC K r T :: sC K r sv :: bC K r cs :: pC K r pf :: fC K r fa :: Y) (refO r (nI 0) (nI sn) (nI ln) (nI pm) pn (nI sta) (nI (msP T ms 4)) (dgT T sn cs ln) :: zC K r T :: sC K r sv :: bC K r cs :: pC K r pf :: fC K r (faP T fa 4) :: Y) sz (some (.long (dgT T sn cs ln)))) ar st 0 0 A) (F0 md 110 ls []) := by
                            intro n_110
                            induction n_110 with
                            | zero => intro j _ hn_110; exact absurd hn_110 (Nat.not_lt_zero _)
                            | succ n_110 ih_110 =>
                              intro j hj hn_110 H locs hP hD hS x_2 ex_2 ls hl
                              subst ex_2
                              have hl : lv_has ls 3 [(0, .ref (r 0)), (1, .int (nI i)), (2, .int (nI j))] := hl
                              refine lv_iload_n hx hb dX4_digest_110 rfl (lv_at hl 2 rfl) ?_
                              refine lv_iconst (v := nI 2) hx hb dX4_digest_111 (by decide) ?_
                              refine nv_icmp_gt (x := j) (y := 2) (tgt := 132) hx hb dX4_digest_112 (by decide) (by omega) (by decide) (fun c_16 => ?_) (fun c_16 => ?_)
                              · have n_c_16 := Nat.not_le.mpr c_16
                                refine lv_iinc (v := nI (i + 1)) (lv' := [(1, .int (nI (i + 1))), (0, .ref (r 0)), (2, .int (nI j))]) hx hb dX4_digest_132 hl (k := 1) rfl (nI_add _ 1) (by decide) rfl (fun ls hl => ?_)
                                refine lv_goto (tgt := 102) hx hb dX4_digest_135 (by decide) ?_
                                rw [show j = 3 from by omega] at hP hD
                                have hP : va_P D vwCl (refO r (nI 0) (nI sn) (nI ln) (nI pm) pn (nI sta) (nI ms) (itN (fun t h => mxN (ptT T t) 3 h) (i + 1) (dg3 T sn)) :: zC K r T :: sC K r sv :: bC K r cs :: pC K r pf :: fC K r fa :: Y) H := by rw [itN_succ (fun t h => mxN (ptT T t) 3 h) i (dg3 T sn)]; exact hP
                                have hD : va_D A (refO r (nI 0) (nI sn) (nI ln) (nI pm) pn (nI sta) (nI ms) (itN (fun t h => mxN (ptT T t) 3 h) (i + 1) (dg3 T sn)) :: zC K r T :: sC K r sv :: bC K r cs :: pC K r pf :: fC K r fa :: Y) := by rw [itN_succ (fun t h => mxN (ptT T t) 3 h) i (dg3 T sn)]; exact hD
                                exact ih_102 (i + 1) (by omega) (by omega) _ _ hP hD hS _ rfl ls (lv_sub hl [1, 0] rfl)
                              · have n_c_16 := Nat.not_lt.mpr c_16
                                refine lv_aload_n hx hb dX4_digest_115 rfl (lv_at hl 0 rfl) ?_
                                refine lv_aload_n hx hb dX4_digest_116 rfl (lv_at hl 0 rfl) ?_
                                refine lv_iload_n hx hb dX4_digest_117 rfl (lv_at hl 1 rfl) ?_
                                refine lv_iload_n hx hb dX4_digest_118 rfl (lv_at hl 2 rfl) ?_
                                refine rd_V (rest := [.ref (r 0)]) (ci := 4) (q0 := 0) ⟨hx, hb, hml, hown, hts⟩ hP hE (c_X4_toldStop l D K _ _ _ _ _ _ _ _ _ _ _ i j hI (by omega) (by omega)) (cwV 2 hts gX4_digest_X4_toldStop rfl rfl rfl hd_X4_toldStop ⟨Nat.le_of_ble_eq_true rfl, Nat.le_of_ble_eq_true rfl⟩) rfl rfl rfl rfl hl.1 rfl (Nat.le_of_ble_eq_true rfl) dX4_digest_119 ⟨Nat.le_of_ble_eq_true rfl, Nat.le_of_ble_eq_true rfl⟩ ?_
                                refine lv_i2l (v := (ptT T i j).toInt64) hx hb dX4_digest_122 rfl ?_
                                refine wr_V (rest := []) (ci := 4) (q0 := 0) ⟨hx, hb, hml, hown, hts⟩ hP hE hA hD hS (c_X4_mix l D K _ _ _ _ _ _ _ _ _ _ _ _ _ _ _ _ ((ptT T i j).toInt64)) (cwV 1 hts gX4_digest_X4_mix rfl rfl rfl hd_X4_mix ⟨Nat.le_of_ble_eq_true rfl, Nat.le_of_ble_eq_true rfl⟩) rfl rfl rfl rfl hl.1 rfl (Nat.le_of_ble_eq_true rfl) dX4_digest_123 ⟨Nat.le_of_ble_eq_true rfl, Nat.le_of_ble_eq_true rfl⟩ (fun H locs hP hD hS => ?_)
                                have hP : va_P D vwCl (refO r (nI 0) (nI sn) (nI ln) (nI pm) pn (nI sta) (nI ms) (31 * (mxN (ptT T i) j (itN (fun t h => mxN (ptT T t) 3 h) i (dg3 T sn))) + ((ptT T i j).toInt64)) :: zC K r T :: sC K r sv :: bC K r cs :: pC K r pf :: fC K r fa :: Y) H := hP
                                have hD : va_D A (refO r (nI 0) (nI sn) (nI ln) (nI pm) pn (nI sta) (nI ms) (31 * (mxN (ptT T i) j (itN (fun t h => mxN (ptT T t) 3 h) i (dg3 T sn))) + ((ptT T i j).toInt64)) :: zC K r T :: sC K r sv :: bC K r cs :: pC K r pf :: fC K r fa :: Y) := hD
                                refine lv_iinc (v := nI (j + 1)) (lv' := [(2, .int (nI (j + 1))), (0, .ref (r 0)), (1, .int (nI i))]) hx hb dX4_digest_126 hl (k := 2) rfl (nI_add _ 1) (by decide) rfl (fun ls hl => ?_)
                                refine lv_goto (tgt := 110) hx hb dX4_digest_129 (by decide) ?_
                                have hP : va_P D vwCl (refO r (nI 0) (nI sn) (nI ln) (nI pm) pn (nI sta) (nI ms) (mxN (ptT T i) (j + 1) (itN (fun t h => mxN (ptT T t) 3 h) i (dg3 T sn))) :: zC K r T :: sC K r sv :: bC K r cs :: pC K r pf :: fC K r fa :: Y) H := by rw [mxN_succ (ptT T i) j (itN (fun t h => mxN (ptT T t) 3 h) i (dg3 T sn))]; exact hP
                                have hD : va_D A (refO r (nI 0) (nI sn) (nI ln) (nI pm) pn (nI sta) (nI ms) (mxN (ptT T i) (j + 1) (itN (fun t h => mxN (ptT T t) 3 h) i (dg3 T sn))) :: zC K r T :: sC K r sv :: bC K r cs :: pC K r pf :: fC K r fa :: Y) := by rw [mxN_succ (ptT T i) j (itN (fun t h => mxN (ptT T t) 3 h) i (dg3 T sn))]; exact hD
                                exact ih_110 (j + 1) (by omega) (by omega) _ _ hP hD hS _ rfl ls (lv_sub hl [1, 2, 0] rfl)
                          have hP : va_P D vwCl (refO r (nI 0) (nI sn) (nI ln) (nI pm) pn (nI sta) (nI ms) (mxN (ptT T i) 0 (itN (fun t h => mxN (ptT T t) 3 h) i (dg3 T sn))) :: zC K r T :: sC K r sv :: bC K r cs :: pC K r pf :: fC K r fa :: Y) H := by rw [mxN_zero (ptT T i) (itN (fun t h => mxN (ptT T t) 3 h) i (dg3 T sn))]; exact hP
                          have hD : va_D A (refO r (nI 0) (nI sn) (nI ln) (nI pm) pn (nI sta) (nI ms) (mxN (ptT T i) 0 (itN (fun t h => mxN (ptT T t) 3 h) i (dg3 T sn))) :: zC K r T :: sC K r sv :: bC K r cs :: pC K r pf :: fC K r fa :: Y) := by rw [mxN_zero (ptT T i) (itN (fun t h => mxN (ptT T t) 3 h) i (dg3 T sn))]; exact hD
                          exact loop_15 _ 0 (Nat.zero_le _) (Nat.lt_succ_self _) _ _ hP hD hS _ rfl ls (lv_sub hl [1, 2, 0] rfl)
                    rw [show i = 80 from by omega] at hP hD
                    have hP : va_P D vwCl (refO r (nI 0) (nI sn) (nI ln) (nI pm) pn (nI sta) (nI ms) (itN (fun t h => mxN (ptT T t) 3 h) 0 (dg3 T sn)) :: zC K r T :: sC K r sv :: bC K r cs :: pC K r pf :: fC K r fa :: Y) H := by rw [itN_zero (fun t h => mxN (ptT T t) 3 h) (dg3 T sn), dg3_eq]; exact hP
                    have hD : va_D A (refO r (nI 0) (nI sn) (nI ln) (nI pm) pn (nI sta) (nI ms) (itN (fun t h => mxN (ptT T t) 3 h) 0 (dg3 T sn)) :: zC K r T :: sC K r sv :: bC K r cs :: pC K r pf :: fC K r fa :: Y) := by rw [itN_zero (fun t h => mxN (ptT T t) 3 h) (dg3 T sn), dg3_eq]; exact hD
                    exact loop_7 _ 0 (Nat.zero_le _) (Nat.lt_succ_self _) _ _ hP hD hS _ rfl ls (lv_sub hl [1, 0] rfl)
                  · have n_c_6 := Nat.not_le.mpr c_6
                    refine lv_iconst (v := nI 0) hx hb dX4_digest_70 (by decide) ?_
                    refine lv_istore_n (lv' := [(2, .int (nI 0)), (0, .ref (r 0)), (1, .int (nI i))]) hx hb dX4_digest_71 rfl hl (by decide) rfl (fun ls hl => ?_)
                    have loop_17 : ∀ (n_72 : Nat) (j : Nat), (j ≤ 4) → (4 - j) < n_72 → ∀ (H : Heap) (locs : List Loc), va_P D vwCl (refO r (nI 0) (nI sn) (nI ln) (nI pm) pn (nI sta) (nI ms) (mxN (psT T i) j (itN (fun s h => mxN (psT T s) 4 h) i (dg2 T sn))) :: zC K r T :: sC K r sv :: bC K r cs :: pC K r pf :: fC K r fa :: Y) H → va_D A (refO r (nI 0) (nI sn) (nI ln) (nI pm) pn (nI sta) (nI ms) (mxN (psT T i) j (itN (fun s h => mxN (psT T s) 4 h) i (dg2 T sn))) :: zC K r T :: sC K r sv :: bC K r cs :: pC K r pf :: fC K r fa :: Y) → va_S A st.heap H locs →  ∀ x_2 : Int32, x_2 = nI j → ∀ ls : Array Slot, lv_has ls 3 [(0, .ref (r 0)), (1, .int (nI i)), (2, .int x_2)] → W pr l en (headSpec wsX4_digest ({ frames := 7, cells := 0, slots := 0, locals := 160 } : Room)).room st md ar bl mt co H locs 0 0 (MQ bl (wrQ D (refO r th (nI sn) (nI ln) (nI pm) pn (nI sta) (nI ms) hs :: zC K r T :: sC K r sv :: bC K r cs :: pC K r pf :: fC K r fa :: Y) (refO r (nI 0) (nI sn) (nI ln) (nI pm) pn (nI sta) (nI (msP T ms 4)) (dgT T sn cs ln) :: zC K r T :: sC K r sv :: bC K r cs :: pC K r pf :: fC K r (faP T fa 4) :: Y) sz (some (.long (dgT T sn cs ln)))) ar st 0 0 A) (F0 md 72 ls []) := by
                      intro n_72
                      induction n_72 with
                      | zero => intro j _ hn_72; exact absurd hn_72 (Nat.not_lt_zero _)
                      | succ n_72 ih_72 =>
                        intro j hj hn_72 H locs hP hD hS x_2 ex_2 ls hl
                        subst ex_2
                        have hl : lv_has ls 3 [(0, .ref (r 0)), (1, .int (nI i)), (2, .int (nI j))] := hl
                        refine lv_iload_n hx hb dX4_digest_72 rfl (lv_at hl 2 rfl) ?_
                        refine lv_iconst (v := nI 3) hx hb dX4_digest_73 (by decide) ?_
                        refine nv_icmp_gt (x := j) (y := 3) (tgt := 94) hx hb dX4_digest_74 (by decide) (by omega) (by decide) (fun c_18 => ?_) (fun c_18 => ?_)
                        · have n_c_18 := Nat.not_le.mpr c_18
                          refine lv_iinc (v := nI (i + 1)) (lv' := [(1, .int (nI (i + 1))), (0, .ref (r 0)), (2, .int (nI j))]) hx hb dX4_digest_94 hl (k := 1) rfl (nI_add _ 1) (by decide) rfl (fun ls hl => ?_)
                          refine lv_goto (tgt := 64) hx hb dX4_digest_97 (by decide) ?_
                          rw [show j = 4 from by omega] at hP hD
                          have hP : va_P D vwCl (refO r (nI 0) (nI sn) (nI ln) (nI pm) pn (nI sta) (nI ms) (itN (fun s h => mxN (psT T s) 4 h) (i + 1) (dg2 T sn)) :: zC K r T :: sC K r sv :: bC K r cs :: pC K r pf :: fC K r fa :: Y) H := by rw [itN_succ (fun s h => mxN (psT T s) 4 h) i (dg2 T sn)]; exact hP
                          have hD : va_D A (refO r (nI 0) (nI sn) (nI ln) (nI pm) pn (nI sta) (nI ms) (itN (fun s h => mxN (psT T s) 4 h) (i + 1) (dg2 T sn)) :: zC K r T :: sC K r sv :: bC K r cs :: pC K r pf :: fC K r fa :: Y) := by rw [itN_succ (fun s h => mxN (psT T s) 4 h) i (dg2 T sn)]; exact hD
                          exact ih_64 (i + 1) (by omega) (by omega) _ _ hP hD hS _ rfl ls (lv_sub hl [1, 0] rfl)
                        · have n_c_18 := Nat.not_lt.mpr c_18
                          refine lv_aload_n hx hb dX4_digest_77 rfl (lv_at hl 0 rfl) ?_
                          refine lv_aload_n hx hb dX4_digest_78 rfl (lv_at hl 0 rfl) ?_
                          refine lv_iload_n hx hb dX4_digest_79 rfl (lv_at hl 1 rfl) ?_
                          refine lv_iload_n hx hb dX4_digest_80 rfl (lv_at hl 2 rfl) ?_
                          refine rd_V (rest := [.ref (r 0)]) (ci := 4) (q0 := 0) ⟨hx, hb, hml, hown, hts⟩ hP hE (c_X4_toldSquare l D K _ _ _ _ _ _ _ _ _ _ _ i j hI (by omega) (by omega)) (cwV 2 hts gX4_digest_X4_toldSquare rfl rfl rfl hd_X4_toldSquare ⟨Nat.le_of_ble_eq_true rfl, Nat.le_of_ble_eq_true rfl⟩) rfl rfl rfl rfl hl.1 rfl (Nat.le_of_ble_eq_true rfl) dX4_digest_81 ⟨Nat.le_of_ble_eq_true rfl, Nat.le_of_ble_eq_true rfl⟩ ?_
                          refine lv_i2l (v := (psT T i j).toInt64) hx hb dX4_digest_84 rfl ?_
                          refine wr_V (rest := []) (ci := 4) (q0 := 0) ⟨hx, hb, hml, hown, hts⟩ hP hE hA hD hS (c_X4_mix l D K _ _ _ _ _ _ _ _ _ _ _ _ _ _ _ _ ((psT T i j).toInt64)) (cwV 1 hts gX4_digest_X4_mix rfl rfl rfl hd_X4_mix ⟨Nat.le_of_ble_eq_true rfl, Nat.le_of_ble_eq_true rfl⟩) rfl rfl rfl rfl hl.1 rfl (Nat.le_of_ble_eq_true rfl) dX4_digest_85 ⟨Nat.le_of_ble_eq_true rfl, Nat.le_of_ble_eq_true rfl⟩ (fun H locs hP hD hS => ?_)
                          have hP : va_P D vwCl (refO r (nI 0) (nI sn) (nI ln) (nI pm) pn (nI sta) (nI ms) (31 * (mxN (psT T i) j (itN (fun s h => mxN (psT T s) 4 h) i (dg2 T sn))) + ((psT T i j).toInt64)) :: zC K r T :: sC K r sv :: bC K r cs :: pC K r pf :: fC K r fa :: Y) H := hP
                          have hD : va_D A (refO r (nI 0) (nI sn) (nI ln) (nI pm) pn (nI sta) (nI ms) (31 * (mxN (psT T i) j (itN (fun s h => mxN (psT T s) 4 h) i (dg2 T sn))) + ((psT T i j).toInt64)) :: zC K r T :: sC K r sv :: bC K r cs :: pC K r pf :: fC K r fa :: Y) := hD
                          refine lv_iinc (v := nI (j + 1)) (lv' := [(2, .int (nI (j + 1))), (0, .ref (r 0)), (1, .int (nI i))]) hx hb dX4_digest_88 hl (k := 2) rfl (nI_add _ 1) (by decide) rfl (fun ls hl => ?_)
                          refine lv_goto (tgt := 72) hx hb dX4_digest_91 (by decide) ?_
                          have hP : va_P D vwCl (refO r (nI 0) (nI sn) (nI ln) (nI pm) pn (nI sta) (nI ms) (mxN (psT T i) (j + 1) (itN (fun s h => mxN (psT T s) 4 h) i (dg2 T sn))) :: zC K r T :: sC K r sv :: bC K r cs :: pC K r pf :: fC K r fa :: Y) H := by rw [mxN_succ (psT T i) j (itN (fun s h => mxN (psT T s) 4 h) i (dg2 T sn))]; exact hP
                          have hD : va_D A (refO r (nI 0) (nI sn) (nI ln) (nI pm) pn (nI sta) (nI ms) (mxN (psT T i) (j + 1) (itN (fun s h => mxN (psT T s) 4 h) i (dg2 T sn))) :: zC K r T :: sC K r sv :: bC K r cs :: pC K r pf :: fC K r fa :: Y) := by rw [mxN_succ (psT T i) j (itN (fun s h => mxN (psT T s) 4 h) i (dg2 T sn))]; exact hD
                          exact ih_72 (j + 1) (by omega) (by omega) _ _ hP hD hS _ rfl ls (lv_sub hl [1, 2, 0] rfl)
                    have hP : va_P D vwCl (refO r (nI 0) (nI sn) (nI ln) (nI pm) pn (nI sta) (nI ms) (mxN (psT T i) 0 (itN (fun s h => mxN (psT T s) 4 h) i (dg2 T sn))) :: zC K r T :: sC K r sv :: bC K r cs :: pC K r pf :: fC K r fa :: Y) H := by rw [mxN_zero (psT T i) (itN (fun s h => mxN (psT T s) 4 h) i (dg2 T sn))]; exact hP
                    have hD : va_D A (refO r (nI 0) (nI sn) (nI ln) (nI pm) pn (nI sta) (nI ms) (mxN (psT T i) 0 (itN (fun s h => mxN (psT T s) 4 h) i (dg2 T sn))) :: zC K r T :: sC K r sv :: bC K r cs :: pC K r pf :: fC K r fa :: Y) := by rw [mxN_zero (psT T i) (itN (fun s h => mxN (psT T s) 4 h) i (dg2 T sn))]; exact hD
                    exact loop_17 _ 0 (Nat.zero_le _) (Nat.lt_succ_self _) _ _ hP hD hS _ rfl ls (lv_sub hl [1, 2, 0] rfl)
              rw [show i = 3 from by omega] at hP hD
              have hP : va_P D vwCl (refO r (nI 0) (nI sn) (nI ln) (nI pm) pn (nI sta) (nI ms) (itN (fun s h => mxN (psT T s) 4 h) 0 (dg2 T sn)) :: zC K r T :: sC K r sv :: bC K r cs :: pC K r pf :: fC K r fa :: Y) H := by rw [itN_zero (fun s h => mxN (psT T s) 4 h) (dg2 T sn), dg2_eq]; exact hP
              have hD : va_D A (refO r (nI 0) (nI sn) (nI ln) (nI pm) pn (nI sta) (nI ms) (itN (fun s h => mxN (psT T s) 4 h) 0 (dg2 T sn)) :: zC K r T :: sC K r sv :: bC K r cs :: pC K r pf :: fC K r fa :: Y) := by rw [itN_zero (fun s h => mxN (psT T s) 4 h) (dg2 T sn), dg2_eq]; exact hD
              exact loop_5 _ 0 (Nat.zero_le _) (Nat.lt_succ_self _) _ _ hP hD hS _ rfl ls (lv_sub hl [1, 0] rfl)
            · have n_c_4 := Nat.not_lt.mpr c_4
              refine lv_aload_n hx hb dX4_digest_43 rfl (lv_at hl 0 rfl) ?_
              refine lv_aload_n hx hb dX4_digest_44 rfl (lv_at hl 0 rfl) ?_
              refine va_get (D := D) (ci := 4) (v := .ref (r 1)) (C := RX4) (T := TX4) (N := 13) hx hb hts inX4 hown hE.1 hP 0 rfl rfl 1 (by decide) F7 (fun _ h9 => h9) rfl dX4_digest_45 ?_
              refine lv_iconst (v := nI 0) hx hb dX4_digest_48 (by decide) ?_
              refine lv_iload_n hx hb dX4_digest_49 rfl (lv_at hl 1 rfl) ?_
              refine nv_iadd (x := 0) (y := i) hx hb dX4_digest_50 ?_
              refine va_iald hx hb hE.1 hP 1 0 rfl rfl (pk_in (0 + i) 288 (by omega)) dX4_digest_51 ?_
              rw [pk_cl (0 + i)]
              refine top_i (y := nI (stT T i)) (((congrArg (zT T) (show 0 + i = i from by omega)).trans (zT_st (by omega))).trans (show T 10 i = nI (stT T i) from eq_st hI (by omega))) ?_
              have hb_19 := st_lt hI (show i < 3 by omega)
              refine lv_i2l (v := (nI (stT T i)).toInt64) hx hb dX4_digest_52 rfl ?_
              refine wr_V (rest := []) (ci := 4) (q0 := 0) ⟨hx, hb, hml, hown, hts⟩ hP hE hA hD hS (c_X4_mix l D K _ _ _ _ _ _ _ _ _ _ _ _ _ _ _ _ ((nI (stT T i)).toInt64)) (cwV 1 hts gX4_digest_X4_mix rfl rfl rfl hd_X4_mix ⟨Nat.le_of_ble_eq_true rfl, Nat.le_of_ble_eq_true rfl⟩) rfl rfl rfl rfl hl.1 rfl (Nat.le_of_ble_eq_true rfl) dX4_digest_53 ⟨Nat.le_of_ble_eq_true rfl, Nat.le_of_ble_eq_true rfl⟩ (fun H locs hP hD hS => ?_)
              have hP : va_P D vwCl (refO r (nI 0) (nI sn) (nI ln) (nI pm) pn (nI sta) (nI ms) (31 * (mxN (fun k => nI (stT T k)) i (dg1 T sn)) + ((nI (stT T i)).toInt64)) :: zC K r T :: sC K r sv :: bC K r cs :: pC K r pf :: fC K r fa :: Y) H := hP
              have hD : va_D A (refO r (nI 0) (nI sn) (nI ln) (nI pm) pn (nI sta) (nI ms) (31 * (mxN (fun k => nI (stT T k)) i (dg1 T sn)) + ((nI (stT T i)).toInt64)) :: zC K r T :: sC K r sv :: bC K r cs :: pC K r pf :: fC K r fa :: Y) := hD
              refine lv_iinc (v := nI (i + 1)) (lv' := [(1, .int (nI (i + 1))), (0, .ref (r 0))]) hx hb dX4_digest_56 hl (k := 1) rfl (nI_add _ 1) (by decide) rfl (fun ls hl => ?_)
              refine lv_goto (tgt := 38) hx hb dX4_digest_59 (by decide) ?_
              have hP : va_P D vwCl (refO r (nI 0) (nI sn) (nI ln) (nI pm) pn (nI sta) (nI ms) (mxN (fun k => nI (stT T k)) (i + 1) (dg1 T sn)) :: zC K r T :: sC K r sv :: bC K r cs :: pC K r pf :: fC K r fa :: Y) H := by rw [mxN_succ (fun k => nI (stT T k)) i (dg1 T sn)]; exact hP
              have hD : va_D A (refO r (nI 0) (nI sn) (nI ln) (nI pm) pn (nI sta) (nI ms) (mxN (fun k => nI (stT T k)) (i + 1) (dg1 T sn)) :: zC K r T :: sC K r sv :: bC K r cs :: pC K r pf :: fC K r fa :: Y) := by rw [mxN_succ (fun k => nI (stT T k)) i (dg1 T sn)]; exact hD
              exact ih_38 (i + 1) (by omega) (by omega) _ _ hP hD hS _ rfl ls (lv_sub hl [1, 0] rfl)
        rw [show i = 8 from by omega] at hP hD
        have hP : va_P D vwCl (refO r (nI 0) (nI sn) (nI ln) (nI pm) pn (nI sta) (nI ms) (mxN (fun k => nI (stT T k)) 0 (dg1 T sn)) :: zC K r T :: sC K r sv :: bC K r cs :: pC K r pf :: fC K r fa :: Y) H := by rw [mxN_zero (fun k => nI (stT T k)) (dg1 T sn), dg1_eq]; exact hP
        have hD : va_D A (refO r (nI 0) (nI sn) (nI ln) (nI pm) pn (nI sta) (nI ms) (mxN (fun k => nI (stT T k)) 0 (dg1 T sn)) :: zC K r T :: sC K r sv :: bC K r cs :: pC K r pf :: fC K r fa :: Y) := by rw [mxN_zero (fun k => nI (stT T k)) (dg1 T sn), dg1_eq]; exact hD
        exact loop_3 _ 0 (Nat.zero_le _) (Nat.lt_succ_self _) _ _ hP hD hS _ rfl ls (lv_sub hl [1, 0] rfl)
      · have n_c_2 := Nat.not_lt.mpr c_2
        refine lv_aload_n hx hb dX4_digest_20 rfl (lv_at hl 0 rfl) ?_
        refine lv_aload_n hx hb dX4_digest_21 rfl (lv_at hl 0 rfl) ?_
        refine lv_iload_n hx hb dX4_digest_22 rfl (lv_at hl 1 rfl) ?_
        refine rd_V (rest := [.ref (r 0)]) (ci := 4) (q0 := 0) ⟨hx, hb, hml, hown, hts⟩ hP hE (c_X4_counted l D K _ _ _ _ _ _ _ _ _ _ _ sn i hI rfl (by omega)) (cwV 1 hts gX4_digest_X4_counted rfl rfl rfl hd_X4_counted ⟨Nat.le_of_ble_eq_true rfl, Nat.le_of_ble_eq_true rfl⟩) rfl rfl rfl rfl hl.1 rfl (Nat.le_of_ble_eq_true rfl) dX4_digest_23 ⟨Nat.le_of_ble_eq_true rfl, Nat.le_of_ble_eq_true rfl⟩ ?_
        refine lv_i2l (v := (nbrT T sn i).toInt64) hx hb dX4_digest_26 rfl ?_
        refine wr_V (rest := []) (ci := 4) (q0 := 0) ⟨hx, hb, hml, hown, hts⟩ hP hE hA hD hS (c_X4_mix l D K _ _ _ _ _ _ _ _ _ _ _ _ _ _ _ _ ((nbrT T sn i).toInt64)) (cwV 1 hts gX4_digest_X4_mix rfl rfl rfl hd_X4_mix ⟨Nat.le_of_ble_eq_true rfl, Nat.le_of_ble_eq_true rfl⟩) rfl rfl rfl rfl hl.1 rfl (Nat.le_of_ble_eq_true rfl) dX4_digest_27 ⟨Nat.le_of_ble_eq_true rfl, Nat.le_of_ble_eq_true rfl⟩ (fun H locs hP hD hS => ?_)
        have hP : va_P D vwCl (refO r (nI 0) (nI sn) (nI ln) (nI pm) pn (nI sta) (nI ms) (31 * (mxN (nbrT T sn) i 2909) + ((nbrT T sn i).toInt64)) :: zC K r T :: sC K r sv :: bC K r cs :: pC K r pf :: fC K r fa :: Y) H := hP
        have hD : va_D A (refO r (nI 0) (nI sn) (nI ln) (nI pm) pn (nI sta) (nI ms) (31 * (mxN (nbrT T sn) i 2909) + ((nbrT T sn i).toInt64)) :: zC K r T :: sC K r sv :: bC K r cs :: pC K r pf :: fC K r fa :: Y) := hD
        refine lv_iinc (v := nI (i + 1)) (lv' := [(1, .int (nI (i + 1))), (0, .ref (r 0))]) hx hb dX4_digest_30 hl (k := 1) rfl (nI_add _ 1) (by decide) rfl (fun ls hl => ?_)
        refine lv_goto (tgt := 14) hx hb dX4_digest_33 (by decide) ?_
        have hP : va_P D vwCl (refO r (nI 0) (nI sn) (nI ln) (nI pm) pn (nI sta) (nI ms) (mxN (nbrT T sn) (i + 1) 2909) :: zC K r T :: sC K r sv :: bC K r cs :: pC K r pf :: fC K r fa :: Y) H := by rw [mxN_succ (nbrT T sn) i 2909]; exact hP
        have hD : va_D A (refO r (nI 0) (nI sn) (nI ln) (nI pm) pn (nI sta) (nI ms) (mxN (nbrT T sn) (i + 1) 2909) :: zC K r T :: sC K r sv :: bC K r cs :: pC K r pf :: fC K r fa :: Y) := by rw [mxN_succ (nbrT T sn) i 2909]; exact hD
        exact ih_14 (i + 1) (by omega) (by omega) _ _ hP hD hS _ rfl ls (lv_sub hl [1, 0] rfl)
  have hP : va_P D vwCl (refO r (nI 0) (nI sn) (nI ln) (nI pm) pn (nI sta) (nI ms) (mxN (nbrT T sn) 0 2909) :: zC K r T :: sC K r sv :: bC K r cs :: pC K r pf :: fC K r fa :: Y) H := by rw [mxN_zero (nbrT T sn) 2909]; exact hP
  have hD : va_D A (refO r (nI 0) (nI sn) (nI ln) (nI pm) pn (nI sta) (nI ms) (mxN (nbrT T sn) 0 2909) :: zC K r T :: sC K r sv :: bC K r cs :: pC K r pf :: fC K r fa :: Y) := by rw [mxN_zero (nbrT T sn) 2909]; exact hD
  exact loop_1 _ 0 (Nat.zero_le _) (Nat.lt_succ_self _) _ _ hP hD hS _ rfl ls (lv_sub hl [1, 0] rfl)
