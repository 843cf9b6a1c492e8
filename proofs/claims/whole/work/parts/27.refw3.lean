theorem hd_X4_layWays : yX4_layWays.cls = RX4 ∧ yX4_layWays.cls ≠ "java/lang/invoke/MethodHandle" ∧ yX4_layWays.cls ≠ "java/lang/invoke/VarHandle" ∧ (parseMethodDescriptor yX4_layWays.desc).map (fun d => d.parameters.length) = some 2 := by decide +kernel
theorem hn_X4_layWays : yX4_layWays.cls ≠ "java/lang/invoke/MethodHandle" ∧ yX4_layWays.cls ≠ "java/lang/invoke/VarHandle" ∧ (parseMethodDescriptor yX4_layWays.desc).map (fun d => d.parameters.length) = some 2 := hd_X4_layWays.2
theorem hd_X4_wayTo : yX4_wayTo.cls = RX4 ∧ yX4_wayTo.cls ≠ "java/lang/invoke/MethodHandle" ∧ yX4_wayTo.cls ≠ "java/lang/invoke/VarHandle" ∧ (parseMethodDescriptor yX4_wayTo.desc).map (fun d => d.parameters.length) = some 3 := by decide +kernel
theorem hn_X4_wayTo : yX4_wayTo.cls ≠ "java/lang/invoke/MethodHandle" ∧ yX4_wayTo.cls ≠ "java/lang/invoke/VarHandle" ∧ (parseMethodDescriptor yX4_wayTo.desc).map (fun d => d.parameters.length) = some 3 := hd_X4_wayTo.2
theorem hd_X4_farWith : yX4_farWith.cls = RX4 ∧ yX4_farWith.cls ≠ "java/lang/invoke/MethodHandle" ∧ yX4_farWith.cls ≠ "java/lang/invoke/VarHandle" ∧ (parseMethodDescriptor yX4_farWith.desc).map (fun d => d.parameters.length) = some 2 := by decide +kernel
theorem hn_X4_farWith : yX4_farWith.cls ≠ "java/lang/invoke/MethodHandle" ∧ yX4_farWith.cls ≠ "java/lang/invoke/VarHandle" ∧ (parseMethodDescriptor yX4_farWith.desc).map (fun d => d.parameters.length) = some 2 := hd_X4_farWith.2
theorem hd_X4_bestOf : yX4_bestOf.cls = RX4 ∧ yX4_bestOf.cls ≠ "java/lang/invoke/MethodHandle" ∧ yX4_bestOf.cls ≠ "java/lang/invoke/VarHandle" ∧ (parseMethodDescriptor yX4_bestOf.desc).map (fun d => d.parameters.length) = some 2 := by decide +kernel
theorem hn_X4_bestOf : yX4_bestOf.cls ≠ "java/lang/invoke/MethodHandle" ∧ yX4_bestOf.cls ≠ "java/lang/invoke/VarHandle" ∧ (parseMethodDescriptor yX4_bestOf.desc).map (fun d => d.parameters.length) = some 2 := hd_X4_bestOf.2
set_option maxHeartbeats 4000000 in
set_option maxRecDepth 100000 in
theorem c_X4_layWays (l : Launch) (D : va_G) (K : Nat → ClassId) (sz : Nat) (r : Nat → Nat) (th pn : Int32) (sn ln pm sta ms : Nat) (hs : Int64) (T : TW) (sv : Nat → Int32) (cs : Nat → Nat) (pf : Nat → Int32) (fa : Nat → Nat) (Y : va_W) (p m : Nat) (hI : Inv T) (hp : p < 4) (hm2 : m < 2) : Wr l yX4_layWays wsX4_layWays ({ frames := 3, cells := 0, slots := 0, locals := 57 } : Room) D K (refO r th (nI sn) (nI ln) (nI pm) pn (nI sta) (nI ms) hs :: zC K r T :: sC K r sv :: bC K r cs :: pC K r pf :: fC K r fa :: Y) sz [.ref (r 0), .int (nI p), .int (nI m)] (refO r th (nI sn) (nI ln) (nI pm) pn (nI sta) (nI ms) hs :: zC K r T :: sC K r sv :: bC K r cs :: pC K r pf :: fC K r (dst T p m) :: Y) none 0 0 := by
  refine wr_intro (cc := cX4_layWays) (maxL := 7) (ret := none) (by decide) rfl (Nat.le_of_ble_eq_true rfl) ?_
  intro pr en st md ar bl mt co A hx hb hml hr hts hown hk hsz hAe hP hE hD hS hA hin ls hl
  have hown : st.vm.findClass RX4 = some md.cls := hown
  have hl : lv_has ls 7 [(0, .ref (r 0)), (1, .int (nI p)), (2, .int (nI m))] := hl
  have hDS := dst_ok T p m
  obtain ⟨H, hH⟩ : ∃ z, z = st.heap := ⟨_, rfl⟩
  obtain ⟨locs, hlo⟩ : ∃ z : List Loc, z = [] := ⟨_, rfl⟩
  have hP : va_P D vwCl (refO r th (nI sn) (nI ln) (nI pm) pn (nI sta) (nI ms) hs :: zC K r T :: sC K r sv :: bC K r cs :: pC K r pf :: fC K r fa :: Y) H := by rw [hH]; exact hP
  have hS : va_S A st.heap H locs := by rw [hH, hlo]; exact hS
  suffices go : W pr l en (headSpec wsX4_layWays ({ frames := 3, cells := 0, slots := 0, locals := 57 } : Room)).room st md ar bl mt co H locs 0 0 (MQ bl (wrQ D (refO r th (nI sn) (nI ln) (nI pm) pn (nI sta) (nI ms) hs :: zC K r T :: sC K r sv :: bC K r cs :: pC K r pf :: fC K r fa :: Y) (refO r th (nI sn) (nI ln) (nI pm) pn (nI sta) (nI ms) hs :: zC K r T :: sC K r sv :: bC K r cs :: pC K r pf :: fC K r (dst T p m) :: Y) sz none) ar st 0 0 A) (F0 md 0 ls []) by rw [hH, hlo] at go; exact go
  clear hH hlo
  have F22 : (Cond.fieldLink RX4 22 "TramTollsModel" "far" "[I").before ar st = true := hts _ (List.mem_of_getElem? (i := 1) rfl)
  have inX4 : ∀ w ∈ u_ws RX4 TX4 13, w ∈ wsX4_layWays := fun w h => List.mem_cons_of_mem _ (List.mem_append_right _ h)
  have C173 : (Cond.constant RX4 173 (1000000)).before ar st = true := hts _ (List.mem_of_getElem? (i := 2) rfl)
  refine lv_iconst (v := nI 0) hx hb dX4_layWays_0 (by decide) ?_
  refine lv_istore_n (lv' := [(3, .int (nI 0)), (0, .ref (r 0)), (1, .int (nI p)), (2, .int (nI m))]) hx hb dX4_layWays_1 rfl hl (by decide) rfl (fun ls hl => ?_)
  have loop_1 : ∀ (n_2 : Nat) (i : Nat) (f : Nat → Nat), (i ≤ 80) → (∀ s9, s9 < i → f s9 = if hasT T p s9 = true then 0 else 1000000) → (80 - i) < n_2 → ∀ (H : Heap) (locs : List Loc), va_P D vwCl (refO r th (nI sn) (nI ln) (nI pm) pn (nI sta) (nI ms) hs :: zC K r T :: sC K r sv :: bC K r cs :: pC K r pf :: fC K r f :: Y) H → va_D A (refO r th (nI sn) (nI ln) (nI pm) pn (nI sta) (nI ms) hs :: zC K r T :: sC K r sv :: bC K r cs :: pC K r pf :: fC K r f :: Y) → va_S A st.heap H locs →  ∀ x_3 : Int32, x_3 = nI i → ∀ ls : Array Slot, lv_has ls 7 [(0, .ref (r 0)), (1, .int (nI p)), (2, .int (nI m)), (3, .int x_3)] → W pr l en (headSpec wsX4_layWays ({ frames := 3, cells := 0, slots := 0, locals := 57 } : Room)).room st md ar bl mt co H locs 0 0 (MQ bl (wrQ D (refO r th (nI sn) (nI ln) (nI pm) pn (nI sta) (nI ms) hs :: zC K r T :: sC K r sv :: bC K r cs :: pC K r pf :: fC K r fa :: Y) (refO r th (nI sn) (nI ln) (nI pm) pn (nI sta) (nI ms) hs :: zC K r T :: sC K r sv :: bC K r cs :: pC K r pf :: fC K r (dst T p m) :: Y) sz none) ar st 0 0 A) (F0 md 2 ls []) := by
    intro n_2
    induction n_2 with
    | zero => intro i f _ _ hn_2; exact absurd hn_2 (Nat.not_lt_zero _)
    | succ n_2 ih_2 =>
      intro i f hi hf hn_2 H locs hP hD hS x_3 ex_3 ls hl
      subst ex_3
      have hl : lv_has ls 7 [(0, .ref (r 0)), (1, .int (nI p)), (2, .int (nI m)), (3, .int (nI i))] := hl
      refine lv_iload_n hx hb dX4_layWays_2 rfl (lv_at hl 3 rfl) ?_
      refine lv_bipush (v := nI 80) hx hb dX4_layWays_3 (by decide) ?_
      refine nv_icmp_ge (x := i) (y := 80) (tgt := 35) hx hb dX4_layWays_5 (by decide) (by omega) (by decide) (fun c_2 => ?_) (fun c_2 => ?_)
      · have n_c_2 := Nat.not_lt.mpr c_2
        refine lv_iconst (v := nI 1) hx hb dX4_layWays_35 (by decide) ?_
        refine lv_istore_n (lv' := [(3, .int (nI 1)), (0, .ref (r 0)), (1, .int (nI p)), (2, .int (nI m))]) hx hb dX4_layWays_36 rfl hl (by decide) rfl (fun ls hl => ?_)
        have loop_3 : ∀ (n_37 : Nat) (f0 : Nat → Nat) (mo : Nat), (FI T p (dst T p m) f0) → (mo < 2) → (mo = 0 → ∀ s9 d9, s9 < 80 → d9 < 4 → Rlx T p m f0 s9 d9) → (2 * fb_sm f0 80 + mo) < n_37 → ∀ (H : Heap) (locs : List Loc), va_P D vwCl (refO r th (nI sn) (nI ln) (nI pm) pn (nI sta) (nI ms) hs :: zC K r T :: sC K r sv :: bC K r cs :: pC K r pf :: fC K r f0 :: Y) H → va_D A (refO r th (nI sn) (nI ln) (nI pm) pn (nI sta) (nI ms) hs :: zC K r T :: sC K r sv :: bC K r cs :: pC K r pf :: fC K r f0 :: Y) → va_S A st.heap H locs →  ∀ x_3 : Int32, x_3 = nI mo → ∀ ls : Array Slot, lv_has ls 7 [(0, .ref (r 0)), (1, .int (nI p)), (2, .int (nI m)), (3, .int x_3)] → W pr l en (headSpec wsX4_layWays ({ frames := 3, cells := 0, slots := 0, locals := 57 } : Room)).room st md ar bl mt co H locs 0 0 (MQ bl (wrQ D (refO r th (nI sn) (nI ln) (nI pm) pn (nI sta) (nI ms) hs :: zC K r T :: sC K r sv :: bC K r cs :: pC K r pf :: fC K r fa :: Y) (refO r th (nI sn) (nI ln) (nI pm) pn (nI sta) (nI ms) hs :: zC K r T :: sC K r sv :: bC K r cs :: pC K r pf :: fC K r (dst T p m) :: Y) sz none) ar st 0 0 A) (F0 md 37 ls []) := by
          intro n_37
          induction n_37 with
          | zero => intro f0 mo _ _ _ hn_37; exact absurd hn_37 (Nat.not_lt_zero _)
          | succ n_37 ih_37 =>
            intro f0 mo hFI hmo hR hn_37 H locs hP hD hS x_3 ex_3 ls hl
            subst ex_3
            have hl : lv_has ls 7 [(0, .ref (r 0)), (1, .int (nI p)), (2, .int (nI m)), (3, .int (nI mo))] := hl
            refine lv_iload_n hx hb dX4_layWays_37 rfl (lv_at hl 3 rfl) ?_
            refine nv_if_eq (x := mo) (tgt := 167) hx hb dX4_layWays_38 (by decide) (by omega) (fun c_4 => ?_) (fun c_4 => ?_)
            · have n_c_4 : ¬ 0 < mo := by omega
              have hP : va_P D vwCl ((refO r th (nI sn) (nI ln) (nI pm) pn (nI sta) (nI ms) hs :: zC K r T :: sC K r sv :: bC K r cs :: pC K r pf :: fC K r f0 :: Y).set 5 (r 5, .inl (K 0, 80, .inl (fun j => nI (dst T p m j))))) H := va_P.cong (q0 := 5) (h := r 5) (n := 80) (f := fun j => nI (f0 j)) hP (fun j hj => congrArg nI (hFI.final (hR (by omega)) hDS j hj))
              have hD : va_D A ((refO r th (nI sn) (nI ln) (nI pm) pn (nI sta) (nI ms) hs :: zC K r T :: sC K r sv :: bC K r cs :: pC K r pf :: fC K r f0 :: Y).set 5 (r 5, .inl (K 0, 80, .inl (fun j => nI (dst T p m j))))) := va_D.cong (q0 := 5) (h := r 5) (e1 := .inl (K 0, 80, .inl (fun j => nI (f0 j)))) hD
              have hP : va_P D vwCl (refO r th (nI sn) (nI ln) (nI pm) pn (nI sta) (nI ms) hs :: zC K r T :: sC K r sv :: bC K r cs :: pC K r pf :: fC K r (dst T p m) :: Y) H := hP
              have hD : va_D A (refO r th (nI sn) (nI ln) (nI pm) pn (nI sta) (nI ms) hs :: zC K r T :: sC K r sv :: bC K r cs :: pC K r pf :: fC K r (dst T p m) :: Y) := hD
              exact wr_vret hAe hP hD hS hx hb hr hk dX4_layWays_167 ⟨Nat.le_of_ble_eq_true rfl, Nat.le_of_ble_eq_true rfl⟩
            · have n_c_4 : ¬ mo = 0 := by omega
              refine lv_iconst (v := nI 0) hx hb dX4_layWays_41 (by decide) ?_
              refine lv_istore_n (lv' := [(3, .int (nI 0)), (0, .ref (r 0)), (1, .int (nI p)), (2, .int (nI m))]) hx hb dX4_layWays_42 rfl hl (by decide) rfl (fun ls hl => ?_)
              refine lv_iconst (v := nI 0) hx hb dX4_layWays_43 (by decide) ?_
              refine lv_istore (lv' := [(4, .int (nI 0)), (3, .int (nI 0)), (0, .ref (r 0)), (1, .int (nI p)), (2, .int (nI m))]) hx hb dX4_layWays_44 hl (by decide) rfl (fun ls hl => ?_)
              have loop_5 : ∀ (n_46 : Nat) (k : Nat) (f : Nat → Nat) (mo : Nat), (k ≤ 320) → (SI T p m (dst T p m) f0 f mo k) → (320 - k) < n_46 → ∀ (H : Heap) (locs : List Loc), va_P D vwCl (refO r th (nI sn) (nI ln) (nI pm) pn (nI sta) (nI ms) hs :: zC K r T :: sC K r sv :: bC K r cs :: pC K r pf :: fC K r f :: Y) H → va_D A (refO r th (nI sn) (nI ln) (nI pm) pn (nI sta) (nI ms) hs :: zC K r T :: sC K r sv :: bC K r cs :: pC K r pf :: fC K r f :: Y) → va_S A st.heap H locs →  ∀ x_3 : Int32, x_3 = nI mo → ∀ x_4 : Int32, x_4 = nI k → ∀ ls : Array Slot, lv_has ls 7 [(0, .ref (r 0)), (1, .int (nI p)), (2, .int (nI m)), (3, .int x_3), (4, .int x_4)] → W pr l en (headSpec wsX4_layWays ({ frames := 3, cells := 0, slots := 0, locals := 57 } : Room)).room st md ar bl mt co H locs 0 0 (MQ bl (wrQ D (refO r th (nI sn) (nI ln) (nI pm) pn (nI sta) (nI ms) hs :: zC K r T :: sC K r sv :: bC K r cs :: pC K r pf :: fC K r fa :: Y) (refO r th (nI sn) (nI ln) (nI pm) pn (nI sta) (nI ms) hs :: zC K r T :: sC K r sv :: bC K r cs :: pC K r pf :: fC K r (dst T p m) :: Y) sz none) ar st 0 0 A) (F0 md 46 ls []) := by
                intro n_46
                induction n_46 with
                | zero => intro k f mo _ _ hn_46; exact absurd hn_46 (Nat.not_lt_zero _)
                | succ n_46 ih_46 =>
                  intro k f mo hk hSI hn_46 H locs hP hD hS x_3 ex_3 x_4 ex_4 ls hl
                  subst ex_3
                  subst ex_4
                  have hl : lv_has ls 7 [(0, .ref (r 0)), (1, .int (nI p)), (2, .int (nI m)), (3, .int (nI mo)), (4, .int (nI k))] := hl
                  have hmo2 := hSI.2.1
                  refine lv_iload hx hb dX4_layWays_46 (lv_at hl 4 rfl) ?_
                  refine lv_sipush (v := nI 320) hx hb dX4_layWays_48 (by decide) ?_
                  refine nv_icmp_ge (x := k) (y := 320) (tgt := 164) hx hb dX4_layWays_51 (by decide) (by omega) (by decide) (fun c_6 => ?_) (fun c_6 => ?_)
                  · have n_c_6 := Nat.not_lt.mpr c_6
                    refine lv_goto (tgt := 37) hx hb dX4_layWays_164 (by decide) ?_
                    have hls := hSI.less
                    exact ih_37 f mo hSI.1 hSI.2.1 (fun q9 => hSI.done9 q9 (by omega)) (by omega) _ _ hP hD hS _ rfl ls (lv_sub hl [0, 1, 2, 3] rfl)
                  · have n_c_6 := Nat.not_le.mpr c_6
                    refine lv_iload hx hb dX4_layWays_54 (lv_at hl 4 rfl) ?_
                    refine lv_iconst (v := nI 4) hx hb dX4_layWays_56 (by decide) ?_
                    refine nv_idiv (x := k) (y := 4) hx hb dX4_layWays_57 (by omega) (by omega) (by decide) ?_
                    refine lv_iload hx hb dX4_layWays_58 (lv_at hl 4 rfl) ?_
                    refine lv_iconst (v := nI 4) hx hb dX4_layWays_60 (by decide) ?_
                    refine nv_irem (x := k) (y := 4) hx hb dX4_layWays_61 (by omega) (by omega) (by decide) ?_
                    refine rd_S (rest := []) ⟨hx, hb, hml, hown, hts⟩ hP hE (c_X4_beside l D K _ (k / 4) (k % 4) (by omega) (by omega)) (va_cwS 2 hts gX4_layWays_X4_beside rfl rfl rfl hn_X4_beside ⟨Nat.le_of_ble_eq_true rfl, Nat.le_of_ble_eq_true rfl⟩) rfl hl.1 rfl (Nat.le_of_ble_eq_true rfl) dX4_layWays_62 ⟨Nat.le_of_ble_eq_true rfl, Nat.le_of_ble_eq_true rfl⟩ ?_
                    refine lv_istore (lv' := [(5, .int (oI (nbT (k / 4) (k % 4)))), (0, .ref (r 0)), (1, .int (nI p)), (2, .int (nI m)), (3, .int (nI mo)), (4, .int (nI k))]) hx hb dX4_layWays_65 hl (by decide) rfl (fun ls hl => ?_)
                    refine lv_iload_n hx hb dX4_layWays_67 rfl (lv_at hl 3 rfl) ?_
                    refine nv_if_eq (x := m) (tgt := 82) hx hb dX4_layWays_68 (by decide) (by omega) (fun c_7 => ?_) (fun c_7 => ?_)
                    · have n_c_7 : ¬ 0 < m := by omega
                      refine lv_iconst (v := nI 1) hx hb dX4_layWays_82 (by decide) ?_
                      refine top_i (y := nI (wgt T m (k / 4))) (congrArg nI (by rw [wgt, if_pos (by omega)])) ?_
                      have hw9 := wgt_le (m := m) (s := k / 4) hI
                      refine lv_istore (lv' := [(6, .int (nI (wgt T m (k / 4)))), (5, .int (oI (nbT (k / 4) (k % 4)))), (0, .ref (r 0)), (1, .int (nI p)), (2, .int (nI m)), (3, .int (nI mo)), (4, .int (nI k))]) hx hb dX4_layWays_83 hl (by decide) rfl (fun ls hl => ?_)
                      refine lv_iload hx hb dX4_layWays_85 (lv_at hl 1 rfl) ?_
                      refine lv_iconst (v := -1) hx hb dX4_layWays_87 (by decide) ?_
                      refine ov_icmp_eq (tgt := 158) hx hb dX4_layWays_88 (by decide) (lt31 (nb_lt (show (k / 4) < 80 by omega)) (by decide)) (fun c_8 => ?_) (fun k_9 c_8 => ?_)
                      · refine lv_iinc (v := nI (k + 1)) (lv' := [(4, .int (nI (k + 1))), (6, .int (nI (wgt T m (k / 4)))), (5, .int (oI (nbT (k / 4) (k % 4)))), (0, .ref (r 0)), (1, .int (nI p)), (2, .int (nI m)), (3, .int (nI mo))]) hx hb dX4_layWays_158 hl (k := 6) rfl (nI_add _ 1) (by decide) rfl (fun ls hl => ?_)
                        refine lv_goto (tgt := 46) hx hb dX4_layWays_161 (by decide) ?_
                        exact ih_46 (k + 1) f mo (by omega) (hSI.skip (fun a9 h1 _ _ => by rw [c_8] at h1; cases h1)) (by omega) _ _ hP hD hS _ rfl _ rfl ls (lv_sub hl [3, 4, 5, 6, 0] rfl)
                      · have hk_c_8 := (nb_lt (show (k / 4) < 80 by omega)) k_9 c_8
                        refine lv_aload_n hx hb dX4_layWays_91 rfl (lv_at hl 2 rfl) ?_
                        refine va_get (D := D) (ci := 4) (v := .ref (r 5)) (C := RX4) (T := TX4) (N := 13) hx hb hts inX4 hown hE.1 hP 0 rfl rfl 10 (by decide) F22 (fun _ h9 => h9) rfl dX4_layWays_92 ?_
                        refine lv_iload hx hb dX4_layWays_95 (lv_at hl 1 rfl) ?_
                        refine top_i (y := nI k_9) (by rw [c_8]; rfl) ?_
                        refine va_iald hx hb hE.1 hP 5 0 rfl rfl (pk_in k_9 80 (by omega)) dX4_layWays_97 ?_
                        rw [pk_cl k_9]
                        refine top_i (y := nI (f k_9)) (rfl) ?_
                        have hq_10 := hSI.1 k_9 (by omega)
                        have hq_101 := hq_10.2.1
                        refine lv_ldc (v := nI 1000000) hx hb hown C173 dX4_layWays_98 ?_
                        refine nv_icmp_ge (x := f k_9) (y := 1000000) (tgt := 158) hx hb dX4_layWays_100 (by decide) (by omega) (by decide) (fun c_11 => ?_) (fun c_11 => ?_)
                        · have n_c_11 := Nat.not_lt.mpr c_11
                          refine lv_iinc (v := nI (k + 1)) (lv' := [(4, .int (nI (k + 1))), (6, .int (nI (wgt T m (k / 4)))), (5, .int (oI (nbT (k / 4) (k % 4)))), (0, .ref (r 0)), (1, .int (nI p)), (2, .int (nI m)), (3, .int (nI mo))]) hx hb dX4_layWays_158 hl (k := 6) rfl (nI_add _ 1) (by decide) rfl (fun ls hl => ?_)
                          refine lv_goto (tgt := 46) hx hb dX4_layWays_161 (by decide) ?_
                          exact ih_46 (k + 1) f mo (by omega) (hSI.skip (fun a9 h1 h2 h3 => by
        rw [c_8] at h1; cases h1
        first | omega | exact absurd h3 id)) (by omega) _ _ hP hD hS _ rfl _ rfl ls (lv_sub hl [3, 4, 5, 6, 0] rfl)
                        · have n_c_11 := Nat.not_le.mpr c_11
                          refine lv_aload_n hx hb dX4_layWays_103 rfl (lv_at hl 2 rfl) ?_
                          refine lv_iload_n hx hb dX4_layWays_104 rfl (lv_at hl 3 rfl) ?_
                          refine lv_iload hx hb dX4_layWays_105 (lv_at hl 6 rfl) ?_
                          refine lv_iconst (v := nI 4) hx hb dX4_layWays_107 (by decide) ?_
                          refine nv_idiv (x := k) (y := 4) hx hb dX4_layWays_108 (by omega) (by omega) (by decide) ?_
                          refine rd_V (rest := []) (ci := 4) (q0 := 0) ⟨hx, hb, hml, hown, hts⟩ hP hE (c_X4_isOpen l D K _ _ _ _ _ _ _ _ _ _ _ p (k / 4) hI (by omega) (by omega)) (cwV 2 hts gX4_layWays_X4_isOpen rfl rfl rfl hd_X4_isOpen ⟨Nat.le_of_ble_eq_true rfl, Nat.le_of_ble_eq_true rfl⟩) rfl rfl rfl rfl hl.1 rfl (Nat.le_of_ble_eq_true rfl) dX4_layWays_109 ⟨Nat.le_of_ble_eq_true rfl, Nat.le_of_ble_eq_true rfl⟩ ?_
                          refine bv_if_eq (x := opnT T p (k / 4)) (tgt := 158) hx hb dX4_layWays_112 (by decide) (fun c_12 => ?_) (fun c_12 => ?_)
                          · have o_c_12 : ¬ obsT T p (k / 4) = 0 := of_decide_eq_false c_12
                            refine lv_iinc (v := nI (k + 1)) (lv' := [(4, .int (nI (k + 1))), (6, .int (nI (wgt T m (k / 4)))), (5, .int (oI (nbT (k / 4) (k % 4)))), (0, .ref (r 0)), (1, .int (nI p)), (2, .int (nI m)), (3, .int (nI mo))]) hx hb dX4_layWays_158 hl (k := 6) rfl (nI_add _ 1) (by decide) rfl (fun ls hl => ?_)
                            refine lv_goto (tgt := 46) hx hb dX4_layWays_161 (by decide) ?_
                            exact ih_46 (k + 1) f mo (by omega) (hSI.skip (fun a9 h1 h2 h3 => by
        rw [c_8] at h1; cases h1
        first | omega | exact absurd h3 o_c_12)) (by omega) _ _ hP hD hS _ rfl _ rfl ls (lv_sub hl [3, 4, 5, 6, 0] rfl)
                          · have o_c_12 : obsT T p (k / 4) = 0 := of_decide_eq_true c_12
                            refine lv_aload_n hx hb dX4_layWays_115 rfl (lv_at hl 2 rfl) ?_
                            refine va_get (D := D) (ci := 4) (v := .ref (r 5)) (C := RX4) (T := TX4) (N := 13) hx hb hts inX4 hown hE.1 hP 0 rfl rfl 10 (by decide) F22 (fun _ h9 => h9) rfl dX4_layWays_116 ?_
                            refine lv_iload hx hb dX4_layWays_119 (lv_at hl 1 rfl) ?_
                            refine top_i (y := nI k_9) (by rw [c_8]; rfl) ?_
                            refine va_iald hx hb hE.1 hP 5 0 rfl rfl (pk_in k_9 80 (by omega)) dX4_layWays_121 ?_
                            rw [pk_cl k_9]
                            refine top_i (y := nI (f k_9)) (rfl) ?_
                            have hq_13 := hSI.1 k_9 (by omega)
                            have hq_131 := hq_13.2.1
                            refine lv_iload hx hb dX4_layWays_122 (lv_at hl 0 rfl) ?_
                            refine nv_iadd (x := f k_9) (y := wgt T m (k / 4)) hx hb dX4_layWays_124 ?_
                            refine lv_aload_n hx hb dX4_layWays_125 rfl (lv_at hl 2 rfl) ?_
                            refine va_get (D := D) (ci := 4) (v := .ref (r 5)) (C := RX4) (T := TX4) (N := 13) hx hb hts inX4 hown hE.1 hP 0 rfl rfl 10 (by decide) F22 (fun _ h9 => h9) rfl dX4_layWays_126 ?_
                            refine lv_iload hx hb dX4_layWays_129 (lv_at hl 6 rfl) ?_
                            refine lv_iconst (v := nI 4) hx hb dX4_layWays_131 (by decide) ?_
                            refine nv_idiv (x := k) (y := 4) hx hb dX4_layWays_132 (by omega) (by omega) (by decide) ?_
                            refine va_iald hx hb hE.1 hP 5 0 rfl rfl (pk_in (k / 4) 80 (by omega)) dX4_layWays_133 ?_
                            rw [pk_cl (k / 4)]
                            refine top_i (y := nI (f (k / 4))) (rfl) ?_
                            have hq_14 := hSI.1 (k / 4) (by omega)
                            have hq_141 := hq_14.2.1
                            refine nv_icmp_ge (x := (f k_9) + (wgt T m (k / 4))) (y := f (k / 4)) (tgt := 158) hx hb dX4_layWays_134 (by decide) (by omega) (by omega) (fun c_15 => ?_) (fun c_15 => ?_)
                            · have n_c_15 := Nat.not_lt.mpr c_15
                              refine lv_iinc (v := nI (k + 1)) (lv' := [(4, .int (nI (k + 1))), (6, .int (nI (wgt T m (k / 4)))), (5, .int (oI (nbT (k / 4) (k % 4)))), (0, .ref (r 0)), (1, .int (nI p)), (2, .int (nI m)), (3, .int (nI mo))]) hx hb dX4_layWays_158 hl (k := 6) rfl (nI_add _ 1) (by decide) rfl (fun ls hl => ?_)
                              refine lv_goto (tgt := 46) hx hb dX4_layWays_161 (by decide) ?_
                              exact ih_46 (k + 1) f mo (by omega) (hSI.skip (fun a9 h1 h2 h3 => by
        rw [c_8] at h1; cases h1
        first | omega | exact absurd h3 o_c_12)) (by omega) _ _ hP hD hS _ rfl _ rfl ls (lv_sub hl [3, 4, 5, 6, 0] rfl)
                            · have n_c_15 := Nat.not_le.mpr c_15
                              refine lv_aload_n hx hb dX4_layWays_137 rfl (lv_at hl 2 rfl) ?_
                              refine va_get (D := D) (ci := 4) (v := .ref (r 5)) (C := RX4) (T := TX4) (N := 13) hx hb hts inX4 hown hE.1 hP 0 rfl rfl 10 (by decide) F22 (fun _ h9 => h9) rfl dX4_layWays_138 ?_
                              refine lv_iload hx hb dX4_layWays_141 (lv_at hl 6 rfl) ?_
                              refine lv_iconst (v := nI 4) hx hb dX4_layWays_143 (by decide) ?_
                              refine nv_idiv (x := k) (y := 4) hx hb dX4_layWays_144 (by omega) (by omega) (by decide) ?_
                              refine lv_aload_n hx hb dX4_layWays_145 rfl (lv_at hl 2 rfl) ?_
                              refine va_get (D := D) (ci := 4) (v := .ref (r 5)) (C := RX4) (T := TX4) (N := 13) hx hb hts inX4 hown hE.1 hP 0 rfl rfl 10 (by decide) F22 (fun _ h9 => h9) rfl dX4_layWays_146 ?_
                              refine lv_iload hx hb dX4_layWays_149 (lv_at hl 1 rfl) ?_
                              refine top_i (y := nI k_9) (by rw [c_8]; rfl) ?_
                              refine va_iald hx hb hE.1 hP 5 0 rfl rfl (pk_in k_9 80 (by omega)) dX4_layWays_151 ?_
                              rw [pk_cl k_9]
                              refine top_i (y := nI (f k_9)) (rfl) ?_
                              have hq_16 := hSI.1 k_9 (by omega)
                              have hq_161 := hq_16.2.1
                              refine lv_iload hx hb dX4_layWays_152 (lv_at hl 0 rfl) ?_
                              refine nv_iadd (x := f k_9) (y := wgt T m (k / 4)) hx hb dX4_layWays_154 ?_
                              refine va_iast hx hb hE.1 hP hD hS 5 0 rfl rfl (pk_in (k / 4) 80 (by omega)) dX4_layWays_155 (fun H locs hP hD hS => ?_)
                              rw [pk_cl (k / 4)] at hP hD
                              rw [updNN f (k / 4) ((f k_9) + (wgt T m (k / 4)))] at hP hD
                              have hP : va_P D vwCl (refO r th (nI sn) (nI ln) (nI pm) pn (nI sta) (nI ms) hs :: zC K r T :: sC K r sv :: bC K r cs :: pC K r pf :: fC K r (va_up f (k / 4) ((f k_9) + (wgt T m (k / 4)))) :: Y) H := hP
                              have hD : va_D A (refO r th (nI sn) (nI ln) (nI pm) pn (nI sta) (nI ms) hs :: zC K r T :: sC K r sv :: bC K r cs :: pC K r pf :: fC K r (va_up f (k / 4) ((f k_9) + (wgt T m (k / 4)))) :: Y) := hD
                              refine lv_iconst (v := nI 1) hx hb dX4_layWays_156 (by decide) ?_
                              refine lv_istore_n (lv' := [(3, .int (nI 1)), (6, .int (nI (wgt T m (k / 4)))), (5, .int (oI (nbT (k / 4) (k % 4)))), (0, .ref (r 0)), (1, .int (nI p)), (2, .int (nI m)), (4, .int (nI k))]) hx hb dX4_layWays_157 rfl hl (by decide) rfl (fun ls hl => ?_)
                              refine lv_iinc (v := nI (k + 1)) (lv' := [(4, .int (nI (k + 1))), (3, .int (nI 1)), (6, .int (nI (wgt T m (k / 4)))), (5, .int (oI (nbT (k / 4) (k % 4)))), (0, .ref (r 0)), (1, .int (nI p)), (2, .int (nI m))]) hx hb dX4_layWays_158 hl (k := 6) rfl (nI_add _ 1) (by decide) rfl (fun ls hl => ?_)
                              refine lv_goto (tgt := 46) hx hb dX4_layWays_161 (by decide) ?_
                              exact ih_46 (k + 1) (va_up f (k / 4) ((f k_9) + (wgt T m (k / 4)))) 1 (by omega) (hSI.step hDS (by omega) c_8 (by omega) (by omega) o_c_12 (by omega)) (by omega) _ _ hP hD hS _ rfl _ rfl ls (lv_sub hl [4, 5, 6, 1, 0] rfl)
                    · have n_c_7 : ¬ m = 0 := by omega
                      refine lv_aload_n hx hb dX4_layWays_71 rfl (lv_at hl 1 rfl) ?_
                      refine lv_iload hx hb dX4_layWays_72 (lv_at hl 5 rfl) ?_
                      refine lv_iconst (v := nI 4) hx hb dX4_layWays_74 (by decide) ?_
                      refine nv_idiv (x := k) (y := 4) hx hb dX4_layWays_75 (by omega) (by omega) (by decide) ?_
                      refine rd_V (rest := []) (ci := 4) (q0 := 0) ⟨hx, hb, hml, hown, hts⟩ hP hE (c_X4_toll l D K _ _ _ _ _ _ _ _ _ _ _ (k / 4) hI (by omega)) (cwV 1 hts gX4_layWays_X4_toll rfl rfl rfl hd_X4_toll ⟨Nat.le_of_ble_eq_true rfl, Nat.le_of_ble_eq_true rfl⟩) rfl rfl rfl rfl hl.1 rfl (Nat.le_of_ble_eq_true rfl) dX4_layWays_76 ⟨Nat.le_of_ble_eq_true rfl, Nat.le_of_ble_eq_true rfl⟩ ?_
                      refine top_i (y := nI (wgt T m (k / 4))) (congrArg nI (by rw [wgt, if_neg (by omega)])) ?_
                      have hw9 := wgt_le (m := m) (s := k / 4) hI
                      have hb_17 := toll_lt (s := (k / 4)) hI
                      refine lv_goto (tgt := 83) hx hb dX4_layWays_79 (by decide) ?_
                      refine lv_istore (lv' := [(6, .int (nI (wgt T m (k / 4)))), (5, .int (oI (nbT (k / 4) (k % 4)))), (0, .ref (r 0)), (1, .int (nI p)), (2, .int (nI m)), (3, .int (nI mo)), (4, .int (nI k))]) hx hb dX4_layWays_83 hl (by decide) rfl (fun ls hl => ?_)
                      refine lv_iload hx hb dX4_layWays_85 (lv_at hl 1 rfl) ?_
                      refine lv_iconst (v := -1) hx hb dX4_layWays_87 (by decide) ?_
                      refine ov_icmp_eq (tgt := 158) hx hb dX4_layWays_88 (by decide) (lt31 (nb_lt (show (k / 4) < 80 by omega)) (by decide)) (fun c_18 => ?_) (fun k_19 c_18 => ?_)
                      · refine lv_iinc (v := nI (k + 1)) (lv' := [(4, .int (nI (k + 1))), (6, .int (nI (wgt T m (k / 4)))), (5, .int (oI (nbT (k / 4) (k % 4)))), (0, .ref (r 0)), (1, .int (nI p)), (2, .int (nI m)), (3, .int (nI mo))]) hx hb dX4_layWays_158 hl (k := 6) rfl (nI_add _ 1) (by decide) rfl (fun ls hl => ?_)
                        refine lv_goto (tgt := 46) hx hb dX4_layWays_161 (by decide) ?_
                        exact ih_46 (k + 1) f mo (by omega) (hSI.skip (fun a9 h1 _ _ => by rw [c_18] at h1; cases h1)) (by omega) _ _ hP hD hS _ rfl _ rfl ls (lv_sub hl [3, 4, 5, 6, 0] rfl)
                      · have hk_c_18 := (nb_lt (show (k / 4) < 80 by omega)) k_19 c_18
                        refine lv_aload_n hx hb dX4_layWays_91 rfl (lv_at hl 2 rfl) ?_
                        refine va_get (D := D) (ci := 4) (v := .ref (r 5)) (C := RX4) (T := TX4) (N := 13) hx hb hts inX4 hown hE.1 hP 0 rfl rfl 10 (by decide) F22 (fun _ h9 => h9) rfl dX4_layWays_92 ?_
                        refine lv_iload hx hb dX4_layWays_95 (lv_at hl 1 rfl) ?_
                        refine top_i (y := nI k_19) (by rw [c_18]; rfl) ?_
                        refine va_iald hx hb hE.1 hP 5 0 rfl rfl (pk_in k_19 80 (by omega)) dX4_layWays_97 ?_
                        rw [pk_cl k_19]
                        refine top_i (y := nI (f k_19)) (rfl) ?_
                        have hq_20 := hSI.1 k_19 (by omega)
                        have hq_201 := hq_20.2.1
                        refine lv_ldc (v := nI 1000000) hx hb hown C173 dX4_layWays_98 ?_
                        refine nv_icmp_ge (x := f k_19) (y := 1000000) (tgt := 158) hx hb dX4_layWays_100 (by decide) (by omega) (by decide) (fun c_21 => ?_) (fun c_21 => ?_)
                        · have n_c_21 := Nat.not_lt.mpr c_21
                          refine lv_iinc (v := nI (k + 1)) (lv' := [(4, .int (nI (k + 1))), (6, .int (nI (wgt T m (k / 4)))), (5, .int (oI (nbT (k / 4) (k % 4)))), (0, .ref (r 0)), (1, .int (nI p)), (2, .int (nI m)), (3, .int (nI mo))]) hx hb dX4_layWays_158 hl (k := 6) rfl (nI_add _ 1) (by decide) rfl (fun ls hl => ?_)
                          refine lv_goto (tgt := 46) hx hb dX4_layWays_161 (by decide) ?_
                          exact ih_46 (k + 1) f mo (by omega) (hSI.skip (fun a9 h1 h2 h3 => by
        rw [c_18] at h1; cases h1
        first | omega | exact absurd h3 id)) (by omega) _ _ hP hD hS _ rfl _ rfl ls (lv_sub hl [3, 4, 5, 6, 0] rfl)
                        · have n_c_21 := Nat.not_le.mpr c_21
                          refine lv_aload_n hx hb dX4_layWays_103 rfl (lv_at hl 2 rfl) ?_
                          refine lv_iload_n hx hb dX4_layWays_104 rfl (lv_at hl 3 rfl) ?_
                          refine lv_iload hx hb dX4_layWays_105 (lv_at hl 6 rfl) ?_
                          refine lv_iconst (v := nI 4) hx hb dX4_layWays_107 (by decide) ?_
                          refine nv_idiv (x := k) (y := 4) hx hb dX4_layWays_108 (by omega) (by omega) (by decide) ?_
                          refine rd_V (rest := []) (ci := 4) (q0 := 0) ⟨hx, hb, hml, hown, hts⟩ hP hE (c_X4_isOpen l D K _ _ _ _ _ _ _ _ _ _ _ p (k / 4) hI (by omega) (by omega)) (cwV 2 hts gX4_layWays_X4_isOpen rfl rfl rfl hd_X4_isOpen ⟨Nat.le_of_ble_eq_true rfl, Nat.le_of_ble_eq_true rfl⟩) rfl rfl rfl rfl hl.1 rfl (Nat.le_of_ble_eq_true rfl) dX4_layWays_109 ⟨Nat.le_of_ble_eq_true rfl, Nat.le_of_ble_eq_true rfl⟩ ?_
                          refine bv_if_eq (x := opnT T p (k / 4)) (tgt := 158) hx hb dX4_layWays_112 (by decide) (fun c_22 => ?_) (fun c_22 => ?_)
                          · have o_c_22 : ¬ obsT T p (k / 4) = 0 := of_decide_eq_false c_22
                            refine lv_iinc (v := nI (k + 1)) (lv' := [(4, .int (nI (k + 1))), (6, .int (nI (wgt T m (k / 4)))), (5, .int (oI (nbT (k / 4) (k % 4)))), (0, .ref (r 0)), (1, .int (nI p)), (2, .int (nI m)), (3, .int (nI mo))]) hx hb dX4_layWays_158 hl (k := 6) rfl (nI_add _ 1) (by decide) rfl (fun ls hl => ?_)
                            refine lv_goto (tgt := 46) hx hb dX4_layWays_161 (by decide) ?_
                            exact ih_46 (k + 1) f mo (by omega) (hSI.skip (fun a9 h1 h2 h3 => by
        rw [c_18] at h1; cases h1
        first | omega | exact absurd h3 o_c_22)) (by omega) _ _ hP hD hS _ rfl _ rfl ls (lv_sub hl [3, 4, 5, 6, 0] rfl)
                          · have o_c_22 : obsT T p (k / 4) = 0 := of_decide_eq_true c_22
                            refine lv_aload_n hx hb dX4_layWays_115 rfl (lv_at hl 2 rfl) ?_
                            refine va_get (D := D) (ci := 4) (v := .ref (r 5)) (C := RX4) (T := TX4) (N := 13) hx hb hts inX4 hown hE.1 hP 0 rfl rfl 10 (by decide) F22 (fun _ h9 => h9) rfl dX4_layWays_116 ?_
                            refine lv_iload hx hb dX4_layWays_119 (lv_at hl 1 rfl) ?_
                            refine top_i (y := nI k_19) (by rw [c_18]; rfl) ?_
                            refine va_iald hx hb hE.1 hP 5 0 rfl rfl (pk_in k_19 80 (by omega)) dX4_layWays_121 ?_
                            rw [pk_cl k_19]
                            refine top_i (y := nI (f k_19)) (rfl) ?_
                            have hq_23 := hSI.1 k_19 (by omega)
                            have hq_231 := hq_23.2.1
                            refine lv_iload hx hb dX4_layWays_122 (lv_at hl 0 rfl) ?_
                            refine nv_iadd (x := f k_19) (y := wgt T m (k / 4)) hx hb dX4_layWays_124 ?_
                            refine lv_aload_n hx hb dX4_layWays_125 rfl (lv_at hl 2 rfl) ?_
                            refine va_get (D := D) (ci := 4) (v := .ref (r 5)) (C := RX4) (T := TX4) (N := 13) hx hb hts inX4 hown hE.1 hP 0 rfl rfl 10 (by decide) F22 (fun _ h9 => h9) rfl dX4_layWays_126 ?_
                            refine lv_iload hx hb dX4_layWays_129 (lv_at hl 6 rfl) ?_
                            refine lv_iconst (v := nI 4) hx hb dX4_layWays_131 (by decide) ?_
                            refine nv_idiv (x := k) (y := 4) hx hb dX4_layWays_132 (by omega) (by omega) (by decide) ?_
                            refine va_iald hx hb hE.1 hP 5 0 rfl rfl (pk_in (k / 4) 80 (by omega)) dX4_layWays_133 ?_
                            rw [pk_cl (k / 4)]
                            refine top_i (y := nI (f (k / 4))) (rfl) ?_
                            have hq_24 := hSI.1 (k / 4) (by omega)
                            have hq_241 := hq_24.2.1
                            refine nv_icmp_ge (x := (f k_19) + (wgt T m (k / 4))) (y := f (k / 4)) (tgt := 158) hx hb dX4_layWays_134 (by decide) (by omega) (by omega) (fun c_25 => ?_) (fun c_25 => ?_)
                            · have n_c_25 := Nat.not_lt.mpr c_25
                              refine lv_iinc (v := nI (k + 1)) (lv' := [(4, .int (nI (k + 1))), (6, .int (nI (wgt T m (k / 4)))), (5, .int (oI (nbT (k / 4) (k % 4)))), (0, .ref (r 0)), (1, .int (nI p)), (2, .int (nI m)), (3, .int (nI mo))]) hx hb dX4_layWays_158 hl (k := 6) rfl (nI_add _ 1) (by decide) rfl (fun ls hl => ?_)
                              refine lv_goto (tgt := 46) hx hb dX4_layWays_161 (by decide) ?_
                              exact ih_46 (k + 1) f mo (by omega) (hSI.skip (fun a9 h1 h2 h3 => by
        rw [c_18] at h1; cases h1
        first | omega | exact absurd h3 o_c_22)) (by omega) _ _ hP hD hS _ rfl _ rfl ls (lv_sub hl [3, 4, 5, 6, 0] rfl)
                            · have n_c_25 := Nat.not_le.mpr c_25
                              refine lv_aload_n hx hb dX4_layWays_137 rfl (lv_at hl 2 rfl) ?_
                              refine va_get (D := D) (ci := 4) (v := .ref (r 5)) (C := RX4) (T := TX4) (N := 13) hx hb hts inX4 hown hE.1 hP 0 rfl rfl 10 (by decide) F22 (fun _ h9 => h9) rfl dX4_layWays_138 ?_
                              refine lv_iload hx hb dX4_layWays_141 (lv_at hl 6 rfl) ?_
                              refine lv_iconst (v := nI 4) hx hb dX4_layWays_143 (by decide) ?_
                              refine nv_idiv (x := k) (y := 4) hx hb dX4_layWays_144 (by omega) (by omega) (by decide) ?_
                              refine lv_aload_n hx hb dX4_layWays_145 rfl (lv_at hl 2 rfl) ?_
                              refine va_get (D := D) (ci := 4) (v := .ref (r 5)) (C := RX4) (T := TX4) (N := 13) hx hb hts inX4 hown hE.1 hP 0 rfl rfl 10 (by decide) F22 (fun _ h9 => h9) rfl dX4_layWays_146 ?_
                              refine lv_iload hx hb dX4_layWays_149 (lv_at hl 1 rfl) ?_
                              refine top_i (y := nI k_19) (by rw [c_18]; rfl) ?_
                              refine va_iald hx hb hE.1 hP 5 0 rfl rfl (pk_in k_19 80 (by omega)) dX4_layWays_151 ?_
                              rw [pk_cl k_19]
                              refine top_i (y := nI (f k_19)) (rfl) ?_
                              have hq_26 := hSI.1 k_19 (by omega)
                              have hq_261 := hq_26.2.1
                              refine lv_iload hx hb dX4_layWays_152 (lv_at hl 0 rfl) ?_
                              refine nv_iadd (x := f k_19) (y := wgt T m (k / 4)) hx hb dX4_layWays_154 ?_
                              refine va_iast hx hb hE.1 hP hD hS 5 0 rfl rfl (pk_in (k / 4) 80 (by omega)) dX4_layWays_155 (fun H locs hP hD hS => ?_)
                              rw [pk_cl (k / 4)] at hP hD
                              rw [updNN f (k / 4) ((f k_19) + (wgt T m (k / 4)))] at hP hD
                              have hP : va_P D vwCl (refO r th (nI sn) (nI ln) (nI pm) pn (nI sta) (nI ms) hs :: zC K r T :: sC K r sv :: bC K r cs :: pC K r pf :: fC K r (va_up f (k / 4) ((f k_19) + (wgt T m (k / 4)))) :: Y) H := hP
                              have hD : va_D A (refO r th (nI sn) (nI ln) (nI pm) pn (nI sta) (nI ms) hs :: zC K r T :: sC K r sv :: bC K r cs :: pC K r pf :: fC K r (va_up f (k / 4) ((f k_19) + (wgt T m (k / 4)))) :: Y) := hD
                              refine lv_iconst (v := nI 1) hx hb dX4_layWays_156 (by decide) ?_
                              refine lv_istore_n (lv' := [(3, .int (nI 1)), (6, .int (nI (wgt T m (k / 4)))), (5, .int (oI (nbT (k / 4) (k % 4)))), (0, .ref (r 0)), (1, .int (nI p)), (2, .int (nI m)), (4, .int (nI k))]) hx hb dX4_layWays_157 rfl hl (by decide) rfl (fun ls hl => ?_)
                              refine lv_iinc (v := nI (k + 1)) (lv' := [(4, .int (nI (k + 1))), (3, .int (nI 1)), (6, .int (nI (wgt T m (k / 4)))), (5, .int (oI (nbT (k / 4) (k % 4)))), (0, .ref (r 0)), (1, .int (nI p)), (2, .int (nI m))]) hx hb dX4_layWays_158 hl (k := 6) rfl (nI_add _ 1) (by decide) rfl (fun ls hl => ?_)
                              refine lv_goto (tgt := 46) hx hb dX4_layWays_161 (by decide) ?_
                              exact ih_46 (k + 1) (va_up f (k / 4) ((f k_19) + (wgt T m (k / 4)))) 1 (by omega) (hSI.step hDS (by omega) c_18 (by omega) (by omega) o_c_22 (by omega)) (by omega) _ _ hP hD hS _ rfl _ rfl ls (lv_sub hl [4, 5, 6, 1, 0] rfl)
              exact loop_5 _ 0 f0 0 (by decide) (SI.start hFI) (Nat.lt_succ_self _) _ _ hP hD hS _ rfl _ rfl ls (lv_sub hl [2, 3, 4, 1, 0] rfl)
        exact loop_3 _ f 1 (fi_ini hDS (fun s9 q9 => hf s9 (by omega))) (by decide) (fun q9 => by cases q9) (Nat.lt_succ_self _) _ _ hP hD hS _ rfl ls (lv_sub hl [1, 2, 3, 0] rfl)
      · have n_c_2 := Nat.not_le.mpr c_2
        refine lv_aload_n hx hb dX4_layWays_8 rfl (lv_at hl 0 rfl) ?_
        refine va_get (D := D) (ci := 4) (v := .ref (r 5)) (C := RX4) (T := TX4) (N := 13) hx hb hts inX4 hown hE.1 hP 0 rfl rfl 10 (by decide) F22 (fun _ h9 => h9) rfl dX4_layWays_9 ?_
        refine lv_iload_n hx hb dX4_layWays_12 rfl (lv_at hl 3 rfl) ?_
        refine lv_aload_n hx hb dX4_layWays_13 rfl (lv_at hl 0 rfl) ?_
        refine lv_iload_n hx hb dX4_layWays_14 rfl (lv_at hl 1 rfl) ?_
        refine lv_iload_n hx hb dX4_layWays_15 rfl (lv_at hl 3 rfl) ?_
        refine rd_V (rest := [.int (nI i), .ref (r 5)]) (ci := 4) (q0 := 0) ⟨hx, hb, hml, hown, hts⟩ hP hE (c_X4_hasTrack l D K _ _ _ _ _ _ _ _ _ _ _ p i hI (by omega) (by omega)) (cwV 2 hts gX4_layWays_X4_hasTrack rfl rfl rfl hd_X4_hasTrack ⟨Nat.le_of_ble_eq_true rfl, Nat.le_of_ble_eq_true rfl⟩) rfl rfl rfl rfl hl.1 rfl (Nat.le_of_ble_eq_true rfl) dX4_layWays_16 ⟨Nat.le_of_ble_eq_true rfl, Nat.le_of_ble_eq_true rfl⟩ ?_
        refine bv_if_eq (x := hasT T p i) (tgt := 26) hx hb dX4_layWays_19 (by decide) (fun c_27 => ?_) (fun c_27 => ?_)
        · refine lv_ldc (v := nI 1000000) hx hb hown C173 dX4_layWays_26 ?_
          refine va_iast hx hb hE.1 hP hD hS 5 0 rfl rfl (pk_in i 80 (by omega)) dX4_layWays_28 (fun H locs hP hD hS => ?_)
          rw [pk_cl i] at hP hD
          rw [updNN f i 1000000] at hP hD
          have hP : va_P D vwCl (refO r th (nI sn) (nI ln) (nI pm) pn (nI sta) (nI ms) hs :: zC K r T :: sC K r sv :: bC K r cs :: pC K r pf :: fC K r (va_up f i 1000000) :: Y) H := hP
          have hD : va_D A (refO r th (nI sn) (nI ln) (nI pm) pn (nI sta) (nI ms) hs :: zC K r T :: sC K r sv :: bC K r cs :: pC K r pf :: fC K r (va_up f i 1000000) :: Y) := hD
          refine lv_iinc (v := nI (i + 1)) (lv' := [(3, .int (nI (i + 1))), (0, .ref (r 0)), (1, .int (nI p)), (2, .int (nI m))]) hx hb dX4_layWays_29 hl (k := 3) rfl (nI_add _ 1) (by decide) rfl (fun ls hl => ?_)
          refine lv_goto (tgt := 2) hx hb dX4_layWays_32 (by decide) ?_
          exact ih_2 (i + 1) (va_up f i 1000000) (by omega) (fun s9 q9 => by
        unfold va_up
        by_cases e9 : s9 = i
        · rw [if_pos e9, e9, c_27]; rfl
        · rw [if_neg e9]; exact hf s9 (by omega)) (by omega) _ _ hP hD hS _ rfl ls (lv_sub hl [1, 2, 3, 0] rfl)
        · refine lv_iconst (v := nI 0) hx hb dX4_layWays_22 (by decide) ?_
          refine lv_goto (tgt := 28) hx hb dX4_layWays_23 (by decide) ?_
          refine va_iast hx hb hE.1 hP hD hS 5 0 rfl rfl (pk_in i 80 (by omega)) dX4_layWays_28 (fun H locs hP hD hS => ?_)
          rw [pk_cl i] at hP hD
          rw [updNN f i 0] at hP hD
          have hP : va_P D vwCl (refO r th (nI sn) (nI ln) (nI pm) pn (nI sta) (nI ms) hs :: zC K r T :: sC K r sv :: bC K r cs :: pC K r pf :: fC K r (va_up f i 0) :: Y) H := hP
          have hD : va_D A (refO r th (nI sn) (nI ln) (nI pm) pn (nI sta) (nI ms) hs :: zC K r T :: sC K r sv :: bC K r cs :: pC K r pf :: fC K r (va_up f i 0) :: Y) := hD
          refine lv_iinc (v := nI (i + 1)) (lv' := [(3, .int (nI (i + 1))), (0, .ref (r 0)), (1, .int (nI p)), (2, .int (nI m))]) hx hb dX4_layWays_29 hl (k := 3) rfl (nI_add _ 1) (by decide) rfl (fun ls hl => ?_)
          refine lv_goto (tgt := 2) hx hb dX4_layWays_32 (by decide) ?_
          exact ih_2 (i + 1) (va_up f i 0) (by omega) (fun s9 q9 => by
        unfold va_up
        by_cases e9 : s9 = i
        · rw [if_pos e9, e9, c_27]; rfl
        · rw [if_neg e9]; exact hf s9 (by omega)) (by omega) _ _ hP hD hS _ rfl ls (lv_sub hl [1, 2, 3, 0] rfl)
  exact loop_1 _ 0 fa (by decide) (fun s9 q9 => absurd q9 (Nat.not_lt_zero _)) (Nat.lt_succ_self _) _ _ hP hD hS _ rfl ls (lv_sub hl [1, 2, 3, 0] rfl)
set_option maxHeartbeats 4000000 in
set_option maxRecDepth 100000 in
theorem c_X4_wayTo (l : Launch) (D : va_G) (K : Nat → ClassId) (sz : Nat) (r : Nat → Nat) (th pn : Int32) (sn ln pm sta ms : Nat) (hs : Int64) (T : TW) (sv : Nat → Int32) (cs : Nat → Nat) (pf : Nat → Int32) (fa : Nat → Nat) (Y : va_W) (p b m : Nat) (hI : Inv T) (hp : p < 4) (hb80 : b < 80) (hm2 : m < 2) : Wr l yX4_wayTo wsX4_wayTo ({ frames := 4, cells := 0, slots := 0, locals := 83 } : Room) D K (refO r th (nI sn) (nI ln) (nI pm) pn (nI sta) (nI ms) hs :: zC K r T :: sC K r sv :: bC K r cs :: pC K r pf :: fC K r fa :: Y) sz [.ref (r 0), .int (nI p), .int (nI b), .int (nI m)] (refO r th (nI sn) (nI ln) (nI pm) pn (nI sta) (nI ms) hs :: zC K r T :: sC K r sv :: bC K r cs :: pC K r pf :: fC K r (dst T p m) :: Y) (some (.int (oI (wyO (dst T p m b))))) 0 0 := by
  refine wr_intro (cc := cX4_wayTo) (maxL := 4) (ret := (some .int)) (by decide) rfl (Nat.le_of_ble_eq_true rfl) ?_
  intro pr en st md ar bl mt co A hx hb hml hr hts hown hk hsz hAe hP hE hD hS hA hin ls hl
  have hown : st.vm.findClass RX4 = some md.cls := hown
  have hl : lv_has ls 4 [(0, .ref (r 0)), (1, .int (nI p)), (2, .int (nI b)), (3, .int (nI m))] := hl
  have htop := dst_top T p m b
  obtain ⟨H, hH⟩ : ∃ z, z = st.heap := ⟨_, rfl⟩
  obtain ⟨locs, hlo⟩ : ∃ z : List Loc, z = [] := ⟨_, rfl⟩
  have hP : va_P D vwCl (refO r th (nI sn) (nI ln) (nI pm) pn (nI sta) (nI ms) hs :: zC K r T :: sC K r sv :: bC K r cs :: pC K r pf :: fC K r fa :: Y) H := by rw [hH]; exact hP
  have hS : va_S A st.heap H locs := by rw [hH, hlo]; exact hS
  suffices go : W pr l en (headSpec wsX4_wayTo ({ frames := 4, cells := 0, slots := 0, locals := 83 } : Room)).room st md ar bl mt co H locs 0 0 (MQ bl (wrQ D (refO r th (nI sn) (nI ln) (nI pm) pn (nI sta) (nI ms) hs :: zC K r T :: sC K r sv :: bC K r cs :: pC K r pf :: fC K r fa :: Y) (refO r th (nI sn) (nI ln) (nI pm) pn (nI sta) (nI ms) hs :: zC K r T :: sC K r sv :: bC K r cs :: pC K r pf :: fC K r (dst T p m) :: Y) sz (some (.int (oI (wyO (dst T p m b)))))) ar st 0 0 A) (F0 md 0 ls []) by rw [hH, hlo] at go; exact go
  clear hH hlo
  have F22 : (Cond.fieldLink RX4 22 "TramTollsModel" "far" "[I").before ar st = true := hts _ (List.mem_of_getElem? (i := 1) rfl)
  have inX4 : ∀ w ∈ u_ws RX4 TX4 13, w ∈ wsX4_wayTo := fun w h => List.mem_cons_of_mem _ (List.mem_append_right _ h)
  have C173 : (Cond.constant RX4 173 (1000000)).before ar st = true := hts _ (List.mem_of_getElem? (i := 2) rfl)
  refine lv_aload_n hx hb dX4_wayTo_0 rfl (lv_at hl 0 rfl) ?_
  refine lv_iload_n hx hb dX4_wayTo_1 rfl (lv_at hl 1 rfl) ?_
  refine lv_iload_n hx hb dX4_wayTo_2 rfl (lv_at hl 3 rfl) ?_
  refine wr_V (rest := []) (ci := 4) (q0 := 0) ⟨hx, hb, hml, hown, hts⟩ hP hE hA hD hS (c_X4_layWays l D K _ _ _ _ _ _ _ _ _ _ _ _ _ _ _ _ p m hI (by omega) (by omega)) (cwV 2 hts gX4_wayTo_X4_layWays rfl rfl rfl hd_X4_layWays ⟨Nat.le_of_ble_eq_true rfl, Nat.le_of_ble_eq_true rfl⟩) rfl rfl rfl rfl hl.1 rfl (Nat.le_of_ble_eq_true rfl) dX4_wayTo_3 ⟨Nat.le_of_ble_eq_true rfl, Nat.le_of_ble_eq_true rfl⟩ (fun H locs hP hD hS => ?_)
  have hP : va_P D vwCl (refO r th (nI sn) (nI ln) (nI pm) pn (nI sta) (nI ms) hs :: zC K r T :: sC K r sv :: bC K r cs :: pC K r pf :: fC K r (dst T p m) :: Y) H := hP
  have hD : va_D A (refO r th (nI sn) (nI ln) (nI pm) pn (nI sta) (nI ms) hs :: zC K r T :: sC K r sv :: bC K r cs :: pC K r pf :: fC K r (dst T p m) :: Y) := hD
  refine lv_aload_n hx hb dX4_wayTo_6 rfl (lv_at hl 0 rfl) ?_
  refine va_get (D := D) (ci := 4) (v := .ref (r 5)) (C := RX4) (T := TX4) (N := 13) hx hb hts inX4 hown hE.1 hP 0 rfl rfl 10 (by decide) F22 (fun _ h9 => h9) rfl dX4_wayTo_7 ?_
  refine lv_iload_n hx hb dX4_wayTo_10 rfl (lv_at hl 2 rfl) ?_
  refine va_iald hx hb hE.1 hP 5 0 rfl rfl (pk_in b 80 (by omega)) dX4_wayTo_11 ?_
  rw [pk_cl b]
  refine top_i (y := nI ((dst T p m) b)) (rfl) ?_
  refine lv_ldc (v := nI 1000000) hx hb hown C173 dX4_wayTo_12 ?_
  refine nv_icmp_ge (x := (dst T p m) b) (y := 1000000) (tgt := 26) hx hb dX4_wayTo_14 (by decide) (by omega) (by decide) (fun c_1 => ?_) (fun c_1 => ?_)
  · have n_c_1 := Nat.not_lt.mpr c_1
    refine lv_iconst (v := -1) hx hb dX4_wayTo_26 (by decide) ?_
    exact wr_iret hAe hP hD hS hx hb hr hk dX4_wayTo_27 ⟨Nat.le_of_ble_eq_true rfl, Nat.le_of_ble_eq_true rfl⟩ (by simp [wyO, oI_n, oI_s, c_1, n_c_1])
  · have n_c_1 := Nat.not_le.mpr c_1
    refine lv_aload_n hx hb dX4_wayTo_17 rfl (lv_at hl 0 rfl) ?_
    refine va_get (D := D) (ci := 4) (v := .ref (r 5)) (C := RX4) (T := TX4) (N := 13) hx hb hts inX4 hown hE.1 hP 0 rfl rfl 10 (by decide) F22 (fun _ h9 => h9) rfl dX4_wayTo_18 ?_
    refine lv_iload_n hx hb dX4_wayTo_21 rfl (lv_at hl 2 rfl) ?_
    refine va_iald hx hb hE.1 hP 5 0 rfl rfl (pk_in b 80 (by omega)) dX4_wayTo_22 ?_
    rw [pk_cl b]
    refine top_i (y := nI ((dst T p m) b)) (rfl) ?_
    refine lv_goto (tgt := 27) hx hb dX4_wayTo_23 (by decide) ?_
    exact wr_iret hAe hP hD hS hx hb hr hk dX4_wayTo_27 ⟨Nat.le_of_ble_eq_true rfl, Nat.le_of_ble_eq_true rfl⟩ (by simp [wyO, oI_n, oI_s, c_1, n_c_1])
set_option maxHeartbeats 4000000 in
set_option maxRecDepth 100000 in
theorem c_X4_farWith (l : Launch) (D : va_G) (K : Nat → ClassId) (sz : Nat) (r : Nat → Nat) (th pn : Int32) (sn ln pm sta ms : Nat) (hs : Int64) (T : TW) (sv : Nat → Int32) (cs : Nat → Nat) (pf : Nat → Int32) (fa : Nat → Nat) (Y : va_W) (p to : Nat) (hI : Inv T) (hp : p < 4) (hto : to < 80) (hms : ms = misM T p 12) : Wr l yX4_farWith wsX4_farWith ({ frames := 4, cells := 0, slots := 0, locals := 83 } : Room) D K (refO r th (nI sn) (nI ln) (nI pm) pn (nI sta) (nI ms) hs :: zC K r T :: sC K r sv :: bC K r cs :: pC K r pf :: fC K r fa :: Y) sz [.ref (r 0), .int (nI p), .int (nI to)] (refO r th (nI sn) (nI ln) (nI pm) pn (nI sta) (nI ms) hs :: zC K r T :: sC K r sv :: bC K r cs :: pC K r pf :: fC K r (frD T p to) :: Y) (some (.int (nI (frN T p to)))) 0 0 := by
  refine wr_intro (cc := cX4_farWith) (maxL := 6) (ret := (some .int)) (by decide) rfl (Nat.le_of_ble_eq_true rfl) ?_
  intro pr en st md ar bl mt co A hx hb hml hr hts hown hk hsz hAe hP hE hD hS hA hin ls hl
  have hown : st.vm.findClass RX4 = some md.cls := hown
  have hl : lv_has ls 6 [(0, .ref (r 0)), (1, .int (nI p)), (2, .int (nI to))] := hl
  have hms2 : ms < 4096 := by rw [hms]; exact (mis_bit T p 12 0).1
  have hIm := hI.mark hp hto
  obtain ⟨H, hH⟩ : ∃ z, z = st.heap := ⟨_, rfl⟩
  obtain ⟨locs, hlo⟩ : ∃ z : List Loc, z = [] := ⟨_, rfl⟩
  have hP : va_P D vwCl (refO r th (nI sn) (nI ln) (nI pm) pn (nI sta) (nI ms) hs :: zC K r T :: sC K r sv :: bC K r cs :: pC K r pf :: fC K r fa :: Y) H := by rw [hH]; exact hP
  have hS : va_S A st.heap H locs := by rw [hH, hlo]; exact hS
  suffices go : W pr l en (headSpec wsX4_farWith ({ frames := 4, cells := 0, slots := 0, locals := 83 } : Room)).room st md ar bl mt co H locs 0 0 (MQ bl (wrQ D (refO r th (nI sn) (nI ln) (nI pm) pn (nI sta) (nI ms) hs :: zC K r T :: sC K r sv :: bC K r cs :: pC K r pf :: fC K r fa :: Y) (refO r th (nI sn) (nI ln) (nI pm) pn (nI sta) (nI ms) hs :: zC K r T :: sC K r sv :: bC K r cs :: pC K r pf :: fC K r (frD T p to) :: Y) sz (some (.int (nI (frN T p to))))) ar st 0 0 A) (F0 md 0 ls []) by rw [hH, hlo] at go; exact go
  clear hH hlo
  have F7 : (Cond.fieldLink RX4 7 "TramTollsModel" "z" "[I").before ar st = true := hts _ (List.mem_of_getElem? (i := 1) rfl)
  have inX4 : ∀ w ∈ u_ws RX4 TX4 13, w ∈ wsX4_farWith := fun w h => List.mem_cons_of_mem _ (List.mem_append_right _ h)
  have C173 : (Cond.constant RX4 173 (1000000)).before ar st = true := hts _ (List.mem_of_getElem? (i := 2) rfl)
  have F185 : (Cond.fieldLink RX4 185 "TramTollsModel" "missing" "I").before ar st = true := hts _ (List.mem_of_getElem? (i := 3) rfl)
  have F22 : (Cond.fieldLink RX4 22 "TramTollsModel" "far" "[I").before ar st = true := hts _ (List.mem_of_getElem? (i := 4) rfl)
  refine lv_aload_n hx hb dX4_farWith_0 rfl (lv_at hl 0 rfl) ?_
  refine va_get (D := D) (ci := 4) (v := .ref (r 1)) (C := RX4) (T := TX4) (N := 13) hx hb hts inX4 hown hE.1 hP 0 rfl rfl 1 (by decide) F7 (fun _ h9 => h9) rfl dX4_farWith_1 ?_
  refine lv_bipush (v := nI 84) hx hb dX4_farWith_4 (by decide) ?_
  refine lv_iload_n hx hb dX4_farWith_6 rfl (lv_at hl 2 rfl) ?_
  refine nv_iadd (x := 84) (y := to) hx hb dX4_farWith_7 ?_
  refine va_iald hx hb hE.1 hP 1 0 rfl rfl (pk_in (84 + to) 288 (by omega)) dX4_farWith_8 ?_
  rw [pk_cl (84 + to)]
  refine top_i (y := nI (mkT T to)) (((congrArg (zT T) (show 84 + to = 84 + to from by omega)).trans (zT_mk (by omega))).trans (show T 1 to = nI (mkT T to) from eq_mk hI (by omega))) ?_
  have hb_1 := mk_lt hI (show to < 80 by omega)
  refine lv_istore_n (lv' := [(3, .int (nI (mkT T to))), (0, .ref (r 0)), (1, .int (nI p)), (2, .int (nI to))]) hx hb dX4_farWith_9 rfl hl (by decide) rfl (fun ls hl => ?_)
  refine lv_aload_n hx hb dX4_farWith_10 rfl (lv_at hl 1 rfl) ?_
  refine va_get (D := D) (ci := 4) (v := .ref (r 1)) (C := RX4) (T := TX4) (N := 13) hx hb hts inX4 hown hE.1 hP 0 rfl rfl 1 (by decide) F7 (fun _ h9 => h9) rfl dX4_farWith_11 ?_
  refine lv_bipush (v := nI 84) hx hb dX4_farWith_14 (by decide) ?_
  refine lv_iload_n hx hb dX4_farWith_16 rfl (lv_at hl 3 rfl) ?_
  refine nv_iadd (x := 84) (y := to) hx hb dX4_farWith_17 ?_
  refine lv_iload_n hx hb dX4_farWith_18 rfl (lv_at hl 0 rfl) ?_
  refine lv_iconst (v := nI 1) hx hb dX4_farWith_19 (by decide) ?_
  refine lv_iload_n hx hb dX4_farWith_20 rfl (lv_at hl 2 rfl) ?_
  refine nv_ishl1 (y := p) hx hb dX4_farWith_21 (by omega) ?_
  refine nv_ior (x := mkT T to) (y := 2 ^ p) hx hb dX4_farWith_22 ?_
  refine va_iast hx hb hE.1 hP hD hS 1 0 rfl rfl (pk_in (84 + to) 288 (by omega)) dX4_farWith_23 (fun H locs hP hD hS => ?_)
  rw [pk_cl (84 + to)] at hP hD
  rw [show upd (zT T) (84 + to) (nI (mkT T to ||| 2 ^ p)) = zT (mrk T p to) from zU_mk (by omega)] at hP hD
  have hP : va_P D vwCl (refO r th (nI sn) (nI ln) (nI pm) pn (nI sta) (nI ms) hs :: zC K r (mrk T p to) :: sC K r sv :: bC K r cs :: pC K r pf :: fC K r fa :: Y) H := hP
  have hD : va_D A (refO r th (nI sn) (nI ln) (nI pm) pn (nI sta) (nI ms) hs :: zC K r (mrk T p to) :: sC K r sv :: bC K r cs :: pC K r pf :: fC K r fa :: Y) := hD
  refine lv_aload_n hx hb dX4_farWith_24 rfl (lv_at hl 1 rfl) ?_
  refine lv_iload_n hx hb dX4_farWith_25 rfl (lv_at hl 2 rfl) ?_
  refine lv_iconst (v := nI 0) hx hb dX4_farWith_26 (by decide) ?_
  refine wr_V (rest := []) (ci := 4) (q0 := 0) ⟨hx, hb, hml, hown, hts⟩ hP hE hA hD hS (c_X4_layWays l D K _ _ _ _ _ _ _ _ _ _ _ _ _ _ _ _ p 0 hIm (by omega) (by omega)) (cwV 2 hts gX4_farWith_X4_layWays rfl rfl rfl hd_X4_layWays ⟨Nat.le_of_ble_eq_true rfl, Nat.le_of_ble_eq_true rfl⟩) rfl rfl rfl rfl hl.1 rfl (Nat.le_of_ble_eq_true rfl) dX4_farWith_27 ⟨Nat.le_of_ble_eq_true rfl, Nat.le_of_ble_eq_true rfl⟩ (fun H locs hP hD hS => ?_)
  have hP : va_P D vwCl (refO r th (nI sn) (nI ln) (nI pm) pn (nI sta) (nI ms) hs :: zC K r (mrk T p to) :: sC K r sv :: bC K r cs :: pC K r pf :: fC K r (dst (mrk T p to) p 0) :: Y) H := hP
  have hD : va_D A (refO r th (nI sn) (nI ln) (nI pm) pn (nI sta) (nI ms) hs :: zC K r (mrk T p to) :: sC K r sv :: bC K r cs :: pC K r pf :: fC K r (dst (mrk T p to) p 0) :: Y) := hD
  refine lv_aload_n hx hb dX4_farWith_30 rfl (lv_at hl 1 rfl) ?_
  refine va_get (D := D) (ci := 4) (v := .ref (r 1)) (C := RX4) (T := TX4) (N := 13) hx hb hts inX4 hown hE.1 hP 0 rfl rfl 1 (by decide) F7 (fun _ h9 => h9) rfl dX4_farWith_31 ?_
  refine lv_bipush (v := nI 84) hx hb dX4_farWith_34 (by decide) ?_
  refine lv_iload_n hx hb dX4_farWith_36 rfl (lv_at hl 3 rfl) ?_
  refine nv_iadd (x := 84) (y := to) hx hb dX4_farWith_37 ?_
  refine lv_iload_n hx hb dX4_farWith_38 rfl (lv_at hl 0 rfl) ?_
  refine va_iast hx hb hE.1 hP hD hS 1 0 rfl rfl (pk_in (84 + to) 288 (by omega)) dX4_farWith_39 (fun H locs hP hD hS => ?_)
  rw [pk_cl (84 + to)] at hP hD
  rw [show upd (zT (mrk T p to)) (84 + to) (nI (mkT T to)) = zT T from (zU_mk (by omega)).trans (congrArg zT (mrk_back (eq_mk hI hto).symm))] at hP hD
  have hP : va_P D vwCl (refO r th (nI sn) (nI ln) (nI pm) pn (nI sta) (nI ms) hs :: zC K r T :: sC K r sv :: bC K r cs :: pC K r pf :: fC K r (dst (mrk T p to) p 0) :: Y) H := hP
  have hD : va_D A (refO r th (nI sn) (nI ln) (nI pm) pn (nI sta) (nI ms) hs :: zC K r T :: sC K r sv :: bC K r cs :: pC K r pf :: fC K r (dst (mrk T p to) p 0) :: Y) := hD
  refine lv_ldc (v := nI 1000000) hx hb hown C173 dX4_farWith_40 ?_
  refine lv_istore (lv' := [(4, .int (nI 1000000)), (3, .int (nI (mkT T to))), (0, .ref (r 0)), (1, .int (nI p)), (2, .int (nI to))]) hx hb dX4_farWith_42 hl (by decide) rfl (fun ls hl => ?_)
  refine lv_iconst (v := nI 0) hx hb dX4_farWith_44 (by decide) ?_
  refine lv_istore (lv' := [(5, .int (nI 0)), (4, .int (nI 1000000)), (3, .int (nI (mkT T to))), (0, .ref (r 0)), (1, .int (nI p)), (2, .int (nI to))]) hx hb dX4_farWith_45 hl (by decide) rfl (fun ls hl => ?_)
  have loop_2 : ∀ (n_47 : Nat) (i : Nat), (i ≤ 12) → (12 - i) < n_47 → ∀ (H : Heap) (locs : List Loc), va_P D vwCl (refO r th (nI sn) (nI ln) (nI pm) pn (nI sta) (nI ms) hs :: zC K r T :: sC K r sv :: bC K r cs :: pC K r pf :: fC K r (frD T p to) :: Y) H → va_D A (refO r th (nI sn) (nI ln) (nI pm) pn (nI sta) (nI ms) hs :: zC K r T :: sC K r sv :: bC K r cs :: pC K r pf :: fC K r (frD T p to) :: Y) → va_S A st.heap H locs →  ∀ x_4 : Int32, x_4 = nI (nrD T p (frD T p to) i) → ∀ x_5 : Int32, x_5 = nI i → ∀ ls : Array Slot, lv_has ls 6 [(0, .ref (r 0)), (1, .int (nI p)), (2, .int (nI to)), (4, .int x_4), (5, .int x_5)] → W pr l en (headSpec wsX4_farWith ({ frames := 4, cells := 0, slots := 0, locals := 83 } : Room)).room st md ar bl mt co H locs 0 0 (MQ bl (wrQ D (refO r th (nI sn) (nI ln) (nI pm) pn (nI sta) (nI ms) hs :: zC K r T :: sC K r sv :: bC K r cs :: pC K r pf :: fC K r fa :: Y) (refO r th (nI sn) (nI ln) (nI pm) pn (nI sta) (nI ms) hs :: zC K r T :: sC K r sv :: bC K r cs :: pC K r pf :: fC K r (frD T p to) :: Y) sz (some (.int (nI (frN T p to))))) ar st 0 0 A) (F0 md 47 ls []) := by
    intro n_47
    induction n_47 with
    | zero => intro i _ hn_47; exact absurd hn_47 (Nat.not_lt_zero _)
    | succ n_47 ih_47 =>
      intro i hi hn_47 H locs hP hD hS x_4 ex_4 x_5 ex_5 ls hl
      subst ex_4
      subst ex_5
      have hl : lv_has ls 6 [(0, .ref (r 0)), (1, .int (nI p)), (2, .int (nI to)), (4, .int (nI (nrD T p (frD T p to) i))), (5, .int (nI i))] := hl
      have hnr := nrD_le T p (frD T p to) i
      refine lv_iload hx hb dX4_farWith_47 (lv_at hl 4 rfl) ?_
      refine lv_bipush (v := nI 12) hx hb dX4_farWith_49 (by decide) ?_
      refine nv_icmp_ge (x := i) (y := 12) (tgt := 107) hx hb dX4_farWith_51 (by decide) (by omega) (by decide) (fun c_3 => ?_) (fun c_3 => ?_)
      · have n_c_3 := Nat.not_lt.mpr c_3
        refine lv_iload hx hb dX4_farWith_107 (lv_at hl 3 rfl) ?_
        exact wr_iret hAe hP hD hS hx hb hr hk dX4_farWith_109 ⟨Nat.le_of_ble_eq_true rfl, Nat.le_of_ble_eq_true rfl⟩ (by rw [show i = 12 from by omega]; rfl)
      · have n_c_3 := Nat.not_le.mpr c_3
        refine lv_aload_n hx hb dX4_farWith_54 rfl (lv_at hl 0 rfl) ?_
        refine va_get (D := D) (ci := 4) (v := .int (nI ms)) (C := RX4) (T := TX4) (N := 13) hx hb hts inX4 hown hE.1 hP 0 rfl rfl 11 (by decide) F185 (fun _ h9 => h9) rfl dX4_farWith_55 ?_
        refine lv_iload hx hb dX4_farWith_58 (lv_at hl 4 rfl) ?_
        refine nv_ishr (x := ms) (y := i) hx hb dX4_farWith_60 (by omega) (by omega) ?_
        have hb_4 := Nat.div_le_self (ms) (2 ^ i)
        refine lv_iconst (v := nI 1) hx hb dX4_farWith_61 (by decide) ?_
        refine nv_iand (x := ms / 2 ^ i) (y := 1) hx hb dX4_farWith_62 ?_
        have hb_5 := Nat.and_le_left (n := ms / 2 ^ i) (m := 1)
        refine lv_iconst (v := nI 1) hx hb dX4_farWith_63 (by decide) ?_
        refine nv_icmp_ne (x := (ms / 2 ^ i) &&& 1) (y := 1) (tgt := 97) hx hb dX4_farWith_64 (by decide) (by omega) (by decide) (fun c_6 => ?_) (fun c_6 => ?_)
        · have mi_c_6 : ¬ missT T p i = true := fun q9 => c_6 ((by rw [hms]; exact (mis_bit T p 12 i).2.mpr ⟨by omega, q9⟩))
          refine lv_iload hx hb dX4_farWith_97 (lv_at hl 3 rfl) ?_
          refine lv_istore (lv' := [(4, .int (nI (nrD T p (frD T p to) i))), (0, .ref (r 0)), (1, .int (nI p)), (2, .int (nI to)), (5, .int (nI i))]) hx hb dX4_farWith_99 hl (by decide) rfl (fun ls hl => ?_)
          refine lv_iinc (v := nI (i + 1)) (lv' := [(5, .int (nI (i + 1))), (4, .int (nI (nrD T p (frD T p to) i))), (0, .ref (r 0)), (1, .int (nI p)), (2, .int (nI to))]) hx hb dX4_farWith_101 hl (k := 4) rfl (nI_add _ 1) (by decide) rfl (fun ls hl => ?_)
          refine lv_goto (tgt := 47) hx hb dX4_farWith_104 (by decide) ?_
          exact ih_47 (i + 1) (by omega) (by omega) _ _ hP hD hS _ (congrArg nI (nrD_out mi_c_6).symm) _ rfl ls (lv_sub hl [2, 3, 4, 1, 0] rfl)
        · have mi_c_6 : missT T p i = true := ((mis_bit T p 12 i).2.mp (hms ▸ c_6)).2
          obtain ⟨ks_7, hks_7⟩ := miss_sq2 hI (by omega) mi_c_6
          have hbks_7 := sq_lt hI (t := i) (by omega) ks_7 hks_7
          refine lv_aload_n hx hb dX4_farWith_67 rfl (lv_at hl 0 rfl) ?_
          refine va_get (D := D) (ci := 4) (v := .ref (r 5)) (C := RX4) (T := TX4) (N := 13) hx hb hts inX4 hown hE.1 hP 0 rfl rfl 10 (by decide) F22 (fun _ h9 => h9) rfl dX4_farWith_68 ?_
          refine lv_aload_n hx hb dX4_farWith_71 rfl (lv_at hl 0 rfl) ?_
          refine lv_iload hx hb dX4_farWith_72 (lv_at hl 4 rfl) ?_
          refine rd_V (rest := [.ref (r 5)]) (ci := 4) (q0 := 0) ⟨hx, hb, hml, hown, hts⟩ hP hE (c_X4_stopSquare l D K _ _ _ _ _ _ _ _ _ _ _ i hI (by omega)) (cwV 1 hts gX4_farWith_X4_stopSquare rfl rfl rfl hd_X4_stopSquare ⟨Nat.le_of_ble_eq_true rfl, Nat.le_of_ble_eq_true rfl⟩) rfl rfl rfl rfl hl.1 rfl (Nat.le_of_ble_eq_true rfl) dX4_farWith_74 ⟨Nat.le_of_ble_eq_true rfl, Nat.le_of_ble_eq_true rfl⟩ ?_
          refine top_i (y := nI ks_7) (by rw [hks_7]; rfl) ?_
          refine va_iald hx hb hE.1 hP 5 0 rfl rfl (pk_in ks_7 80 (by omega)) dX4_farWith_77 ?_
          rw [pk_cl ks_7]
          refine top_i (y := nI ((frD T p to) ks_7)) (rfl) ?_
          have hb_8 : frD T p to ks_7 ≤ 1000000 := dst_top (mrk T p to) p 0 ks_7
          refine lv_iload hx hb dX4_farWith_78 (lv_at hl 3 rfl) ?_
          refine nv_icmp_ge (x := (frD T p to) ks_7) (y := nrD T p (frD T p to) i) (tgt := 97) hx hb dX4_farWith_80 (by decide) (by omega) (by omega) (fun c_9 => ?_) (fun c_9 => ?_)
          · have n_c_9 := Nat.not_lt.mpr c_9
            refine lv_iload hx hb dX4_farWith_97 (lv_at hl 3 rfl) ?_
            refine lv_istore (lv' := [(4, .int (nI (nrD T p (frD T p to) i))), (0, .ref (r 0)), (1, .int (nI p)), (2, .int (nI to)), (5, .int (nI i))]) hx hb dX4_farWith_99 hl (by decide) rfl (fun ls hl => ?_)
            refine lv_iinc (v := nI (i + 1)) (lv' := [(5, .int (nI (i + 1))), (4, .int (nI (nrD T p (frD T p to) i))), (0, .ref (r 0)), (1, .int (nI p)), (2, .int (nI to))]) hx hb dX4_farWith_101 hl (k := 4) rfl (nI_add _ 1) (by decide) rfl (fun ls hl => ?_)
            refine lv_goto (tgt := 47) hx hb dX4_farWith_104 (by decide) ?_
            exact ih_47 (i + 1) (by omega) (by omega) _ _ hP hD hS _ (congrArg nI (nrD_no hks_7 (by omega)).symm) _ rfl ls (lv_sub hl [2, 3, 4, 1, 0] rfl)
          · have n_c_9 := Nat.not_le.mpr c_9
            refine lv_aload_n hx hb dX4_farWith_83 rfl (lv_at hl 0 rfl) ?_
            refine va_get (D := D) (ci := 4) (v := .ref (r 5)) (C := RX4) (T := TX4) (N := 13) hx hb hts inX4 hown hE.1 hP 0 rfl rfl 10 (by decide) F22 (fun _ h9 => h9) rfl dX4_farWith_84 ?_
            refine lv_aload_n hx hb dX4_farWith_87 rfl (lv_at hl 0 rfl) ?_
            refine lv_iload hx hb dX4_farWith_88 (lv_at hl 4 rfl) ?_
            refine rd_V (rest := [.ref (r 5)]) (ci := 4) (q0 := 0) ⟨hx, hb, hml, hown, hts⟩ hP hE (c_X4_stopSquare l D K _ _ _ _ _ _ _ _ _ _ _ i hI (by omega)) (cwV 1 hts gX4_farWith_X4_stopSquare rfl rfl rfl hd_X4_stopSquare ⟨Nat.le_of_ble_eq_true rfl, Nat.le_of_ble_eq_true rfl⟩) rfl rfl rfl rfl hl.1 rfl (Nat.le_of_ble_eq_true rfl) dX4_farWith_90 ⟨Nat.le_of_ble_eq_true rfl, Nat.le_of_ble_eq_true rfl⟩ ?_
            refine top_i (y := nI ks_7) (by rw [hks_7]; rfl) ?_
            refine va_iald hx hb hE.1 hP 5 0 rfl rfl (pk_in ks_7 80 (by omega)) dX4_farWith_93 ?_
            rw [pk_cl ks_7]
            refine top_i (y := nI ((frD T p to) ks_7)) (rfl) ?_
            have hb_10 : frD T p to ks_7 ≤ 1000000 := dst_top (mrk T p to) p 0 ks_7
            refine lv_goto (tgt := 99) hx hb dX4_farWith_94 (by decide) ?_
            refine lv_istore (lv' := [(4, .int (nI ((frD T p to) ks_7))), (0, .ref (r 0)), (1, .int (nI p)), (2, .int (nI to)), (5, .int (nI i))]) hx hb dX4_farWith_99 hl (by decide) rfl (fun ls hl => ?_)
            refine lv_iinc (v := nI (i + 1)) (lv' := [(5, .int (nI (i + 1))), (4, .int (nI ((frD T p to) ks_7))), (0, .ref (r 0)), (1, .int (nI p)), (2, .int (nI to))]) hx hb dX4_farWith_101 hl (k := 4) rfl (nI_add _ 1) (by decide) rfl (fun ls hl => ?_)
            refine lv_goto (tgt := 47) hx hb dX4_farWith_104 (by decide) ?_
            exact ih_47 (i + 1) (by omega) (by omega) _ _ hP hD hS _ (congrArg nI (nrD_yes hks_7 mi_c_6 (by omega)).symm) _ rfl ls (lv_sub hl [2, 3, 4, 1, 0] rfl)
  exact loop_2 _ 0 (by decide) (Nat.lt_succ_self _) _ _ hP hD hS _ rfl _ rfl ls (lv_sub hl [3, 4, 5, 1, 0] rfl)
set_option maxHeartbeats 4000000 in
set_option maxRecDepth 100000 in
theorem c_X4_bestOf (l : Launch) (D : va_G) (K : Nat → ClassId) (sz : Nat) (r : Nat → Nat) (th pn : Int32) (sn ln pm sta ms : Nat) (hs : Int64) (T : TW) (sv : Nat → Int32) (cs : Nat → Nat) (pf : Nat → Int32) (fa : Nat → Nat) (Y : va_W) (p g : Nat) (hI : Inv T) (hp : p < 4) (hg : g < 7) : Wr l yX4_bestOf wsX4_bestOf ({ frames := 5, cells := 0, slots := 0, locals := 108 } : Room) D K (refO r th (nI sn) (nI ln) (nI pm) pn (nI sta) (nI ms) hs :: zC K r T :: sC K r sv :: bC K r cs :: pC K r pf :: fC K r fa :: Y) sz [.ref (r 0), .int (nI p), .int (nI g)] (refO r th (nI sn) (nI ln) (nI pm) pn (nI sta) (nI (misM T p 12)) hs :: zC K r T :: sC K r sv :: bC K r cs :: pC K r pf :: fC K r ((bq T p g fa).2.2.2) :: Y) (some (.int (oI ((bq T p g fa).1)))) 0 0 := by
  refine wr_intro (cc := cX4_bestOf) (maxL := 10) (ret := (some .int)) (by decide) rfl (Nat.le_of_ble_eq_true rfl) ?_
  intro pr en st md ar bl mt co A hx hb hml hr hts hown hk hsz hAe hP hE hD hS hA hin ls hl
  have hown : st.vm.findClass RX4 = some md.cls := hown
  have hl : lv_has ls 10 [(0, .ref (r 0)), (1, .int (nI p)), (2, .int (nI g))] := hl
  obtain ⟨H, hH⟩ : ∃ z, z = st.heap := ⟨_, rfl⟩
  obtain ⟨locs, hlo⟩ : ∃ z : List Loc, z = [] := ⟨_, rfl⟩
  have hP : va_P D vwCl (refO r th (nI sn) (nI ln) (nI pm) pn (nI sta) (nI ms) hs :: zC K r T :: sC K r sv :: bC K r cs :: pC K r pf :: fC K r fa :: Y) H := by rw [hH]; exact hP
  have hS : va_S A st.heap H locs := by rw [hH, hlo]; exact hS
  suffices go : W pr l en (headSpec wsX4_bestOf ({ frames := 5, cells := 0, slots := 0, locals := 108 } : Room)).room st md ar bl mt co H locs 0 0 (MQ bl (wrQ D (refO r th (nI sn) (nI ln) (nI pm) pn (nI sta) (nI ms) hs :: zC K r T :: sC K r sv :: bC K r cs :: pC K r pf :: fC K r fa :: Y) (refO r th (nI sn) (nI ln) (nI pm) pn (nI sta) (nI (misM T p 12)) hs :: zC K r T :: sC K r sv :: bC K r cs :: pC K r pf :: fC K r ((bq T p g fa).2.2.2) :: Y) sz (some (.int (oI ((bq T p g fa).1))))) ar st 0 0 A) (F0 md 0 ls []) by rw [hH, hlo] at go; exact go
  clear hH hlo
  have F185 : (Cond.fieldLink RX4 185 "TramTollsModel" "missing" "I").before ar st = true := hts _ (List.mem_of_getElem? (i := 1) rfl)
  have inX4 : ∀ w ∈ u_ws RX4 TX4 13, w ∈ wsX4_bestOf := fun w h => List.mem_cons_of_mem _ (List.mem_append_right _ h)
  have C173 : (Cond.constant RX4 173 (1000000)).before ar st = true := hts _ (List.mem_of_getElem? (i := 2) rfl)
  refine lv_aload_n hx hb dX4_bestOf_0 rfl (lv_at hl 0 rfl) ?_
  refine lv_aload_n hx hb dX4_bestOf_1 rfl (lv_at hl 0 rfl) ?_
  refine lv_iload_n hx hb dX4_bestOf_2 rfl (lv_at hl 1 rfl) ?_
  refine rd_V (rest := [.ref (r 0)]) (ci := 4) (q0 := 0) ⟨hx, hb, hml, hown, hts⟩ hP hE (c_X4_missingOf l D K _ _ _ _ _ _ _ _ _ _ _ p hI (by omega)) (cwV 1 hts gX4_bestOf_X4_missingOf rfl rfl rfl hd_X4_missingOf ⟨Nat.le_of_ble_eq_true rfl, Nat.le_of_ble_eq_true rfl⟩) rfl rfl rfl rfl hl.1 rfl (Nat.le_of_ble_eq_true rfl) dX4_bestOf_3 ⟨Nat.le_of_ble_eq_true rfl, Nat.le_of_ble_eq_true rfl⟩ ?_
  refine va_put (D := D) (ci := 4) (v := .int (nI (misM T p 12))) (ty := .int) (C := RX4) (T := TX4) (N := 13) hx hb hts inX4 tyX4 tyX4_ok nmX4 hown hE.1 hP hD hS 0 rfl rfl 11 (by decide) F185 (fun _ h9 => h9) rfl (by decide +kernel) rfl rfl (Nat.le_of_ble_eq_true rfl) dX4_bestOf_6 (fun H locs hP hD hS => ?_)
  have hP : va_P D vwCl (refO r th (nI sn) (nI ln) (nI pm) pn (nI sta) (nI (misM T p 12)) hs :: zC K r T :: sC K r sv :: bC K r cs :: pC K r pf :: fC K r fa :: Y) H := hP
  have hD : va_D A (refO r th (nI sn) (nI ln) (nI pm) pn (nI sta) (nI (misM T p 12)) hs :: zC K r T :: sC K r sv :: bC K r cs :: pC K r pf :: fC K r fa :: Y) := hD
  refine lv_iconst (v := -1) hx hb dX4_bestOf_9 (by decide) ?_
  refine lv_istore_n (lv' := [(3, .int (-1)), (0, .ref (r 0)), (1, .int (nI p)), (2, .int (nI g))]) hx hb dX4_bestOf_10 rfl hl (by decide) rfl (fun ls hl => ?_)
  refine lv_ldc (v := nI 1000000) hx hb hown C173 dX4_bestOf_11 ?_
  refine lv_istore (lv' := [(4, .int (nI 1000000)), (3, .int (-1)), (0, .ref (r 0)), (1, .int (nI p)), (2, .int (nI g))]) hx hb dX4_bestOf_13 hl (by decide) rfl (fun ls hl => ?_)
  refine lv_iconst (v := nI 0) hx hb dX4_bestOf_15 (by decide) ?_
  refine lv_istore (lv' := [(5, .int (nI 0)), (4, .int (nI 1000000)), (3, .int (-1)), (0, .ref (r 0)), (1, .int (nI p)), (2, .int (nI g))]) hx hb dX4_bestOf_16 hl (by decide) rfl (fun ls hl => ?_)
  refine lv_iconst (v := nI 0) hx hb dX4_bestOf_18 (by decide) ?_
  refine lv_istore (lv' := [(6, .int (nI 0)), (5, .int (nI 0)), (4, .int (nI 1000000)), (3, .int (-1)), (0, .ref (r 0)), (1, .int (nI p)), (2, .int (nI g))]) hx hb dX4_bestOf_19 hl (by decide) rfl (fun ls hl => ?_)
  have loop_1 : ∀ (n_21 : Nat) (d : Nat), (d ≤ 4) → (4 - d) < n_21 → ∀ (H : Heap) (locs : List Loc), va_P D vwCl (refO r th (nI sn) (nI ln) (nI pm) pn (nI sta) (nI (misM T p 12)) hs :: zC K r T :: sC K r sv :: bC K r cs :: pC K r pf :: fC K r ((bsR T p g fa d).2.2.2) :: Y) H → va_D A (refO r th (nI sn) (nI ln) (nI pm) pn (nI sta) (nI (misM T p 12)) hs :: zC K r T :: sC K r sv :: bC K r cs :: pC K r pf :: fC K r ((bsR T p g fa d).2.2.2) :: Y) → va_S A st.heap H locs →  ∀ x_3 : Int32, x_3 = oI ((bsR T p g fa d).1) → ∀ x_4 : Int32, x_4 = nI ((bsR T p g fa d).2.1) → ∀ x_5 : Int32, x_5 = nI ((bsR T p g fa d).2.2.1) → ∀ x_6 : Int32, x_6 = nI d → ∀ ls : Array Slot, lv_has ls 10 [(0, .ref (r 0)), (1, .int (nI p)), (2, .int (nI g)), (3, .int x_3), (4, .int x_4), (5, .int x_5), (6, .int x_6)] → W pr l en (headSpec wsX4_bestOf ({ frames := 5, cells := 0, slots := 0, locals := 108 } : Room)).room st md ar bl mt co H locs 0 0 (MQ bl (wrQ D (refO r th (nI sn) (nI ln) (nI pm) pn (nI sta) (nI ms) hs :: zC K r T :: sC K r sv :: bC K r cs :: pC K r pf :: fC K r fa :: Y) (refO r th (nI sn) (nI ln) (nI pm) pn (nI sta) (nI (misM T p 12)) hs :: zC K r T :: sC K r sv :: bC K r cs :: pC K r pf :: fC K r ((bq T p g fa).2.2.2) :: Y) sz (some (.int (oI ((bq T p g fa).1))))) ar st 0 0 A) (F0 md 21 ls []) := by
    intro n_21
    induction n_21 with
    | zero => intro d _ hn_21; exact absurd hn_21 (Nat.not_lt_zero _)
    | succ n_21 ih_21 =>
      intro d hd hn_21 H locs hP hD hS x_3 ex_3 x_4 ex_4 x_5 ex_5 x_6 ex_6 ls hl
      subst ex_3
      subst ex_4
      subst ex_5
      subst ex_6
      have hl : lv_has ls 10 [(0, .ref (r 0)), (1, .int (nI p)), (2, .int (nI g)), (3, .int (oI ((bsR T p g fa d).1))), (4, .int (nI ((bsR T p g fa d).2.1))), (5, .int (nI ((bsR T p g fa d).2.2.1))), (6, .int (nI d))] := hl
      have hbq := bsR_lt hI p g fa d (by omega)
      have hbq1 := hbq.2.1
      have hbq2 := hbq.2.2
      refine lv_iload hx hb dX4_bestOf_21 (lv_at hl 6 rfl) ?_
      refine lv_iconst (v := nI 4) hx hb dX4_bestOf_23 (by decide) ?_
      refine nv_icmp_ge (x := d) (y := 4) (tgt := 153) hx hb dX4_bestOf_24 (by decide) (by omega) (by decide) (fun c_2 => ?_) (fun c_2 => ?_)
      · have n_c_2 := Nat.not_lt.mpr c_2
        refine lv_iload_n hx hb dX4_bestOf_153 rfl (lv_at hl 3 rfl) ?_
        have ew : (refO r th (nI sn) (nI ln) (nI pm) pn (nI sta) (nI (misM T p 12)) hs :: zC K r T :: sC K r sv :: bC K r cs :: pC K r pf :: fC K r ((bsR T p g fa d).2.2.2) :: Y) = (refO r th (nI sn) (nI ln) (nI pm) pn (nI sta) (nI (misM T p 12)) hs :: zC K r T :: sC K r sv :: bC K r cs :: pC K r pf :: fC K r ((bq T p g fa).2.2.2) :: Y) := by rw [show d = 4 from by omega, bq_eq]
        rw [ew] at hP hD
        exact wr_iret hAe hP hD hS hx hb hr hk dX4_bestOf_154 ⟨Nat.le_of_ble_eq_true rfl, Nat.le_of_ble_eq_true rfl⟩ (by rw [show d = 4 from by omega, bq_eq])
      · have n_c_2 := Nat.not_le.mpr c_2
        refine lv_aload_n hx hb dX4_bestOf_27 rfl (lv_at hl 0 rfl) ?_
        refine lv_iload_n hx hb dX4_bestOf_28 rfl (lv_at hl 1 rfl) ?_
        refine lv_aload_n hx hb dX4_bestOf_29 rfl (lv_at hl 0 rfl) ?_
        refine lv_iload_n hx hb dX4_bestOf_30 rfl (lv_at hl 1 rfl) ?_
        refine lv_iconst (v := nI 1) hx hb dX4_bestOf_31 (by decide) ?_
        refine rd_V (rest := [.int (nI p), .ref (r 0)]) (ci := 4) (q0 := 0) ⟨hx, hb, hml, hown, hts⟩ hP hE (c_X4_of l D K _ _ _ _ _ _ _ _ _ _ _ p 1 (by omega) (by omega)) (cwV 2 hts gX4_bestOf_X4_of rfl rfl rfl hd_X4_of ⟨Nat.le_of_ble_eq_true rfl, Nat.le_of_ble_eq_true rfl⟩) rfl rfl rfl rfl hl.1 rfl (Nat.le_of_ble_eq_true rfl) dX4_bestOf_32 ⟨Nat.le_of_ble_eq_true rfl, Nat.le_of_ble_eq_true rfl⟩ ?_
        refine top_i (y := nI (hdT T p)) (((congrArg (zT T) (show 268 + 5 * p + 1 = 268 + 5 * p + 1 from by omega)).trans (zT_pp (w := 1) (by omega) (by decide))).trans (show T 6 p = nI (hdT T p) from eq_hd hI (by omega))) ?_
        have hb_3 := hd_lt hI (show p < 4 by omega)
        refine lv_iload_n hx hb dX4_bestOf_35 rfl (lv_at hl 2 rfl) ?_
        refine lv_iload hx hb dX4_bestOf_36 (lv_at hl 6 rfl) ?_
        refine rd_V (rest := []) (ci := 4) (q0 := 0) ⟨hx, hb, hml, hown, hts⟩ hP hE (c_X4_whyNot l D K _ _ _ _ _ _ _ _ _ _ _ p (hdT T p) g d hI (by omega) (by omega) (by omega) (by omega)) (cwV 4 hts gX4_bestOf_X4_whyNot rfl rfl rfl hd_X4_whyNot ⟨Nat.le_of_ble_eq_true rfl, Nat.le_of_ble_eq_true rfl⟩) rfl rfl rfl rfl hl.1 rfl (Nat.le_of_ble_eq_true rfl) dX4_bestOf_38 ⟨Nat.le_of_ble_eq_true rfl, Nat.le_of_ble_eq_true rfl⟩ ?_
        have hb_4 := why_lt T p (hdT T p) g d
        refine nv_if_ne (x := whyT T p (hdT T p) g d) (tgt := 147) hx hb dX4_bestOf_41 (by decide) (by omega) (fun c_5 => ?_) (fun c_5 => ?_)
        · have n_c_5 : ¬ whyT T p (hdT T p) g d = 0 := by omega
          have wy_c_5 : ¬ whyT T p (hdT T p) g d = 0 := by omega
          refine lv_iinc (v := nI (d + 1)) (lv' := [(6, .int (nI (d + 1))), (0, .ref (r 0)), (1, .int (nI p)), (2, .int (nI g)), (3, .int (oI ((bsR T p g fa d).1))), (4, .int (nI ((bsR T p g fa d).2.1))), (5, .int (nI ((bsR T p g fa d).2.2.1)))]) hx hb dX4_bestOf_147 hl (k := 6) rfl (nI_add _ 1) (by decide) rfl (fun ls hl => ?_)
          refine lv_goto (tgt := 21) hx hb dX4_bestOf_150 (by decide) ?_
          have er : bsR T p g fa (d + 1) = _ := bsR_no wy_c_5
          have hP : va_P D vwCl (refO r th (nI sn) (nI ln) (nI pm) pn (nI sta) (nI (misM T p 12)) hs :: zC K r T :: sC K r sv :: bC K r cs :: pC K r pf :: fC K r ((bsR T p g fa (d + 1)).2.2.2) :: Y) H := by rw [er]; exact hP
          have hD : va_D A (refO r th (nI sn) (nI ln) (nI pm) pn (nI sta) (nI (misM T p 12)) hs :: zC K r T :: sC K r sv :: bC K r cs :: pC K r pf :: fC K r ((bsR T p g fa (d + 1)).2.2.2) :: Y) := by rw [er]; exact hD
          exact ih_21 (d + 1) (by omega) (by omega) _ _ hP hD hS _ (by rw [er] <;> first | rfl) _ (by rw [er] <;> rfl) _ (by rw [er] <;> rfl) _ rfl ls (lv_sub hl [1, 2, 3, 4, 5, 6, 0] rfl)
        · have n_c_5 : ¬ 0 < whyT T p (hdT T p) g d := by omega
          obtain ⟨to_6, hto_6⟩ := why_nb c_5
          have hbto_6 := nb_lt (hd_lt hI hp) to_6 hto_6
          refine lv_aload_n hx hb dX4_bestOf_44 rfl (lv_at hl 0 rfl) ?_
          refine lv_iload_n hx hb dX4_bestOf_45 rfl (lv_at hl 1 rfl) ?_
          refine lv_iconst (v := nI 1) hx hb dX4_bestOf_46 (by decide) ?_
          refine rd_V (rest := []) (ci := 4) (q0 := 0) ⟨hx, hb, hml, hown, hts⟩ hP hE (c_X4_of l D K _ _ _ _ _ _ _ _ _ _ _ p 1 (by omega) (by omega)) (cwV 2 hts gX4_bestOf_X4_of rfl rfl rfl hd_X4_of ⟨Nat.le_of_ble_eq_true rfl, Nat.le_of_ble_eq_true rfl⟩) rfl rfl rfl rfl hl.1 rfl (Nat.le_of_ble_eq_true rfl) dX4_bestOf_47 ⟨Nat.le_of_ble_eq_true rfl, Nat.le_of_ble_eq_true rfl⟩ ?_
          refine top_i (y := nI (hdT T p)) (((congrArg (zT T) (show 268 + 5 * p + 1 = 268 + 5 * p + 1 from by omega)).trans (zT_pp (w := 1) (by omega) (by decide))).trans (show T 6 p = nI (hdT T p) from eq_hd hI (by omega))) ?_
          have hb_7 := hd_lt hI (show p < 4 by omega)
          refine lv_iload hx hb dX4_bestOf_50 (lv_at hl 6 rfl) ?_
          refine rd_S (rest := []) ⟨hx, hb, hml, hown, hts⟩ hP hE (c_X4_beside l D K _ (hdT T p) d (by omega) (by omega)) (va_cwS 2 hts gX4_bestOf_X4_beside rfl rfl rfl hn_X4_beside ⟨Nat.le_of_ble_eq_true rfl, Nat.le_of_ble_eq_true rfl⟩) rfl hl.1 rfl (Nat.le_of_ble_eq_true rfl) dX4_bestOf_52 ⟨Nat.le_of_ble_eq_true rfl, Nat.le_of_ble_eq_true rfl⟩ ?_
          refine top_i (y := nI to_6) (by rw [hto_6]; rfl) ?_
          refine lv_istore (lv' := [(7, .int (nI to_6)), (0, .ref (r 0)), (1, .int (nI p)), (2, .int (nI g)), (3, .int (oI ((bsR T p g fa d).1))), (4, .int (nI ((bsR T p g fa d).2.1))), (5, .int (nI ((bsR T p g fa d).2.2.1))), (6, .int (nI d))]) hx hb dX4_bestOf_55 hl (by decide) rfl (fun ls hl => ?_)
          refine lv_aload_n hx hb dX4_bestOf_57 rfl (lv_at hl 1 rfl) ?_
          refine lv_iload_n hx hb dX4_bestOf_58 rfl (lv_at hl 2 rfl) ?_
          refine lv_iload hx hb dX4_bestOf_59 (lv_at hl 0 rfl) ?_
          refine wr_V (rest := []) (ci := 4) (q0 := 0) ⟨hx, hb, hml, hown, hts⟩ hP hE hA hD hS (c_X4_farWith l D K _ _ _ _ _ _ _ _ _ _ _ _ _ _ _ _ p to_6 hI (by omega) (by omega) rfl) (cwV 2 hts gX4_bestOf_X4_farWith rfl rfl rfl hd_X4_farWith ⟨Nat.le_of_ble_eq_true rfl, Nat.le_of_ble_eq_true rfl⟩) rfl rfl rfl rfl hl.1 rfl (Nat.le_of_ble_eq_true rfl) dX4_bestOf_61 ⟨Nat.le_of_ble_eq_true rfl, Nat.le_of_ble_eq_true rfl⟩ (fun H locs hP hD hS => ?_)
          have hP : va_P D vwCl (refO r th (nI sn) (nI ln) (nI pm) pn (nI sta) (nI (misM T p 12)) hs :: zC K r T :: sC K r sv :: bC K r cs :: pC K r pf :: fC K r (frD T p to_6) :: Y) H := hP
          have hD : va_D A (refO r th (nI sn) (nI ln) (nI pm) pn (nI sta) (nI (misM T p 12)) hs :: zC K r T :: sC K r sv :: bC K r cs :: pC K r pf :: fC K r (frD T p to_6) :: Y) := hD
          have hb_8 := (show frN T p to_6 ≤ 1000000 from nrD_le T p (frD T p to_6) 12)
          refine lv_istore (lv' := [(8, .int (nI (frN T p to_6))), (7, .int (nI to_6)), (0, .ref (r 0)), (1, .int (nI p)), (2, .int (nI g)), (3, .int (oI ((bsR T p g fa d).1))), (4, .int (nI ((bsR T p g fa d).2.1))), (5, .int (nI ((bsR T p g fa d).2.2.1))), (6, .int (nI d))]) hx hb dX4_bestOf_64 hl (by decide) rfl (fun ls hl => ?_)
          refine lv_iload hx hb dX4_bestOf_66 (lv_at hl 0 rfl) ?_
          refine lv_iload hx hb dX4_bestOf_68 (lv_at hl 6 rfl) ?_
          refine nv_icmp_lt (x := frN T p to_6) (y := (bsR T p g fa d).2.1) (tgt := 96) hx hb dX4_bestOf_70 (by decide) (by omega) (by omega) (fun c_9 => ?_) (fun c_9 => ?_)
          · have n_c_9 := Nat.not_le.mpr c_9
            refine lv_iconst (v := nI 1) hx hb dX4_bestOf_96 (by decide) ?_
            refine lv_goto (tgt := 101) hx hb dX4_bestOf_97 (by decide) ?_
            refine lv_istore (lv' := [(9, .int (nI 1)), (8, .int (nI (frN T p to_6))), (7, .int (nI to_6)), (0, .ref (r 0)), (1, .int (nI p)), (2, .int (nI g)), (3, .int (oI ((bsR T p g fa d).1))), (4, .int (nI ((bsR T p g fa d).2.1))), (5, .int (nI ((bsR T p g fa d).2.2.1))), (6, .int (nI d))]) hx hb dX4_bestOf_101 hl (by decide) rfl (fun ls hl => ?_)
            refine lv_iload hx hb dX4_bestOf_103 (lv_at hl 0 rfl) ?_
            refine nv_if_eq (x := 1) (tgt := 113) hx hb dX4_bestOf_105 (by decide) (by decide) (fun c_10 => ?_) (fun c_10 => ?_)
            · exact absurd c_10 (by decide)
            have n_c_10 : ¬ 1 = 0 := by omega
            refine lv_iload hx hb dX4_bestOf_108 (lv_at hl 9 rfl) ?_
            refine lv_goto (tgt := 114) hx hb dX4_bestOf_110 (by decide) ?_
            refine lv_istore_n (lv' := [(3, .int (nI d)), (9, .int (nI 1)), (8, .int (nI (frN T p to_6))), (7, .int (nI to_6)), (0, .ref (r 0)), (1, .int (nI p)), (2, .int (nI g)), (4, .int (nI ((bsR T p g fa d).2.1))), (5, .int (nI ((bsR T p g fa d).2.2.1))), (6, .int (nI d))]) hx hb dX4_bestOf_114 rfl hl (by decide) rfl (fun ls hl => ?_)
            refine lv_iload hx hb dX4_bestOf_115 (lv_at hl 1 rfl) ?_
            refine nv_if_eq (x := 1) (tgt := 129) hx hb dX4_bestOf_117 (by decide) (by decide) (fun c_11 => ?_) (fun c_11 => ?_)
            · exact absurd c_11 (by decide)
            have n_c_11 : ¬ 1 = 0 := by omega
            refine lv_aload_n hx hb dX4_bestOf_120 rfl (lv_at hl 4 rfl) ?_
            refine lv_iload hx hb dX4_bestOf_121 (lv_at hl 3 rfl) ?_
            refine rd_V (rest := []) (ci := 4) (q0 := 0) ⟨hx, hb, hml, hown, hts⟩ hP hE (c_X4_toll l D K _ _ _ _ _ _ _ _ _ _ _ to_6 hI (by omega)) (cwV 1 hts gX4_bestOf_X4_toll rfl rfl rfl hd_X4_toll ⟨Nat.le_of_ble_eq_true rfl, Nat.le_of_ble_eq_true rfl⟩) rfl rfl rfl rfl hl.1 rfl (Nat.le_of_ble_eq_true rfl) dX4_bestOf_123 ⟨Nat.le_of_ble_eq_true rfl, Nat.le_of_ble_eq_true rfl⟩ ?_
            have hb_12 := toll_lt (s := to_6) hI
            refine lv_goto (tgt := 131) hx hb dX4_bestOf_126 (by decide) ?_
            refine lv_istore (lv' := [(5, .int (nI (tollT T to_6))), (3, .int (nI d)), (9, .int (nI 1)), (8, .int (nI (frN T p to_6))), (7, .int (nI to_6)), (0, .ref (r 0)), (1, .int (nI p)), (2, .int (nI g)), (4, .int (nI ((bsR T p g fa d).2.1))), (6, .int (nI d))]) hx hb dX4_bestOf_131 hl (by decide) rfl (fun ls hl => ?_)
            refine lv_iload hx hb dX4_bestOf_133 (lv_at hl 2 rfl) ?_
            refine nv_if_eq (x := 1) (tgt := 143) hx hb dX4_bestOf_135 (by decide) (by decide) (fun c_13 => ?_) (fun c_13 => ?_)
            · exact absurd c_13 (by decide)
            have n_c_13 : ¬ 1 = 0 := by omega
            refine lv_iload hx hb dX4_bestOf_138 (lv_at hl 3 rfl) ?_
            refine lv_goto (tgt := 145) hx hb dX4_bestOf_140 (by decide) ?_
            refine lv_istore (lv' := [(4, .int (nI (frN T p to_6))), (5, .int (nI (tollT T to_6))), (3, .int (nI d)), (9, .int (nI 1)), (8, .int (nI (frN T p to_6))), (7, .int (nI to_6)), (0, .ref (r 0)), (1, .int (nI p)), (2, .int (nI g)), (6, .int (nI d))]) hx hb dX4_bestOf_145 hl (by decide) rfl (fun ls hl => ?_)
            refine lv_iinc (v := nI (d + 1)) (lv' := [(6, .int (nI (d + 1))), (4, .int (nI (frN T p to_6))), (5, .int (nI (tollT T to_6))), (3, .int (nI d)), (9, .int (nI 1)), (8, .int (nI (frN T p to_6))), (7, .int (nI to_6)), (0, .ref (r 0)), (1, .int (nI p)), (2, .int (nI g))]) hx hb dX4_bestOf_147 hl (k := 9) rfl (nI_add _ 1) (by decide) rfl (fun ls hl => ?_)
            refine lv_goto (tgt := 21) hx hb dX4_bestOf_150 (by decide) ?_
            have er : bsR T p g fa (d + 1) = _ := bsR_new c_5 hto_6 (by first | exact Or.inl (by omega) | exact Or.inr ⟨by omega, by simp [*], by omega⟩)
            have hP : va_P D vwCl (refO r th (nI sn) (nI ln) (nI pm) pn (nI sta) (nI (misM T p 12)) hs :: zC K r T :: sC K r sv :: bC K r cs :: pC K r pf :: fC K r ((bsR T p g fa (d + 1)).2.2.2) :: Y) H := by rw [er]; exact hP
            have hD : va_D A (refO r th (nI sn) (nI ln) (nI pm) pn (nI sta) (nI (misM T p 12)) hs :: zC K r T :: sC K r sv :: bC K r cs :: pC K r pf :: fC K r ((bsR T p g fa (d + 1)).2.2.2) :: Y) := by rw [er]; exact hD
            exact ih_21 (d + 1) (by omega) (by omega) _ _ hP hD hS _ (by rw [er] <;> first | rfl) _ (by rw [er] <;> rfl) _ (by rw [er] <;> rfl) _ rfl ls (lv_sub hl [7, 8, 9, 3, 1, 2, 0] rfl)
          · have n_c_9 := Nat.not_lt.mpr c_9
            refine lv_iload hx hb dX4_bestOf_73 (lv_at hl 0 rfl) ?_
            refine lv_iload hx hb dX4_bestOf_75 (lv_at hl 6 rfl) ?_
            refine nv_icmp_ne (x := frN T p to_6) (y := (bsR T p g fa d).2.1) (tgt := 100) hx hb dX4_bestOf_77 (by decide) (by omega) (by omega) (fun c_14 => ?_) (fun c_14 => ?_)
            · refine lv_iconst (v := nI 0) hx hb dX4_bestOf_100 (by decide) ?_
              refine lv_istore (lv' := [(9, .int (nI 0)), (8, .int (nI (frN T p to_6))), (7, .int (nI to_6)), (0, .ref (r 0)), (1, .int (nI p)), (2, .int (nI g)), (3, .int (oI ((bsR T p g fa d).1))), (4, .int (nI ((bsR T p g fa d).2.1))), (5, .int (nI ((bsR T p g fa d).2.2.1))), (6, .int (nI d))]) hx hb dX4_bestOf_101 hl (by decide) rfl (fun ls hl => ?_)
              refine lv_iload hx hb dX4_bestOf_103 (lv_at hl 0 rfl) ?_
              refine nv_if_eq (x := 0) (tgt := 113) hx hb dX4_bestOf_105 (by decide) (by decide) (fun c_15 => ?_) (fun c_15 => ?_)
              · have n_c_15 : ¬ 0 < 0 := by omega
                refine lv_iload_n hx hb dX4_bestOf_113 rfl (lv_at hl 6 rfl) ?_
                refine lv_istore_n (lv' := [(3, .int (oI ((bsR T p g fa d).1))), (9, .int (nI 0)), (8, .int (nI (frN T p to_6))), (7, .int (nI to_6)), (0, .ref (r 0)), (1, .int (nI p)), (2, .int (nI g)), (4, .int (nI ((bsR T p g fa d).2.1))), (5, .int (nI ((bsR T p g fa d).2.2.1))), (6, .int (nI d))]) hx hb dX4_bestOf_114 rfl hl (by decide) rfl (fun ls hl => ?_)
                refine lv_iload hx hb dX4_bestOf_115 (lv_at hl 1 rfl) ?_
                refine nv_if_eq (x := 0) (tgt := 129) hx hb dX4_bestOf_117 (by decide) (by decide) (fun c_16 => ?_) (fun c_16 => ?_)
                · have n_c_16 : ¬ 0 < 0 := by omega
                  refine lv_iload hx hb dX4_bestOf_129 (lv_at hl 8 rfl) ?_
                  refine lv_istore (lv' := [(5, .int (nI ((bsR T p g fa d).2.2.1))), (3, .int (oI ((bsR T p g fa d).1))), (9, .int (nI 0)), (8, .int (nI (frN T p to_6))), (7, .int (nI to_6)), (0, .ref (r 0)), (1, .int (nI p)), (2, .int (nI g)), (4, .int (nI ((bsR T p g fa d).2.1))), (6, .int (nI d))]) hx hb dX4_bestOf_131 hl (by decide) rfl (fun ls hl => ?_)
                  refine lv_iload hx hb dX4_bestOf_133 (lv_at hl 2 rfl) ?_
                  refine nv_if_eq (x := 0) (tgt := 143) hx hb dX4_bestOf_135 (by decide) (by decide) (fun c_17 => ?_) (fun c_17 => ?_)
                  · have n_c_17 : ¬ 0 < 0 := by omega
                    refine lv_iload hx hb dX4_bestOf_143 (lv_at hl 8 rfl) ?_
                    refine lv_istore (lv' := [(4, .int (nI ((bsR T p g fa d).2.1))), (5, .int (nI ((bsR T p g fa d).2.2.1))), (3, .int (oI ((bsR T p g fa d).1))), (9, .int (nI 0)), (8, .int (nI (frN T p to_6))), (7, .int (nI to_6)), (0, .ref (r 0)), (1, .int (nI p)), (2, .int (nI g)), (6, .int (nI d))]) hx hb dX4_bestOf_145 hl (by decide) rfl (fun ls hl => ?_)
                    refine lv_iinc (v := nI (d + 1)) (lv' := [(6, .int (nI (d + 1))), (4, .int (nI ((bsR T p g fa d).2.1))), (5, .int (nI ((bsR T p g fa d).2.2.1))), (3, .int (oI ((bsR T p g fa d).1))), (9, .int (nI 0)), (8, .int (nI (frN T p to_6))), (7, .int (nI to_6)), (0, .ref (r 0)), (1, .int (nI p)), (2, .int (nI g))]) hx hb dX4_bestOf_147 hl (k := 9) rfl (nI_add _ 1) (by decide) rfl (fun ls hl => ?_)
                    refine lv_goto (tgt := 21) hx hb dX4_bestOf_150 (by decide) ?_
                    have er : bsR T p g fa (d + 1) = _ := bsR_old c_5 hto_6 (by rintro (q9 | ⟨q8, q7, q6⟩) <;> first | omega | exact q7 (by assumption))
                    have hP : va_P D vwCl (refO r th (nI sn) (nI ln) (nI pm) pn (nI sta) (nI (misM T p 12)) hs :: zC K r T :: sC K r sv :: bC K r cs :: pC K r pf :: fC K r ((bsR T p g fa (d + 1)).2.2.2) :: Y) H := by rw [er]; exact hP
                    have hD : va_D A (refO r th (nI sn) (nI ln) (nI pm) pn (nI sta) (nI (misM T p 12)) hs :: zC K r T :: sC K r sv :: bC K r cs :: pC K r pf :: fC K r ((bsR T p g fa (d + 1)).2.2.2) :: Y) := by rw [er]; exact hD
                    exact ih_21 (d + 1) (by omega) (by omega) _ _ hP hD hS _ (by rw [er] <;> first | rfl) _ (by rw [er] <;> rfl) _ (by rw [er] <;> rfl) _ rfl ls (lv_sub hl [7, 8, 9, 3, 1, 2, 0] rfl)
                  exact absurd c_17 (by decide)
                exact absurd c_16 (by decide)
              exact absurd c_15 (by decide)
            · refine lv_iload_n hx hb dX4_bestOf_80 rfl (lv_at hl 5 rfl) ?_
              refine lv_iconst (v := -1) hx hb dX4_bestOf_81 (by decide) ?_
              refine ov_icmp_eq (tgt := 100) hx hb dX4_bestOf_82 (by decide) (lt31 hbq.1 (by decide)) (fun c_18 => ?_) (fun k_19 c_18 => ?_)
              · refine lv_iconst (v := nI 0) hx hb dX4_bestOf_100 (by decide) ?_
                refine lv_istore (lv' := [(9, .int (nI 0)), (8, .int (nI (frN T p to_6))), (7, .int (nI to_6)), (0, .ref (r 0)), (1, .int (nI p)), (2, .int (nI g)), (3, .int (oI ((bsR T p g fa d).1))), (4, .int (nI ((bsR T p g fa d).2.1))), (5, .int (nI ((bsR T p g fa d).2.2.1))), (6, .int (nI d))]) hx hb dX4_bestOf_101 hl (by decide) rfl (fun ls hl => ?_)
                refine lv_iload hx hb dX4_bestOf_103 (lv_at hl 0 rfl) ?_
                refine nv_if_eq (x := 0) (tgt := 113) hx hb dX4_bestOf_105 (by decide) (by decide) (fun c_20 => ?_) (fun c_20 => ?_)
                · have n_c_20 : ¬ 0 < 0 := by omega
                  refine lv_iload_n hx hb dX4_bestOf_113 rfl (lv_at hl 6 rfl) ?_
                  refine lv_istore_n (lv' := [(3, .int (oI ((bsR T p g fa d).1))), (9, .int (nI 0)), (8, .int (nI (frN T p to_6))), (7, .int (nI to_6)), (0, .ref (r 0)), (1, .int (nI p)), (2, .int (nI g)), (4, .int (nI ((bsR T p g fa d).2.1))), (5, .int (nI ((bsR T p g fa d).2.2.1))), (6, .int (nI d))]) hx hb dX4_bestOf_114 rfl hl (by decide) rfl (fun ls hl => ?_)
                  refine lv_iload hx hb dX4_bestOf_115 (lv_at hl 1 rfl) ?_
                  refine nv_if_eq (x := 0) (tgt := 129) hx hb dX4_bestOf_117 (by decide) (by decide) (fun c_21 => ?_) (fun c_21 => ?_)
                  · have n_c_21 : ¬ 0 < 0 := by omega
                    refine lv_iload hx hb dX4_bestOf_129 (lv_at hl 8 rfl) ?_
                    refine lv_istore (lv' := [(5, .int (nI ((bsR T p g fa d).2.2.1))), (3, .int (oI ((bsR T p g fa d).1))), (9, .int (nI 0)), (8, .int (nI (frN T p to_6))), (7, .int (nI to_6)), (0, .ref (r 0)), (1, .int (nI p)), (2, .int (nI g)), (4, .int (nI ((bsR T p g fa d).2.1))), (6, .int (nI d))]) hx hb dX4_bestOf_131 hl (by decide) rfl (fun ls hl => ?_)
                    refine lv_iload hx hb dX4_bestOf_133 (lv_at hl 2 rfl) ?_
                    refine nv_if_eq (x := 0) (tgt := 143) hx hb dX4_bestOf_135 (by decide) (by decide) (fun c_22 => ?_) (fun c_22 => ?_)
                    · have n_c_22 : ¬ 0 < 0 := by omega
                      refine lv_iload hx hb dX4_bestOf_143 (lv_at hl 8 rfl) ?_
                      refine lv_istore (lv' := [(4, .int (nI ((bsR T p g fa d).2.1))), (5, .int (nI ((bsR T p g fa d).2.2.1))), (3, .int (oI ((bsR T p g fa d).1))), (9, .int (nI 0)), (8, .int (nI (frN T p to_6))), (7, .int (nI to_6)), (0, .ref (r 0)), (1, .int (nI p)), (2, .int (nI g)), (6, .int (nI d))]) hx hb dX4_bestOf_145 hl (by decide) rfl (fun ls hl => ?_)
                      refine lv_iinc (v := nI (d + 1)) (lv' := [(6, .int (nI (d + 1))), (4, .int (nI ((bsR T p g fa d).2.1))), (5, .int (nI ((bsR T p g fa d).2.2.1))), (3, .int (oI ((bsR T p g fa d).1))), (9, .int (nI 0)), (8, .int (nI (frN T p to_6))), (7, .int (nI to_6)), (0, .ref (r 0)), (1, .int (nI p)), (2, .int (nI g))]) hx hb dX4_bestOf_147 hl (k := 9) rfl (nI_add _ 1) (by decide) rfl (fun ls hl => ?_)
                      refine lv_goto (tgt := 21) hx hb dX4_bestOf_150 (by decide) ?_
                      have er : bsR T p g fa (d + 1) = _ := bsR_old c_5 hto_6 (by rintro (q9 | ⟨q8, q7, q6⟩) <;> first | omega | exact q7 (by assumption))
                      have hP : va_P D vwCl (refO r th (nI sn) (nI ln) (nI pm) pn (nI sta) (nI (misM T p 12)) hs :: zC K r T :: sC K r sv :: bC K r cs :: pC K r pf :: fC K r ((bsR T p g fa (d + 1)).2.2.2) :: Y) H := by rw [er]; exact hP
                      have hD : va_D A (refO r th (nI sn) (nI ln) (nI pm) pn (nI sta) (nI (misM T p 12)) hs :: zC K r T :: sC K r sv :: bC K r cs :: pC K r pf :: fC K r ((bsR T p g fa (d + 1)).2.2.2) :: Y) := by rw [er]; exact hD
                      exact ih_21 (d + 1) (by omega) (by omega) _ _ hP hD hS _ (by rw [er] <;> first | rfl) _ (by rw [er] <;> rfl) _ (by rw [er] <;> rfl) _ rfl ls (lv_sub hl [7, 8, 9, 3, 1, 2, 0] rfl)
                    exact absurd c_22 (by decide)
                  exact absurd c_21 (by decide)
                exact absurd c_20 (by decide)
              · have hk_c_18 := hbq.1 k_19 c_18
                refine lv_aload_n hx hb dX4_bestOf_85 rfl (lv_at hl 2 rfl) ?_
                refine lv_iload hx hb dX4_bestOf_86 (lv_at hl 1 rfl) ?_
                refine rd_V (rest := []) (ci := 4) (q0 := 0) ⟨hx, hb, hml, hown, hts⟩ hP hE (c_X4_toll l D K _ _ _ _ _ _ _ _ _ _ _ to_6 hI (by omega)) (cwV 1 hts gX4_bestOf_X4_toll rfl rfl rfl hd_X4_toll ⟨Nat.le_of_ble_eq_true rfl, Nat.le_of_ble_eq_true rfl⟩) rfl rfl rfl rfl hl.1 rfl (Nat.le_of_ble_eq_true rfl) dX4_bestOf_88 ⟨Nat.le_of_ble_eq_true rfl, Nat.le_of_ble_eq_true rfl⟩ ?_
                have hb_23 := toll_lt (s := to_6) hI
                refine lv_iload hx hb dX4_bestOf_91 (lv_at hl 7 rfl) ?_
                refine nv_icmp_ge (x := tollT T to_6) (y := (bsR T p g fa d).2.2.1) (tgt := 100) hx hb dX4_bestOf_93 (by decide) (by omega) (by omega) (fun c_24 => ?_) (fun c_24 => ?_)
                · have n_c_24 := Nat.not_lt.mpr c_24
                  refine lv_iconst (v := nI 0) hx hb dX4_bestOf_100 (by decide) ?_
                  refine lv_istore (lv' := [(9, .int (nI 0)), (8, .int (nI (frN T p to_6))), (7, .int (nI to_6)), (0, .ref (r 0)), (1, .int (nI p)), (2, .int (nI g)), (3, .int (oI ((bsR T p g fa d).1))), (4, .int (nI ((bsR T p g fa d).2.1))), (5, .int (nI ((bsR T p g fa d).2.2.1))), (6, .int (nI d))]) hx hb dX4_bestOf_101 hl (by decide) rfl (fun ls hl => ?_)
                  refine lv_iload hx hb dX4_bestOf_103 (lv_at hl 0 rfl) ?_
                  refine nv_if_eq (x := 0) (tgt := 113) hx hb dX4_bestOf_105 (by decide) (by decide) (fun c_25 => ?_) (fun c_25 => ?_)
                  · have n_c_25 : ¬ 0 < 0 := by omega
                    refine lv_iload_n hx hb dX4_bestOf_113 rfl (lv_at hl 6 rfl) ?_
                    refine top_i (y := nI k_19) (by rw [c_18]; rfl) ?_
                    refine lv_istore_n (lv' := [(3, .int (nI k_19)), (9, .int (nI 0)), (8, .int (nI (frN T p to_6))), (7, .int (nI to_6)), (0, .ref (r 0)), (1, .int (nI p)), (2, .int (nI g)), (4, .int (nI ((bsR T p g fa d).2.1))), (5, .int (nI ((bsR T p g fa d).2.2.1))), (6, .int (nI d))]) hx hb dX4_bestOf_114 rfl hl (by decide) rfl (fun ls hl => ?_)
                    refine lv_iload hx hb dX4_bestOf_115 (lv_at hl 1 rfl) ?_
                    refine nv_if_eq (x := 0) (tgt := 129) hx hb dX4_bestOf_117 (by decide) (by decide) (fun c_26 => ?_) (fun c_26 => ?_)
                    · have n_c_26 : ¬ 0 < 0 := by omega
                      refine lv_iload hx hb dX4_bestOf_129 (lv_at hl 8 rfl) ?_
                      refine lv_istore (lv' := [(5, .int (nI ((bsR T p g fa d).2.2.1))), (3, .int (nI k_19)), (9, .int (nI 0)), (8, .int (nI (frN T p to_6))), (7, .int (nI to_6)), (0, .ref (r 0)), (1, .int (nI p)), (2, .int (nI g)), (4, .int (nI ((bsR T p g fa d).2.1))), (6, .int (nI d))]) hx hb dX4_bestOf_131 hl (by decide) rfl (fun ls hl => ?_)
                      refine lv_iload hx hb dX4_bestOf_133 (lv_at hl 2 rfl) ?_
                      refine nv_if_eq (x := 0) (tgt := 143) hx hb dX4_bestOf_135 (by decide) (by decide) (fun c_27 => ?_) (fun c_27 => ?_)
                      · have n_c_27 : ¬ 0 < 0 := by omega
                        refine lv_iload hx hb dX4_bestOf_143 (lv_at hl 8 rfl) ?_
                        refine lv_istore (lv' := [(4, .int (nI ((bsR T p g fa d).2.1))), (5, .int (nI ((bsR T p g fa d).2.2.1))), (3, .int (nI k_19)), (9, .int (nI 0)), (8, .int (nI (frN T p to_6))), (7, .int (nI to_6)), (0, .ref (r 0)), (1, .int (nI p)), (2, .int (nI g)), (6, .int (nI d))]) hx hb dX4_bestOf_145 hl (by decide) rfl (fun ls hl => ?_)
                        refine lv_iinc (v := nI (d + 1)) (lv' := [(6, .int (nI (d + 1))), (4, .int (nI ((bsR T p g fa d).2.1))), (5, .int (nI ((bsR T p g fa d).2.2.1))), (3, .int (nI k_19)), (9, .int (nI 0)), (8, .int (nI (frN T p to_6))), (7, .int (nI to_6)), (0, .ref (r 0)), (1, .int (nI p)), (2, .int (nI g))]) hx hb dX4_bestOf_147 hl (k := 9) rfl (nI_add _ 1) (by decide) rfl (fun ls hl => ?_)
                        refine lv_goto (tgt := 21) hx hb dX4_bestOf_150 (by decide) ?_
                        have er : bsR T p g fa (d + 1) = _ := bsR_old c_5 hto_6 (by rintro (q9 | ⟨q8, q7, q6⟩) <;> first | omega | exact q7 (by assumption))
                        have hP : va_P D vwCl (refO r th (nI sn) (nI ln) (nI pm) pn (nI sta) (nI (misM T p 12)) hs :: zC K r T :: sC K r sv :: bC K r cs :: pC K r pf :: fC K r ((bsR T p g fa (d + 1)).2.2.2) :: Y) H := by rw [er]; exact hP
                        have hD : va_D A (refO r th (nI sn) (nI ln) (nI pm) pn (nI sta) (nI (misM T p 12)) hs :: zC K r T :: sC K r sv :: bC K r cs :: pC K r pf :: fC K r ((bsR T p g fa (d + 1)).2.2.2) :: Y) := by rw [er]; exact hD
                        exact ih_21 (d + 1) (by omega) (by omega) _ _ hP hD hS _ (by rw [er] <;> first | rfl | (show _ = oI (bsR T p g fa d).1; rw [c_18]; rfl)) _ (by rw [er] <;> rfl) _ (by rw [er] <;> rfl) _ rfl ls (lv_sub hl [7, 8, 9, 3, 1, 2, 0] rfl)
                      exact absurd c_27 (by decide)
                    exact absurd c_26 (by decide)
                  exact absurd c_25 (by decide)
                · have n_c_24 := Nat.not_le.mpr c_24
                  refine lv_iconst (v := nI 1) hx hb dX4_bestOf_96 (by decide) ?_
                  refine lv_goto (tgt := 101) hx hb dX4_bestOf_97 (by decide) ?_
                  refine lv_istore (lv' := [(9, .int (nI 1)), (8, .int (nI (frN T p to_6))), (7, .int (nI to_6)), (0, .ref (r 0)), (1, .int (nI p)), (2, .int (nI g)), (3, .int (oI ((bsR T p g fa d).1))), (4, .int (nI ((bsR T p g fa d).2.1))), (5, .int (nI ((bsR T p g fa d).2.2.1))), (6, .int (nI d))]) hx hb dX4_bestOf_101 hl (by decide) rfl (fun ls hl => ?_)
                  refine lv_iload hx hb dX4_bestOf_103 (lv_at hl 0 rfl) ?_
                  refine nv_if_eq (x := 1) (tgt := 113) hx hb dX4_bestOf_105 (by decide) (by decide) (fun c_28 => ?_) (fun c_28 => ?_)
                  · exact absurd c_28 (by decide)
                  have n_c_28 : ¬ 1 = 0 := by omega
                  refine lv_iload hx hb dX4_bestOf_108 (lv_at hl 9 rfl) ?_
                  refine lv_goto (tgt := 114) hx hb dX4_bestOf_110 (by decide) ?_
                  refine lv_istore_n (lv' := [(3, .int (nI d)), (9, .int (nI 1)), (8, .int (nI (frN T p to_6))), (7, .int (nI to_6)), (0, .ref (r 0)), (1, .int (nI p)), (2, .int (nI g)), (4, .int (nI ((bsR T p g fa d).2.1))), (5, .int (nI ((bsR T p g fa d).2.2.1))), (6, .int (nI d))]) hx hb dX4_bestOf_114 rfl hl (by decide) rfl (fun ls hl => ?_)
                  refine lv_iload hx hb dX4_bestOf_115 (lv_at hl 1 rfl) ?_
                  refine nv_if_eq (x := 1) (tgt := 129) hx hb dX4_bestOf_117 (by decide) (by decide) (fun c_29 => ?_) (fun c_29 => ?_)
                  · exact absurd c_29 (by decide)
                  have n_c_29 : ¬ 1 = 0 := by omega
                  refine lv_aload_n hx hb dX4_bestOf_120 rfl (lv_at hl 4 rfl) ?_
                  refine lv_iload hx hb dX4_bestOf_121 (lv_at hl 3 rfl) ?_
                  refine rd_V (rest := []) (ci := 4) (q0 := 0) ⟨hx, hb, hml, hown, hts⟩ hP hE (c_X4_toll l D K _ _ _ _ _ _ _ _ _ _ _ to_6 hI (by omega)) (cwV 1 hts gX4_bestOf_X4_toll rfl rfl rfl hd_X4_toll ⟨Nat.le_of_ble_eq_true rfl, Nat.le_of_ble_eq_true rfl⟩) rfl rfl rfl rfl hl.1 rfl (Nat.le_of_ble_eq_true rfl) dX4_bestOf_123 ⟨Nat.le_of_ble_eq_true rfl, Nat.le_of_ble_eq_true rfl⟩ ?_
                  have hb_30 := toll_lt (s := to_6) hI
                  refine lv_goto (tgt := 131) hx hb dX4_bestOf_126 (by decide) ?_
                  refine lv_istore (lv' := [(5, .int (nI (tollT T to_6))), (3, .int (nI d)), (9, .int (nI 1)), (8, .int (nI (frN T p to_6))), (7, .int (nI to_6)), (0, .ref (r 0)), (1, .int (nI p)), (2, .int (nI g)), (4, .int (nI ((bsR T p g fa d).2.1))), (6, .int (nI d))]) hx hb dX4_bestOf_131 hl (by decide) rfl (fun ls hl => ?_)
                  refine lv_iload hx hb dX4_bestOf_133 (lv_at hl 2 rfl) ?_
                  refine nv_if_eq (x := 1) (tgt := 143) hx hb dX4_bestOf_135 (by decide) (by decide) (fun c_31 => ?_) (fun c_31 => ?_)
                  · exact absurd c_31 (by decide)
                  have n_c_31 : ¬ 1 = 0 := by omega
                  refine lv_iload hx hb dX4_bestOf_138 (lv_at hl 3 rfl) ?_
                  refine lv_goto (tgt := 145) hx hb dX4_bestOf_140 (by decide) ?_
                  refine lv_istore (lv' := [(4, .int (nI (frN T p to_6))), (5, .int (nI (tollT T to_6))), (3, .int (nI d)), (9, .int (nI 1)), (8, .int (nI (frN T p to_6))), (7, .int (nI to_6)), (0, .ref (r 0)), (1, .int (nI p)), (2, .int (nI g)), (6, .int (nI d))]) hx hb dX4_bestOf_145 hl (by decide) rfl (fun ls hl => ?_)
                  refine lv_iinc (v := nI (d + 1)) (lv' := [(6, .int (nI (d + 1))), (4, .int (nI (frN T p to_6))), (5, .int (nI (tollT T to_6))), (3, .int (nI d)), (9, .int (nI 1)), (8, .int (nI (frN T p to_6))), (7, .int (nI to_6)), (0, .ref (r 0)), (1, .int (nI p)), (2, .int (nI g))]) hx hb dX4_bestOf_147 hl (k := 9) rfl (nI_add _ 1) (by decide) rfl (fun ls hl => ?_)
                  refine lv_goto (tgt := 21) hx hb dX4_bestOf_150 (by decide) ?_
                  have er : bsR T p g fa (d + 1) = _ := bsR_new c_5 hto_6 (by first | exact Or.inl (by omega) | exact Or.inr ⟨by omega, by simp [*], by omega⟩)
                  have hP : va_P D vwCl (refO r th (nI sn) (nI ln) (nI pm) pn (nI sta) (nI (misM T p 12)) hs :: zC K r T :: sC K r sv :: bC K r cs :: pC K r pf :: fC K r ((bsR T p g fa (d + 1)).2.2.2) :: Y) H := by rw [er]; exact hP
                  have hD : va_D A (refO r th (nI sn) (nI ln) (nI pm) pn (nI sta) (nI (misM T p 12)) hs :: zC K r T :: sC K r sv :: bC K r cs :: pC K r pf :: fC K r ((bsR T p g fa (d + 1)).2.2.2) :: Y) := by rw [er]; exact hD
                  exact ih_21 (d + 1) (by omega) (by omega) _ _ hP hD hS _ (by rw [er] <;> first | rfl | (show _ = oI (bsR T p g fa d).1; rw [c_18]; rfl)) _ (by rw [er] <;> rfl) _ (by rw [er] <;> rfl) _ rfl ls (lv_sub hl [7, 8, 9, 3, 1, 2, 0] rfl)
  exact loop_1 _ 0 (by decide) (Nat.lt_succ_self _) _ _ hP hD hS _ rfl _ rfl _ rfl _ rfl ls (lv_sub hl [4, 5, 6, 3, 2, 1, 0] rfl)
