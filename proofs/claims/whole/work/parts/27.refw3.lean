theorem hd_X4_layWays : yX4_layWays.cls = RX4 ∧ yX4_layWays.cls ≠ "java/lang/invoke/MethodHandle" ∧ yX4_layWays.cls ≠ "java/lang/invoke/VarHandle" ∧ (parseMethodDescriptor yX4_layWays.desc).map (fun d => d.parameters.length) = some 2 := by decide +kernel
theorem hn_X4_layWays : yX4_layWays.cls ≠ "java/lang/invoke/MethodHandle" ∧ yX4_layWays.cls ≠ "java/lang/invoke/VarHandle" ∧ (parseMethodDescriptor yX4_layWays.desc).map (fun d => d.parameters.length) = some 2 := hd_X4_layWays.2
set_option maxHeartbeats 4000000 in
set_option maxRecDepth 100000 in
theorem c_X4_layWays (l : Launch) (D : va_G) (K : Nat → ClassId) (sz : Nat) (r : Nat → Nat) (th pn : Int32) (sn ln pm sta ms : Nat) (hs : Int64) (T : TW) (sv : Nat → Int32) (cs : Nat → Nat) (pf : Nat → Int32) (fa : Nat → Nat) (Y : va_W) (p m : Nat) (hI : Inv T) (hp : p < 4) (hm2 : m < 2) : Wr l yX4_layWays wsX4_layWays ({ frames := 3, cells := 0, slots := 0, locals := 57 } : Room) D K (refO r th (nI sn) (nI ln) (nI pm) pn (nI sta) (nI ms) hs :: zC K r T :: sC K r sv :: bC K r cs :: pC K r pf :: fC K r fa :: Y) sz [.ref (r 0), .int (nI p), .int (nI m)] (refO r th (nI sn) (nI ln) (nI pm) pn (nI sta) (nI ms) hs :: zC K r T :: sC K r sv :: bC K r cs :: pC K r pf :: fC K r (dst T p m) :: Y) none 0 0 := by
  refine wr_intro (cc := cX4_layWays) (maxL := 7) (ret := none) (by decide) rfl (Nat.le_of_ble_eq_true rfl) ?_
  intro pr en st md ar bl mt co A hx hb hml hr hts hown hk hsz hAe hP hE hD hS hA hin ls hl
  have hown : st.vm.findClass RX4 = some md.cls := hown
  have hl : lv_has ls 7 [(0, .ref (r 0)), (1, .int (nI p)), (2, .int (nI m))] := hl
  have hDS := dst_ok T p m
  obtain ⟨H, hH⟩ : ∃ z, z = st.heap := ⟨_, rfl⟩
  obtain ⟨locs, hlo⟩ : ∃ z : List Loc, z = [] := ⟨_, rfl⟩
  have hP : va_P D vwCl (refO r th (nI sn) (nI ln) (nI pm) pn (nI sta) (nI ms) hs :: zC K r T :: sC K r sv :: bC K r cs :: pC K r pf :: fC K r fa :: Y) H := by rw [hH]; exact hP
  have hS : va_S A st.heap H locs := by rw [hH, hlo]; exact hS
  suffices go : W pr l en (headSpec wsX4_layWays ({ frames := 3, cells := 0, slots := 0, locals := 57 } : Room)).room st md ar bl mt co H locs 0 0 (MQ bl (wrQ D (refO r th (nI sn) (nI ln) (nI pm) pn (nI sta) (nI ms) hs :: zC K r T :: sC K r sv :: bC K r cs :: pC K r pf :: fC K r fa :: Y) (refO r th (nI sn) (nI ln) (nI pm) pn (nI sta) (nI ms) hs :: zC K r T :: sC K r sv :: bC K r cs :: pC K r pf :: fC K r (dst T p m) :: Y) sz none) ar st 0 0 A) (F0 md 0 ls []) by rw [hH, hlo] at go; exact go
  clear hH hlo
  have F22 : (Cond.fieldLink RX4 22 "TramTollsModel" "far" "[I").before ar st = true := hts _ (List.mem_of_getElem? (i := 1) rfl)
  have inX4 : ∀ w ∈ u_ws RX4 TX4 13, w ∈ wsX4_layWays := fun w h => List.mem_cons_of_mem _ (List.mem_append_right _ h)
  have C173 : (Cond.constant RX4 173 (1000000)).before ar st = true := hts _ (List.mem_of_getElem? (i := 2) rfl)
  refine lv_iconst (v := nI 0) hx hb dX4_layWays_0 (by decide) ?_
  refine lv_istore_n (lv' := [(3, .int (nI 0)), (0, .ref (r 0)), (1, .int (nI p)), (2, .int (nI m))]) hx hb dX4_layWays_1 rfl hl (by decide) rfl (fun ls hl => ?_)
  have loop_1 : ∀ (n_2 : Nat) (i : Nat) (f : Nat → Nat), (i ≤ 80) → (∀ s9, s9 < i → f s9 = if hasT T p s9 = true then 0 else 1000000) → (80 - i) < n_2 → ∀ (H : Heap) (locs : List Loc), va_P D vwCl (refO r th (nI sn) (nI ln) (nI pm) pn (nI sta) (nI ms) hs :: zC K r T :: sC K r sv :: bC K r cs :: pC K r pf :: fC K r f :: Y) H → va_D A (refO r th (nI sn) (nI ln) (nI pm) pn (nI sta) (nI ms) hs :: zC K r T :: sC K r sv :: bC K r cs :: pC K r pf :: fC K r f :: Y) → va_S A st.heap H locs →  ∀ x_3 : Int32, x_3 = nI i → ∀ ls : Array Slot, lv_has ls 7 [(0, .ref (r 0)), (1, .int (nI p)), (2, .int (nI m)), (3, .int x_3)] → W pr l en (headSpec wsX4_layWays ({ frames := 3, cells := 0, slots := 0, locals := 57 } : Room)).room st md ar bl mt co H locs 0 0 (MQ bl (wrQ D (refO r th (nI sn) (nI ln) (nI pm) pn (nI sta) (nI ms) hs :: zC K r T :: sC K r sv :: bC K r cs :: pC K r pf :: fC K r fa :: Y) (refO r th (nI sn) (nI ln) (nI pm) pn (nI sta) (nI ms) hs :: zC K r T :: sC K r sv :: bC K r cs :: pC K r pf :: fC K r (dst T p m) :: Y) sz none) ar st 0 0 A) (F0 md 2 ls []) := by
    intro n_2
    induction n_2 with
    | zero => intro i f _ _ hn_2; exact absurd hn_2 (Nat.not_lt_zero _)
    | succ n_2 ih_2 =>
      intro i f hi hf hn_2 H locs hP hD hS x_3 ex_3 ls hl
      subst ex_3
      have hl : lv_has ls 7 [(0, .ref (r 0)), (1, .int (nI p)), (2, .int (nI m)), (3, .int (nI i))] := hl
      refine lv_iload_n hx hb dX4_layWays_2 rfl (lv_at hl 3 rfl) ?_
      refine lv_bipush (v := nI 80) hx hb dX4_layWays_3 (by decide) ?_
      refine nv_icmp_ge (x := i) (y := 80) (tgt := 35) hx hb dX4_layWays_5 (by decide) (by omega) (by decide) (fun c_2 => ?_) (fun c_2 => ?_)
      · have n_c_2 := Nat.not_lt.mpr c_2
        refine lv_iconst (v := nI 1) hx hb dX4_layWays_35 (by decide) ?_
        refine lv_istore_n (lv' := [(3, .int (nI 1)), (0, .ref (r 0)), (1, .int (nI p)), (2, .int (nI m))]) hx hb dX4_layWays_36 rfl hl (by decide) rfl (fun ls hl => ?_)
        have loop_3 : ∀ (n_37 : Nat) (f0 : Nat → Nat) (mo : Nat), (FI T p (dst T p m) f0) → (mo < 2) → (mo = 0 → ∀ s9 d9, s9 < 80 → d9 < 4 → Rlx T p m f0 s9 d9) → (2 * fb_sm f0 80 + mo) < n_37 → ∀ (H : Heap) (locs : List Loc), va_P D vwCl (refO r th (nI sn) (nI ln) (nI pm) pn (nI sta) (nI ms) hs :: zC K r T :: sC K r sv :: bC K r cs :: pC K r pf :: fC K r f0 :: Y) H → va_D A (refO r th (nI sn) (nI ln) (nI pm) pn (nI sta) (nI ms) hs :: zC K r T :: sC K r sv :: bC K r cs :: pC K r pf :: fC K r f0 :: Y) → va_S A st.heap H locs →  ∀ x_3 : Int32, x_3 = nI mo → ∀ ls : Array Slot, lv_has ls 7 [(0, .ref (r 0)), (1, .int (nI p)), (2, .int (nI m)), (3, .int x_3)] → W pr l en (headSpec wsX4_layWays ({ frames := 3, cells := 0, slots := 0, locals := 57 } : Room)).room st md ar bl mt co H locs 0 0 (MQ bl (wrQ D (refO r th (nI sn) (nI ln) (nI pm) pn (nI sta) (nI ms) hs :: zC K r T :: sC K r sv :: bC K r cs :: pC K r pf :: fC K r fa :: Y) (refO r th (nI sn) (nI ln) (nI pm) pn (nI sta) (nI ms) hs :: zC K r T :: sC K r sv :: bC K r cs :: pC K r pf :: fC K r (dst T p m) :: Y) sz none) ar st 0 0 A) (F0 md 37 ls []) := by
          intro n_37
          induction n_37 with
          | zero => intro f0 mo _ _ _ hn_37; exact absurd hn_37 (Nat.not_lt_zero _)
          | succ n_37 ih_37 =>
            intro f0 mo hFI hmo hR hn_37 H locs hP hD hS x_3 ex_3 ls hl
            subst ex_3
            have hl : lv_has ls 7 [(0, .ref (r 0)), (1, .int (nI p)), (2, .int (nI m)), (3, .int (nI mo))] := hl
            refine lv_iload_n hx hb dX4_layWays_37 rfl (lv_at hl 3 rfl) ?_
            refine nv_if_eq (x := mo) (tgt := 167) hx hb dX4_layWays_38 (by decide) (by omega) (fun c_4 => ?_) (fun c_4 => ?_)
            · have n_c_4 : ¬ 0 < mo := by omega
              have hP : va_P D vwCl ((refO r th (nI sn) (nI ln) (nI pm) pn (nI sta) (nI ms) hs :: zC K r T :: sC K r sv :: bC K r cs :: pC K r pf :: fC K r f0 :: Y).set 5 (r 5, .inl (K 0, 80, .inl (fun j => nI (dst T p m j))))) H := va_P.cong (q0 := 5) (h := r 5) (n := 80) (f := fun j => nI (f0 j)) hP (fun j hj => congrArg nI (hFI.final (hR (by omega)) hDS j hj))
              have hD : va_D A ((refO r th (nI sn) (nI ln) (nI pm) pn (nI sta) (nI ms) hs :: zC K r T :: sC K r sv :: bC K r cs :: pC K r pf :: fC K r f0 :: Y).set 5 (r 5, .inl (K 0, 80, .inl (fun j => nI (dst T p m j))))) := va_D.cong (q0 := 5) (h := r 5) (e1 := .inl (K 0, 80, .inl (fun j => nI (f0 j)))) hD
              have hP : va_P D vwCl (refO r th (nI sn) (nI ln) (nI pm) pn (nI sta) (nI ms) hs :: zC K r T :: sC K r sv :: bC K r cs :: pC K r pf :: fC K r (dst T p m) :: Y) H := hP
              have hD : va_D A (refO r th (nI sn) (nI ln) (nI pm) pn (nI sta) (nI ms) hs :: zC K r T :: sC K r sv :: bC K r cs :: pC K r pf :: fC K r (dst T p m) :: Y) := hD
              exact wr_vret hAe hP hD hS hx hb hr hk dX4_layWays_167 ⟨Nat.le_of_ble_eq_true rfl, Nat.le_of_ble_eq_true rfl⟩
            · have n_c_4 : ¬ mo = 0 := by omega
              refine lv_iconst (v := nI 0) hx hb dX4_layWays_41 (by decide) ?_
              refine lv_istore_n (lv' := [(3, .int (nI 0)), (0, .ref (r 0)), (1, .int (nI p)), (2, .int (nI m))]) hx hb dX4_layWays_42 rfl hl (by decide) rfl (fun ls hl => ?_)
              refine lv_iconst (v := nI 0) hx hb dX4_layWays_43 (by decide) ?_
              refine lv_istore (lv' := [(4, .int (nI 0)), (3, .int (nI 0)), (0, .ref (r 0)), (1, .int (nI p)), (2, .int (nI m))]) hx hb dX4_layWays_44 hl (by decide) rfl (fun ls hl => ?_)
              have loop_5 : ∀ (n_46 : Nat) (k : Nat) (f : Nat → Nat) (mo : Nat), (k ≤ 320) → (SI T p m (dst T p m) f0 f mo k) → (320 - k) < n_46 → ∀ (H : Heap) (locs : List Loc), va_P D vwCl (refO r th (nI sn) (nI ln) (nI pm) pn (nI sta) (nI ms) hs :: zC K r T :: sC K r sv :: bC K r cs :: pC K r pf :: fC K r f :: Y) H → va_D A (refO r th (nI sn) (nI ln) (nI pm) pn (nI sta) (nI ms) hs :: zC K r T :: sC K r sv :: bC K r cs :: pC K r pf :: fC K r f :: Y) → va_S A st.heap H locs →  ∀ x_3 : Int32, x_3 = nI mo → ∀ x_4 : Int32, x_4 = nI k → ∀ ls : Array Slot, lv_has ls 7 [(0, .ref (r 0)), (1, .int (nI p)), (2, .int (nI m)), (3, .int x_3), (4, .int x_4)] → W pr l en (headSpec wsX4_layWays ({ frames := 3, cells := 0, slots := 0, locals := 57 } : Room)).room st md ar bl mt co H locs 0 0 (MQ bl (wrQ D (refO r th (nI sn) (nI ln) (nI pm) pn (nI sta) (nI ms) hs :: zC K r T :: sC K r sv :: bC K r cs :: pC K r pf :: fC K r fa :: Y) (refO r th (nI sn) (nI ln) (nI pm) pn (nI sta) (nI ms) hs :: zC K r T :: sC K r sv :: bC K r cs :: pC K r pf :: fC K r (dst T p m) :: Y) sz none) ar st 0 0 A) (F0 md 46 ls []) := by
                intro n_46
                induction n_46 with
                | zero => intro k f mo _ _ hn_46; exact absurd hn_46 (Nat.not_lt_zero _)
                | succ n_46 ih_46 =>
                  intro k f mo hk hSI hn_46 H locs hP hD hS x_3 ex_3 x_4 ex_4 ls hl
                  subst ex_3
                  subst ex_4
                  have hl : lv_has ls 7 [(0, .ref (r 0)), (1, .int (nI p)), (2, .int (nI m)), (3, .int (nI mo)), (4, .int (nI k))] := hl
                  have hmo2 := hSI.2.1
                  refine lv_iload hx hb dX4_layWays_46 (lv_at hl 4 rfl) ?_
                  refine lv_sipush (v := nI 320) hx hb dX4_layWays_48 (by decide) ?_
                  refine nv_icmp_ge (x := k) (y := 320) (tgt := 164) hx hb dX4_layWays_51 (by decide) (by omega) (by decide) (fun c_6 => ?_) (fun c_6 => ?_)
                  · have n_c_6 := Nat.not_lt.mpr c_6
                    refine lv_goto (tgt := 37) hx hb dX4_layWays_164 (by decide) ?_
                    have hls := hSI.less
                    exact ih_37 f mo hSI.1 hSI.2.1 (fun q9 => hSI.done9 q9 (by omega)) (by omega) _ _ hP hD hS _ rfl ls (lv_sub hl [0, 1, 2, 3] rfl)
                  · have n_c_6 := Nat.not_le.mpr c_6
                    refine lv_iload hx hb dX4_layWays_54 (lv_at hl 4 rfl) ?_
                    refine lv_iconst (v := nI 4) hx hb dX4_layWays_56 (by decide) ?_
                    refine nv_idiv (x := k) (y := 4) hx hb dX4_layWays_57 (by omega) (by omega) (by decide) ?_
                    refine lv_iload hx hb dX4_layWays_58 (lv_at hl 4 rfl) ?_
                    refine lv_iconst (v := nI 4) hx hb dX4_layWays_60 (by decide) ?_
                    refine nv_irem (x := k) (y := 4) hx hb dX4_layWays_61 (by omega) (by omega) (by decide) ?_
                    refine rd_S (rest := []) ⟨hx, hb, hml, hown, hts⟩ hP hE (c_X4_beside l D K _ (k / 4) (k % 4) (by omega) (by omega)) (va_cwS 2 hts gX4_layWays_X4_beside rfl rfl rfl hn_X4_beside ⟨Nat.le_of_ble_eq_true rfl, Nat.le_of_ble_eq_true rfl⟩) rfl hl.1 rfl (Nat.le_of_ble_eq_true rfl) dX4_layWays_62 ⟨Nat.le_of_ble_eq_true rfl, Nat.le_of_ble_eq_true rfl⟩ ?_
                    refine lv_istore (lv' := [(5, .int (oI (nbT (k / 4) (k % 4)))), (0, .ref (r 0)), (1, .int (nI p)), (2, .int (nI m)), (3, .int (nI mo)), (4, .int (nI k))]) hx hb dX4_layWays_65 hl (by decide) rfl (fun ls hl => ?_)
                    refine lv_iload_n hx hb dX4_layWays_67 rfl (lv_at hl 3 rfl) ?_
                    refine nv_if_eq (x := m) (tgt := 82) hx hb dX4_layWays_68 (by decide) (by omega) (fun c_7 => ?_) (fun c_7 => ?_)
                    · have n_c_7 : ¬ 0 < m := by omega
                      refine lv_iconst (v := nI 1) hx hb dX4_layWays_82 (by decide) ?_
                      refine top_i (y := nI (wgt T m (k / 4))) (congrArg nI (by rw [wgt, if_pos (by omega)])) ?_
                      have hw9 := wgt_le (m := m) (s := k / 4) hI
                      refine lv_istore (lv' := [(6, .int (nI (wgt T m (k / 4)))), (5, .int (oI (nbT (k / 4) (k % 4)))), (0, .ref (r 0)), (1, .int (nI p)), (2, .int (nI m)), (3, .int (nI mo)), (4, .int (nI k))]) hx hb dX4_layWays_83 hl (by decide) rfl (fun ls hl => ?_)
                      refine lv_iload hx hb dX4_layWays_85 (lv_at hl 1 rfl) ?_
                      refine lv_iconst (v := -1) hx hb dX4_layWays_87 (by decide) ?_
                      refine ov_icmp_eq (tgt := 158) hx hb dX4_layWays_88 (by decide) (lt31 (nb_lt (show (k / 4) < 80 by omega)) (by decide)) (fun c_8 => ?_) (fun k_9 c_8 => ?_)
                      · refine lv_iinc (v := nI (k + 1)) (lv' := [(4, .int (nI (k + 1))), (6, .int (nI (wgt T m (k / 4)))), (5, .int (oI (nbT (k / 4) (k % 4)))), (0, .ref (r 0)), (1, .int (nI p)), (2, .int (nI m)), (3, .int (nI mo))]) hx hb dX4_layWays_158 hl (k := 6) rfl (nI_add _ 1) (by decide) rfl (fun ls hl => ?_)
                        refine lv_goto (tgt := 46) hx hb dX4_layWays_161 (by decide) ?_
                        exact ih_46 (k + 1) f mo (by omega) (hSI.skip (fun a9 h1 _ _ => by rw [c_8] at h1; cases h1)) (by omega) _ _ hP hD hS _ rfl _ rfl ls (lv_sub hl [3, 4, 5, 6, 0] rfl)
                      · have hk_c_8 := (nb_lt (show (k / 4) < 80 by omega)) k_9 c_8
                        refine lv_aload_n hx hb dX4_layWays_91 rfl (lv_at hl 2 rfl) ?_
                        refine va_get (D := D) (ci := 4) (v := .ref (r 5)) (C := RX4) (T := TX4) (N := 13) hx hb hts inX4 hown hE.1 hP 0 rfl rfl 10 (by decide) F22 (fun _ h9 => h9) rfl dX4_layWays_92 ?_
                        refine lv_iload hx hb dX4_layWays_95 (lv_at hl 1 rfl) ?_
                        refine top_i (y := nI k_9) (by rw [c_8]; rfl) ?_
                        refine va_iald hx hb hE.1 hP 5 0 rfl rfl (pk_in k_9 80 (by omega)) dX4_layWays_97 ?_
                        rw [pk_cl k_9]
                        refine top_i (y := nI (f k_9)) (rfl) ?_
                        have hq_10 := hSI.1 k_9 (by omega)
                        have hq_101 := hq_10.2.1
                        refine lv_ldc (v := nI 1000000) hx hb hown C173 dX4_layWays_98 ?_
                        refine nv_icmp_ge (x := f k_9) (y := 1000000) (tgt := 158) hx hb dX4_layWays_100 (by decide) (by omega) (by decide) (fun c_11 => ?_) (fun c_11 => ?_)
                        · have n_c_11 := Nat.not_lt.mpr c_11
                          refine lv_iinc (v := nI (k + 1)) (lv' := [(4, .int (nI (k + 1))), (6, .int (nI (wgt T m (k / 4)))), (5, .int (oI (nbT (k / 4) (k % 4)))), (0, .ref (r 0)), (1, .int (nI p)), (2, .int (nI m)), (3, .int (nI mo))]) hx hb dX4_layWays_158 hl (k := 6) rfl (nI_add _ 1) (by decide) rfl (fun ls hl => ?_)
                          refine lv_goto (tgt := 46) hx hb dX4_layWays_161 (by decide) ?_
                          exact ih_46 (k + 1) f mo (by omega) (hSI.skip (fun a9 h1 h2 h3 => by
        rw [c_8] at h1; cases h1
        first | omega | exact absurd h3 id)) (by omega) _ _ hP hD hS _ rfl _ rfl ls (lv_sub hl [3, 4, 5, 6, 0] rfl)
                        · have n_c_11 := Nat.not_le.mpr c_11
                          refine lv_aload_n hx hb dX4_layWays_103 rfl (lv_at hl 2 rfl) ?_
                          refine lv_iload_n hx hb dX4_layWays_104 rfl (lv_at hl 3 rfl) ?_
                          refine lv_iload hx hb dX4_layWays_105 (lv_at hl 6 rfl) ?_
                          refine lv_iconst (v := nI 4) hx hb dX4_layWays_107 (by decide) ?_
                          refine nv_idiv (x := k) (y := 4) hx hb dX4_layWays_108 (by omega) (by omega) (by decide) ?_
                          refine rd_V (rest := []) (ci := 4) (q0 := 0) ⟨hx, hb, hml, hown, hts⟩ hP hE (c_X4_isOpen l D K _ _ _ _ _ _ _ _ _ _ _ p (k / 4) hI (by omega) (by omega)) (cwV 2 hts gX4_layWays_X4_isOpen rfl rfl rfl hd_X4_isOpen ⟨Nat.le_of_ble_eq_true rfl, Nat.le_of_ble_eq_true rfl⟩) rfl rfl rfl rfl hl.1 rfl (Nat.le_of_ble_eq_true rfl) dX4_layWays_109 ⟨Nat.le_of_ble_eq_true rfl, Nat.le_of_ble_eq_true rfl⟩ ?_
                          refine bv_if_eq (x := opnT T p (k / 4)) (tgt := 158) hx hb dX4_layWays_112 (by decide) (fun c_12 => ?_) (fun c_12 => ?_)
                          · have o_c_12 : ¬ obsT T p (k / 4) = 0 := of_decide_eq_false c_12
                            refine lv_iinc (v := nI (k + 1)) (lv' := [(4, .int (nI (k + 1))), (6, .int (nI (wgt T m (k / 4)))), (5, .int (oI (nbT (k / 4) (k % 4)))), (0, .ref (r 0)), (1, .int (nI p)), (2, .int (nI m)), (3, .int (nI mo))]) hx hb dX4_layWays_158 hl (k := 6) rfl (nI_add _ 1) (by decide) rfl (fun ls hl => ?_)
                            refine lv_goto (tgt := 46) hx hb dX4_layWays_161 (by decide) ?_
                            exact ih_46 (k + 1) f mo (by omega) (hSI.skip (fun a9 h1 h2 h3 => by
        rw [c_8] at h1; cases h1
        first | omega | exact absurd h3 o_c_12)) (by omega) _ _ hP hD hS _ rfl _ rfl ls (lv_sub hl [3, 4, 5, 6, 0] rfl)
                          · have o_c_12 : obsT T p (k / 4) = 0 := of_decide_eq_true c_12
                            refine lv_aload_n hx hb dX4_layWays_115 rfl (lv_at hl 2 rfl) ?_
                            refine va_get (D := D) (ci := 4) (v := .ref (r 5)) (C := RX4) (T := TX4) (N := 13) hx hb hts inX4 hown hE.1 hP 0 rfl rfl 10 (by decide) F22 (fun _ h9 => h9) rfl dX4_layWays_116 ?_
                            refine lv_iload hx hb dX4_layWays_119 (lv_at hl 1 rfl) ?_
                            refine top_i (y := nI k_9) (by rw [c_8]; rfl) ?_
                            refine va_iald hx hb hE.1 hP 5 0 rfl rfl (pk_in k_9 80 (by omega)) dX4_layWays_121 ?_
                            rw [pk_cl k_9]
                            refine top_i (y := nI (f k_9)) (rfl) ?_
                            have hq_13 := hSI.1 k_9 (by omega)
                            have hq_131 := hq_13.2.1
                            refine lv_iload hx hb dX4_layWays_122 (lv_at hl 0 rfl) ?_
                            refine nv_iadd (x := f k_9) (y := wgt T m (k / 4)) hx hb dX4_layWays_124 ?_
                            refine lv_aload_n hx hb dX4_layWays_125 rfl (lv_at hl 2 rfl) ?_
                            refine va_get (D := D) (ci := 4) (v := .ref (r 5)) (C := RX4) (T := TX4) (N := 13) hx hb hts inX4 hown hE.1 hP 0 rfl rfl 10 (by decide) F22 (fun _ h9 => h9) rfl dX4_layWays_126 ?_
                            refine lv_iload hx hb dX4_layWays_129 (lv_at hl 6 rfl) ?_
                            refine lv_iconst (v := nI 4) hx hb dX4_layWays_131 (by decide) ?_
                            refine nv_idiv (x := k) (y := 4) hx hb dX4_layWays_132 (by omega) (by omega) (by decide) ?_
                            refine va_iald hx hb hE.1 hP 5 0 rfl rfl (pk_in (k / 4) 80 (by omega)) dX4_layWays_133 ?_
                            rw [pk_cl (k / 4)]
                            refine top_i (y := nI (f (k / 4))) (rfl) ?_
                            have hq_14 := hSI.1 (k / 4) (by omega)
                            have hq_141 := hq_14.2.1
                            refine nv_icmp_ge (x := (f k_9) + (wgt T m (k / 4))) (y := f (k / 4)) (tgt := 158) hx hb dX4_layWays_134 (by decide) (by omega) (by omega) (fun c_15 => ?_) (fun c_15 => ?_)
                            · have n_c_15 := Nat.not_lt.mpr c_15
                              refine lv_iinc (v := nI (k + 1)) (lv' := [(4, .int (nI (k + 1))), (6, .int (nI (wgt T m (k / 4)))), (5, .int (oI (nbT (k / 4) (k % 4)))), (0, .ref (r 0)), (1, .int (nI p)), (2, .int (nI m)), (3, .int (nI mo))]) hx hb dX4_layWays_158 hl (k := 6) rfl (nI_add _ 1) (by decide) rfl (fun ls hl => ?_)
                              refine lv_goto (tgt := 46) hx hb dX4_layWays_161 (by decide) ?_
                              exact ih_46 (k + 1) f mo (by omega) (hSI.skip (fun a9 h1 h2 h3 => by
        rw [c_8] at h1; cases h1
        first | omega | exact absurd h3 o_c_12)) (by omega) _ _ hP hD hS _ rfl _ rfl ls (lv_sub hl [3, 4, 5, 6, 0] rfl)
                            · have n_c_15 := Nat.not_le.mpr c_15
                              refine lv_aload_n hx hb dX4_layWays_137 rfl (lv_at hl 2 rfl) ?_
                              refine va_get (D := D) (ci := 4) (v := .ref (r 5)) (C := RX4) (T := TX4) (N := 13) hx hb hts inX4 hown hE.1 hP 0 rfl rfl 10 (by decide) F22 (fun _ h9 => h9) rfl dX4_layWays_138 ?_
                              refine lv_iload hx hb dX4_layWays_141 (lv_at hl 6 rfl) ?_
                              refine lv_iconst (v := nI 4) hx hb dX4_layWays_143 (by decide) ?_
                              refine nv_idiv (x := k) (y := 4) hx hb dX4_layWays_144 (by omega) (by omega) (by decide) ?_
                              refine lv_aload_n hx hb dX4_layWays_145 rfl (lv_at hl 2 rfl) ?_
                              refine va_get (D := D) (ci := 4) (v := .ref (r 5)) (C := RX4) (T := TX4) (N := 13) hx hb hts inX4 hown hE.1 hP 0 rfl rfl 10 (by decide) F22 (fun _ h9 => h9) rfl dX4_layWays_146 ?_
                              refine lv_iload hx hb dX4_layWays_149 (lv_at hl 1 rfl) ?_
                              refine top_i (y := nI k_9) (by rw [c_8]; rfl) ?_
                              refine va_iald hx hb hE.1 hP 5 0 rfl rfl (pk_in k_9 80 (by omega)) dX4_layWays_151 ?_
                              rw [pk_cl k_9]
                              refine top_i (y := nI (f k_9)) (rfl) ?_
                              have hq_16 := hSI.1 k_9 (by omega)
                              have hq_161 := hq_16.2.1
                              refine lv_iload hx hb dX4_layWays_152 (lv_at hl 0 rfl) ?_
                              refine nv_iadd (x := f k_9) (y := wgt T m (k / 4)) hx hb dX4_layWays_154 ?_
                              refine va_iast hx hb hE.1 hP hD hS 5 0 rfl rfl (pk_in (k / 4) 80 (by omega)) dX4_layWays_155 (fun H locs hP hD hS => ?_)
                              rw [pk_cl (k / 4)] at hP hD
                              rw [updNN f (k / 4) ((f k_9) + (wgt T m (k / 4)))] at hP hD
                              have hP : va_P D vwCl (refO r th (nI sn) (nI ln) (nI pm) pn (nI sta) (nI ms) hs :: zC K r T :: sC K r sv :: bC K r cs :: pC K r pf :: fC K r (va_up f (k / 4) ((f k_9) + (wgt T m (k / 4)))) :: Y) H := hP
                              have hD : va_D A (refO r th (nI sn) (nI ln) (nI pm) pn (nI sta) (nI ms) hs :: zC K r T :: sC K r sv :: bC K r cs :: pC K r pf :: fC K r (va_up f (k / 4) ((f k_9) + (wgt T m (k / 4)))) :: Y) := hD
                              refine lv_iconst (v := nI 1) hx hb dX4_layWays_156 (by decide) ?_
                              refine lv_istore_n (lv' := [(3, .int (nI 1)), (6, .int (nI (wgt T m (k / 4)))), (5, .int (oI (nbT (k / 4) (k % 4)))), (0, .ref (r 0)), (1, .int (nI p)), (2, .int (nI m)), (4, .int (nI k))]) hx hb dX4_layWays_157 rfl hl (by decide) rfl (fun ls hl => ?_)
                              refine lv_iinc (v := nI (k + 1)) (lv' := [(4, .int (nI (k + 1))), (3, .int (nI 1)), (6, .int (nI (wgt T m (k / 4)))), (5, .int (oI (nbT (k / 4) (k % 4)))), (0, .ref (r 0)), (1, .int (nI p)), (2, .int (nI m))]) hx hb dX4_layWays_158 hl (k := 6) rfl (nI_add _ 1) (by decide) rfl (fun ls hl => ?_)
                              refine lv_goto (tgt := 46) hx hb dX4_layWays_161 (by decide) ?_
                              exact ih_46 (k + 1) (va_up f (k / 4) ((f k_9) + (wgt T m (k / 4)))) 1 (by omega) (hSI.step hDS (by omega) c_8 (by omega) (by omega) o_c_12 (by omega)) (by omega) _ _ hP hD hS _ rfl _ rfl ls (lv_sub hl [4, 5, 6, 1, 0] rfl)
                    · have n_c_7 : ¬ m = 0 := by omega
                      refine lv_aload_n hx hb dX4_layWays_71 rfl (lv_at hl 1 rfl) ?_
                      refine lv_iload hx hb dX4_layWays_72 (lv_at hl 5 rfl) ?_
                      refine lv_iconst (v := nI 4) hx hb dX4_layWays_74 (by decide) ?_
                      refine nv_idiv (x := k) (y := 4) hx hb dX4_layWays_75 (by omega) (by omega) (by decide) ?_
                      refine rd_V (rest := []) (ci := 4) (q0 := 0) ⟨hx, hb, hml, hown, hts⟩ hP hE (c_X4_toll l D K _ _ _ _ _ _ _ _ _ _ _ (k / 4) hI (by omega)) (cwV 1 hts gX4_layWays_X4_toll rfl rfl rfl hd_X4_toll ⟨Nat.le_of_ble_eq_true rfl, Nat.le_of_ble_eq_true rfl⟩) rfl rfl rfl rfl hl.1 rfl (Nat.le_of_ble_eq_true rfl) dX4_layWays_76 ⟨Nat.le_of_ble_eq_true rfl, Nat.le_of_ble_eq_true rfl⟩ ?_
                      refine top_i (y := nI (wgt T m (k / 4))) (congrArg nI (by rw [wgt, if_neg (by omega)])) ?_
                      have hw9 := wgt_le (m := m) (s := k / 4) hI
                      have hb_17 := toll_lt (s := (k / 4)) hI
                      refine lv_goto (tgt := 83) hx hb dX4_layWays_79 (by decide) ?_
                      refine lv_istore (lv' := [(6, .int (nI (wgt T m (k / 4)))), (5, .int (oI (nbT (k / 4) (k % 4)))), (0, .ref (r 0)), (1, .int (nI p)), (2, .int (nI m)), (3, .int (nI mo)), (4, .int (nI k))]) hx hb dX4_layWays_83 hl (by decide) rfl (fun ls hl => ?_)
                      refine lv_iload hx hb dX4_layWays_85 (lv_at hl 1 rfl) ?_
                      refine lv_iconst (v := -1) hx hb dX4_layWays_87 (by decide) ?_
                      refine ov_icmp_eq (tgt := 158) hx hb dX4_layWays_88 (by decide) (lt31 (nb_lt (show (k / 4) < 80 by omega)) (by decide)) (fun c_18 => ?_) (fun k_19 c_18 => ?_)
                      · refine lv_iinc (v := nI (k + 1)) (lv' := [(4, .int (nI (k + 1))), (6, .int (nI (wgt T m (k / 4)))), (5, .int (oI (nbT (k / 4) (k % 4)))), (0, .ref (r 0)), (1, .int (nI p)), (2, .int (nI m)), (3, .int (nI mo))]) hx hb dX4_layWays_158 hl (k := 6) rfl (nI_add _ 1) (by decide) rfl (fun ls hl => ?_)
                        refine lv_goto (tgt := 46) hx hb dX4_layWays_161 (by decide) ?_
                        exact ih_46 (k + 1) f mo (by omega) (hSI.skip (fun a9 h1 _ _ => by rw [c_18] at h1; cases h1)) (by omega) _ _ hP hD hS _ rfl _ rfl ls (lv_sub hl [3, 4, 5, 6, 0] rfl)
                      · have hk_c_18 := (nb_lt (show (k / 4) < 80 by omega)) k_19 c_18
                        refine lv_aload_n hx hb dX4_layWays_91 rfl (lv_at hl 2 rfl) ?_
                        refine va_get (D := D) (ci := 4) (v := .ref (r 5)) (C := RX4) (T := TX4) (N := 13) hx hb hts inX4 hown hE.1 hP 0 rfl rfl 10 (by decide) F22 (fun _ h9 => h9) rfl dX4_layWays_92 ?_
                        refine lv_iload hx hb dX4_layWays_95 (lv_at hl 1 rfl) ?_
                        refine top_i (y := nI k_19) (by rw [c_18]; rfl) ?_
                        refine va_iald hx hb hE.1 hP 5 0 rfl rfl (pk_in k_19 80 (by omega)) dX4_layWays_97 ?_
                        rw [pk_cl k_19]
                        refine top_i (y := nI (f k_19)) (rfl) ?_
                        have hq_20 := hSI.1 k_19 (by omega)
                        have hq_201 := hq_20.2.1
                        refine lv_ldc (v := nI 1000000) hx hb hown C173 dX4_layWays_98 ?_
                        refine nv_icmp_ge (x := f k_19) (y := 1000000) (tgt := 158) hx hb dX4_layWays_100 (by decide) (by omega) (by decide) (fun c_21 => ?_) (fun c_21 => ?_)
                        · have n_c_21 := Nat.not_lt.mpr c_21
                          refine lv_iinc (v := nI (k + 1)) (lv' := [(4, .int (nI (k + 1))), (6, .int (nI (wgt T m (k / 4)))), (5, .int (oI (nbT (k / 4) (k % 4)))), (0, .ref (r 0)), (1, .int (nI p)), (2, .int (nI m)), (3, .int (nI mo))]) hx hb dX4_layWays_158 hl (k := 6) rfl (nI_add _ 1) (by decide) rfl (fun ls hl => ?_)
                          refine lv_goto (tgt := 46) hx hb dX4_layWays_161 (by decide) ?_
                          exact ih_46 (k + 1) f mo (by omega) (hSI.skip (fun a9 h1 h2 h3 => by
        rw [c_18] at h1; cases h1
        first | omega | exact absurd h3 id)) (by omega) _ _ hP hD hS _ rfl _ rfl ls (lv_sub hl [3, 4, 5, 6, 0] rfl)
                        · have n_c_21 := Nat.not_le.mpr c_21
                          refine lv_aload_n hx hb dX4_layWays_103 rfl (lv_at hl 2 rfl) ?_
                          refine lv_iload_n hx hb dX4_layWays_104 rfl (lv_at hl 3 rfl) ?_
                          refine lv_iload hx hb dX4_layWays_105 (lv_at hl 6 rfl) ?_
                          refine lv_iconst (v := nI 4) hx hb dX4_layWays_107 (by decide) ?_
                          refine nv_idiv (x := k) (y := 4) hx hb dX4_layWays_108 (by omega) (by omega) (by decide) ?_
                          refine rd_V (rest := []) (ci := 4) (q0 := 0) ⟨hx, hb, hml, hown, hts⟩ hP hE (c_X4_isOpen l D K _ _ _ _ _ _ _ _ _ _ _ p (k / 4) hI (by omega) (by omega)) (cwV 2 hts gX4_layWays_X4_isOpen rfl rfl rfl hd_X4_isOpen ⟨Nat.le_of_ble_eq_true rfl, Nat.le_of_ble_eq_true rfl⟩) rfl rfl rfl rfl hl.1 rfl (Nat.le_of_ble_eq_true rfl) dX4_layWays_109 ⟨Nat.le_of_ble_eq_true rfl, Nat.le_of_ble_eq_true rfl⟩ ?_
                          refine bv_if_eq (x := opnT T p (k / 4)) (tgt := 158) hx hb dX4_layWays_112 (by decide) (fun c_22 => ?_) (fun c_22 => ?_)
                          · have o_c_22 : ¬ obsT T p (k / 4) = 0 := of_decide_eq_false c_22
                            refine lv_iinc (v := nI (k + 1)) (lv' := [(4, .int (nI (k + 1))), (6, .int (nI (wgt T m (k / 4)))), (5, .int (oI (nbT (k / 4) (k % 4)))), (0, .ref (r 0)), (1, .int (nI p)), (2, .int (nI m)), (3, .int (nI mo))]) hx hb dX4_layWays_158 hl (k := 6) rfl (nI_add _ 1) (by decide) rfl (fun ls hl => ?_)
                            refine lv_goto (tgt := 46) hx hb dX4_layWays_161 (by decide) ?_
                            exact ih_46 (k + 1) f mo (by omega) (hSI.skip (fun a9 h1 h2 h3 => by
        rw [c_18] at h1; cases h1
        first | omega | exact absurd h3 o_c_22)) (by omega) _ _ hP hD hS _ rfl _ rfl ls (lv_sub hl [3, 4, 5, 6, 0] rfl)
                          · have o_c_22 : obsT T p (k / 4) = 0 := of_decide_eq_true c_22
                            refine lv_aload_n hx hb dX4_layWays_115 rfl (lv_at hl 2 rfl) ?_
                            refine va_get (D := D) (ci := 4) (v := .ref (r 5)) (C := RX4) (T := TX4) (N := 13) hx hb hts inX4 hown hE.1 hP 0 rfl rfl 10 (by decide) F22 (fun _ h9 => h9) rfl dX4_layWays_116 ?_
                            refine lv_iload hx hb dX4_layWays_119 (lv_at hl 1 rfl) ?_
                            refine top_i (y := nI k_19) (by rw [c_18]; rfl) ?_
                            refine va_iald hx hb hE.1 hP 5 0 rfl rfl (pk_in k_19 80 (by omega)) dX4_layWays_121 ?_
                            rw [pk_cl k_19]
                            refine top_i (y := nI (f k_19)) (rfl) ?_
                            have hq_23 := hSI.1 k_19 (by omega)
                            have hq_231 := hq_23.2.1
                            refine lv_iload hx hb dX4_layWays_122 (lv_at hl 0 rfl) ?_
                            refine nv_iadd (x := f k_19) (y := wgt T m (k / 4)) hx hb dX4_layWays_124 ?_
                            refine lv_aload_n hx hb dX4_layWays_125 rfl (lv_at hl 2 rfl) ?_
                            refine va_get (D := D) (ci := 4) (v := .ref (r 5)) (C := RX4) (T := TX4) (N := 13) hx hb hts inX4 hown hE.1 hP 0 rfl rfl 10 (by decide) F22 (fun _ h9 => h9) rfl dX4_layWays_126 ?_
                            refine lv_iload hx hb dX4_layWays_129 (lv_at hl 6 rfl) ?_
                            refine lv_iconst (v := nI 4) hx hb dX4_layWays_131 (by decide) ?_
                            refine nv_idiv (x := k) (y := 4) hx hb dX4_layWays_132 (by omega) (by omega) (by decide) ?_
                            refine va_iald hx hb hE.1 hP 5 0 rfl rfl (pk_in (k / 4) 80 (by omega)) dX4_layWays_133 ?_
                            rw [pk_cl (k / 4)]
                            refine top_i (y := nI (f (k / 4))) (rfl) ?_
                            have hq_24 := hSI.1 (k / 4) (by omega)
                            have hq_241 := hq_24.2.1
                            refine nv_icmp_ge (x := (f k_19) + (wgt T m (k / 4))) (y := f (k / 4)) (tgt := 158) hx hb dX4_layWays_134 (by decide) (by omega) (by omega) (fun c_25 => ?_) (fun c_25 => ?_)
                            · have n_c_25 := Nat.not_lt.mpr c_25
                              refine lv_iinc (v := nI (k + 1)) (lv' := [(4, .int (nI (k + 1))), (6, .int (nI (wgt T m (k / 4)))), (5, .int (oI (nbT (k / 4) (k % 4)))), (0, .ref (r 0)), (1, .int (nI p)), (2, .int (nI m)), (3, .int (nI mo))]) hx hb dX4_layWays_158 hl (k := 6) rfl (nI_add _ 1) (by decide) rfl (fun ls hl => ?_)
                              refine lv_goto (tgt := 46) hx hb dX4_layWays_161 (by decide) ?_
                              exact ih_46 (k + 1) f mo (by omega) (hSI.skip (fun a9 h1 h2 h3 => by
        rw [c_18] at h1; cases h1
        first | omega | exact absurd h3 o_c_22)) (by omega) _ _ hP hD hS _ rfl _ rfl ls (lv_sub hl [3, 4, 5, 6, 0] rfl)
                            · have n_c_25 := Nat.not_le.mpr c_25
                              refine lv_aload_n hx hb dX4_layWays_137 rfl (lv_at hl 2 rfl) ?_
                              refine va_get (D := D) (ci := 4) (v := .ref (r 5)) (C := RX4) (T := TX4) (N := 13) hx hb hts inX4 hown hE.1 hP 0 rfl rfl 10 (by decide) F22 (fun _ h9 => h9) rfl dX4_layWays_138 ?_
                              refine lv_iload hx hb dX4_layWays_141 (lv_at hl 6 rfl) ?_
                              refine lv_iconst (v := nI 4) hx hb dX4_layWays_143 (by decide) ?_
                              refine nv_idiv (x := k) (y := 4) hx hb dX4_layWays_144 (by omega) (by omega) (by decide) ?_
                              refine lv_aload_n hx hb dX4_layWays_145 rfl (lv_at hl 2 rfl) ?_
                              refine va_get (D := D) (ci := 4) (v := .ref (r 5)) (C := RX4) (T := TX4) (N := 13) hx hb hts inX4 hown hE.1 hP 0 rfl rfl 10 (by decide) F22 (fun _ h9 => h9) rfl dX4_layWays_146 ?_
                              refine lv_iload hx hb dX4_layWays_149 (lv_at hl 1 rfl) ?_
                              refine top_i (y := nI k_19) (by rw [c_18]; rfl) ?_
                              refine va_iald hx hb hE.1 hP 5 0 rfl rfl (pk_in k_19 80 (by omega)) dX4_layWays_151 ?_
                              rw [pk_cl k_19]
                              refine top_i (y := nI (f k_19)) (rfl) ?_
                              have hq_26 := hSI.1 k_19 (by omega)
                              have hq_261 := hq_26.2.1
                              refine lv_iload hx hb dX4_layWays_152 (lv_at hl 0 rfl) ?_
                              refine nv_iadd (x := f k_19) (y := wgt T m (k / 4)) hx hb dX4_layWays_154 ?_
                              refine va_iast hx hb hE.1 hP hD hS 5 0 rfl rfl (pk_in (k / 4) 80 (by omega)) dX4_layWays_155 (fun H locs hP hD hS => ?_)
                              rw [pk_cl (k / 4)] at hP hD
                              rw [updNN f (k / 4) ((f k_19) + (wgt T m (k / 4)))] at hP hD
                              have hP : va_P D vwCl (refO r th (nI sn) (nI ln) (nI pm) pn (nI sta) (nI ms) hs :: zC K r T :: sC K r sv :: bC K r cs :: pC K r pf :: fC K r (va_up f (k / 4) ((f k_19) + (wgt T m (k / 4)))) :: Y) H := hP
                              have hD : va_D A (refO r th (nI sn) (nI ln) (nI pm) pn (nI sta) (nI ms) hs :: zC K r T :: sC K r sv :: bC K r cs :: pC K r pf :: fC K r (va_up f (k / 4) ((f k_19) + (wgt T m (k / 4)))) :: Y) := hD
                              refine lv_iconst (v := nI 1) hx hb dX4_layWays_156 (by decide) ?_
                              refine lv_istore_n (lv' := [(3, .int (nI 1)), (6, .int (nI (wgt T m (k / 4)))), (5, .int (oI (nbT (k / 4) (k % 4)))), (0, .ref (r 0)), (1, .int (nI p)), (2, .int (nI m)), (4, .int (nI k))]) hx hb dX4_layWays_157 rfl hl (by decide) rfl (fun ls hl => ?_)
                              refine lv_iinc (v := nI (k + 1)) (lv' := [(4, .int (nI (k + 1))), (3, .int (nI 1)), (6, .int (nI (wgt T m (k / 4)))), (5, .int (oI (nbT (k / 4) (k % 4)))), (0, .ref (r 0)), (1, .int (nI p)), (2, .int (nI m))]) hx hb dX4_layWays_158 hl (k := 6) rfl (nI_add _ 1) (by decide) rfl (fun ls hl => ?_)
                              refine lv_goto (tgt := 46) hx hb dX4_layWays_161 (by decide) ?_
                              exact ih_46 (k + 1) (va_up f (k / 4) ((f k_19) + (wgt T m (k / 4)))) 1 (by omega) (hSI.step hDS (by omega) c_18 (by omega) (by omega) o_c_22 (by omega)) (by omega) _ _ hP hD hS _ rfl _ rfl ls (lv_sub hl [4, 5, 6, 1, 0] rfl)
              exact loop_5 _ 0 f0 0 (by decide) (SI.start hFI) (Nat.lt_succ_self _) _ _ hP hD hS _ rfl _ rfl ls (lv_sub hl [2, 3, 4, 1, 0] rfl)
        exact loop_3 _ f 1 (fi_ini hDS (fun s9 q9 => hf s9 (by omega))) (by decide) (fun q9 => by cases q9) (Nat.lt_succ_self _) _ _ hP hD hS _ rfl ls (lv_sub hl [1, 2, 3, 0] rfl)
      · have n_c_2 := Nat.not_le.mpr c_2
        refine lv_aload_n hx hb dX4_layWays_8 rfl (lv_at hl 0 rfl) ?_
        refine va_get (D := D) (ci := 4) (v := .ref (r 5)) (C := RX4) (T := TX4) (N := 13) hx hb hts inX4 hown hE.1 hP 0 rfl rfl 10 (by decide) F22 (fun _ h9 => h9) rfl dX4_layWays_9 ?_
        refine lv_iload_n hx hb dX4_layWays_12 rfl (lv_at hl 3 rfl) ?_
        refine lv_aload_n hx hb dX4_layWays_13 rfl (lv_at hl 0 rfl) ?_
        refine lv_iload_n hx hb dX4_layWays_14 rfl (lv_at hl 1 rfl) ?_
        refine lv_iload_n hx hb dX4_layWays_15 rfl (lv_at hl 3 rfl) ?_
        refine rd_V (rest := [.int (nI i), .ref (r 5)]) (ci := 4) (q0 := 0) ⟨hx, hb, hml, hown, hts⟩ hP hE (c_X4_hasTrack l D K _ _ _ _ _ _ _ _ _ _ _ p i hI (by omega) (by omega)) (cwV 2 hts gX4_layWays_X4_hasTrack rfl rfl rfl hd_X4_hasTrack ⟨Nat.le_of_ble_eq_true rfl, Nat.le_of_ble_eq_true rfl⟩) rfl rfl rfl rfl hl.1 rfl (Nat.le_of_ble_eq_true rfl) dX4_layWays_16 ⟨Nat.le_of_ble_eq_true rfl, Nat.le_of_ble_eq_true rfl⟩ ?_
        refine bv_if_eq (x := hasT T p i) (tgt := 26) hx hb dX4_layWays_19 (by decide) (fun c_27 => ?_) (fun c_27 => ?_)
        · refine lv_ldc (v := nI 1000000) hx hb hown C173 dX4_layWays_26 ?_
          refine va_iast hx hb hE.1 hP hD hS 5 0 rfl rfl (pk_in i 80 (by omega)) dX4_layWays_28 (fun H locs hP hD hS => ?_)
          rw [pk_cl i] at hP hD
          rw [updNN f i 1000000] at hP hD
          have hP : va_P D vwCl (refO r th (nI sn) (nI ln) (nI pm) pn (nI sta) (nI ms) hs :: zC K r T :: sC K r sv :: bC K r cs :: pC K r pf :: fC K r (va_up f i 1000000) :: Y) H := hP
          have hD : va_D A (refO r th (nI sn) (nI ln) (nI pm) pn (nI sta) (nI ms) hs :: zC K r T :: sC K r sv :: bC K r cs :: pC K r pf :: fC K r (va_up f i 1000000) :: Y) := hD
          refine lv_iinc (v := nI (i + 1)) (lv' := [(3, .int (nI (i + 1))), (0, .ref (r 0)), (1, .int (nI p)), (2, .int (nI m))]) hx hb dX4_layWays_29 hl (k := 3) rfl (nI_add _ 1) (by decide) rfl (fun ls hl => ?_)
          refine lv_goto (tgt := 2) hx hb dX4_layWays_32 (by decide) ?_
          exact ih_2 (i + 1) (va_up f i 1000000) (by omega) (fun s9 q9 => by
        unfold va_up
        by_cases e9 : s9 = i
        · rw [if_pos e9, e9, c_27]; rfl
        · rw [if_neg e9]; exact hf s9 (by omega)) (by omega) _ _ hP hD hS _ rfl ls (lv_sub hl [1, 2, 3, 0] rfl)
        · refine lv_iconst (v := nI 0) hx hb dX4_layWays_22 (by decide) ?_
          refine lv_goto (tgt := 28) hx hb dX4_layWays_23 (by decide) ?_
          refine va_iast hx hb hE.1 hP hD hS 5 0 rfl rfl (pk_in i 80 (by omega)) dX4_layWays_28 (fun H locs hP hD hS => ?_)
          rw [pk_cl i] at hP hD
          rw [updNN f i 0] at hP hD
          have hP : va_P D vwCl (refO r th (nI sn) (nI ln) (nI pm) pn (nI sta) (nI ms) hs :: zC K r T :: sC K r sv :: bC K r cs :: pC K r pf :: fC K r (va_up f i 0) :: Y) H := hP
          have hD : va_D A (refO r th (nI sn) (nI ln) (nI pm) pn (nI sta) (nI ms) hs :: zC K r T :: sC K r sv :: bC K r cs :: pC K r pf :: fC K r (va_up f i 0) :: Y) := hD
          refine lv_iinc (v := nI (i + 1)) (lv' := [(3, .int (nI (i + 1))), (0, .ref (r 0)), (1, .int (nI p)), (2, .int (nI m))]) hx hb dX4_layWays_29 hl (k := 3) rfl (nI_add _ 1) (by decide) rfl (fun ls hl => ?_)
          refine lv_goto (tgt := 2) hx hb dX4_layWays_32 (by decide) ?_
          exact ih_2 (i + 1) (va_up f i 0) (by omega) (fun s9 q9 => by
        unfold va_up
        by_cases e9 : s9 = i
        · rw [if_pos e9, e9, c_27]; rfl
        · rw [if_neg e9]; exact hf s9 (by omega)) (by omega) _ _ hP hD hS _ rfl ls (lv_sub hl [1, 2, 3, 0] rfl)
  exact loop_1 _ 0 fa (by decide) (fun s9 q9 => absurd q9 (Nat.not_lt_zero _)) (Nat.lt_succ_self _) _ _ hP hD hS _ rfl ls (lv_sub hl [1, 2, 3, 0] rfl)
