theorem hd_X3_at : yX3_at.cls = RX3 ∧ yX3_at.cls ≠ "java/lang/invoke/MethodHandle" ∧ yX3_at.cls ≠ "java/lang/invoke/VarHandle" ∧ (parseMethodDescriptor yX3_at.desc).map (fun d => d.parameters.length) = some 2 := by decide +kernel
theorem hn_X3_at : yX3_at.cls ≠ "java/lang/invoke/MethodHandle" ∧ yX3_at.cls ≠ "java/lang/invoke/VarHandle" ∧ (parseMethodDescriptor yX3_at.desc).map (fun d => d.parameters.length) = some 2 := hd_X3_at.2
theorem hd_X3_put : yX3_put.cls = RX3 ∧ yX3_put.cls ≠ "java/lang/invoke/MethodHandle" ∧ yX3_put.cls ≠ "java/lang/invoke/VarHandle" ∧ (parseMethodDescriptor yX3_put.desc).map (fun d => d.parameters.length) = some 3 := by decide +kernel
theorem hn_X3_put : yX3_put.cls ≠ "java/lang/invoke/MethodHandle" ∧ yX3_put.cls ≠ "java/lang/invoke/VarHandle" ∧ (parseMethodDescriptor yX3_put.desc).map (fun d => d.parameters.length) = some 3 := hd_X3_put.2
theorem hd_J6_bitCount_0f7a4 : yJ6_bitCount_0f7a4.cls = RJ6 ∧ yJ6_bitCount_0f7a4.cls ≠ "java/lang/invoke/MethodHandle" ∧ yJ6_bitCount_0f7a4.cls ≠ "java/lang/invoke/VarHandle" ∧ (parseMethodDescriptor yJ6_bitCount_0f7a4.desc).map (fun d => d.parameters.length) = some 1 := by decide +kernel
theorem hn_J6_bitCount_0f7a4 : yJ6_bitCount_0f7a4.cls ≠ "java/lang/invoke/MethodHandle" ∧ yJ6_bitCount_0f7a4.cls ≠ "java/lang/invoke/VarHandle" ∧ (parseMethodDescriptor yJ6_bitCount_0f7a4.desc).map (fun d => d.parameters.length) = some 1 := hd_J6_bitCount_0f7a4.2
theorem hd_X3_neighbour : yX3_neighbour.cls = RX3 ∧ yX3_neighbour.cls ≠ "java/lang/invoke/MethodHandle" ∧ yX3_neighbour.cls ≠ "java/lang/invoke/VarHandle" ∧ (parseMethodDescriptor yX3_neighbour.desc).map (fun d => d.parameters.length) = some 2 := by decide +kernel
theorem hn_X3_neighbour : yX3_neighbour.cls ≠ "java/lang/invoke/MethodHandle" ∧ yX3_neighbour.cls ≠ "java/lang/invoke/VarHandle" ∧ (parseMethodDescriptor yX3_neighbour.desc).map (fun d => d.parameters.length) = some 2 := hd_X3_neighbour.2
theorem hd_X3_increase : yX3_increase.cls = RX3 ∧ yX3_increase.cls ≠ "java/lang/invoke/MethodHandle" ∧ yX3_increase.cls ≠ "java/lang/invoke/VarHandle" ∧ (parseMethodDescriptor yX3_increase.desc).map (fun d => d.parameters.length) = some 3 := by decide +kernel
theorem hn_X3_increase : yX3_increase.cls ≠ "java/lang/invoke/MethodHandle" ∧ yX3_increase.cls ≠ "java/lang/invoke/VarHandle" ∧ (parseMethodDescriptor yX3_increase.desc).map (fun d => d.parameters.length) = some 3 := hd_X3_increase.2
theorem hd_X3_dieAllows : yX3_dieAllows.cls = RX3 ∧ yX3_dieAllows.cls ≠ "java/lang/invoke/MethodHandle" ∧ yX3_dieAllows.cls ≠ "java/lang/invoke/VarHandle" ∧ (parseMethodDescriptor yX3_dieAllows.desc).map (fun d => d.parameters.length) = some 3 := by decide +kernel
theorem hn_X3_dieAllows : yX3_dieAllows.cls ≠ "java/lang/invoke/MethodHandle" ∧ yX3_dieAllows.cls ≠ "java/lang/invoke/VarHandle" ∧ (parseMethodDescriptor yX3_dieAllows.desc).map (fun d => d.parameters.length) = some 3 := hd_X3_dieAllows.2
theorem hd_X3_isSquare : yX3_isSquare.cls = RX3 ∧ yX3_isSquare.cls ≠ "java/lang/invoke/MethodHandle" ∧ yX3_isSquare.cls ≠ "java/lang/invoke/VarHandle" ∧ (parseMethodDescriptor yX3_isSquare.desc).map (fun d => d.parameters.length) = some 1 := by decide +kernel
theorem hn_X3_isSquare : yX3_isSquare.cls ≠ "java/lang/invoke/MethodHandle" ∧ yX3_isSquare.cls ≠ "java/lang/invoke/VarHandle" ∧ (parseMethodDescriptor yX3_isSquare.desc).map (fun d => d.parameters.length) = some 1 := hd_X3_isSquare.2
theorem hd_X3_isDie : yX3_isDie.cls = RX3 ∧ yX3_isDie.cls ≠ "java/lang/invoke/MethodHandle" ∧ yX3_isDie.cls ≠ "java/lang/invoke/VarHandle" ∧ (parseMethodDescriptor yX3_isDie.desc).map (fun d => d.parameters.length) = some 1 := by decide +kernel
theorem hn_X3_isDie : yX3_isDie.cls ≠ "java/lang/invoke/MethodHandle" ∧ yX3_isDie.cls ≠ "java/lang/invoke/VarHandle" ∧ (parseMethodDescriptor yX3_isDie.desc).map (fun d => d.parameters.length) = some 1 := hd_X3_isDie.2
theorem hd_X3_isPlayer : yX3_isPlayer.cls = RX3 ∧ yX3_isPlayer.cls ≠ "java/lang/invoke/MethodHandle" ∧ yX3_isPlayer.cls ≠ "java/lang/invoke/VarHandle" ∧ (parseMethodDescriptor yX3_isPlayer.desc).map (fun d => d.parameters.length) = some 1 := by decide +kernel
theorem hn_X3_isPlayer : yX3_isPlayer.cls ≠ "java/lang/invoke/MethodHandle" ∧ yX3_isPlayer.cls ≠ "java/lang/invoke/VarHandle" ∧ (parseMethodDescriptor yX3_isPlayer.desc).map (fun d => d.parameters.length) = some 1 := hd_X3_isPlayer.2
theorem hd_X3_isStop : yX3_isStop.cls = RX3 ∧ yX3_isStop.cls ≠ "java/lang/invoke/MethodHandle" ∧ yX3_isStop.cls ≠ "java/lang/invoke/VarHandle" ∧ (parseMethodDescriptor yX3_isStop.desc).map (fun d => d.parameters.length) = some 1 := by decide +kernel
theorem hn_X3_isStop : yX3_isStop.cls ≠ "java/lang/invoke/MethodHandle" ∧ yX3_isStop.cls ≠ "java/lang/invoke/VarHandle" ∧ (parseMethodDescriptor yX3_isStop.desc).map (fun d => d.parameters.length) = some 1 := hd_X3_isStop.2
theorem hd_X3_isDirection : yX3_isDirection.cls = RX3 ∧ yX3_isDirection.cls ≠ "java/lang/invoke/MethodHandle" ∧ yX3_isDirection.cls ≠ "java/lang/invoke/VarHandle" ∧ (parseMethodDescriptor yX3_isDirection.desc).map (fun d => d.parameters.length) = some 1 := by decide +kernel
theorem hn_X3_isDirection : yX3_isDirection.cls ≠ "java/lang/invoke/MethodHandle" ∧ yX3_isDirection.cls ≠ "java/lang/invoke/VarHandle" ∧ (parseMethodDescriptor yX3_isDirection.desc).map (fun d => d.parameters.length) = some 1 := hd_X3_isDirection.2
theorem hd_X3_isSetting : yX3_isSetting.cls = RX3 ∧ yX3_isSetting.cls ≠ "java/lang/invoke/MethodHandle" ∧ yX3_isSetting.cls ≠ "java/lang/invoke/VarHandle" ∧ (parseMethodDescriptor yX3_isSetting.desc).map (fun d => d.parameters.length) = some 1 := by decide +kernel
theorem hn_X3_isSetting : yX3_isSetting.cls ≠ "java/lang/invoke/MethodHandle" ∧ yX3_isSetting.cls ≠ "java/lang/invoke/VarHandle" ∧ (parseMethodDescriptor yX3_isSetting.desc).map (fun d => d.parameters.length) = some 1 := hd_X3_isSetting.2
set_option maxHeartbeats 4000000 in
set_option maxRecDepth 100000 in
theorem c_X3_at (l : Launch) (D : va_G) (K : Nat → ClassId) (ws : va_W) (q0 h n : Nat) (f : Nat → Int32) (k : Nat) (hq : ws[q0]? = some (h, .inl (K 0, n, .inl f))) (hk : k < n) (hn : n < 2 ^ 31) : Rd l yX3_at wsX3_at ({ frames := 1, cells := 0, slots := 0, locals := 12 } : Room) D K (ws) [.ref h, .int (nI k)] (.int (f k)) := by
  refine rd_intro (cc := cX3_at) (maxL := 2) (ret := (some .int)) (by decide) rfl (Nat.le_of_ble_eq_true rfl) ?_
  intro pr en st md ar bl mt co hx hb hml hr hts hown hk hP hE ls hl
  have hown : st.vm.findClass RX3 = some md.cls := hown
  have hl : lv_has ls 2 [(0, .ref h), (1, .int (nI k))] := hl
  refine lv_iload_n hx hb dX3_at_0 rfl (lv_at hl 1 rfl) ?_
  refine nv_if_lt (x := k) (tgt := 16) hx hb dX3_at_1 (by decide) (by omega) ?_
  refine lv_iload_n hx hb dX3_at_4 rfl (lv_at hl 1 rfl) ?_
  refine lv_aload_n hx hb dX3_at_5 rfl (lv_at hl 0 rfl) ?_
  refine va_alen (v := nI n) hx hb hE.1 hP q0 0 hq rfl rfl dX3_at_6 ?_
  refine nv_icmp_ge (x := k) (y := n) (tgt := 16) hx hb dX3_at_7 (by decide) (by omega) (by omega) (fun c_2 => ?_) (fun c_2 => ?_)
  · exact absurd hk (by omega)
  have n_c_2 := Nat.not_le.mpr c_2
  refine lv_aload_n hx hb dX3_at_10 rfl (lv_at hl 0 rfl) ?_
  refine lv_iload_n hx hb dX3_at_11 rfl (lv_at hl 1 rfl) ?_
  refine va_iald hx hb hE.1 hP q0 0 hq rfl (pk_in k n (by omega)) dX3_at_12 ?_
  rw [pk_cl k]
  refine lv_goto (tgt := 17) hx hb dX3_at_13 (by decide) ?_
  exact rd_iret hx hb hr hk dX3_at_17 (rfl)
set_option maxHeartbeats 4000000 in
set_option maxRecDepth 100000 in
theorem c_X3_put (l : Launch) (D : va_G) (K : Nat → ClassId) (sz : Nat) (ws : va_W) (q0 h n : Nat) (f : Nat → Int32) (k : Nat) (v : Int32) (hq : ws[q0]? = some (h, .inl (K 0, n, .inl f))) (hk : k < n) (hn : n < 2 ^ 31) : Wr l yX3_put wsX3_put ({ frames := 1, cells := 0, slots := 0, locals := 12 } : Room) D K (ws) sz [.ref h, .int (nI k), .int v] (ws.set q0 (h, .inl (K 0, n, .inl (upd f k v)))) none 0 0 := by
  refine wr_intro (cc := cX3_put) (maxL := 3) (ret := none) (by decide) rfl (Nat.le_of_ble_eq_true rfl) ?_
  intro pr en st md ar bl mt co A hx hb hml hr hts hown hk hsz hAe hP hE hD hS hA hin ls hl
  have hown : st.vm.findClass RX3 = some md.cls := hown
  have hl : lv_has ls 3 [(0, .ref h), (1, .int (nI k)), (2, .int v)] := hl
  obtain ⟨H, hH⟩ : ∃ z, z = st.heap := ⟨_, rfl⟩
  obtain ⟨locs, hlo⟩ : ∃ z : List Loc, z = [] := ⟨_, rfl⟩
  have hP : va_P D vwCl (ws) H := by rw [hH]; exact hP
  have hS : va_S A st.heap H locs := by rw [hH, hlo]; exact hS
  suffices go : W pr l en (headSpec wsX3_put ({ frames := 1, cells := 0, slots := 0, locals := 12 } : Room)).room st md ar bl mt co H locs 0 0 (MQ bl (wrQ D (ws) (ws.set q0 (h, .inl (K 0, n, .inl (upd f k v)))) sz none) ar st 0 0 A) (F0 md 0 ls []) by rw [hH, hlo] at go; exact go
  clear hH hlo
  refine lv_iload_n hx hb dX3_put_0 rfl (lv_at hl 1 rfl) ?_
  refine nv_if_lt (x := k) (tgt := 14) hx hb dX3_put_1 (by decide) (by omega) ?_
  refine lv_iload_n hx hb dX3_put_4 rfl (lv_at hl 1 rfl) ?_
  refine lv_aload_n hx hb dX3_put_5 rfl (lv_at hl 0 rfl) ?_
  refine va_alen (v := nI n) hx hb hE.1 hP q0 0 hq rfl rfl dX3_put_6 ?_
  refine nv_icmp_ge (x := k) (y := n) (tgt := 14) hx hb dX3_put_7 (by decide) (by omega) (by omega) (fun c_2 => ?_) (fun c_2 => ?_)
  · exact absurd hk (by omega)
  have n_c_2 := Nat.not_le.mpr c_2
  refine lv_aload_n hx hb dX3_put_10 rfl (lv_at hl 0 rfl) ?_
  refine lv_iload_n hx hb dX3_put_11 rfl (lv_at hl 1 rfl) ?_
  refine lv_iload_n hx hb dX3_put_12 rfl (lv_at hl 2 rfl) ?_
  refine va_iast hx hb hE.1 hP hD hS q0 0 hq rfl (pk_in k n (by omega)) dX3_put_13 (fun H locs hP hD hS => ?_)
  rw [pk_cl k] at hP hD
  have hP : va_P D vwCl (ws.set q0 (h, .inl (K 0, n, .inl (upd f k (v))))) H := hP
  have hD : va_D A (ws.set q0 (h, .inl (K 0, n, .inl (upd f k (v))))) := hD
  have ew : (ws.set q0 (h, .inl (K 0, n, .inl (upd f k (v))))) = (ws.set q0 (h, .inl (K 0, n, .inl (upd f k v)))) := by simp [c_2, n_c_2]
  rw [ew] at hP hD
  exact wr_vret hAe hP hD hS hx hb hr hk dX3_put_14 ⟨Nat.le_of_ble_eq_true rfl, Nat.le_of_ble_eq_true rfl⟩
set_option maxHeartbeats 4000000 in
set_option maxRecDepth 100000 in
theorem c_J6_bitCount_0f7a4 (l : Launch) (D : va_G) (K : Nat → ClassId) (ws : va_W) (m : Nat) (hm : m < 16) : Rd l yJ6_bitCount_0f7a4 wsJ6_bitCount_0f7a4 ({ frames := 1, cells := 0, slots := 0, locals := 12 } : Room) D K (ws) [.int (nI m)] (.int (nI (bc m))) := by
  refine rd_intro (cc := cJ6_bitCount_0f7a4) (maxL := 1) (ret := (some .int)) (by decide) rfl (Nat.le_of_ble_eq_true rfl) ?_
  intro pr en st md ar bl mt co hx hb hml hr hts hown hk hP hE ls hl
  have hown : st.vm.findClass RJ6 = some md.cls := hown
  have hl : lv_has ls 1 [(0, .int (nI m))] := hl
  have C265 : (Cond.constant RJ6 265 (1431655765)).before ar st = true := hts _ (List.mem_of_getElem? (i := 1) rfl)
  have C266 : (Cond.constant RJ6 266 (858993459)).before ar st = true := hts _ (List.mem_of_getElem? (i := 2) rfl)
  have C267 : (Cond.constant RJ6 267 (252645135)).before ar st = true := hts _ (List.mem_of_getElem? (i := 3) rfl)
  refine lv_iload_n hx hb dJ6_bitCount_0f7a4_0 rfl (lv_at hl 0 rfl) ?_
  refine lv_iload_n hx hb dJ6_bitCount_0f7a4_1 rfl (lv_at hl 0 rfl) ?_
  refine lv_iconst (v := nI 1) hx hb dJ6_bitCount_0f7a4_2 (by decide) ?_
  refine lv_iushr (v := ((nI m).toUInt32 >>> ((nI 1).toUInt32 &&& Int32.toUInt32 31)).toInt32) hx hb dJ6_bitCount_0f7a4_3 rfl ?_
  refine lv_ldcw (v := nI 1431655765) hx hb hown C265 dJ6_bitCount_0f7a4_4 ?_
  refine lv_iand (x := ((nI m).toUInt32 >>> ((nI 1).toUInt32 &&& Int32.toUInt32 31)).toInt32) (y := nI 1431655765) hx hb dJ6_bitCount_0f7a4_7 ?_
  refine lv_isub (x := nI m) (y := (((nI m).toUInt32 >>> ((nI 1).toUInt32 &&& Int32.toUInt32 31)).toInt32) &&& (nI 1431655765)) hx hb dJ6_bitCount_0f7a4_8 ?_
  refine lv_istore_n (lv' := [(0, .int ((nI m) - ((((nI m).toUInt32 >>> ((nI 1).toUInt32 &&& Int32.toUInt32 31)).toInt32) &&& (nI 1431655765))))]) hx hb dJ6_bitCount_0f7a4_9 rfl hl (by decide) rfl (fun ls hl => ?_)
  refine lv_iload_n hx hb dJ6_bitCount_0f7a4_10 rfl (lv_at hl 0 rfl) ?_
  refine lv_ldcw (v := nI 858993459) hx hb hown C266 dJ6_bitCount_0f7a4_11 ?_
  refine lv_iand (x := (nI m) - ((((nI m).toUInt32 >>> ((nI 1).toUInt32 &&& Int32.toUInt32 31)).toInt32) &&& (nI 1431655765))) (y := nI 858993459) hx hb dJ6_bitCount_0f7a4_14 ?_
  refine lv_iload_n hx hb dJ6_bitCount_0f7a4_15 rfl (lv_at hl 0 rfl) ?_
  refine lv_iconst (v := nI 2) hx hb dJ6_bitCount_0f7a4_16 (by decide) ?_
  refine lv_iushr (v := (((nI m) - ((((nI m).toUInt32 >>> ((nI 1).toUInt32 &&& Int32.toUInt32 31)).toInt32) &&& (nI 1431655765))).toUInt32 >>> ((nI 2).toUInt32 &&& Int32.toUInt32 31)).toInt32) hx hb dJ6_bitCount_0f7a4_17 rfl ?_
  refine lv_ldcw (v := nI 858993459) hx hb hown C266 dJ6_bitCount_0f7a4_18 ?_
  refine lv_iand (x := (((nI m) - ((((nI m).toUInt32 >>> ((nI 1).toUInt32 &&& Int32.toUInt32 31)).toInt32) &&& (nI 1431655765))).toUInt32 >>> ((nI 2).toUInt32 &&& Int32.toUInt32 31)).toInt32) (y := nI 858993459) hx hb dJ6_bitCount_0f7a4_21 ?_
  refine lv_iadd (x := ((nI m) - ((((nI m).toUInt32 >>> ((nI 1).toUInt32 &&& Int32.toUInt32 31)).toInt32) &&& (nI 1431655765))) &&& (nI 858993459)) (y := ((((nI m) - ((((nI m).toUInt32 >>> ((nI 1).toUInt32 &&& Int32.toUInt32 31)).toInt32) &&& (nI 1431655765))).toUInt32 >>> ((nI 2).toUInt32 &&& Int32.toUInt32 31)).toInt32) &&& (nI 858993459)) hx hb dJ6_bitCount_0f7a4_22 ?_
  refine lv_istore_n (lv' := [(0, .int ((((nI m) - ((((nI m).toUInt32 >>> ((nI 1).toUInt32 &&& Int32.toUInt32 31)).toInt32) &&& (nI 1431655765))) &&& (nI 858993459)) + (((((nI m) - ((((nI m).toUInt32 >>> ((nI 1).toUInt32 &&& Int32.toUInt32 31)).toInt32) &&& (nI 1431655765))).toUInt32 >>> ((nI 2).toUInt32 &&& Int32.toUInt32 31)).toInt32) &&& (nI 858993459))))]) hx hb dJ6_bitCount_0f7a4_23 rfl hl (by decide) rfl (fun ls hl => ?_)
  refine lv_iload_n hx hb dJ6_bitCount_0f7a4_24 rfl (lv_at hl 0 rfl) ?_
  refine lv_iload_n hx hb dJ6_bitCount_0f7a4_25 rfl (lv_at hl 0 rfl) ?_
  refine lv_iconst (v := nI 4) hx hb dJ6_bitCount_0f7a4_26 (by decide) ?_
  refine lv_iushr (v := (((((nI m) - ((((nI m).toUInt32 >>> ((nI 1).toUInt32 &&& Int32.toUInt32 31)).toInt32) &&& (nI 1431655765))) &&& (nI 858993459)) + (((((nI m) - ((((nI m).toUInt32 >>> ((nI 1).toUInt32 &&& Int32.toUInt32 31)).toInt32) &&& (nI 1431655765))).toUInt32 >>> ((nI 2).toUInt32 &&& Int32.toUInt32 31)).toInt32) &&& (nI 858993459))).toUInt32 >>> ((nI 4).toUInt32 &&& Int32.toUInt32 31)).toInt32) hx hb dJ6_bitCount_0f7a4_27 rfl ?_
  refine lv_iadd (x := (((nI m) - ((((nI m).toUInt32 >>> ((nI 1).toUInt32 &&& Int32.toUInt32 31)).toInt32) &&& (nI 1431655765))) &&& (nI 858993459)) + (((((nI m) - ((((nI m).toUInt32 >>> ((nI 1).toUInt32 &&& Int32.toUInt32 31)).toInt32) &&& (nI 1431655765))).toUInt32 >>> ((nI 2).toUInt32 &&& Int32.toUInt32 31)).toInt32) &&& (nI 858993459))) (y := (((((nI m) - ((((nI m).toUInt32 >>> ((nI 1).toUInt32 &&& Int32.toUInt32 31)).toInt32) &&& (nI 1431655765))) &&& (nI 858993459)) + (((((nI m) - ((((nI m).toUInt32 >>> ((nI 1).toUInt32 &&& Int32.toUInt32 31)).toInt32) &&& (nI 1431655765))).toUInt32 >>> ((nI 2).toUInt32 &&& Int32.toUInt32 31)).toInt32) &&& (nI 858993459))).toUInt32 >>> ((nI 4).toUInt32 &&& Int32.toUInt32 31)).toInt32) hx hb dJ6_bitCount_0f7a4_28 ?_
  refine lv_ldcw (v := nI 252645135) hx hb hown C267 dJ6_bitCount_0f7a4_29 ?_
  refine lv_iand (x := ((((nI m) - ((((nI m).toUInt32 >>> ((nI 1).toUInt32 &&& Int32.toUInt32 31)).toInt32) &&& (nI 1431655765))) &&& (nI 858993459)) + (((((nI m) - ((((nI m).toUInt32 >>> ((nI 1).toUInt32 &&& Int32.toUInt32 31)).toInt32) &&& (nI 1431655765))).toUInt32 >>> ((nI 2).toUInt32 &&& Int32.toUInt32 31)).toInt32) &&& (nI 858993459))) + ((((((nI m) - ((((nI m).toUInt32 >>> ((nI 1).toUInt32 &&& Int32.toUInt32 31)).toInt32) &&& (nI 1431655765))) &&& (nI 858993459)) + (((((nI m) - ((((nI m).toUInt32 >>> ((nI 1).toUInt32 &&& Int32.toUInt32 31)).toInt32) &&& (nI 1431655765))).toUInt32 >>> ((nI 2).toUInt32 &&& Int32.toUInt32 31)).toInt32) &&& (nI 858993459))).toUInt32 >>> ((nI 4).toUInt32 &&& Int32.toUInt32 31)).toInt32)) (y := nI 252645135) hx hb dJ6_bitCount_0f7a4_32 ?_
  refine lv_istore_n (lv' := [(0, .int ((((((nI m) - ((((nI m).toUInt32 >>> ((nI 1).toUInt32 &&& Int32.toUInt32 31)).toInt32) &&& (nI 1431655765))) &&& (nI 858993459)) + (((((nI m) - ((((nI m).toUInt32 >>> ((nI 1).toUInt32 &&& Int32.toUInt32 31)).toInt32) &&& (nI 1431655765))).toUInt32 >>> ((nI 2).toUInt32 &&& Int32.toUInt32 31)).toInt32) &&& (nI 858993459))) + ((((((nI m) - ((((nI m).toUInt32 >>> ((nI 1).toUInt32 &&& Int32.toUInt32 31)).toInt32) &&& (nI 1431655765))) &&& (nI 858993459)) + (((((nI m) - ((((nI m).toUInt32 >>> ((nI 1).toUInt32 &&& Int32.toUInt32 31)).toInt32) &&& (nI 1431655765))).toUInt32 >>> ((nI 2).toUInt32 &&& Int32.toUInt32 31)).toInt32) &&& (nI 858993459))).toUInt32 >>> ((nI 4).toUInt32 &&& Int32.toUInt32 31)).toInt32)) &&& (nI 252645135)))]) hx hb dJ6_bitCount_0f7a4_33 rfl hl (by decide) rfl (fun ls hl => ?_)
  refine lv_iload_n hx hb dJ6_bitCount_0f7a4_34 rfl (lv_at hl 0 rfl) ?_
  refine lv_iload_n hx hb dJ6_bitCount_0f7a4_35 rfl (lv_at hl 0 rfl) ?_
  refine lv_bipush (v := nI 8) hx hb dJ6_bitCount_0f7a4_36 (by decide) ?_
  refine lv_iushr (v := (((((((nI m) - ((((nI m).toUInt32 >>> ((nI 1).toUInt32 &&& Int32.toUInt32 31)).toInt32) &&& (nI 1431655765))) &&& (nI 858993459)) + (((((nI m) - ((((nI m).toUInt32 >>> ((nI 1).toUInt32 &&& Int32.toUInt32 31)).toInt32) &&& (nI 1431655765))).toUInt32 >>> ((nI 2).toUInt32 &&& Int32.toUInt32 31)).toInt32) &&& (nI 858993459))) + ((((((nI m) - ((((nI m).toUInt32 >>> ((nI 1).toUInt32 &&& Int32.toUInt32 31)).toInt32) &&& (nI 1431655765))) &&& (nI 858993459)) + (((((nI m) - ((((nI m).toUInt32 >>> ((nI 1).toUInt32 &&& Int32.toUInt32 31)).toInt32) &&& (nI 1431655765))).toUInt32 >>> ((nI 2).toUInt32 &&& Int32.toUInt32 31)).toInt32) &&& (nI 858993459))).toUInt32 >>> ((nI 4).toUInt32 &&& Int32.toUInt32 31)).toInt32)) &&& (nI 252645135)).toUInt32 >>> ((nI 8).toUInt32 &&& Int32.toUInt32 31)).toInt32) hx hb dJ6_bitCount_0f7a4_38 rfl ?_
  refine lv_iadd (x := (((((nI m) - ((((nI m).toUInt32 >>> ((nI 1).toUInt32 &&& Int32.toUInt32 31)).toInt32) &&& (nI 1431655765))) &&& (nI 858993459)) + (((((nI m) - ((((nI m).toUInt32 >>> ((nI 1).toUInt32 &&& Int32.toUInt32 31)).toInt32) &&& (nI 1431655765))).toUInt32 >>> ((nI 2).toUInt32 &&& Int32.toUInt32 31)).toInt32) &&& (nI 858993459))) + ((((((nI m) - ((((nI m).toUInt32 >>> ((nI 1).toUInt32 &&& Int32.toUInt32 31)).toInt32) &&& (nI 1431655765))) &&& (nI 858993459)) + (((((nI m) - ((((nI m).toUInt32 >>> ((nI 1).toUInt32 &&& Int32.toUInt32 31)).toInt32) &&& (nI 1431655765))).toUInt32 >>> ((nI 2).toUInt32 &&& Int32.toUInt32 31)).toInt32) &&& (nI 858993459))).toUInt32 >>> ((nI 4).toUInt32 &&& Int32.toUInt32 31)).toInt32)) &&& (nI 252645135)) (y := (((((((nI m) - ((((nI m).toUInt32 >>> ((nI 1).toUInt32 &&& Int32.toUInt32 31)).toInt32) &&& (nI 1431655765))) &&& (nI 858993459)) + (((((nI m) - ((((nI m).toUInt32 >>> ((nI 1).toUInt32 &&& Int32.toUInt32 31)).toInt32) &&& (nI 1431655765))).toUInt32 >>> ((nI 2).toUInt32 &&& Int32.toUInt32 31)).toInt32) &&& (nI 858993459))) + ((((((nI m) - ((((nI m).toUInt32 >>> ((nI 1).toUInt32 &&& Int32.toUInt32 31)).toInt32) &&& (nI 1431655765))) &&& (nI 858993459)) + (((((nI m) - ((((nI m).toUInt32 >>> ((nI 1).toUInt32 &&& Int32.toUInt32 31)).toInt32) &&& (nI 1431655765))).toUInt32 >>> ((nI 2).toUInt32 &&& Int32.toUInt32 31)).toInt32) &&& (nI 858993459))).toUInt32 >>> ((nI 4).toUInt32 &&& Int32.toUInt32 31)).toInt32)) &&& (nI 252645135)).toUInt32 >>> ((nI 8).toUInt32 &&& Int32.toUInt32 31)).toInt32) hx hb dJ6_bitCount_0f7a4_39 ?_
  refine lv_istore_n (lv' := [(0, .int (((((((nI m) - ((((nI m).toUInt32 >>> ((nI 1).toUInt32 &&& Int32.toUInt32 31)).toInt32) &&& (nI 1431655765))) &&& (nI 858993459)) + (((((nI m) - ((((nI m).toUInt32 >>> ((nI 1).toUInt32 &&& Int32.toUInt32 31)).toInt32) &&& (nI 1431655765))).toUInt32 >>> ((nI 2).toUInt32 &&& Int32.toUInt32 31)).toInt32) &&& (nI 858993459))) + ((((((nI m) - ((((nI m).toUInt32 >>> ((nI 1).toUInt32 &&& Int32.toUInt32 31)).toInt32) &&& (nI 1431655765))) &&& (nI 858993459)) + (((((nI m) - ((((nI m).toUInt32 >>> ((nI 1).toUInt32 &&& Int32.toUInt32 31)).toInt32) &&& (nI 1431655765))).toUInt32 >>> ((nI 2).toUInt32 &&& Int32.toUInt32 31)).toInt32) &&& (nI 858993459))).toUInt32 >>> ((nI 4).toUInt32 &&& Int32.toUInt32 31)).toInt32)) &&& (nI 252645135)) + ((((((((nI m) - ((((nI m).toUInt32 >>> ((nI 1).toUInt32 &&& Int32.toUInt32 31)).toInt32) &&& (nI 1431655765))) &&& (nI 858993459)) + (((((nI m) - ((((nI m).toUInt32 >>> ((nI 1).toUInt32 &&& Int32.toUInt32 31)).toInt32) &&& (nI 1431655765))).toUInt32 >>> ((nI 2).toUInt32 &&& Int32.toUInt32 31)).toInt32) &&& (nI 858993459))) + ((((((nI m) - ((((nI m).toUInt32 >>> ((nI 1).toUInt32 &&& Int32.toUInt32 31)).toInt32) &&& (nI 1431655765))) &&& (nI 858993459)) + (((((nI m) - ((((nI m).toUInt32 >>> ((nI 1).toUInt32 &&& Int32.toUInt32 31)).toInt32) &&& (nI 1431655765))).toUInt32 >>> ((nI 2).toUInt32 &&& Int32.toUInt32 31)).toInt32) &&& (nI 858993459))).toUInt32 >>> ((nI 4).toUInt32 &&& Int32.toUInt32 31)).toInt32)) &&& (nI 252645135)).toUInt32 >>> ((nI 8).toUInt32 &&& Int32.toUInt32 31)).toInt32)))]) hx hb dJ6_bitCount_0f7a4_40 rfl hl (by decide) rfl (fun ls hl => ?_)
  refine lv_iload_n hx hb dJ6_bitCount_0f7a4_41 rfl (lv_at hl 0 rfl) ?_
  refine lv_iload_n hx hb dJ6_bitCount_0f7a4_42 rfl (lv_at hl 0 rfl) ?_
  refine lv_bipush (v := nI 16) hx hb dJ6_bitCount_0f7a4_43 (by decide) ?_
  refine lv_iushr (v := ((((((((nI m) - ((((nI m).toUInt32 >>> ((nI 1).toUInt32 &&& Int32.toUInt32 31)).toInt32) &&& (nI 1431655765))) &&& (nI 858993459)) + (((((nI m) - ((((nI m).toUInt32 >>> ((nI 1).toUInt32 &&& Int32.toUInt32 31)).toInt32) &&& (nI 1431655765))).toUInt32 >>> ((nI 2).toUInt32 &&& Int32.toUInt32 31)).toInt32) &&& (nI 858993459))) + ((((((nI m) - ((((nI m).toUInt32 >>> ((nI 1).toUInt32 &&& Int32.toUInt32 31)).toInt32) &&& (nI 1431655765))) &&& (nI 858993459)) + (((((nI m) - ((((nI m).toUInt32 >>> ((nI 1).toUInt32 &&& Int32.toUInt32 31)).toInt32) &&& (nI 1431655765))).toUInt32 >>> ((nI 2).toUInt32 &&& Int32.toUInt32 31)).toInt32) &&& (nI 858993459))).toUInt32 >>> ((nI 4).toUInt32 &&& Int32.toUInt32 31)).toInt32)) &&& (nI 252645135)) + ((((((((nI m) - ((((nI m).toUInt32 >>> ((nI 1).toUInt32 &&& Int32.toUInt32 31)).toInt32) &&& (nI 1431655765))) &&& (nI 858993459)) + (((((nI m) - ((((nI m).toUInt32 >>> ((nI 1).toUInt32 &&& Int32.toUInt32 31)).toInt32) &&& (nI 1431655765))).toUInt32 >>> ((nI 2).toUInt32 &&& Int32.toUInt32 31)).toInt32) &&& (nI 858993459))) + ((((((nI m) - ((((nI m).toUInt32 >>> ((nI 1).toUInt32 &&& Int32.toUInt32 31)).toInt32) &&& (nI 1431655765))) &&& (nI 858993459)) + (((((nI m) - ((((nI m).toUInt32 >>> ((nI 1).toUInt32 &&& Int32.toUInt32 31)).toInt32) &&& (nI 1431655765))).toUInt32 >>> ((nI 2).toUInt32 &&& Int32.toUInt32 31)).toInt32) &&& (nI 858993459))).toUInt32 >>> ((nI 4).toUInt32 &&& Int32.toUInt32 31)).toInt32)) &&& (nI 252645135)).toUInt32 >>> ((nI 8).toUInt32 &&& Int32.toUInt32 31)).toInt32)).toUInt32 >>> ((nI 16).toUInt32 &&& Int32.toUInt32 31)).toInt32) hx hb dJ6_bitCount_0f7a4_45 rfl ?_
  refine lv_iadd (x := ((((((nI m) - ((((nI m).toUInt32 >>> ((nI 1).toUInt32 &&& Int32.toUInt32 31)).toInt32) &&& (nI 1431655765))) &&& (nI 858993459)) + (((((nI m) - ((((nI m).toUInt32 >>> ((nI 1).toUInt32 &&& Int32.toUInt32 31)).toInt32) &&& (nI 1431655765))).toUInt32 >>> ((nI 2).toUInt32 &&& Int32.toUInt32 31)).toInt32) &&& (nI 858993459))) + ((((((nI m) - ((((nI m).toUInt32 >>> ((nI 1).toUInt32 &&& Int32.toUInt32 31)).toInt32) &&& (nI 1431655765))) &&& (nI 858993459)) + (((((nI m) - ((((nI m).toUInt32 >>> ((nI 1).toUInt32 &&& Int32.toUInt32 31)).toInt32) &&& (nI 1431655765))).toUInt32 >>> ((nI 2).toUInt32 &&& Int32.toUInt32 31)).toInt32) &&& (nI 858993459))).toUInt32 >>> ((nI 4).toUInt32 &&& Int32.toUInt32 31)).toInt32)) &&& (nI 252645135)) + ((((((((nI m) - ((((nI m).toUInt32 >>> ((nI 1).toUInt32 &&& Int32.toUInt32 31)).toInt32) &&& (nI 1431655765))) &&& (nI 858993459)) + (((((nI m) - ((((nI m).toUInt32 >>> ((nI 1).toUInt32 &&& Int32.toUInt32 31)).toInt32) &&& (nI 1431655765))).toUInt32 >>> ((nI 2).toUInt32 &&& Int32.toUInt32 31)).toInt32) &&& (nI 858993459))) + ((((((nI m) - ((((nI m).toUInt32 >>> ((nI 1).toUInt32 &&& Int32.toUInt32 31)).toInt32) &&& (nI 1431655765))) &&& (nI 858993459)) + (((((nI m) - ((((nI m).toUInt32 >>> ((nI 1).toUInt32 &&& Int32.toUInt32 31)).toInt32) &&& (nI 1431655765))).toUInt32 >>> ((nI 2).toUInt32 &&& Int32.toUInt32 31)).toInt32) &&& (nI 858993459))).toUInt32 >>> ((nI 4).toUInt32 &&& Int32.toUInt32 31)).toInt32)) &&& (nI 252645135)).toUInt32 >>> ((nI 8).toUInt32 &&& Int32.toUInt32 31)).toInt32)) (y := ((((((((nI m) - ((((nI m).toUInt32 >>> ((nI 1).toUInt32 &&& Int32.toUInt32 31)).toInt32) &&& (nI 1431655765))) &&& (nI 858993459)) + (((((nI m) - ((((nI m).toUInt32 >>> ((nI 1).toUInt32 &&& Int32.toUInt32 31)).toInt32) &&& (nI 1431655765))).toUInt32 >>> ((nI 2).toUInt32 &&& Int32.toUInt32 31)).toInt32) &&& (nI 858993459))) + ((((((nI m) - ((((nI m).toUInt32 >>> ((nI 1).toUInt32 &&& Int32.toUInt32 31)).toInt32) &&& (nI 1431655765))) &&& (nI 858993459)) + (((((nI m) - ((((nI m).toUInt32 >>> ((nI 1).toUInt32 &&& Int32.toUInt32 31)).toInt32) &&& (nI 1431655765))).toUInt32 >>> ((nI 2).toUInt32 &&& Int32.toUInt32 31)).toInt32) &&& (nI 858993459))).toUInt32 >>> ((nI 4).toUInt32 &&& Int32.toUInt32 31)).toInt32)) &&& (nI 252645135)) + ((((((((nI m) - ((((nI m).toUInt32 >>> ((nI 1).toUInt32 &&& Int32.toUInt32 31)).toInt32) &&& (nI 1431655765))) &&& (nI 858993459)) + (((((nI m) - ((((nI m).toUInt32 >>> ((nI 1).toUInt32 &&& Int32.toUInt32 31)).toInt32) &&& (nI 1431655765))).toUInt32 >>> ((nI 2).toUInt32 &&& Int32.toUInt32 31)).toInt32) &&& (nI 858993459))) + ((((((nI m) - ((((nI m).toUInt32 >>> ((nI 1).toUInt32 &&& Int32.toUInt32 31)).toInt32) &&& (nI 1431655765))) &&& (nI 858993459)) + (((((nI m) - ((((nI m).toUInt32 >>> ((nI 1).toUInt32 &&& Int32.toUInt32 31)).toInt32) &&& (nI 1431655765))).toUInt32 >>> ((nI 2).toUInt32 &&& Int32.toUInt32 31)).toInt32) &&& (nI 858993459))).toUInt32 >>> ((nI 4).toUInt32 &&& Int32.toUInt32 31)).toInt32)) &&& (nI 252645135)).toUInt32 >>> ((nI 8).toUInt32 &&& Int32.toUInt32 31)).toInt32)).toUInt32 >>> ((nI 16).toUInt32 &&& Int32.toUInt32 31)).toInt32) hx hb dJ6_bitCount_0f7a4_46 ?_
  refine lv_istore_n (lv' := [(0, .int ((((((((nI m) - ((((nI m).toUInt32 >>> ((nI 1).toUInt32 &&& Int32.toUInt32 31)).toInt32) &&& (nI 1431655765))) &&& (nI 858993459)) + (((((nI m) - ((((nI m).toUInt32 >>> ((nI 1).toUInt32 &&& Int32.toUInt32 31)).toInt32) &&& (nI 1431655765))).toUInt32 >>> ((nI 2).toUInt32 &&& Int32.toUInt32 31)).toInt32) &&& (nI 858993459))) + ((((((nI m) - ((((nI m).toUInt32 >>> ((nI 1).toUInt32 &&& Int32.toUInt32 31)).toInt32) &&& (nI 1431655765))) &&& (nI 858993459)) + (((((nI m) - ((((nI m).toUInt32 >>> ((nI 1).toUInt32 &&& Int32.toUInt32 31)).toInt32) &&& (nI 1431655765))).toUInt32 >>> ((nI 2).toUInt32 &&& Int32.toUInt32 31)).toInt32) &&& (nI 858993459))).toUInt32 >>> ((nI 4).toUInt32 &&& Int32.toUInt32 31)).toInt32)) &&& (nI 252645135)) + ((((((((nI m) - ((((nI m).toUInt32 >>> ((nI 1).toUInt32 &&& Int32.toUInt32 31)).toInt32) &&& (nI 1431655765))) &&& (nI 858993459)) + (((((nI m) - ((((nI m).toUInt32 >>> ((nI 1).toUInt32 &&& Int32.toUInt32 31)).toInt32) &&& (nI 1431655765))).toUInt32 >>> ((nI 2).toUInt32 &&& Int32.toUInt32 31)).toInt32) &&& (nI 858993459))) + ((((((nI m) - ((((nI m).toUInt32 >>> ((nI 1).toUInt32 &&& Int32.toUInt32 31)).toInt32) &&& (nI 1431655765))) &&& (nI 858993459)) + (((((nI m) - ((((nI m).toUInt32 >>> ((nI 1).toUInt32 &&& Int32.toUInt32 31)).toInt32) &&& (nI 1431655765))).toUInt32 >>> ((nI 2).toUInt32 &&& Int32.toUInt32 31)).toInt32) &&& (nI 858993459))).toUInt32 >>> ((nI 4).toUInt32 &&& Int32.toUInt32 31)).toInt32)) &&& (nI 252645135)).toUInt32 >>> ((nI 8).toUInt32 &&& Int32.toUInt32 31)).toInt32)) + (((((((((nI m) - ((((nI m).toUInt32 >>> ((nI 1).toUInt32 &&& Int32.toUInt32 31)).toInt32) &&& (nI 1431655765))) &&& (nI 858993459)) + (((((nI m) - ((((nI m).toUInt32 >>> ((nI 1).toUInt32 &&& Int32.toUInt32 31)).toInt32) &&& (nI 1431655765))).toUInt32 >>> ((nI 2).toUInt32 &&& Int32.toUInt32 31)).toInt32) &&& (nI 858993459))) + ((((((nI m) - ((((nI m).toUInt32 >>> ((nI 1).toUInt32 &&& Int32.toUInt32 31)).toInt32) &&& (nI 1431655765))) &&& (nI 858993459)) + (((((nI m) - ((((nI m).toUInt32 >>> ((nI 1).toUInt32 &&& Int32.toUInt32 31)).toInt32) &&& (nI 1431655765))).toUInt32 >>> ((nI 2).toUInt32 &&& Int32.toUInt32 31)).toInt32) &&& (nI 858993459))).toUInt32 >>> ((nI 4).toUInt32 &&& Int32.toUInt32 31)).toInt32)) &&& (nI 252645135)) + ((((((((nI m) - ((((nI m).toUInt32 >>> ((nI 1).toUInt32 &&& Int32.toUInt32 31)).toInt32) &&& (nI 1431655765))) &&& (nI 858993459)) + (((((nI m) - ((((nI m).toUInt32 >>> ((nI 1).toUInt32 &&& Int32.toUInt32 31)).toInt32) &&& (nI 1431655765))).toUInt32 >>> ((nI 2).toUInt32 &&& Int32.toUInt32 31)).toInt32) &&& (nI 858993459))) + ((((((nI m) - ((((nI m).toUInt32 >>> ((nI 1).toUInt32 &&& Int32.toUInt32 31)).toInt32) &&& (nI 1431655765))) &&& (nI 858993459)) + (((((nI m) - ((((nI m).toUInt32 >>> ((nI 1).toUInt32 &&& Int32.toUInt32 31)).toInt32) &&& (nI 1431655765))).toUInt32 >>> ((nI 2).toUInt32 &&& Int32.toUInt32 31)).toInt32) &&& (nI 858993459))).toUInt32 >>> ((nI 4).toUInt32 &&& Int32.toUInt32 31)).toInt32)) &&& (nI 252645135)).toUInt32 >>> ((nI 8).toUInt32 &&& Int32.toUInt32 31)).toInt32)).toUInt32 >>> ((nI 16).toUInt32 &&& Int32.toUInt32 31)).toInt32)))]) hx hb dJ6_bitCount_0f7a4_47 rfl hl (by decide) rfl (fun ls hl => ?_)
  refine lv_iload_n hx hb dJ6_bitCount_0f7a4_48 rfl (lv_at hl 0 rfl) ?_
  refine lv_bipush (v := nI 63) hx hb dJ6_bitCount_0f7a4_49 (by decide) ?_
  refine lv_iand (x := (((((((nI m) - ((((nI m).toUInt32 >>> ((nI 1).toUInt32 &&& Int32.toUInt32 31)).toInt32) &&& (nI 1431655765))) &&& (nI 858993459)) + (((((nI m) - ((((nI m).toUInt32 >>> ((nI 1).toUInt32 &&& Int32.toUInt32 31)).toInt32) &&& (nI 1431655765))).toUInt32 >>> ((nI 2).toUInt32 &&& Int32.toUInt32 31)).toInt32) &&& (nI 858993459))) + ((((((nI m) - ((((nI m).toUInt32 >>> ((nI 1).toUInt32 &&& Int32.toUInt32 31)).toInt32) &&& (nI 1431655765))) &&& (nI 858993459)) + (((((nI m) - ((((nI m).toUInt32 >>> ((nI 1).toUInt32 &&& Int32.toUInt32 31)).toInt32) &&& (nI 1431655765))).toUInt32 >>> ((nI 2).toUInt32 &&& Int32.toUInt32 31)).toInt32) &&& (nI 858993459))).toUInt32 >>> ((nI 4).toUInt32 &&& Int32.toUInt32 31)).toInt32)) &&& (nI 252645135)) + ((((((((nI m) - ((((nI m).toUInt32 >>> ((nI 1).toUInt32 &&& Int32.toUInt32 31)).toInt32) &&& (nI 1431655765))) &&& (nI 858993459)) + (((((nI m) - ((((nI m).toUInt32 >>> ((nI 1).toUInt32 &&& Int32.toUInt32 31)).toInt32) &&& (nI 1431655765))).toUInt32 >>> ((nI 2).toUInt32 &&& Int32.toUInt32 31)).toInt32) &&& (nI 858993459))) + ((((((nI m) - ((((nI m).toUInt32 >>> ((nI 1).toUInt32 &&& Int32.toUInt32 31)).toInt32) &&& (nI 1431655765))) &&& (nI 858993459)) + (((((nI m) - ((((nI m).toUInt32 >>> ((nI 1).toUInt32 &&& Int32.toUInt32 31)).toInt32) &&& (nI 1431655765))).toUInt32 >>> ((nI 2).toUInt32 &&& Int32.toUInt32 31)).toInt32) &&& (nI 858993459))).toUInt32 >>> ((nI 4).toUInt32 &&& Int32.toUInt32 31)).toInt32)) &&& (nI 252645135)).toUInt32 >>> ((nI 8).toUInt32 &&& Int32.toUInt32 31)).toInt32)) + (((((((((nI m) - ((((nI m).toUInt32 >>> ((nI 1).toUInt32 &&& Int32.toUInt32 31)).toInt32) &&& (nI 1431655765))) &&& (nI 858993459)) + (((((nI m) - ((((nI m).toUInt32 >>> ((nI 1).toUInt32 &&& Int32.toUInt32 31)).toInt32) &&& (nI 1431655765))).toUInt32 >>> ((nI 2).toUInt32 &&& Int32.toUInt32 31)).toInt32) &&& (nI 858993459))) + ((((((nI m) - ((((nI m).toUInt32 >>> ((nI 1).toUInt32 &&& Int32.toUInt32 31)).toInt32) &&& (nI 1431655765))) &&& (nI 858993459)) + (((((nI m) - ((((nI m).toUInt32 >>> ((nI 1).toUInt32 &&& Int32.toUInt32 31)).toInt32) &&& (nI 1431655765))).toUInt32 >>> ((nI 2).toUInt32 &&& Int32.toUInt32 31)).toInt32) &&& (nI 858993459))).toUInt32 >>> ((nI 4).toUInt32 &&& Int32.toUInt32 31)).toInt32)) &&& (nI 252645135)) + ((((((((nI m) - ((((nI m).toUInt32 >>> ((nI 1).toUInt32 &&& Int32.toUInt32 31)).toInt32) &&& (nI 1431655765))) &&& (nI 858993459)) + (((((nI m) - ((((nI m).toUInt32 >>> ((nI 1).toUInt32 &&& Int32.toUInt32 31)).toInt32) &&& (nI 1431655765))).toUInt32 >>> ((nI 2).toUInt32 &&& Int32.toUInt32 31)).toInt32) &&& (nI 858993459))) + ((((((nI m) - ((((nI m).toUInt32 >>> ((nI 1).toUInt32 &&& Int32.toUInt32 31)).toInt32) &&& (nI 1431655765))) &&& (nI 858993459)) + (((((nI m) - ((((nI m).toUInt32 >>> ((nI 1).toUInt32 &&& Int32.toUInt32 31)).toInt32) &&& (nI 1431655765))).toUInt32 >>> ((nI 2).toUInt32 &&& Int32.toUInt32 31)).toInt32) &&& (nI 858993459))).toUInt32 >>> ((nI 4).toUInt32 &&& Int32.toUInt32 31)).toInt32)) &&& (nI 252645135)).toUInt32 >>> ((nI 8).toUInt32 &&& Int32.toUInt32 31)).toInt32)).toUInt32 >>> ((nI 16).toUInt32 &&& Int32.toUInt32 31)).toInt32)) (y := nI 63) hx hb dJ6_bitCount_0f7a4_51 ?_
  exact rd_iret hx hb hr hk dJ6_bitCount_0f7a4_52 (by exact (show ∀ m, m < 16 → ((((((((nI m) - ((((nI m).toUInt32 >>> ((nI 1).toUInt32 &&& Int32.toUInt32 31)).toInt32) &&& (nI 1431655765))) &&& (nI 858993459)) + (((((nI m) - ((((nI m).toUInt32 >>> ((nI 1).toUInt32 &&& Int32.toUInt32 31)).toInt32) &&& (nI 1431655765))).toUInt32 >>> ((nI 2).toUInt32 &&& Int32.toUInt32 31)).toInt32) &&& (nI 858993459))) + ((((((nI m) - ((((nI m).toUInt32 >>> ((nI 1).toUInt32 &&& Int32.toUInt32 31)).toInt32) &&& (nI 1431655765))) &&& (nI 858993459)) + (((((nI m) - ((((nI m).toUInt32 >>> ((nI 1).toUInt32 &&& Int32.toUInt32 31)).toInt32) &&& (nI 1431655765))).toUInt32 >>> ((nI 2).toUInt32 &&& Int32.toUInt32 31)).toInt32) &&& (nI 858993459))).toUInt32 >>> ((nI 4).toUInt32 &&& Int32.toUInt32 31)).toInt32)) &&& (nI 252645135)) + ((((((((nI m) - ((((nI m).toUInt32 >>> ((nI 1).toUInt32 &&& Int32.toUInt32 31)).toInt32) &&& (nI 1431655765))) &&& (nI 858993459)) + (((((nI m) - ((((nI m).toUInt32 >>> ((nI 1).toUInt32 &&& Int32.toUInt32 31)).toInt32) &&& (nI 1431655765))).toUInt32 >>> ((nI 2).toUInt32 &&& Int32.toUInt32 31)).toInt32) &&& (nI 858993459))) + ((((((nI m) - ((((nI m).toUInt32 >>> ((nI 1).toUInt32 &&& Int32.toUInt32 31)).toInt32) &&& (nI 1431655765))) &&& (nI 858993459)) + (((((nI m) - ((((nI m).toUInt32 >>> ((nI 1).toUInt32 &&& Int32.toUInt32 31)).toInt32) &&& (nI 1431655765))).toUInt32 >>> ((nI 2).toUInt32 &&& Int32.toUInt32 31)).toInt32) &&& (nI 858993459))).toUInt32 >>> ((nI 4).toUInt32 &&& Int32.toUInt32 31)).toInt32)) &&& (nI 252645135)).toUInt32 >>> ((nI 8).toUInt32 &&& Int32.toUInt32 31)).toInt32)) + (((((((((nI m) - ((((nI m).toUInt32 >>> ((nI 1).toUInt32 &&& Int32.toUInt32 31)).toInt32) &&& (nI 1431655765))) &&& (nI 858993459)) + (((((nI m) - ((((nI m).toUInt32 >>> ((nI 1).toUInt32 &&& Int32.toUInt32 31)).toInt32) &&& (nI 1431655765))).toUInt32 >>> ((nI 2).toUInt32 &&& Int32.toUInt32 31)).toInt32) &&& (nI 858993459))) + ((((((nI m) - ((((nI m).toUInt32 >>> ((nI 1).toUInt32 &&& Int32.toUInt32 31)).toInt32) &&& (nI 1431655765))) &&& (nI 858993459)) + (((((nI m) - ((((nI m).toUInt32 >>> ((nI 1).toUInt32 &&& Int32.toUInt32 31)).toInt32) &&& (nI 1431655765))).toUInt32 >>> ((nI 2).toUInt32 &&& Int32.toUInt32 31)).toInt32) &&& (nI 858993459))).toUInt32 >>> ((nI 4).toUInt32 &&& Int32.toUInt32 31)).toInt32)) &&& (nI 252645135)) + ((((((((nI m) - ((((nI m).toUInt32 >>> ((nI 1).toUInt32 &&& Int32.toUInt32 31)).toInt32) &&& (nI 1431655765))) &&& (nI 858993459)) + (((((nI m) - ((((nI m).toUInt32 >>> ((nI 1).toUInt32 &&& Int32.toUInt32 31)).toInt32) &&& (nI 1431655765))).toUInt32 >>> ((nI 2).toUInt32 &&& Int32.toUInt32 31)).toInt32) &&& (nI 858993459))) + ((((((nI m) - ((((nI m).toUInt32 >>> ((nI 1).toUInt32 &&& Int32.toUInt32 31)).toInt32) &&& (nI 1431655765))) &&& (nI 858993459)) + (((((nI m) - ((((nI m).toUInt32 >>> ((nI 1).toUInt32 &&& Int32.toUInt32 31)).toInt32) &&& (nI 1431655765))).toUInt32 >>> ((nI 2).toUInt32 &&& Int32.toUInt32 31)).toInt32) &&& (nI 858993459))).toUInt32 >>> ((nI 4).toUInt32 &&& Int32.toUInt32 31)).toInt32)) &&& (nI 252645135)).toUInt32 >>> ((nI 8).toUInt32 &&& Int32.toUInt32 31)).toInt32)).toUInt32 >>> ((nI 16).toUInt32 &&& Int32.toUInt32 31)).toInt32)) &&& (nI 63) = nI (bc m) from by decide +kernel) m hm)
set_option maxHeartbeats 4000000 in
set_option maxRecDepth 100000 in
theorem c_X3_neighbour (l : Launch) (D : va_G) (K : Nat → ClassId) (ws : va_W) (s d : Nat) (hs : s < 80) (hd : d < 4) : Rd l yX3_neighbour wsX3_neighbour ({ frames := 1, cells := 0, slots := 0, locals := 12 } : Room) D K (ws) [.int (nI s), .int (nI d)] (.int (oI (nbT s d))) := by
  refine rd_intro (cc := cX3_neighbour) (maxL := 4) (ret := (some .int)) (by decide) rfl (Nat.le_of_ble_eq_true rfl) ?_
  intro pr en st md ar bl mt co hx hb hml hr hts hown hk hP hE ls hl
  have hown : st.vm.findClass RX3 = some md.cls := hown
  have hl : lv_has ls 4 [(0, .int (nI s)), (1, .int (nI d))] := hl
  refine lv_iload_n hx hb dX3_neighbour_0 rfl (lv_at hl 0 rfl) ?_
  refine lv_bipush (v := nI 10) hx hb dX3_neighbour_1 (by decide) ?_
  refine nv_irem (x := s) (y := 10) hx hb dX3_neighbour_3 (by omega) (by omega) (by decide) ?_
  refine lv_istore_n (lv' := [(2, .int (nI (s % 10))), (0, .int (nI s)), (1, .int (nI d))]) hx hb dX3_neighbour_4 rfl hl (by decide) rfl (fun ls hl => ?_)
  refine lv_iload_n hx hb dX3_neighbour_5 rfl (lv_at hl 1 rfl) ?_
  refine lv_bipush (v := nI 10) hx hb dX3_neighbour_6 (by decide) ?_
  refine nv_idiv (x := s) (y := 10) hx hb dX3_neighbour_8 (by omega) (by omega) (by decide) ?_
  refine lv_istore_n (lv' := [(3, .int (nI (s / 10))), (2, .int (nI (s % 10))), (0, .int (nI s)), (1, .int (nI d))]) hx hb dX3_neighbour_9 rfl hl (by decide) rfl (fun ls hl => ?_)
  refine lv_iload_n hx hb dX3_neighbour_10 rfl (lv_at hl 3 rfl) ?_
  rcases (show d = 0 ∨ d = 1 ∨ d = 2 ∨ d = 3 by omega) with rfl | rfl | rfl | rfl
  · refine lv_tableIn (off := 29) (tgt := 40) hx hb dX3_neighbour_11 (by decide) (by decide) (by decide) (by decide) ?_
    refine lv_iload_n hx hb dX3_neighbour_40 rfl (lv_at hl 0 rfl) ?_
    refine nv_if_le (x := s / 10) (tgt := 51) hx hb dX3_neighbour_41 (by decide) (by omega) (fun c_1 => ?_) (fun c_1 => ?_)
    · have n_c_1 : ¬ 0 < s / 10 := by omega
      refine lv_iconst (v := -1) hx hb dX3_neighbour_51 (by decide) ?_
      exact rd_iret hx hb hr hk dX3_neighbour_52 (by simp only [nbT, oI_s, oI_n, Nat.lt_irrefl, if_true, if_false, reduceIte, Nat.reduceEqDiff, c_1, n_c_1] <;> rfl)
    · have n_c_1 : ¬ s / 10 = 0 := by omega
      refine lv_iload_n hx hb dX3_neighbour_44 rfl (lv_at hl 2 rfl) ?_
      refine lv_bipush (v := nI 10) hx hb dX3_neighbour_45 (by decide) ?_
      refine nv_isub (x := s) (y := 10) hx hb dX3_neighbour_47 (by omega) ?_
      refine lv_goto (tgt := 52) hx hb dX3_neighbour_48 (by decide) ?_
      exact rd_iret hx hb hr hk dX3_neighbour_52 (by simp only [nbT, oI_s, oI_n, Nat.lt_irrefl, if_true, if_false, reduceIte, Nat.reduceEqDiff, c_1, n_c_1] <;> rfl)
  · refine lv_tableIn (off := 42) (tgt := 53) hx hb dX3_neighbour_11 (by decide) (by decide) (by decide) (by decide) ?_
    refine lv_iload_n hx hb dX3_neighbour_53 rfl (lv_at hl 1 rfl) ?_
    refine lv_bipush (v := nI 9) hx hb dX3_neighbour_54 (by decide) ?_
    refine nv_icmp_ge (x := s % 10) (y := 9) (tgt := 65) hx hb dX3_neighbour_56 (by decide) (by omega) (by decide) (fun c_2 => ?_) (fun c_2 => ?_)
    · have n_c_2 := Nat.not_lt.mpr c_2
      refine lv_iconst (v := -1) hx hb dX3_neighbour_65 (by decide) ?_
      exact rd_iret hx hb hr hk dX3_neighbour_66 (by simp only [nbT, oI_s, oI_n, Nat.lt_irrefl, if_true, if_false, reduceIte, Nat.reduceEqDiff, c_2, n_c_2] <;> rfl)
    · have n_c_2 := Nat.not_le.mpr c_2
      refine lv_iload_n hx hb dX3_neighbour_59 rfl (lv_at hl 2 rfl) ?_
      refine lv_iconst (v := nI 1) hx hb dX3_neighbour_60 (by decide) ?_
      refine nv_iadd (x := s) (y := 1) hx hb dX3_neighbour_61 ?_
      refine lv_goto (tgt := 66) hx hb dX3_neighbour_62 (by decide) ?_
      exact rd_iret hx hb hr hk dX3_neighbour_66 (by simp only [nbT, oI_s, oI_n, Nat.lt_irrefl, if_true, if_false, reduceIte, Nat.reduceEqDiff, c_2, n_c_2] <;> rfl)
  · refine lv_tableIn (off := 56) (tgt := 67) hx hb dX3_neighbour_11 (by decide) (by decide) (by decide) (by decide) ?_
    refine lv_iload_n hx hb dX3_neighbour_67 rfl (lv_at hl 0 rfl) ?_
    refine lv_bipush (v := nI 7) hx hb dX3_neighbour_68 (by decide) ?_
    refine nv_icmp_ge (x := s / 10) (y := 7) (tgt := 80) hx hb dX3_neighbour_70 (by decide) (by omega) (by decide) (fun c_3 => ?_) (fun c_3 => ?_)
    · have n_c_3 := Nat.not_lt.mpr c_3
      refine lv_iconst (v := -1) hx hb dX3_neighbour_80 (by decide) ?_
      exact rd_iret hx hb hr hk dX3_neighbour_81 (by simp only [nbT, oI_s, oI_n, Nat.lt_irrefl, if_true, if_false, reduceIte, Nat.reduceEqDiff, c_3, n_c_3] <;> rfl)
    · have n_c_3 := Nat.not_le.mpr c_3
      refine lv_iload_n hx hb dX3_neighbour_73 rfl (lv_at hl 2 rfl) ?_
      refine lv_bipush (v := nI 10) hx hb dX3_neighbour_74 (by decide) ?_
      refine nv_iadd (x := s) (y := 10) hx hb dX3_neighbour_76 ?_
      refine lv_goto (tgt := 81) hx hb dX3_neighbour_77 (by decide) ?_
      exact rd_iret hx hb hr hk dX3_neighbour_81 (by simp only [nbT, oI_s, oI_n, Nat.lt_irrefl, if_true, if_false, reduceIte, Nat.reduceEqDiff, c_3, n_c_3] <;> rfl)
  · refine lv_tableIn (off := 71) (tgt := 82) hx hb dX3_neighbour_11 (by decide) (by decide) (by decide) (by decide) ?_
    refine lv_iload_n hx hb dX3_neighbour_82 rfl (lv_at hl 1 rfl) ?_
    refine nv_if_le (x := s % 10) (tgt := 92) hx hb dX3_neighbour_83 (by decide) (by omega) (fun c_4 => ?_) (fun c_4 => ?_)
    · have n_c_4 : ¬ 0 < s % 10 := by omega
      refine lv_iconst (v := -1) hx hb dX3_neighbour_92 (by decide) ?_
      exact rd_iret hx hb hr hk dX3_neighbour_93 (by simp only [nbT, oI_s, oI_n, Nat.lt_irrefl, if_true, if_false, reduceIte, Nat.reduceEqDiff, c_4, n_c_4] <;> rfl)
    · have n_c_4 : ¬ s % 10 = 0 := by omega
      refine lv_iload_n hx hb dX3_neighbour_86 rfl (lv_at hl 2 rfl) ?_
      refine lv_iconst (v := nI 1) hx hb dX3_neighbour_87 (by decide) ?_
      refine nv_isub (x := s) (y := 1) hx hb dX3_neighbour_88 (by omega) ?_
      refine lv_goto (tgt := 93) hx hb dX3_neighbour_89 (by decide) ?_
      exact rd_iret hx hb hr hk dX3_neighbour_93 (by simp only [nbT, oI_s, oI_n, Nat.lt_irrefl, if_true, if_false, reduceIte, Nat.reduceEqDiff, c_4, n_c_4] <;> rfl)
set_option maxHeartbeats 4000000 in
set_option maxRecDepth 100000 in
theorem c_X3_increase (l : Launch) (D : va_G) (K : Nat → ClassId) (sz : Nat) (ws : va_W) (q0 h n : Nat) (f : Nat → Int32) (k : Nat) (v : Int32) (hq : ws[q0]? = some (h, .inl (K 0, n, .inl f))) (hk : k < n) (hn : n < 2 ^ 31) : Wr l yX3_increase wsX3_increase ({ frames := 2, cells := 0, slots := 0, locals := 34 } : Room) D K (ws) sz [.ref h, .int (nI k), .int v] (ws.set q0 (h, .inl (K 0, n, .inl (upd f k (f k + v))))) none 0 0 := by
  refine wr_intro (cc := cX3_increase) (maxL := 3) (ret := none) (by decide) rfl (Nat.le_of_ble_eq_true rfl) ?_
  intro pr en st md ar bl mt co A hx hb hml hr hts hown hk hsz hAe hP hE hD hS hA hin ls hl
  have hown : st.vm.findClass RX3 = some md.cls := hown
  have hl : lv_has ls 3 [(0, .ref h), (1, .int (nI k)), (2, .int v)] := hl
  obtain ⟨H, hH⟩ : ∃ z, z = st.heap := ⟨_, rfl⟩
  obtain ⟨locs, hlo⟩ : ∃ z : List Loc, z = [] := ⟨_, rfl⟩
  have hP : va_P D vwCl (ws) H := by rw [hH]; exact hP
  have hS : va_S A st.heap H locs := by rw [hH, hlo]; exact hS
  suffices go : W pr l en (headSpec wsX3_increase ({ frames := 2, cells := 0, slots := 0, locals := 34 } : Room)).room st md ar bl mt co H locs 0 0 (MQ bl (wrQ D (ws) (ws.set q0 (h, .inl (K 0, n, .inl (upd f k (f k + v))))) sz none) ar st 0 0 A) (F0 md 0 ls []) by rw [hH, hlo] at go; exact go
  clear hH hlo
  refine lv_aload_n hx hb dX3_increase_0 rfl (lv_at hl 0 rfl) ?_
  refine lv_iload_n hx hb dX3_increase_1 rfl (lv_at hl 1 rfl) ?_
  refine lv_aload_n hx hb dX3_increase_2 rfl (lv_at hl 0 rfl) ?_
  refine lv_iload_n hx hb dX3_increase_3 rfl (lv_at hl 1 rfl) ?_
  refine rd_S (rest := [.int (nI k), .ref h]) ⟨hx, hb, hml, hown, hts⟩ hP hE (c_X3_at l D K _ q0 _ n _ k hq (by omega) (by omega)) (va_cwS 2 hts gX3_increase_X3_at rfl rfl rfl hn_X3_at ⟨Nat.le_of_ble_eq_true rfl, Nat.le_of_ble_eq_true rfl⟩) rfl hl.1 rfl (Nat.le_of_ble_eq_true rfl) dX3_increase_4 ⟨Nat.le_of_ble_eq_true rfl, Nat.le_of_ble_eq_true rfl⟩ ?_
  refine lv_iload_n hx hb dX3_increase_7 rfl (lv_at hl 2 rfl) ?_
  refine lv_iadd (x := f k) (y := v) hx hb dX3_increase_8 ?_
  refine wr_S (rest := []) ⟨hx, hb, hml, hown, hts⟩ hP hE hA hD hS (c_X3_put l D K _ _ q0 _ n _ k ((f k) + v) hq (by omega) (by omega)) (va_cwS 3 hts gX3_increase_X3_put rfl rfl rfl hn_X3_put ⟨Nat.le_of_ble_eq_true rfl, Nat.le_of_ble_eq_true rfl⟩) rfl hl.1 rfl (Nat.le_of_ble_eq_true rfl) dX3_increase_9 ⟨Nat.le_of_ble_eq_true rfl, Nat.le_of_ble_eq_true rfl⟩ (fun H locs hP hD hS => ?_)
  have hP : va_P D vwCl (ws.set q0 (h, .inl (K 0, n, .inl (upd f k ((f k) + v))))) H := hP
  have hD : va_D A (ws.set q0 (h, .inl (K 0, n, .inl (upd f k ((f k) + v))))) := hD
  have ew : (ws.set q0 (h, .inl (K 0, n, .inl (upd f k ((f k) + v))))) = (ws.set q0 (h, .inl (K 0, n, .inl (upd f k (f k + v))))) := by simp 
  rw [ew] at hP hD
  exact wr_vret hAe hP hD hS hx hb hr hk dX3_increase_12 ⟨Nat.le_of_ble_eq_true rfl, Nat.le_of_ble_eq_true rfl⟩
set_option maxHeartbeats 4000000 in
set_option maxRecDepth 100000 in
theorem c_X3_dieAllows (l : Launch) (D : va_G) (K : Nat → ClassId) (ws : va_W) (die d : Nat) (last : Option Nat) (hdie : die < 7) (hd : d < 4) (hlast : ∀ k, last = some k → k < 4) : Rd l yX3_dieAllows wsX3_dieAllows ({ frames := 1, cells := 0, slots := 0, locals := 12 } : Room) D K (ws) [.int (nI die), .int (oI last), .int (nI d)] (.int (bI (dieT die last d))) := by
  refine rd_intro (cc := cX3_dieAllows) (maxL := 5) (ret := (some .boolean)) (by decide) rfl (Nat.le_of_ble_eq_true rfl) ?_
  intro pr en st md ar bl mt co hx hb hml hr hts hown hk hP hE ls hl
  have hown : st.vm.findClass RX3 = some md.cls := hown
  have hl : lv_has ls 5 [(0, .int (nI die)), (1, .int (oI last)), (2, .int (nI d))] := hl
  refine lv_iload_n hx hb dX3_dieAllows_0 rfl (lv_at hl 1 rfl) ?_
  refine lv_iconst (v := -1) hx hb dX3_dieAllows_1 (by decide) ?_
  refine ov_icmp_eq (tgt := 11) hx hb dX3_dieAllows_2 (by decide) (lt31 hlast (by decide)) (fun c_1 => ?_) (fun k_2 c_1 => ?_)
  · refine lv_iconst (v := nI 1) hx hb dX3_dieAllows_11 (by decide) ?_
    exact rd_zret hx hb hr hk dX3_dieAllows_12 (by (simp [dieT, bI, nI_0, nI_one, c_1]) <;> omega)
  · have hk_c_1 := hlast k_2 c_1
    refine lv_iload_n hx hb dX3_dieAllows_5 rfl (lv_at hl 0 rfl) ?_
    refine lv_bipush (v := nI 6) hx hb dX3_dieAllows_6 (by decide) ?_
    refine nv_icmp_ne (x := die) (y := 6) (tgt := 13) hx hb dX3_dieAllows_8 (by decide) (by omega) (by decide) (fun c_3 => ?_) (fun c_3 => ?_)
    · refine lv_iload_n hx hb dX3_dieAllows_13 rfl (lv_at hl 2 rfl) ?_
      refine lv_iload_n hx hb dX3_dieAllows_14 rfl (lv_at hl 1 rfl) ?_
      refine top_i (y := nI k_2) (by rw [c_1]; rfl) ?_
      refine nv_icmp_ne (x := d) (y := k_2) (tgt := 22) hx hb dX3_dieAllows_15 (by decide) (by omega) (by omega) (fun c_4 => ?_) (fun c_4 => ?_)
      · refine lv_iconst (v := nI 0) hx hb dX3_dieAllows_22 (by decide) ?_
        refine lv_istore_n (lv' := [(3, .int (nI 0)), (0, .int (nI die)), (1, .int (oI last)), (2, .int (nI d))]) hx hb dX3_dieAllows_23 rfl hl (by decide) rfl (fun ls hl => ?_)
        refine lv_iload_n hx hb dX3_dieAllows_24 rfl (lv_at hl 3 rfl) ?_
        refine lv_iload_n hx hb dX3_dieAllows_25 rfl (lv_at hl 2 rfl) ?_
        refine top_i (y := nI k_2) (by rw [c_1]; rfl) ?_
        refine lv_iconst (v := nI 2) hx hb dX3_dieAllows_26 (by decide) ?_
        refine nv_iadd (x := k_2) (y := 2) hx hb dX3_dieAllows_27 ?_
        refine lv_iconst (v := nI 4) hx hb dX3_dieAllows_28 (by decide) ?_
        refine nv_irem (x := k_2 + 2) (y := 4) hx hb dX3_dieAllows_29 (by omega) (by omega) (by decide) ?_
        refine nv_icmp_ne (x := d) (y := (k_2 + 2) % 4) (tgt := 37) hx hb dX3_dieAllows_30 (by decide) (by omega) (by omega) (fun c_5 => ?_) (fun c_5 => ?_)
        · refine lv_iconst (v := nI 0) hx hb dX3_dieAllows_37 (by decide) ?_
          refine lv_istore (lv' := [(4, .int (nI 0)), (3, .int (nI 0)), (0, .int (nI die)), (1, .int (oI last)), (2, .int (nI d))]) hx hb dX3_dieAllows_38 hl (by decide) rfl (fun ls hl => ?_)
          refine lv_iload_n hx hb dX3_dieAllows_40 rfl (lv_at hl 2 rfl) ?_
          refine lv_iconst (v := nI 2) hx hb dX3_dieAllows_41 (by decide) ?_
          refine nv_icmp_gt (x := die) (y := 2) (tgt := 56) hx hb dX3_dieAllows_42 (by decide) (by omega) (by decide) (fun c_6 => ?_) (fun c_6 => ?_)
          · have n_c_6 := Nat.not_le.mpr c_6
            refine lv_iload_n hx hb dX3_dieAllows_56 rfl (lv_at hl 2 rfl) ?_
            refine lv_iconst (v := nI 4) hx hb dX3_dieAllows_57 (by decide) ?_
            refine nv_icmp_gt (x := die) (y := 4) (tgt := 65) hx hb dX3_dieAllows_58 (by decide) (by omega) (by decide) (fun c_7 => ?_) (fun c_7 => ?_)
            · have n_c_7 := Nat.not_le.mpr c_7
              refine lv_iload_n hx hb dX3_dieAllows_65 rfl (lv_at hl 1 rfl) ?_
              refine nv_if_ne (x := 0) (tgt := 78) hx hb dX3_dieAllows_66 (by decide) (by decide) (fun c_8 => ?_) (fun c_8 => ?_)
              · exact absurd c_8 (by decide)
              have n_c_8 : ¬ 0 < 0 := by omega
              refine lv_iload hx hb dX3_dieAllows_69 (lv_at hl 0 rfl) ?_
              refine nv_if_ne (x := 0) (tgt := 78) hx hb dX3_dieAllows_71 (by decide) (by decide) (fun c_9 => ?_) (fun c_9 => ?_)
              · exact absurd c_9 (by decide)
              have n_c_9 : ¬ 0 < 0 := by omega
              refine lv_iconst (v := nI 1) hx hb dX3_dieAllows_74 (by decide) ?_
              refine lv_goto (tgt := 79) hx hb dX3_dieAllows_75 (by decide) ?_
              exact rd_zret hx hb hr hk dX3_dieAllows_79 (by (simp [dieT, bI, nI_0, nI_one, c_1, c_3, c_4, c_5, c_6, n_c_6, c_7, n_c_7, c_8, n_c_8, c_9, n_c_9]) <;> omega)
            · have n_c_7 := Nat.not_lt.mpr c_7
              refine lv_iload_n hx hb dX3_dieAllows_61 rfl (lv_at hl 1 rfl) ?_
              refine lv_goto (tgt := 79) hx hb dX3_dieAllows_62 (by decide) ?_
              exact rd_zret hx hb hr hk dX3_dieAllows_79 (by (simp [dieT, bI, nI_0, nI_one, c_1, c_3, c_4, c_5, c_6, n_c_6, c_7, n_c_7]) <;> omega)
          · have n_c_6 := Nat.not_lt.mpr c_6
            refine lv_iload hx hb dX3_dieAllows_45 (lv_at hl 0 rfl) ?_
            refine nv_if_ne (x := 0) (tgt := 54) hx hb dX3_dieAllows_47 (by decide) (by decide) (fun c_10 => ?_) (fun c_10 => ?_)
            · exact absurd c_10 (by decide)
            have n_c_10 : ¬ 0 < 0 := by omega
            refine lv_iconst (v := nI 1) hx hb dX3_dieAllows_50 (by decide) ?_
            refine lv_goto (tgt := 55) hx hb dX3_dieAllows_51 (by decide) ?_
            exact rd_zret hx hb hr hk dX3_dieAllows_55 (by (simp [dieT, bI, nI_0, nI_one, c_1, c_3, c_4, c_5, c_6, n_c_6, c_10, n_c_10]) <;> omega)
        · refine lv_iconst (v := nI 1) hx hb dX3_dieAllows_33 (by decide) ?_
          refine lv_goto (tgt := 38) hx hb dX3_dieAllows_34 (by decide) ?_
          refine lv_istore (lv' := [(4, .int (nI 1)), (3, .int (nI 0)), (0, .int (nI die)), (1, .int (oI last)), (2, .int (nI d))]) hx hb dX3_dieAllows_38 hl (by decide) rfl (fun ls hl => ?_)
          refine lv_iload_n hx hb dX3_dieAllows_40 rfl (lv_at hl 2 rfl) ?_
          refine lv_iconst (v := nI 2) hx hb dX3_dieAllows_41 (by decide) ?_
          refine nv_icmp_gt (x := die) (y := 2) (tgt := 56) hx hb dX3_dieAllows_42 (by decide) (by omega) (by decide) (fun c_11 => ?_) (fun c_11 => ?_)
          · have n_c_11 := Nat.not_le.mpr c_11
            refine lv_iload_n hx hb dX3_dieAllows_56 rfl (lv_at hl 2 rfl) ?_
            refine lv_iconst (v := nI 4) hx hb dX3_dieAllows_57 (by decide) ?_
            refine nv_icmp_gt (x := die) (y := 4) (tgt := 65) hx hb dX3_dieAllows_58 (by decide) (by omega) (by decide) (fun c_12 => ?_) (fun c_12 => ?_)
            · have n_c_12 := Nat.not_le.mpr c_12
              refine lv_iload_n hx hb dX3_dieAllows_65 rfl (lv_at hl 1 rfl) ?_
              refine nv_if_ne (x := 0) (tgt := 78) hx hb dX3_dieAllows_66 (by decide) (by decide) (fun c_13 => ?_) (fun c_13 => ?_)
              · exact absurd c_13 (by decide)
              have n_c_13 : ¬ 0 < 0 := by omega
              refine lv_iload hx hb dX3_dieAllows_69 (lv_at hl 0 rfl) ?_
              refine nv_if_ne (x := 1) (tgt := 78) hx hb dX3_dieAllows_71 (by decide) (by decide) (fun c_14 => ?_) (fun c_14 => ?_)
              · have n_c_14 : ¬ 1 = 0 := by omega
                refine lv_iconst (v := nI 0) hx hb dX3_dieAllows_78 (by decide) ?_
                exact rd_zret hx hb hr hk dX3_dieAllows_79 (by (simp [dieT, bI, nI_0, nI_one, c_1, c_3, c_4, c_5, c_11, n_c_11, c_12, n_c_12, c_13, n_c_13, c_14, n_c_14]) <;> omega)
              exact absurd c_14 (by decide)
            · have n_c_12 := Nat.not_lt.mpr c_12
              refine lv_iload_n hx hb dX3_dieAllows_61 rfl (lv_at hl 1 rfl) ?_
              refine lv_goto (tgt := 79) hx hb dX3_dieAllows_62 (by decide) ?_
              exact rd_zret hx hb hr hk dX3_dieAllows_79 (by (simp [dieT, bI, nI_0, nI_one, c_1, c_3, c_4, c_5, c_11, n_c_11, c_12, n_c_12]) <;> omega)
          · have n_c_11 := Nat.not_lt.mpr c_11
            refine lv_iload hx hb dX3_dieAllows_45 (lv_at hl 0 rfl) ?_
            refine nv_if_ne (x := 1) (tgt := 54) hx hb dX3_dieAllows_47 (by decide) (by decide) (fun c_15 => ?_) (fun c_15 => ?_)
            · have n_c_15 : ¬ 1 = 0 := by omega
              refine lv_iconst (v := nI 0) hx hb dX3_dieAllows_54 (by decide) ?_
              exact rd_zret hx hb hr hk dX3_dieAllows_55 (by (simp [dieT, bI, nI_0, nI_one, c_1, c_3, c_4, c_5, c_11, n_c_11, c_15, n_c_15]) <;> omega)
            exact absurd c_15 (by decide)
      · refine lv_iconst (v := nI 1) hx hb dX3_dieAllows_18 (by decide) ?_
        refine lv_goto (tgt := 23) hx hb dX3_dieAllows_19 (by decide) ?_
        refine lv_istore_n (lv' := [(3, .int (nI 1)), (0, .int (nI die)), (1, .int (oI last)), (2, .int (nI d))]) hx hb dX3_dieAllows_23 rfl hl (by decide) rfl (fun ls hl => ?_)
        refine lv_iload_n hx hb dX3_dieAllows_24 rfl (lv_at hl 3 rfl) ?_
        refine lv_iload_n hx hb dX3_dieAllows_25 rfl (lv_at hl 2 rfl) ?_
        refine top_i (y := nI k_2) (by rw [c_1]; rfl) ?_
        refine lv_iconst (v := nI 2) hx hb dX3_dieAllows_26 (by decide) ?_
        refine nv_iadd (x := k_2) (y := 2) hx hb dX3_dieAllows_27 ?_
        refine lv_iconst (v := nI 4) hx hb dX3_dieAllows_28 (by decide) ?_
        refine nv_irem (x := k_2 + 2) (y := 4) hx hb dX3_dieAllows_29 (by omega) (by omega) (by decide) ?_
        refine nv_icmp_ne (x := d) (y := (k_2 + 2) % 4) (tgt := 37) hx hb dX3_dieAllows_30 (by decide) (by omega) (by omega) (fun c_16 => ?_) (fun c_16 => ?_)
        · refine lv_iconst (v := nI 0) hx hb dX3_dieAllows_37 (by decide) ?_
          refine lv_istore (lv' := [(4, .int (nI 0)), (3, .int (nI 1)), (0, .int (nI die)), (1, .int (oI last)), (2, .int (nI d))]) hx hb dX3_dieAllows_38 hl (by decide) rfl (fun ls hl => ?_)
          refine lv_iload_n hx hb dX3_dieAllows_40 rfl (lv_at hl 2 rfl) ?_
          refine lv_iconst (v := nI 2) hx hb dX3_dieAllows_41 (by decide) ?_
          refine nv_icmp_gt (x := die) (y := 2) (tgt := 56) hx hb dX3_dieAllows_42 (by decide) (by omega) (by decide) (fun c_17 => ?_) (fun c_17 => ?_)
          · have n_c_17 := Nat.not_le.mpr c_17
            refine lv_iload_n hx hb dX3_dieAllows_56 rfl (lv_at hl 2 rfl) ?_
            refine lv_iconst (v := nI 4) hx hb dX3_dieAllows_57 (by decide) ?_
            refine nv_icmp_gt (x := die) (y := 4) (tgt := 65) hx hb dX3_dieAllows_58 (by decide) (by omega) (by decide) (fun c_18 => ?_) (fun c_18 => ?_)
            · have n_c_18 := Nat.not_le.mpr c_18
              refine lv_iload_n hx hb dX3_dieAllows_65 rfl (lv_at hl 1 rfl) ?_
              refine nv_if_ne (x := 1) (tgt := 78) hx hb dX3_dieAllows_66 (by decide) (by decide) (fun c_19 => ?_) (fun c_19 => ?_)
              · have n_c_19 : ¬ 1 = 0 := by omega
                refine lv_iconst (v := nI 0) hx hb dX3_dieAllows_78 (by decide) ?_
                exact rd_zret hx hb hr hk dX3_dieAllows_79 (by (simp [dieT, bI, nI_0, nI_one, c_1, c_3, c_4, c_16, c_17, n_c_17, c_18, n_c_18, c_19, n_c_19]) <;> omega)
              exact absurd c_19 (by decide)
            · have n_c_18 := Nat.not_lt.mpr c_18
              refine lv_iload_n hx hb dX3_dieAllows_61 rfl (lv_at hl 1 rfl) ?_
              refine lv_goto (tgt := 79) hx hb dX3_dieAllows_62 (by decide) ?_
              exact rd_zret hx hb hr hk dX3_dieAllows_79 (by (simp [dieT, bI, nI_0, nI_one, c_1, c_3, c_4, c_16, c_17, n_c_17, c_18, n_c_18]) <;> omega)
          · have n_c_17 := Nat.not_lt.mpr c_17
            refine lv_iload hx hb dX3_dieAllows_45 (lv_at hl 0 rfl) ?_
            refine nv_if_ne (x := 0) (tgt := 54) hx hb dX3_dieAllows_47 (by decide) (by decide) (fun c_20 => ?_) (fun c_20 => ?_)
            · exact absurd c_20 (by decide)
            have n_c_20 : ¬ 0 < 0 := by omega
            refine lv_iconst (v := nI 1) hx hb dX3_dieAllows_50 (by decide) ?_
            refine lv_goto (tgt := 55) hx hb dX3_dieAllows_51 (by decide) ?_
            exact rd_zret hx hb hr hk dX3_dieAllows_55 (by (simp [dieT, bI, nI_0, nI_one, c_1, c_3, c_4, c_16, c_17, n_c_17, c_20, n_c_20]) <;> omega)
        · refine lv_iconst (v := nI 1) hx hb dX3_dieAllows_33 (by decide) ?_
          refine lv_goto (tgt := 38) hx hb dX3_dieAllows_34 (by decide) ?_
          refine lv_istore (lv' := [(4, .int (nI 1)), (3, .int (nI 1)), (0, .int (nI die)), (1, .int (oI last)), (2, .int (nI d))]) hx hb dX3_dieAllows_38 hl (by decide) rfl (fun ls hl => ?_)
          refine lv_iload_n hx hb dX3_dieAllows_40 rfl (lv_at hl 2 rfl) ?_
          refine lv_iconst (v := nI 2) hx hb dX3_dieAllows_41 (by decide) ?_
          refine nv_icmp_gt (x := die) (y := 2) (tgt := 56) hx hb dX3_dieAllows_42 (by decide) (by omega) (by decide) (fun c_21 => ?_) (fun c_21 => ?_)
          · have n_c_21 := Nat.not_le.mpr c_21
            refine lv_iload_n hx hb dX3_dieAllows_56 rfl (lv_at hl 2 rfl) ?_
            refine lv_iconst (v := nI 4) hx hb dX3_dieAllows_57 (by decide) ?_
            refine nv_icmp_gt (x := die) (y := 4) (tgt := 65) hx hb dX3_dieAllows_58 (by decide) (by omega) (by decide) (fun c_22 => ?_) (fun c_22 => ?_)
            · have n_c_22 := Nat.not_le.mpr c_22
              refine lv_iload_n hx hb dX3_dieAllows_65 rfl (lv_at hl 1 rfl) ?_
              refine nv_if_ne (x := 1) (tgt := 78) hx hb dX3_dieAllows_66 (by decide) (by decide) (fun c_23 => ?_) (fun c_23 => ?_)
              · have n_c_23 : ¬ 1 = 0 := by omega
                refine lv_iconst (v := nI 0) hx hb dX3_dieAllows_78 (by decide) ?_
                exact rd_zret hx hb hr hk dX3_dieAllows_79 (by (simp [dieT, bI, nI_0, nI_one, c_1, c_3, c_4, c_16, c_21, n_c_21, c_22, n_c_22, c_23, n_c_23]) <;> omega)
              exact absurd c_23 (by decide)
            · have n_c_22 := Nat.not_lt.mpr c_22
              refine lv_iload_n hx hb dX3_dieAllows_61 rfl (lv_at hl 1 rfl) ?_
              refine lv_goto (tgt := 79) hx hb dX3_dieAllows_62 (by decide) ?_
              exact rd_zret hx hb hr hk dX3_dieAllows_79 (by (simp [dieT, bI, nI_0, nI_one, c_1, c_3, c_4, c_16, c_21, n_c_21, c_22, n_c_22]) <;> omega)
          · have n_c_21 := Nat.not_lt.mpr c_21
            refine lv_iload hx hb dX3_dieAllows_45 (lv_at hl 0 rfl) ?_
            refine nv_if_ne (x := 1) (tgt := 54) hx hb dX3_dieAllows_47 (by decide) (by decide) (fun c_24 => ?_) (fun c_24 => ?_)
            · have n_c_24 : ¬ 1 = 0 := by omega
              refine lv_iconst (v := nI 0) hx hb dX3_dieAllows_54 (by decide) ?_
              exact rd_zret hx hb hr hk dX3_dieAllows_55 (by (simp [dieT, bI, nI_0, nI_one, c_1, c_3, c_4, c_16, c_21, n_c_21, c_24, n_c_24]) <;> omega)
            exact absurd c_24 (by decide)
    · refine lv_iconst (v := nI 1) hx hb dX3_dieAllows_11 (by decide) ?_
      exact rd_zret hx hb hr hk dX3_dieAllows_12 (by (simp [dieT, bI, nI_0, nI_one, c_1, c_3]) <;> omega)
set_option maxHeartbeats 4000000 in
set_option maxRecDepth 100000 in
theorem c_X3_isSquare (l : Launch) (D : va_G) (K : Nat → ClassId) (ws : va_W) (x : Int32) : Rd l yX3_isSquare wsX3_isSquare ({ frames := 1, cells := 0, slots := 0, locals := 12 } : Room) D K (ws) [.int x] (.int (bI (inR 0 79 x))) := by
  refine rd_intro (cc := cX3_isSquare) (maxL := 1) (ret := (some .boolean)) (by decide) rfl (Nat.le_of_ble_eq_true rfl) ?_
  intro pr en st md ar bl mt co hx hb hml hr hts hown hk hP hE ls hl
  have hown : st.vm.findClass RX3 = some md.cls := hown
  have hl : lv_has ls 1 [(0, .int x)] := hl
  refine lv_iload_n hx hb dX3_isSquare_0 rfl (lv_at hl 0 rfl) ?_
  refine lv_if_lt (x := x) (tgt := 14) hx hb dX3_isSquare_1 (by decide) (fun c_1 => ?_) (fun c_1 => ?_)
  · refine lv_iconst (v := nI 0) hx hb dX3_isSquare_14 (by decide) ?_
    exact rd_zret hx hb hr hk dX3_isSquare_15 (by simp [inR, bI, nI_0, lit_1, inR_79, c_1])
  · refine lv_iload_n hx hb dX3_isSquare_4 rfl (lv_at hl 0 rfl) ?_
    refine lv_bipush (v := nI 80) hx hb dX3_isSquare_5 (by decide) ?_
    refine lv_icmp_ge (x := x) (y := nI 80) (tgt := 14) hx hb dX3_isSquare_7 (by decide) (fun c_2 => ?_) (fun c_2 => ?_)
    · have n_c_2 := i_le_nlt c_2
      refine lv_iconst (v := nI 0) hx hb dX3_isSquare_14 (by decide) ?_
      exact rd_zret hx hb hr hk dX3_isSquare_15 (by simp [inR, bI, nI_0, lit_1, inR_79, c_1, c_2, n_c_2])
    · have n_c_2 := i_nle_lt c_2
      refine lv_iconst (v := nI 1) hx hb dX3_isSquare_10 (by decide) ?_
      refine lv_goto (tgt := 15) hx hb dX3_isSquare_11 (by decide) ?_
      exact rd_zret hx hb hr hk dX3_isSquare_15 (by simp [inR, bI, nI_0, lit_1, inR_79, c_1, c_2, n_c_2])
set_option maxHeartbeats 4000000 in
set_option maxRecDepth 100000 in
theorem c_X3_isDie (l : Launch) (D : va_G) (K : Nat → ClassId) (ws : va_W) (x : Int32) : Rd l yX3_isDie wsX3_isDie ({ frames := 1, cells := 0, slots := 0, locals := 12 } : Room) D K (ws) [.int x] (.int (bI (inR 1 6 x))) := by
  refine rd_intro (cc := cX3_isDie) (maxL := 1) (ret := (some .boolean)) (by decide) rfl (Nat.le_of_ble_eq_true rfl) ?_
  intro pr en st md ar bl mt co hx hb hml hr hts hown hk hP hE ls hl
  have hown : st.vm.findClass RX3 = some md.cls := hown
  have hl : lv_has ls 1 [(0, .int x)] := hl
  refine lv_iload_n hx hb dX3_isDie_0 rfl (lv_at hl 0 rfl) ?_
  refine lv_iconst (v := nI 1) hx hb dX3_isDie_1 (by decide) ?_
  refine lv_icmp_lt (x := x) (y := nI 1) (tgt := 15) hx hb dX3_isDie_2 (by decide) (fun c_1 => ?_) (fun c_1 => ?_)
  · have n_c_1 := i_lt_nle c_1
    refine lv_iconst (v := nI 0) hx hb dX3_isDie_15 (by decide) ?_
    exact rd_zret hx hb hr hk dX3_isDie_16 (by simp [inR, bI, nI_0, lit_1, inR_6, c_1, n_c_1])
  · have n_c_1 := i_nlt_le c_1
    refine lv_iload_n hx hb dX3_isDie_5 rfl (lv_at hl 0 rfl) ?_
    refine lv_bipush (v := nI 6) hx hb dX3_isDie_6 (by decide) ?_
    refine lv_icmp_gt (x := x) (y := nI 6) (tgt := 15) hx hb dX3_isDie_8 (by decide) (fun c_2 => ?_) (fun c_2 => ?_)
    · have n_c_2 := i_lt_nle c_2
      refine lv_iconst (v := nI 0) hx hb dX3_isDie_15 (by decide) ?_
      exact rd_zret hx hb hr hk dX3_isDie_16 (by simp [inR, bI, nI_0, lit_1, inR_6, c_1, n_c_1, c_2, n_c_2])
    · have n_c_2 := i_nlt_le c_2
      refine lv_iconst (v := nI 1) hx hb dX3_isDie_11 (by decide) ?_
      refine lv_goto (tgt := 16) hx hb dX3_isDie_12 (by decide) ?_
      exact rd_zret hx hb hr hk dX3_isDie_16 (by simp [inR, bI, nI_0, lit_1, inR_6, c_1, n_c_1, c_2, n_c_2])
set_option maxHeartbeats 4000000 in
set_option maxRecDepth 100000 in
theorem c_X3_isPlayer (l : Launch) (D : va_G) (K : Nat → ClassId) (ws : va_W) (x : Int32) : Rd l yX3_isPlayer wsX3_isPlayer ({ frames := 1, cells := 0, slots := 0, locals := 12 } : Room) D K (ws) [.int x] (.int (bI (inR 0 3 x))) := by
  refine rd_intro (cc := cX3_isPlayer) (maxL := 1) (ret := (some .boolean)) (by decide) rfl (Nat.le_of_ble_eq_true rfl) ?_
  intro pr en st md ar bl mt co hx hb hml hr hts hown hk hP hE ls hl
  have hown : st.vm.findClass RX3 = some md.cls := hown
  have hl : lv_has ls 1 [(0, .int x)] := hl
  refine lv_iload_n hx hb dX3_isPlayer_0 rfl (lv_at hl 0 rfl) ?_
  refine lv_if_lt (x := x) (tgt := 13) hx hb dX3_isPlayer_1 (by decide) (fun c_1 => ?_) (fun c_1 => ?_)
  · refine lv_iconst (v := nI 0) hx hb dX3_isPlayer_13 (by decide) ?_
    exact rd_zret hx hb hr hk dX3_isPlayer_14 (by simp [inR, bI, nI_0, lit_1, inR_3, c_1])
  · refine lv_iload_n hx hb dX3_isPlayer_4 rfl (lv_at hl 0 rfl) ?_
    refine lv_iconst (v := nI 4) hx hb dX3_isPlayer_5 (by decide) ?_
    refine lv_icmp_ge (x := x) (y := nI 4) (tgt := 13) hx hb dX3_isPlayer_6 (by decide) (fun c_2 => ?_) (fun c_2 => ?_)
    · have n_c_2 := i_le_nlt c_2
      refine lv_iconst (v := nI 0) hx hb dX3_isPlayer_13 (by decide) ?_
      exact rd_zret hx hb hr hk dX3_isPlayer_14 (by simp [inR, bI, nI_0, lit_1, inR_3, c_1, c_2, n_c_2])
    · have n_c_2 := i_nle_lt c_2
      refine lv_iconst (v := nI 1) hx hb dX3_isPlayer_9 (by decide) ?_
      refine lv_goto (tgt := 14) hx hb dX3_isPlayer_10 (by decide) ?_
      exact rd_zret hx hb hr hk dX3_isPlayer_14 (by simp [inR, bI, nI_0, lit_1, inR_3, c_1, c_2, n_c_2])
set_option maxHeartbeats 4000000 in
set_option maxRecDepth 100000 in
theorem c_X3_isStop (l : Launch) (D : va_G) (K : Nat → ClassId) (ws : va_W) (x : Int32) : Rd l yX3_isStop wsX3_isStop ({ frames := 1, cells := 0, slots := 0, locals := 12 } : Room) D K (ws) [.int x] (.int (bI (inR 0 11 x))) := by
  refine rd_intro (cc := cX3_isStop) (maxL := 1) (ret := (some .boolean)) (by decide) rfl (Nat.le_of_ble_eq_true rfl) ?_
  intro pr en st md ar bl mt co hx hb hml hr hts hown hk hP hE ls hl
  have hown : st.vm.findClass RX3 = some md.cls := hown
  have hl : lv_has ls 1 [(0, .int x)] := hl
  refine lv_iload_n hx hb dX3_isStop_0 rfl (lv_at hl 0 rfl) ?_
  refine lv_if_lt (x := x) (tgt := 14) hx hb dX3_isStop_1 (by decide) (fun c_1 => ?_) (fun c_1 => ?_)
  · refine lv_iconst (v := nI 0) hx hb dX3_isStop_14 (by decide) ?_
    exact rd_zret hx hb hr hk dX3_isStop_15 (by simp [inR, bI, nI_0, lit_1, inR_11, c_1])
  · refine lv_iload_n hx hb dX3_isStop_4 rfl (lv_at hl 0 rfl) ?_
    refine lv_bipush (v := nI 12) hx hb dX3_isStop_5 (by decide) ?_
    refine lv_icmp_ge (x := x) (y := nI 12) (tgt := 14) hx hb dX3_isStop_7 (by decide) (fun c_2 => ?_) (fun c_2 => ?_)
    · have n_c_2 := i_le_nlt c_2
      refine lv_iconst (v := nI 0) hx hb dX3_isStop_14 (by decide) ?_
      exact rd_zret hx hb hr hk dX3_isStop_15 (by simp [inR, bI, nI_0, lit_1, inR_11, c_1, c_2, n_c_2])
    · have n_c_2 := i_nle_lt c_2
      refine lv_iconst (v := nI 1) hx hb dX3_isStop_10 (by decide) ?_
      refine lv_goto (tgt := 15) hx hb dX3_isStop_11 (by decide) ?_
      exact rd_zret hx hb hr hk dX3_isStop_15 (by simp [inR, bI, nI_0, lit_1, inR_11, c_1, c_2, n_c_2])
set_option maxHeartbeats 4000000 in
set_option maxRecDepth 100000 in
theorem c_X3_isDirection (l : Launch) (D : va_G) (K : Nat → ClassId) (ws : va_W) (x : Int32) : Rd l yX3_isDirection wsX3_isDirection ({ frames := 1, cells := 0, slots := 0, locals := 12 } : Room) D K (ws) [.int x] (.int (bI (inR 0 3 x))) := by
  refine rd_intro (cc := cX3_isDirection) (maxL := 1) (ret := (some .boolean)) (by decide) rfl (Nat.le_of_ble_eq_true rfl) ?_
  intro pr en st md ar bl mt co hx hb hml hr hts hown hk hP hE ls hl
  have hown : st.vm.findClass RX3 = some md.cls := hown
  have hl : lv_has ls 1 [(0, .int x)] := hl
  refine lv_iload_n hx hb dX3_isDirection_0 rfl (lv_at hl 0 rfl) ?_
  refine lv_if_lt (x := x) (tgt := 13) hx hb dX3_isDirection_1 (by decide) (fun c_1 => ?_) (fun c_1 => ?_)
  · refine lv_iconst (v := nI 0) hx hb dX3_isDirection_13 (by decide) ?_
    exact rd_zret hx hb hr hk dX3_isDirection_14 (by simp [inR, bI, nI_0, lit_1, inR_3, c_1])
  · refine lv_iload_n hx hb dX3_isDirection_4 rfl (lv_at hl 0 rfl) ?_
    refine lv_iconst (v := nI 4) hx hb dX3_isDirection_5 (by decide) ?_
    refine lv_icmp_ge (x := x) (y := nI 4) (tgt := 13) hx hb dX3_isDirection_6 (by decide) (fun c_2 => ?_) (fun c_2 => ?_)
    · have n_c_2 := i_le_nlt c_2
      refine lv_iconst (v := nI 0) hx hb dX3_isDirection_13 (by decide) ?_
      exact rd_zret hx hb hr hk dX3_isDirection_14 (by simp [inR, bI, nI_0, lit_1, inR_3, c_1, c_2, n_c_2])
    · have n_c_2 := i_nle_lt c_2
      refine lv_iconst (v := nI 1) hx hb dX3_isDirection_9 (by decide) ?_
      refine lv_goto (tgt := 14) hx hb dX3_isDirection_10 (by decide) ?_
      exact rd_zret hx hb hr hk dX3_isDirection_14 (by simp [inR, bI, nI_0, lit_1, inR_3, c_1, c_2, n_c_2])
set_option maxHeartbeats 4000000 in
set_option maxRecDepth 100000 in
theorem c_X3_isSetting (l : Launch) (D : va_G) (K : Nat → ClassId) (ws : va_W) (x : Int32) : Rd l yX3_isSetting wsX3_isSetting ({ frames := 1, cells := 0, slots := 0, locals := 12 } : Room) D K (ws) [.int x] (.int (bI (inR 0 2 x))) := by
  refine rd_intro (cc := cX3_isSetting) (maxL := 1) (ret := (some .boolean)) (by decide) rfl (Nat.le_of_ble_eq_true rfl) ?_
  intro pr en st md ar bl mt co hx hb hml hr hts hown hk hP hE ls hl
  have hown : st.vm.findClass RX3 = some md.cls := hown
  have hl : lv_has ls 1 [(0, .int x)] := hl
  refine lv_iload_n hx hb dX3_isSetting_0 rfl (lv_at hl 0 rfl) ?_
  refine lv_if_lt (x := x) (tgt := 13) hx hb dX3_isSetting_1 (by decide) (fun c_1 => ?_) (fun c_1 => ?_)
  · refine lv_iconst (v := nI 0) hx hb dX3_isSetting_13 (by decide) ?_
    exact rd_zret hx hb hr hk dX3_isSetting_14 (by simp [inR, bI, nI_0, lit_1, inR_2, c_1])
  · refine lv_iload_n hx hb dX3_isSetting_4 rfl (lv_at hl 0 rfl) ?_
    refine lv_iconst (v := nI 3) hx hb dX3_isSetting_5 (by decide) ?_
    refine lv_icmp_ge (x := x) (y := nI 3) (tgt := 13) hx hb dX3_isSetting_6 (by decide) (fun c_2 => ?_) (fun c_2 => ?_)
    · have n_c_2 := i_le_nlt c_2
      refine lv_iconst (v := nI 0) hx hb dX3_isSetting_13 (by decide) ?_
      exact rd_zret hx hb hr hk dX3_isSetting_14 (by simp [inR, bI, nI_0, lit_1, inR_2, c_1, c_2, n_c_2])
    · have n_c_2 := i_nle_lt c_2
      refine lv_iconst (v := nI 1) hx hb dX3_isSetting_9 (by decide) ?_
      refine lv_goto (tgt := 14) hx hb dX3_isSetting_10 (by decide) ?_
      exact rd_zret hx hb hr hk dX3_isSetting_14 (by simp [inR, bI, nI_0, lit_1, inR_2, c_1, c_2, n_c_2])
