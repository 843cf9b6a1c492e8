/-! the law's cases -/
def Nx (pr : Program) (l : Launch) (en : Env) (st : State) (md : MethodId) (ar : Array Value) (bl : List Frame) (mt : Method) (co : Code) (D : va_G) (K : Nat → ClassId) (A : Nat → Prop) (Q : State → Prop) (b9 : Nat) (a b t c r : Nat → Nat) (o : Nat) (k cells slots pc : Nat) : Prop :=
  ∀ (T : TW) (len : Nat → Option Nat) (qu : Nat → Nat) (n : Nat) (cs : Nat → Nat) (ln sn : Nat) (Sv : Nat → TW) (g : Nat → Nat → Nat) (th pn : Int32) (pm sta ms : Nat) (hs : Int64) (sv : Nat → Int32) (pf : Nat → Int32) (fa : Nat → Nat) (of : Nat → Int64), LI T cs ln sn Sv sv → ∀ (H : Heap) (locs : List Loc) (ls : Array Slot), va_P D vwCl (cW K a b t c g T len qu n cs ln sn Sv (oC K o of :: rfW K r th pn sn ln pm sta ms hs T sv cs pf fa [])) H → va_D A (cW K a b t c g T len qu n cs ln sn Sv (oC K o of :: rfW K r th pn sn ln pm sta ms hs T sv cs pf fa [])) → va_S A st.heap H locs → lv_has ls 9 [(4, .int (nI (4 * k))), (0, .ref b9), (1, .ref (c 0)), (2, .ref (r 0)), (3, .ref o)] → W pr l en room_1 st md ar bl mt co H locs cells slots Q (F0 md pc ls [])
theorem hd_L_house : yL_house.cls = RL ∧ yL_house.cls ≠ "java/lang/invoke/MethodHandle" ∧ yL_house.cls ≠ "java/lang/invoke/VarHandle" ∧ (parseMethodDescriptor yL_house.desc).map (fun d => d.parameters.length) = some 4 := by decide +kernel
theorem hn_L_house : yL_house.cls ≠ "java/lang/invoke/MethodHandle" ∧ yL_house.cls ≠ "java/lang/invoke/VarHandle" ∧ (parseMethodDescriptor yL_house.desc).map (fun d => d.parameters.length) = some 4 := hd_L_house.2
theorem hd_L_stop : yL_stop.cls = RL ∧ yL_stop.cls ≠ "java/lang/invoke/MethodHandle" ∧ yL_stop.cls ≠ "java/lang/invoke/VarHandle" ∧ (parseMethodDescriptor yL_stop.desc).map (fun d => d.parameters.length) = some 4 := by decide +kernel
theorem hn_L_stop : yL_stop.cls ≠ "java/lang/invoke/MethodHandle" ∧ yL_stop.cls ≠ "java/lang/invoke/VarHandle" ∧ (parseMethodDescriptor yL_stop.desc).map (fun d => d.parameters.length) = some 4 := hd_L_stop.2
theorem hd_L_drop : yL_drop.cls = RL ∧ yL_drop.cls ≠ "java/lang/invoke/MethodHandle" ∧ yL_drop.cls ≠ "java/lang/invoke/VarHandle" ∧ (parseMethodDescriptor yL_drop.desc).map (fun d => d.parameters.length) = some 3 := by decide +kernel
theorem hn_L_drop : yL_drop.cls ≠ "java/lang/invoke/MethodHandle" ∧ yL_drop.cls ≠ "java/lang/invoke/VarHandle" ∧ (parseMethodDescriptor yL_drop.desc).map (fun d => d.parameters.length) = some 3 := hd_L_drop.2
theorem hd_L_lay : yL_lay.cls = RL ∧ yL_lay.cls ≠ "java/lang/invoke/MethodHandle" ∧ yL_lay.cls ≠ "java/lang/invoke/VarHandle" ∧ (parseMethodDescriptor yL_lay.desc).map (fun d => d.parameters.length) = some 5 := by decide +kernel
theorem hn_L_lay : yL_lay.cls ≠ "java/lang/invoke/MethodHandle" ∧ yL_lay.cls ≠ "java/lang/invoke/VarHandle" ∧ (parseMethodDescriptor yL_lay.desc).map (fun d => d.parameters.length) = some 5 := hd_L_lay.2
theorem hd_L_branch : yL_branch.cls = RL ∧ yL_branch.cls ≠ "java/lang/invoke/MethodHandle" ∧ yL_branch.cls ≠ "java/lang/invoke/VarHandle" ∧ (parseMethodDescriptor yL_branch.desc).map (fun d => d.parameters.length) = some 5 := by decide +kernel
theorem hn_L_branch : yL_branch.cls ≠ "java/lang/invoke/MethodHandle" ∧ yL_branch.cls ≠ "java/lang/invoke/VarHandle" ∧ (parseMethodDescriptor yL_branch.desc).map (fun d => d.parameters.length) = some 5 := hd_L_branch.2
theorem hd_L_takeUp : yL_takeUp.cls = RL ∧ yL_takeUp.cls ≠ "java/lang/invoke/MethodHandle" ∧ yL_takeUp.cls ≠ "java/lang/invoke/VarHandle" ∧ (parseMethodDescriptor yL_takeUp.desc).map (fun d => d.parameters.length) = some 3 := by decide +kernel
theorem hn_L_takeUp : yL_takeUp.cls ≠ "java/lang/invoke/MethodHandle" ∧ yL_takeUp.cls ≠ "java/lang/invoke/VarHandle" ∧ (parseMethodDescriptor yL_takeUp.desc).map (fun d => d.parameters.length) = some 3 := hd_L_takeUp.2
theorem hd_L_give : yL_give.cls = RL ∧ yL_give.cls ≠ "java/lang/invoke/MethodHandle" ∧ yL_give.cls ≠ "java/lang/invoke/VarHandle" ∧ (parseMethodDescriptor yL_give.desc).map (fun d => d.parameters.length) = some 4 := by decide +kernel
theorem hn_L_give : yL_give.cls ≠ "java/lang/invoke/MethodHandle" ∧ yL_give.cls ≠ "java/lang/invoke/VarHandle" ∧ (parseMethodDescriptor yL_give.desc).map (fun d => d.parameters.length) = some 4 := hd_L_give.2
theorem hd_L_set : yL_set.cls = RL ∧ yL_set.cls ≠ "java/lang/invoke/MethodHandle" ∧ yL_set.cls ≠ "java/lang/invoke/VarHandle" ∧ (parseMethodDescriptor yL_set.desc).map (fun d => d.parameters.length) = some 4 := by decide +kernel
theorem hn_L_set : yL_set.cls ≠ "java/lang/invoke/MethodHandle" ∧ yL_set.cls ≠ "java/lang/invoke/VarHandle" ∧ (parseMethodDescriptor yL_set.desc).map (fun d => d.parameters.length) = some 4 := hd_L_set.2
theorem hd_L_append : yL_append.cls = RL ∧ yL_append.cls ≠ "java/lang/invoke/MethodHandle" ∧ yL_append.cls ≠ "java/lang/invoke/VarHandle" ∧ (parseMethodDescriptor yL_append.desc).map (fun d => d.parameters.length) = some 3 := by decide +kernel
theorem hn_L_append : yL_append.cls ≠ "java/lang/invoke/MethodHandle" ∧ yL_append.cls ≠ "java/lang/invoke/VarHandle" ∧ (parseMethodDescriptor yL_append.desc).map (fun d => d.parameters.length) = some 3 := hd_L_append.2
theorem hd_L_play : yL_play.cls = RL ∧ yL_play.cls ≠ "java/lang/invoke/MethodHandle" ∧ yL_play.cls ≠ "java/lang/invoke/VarHandle" ∧ (parseMethodDescriptor yL_play.desc).map (fun d => d.parameters.length) = some 2 := by decide +kernel
theorem hn_L_play : yL_play.cls ≠ "java/lang/invoke/MethodHandle" ∧ yL_play.cls ≠ "java/lang/invoke/VarHandle" ∧ (parseMethodDescriptor yL_play.desc).map (fun d => d.parameters.length) = some 2 := hd_L_play.2
theorem hd_L_undo : yL_undo.cls = RL ∧ yL_undo.cls ≠ "java/lang/invoke/MethodHandle" ∧ yL_undo.cls ≠ "java/lang/invoke/VarHandle" ∧ (parseMethodDescriptor yL_undo.desc).map (fun d => d.parameters.length) = some 2 := by decide +kernel
theorem hn_L_undo : yL_undo.cls ≠ "java/lang/invoke/MethodHandle" ∧ yL_undo.cls ≠ "java/lang/invoke/VarHandle" ∧ (parseMethodDescriptor yL_undo.desc).map (fun d => d.parameters.length) = some 2 := hd_L_undo.2
theorem hd_L_square : yL_square.cls = RL ∧ yL_square.cls ≠ "java/lang/invoke/MethodHandle" ∧ yL_square.cls ≠ "java/lang/invoke/VarHandle" ∧ (parseMethodDescriptor yL_square.desc).map (fun d => d.parameters.length) = some 4 := by decide +kernel
theorem hn_L_square : yL_square.cls ≠ "java/lang/invoke/MethodHandle" ∧ yL_square.cls ≠ "java/lang/invoke/VarHandle" ∧ (parseMethodDescriptor yL_square.desc).map (fun d => d.parameters.length) = some 4 := hd_L_square.2
theorem hd_L_stopOf : yL_stopOf.cls = RL ∧ yL_stopOf.cls ≠ "java/lang/invoke/MethodHandle" ∧ yL_stopOf.cls ≠ "java/lang/invoke/VarHandle" ∧ (parseMethodDescriptor yL_stopOf.desc).map (fun d => d.parameters.length) = some 4 := by decide +kernel
theorem hn_L_stopOf : yL_stopOf.cls ≠ "java/lang/invoke/MethodHandle" ∧ yL_stopOf.cls ≠ "java/lang/invoke/VarHandle" ∧ (parseMethodDescriptor yL_stopOf.desc).map (fun d => d.parameters.length) = some 4 := hd_L_stopOf.2
theorem hd_L_player : yL_player.cls = RL ∧ yL_player.cls ≠ "java/lang/invoke/MethodHandle" ∧ yL_player.cls ≠ "java/lang/invoke/VarHandle" ∧ (parseMethodDescriptor yL_player.desc).map (fun d => d.parameters.length) = some 4 := by decide +kernel
theorem hn_L_player : yL_player.cls ≠ "java/lang/invoke/MethodHandle" ∧ yL_player.cls ≠ "java/lang/invoke/VarHandle" ∧ (parseMethodDescriptor yL_player.desc).map (fun d => d.parameters.length) = some 4 := hd_L_player.2
theorem hd_L_refusal : yL_refusal.cls = RL ∧ yL_refusal.cls ≠ "java/lang/invoke/MethodHandle" ∧ yL_refusal.cls ≠ "java/lang/invoke/VarHandle" ∧ (parseMethodDescriptor yL_refusal.desc).map (fun d => d.parameters.length) = some 5 := by decide +kernel
theorem hn_L_refusal : yL_refusal.cls ≠ "java/lang/invoke/MethodHandle" ∧ yL_refusal.cls ≠ "java/lang/invoke/VarHandle" ∧ (parseMethodDescriptor yL_refusal.desc).map (fun d => d.parameters.length) = some 5 := hd_L_refusal.2
theorem hd_L_count : yL_count.cls = RL ∧ yL_count.cls ≠ "java/lang/invoke/MethodHandle" ∧ yL_count.cls ≠ "java/lang/invoke/VarHandle" ∧ (parseMethodDescriptor yL_count.desc).map (fun d => d.parameters.length) = some 3 := by decide +kernel
theorem hn_L_count : yL_count.cls ≠ "java/lang/invoke/MethodHandle" ∧ yL_count.cls ≠ "java/lang/invoke/VarHandle" ∧ (parseMethodDescriptor yL_count.desc).map (fun d => d.parameters.length) = some 3 := hd_L_count.2
theorem hd_L_setting : yL_setting.cls = RL ∧ yL_setting.cls ≠ "java/lang/invoke/MethodHandle" ∧ yL_setting.cls ≠ "java/lang/invoke/VarHandle" ∧ (parseMethodDescriptor yL_setting.desc).map (fun d => d.parameters.length) = some 3 := by decide +kernel
theorem hn_L_setting : yL_setting.cls ≠ "java/lang/invoke/MethodHandle" ∧ yL_setting.cls ≠ "java/lang/invoke/VarHandle" ∧ (parseMethodDescriptor yL_setting.desc).map (fun d => d.parameters.length) = some 3 := hd_L_setting.2
theorem hd_L_away : yL_away.cls = RL ∧ yL_away.cls ≠ "java/lang/invoke/MethodHandle" ∧ yL_away.cls ≠ "java/lang/invoke/VarHandle" ∧ (parseMethodDescriptor yL_away.desc).map (fun d => d.parameters.length) = some 4 := by decide +kernel
theorem hn_L_away : yL_away.cls ≠ "java/lang/invoke/MethodHandle" ∧ yL_away.cls ≠ "java/lang/invoke/VarHandle" ∧ (parseMethodDescriptor yL_away.desc).map (fun d => d.parameters.length) = some 4 := hd_L_away.2
theorem hd_L_cheapest : yL_cheapest.cls = RL ∧ yL_cheapest.cls ≠ "java/lang/invoke/MethodHandle" ∧ yL_cheapest.cls ≠ "java/lang/invoke/VarHandle" ∧ (parseMethodDescriptor yL_cheapest.desc).map (fun d => d.parameters.length) = some 4 := by decide +kernel
theorem hn_L_cheapest : yL_cheapest.cls ≠ "java/lang/invoke/MethodHandle" ∧ yL_cheapest.cls ≠ "java/lang/invoke/VarHandle" ∧ (parseMethodDescriptor yL_cheapest.desc).map (fun d => d.parameters.length) = some 4 := hd_L_cheapest.2
theorem hd_L_best : yL_best.cls = RL ∧ yL_best.cls ≠ "java/lang/invoke/MethodHandle" ∧ yL_best.cls ≠ "java/lang/invoke/VarHandle" ∧ (parseMethodDescriptor yL_best.desc).map (fun d => d.parameters.length) = some 4 := by decide +kernel
theorem hn_L_best : yL_best.cls ≠ "java/lang/invoke/MethodHandle" ∧ yL_best.cls ≠ "java/lang/invoke/VarHandle" ∧ (parseMethodDescriptor yL_best.desc).map (fun d => d.parameters.length) = some 4 := hd_L_best.2
theorem hd_X3_clearBuffer : yX3_clearBuffer.cls = RX3 ∧ yX3_clearBuffer.cls ≠ "java/lang/invoke/MethodHandle" ∧ yX3_clearBuffer.cls ≠ "java/lang/invoke/VarHandle" ∧ (parseMethodDescriptor yX3_clearBuffer.desc).map (fun d => d.parameters.length) = some 0 := by decide +kernel
theorem hn_X3_clearBuffer : yX3_clearBuffer.cls ≠ "java/lang/invoke/MethodHandle" ∧ yX3_clearBuffer.cls ≠ "java/lang/invoke/VarHandle" ∧ (parseMethodDescriptor yX3_clearBuffer.desc).map (fun d => d.parameters.length) = some 0 := hd_X3_clearBuffer.2
theorem hd_X3_firstError : yX3_firstError.cls = RX3 ∧ yX3_firstError.cls ≠ "java/lang/invoke/MethodHandle" ∧ yX3_firstError.cls ≠ "java/lang/invoke/VarHandle" ∧ (parseMethodDescriptor yX3_firstError.desc).map (fun d => d.parameters.length) = some 0 := by decide +kernel
theorem hn_X3_firstError : yX3_firstError.cls ≠ "java/lang/invoke/MethodHandle" ∧ yX3_firstError.cls ≠ "java/lang/invoke/VarHandle" ∧ (parseMethodDescriptor yX3_firstError.desc).map (fun d => d.parameters.length) = some 0 := hd_X3_firstError.2
theorem hd_X3_ahead : yX3_ahead.cls = RX3 ∧ yX3_ahead.cls ≠ "java/lang/invoke/MethodHandle" ∧ yX3_ahead.cls ≠ "java/lang/invoke/VarHandle" ∧ (parseMethodDescriptor yX3_ahead.desc).map (fun d => d.parameters.length) = some 0 := by decide +kernel
theorem hn_X3_ahead : yX3_ahead.cls ≠ "java/lang/invoke/MethodHandle" ∧ yX3_ahead.cls ≠ "java/lang/invoke/VarHandle" ∧ (parseMethodDescriptor yX3_ahead.desc).map (fun d => d.parameters.length) = some 0 := hd_X3_ahead.2
theorem hd_X3_shared : yX3_shared.cls = RX3 ∧ yX3_shared.cls ≠ "java/lang/invoke/MethodHandle" ∧ yX3_shared.cls ≠ "java/lang/invoke/VarHandle" ∧ (parseMethodDescriptor yX3_shared.desc).map (fun d => d.parameters.length) = some 0 := by decide +kernel
theorem hn_X3_shared : yX3_shared.cls ≠ "java/lang/invoke/MethodHandle" ∧ yX3_shared.cls ≠ "java/lang/invoke/VarHandle" ∧ (parseMethodDescriptor yX3_shared.desc).map (fun d => d.parameters.length) = some 0 := hd_X3_shared.2
theorem hd_X3_digest : yX3_digest.cls = RX3 ∧ yX3_digest.cls ≠ "java/lang/invoke/MethodHandle" ∧ yX3_digest.cls ≠ "java/lang/invoke/VarHandle" ∧ (parseMethodDescriptor yX3_digest.desc).map (fun d => d.parameters.length) = some 0 := by decide +kernel
theorem hn_X3_digest : yX3_digest.cls ≠ "java/lang/invoke/MethodHandle" ∧ yX3_digest.cls ≠ "java/lang/invoke/VarHandle" ∧ (parseMethodDescriptor yX3_digest.desc).map (fun d => d.parameters.length) = some 0 := hd_X3_digest.2
set_option maxHeartbeats 4000000 in
set_option maxRecDepth 100000 in
theorem lc_house {pr : Program} {l : Launch} {en : Env} {st : State} {md : MethodId} {ar : Array Value} {bl : List Frame} {mt : Method} {co : Code} {D : va_G} {K : Nat → ClassId} {A : Nat → Prop} {Q : State → Prop} {b9 : Nat} {a b t c r : Nat → Nat} {o : Nat} {dp fs L : Nat} {xs : Nat → Int32} (hx : pr.tables.exec = Jvm.exec) (hb : co.code = cL_law) (hml : co.maxLocals = 9) (hts : ∀ w ∈ wsL_law, w.before ar st = true) (hown : st.vm.findClass RL = some md.cls) (hst : l.stackTraces = false) (hE : ev D K st) (hXw : xw st) (hxn : xn st) (hZ : xst dp fs A st st.heap) (hA : ∀ q : Nat, st.heap.size ≤ q → A q) (hX : va_X b9 L xs st st.heap) (hbl : b9 < st.heap.size) (hbA : ¬ A b9) (k : Nat) (hk : 4 * k + 4 ≤ L) (hL : L ≤ 2048) (cells slots : Nat) (hc1 : cells + 1 ≤ 601024) (hc2 : slots + 6 ≤ 7293034) (kk : Nx pr l en st md ar bl mt co D K A Q b9 a b t c r o k (cells + 1) (slots + 6) 1550) : Nx pr l en st md ar bl mt co D K A Q b9 a b t c r o k cells slots 152 := by
  intro T len qu n cs ln sn Sv g th pn pm sta ms hs sv pf fa of hLI H locs ls hP hD hS hl
  have hLI0 := hLI
  obtain ⟨hI, hK, hCB, hsn, hSV, hSI, hSH⟩ := hLI
  refine lv_aload_n hx hb dL_law_152 rfl (lv_at hl 2 rfl) ?_
  refine lv_aload_n hx hb dL_law_153 rfl (lv_at hl 1 rfl) ?_
  refine lv_iload hx hb dL_law_154 (lv_at hl 0 rfl) ?_
  refine lv_iconst (v := nI 1) hx hb dL_law_156 (by decide) ?_
  refine nv_iadd (x := 4 * k) (y := 1) hx hb dL_law_157 ?_
  refine va_sld hx hb hX hbl hbA hS (pk_in ((4 * k) + 1) L (by omega)) dL_law_158 ?_
  rw [pk_cl ((4 * k) + 1)]
  refine lv_aload_n hx hb dL_law_159 rfl (lv_at hl 1 rfl) ?_
  refine lv_iload hx hb dL_law_160 (lv_at hl 0 rfl) ?_
  refine lv_iconst (v := nI 2) hx hb dL_law_162 (by decide) ?_
  refine nv_iadd (x := 4 * k) (y := 2) hx hb dL_law_163 ?_
  refine va_sld hx hb hX hbl hbA hS (pk_in ((4 * k) + 2) L (by omega)) dL_law_164 ?_
  rw [pk_cl ((4 * k) + 2)]
  refine lv_if_eq (x := xs ((4 * k) + 2)) (tgt := 172) hx hb dL_law_165 (by decide) (fun c_1 => ?_) (fun c_1 => ?_)
  · refine lv_iconst (v := nI 0) hx hb dL_law_172 (by decide) ?_
    refine top_i (y := bI (decide (¬ xs (4 * k + 2) = 0))) ((congrArg bI (decide_eq_false (fun q => q c_1))).symm) ?_
    refine lv_aload_n hx hb dL_law_173 rfl (lv_at hl 4 rfl) ?_
    have hEl : houE T (xs ((4 * k) + 1)) ≤ 2 := by unfold houE; (repeat' split) <;> omega
    by_cases hE0 : houE T (xs ((4 * k) + 1)) = 0
    · refine lx_S (rest := []) ⟨hx, hb, hml, hown, hts⟩ hP hE hA hD hS hXw hZ hxn (c_L_house l D K dp fs hst _ _ _ _ _ _ _ _ _ _ _ _ _ _ (xs ((4 * k) + 1)) (decide (¬ xs (4 * k + 2) = 0)) hI hsn _ _ _) (vx_cwSW 4 hts gL_law_L_house rfl rfl rfl hn_L_house ⟨Nat.le_of_ble_eq_true rfl, Nat.le_of_ble_eq_true rfl⟩) rfl hl.1 rfl (Nat.le_of_ble_eq_true rfl) dL_law_174 ⟨show _ ≤ 601024 by omega, show _ ≤ 7293034 by omega⟩ (fun H locs hP hD hS => ?_)
      rw [if_pos hE0] at hP hD
      have hP : va_P D vwCl (cW K a b t c (svG g sn) (setT T 0 (tn (xs ((4 * k) + 1))) (bI (decide (¬ xs (4 * k + 2) = 0)))) len qu n cs ln (svN sn) (svV Sv sn T) (oC K o (vp_updL of 0 ((bI (hsT T (tn (xs ((4 * k) + 1))))).toInt64)) :: rfW K r th pn sn ln pm sta ms hs T sv cs pf fa [])) H := hP
      have hD : va_D A (cW K a b t c (svG g sn) (setT T 0 (tn (xs ((4 * k) + 1))) (bI (decide (¬ xs (4 * k + 2) = 0)))) len qu n cs ln (svN sn) (svV Sv sn T) (oC K o (vp_updL of 0 ((bI (hsT T (tn (xs ((4 * k) + 1))))).toInt64)) :: rfW K r th pn sn ln pm sta ms hs T sv cs pf fa [])) := hD
      refine top_i (y := nI 0) (by rw [hE0]) ?_
      refine lv_istore (lv' := [(5, .int (nI 0)), (4, .int (nI (4 * k))), (0, .ref b9), (1, .ref (c 0)), (2, .ref (r 0)), (3, .ref o)]) hx hb dL_law_177 hl (by decide) rfl (fun ls hl => ?_)
      refine lv_aload_n hx hb dL_law_179 rfl (lv_at hl 4 rfl) ?_
      refine lv_aload_n hx hb dL_law_180 rfl (lv_at hl 2 rfl) ?_
      refine lv_iload hx hb dL_law_181 (lv_at hl 1 rfl) ?_
      refine lv_iconst (v := nI 1) hx hb dL_law_183 (by decide) ?_
      refine nv_iadd (x := 4 * k) (y := 1) hx hb dL_law_184 ?_
      refine va_sld hx hb hX hbl hbA hS (pk_in ((4 * k) + 1) L (by omega)) dL_law_185 ?_
      rw [pk_cl ((4 * k) + 1)]
      refine lv_aload_n hx hb dL_law_186 rfl (lv_at hl 2 rfl) ?_
      refine lv_iload hx hb dL_law_187 (lv_at hl 1 rfl) ?_
      refine lv_iconst (v := nI 2) hx hb dL_law_189 (by decide) ?_
      refine nv_iadd (x := 4 * k) (y := 2) hx hb dL_law_190 ?_
      refine va_sld hx hb hX hbl hbA hS (pk_in ((4 * k) + 2) L (by omega)) dL_law_191 ?_
      rw [pk_cl ((4 * k) + 2)]
      refine lv_if_eq (x := xs ((4 * k) + 2)) (tgt := 199) hx hb dL_law_192 (by decide) (fun c_2 => ?_) (fun c_2 => ?_)
      · refine lv_iconst (v := nI 0) hx hb dL_law_199 (by decide) ?_
        refine top_i (y := bI (decide (¬ xs (4 * k + 2) = 0))) ((congrArg bI (decide_eq_false (fun q => q c_1))).symm) ?_
        have hP := hP.perm lw_pm
        have hD := hD.perm lw_pm
        refine wr_V (rest := []) (ci := 4) (q0 := 0) ⟨hx, hb, hml, hown, hts⟩ hP hE hA hD hS (c_X4_house l D K _ _ _ _ _ _ _ _ _ _ _ _ _ _ _ _ (xs ((4 * k) + 1)) (decide (¬ xs (4 * k + 2) = 0)) hI hsn) (cwV 2 hts gL_law_X4_house rfl rfl rfl hd_X4_house ⟨Nat.le_of_ble_eq_true rfl, Nat.le_of_ble_eq_true rfl⟩) rfl rfl rfl rfl hl.1 rfl (Nat.le_of_ble_eq_true rfl) dL_law_200 ⟨show _ ≤ 601024 by omega, show _ ≤ 7293034 by omega⟩ (fun H locs hP hD hS => ?_)
        rw [if_pos hE0] at hP hD
        have hP : va_P D vwCl (rfW K r (nI 0) pn (svN sn) ln pm sta ms hs (setT T 0 (tn (xs ((4 * k) + 1))) (bI (decide (¬ xs (4 * k + 2) = 0)))) (savS sv sn T) cs pf fa (cW K a b t c (svG g sn) (setT T 0 (tn (xs ((4 * k) + 1))) (bI (decide (¬ xs (4 * k + 2) = 0)))) len qu n cs ln (svN sn) (svV Sv sn T) [oC K o (vp_updL of 0 ((bI (hsT T (tn (xs ((4 * k) + 1))))).toInt64))])) H := hP
        have hD : va_D A (rfW K r (nI 0) pn (svN sn) ln pm sta ms hs (setT T 0 (tn (xs ((4 * k) + 1))) (bI (decide (¬ xs (4 * k + 2) = 0)))) (savS sv sn T) cs pf fa (cW K a b t c (svG g sn) (setT T 0 (tn (xs ((4 * k) + 1))) (bI (decide (¬ xs (4 * k + 2) = 0)))) len qu n cs ln (svN sn) (svV Sv sn T) [oC K o (vp_updL of 0 ((bI (hsT T (tn (xs ((4 * k) + 1))))).toInt64))])) := hD
        have hP := hP.perm lw_pm.symm
        have hD := hD.perm lw_pm.symm
        have hP : va_P D vwCl (cW K a b t c (svG g sn) (setT T 0 (tn (xs ((4 * k) + 1))) (bI (decide (¬ xs (4 * k + 2) = 0)))) len qu n cs ln (svN sn) (svV Sv sn T) (oC K o (vp_updL of 0 ((bI (hsT T (tn (xs ((4 * k) + 1))))).toInt64)) :: rfW K r (nI 0) pn (svN sn) ln pm sta ms hs (setT T 0 (tn (xs ((4 * k) + 1))) (bI (decide (¬ xs (4 * k + 2) = 0)))) (savS sv sn T) cs pf fa [])) H := hP
        have hD : va_D A (cW K a b t c (svG g sn) (setT T 0 (tn (xs ((4 * k) + 1))) (bI (decide (¬ xs (4 * k + 2) = 0)))) len qu n cs ln (svN sn) (svV Sv sn T) (oC K o (vp_updL of 0 ((bI (hsT T (tn (xs ((4 * k) + 1))))).toInt64)) :: rfW K r (nI 0) pn (svN sn) ln pm sta ms hs (setT T 0 (tn (xs ((4 * k) + 1))) (bI (decide (¬ xs (4 * k + 2) = 0)))) (savS sv sn T) cs pf fa [])) := hD
        refine top_i (y := bI (hsT T (tn (xs ((4 * k) + 1))))) (if_pos hE0) ?_
        refine lv_istore (lv' := [(6, .int (bI (hsT T (tn (xs ((4 * k) + 1)))))), (5, .int (nI 0)), (4, .int (nI (4 * k))), (0, .ref b9), (1, .ref (c 0)), (2, .ref (r 0)), (3, .ref o)]) hx hb dL_law_203 hl (by decide) rfl (fun ls hl => ?_)
        refine lv_aload_n hx hb dL_law_205 rfl (lv_at hl 5 rfl) ?_
        have hP := hP.perm lw_pm
        have hD := hD.perm lw_pm
        refine wr_V (rest := []) (ci := 4) (q0 := 0) ⟨hx, hb, hml, hown, hts⟩ hP hE hA hD hS (c_X4_thrown l D K _ _ _ _ _ _ _ _ _ _ _ _ _ _ _ _ ) (cwV 0 hts gL_law_X4_thrown rfl rfl rfl hd_X4_thrown ⟨Nat.le_of_ble_eq_true rfl, Nat.le_of_ble_eq_true rfl⟩) rfl rfl rfl rfl hl.1 rfl (Nat.le_of_ble_eq_true rfl) dL_law_206 ⟨show _ ≤ 601024 by omega, show _ ≤ 7293034 by omega⟩ (fun H locs hP hD hS => ?_)
        have hP : va_P D vwCl (rfW K r (nI 0) pn (svN sn) ln pm sta ms hs (setT T 0 (tn (xs ((4 * k) + 1))) (bI (decide (¬ xs (4 * k + 2) = 0)))) (savS sv sn T) cs pf fa (cW K a b t c (svG g sn) (setT T 0 (tn (xs ((4 * k) + 1))) (bI (decide (¬ xs (4 * k + 2) = 0)))) len qu n cs ln (svN sn) (svV Sv sn T) [oC K o (vp_updL of 0 ((bI (hsT T (tn (xs ((4 * k) + 1))))).toInt64))])) H := hP
        have hD : va_D A (rfW K r (nI 0) pn (svN sn) ln pm sta ms hs (setT T 0 (tn (xs ((4 * k) + 1))) (bI (decide (¬ xs (4 * k + 2) = 0)))) (savS sv sn T) cs pf fa (cW K a b t c (svG g sn) (setT T 0 (tn (xs ((4 * k) + 1))) (bI (decide (¬ xs (4 * k + 2) = 0)))) len qu n cs ln (svN sn) (svV Sv sn T) [oC K o (vp_updL of 0 ((bI (hsT T (tn (xs ((4 * k) + 1))))).toInt64))])) := hD
        have hP := hP.perm lw_pm.symm
        have hD := hD.perm lw_pm.symm
        have hP : va_P D vwCl (cW K a b t c (svG g sn) (setT T 0 (tn (xs ((4 * k) + 1))) (bI (decide (¬ xs (4 * k + 2) = 0)))) len qu n cs ln (svN sn) (svV Sv sn T) (oC K o (vp_updL of 0 ((bI (hsT T (tn (xs ((4 * k) + 1))))).toInt64)) :: rfW K r (nI 0) pn (svN sn) ln pm sta ms hs (setT T 0 (tn (xs ((4 * k) + 1))) (bI (decide (¬ xs (4 * k + 2) = 0)))) (savS sv sn T) cs pf fa [])) H := hP
        have hD : va_D A (cW K a b t c (svG g sn) (setT T 0 (tn (xs ((4 * k) + 1))) (bI (decide (¬ xs (4 * k + 2) = 0)))) len qu n cs ln (svN sn) (svV Sv sn T) (oC K o (vp_updL of 0 ((bI (hsT T (tn (xs ((4 * k) + 1))))).toInt64)) :: rfW K r (nI 0) pn (svN sn) ln pm sta ms hs (setT T 0 (tn (xs ((4 * k) + 1))) (bI (decide (¬ xs (4 * k + 2) = 0)))) (savS sv sn T) cs pf fa [])) := hD
        refine lv_iload hx hb dL_law_209 (lv_at hl 1 rfl) ?_
        refine nv_icmp_eq (x := 0) (y := 0) (tgt := 216) hx hb dL_law_211 (by decide) (by decide) (by decide) (fun c_3 => ?_) (fun c_3 => ?_)
        · refine lv_iload hx hb dL_law_216 (lv_at hl 1 rfl) ?_
          refine nv_if_ne (x := 0) (tgt := 233) hx hb dL_law_218 (by decide) (by decide) (fun c_4 => ?_) (fun c_4 => ?_)
          · exact absurd c_4 (by decide)
          have n_c_4 : ¬ 0 < 0 := by omega
          refine lv_aload_n hx hb dL_law_221 rfl (lv_at hl 6 rfl) ?_
          refine lv_iconst (v := nI 0) hx hb dL_law_222 (by decide) ?_
          refine nv_lald hx hb hE hP 91 rfl dL_law_223 ?_
          refine top_l (y := (bI (hsT T (tn (xs ((4 * k) + 1))))).toInt64) rfl ?_
          refine lv_iload hx hb dL_law_224 (lv_at hl 0 rfl) ?_
          refine lv_i2l (v := (bI (hsT T (tn (xs ((4 * k) + 1))))).toInt64) hx hb dL_law_226 rfl ?_
          refine W.lcmp hx hb dL_law_227 ?_
          refine top_i (y := nI 0) (lcmp_rf _) ?_
          refine nv_if_eq (x := 0) (tgt := 233) hx hb dL_law_228 (by decide) (by decide) (fun c_5 => ?_) (fun c_5 => ?_)
          · have n_c_5 : ¬ 0 < 0 := by omega
            refine lv_goto (tgt := 1550) hx hb dL_law_233 (by decide) ?_
            refine W.widen (k := cells + 1) (n := slots + 6) (by omega) (by omega) ?_
            exact kk _ _ _ _ _ _ _ _ _ _ _ _ _ _ _ _ _ _ _ (hLI0.hou hE0) H locs ls hP hD hS (lv_sub hl [2, 3, 4, 5, 6] rfl)
          exact absurd c_5 (by decide)
        exact absurd c_3 (by decide)
      exact absurd c_1 c_2
    · refine lx_S (rest := []) ⟨hx, hb, hml, hown, hts⟩ hP hE hA hD hS hXw hZ hxn (c_L_house l D K dp fs hst _ _ _ _ _ _ _ _ _ _ _ _ _ _ (xs ((4 * k) + 1)) (decide (¬ xs (4 * k + 2) = 0)) hI hsn _ _ _) (vx_cwSW 4 hts gL_law_L_house rfl rfl rfl hn_L_house ⟨Nat.le_of_ble_eq_true rfl, Nat.le_of_ble_eq_true rfl⟩) rfl hl.1 rfl (Nat.le_of_ble_eq_true rfl) dL_law_174 ⟨show _ ≤ 601024 by omega, show _ ≤ 7293034 by omega⟩ (fun H locs hP hD hS => ?_)
      rw [if_neg hE0] at hP hD
      have hP : va_P D vwCl (cW K a b t c g T len qu n cs ln sn Sv (oC K o of :: rfW K r th pn sn ln pm sta ms hs T sv cs pf fa [])) H := hP
      have hD : va_D A (cW K a b t c g T len qu n cs ln sn Sv (oC K o of :: rfW K r th pn sn ln pm sta ms hs T sv cs pf fa [])) := hD
      refine top_i (y := nI (houE T (xs ((4 * k) + 1)))) (rfl) ?_
      refine lv_istore (lv' := [(5, .int (nI (houE T (xs ((4 * k) + 1))))), (4, .int (nI (4 * k))), (0, .ref b9), (1, .ref (c 0)), (2, .ref (r 0)), (3, .ref o)]) hx hb dL_law_177 hl (by decide) rfl (fun ls hl => ?_)
      refine lv_aload_n hx hb dL_law_179 rfl (lv_at hl 4 rfl) ?_
      refine lv_aload_n hx hb dL_law_180 rfl (lv_at hl 2 rfl) ?_
      refine lv_iload hx hb dL_law_181 (lv_at hl 1 rfl) ?_
      refine lv_iconst (v := nI 1) hx hb dL_law_183 (by decide) ?_
      refine nv_iadd (x := 4 * k) (y := 1) hx hb dL_law_184 ?_
      refine va_sld hx hb hX hbl hbA hS (pk_in ((4 * k) + 1) L (by omega)) dL_law_185 ?_
      rw [pk_cl ((4 * k) + 1)]
      refine lv_aload_n hx hb dL_law_186 rfl (lv_at hl 2 rfl) ?_
      refine lv_iload hx hb dL_law_187 (lv_at hl 1 rfl) ?_
      refine lv_iconst (v := nI 2) hx hb dL_law_189 (by decide) ?_
      refine nv_iadd (x := 4 * k) (y := 2) hx hb dL_law_190 ?_
      refine va_sld hx hb hX hbl hbA hS (pk_in ((4 * k) + 2) L (by omega)) dL_law_191 ?_
      rw [pk_cl ((4 * k) + 2)]
      refine lv_if_eq (x := xs ((4 * k) + 2)) (tgt := 199) hx hb dL_law_192 (by decide) (fun c_6 => ?_) (fun c_6 => ?_)
      · refine lv_iconst (v := nI 0) hx hb dL_law_199 (by decide) ?_
        refine top_i (y := bI (decide (¬ xs (4 * k + 2) = 0))) ((congrArg bI (decide_eq_false (fun q => q c_1))).symm) ?_
        have hP := hP.perm lw_pm
        have hD := hD.perm lw_pm
        refine wr_V (rest := []) (ci := 4) (q0 := 0) ⟨hx, hb, hml, hown, hts⟩ hP hE hA hD hS (c_X4_house l D K _ _ _ _ _ _ _ _ _ _ _ _ _ _ _ _ (xs ((4 * k) + 1)) (decide (¬ xs (4 * k + 2) = 0)) hI hsn) (cwV 2 hts gL_law_X4_house rfl rfl rfl hd_X4_house ⟨Nat.le_of_ble_eq_true rfl, Nat.le_of_ble_eq_true rfl⟩) rfl rfl rfl rfl hl.1 rfl (Nat.le_of_ble_eq_true rfl) dL_law_200 ⟨show _ ≤ 601024 by omega, show _ ≤ 7293034 by omega⟩ (fun H locs hP hD hS => ?_)
        rw [if_neg hE0] at hP hD
        have hP : va_P D vwCl (rfW K r (nI (houE T (xs ((4 * k) + 1)))) pn sn ln pm sta ms hs T sv cs pf fa (cW K a b t c g T len qu n cs ln sn Sv [oC K o of])) H := hP
        have hD : va_D A (rfW K r (nI (houE T (xs ((4 * k) + 1)))) pn sn ln pm sta ms hs T sv cs pf fa (cW K a b t c g T len qu n cs ln sn Sv [oC K o of])) := hD
        have hP := hP.perm lw_pm.symm
        have hD := hD.perm lw_pm.symm
        have hP : va_P D vwCl (cW K a b t c g T len qu n cs ln sn Sv (oC K o of :: rfW K r (nI (houE T (xs ((4 * k) + 1)))) pn sn ln pm sta ms hs T sv cs pf fa [])) H := hP
        have hD : va_D A (cW K a b t c g T len qu n cs ln sn Sv (oC K o of :: rfW K r (nI (houE T (xs ((4 * k) + 1)))) pn sn ln pm sta ms hs T sv cs pf fa [])) := hD
        refine top_i (y := 0) (if_neg hE0) ?_
        refine lv_istore (lv' := [(6, .int 0), (5, .int (nI (houE T (xs ((4 * k) + 1))))), (4, .int (nI (4 * k))), (0, .ref b9), (1, .ref (c 0)), (2, .ref (r 0)), (3, .ref o)]) hx hb dL_law_203 hl (by decide) rfl (fun ls hl => ?_)
        refine lv_aload_n hx hb dL_law_205 rfl (lv_at hl 5 rfl) ?_
        have hP := hP.perm lw_pm
        have hD := hD.perm lw_pm
        refine wr_V (rest := []) (ci := 4) (q0 := 0) ⟨hx, hb, hml, hown, hts⟩ hP hE hA hD hS (c_X4_thrown l D K _ _ _ _ _ _ _ _ _ _ _ _ _ _ _ _ ) (cwV 0 hts gL_law_X4_thrown rfl rfl rfl hd_X4_thrown ⟨Nat.le_of_ble_eq_true rfl, Nat.le_of_ble_eq_true rfl⟩) rfl rfl rfl rfl hl.1 rfl (Nat.le_of_ble_eq_true rfl) dL_law_206 ⟨show _ ≤ 601024 by omega, show _ ≤ 7293034 by omega⟩ (fun H locs hP hD hS => ?_)
        have hP : va_P D vwCl (rfW K r (nI (houE T (xs ((4 * k) + 1)))) pn sn ln pm sta ms hs T sv cs pf fa (cW K a b t c g T len qu n cs ln sn Sv [oC K o of])) H := hP
        have hD : va_D A (rfW K r (nI (houE T (xs ((4 * k) + 1)))) pn sn ln pm sta ms hs T sv cs pf fa (cW K a b t c g T len qu n cs ln sn Sv [oC K o of])) := hD
        have hP := hP.perm lw_pm.symm
        have hD := hD.perm lw_pm.symm
        have hP : va_P D vwCl (cW K a b t c g T len qu n cs ln sn Sv (oC K o of :: rfW K r (nI (houE T (xs ((4 * k) + 1)))) pn sn ln pm sta ms hs T sv cs pf fa [])) H := hP
        have hD : va_D A (cW K a b t c g T len qu n cs ln sn Sv (oC K o of :: rfW K r (nI (houE T (xs ((4 * k) + 1)))) pn sn ln pm sta ms hs T sv cs pf fa [])) := hD
        refine lv_iload hx hb dL_law_209 (lv_at hl 1 rfl) ?_
        refine lv_icmp_eq (x := nI (houE T (xs ((4 * k) + 1)))) (y := nI (houE T (xs ((4 * k) + 1)))) (tgt := 216) hx hb dL_law_211 (by decide) (fun c_7 => ?_) (fun c_7 => ?_)
        · refine lv_iload hx hb dL_law_216 (lv_at hl 1 rfl) ?_
          refine nv_if_ne (x := houE T (xs ((4 * k) + 1))) (tgt := 233) hx hb dL_law_218 (by decide) (by omega) (fun c_8 => ?_) (fun c_8 => ?_)
          · have n_c_8 : ¬ houE T (xs ((4 * k) + 1)) = 0 := by omega
            refine lv_goto (tgt := 1550) hx hb dL_law_233 (by decide) ?_
            refine W.widen (k := cells + 1) (n := slots + 6) (by omega) (by omega) ?_
            exact kk _ _ _ _ _ _ _ _ _ _ _ _ _ _ _ _ _ _ _ (hLI0) H locs ls hP hD hS (lv_sub hl [2, 3, 4, 5, 6] rfl)
          exact absurd c_8 hE0
        exact absurd rfl c_7
      exact absurd c_1 c_6
  · refine lv_iconst (v := nI 1) hx hb dL_law_168 (by decide) ?_
    refine top_i (y := bI (decide (¬ xs (4 * k + 2) = 0))) ((congrArg bI (decide_eq_true c_1)).symm) ?_
    refine lv_goto (tgt := 173) hx hb dL_law_169 (by decide) ?_
    refine lv_aload_n hx hb dL_law_173 rfl (lv_at hl 4 rfl) ?_
    have hEl : houE T (xs ((4 * k) + 1)) ≤ 2 := by unfold houE; (repeat' split) <;> omega
    by_cases hE0 : houE T (xs ((4 * k) + 1)) = 0
    · refine lx_S (rest := []) ⟨hx, hb, hml, hown, hts⟩ hP hE hA hD hS hXw hZ hxn (c_L_house l D K dp fs hst _ _ _ _ _ _ _ _ _ _ _ _ _ _ (xs ((4 * k) + 1)) (decide (¬ xs (4 * k + 2) = 0)) hI hsn _ _ _) (vx_cwSW 4 hts gL_law_L_house rfl rfl rfl hn_L_house ⟨Nat.le_of_ble_eq_true rfl, Nat.le_of_ble_eq_true rfl⟩) rfl hl.1 rfl (Nat.le_of_ble_eq_true rfl) dL_law_174 ⟨show _ ≤ 601024 by omega, show _ ≤ 7293034 by omega⟩ (fun H locs hP hD hS => ?_)
      rw [if_pos hE0] at hP hD
      have hP : va_P D vwCl (cW K a b t c (svG g sn) (setT T 0 (tn (xs ((4 * k) + 1))) (bI (decide (¬ xs (4 * k + 2) = 0)))) len qu n cs ln (svN sn) (svV Sv sn T) (oC K o (vp_updL of 0 ((bI (hsT T (tn (xs ((4 * k) + 1))))).toInt64)) :: rfW K r th pn sn ln pm sta ms hs T sv cs pf fa [])) H := hP
      have hD : va_D A (cW K a b t c (svG g sn) (setT T 0 (tn (xs ((4 * k) + 1))) (bI (decide (¬ xs (4 * k + 2) = 0)))) len qu n cs ln (svN sn) (svV Sv sn T) (oC K o (vp_updL of 0 ((bI (hsT T (tn (xs ((4 * k) + 1))))).toInt64)) :: rfW K r th pn sn ln pm sta ms hs T sv cs pf fa [])) := hD
      refine top_i (y := nI 0) (by rw [hE0]) ?_
      refine lv_istore (lv' := [(5, .int (nI 0)), (4, .int (nI (4 * k))), (0, .ref b9), (1, .ref (c 0)), (2, .ref (r 0)), (3, .ref o)]) hx hb dL_law_177 hl (by decide) rfl (fun ls hl => ?_)
      refine lv_aload_n hx hb dL_law_179 rfl (lv_at hl 4 rfl) ?_
      refine lv_aload_n hx hb dL_law_180 rfl (lv_at hl 2 rfl) ?_
      refine lv_iload hx hb dL_law_181 (lv_at hl 1 rfl) ?_
      refine lv_iconst (v := nI 1) hx hb dL_law_183 (by decide) ?_
      refine nv_iadd (x := 4 * k) (y := 1) hx hb dL_law_184 ?_
      refine va_sld hx hb hX hbl hbA hS (pk_in ((4 * k) + 1) L (by omega)) dL_law_185 ?_
      rw [pk_cl ((4 * k) + 1)]
      refine lv_aload_n hx hb dL_law_186 rfl (lv_at hl 2 rfl) ?_
      refine lv_iload hx hb dL_law_187 (lv_at hl 1 rfl) ?_
      refine lv_iconst (v := nI 2) hx hb dL_law_189 (by decide) ?_
      refine nv_iadd (x := 4 * k) (y := 2) hx hb dL_law_190 ?_
      refine va_sld hx hb hX hbl hbA hS (pk_in ((4 * k) + 2) L (by omega)) dL_law_191 ?_
      rw [pk_cl ((4 * k) + 2)]
      refine lv_if_eq (x := xs ((4 * k) + 2)) (tgt := 199) hx hb dL_law_192 (by decide) (fun c_9 => ?_) (fun c_9 => ?_)
      · exact absurd c_9 c_1
      refine lv_iconst (v := nI 1) hx hb dL_law_195 (by decide) ?_
      refine top_i (y := bI (decide (¬ xs (4 * k + 2) = 0))) ((congrArg bI (decide_eq_true c_1)).symm) ?_
      refine lv_goto (tgt := 200) hx hb dL_law_196 (by decide) ?_
      have hP := hP.perm lw_pm
      have hD := hD.perm lw_pm
      refine wr_V (rest := []) (ci := 4) (q0 := 0) ⟨hx, hb, hml, hown, hts⟩ hP hE hA hD hS (c_X4_house l D K _ _ _ _ _ _ _ _ _ _ _ _ _ _ _ _ (xs ((4 * k) + 1)) (decide (¬ xs (4 * k + 2) = 0)) hI hsn) (cwV 2 hts gL_law_X4_house rfl rfl rfl hd_X4_house ⟨Nat.le_of_ble_eq_true rfl, Nat.le_of_ble_eq_true rfl⟩) rfl rfl rfl rfl hl.1 rfl (Nat.le_of_ble_eq_true rfl) dL_law_200 ⟨show _ ≤ 601024 by omega, show _ ≤ 7293034 by omega⟩ (fun H locs hP hD hS => ?_)
      rw [if_pos hE0] at hP hD
      have hP : va_P D vwCl (rfW K r (nI 0) pn (svN sn) ln pm sta ms hs (setT T 0 (tn (xs ((4 * k) + 1))) (bI (decide (¬ xs (4 * k + 2) = 0)))) (savS sv sn T) cs pf fa (cW K a b t c (svG g sn) (setT T 0 (tn (xs ((4 * k) + 1))) (bI (decide (¬ xs (4 * k + 2) = 0)))) len qu n cs ln (svN sn) (svV Sv sn T) [oC K o (vp_updL of 0 ((bI (hsT T (tn (xs ((4 * k) + 1))))).toInt64))])) H := hP
      have hD : va_D A (rfW K r (nI 0) pn (svN sn) ln pm sta ms hs (setT T 0 (tn (xs ((4 * k) + 1))) (bI (decide (¬ xs (4 * k + 2) = 0)))) (savS sv sn T) cs pf fa (cW K a b t c (svG g sn) (setT T 0 (tn (xs ((4 * k) + 1))) (bI (decide (¬ xs (4 * k + 2) = 0)))) len qu n cs ln (svN sn) (svV Sv sn T) [oC K o (vp_updL of 0 ((bI (hsT T (tn (xs ((4 * k) + 1))))).toInt64))])) := hD
      have hP := hP.perm lw_pm.symm
      have hD := hD.perm lw_pm.symm
      have hP : va_P D vwCl (cW K a b t c (svG g sn) (setT T 0 (tn (xs ((4 * k) + 1))) (bI (decide (¬ xs (4 * k + 2) = 0)))) len qu n cs ln (svN sn) (svV Sv sn T) (oC K o (vp_updL of 0 ((bI (hsT T (tn (xs ((4 * k) + 1))))).toInt64)) :: rfW K r (nI 0) pn (svN sn) ln pm sta ms hs (setT T 0 (tn (xs ((4 * k) + 1))) (bI (decide (¬ xs (4 * k + 2) = 0)))) (savS sv sn T) cs pf fa [])) H := hP
      have hD : va_D A (cW K a b t c (svG g sn) (setT T 0 (tn (xs ((4 * k) + 1))) (bI (decide (¬ xs (4 * k + 2) = 0)))) len qu n cs ln (svN sn) (svV Sv sn T) (oC K o (vp_updL of 0 ((bI (hsT T (tn (xs ((4 * k) + 1))))).toInt64)) :: rfW K r (nI 0) pn (svN sn) ln pm sta ms hs (setT T 0 (tn (xs ((4 * k) + 1))) (bI (decide (¬ xs (4 * k + 2) = 0)))) (savS sv sn T) cs pf fa [])) := hD
      refine top_i (y := bI (hsT T (tn (xs ((4 * k) + 1))))) (if_pos hE0) ?_
      refine lv_istore (lv' := [(6, .int (bI (hsT T (tn (xs ((4 * k) + 1)))))), (5, .int (nI 0)), (4, .int (nI (4 * k))), (0, .ref b9), (1, .ref (c 0)), (2, .ref (r 0)), (3, .ref o)]) hx hb dL_law_203 hl (by decide) rfl (fun ls hl => ?_)
      refine lv_aload_n hx hb dL_law_205 rfl (lv_at hl 5 rfl) ?_
      have hP := hP.perm lw_pm
      have hD := hD.perm lw_pm
      refine wr_V (rest := []) (ci := 4) (q0 := 0) ⟨hx, hb, hml, hown, hts⟩ hP hE hA hD hS (c_X4_thrown l D K _ _ _ _ _ _ _ _ _ _ _ _ _ _ _ _ ) (cwV 0 hts gL_law_X4_thrown rfl rfl rfl hd_X4_thrown ⟨Nat.le_of_ble_eq_true rfl, Nat.le_of_ble_eq_true rfl⟩) rfl rfl rfl rfl hl.1 rfl (Nat.le_of_ble_eq_true rfl) dL_law_206 ⟨show _ ≤ 601024 by omega, show _ ≤ 7293034 by omega⟩ (fun H locs hP hD hS => ?_)
      have hP : va_P D vwCl (rfW K r (nI 0) pn (svN sn) ln pm sta ms hs (setT T 0 (tn (xs ((4 * k) + 1))) (bI (decide (¬ xs (4 * k + 2) = 0)))) (savS sv sn T) cs pf fa (cW K a b t c (svG g sn) (setT T 0 (tn (xs ((4 * k) + 1))) (bI (decide (¬ xs (4 * k + 2) = 0)))) len qu n cs ln (svN sn) (svV Sv sn T) [oC K o (vp_updL of 0 ((bI (hsT T (tn (xs ((4 * k) + 1))))).toInt64))])) H := hP
      have hD : va_D A (rfW K r (nI 0) pn (svN sn) ln pm sta ms hs (setT T 0 (tn (xs ((4 * k) + 1))) (bI (decide (¬ xs (4 * k + 2) = 0)))) (savS sv sn T) cs pf fa (cW K a b t c (svG g sn) (setT T 0 (tn (xs ((4 * k) + 1))) (bI (decide (¬ xs (4 * k + 2) = 0)))) len qu n cs ln (svN sn) (svV Sv sn T) [oC K o (vp_updL of 0 ((bI (hsT T (tn (xs ((4 * k) + 1))))).toInt64))])) := hD
      have hP := hP.perm lw_pm.symm
      have hD := hD.perm lw_pm.symm
      have hP : va_P D vwCl (cW K a b t c (svG g sn) (setT T 0 (tn (xs ((4 * k) + 1))) (bI (decide (¬ xs (4 * k + 2) = 0)))) len qu n cs ln (svN sn) (svV Sv sn T) (oC K o (vp_updL of 0 ((bI (hsT T (tn (xs ((4 * k) + 1))))).toInt64)) :: rfW K r (nI 0) pn (svN sn) ln pm sta ms hs (setT T 0 (tn (xs ((4 * k) + 1))) (bI (decide (¬ xs (4 * k + 2) = 0)))) (savS sv sn T) cs pf fa [])) H := hP
      have hD : va_D A (cW K a b t c (svG g sn) (setT T 0 (tn (xs ((4 * k) + 1))) (bI (decide (¬ xs (4 * k + 2) = 0)))) len qu n cs ln (svN sn) (svV Sv sn T) (oC K o (vp_updL of 0 ((bI (hsT T (tn (xs ((4 * k) + 1))))).toInt64)) :: rfW K r (nI 0) pn (svN sn) ln pm sta ms hs (setT T 0 (tn (xs ((4 * k) + 1))) (bI (decide (¬ xs (4 * k + 2) = 0)))) (savS sv sn T) cs pf fa [])) := hD
      refine lv_iload hx hb dL_law_209 (lv_at hl 1 rfl) ?_
      refine nv_icmp_eq (x := 0) (y := 0) (tgt := 216) hx hb dL_law_211 (by decide) (by decide) (by decide) (fun c_10 => ?_) (fun c_10 => ?_)
      · refine lv_iload hx hb dL_law_216 (lv_at hl 1 rfl) ?_
        refine nv_if_ne (x := 0) (tgt := 233) hx hb dL_law_218 (by decide) (by decide) (fun c_11 => ?_) (fun c_11 => ?_)
        · exact absurd c_11 (by decide)
        have n_c_11 : ¬ 0 < 0 := by omega
        refine lv_aload_n hx hb dL_law_221 rfl (lv_at hl 6 rfl) ?_
        refine lv_iconst (v := nI 0) hx hb dL_law_222 (by decide) ?_
        refine nv_lald hx hb hE hP 91 rfl dL_law_223 ?_
        refine top_l (y := (bI (hsT T (tn (xs ((4 * k) + 1))))).toInt64) rfl ?_
        refine lv_iload hx hb dL_law_224 (lv_at hl 0 rfl) ?_
        refine lv_i2l (v := (bI (hsT T (tn (xs ((4 * k) + 1))))).toInt64) hx hb dL_law_226 rfl ?_
        refine W.lcmp hx hb dL_law_227 ?_
        refine top_i (y := nI 0) (lcmp_rf _) ?_
        refine nv_if_eq (x := 0) (tgt := 233) hx hb dL_law_228 (by decide) (by decide) (fun c_12 => ?_) (fun c_12 => ?_)
        · have n_c_12 : ¬ 0 < 0 := by omega
          refine lv_goto (tgt := 1550) hx hb dL_law_233 (by decide) ?_
          refine W.widen (k := cells + 1) (n := slots + 6) (by omega) (by omega) ?_
          exact kk _ _ _ _ _ _ _ _ _ _ _ _ _ _ _ _ _ _ _ (hLI0.hou hE0) H locs ls hP hD hS (lv_sub hl [2, 3, 4, 5, 6] rfl)
        exact absurd c_12 (by decide)
      exact absurd c_10 (by decide)
    · refine lx_S (rest := []) ⟨hx, hb, hml, hown, hts⟩ hP hE hA hD hS hXw hZ hxn (c_L_house l D K dp fs hst _ _ _ _ _ _ _ _ _ _ _ _ _ _ (xs ((4 * k) + 1)) (decide (¬ xs (4 * k + 2) = 0)) hI hsn _ _ _) (vx_cwSW 4 hts gL_law_L_house rfl rfl rfl hn_L_house ⟨Nat.le_of_ble_eq_true rfl, Nat.le_of_ble_eq_true rfl⟩) rfl hl.1 rfl (Nat.le_of_ble_eq_true rfl) dL_law_174 ⟨show _ ≤ 601024 by omega, show _ ≤ 7293034 by omega⟩ (fun H locs hP hD hS => ?_)
      rw [if_neg hE0] at hP hD
      have hP : va_P D vwCl (cW K a b t c g T len qu n cs ln sn Sv (oC K o of :: rfW K r th pn sn ln pm sta ms hs T sv cs pf fa [])) H := hP
      have hD : va_D A (cW K a b t c g T len qu n cs ln sn Sv (oC K o of :: rfW K r th pn sn ln pm sta ms hs T sv cs pf fa [])) := hD
      refine top_i (y := nI (houE T (xs ((4 * k) + 1)))) (rfl) ?_
      refine lv_istore (lv' := [(5, .int (nI (houE T (xs ((4 * k) + 1))))), (4, .int (nI (4 * k))), (0, .ref b9), (1, .ref (c 0)), (2, .ref (r 0)), (3, .ref o)]) hx hb dL_law_177 hl (by decide) rfl (fun ls hl => ?_)
      refine lv_aload_n hx hb dL_law_179 rfl (lv_at hl 4 rfl) ?_
      refine lv_aload_n hx hb dL_law_180 rfl (lv_at hl 2 rfl) ?_
      refine lv_iload hx hb dL_law_181 (lv_at hl 1 rfl) ?_
      refine lv_iconst (v := nI 1) hx hb dL_law_183 (by decide) ?_
      refine nv_iadd (x := 4 * k) (y := 1) hx hb dL_law_184 ?_
      refine va_sld hx hb hX hbl hbA hS (pk_in ((4 * k) + 1) L (by omega)) dL_law_185 ?_
      rw [pk_cl ((4 * k) + 1)]
      refine lv_aload_n hx hb dL_law_186 rfl (lv_at hl 2 rfl) ?_
      refine lv_iload hx hb dL_law_187 (lv_at hl 1 rfl) ?_
      refine lv_iconst (v := nI 2) hx hb dL_law_189 (by decide) ?_
      refine nv_iadd (x := 4 * k) (y := 2) hx hb dL_law_190 ?_
      refine va_sld hx hb hX hbl hbA hS (pk_in ((4 * k) + 2) L (by omega)) dL_law_191 ?_
      rw [pk_cl ((4 * k) + 2)]
      refine lv_if_eq (x := xs ((4 * k) + 2)) (tgt := 199) hx hb dL_law_192 (by decide) (fun c_13 => ?_) (fun c_13 => ?_)
      · exact absurd c_13 c_1
      refine lv_iconst (v := nI 1) hx hb dL_law_195 (by decide) ?_
      refine top_i (y := bI (decide (¬ xs (4 * k + 2) = 0))) ((congrArg bI (decide_eq_true c_1)).symm) ?_
      refine lv_goto (tgt := 200) hx hb dL_law_196 (by decide) ?_
      have hP := hP.perm lw_pm
      have hD := hD.perm lw_pm
      refine wr_V (rest := []) (ci := 4) (q0 := 0) ⟨hx, hb, hml, hown, hts⟩ hP hE hA hD hS (c_X4_house l D K _ _ _ _ _ _ _ _ _ _ _ _ _ _ _ _ (xs ((4 * k) + 1)) (decide (¬ xs (4 * k + 2) = 0)) hI hsn) (cwV 2 hts gL_law_X4_house rfl rfl rfl hd_X4_house ⟨Nat.le_of_ble_eq_true rfl, Nat.le_of_ble_eq_true rfl⟩) rfl rfl rfl rfl hl.1 rfl (Nat.le_of_ble_eq_true rfl) dL_law_200 ⟨show _ ≤ 601024 by omega, show _ ≤ 7293034 by omega⟩ (fun H locs hP hD hS => ?_)
      rw [if_neg hE0] at hP hD
      have hP : va_P D vwCl (rfW K r (nI (houE T (xs ((4 * k) + 1)))) pn sn ln pm sta ms hs T sv cs pf fa (cW K a b t c g T len qu n cs ln sn Sv [oC K o of])) H := hP
      have hD : va_D A (rfW K r (nI (houE T (xs ((4 * k) + 1)))) pn sn ln pm sta ms hs T sv cs pf fa (cW K a b t c g T len qu n cs ln sn Sv [oC K o of])) := hD
      have hP := hP.perm lw_pm.symm
      have hD := hD.perm lw_pm.symm
      have hP : va_P D vwCl (cW K a b t c g T len qu n cs ln sn Sv (oC K o of :: rfW K r (nI (houE T (xs ((4 * k) + 1)))) pn sn ln pm sta ms hs T sv cs pf fa [])) H := hP
      have hD : va_D A (cW K a b t c g T len qu n cs ln sn Sv (oC K o of :: rfW K r (nI (houE T (xs ((4 * k) + 1)))) pn sn ln pm sta ms hs T sv cs pf fa [])) := hD
      refine top_i (y := 0) (if_neg hE0) ?_
      refine lv_istore (lv' := [(6, .int 0), (5, .int (nI (houE T (xs ((4 * k) + 1))))), (4, .int (nI (4 * k))), (0, .ref b9), (1, .ref (c 0)), (2, .ref (r 0)), (3, .ref o)]) hx hb dL_law_203 hl (by decide) rfl (fun ls hl => ?_)
      refine lv_aload_n hx hb dL_law_205 rfl (lv_at hl 5 rfl) ?_
      have hP := hP.perm lw_pm
      have hD := hD.perm lw_pm
      refine wr_V (rest := []) (ci := 4) (q0 := 0) ⟨hx, hb, hml, hown, hts⟩ hP hE hA hD hS (c_X4_thrown l D K _ _ _ _ _ _ _ _ _ _ _ _ _ _ _ _ ) (cwV 0 hts gL_law_X4_thrown rfl rfl rfl hd_X4_thrown ⟨Nat.le_of_ble_eq_true rfl, Nat.le_of_ble_eq_true rfl⟩) rfl rfl rfl rfl hl.1 rfl (Nat.le_of_ble_eq_true rfl) dL_law_206 ⟨show _ ≤ 601024 by omega, show _ ≤ 7293034 by omega⟩ (fun H locs hP hD hS => ?_)
      have hP : va_P D vwCl (rfW K r (nI (houE T (xs ((4 * k) + 1)))) pn sn ln pm sta ms hs T sv cs pf fa (cW K a b t c g T len qu n cs ln sn Sv [oC K o of])) H := hP
      have hD : va_D A (rfW K r (nI (houE T (xs ((4 * k) + 1)))) pn sn ln pm sta ms hs T sv cs pf fa (cW K a b t c g T len qu n cs ln sn Sv [oC K o of])) := hD
      have hP := hP.perm lw_pm.symm
      have hD := hD.perm lw_pm.symm
      have hP : va_P D vwCl (cW K a b t c g T len qu n cs ln sn Sv (oC K o of :: rfW K r (nI (houE T (xs ((4 * k) + 1)))) pn sn ln pm sta ms hs T sv cs pf fa [])) H := hP
      have hD : va_D A (cW K a b t c g T len qu n cs ln sn Sv (oC K o of :: rfW K r (nI (houE T (xs ((4 * k) + 1)))) pn sn ln pm sta ms hs T sv cs pf fa [])) := hD
      refine lv_iload hx hb dL_law_209 (lv_at hl 1 rfl) ?_
      refine lv_icmp_eq (x := nI (houE T (xs ((4 * k) + 1)))) (y := nI (houE T (xs ((4 * k) + 1)))) (tgt := 216) hx hb dL_law_211 (by decide) (fun c_14 => ?_) (fun c_14 => ?_)
      · refine lv_iload hx hb dL_law_216 (lv_at hl 1 rfl) ?_
        refine nv_if_ne (x := houE T (xs ((4 * k) + 1))) (tgt := 233) hx hb dL_law_218 (by decide) (by omega) (fun c_15 => ?_) (fun c_15 => ?_)
        · have n_c_15 : ¬ houE T (xs ((4 * k) + 1)) = 0 := by omega
          refine lv_goto (tgt := 1550) hx hb dL_law_233 (by decide) ?_
          refine W.widen (k := cells + 1) (n := slots + 6) (by omega) (by omega) ?_
          exact kk _ _ _ _ _ _ _ _ _ _ _ _ _ _ _ _ _ _ _ (hLI0) H locs ls hP hD hS (lv_sub hl [2, 3, 4, 5, 6] rfl)
        exact absurd c_15 hE0
      exact absurd rfl c_14
set_option maxHeartbeats 4000000 in
set_option maxRecDepth 100000 in
theorem lc_stop {pr : Program} {l : Launch} {en : Env} {st : State} {md : MethodId} {ar : Array Value} {bl : List Frame} {mt : Method} {co : Code} {D : va_G} {K : Nat → ClassId} {A : Nat → Prop} {Q : State → Prop} {b9 : Nat} {a b t c r : Nat → Nat} {o : Nat} {dp fs L : Nat} {xs : Nat → Int32} (hx : pr.tables.exec = Jvm.exec) (hb : co.code = cL_law) (hml : co.maxLocals = 9) (hts : ∀ w ∈ wsL_law, w.before ar st = true) (hown : st.vm.findClass RL = some md.cls) (hst : l.stackTraces = false) (hE : ev D K st) (hXw : xw st) (hxn : xn st) (hZ : xst dp fs A st st.heap) (hA : ∀ q : Nat, st.heap.size ≤ q → A q) (hX : va_X b9 L xs st st.heap) (hbl : b9 < st.heap.size) (hbA : ¬ A b9) (k : Nat) (hk : 4 * k + 4 ≤ L) (hL : L ≤ 2048) (cells slots : Nat) (hc1 : cells + 1 ≤ 601024) (hc2 : slots + 6 ≤ 7293034) (kk : Nx pr l en st md ar bl mt co D K A Q b9 a b t c r o k (cells + 1) (slots + 6) 1550) : Nx pr l en st md ar bl mt co D K A Q b9 a b t c r o k cells slots 236 := by
  intro T len qu n cs ln sn Sv g th pn pm sta ms hs sv pf fa of hLI H locs ls hP hD hS hl
  have hLI0 := hLI
  obtain ⟨hI, hK, hCB, hsn, hSV, hSI, hSH⟩ := hLI
  refine lv_aload_n hx hb dL_law_236 rfl (lv_at hl 2 rfl) ?_
  refine lv_aload_n hx hb dL_law_237 rfl (lv_at hl 1 rfl) ?_
  refine lv_iload hx hb dL_law_238 (lv_at hl 0 rfl) ?_
  refine lv_iconst (v := nI 1) hx hb dL_law_240 (by decide) ?_
  refine nv_iadd (x := 4 * k) (y := 1) hx hb dL_law_241 ?_
  refine va_sld hx hb hX hbl hbA hS (pk_in ((4 * k) + 1) L (by omega)) dL_law_242 ?_
  rw [pk_cl ((4 * k) + 1)]
  refine lv_aload_n hx hb dL_law_243 rfl (lv_at hl 1 rfl) ?_
  refine lv_iload hx hb dL_law_244 (lv_at hl 0 rfl) ?_
  refine lv_iconst (v := nI 2) hx hb dL_law_246 (by decide) ?_
  refine nv_iadd (x := 4 * k) (y := 2) hx hb dL_law_247 ?_
  refine va_sld hx hb hX hbl hbA hS (pk_in ((4 * k) + 2) L (by omega)) dL_law_248 ?_
  rw [pk_cl ((4 * k) + 2)]
  refine lv_aload_n hx hb dL_law_249 rfl (lv_at hl 4 rfl) ?_
  have hEl : stE T (xs ((4 * k) + 1)) (xs ((4 * k) + 2)) ≤ 2 := by unfold stE; (repeat' split) <;> omega
  by_cases hE0 : stE T (xs ((4 * k) + 1)) (xs ((4 * k) + 2)) = 0
  · refine lx_S (rest := []) ⟨hx, hb, hml, hown, hts⟩ hP hE hA hD hS hXw hZ hxn (c_L_stop l D K dp fs hst _ _ _ _ _ _ _ _ _ _ _ _ _ _ (xs ((4 * k) + 1)) (xs ((4 * k) + 2)) hI hsn _ _ _) (vx_cwSW 4 hts gL_law_L_stop rfl rfl rfl hn_L_stop ⟨Nat.le_of_ble_eq_true rfl, Nat.le_of_ble_eq_true rfl⟩) rfl hl.1 rfl (Nat.le_of_ble_eq_true rfl) dL_law_250 ⟨show _ ≤ 601024 by omega, show _ ≤ 7293034 by omega⟩ (fun H locs hP hD hS => ?_)
    rw [if_pos hE0] at hP hD
    have hP : va_P D vwCl (cW K a b t c (svG g sn) (stpT T ((lowT T none).getD 0) (tn (xs ((4 * k) + 1))) (tn (xs ((4 * k) + 2)))) len qu n cs ln (svN sn) (svV Sv sn T) (oC K o (vp_updL of 0 ((oI (lowT T none)).toInt64)) :: rfW K r th pn sn ln pm sta ms hs T sv cs pf fa [])) H := hP
    have hD : va_D A (cW K a b t c (svG g sn) (stpT T ((lowT T none).getD 0) (tn (xs ((4 * k) + 1))) (tn (xs ((4 * k) + 2)))) len qu n cs ln (svN sn) (svV Sv sn T) (oC K o (vp_updL of 0 ((oI (lowT T none)).toInt64)) :: rfW K r th pn sn ln pm sta ms hs T sv cs pf fa [])) := hD
    refine top_i (y := nI 0) (by rw [hE0]) ?_
    refine lv_istore (lv' := [(5, .int (nI 0)), (4, .int (nI (4 * k))), (0, .ref b9), (1, .ref (c 0)), (2, .ref (r 0)), (3, .ref o)]) hx hb dL_law_253 hl (by decide) rfl (fun ls hl => ?_)
    refine lv_aload_n hx hb dL_law_255 rfl (lv_at hl 4 rfl) ?_
    refine lv_aload_n hx hb dL_law_256 rfl (lv_at hl 2 rfl) ?_
    refine lv_iload hx hb dL_law_257 (lv_at hl 1 rfl) ?_
    refine lv_iconst (v := nI 1) hx hb dL_law_259 (by decide) ?_
    refine nv_iadd (x := 4 * k) (y := 1) hx hb dL_law_260 ?_
    refine va_sld hx hb hX hbl hbA hS (pk_in ((4 * k) + 1) L (by omega)) dL_law_261 ?_
    rw [pk_cl ((4 * k) + 1)]
    refine lv_aload_n hx hb dL_law_262 rfl (lv_at hl 2 rfl) ?_
    refine lv_iload hx hb dL_law_263 (lv_at hl 1 rfl) ?_
    refine lv_iconst (v := nI 2) hx hb dL_law_265 (by decide) ?_
    refine nv_iadd (x := 4 * k) (y := 2) hx hb dL_law_266 ?_
    refine va_sld hx hb hX hbl hbA hS (pk_in ((4 * k) + 2) L (by omega)) dL_law_267 ?_
    rw [pk_cl ((4 * k) + 2)]
    have hP := hP.perm lw_pm
    have hD := hD.perm lw_pm
    refine wr_V (rest := []) (ci := 4) (q0 := 0) ⟨hx, hb, hml, hown, hts⟩ hP hE hA hD hS (c_X4_stop l D K _ _ _ _ _ _ _ _ _ _ _ _ _ _ _ _ (xs ((4 * k) + 1)) (xs ((4 * k) + 2)) hI hsn) (cwV 2 hts gL_law_X4_stop rfl rfl rfl hd_X4_stop ⟨Nat.le_of_ble_eq_true rfl, Nat.le_of_ble_eq_true rfl⟩) rfl rfl rfl rfl hl.1 rfl (Nat.le_of_ble_eq_true rfl) dL_law_268 ⟨show _ ≤ 601024 by omega, show _ ≤ 7293034 by omega⟩ (fun H locs hP hD hS => ?_)
    rw [if_pos hE0] at hP hD
    have hP : va_P D vwCl (rfW K r (nI 0) pn (svN sn) ln pm sta ms hs (stpT T ((lowT T none).getD 0) (tn (xs ((4 * k) + 1))) (tn (xs ((4 * k) + 2)))) (savS sv sn T) cs pf fa (cW K a b t c (svG g sn) (stpT T ((lowT T none).getD 0) (tn (xs ((4 * k) + 1))) (tn (xs ((4 * k) + 2)))) len qu n cs ln (svN sn) (svV Sv sn T) [oC K o (vp_updL of 0 ((oI (lowT T none)).toInt64))])) H := hP
    have hD : va_D A (rfW K r (nI 0) pn (svN sn) ln pm sta ms hs (stpT T ((lowT T none).getD 0) (tn (xs ((4 * k) + 1))) (tn (xs ((4 * k) + 2)))) (savS sv sn T) cs pf fa (cW K a b t c (svG g sn) (stpT T ((lowT T none).getD 0) (tn (xs ((4 * k) + 1))) (tn (xs ((4 * k) + 2)))) len qu n cs ln (svN sn) (svV Sv sn T) [oC K o (vp_updL of 0 ((oI (lowT T none)).toInt64))])) := hD
    have hP := hP.perm lw_pm.symm
    have hD := hD.perm lw_pm.symm
    have hP : va_P D vwCl (cW K a b t c (svG g sn) (stpT T ((lowT T none).getD 0) (tn (xs ((4 * k) + 1))) (tn (xs ((4 * k) + 2)))) len qu n cs ln (svN sn) (svV Sv sn T) (oC K o (vp_updL of 0 ((oI (lowT T none)).toInt64)) :: rfW K r (nI 0) pn (svN sn) ln pm sta ms hs (stpT T ((lowT T none).getD 0) (tn (xs ((4 * k) + 1))) (tn (xs ((4 * k) + 2)))) (savS sv sn T) cs pf fa [])) H := hP
    have hD : va_D A (cW K a b t c (svG g sn) (stpT T ((lowT T none).getD 0) (tn (xs ((4 * k) + 1))) (tn (xs ((4 * k) + 2)))) len qu n cs ln (svN sn) (svV Sv sn T) (oC K o (vp_updL of 0 ((oI (lowT T none)).toInt64)) :: rfW K r (nI 0) pn (svN sn) ln pm sta ms hs (stpT T ((lowT T none).getD 0) (tn (xs ((4 * k) + 1))) (tn (xs ((4 * k) + 2)))) (savS sv sn T) cs pf fa [])) := hD
    refine top_i (y := oI (lowT T none)) (if_pos hE0) ?_
    refine lv_istore (lv' := [(6, .int (oI (lowT T none))), (5, .int (nI 0)), (4, .int (nI (4 * k))), (0, .ref b9), (1, .ref (c 0)), (2, .ref (r 0)), (3, .ref o)]) hx hb dL_law_271 hl (by decide) rfl (fun ls hl => ?_)
    refine lv_aload_n hx hb dL_law_273 rfl (lv_at hl 5 rfl) ?_
    have hP := hP.perm lw_pm
    have hD := hD.perm lw_pm
    refine wr_V (rest := []) (ci := 4) (q0 := 0) ⟨hx, hb, hml, hown, hts⟩ hP hE hA hD hS (c_X4_thrown l D K _ _ _ _ _ _ _ _ _ _ _ _ _ _ _ _ ) (cwV 0 hts gL_law_X4_thrown rfl rfl rfl hd_X4_thrown ⟨Nat.le_of_ble_eq_true rfl, Nat.le_of_ble_eq_true rfl⟩) rfl rfl rfl rfl hl.1 rfl (Nat.le_of_ble_eq_true rfl) dL_law_274 ⟨show _ ≤ 601024 by omega, show _ ≤ 7293034 by omega⟩ (fun H locs hP hD hS => ?_)
    have hP : va_P D vwCl (rfW K r (nI 0) pn (svN sn) ln pm sta ms hs (stpT T ((lowT T none).getD 0) (tn (xs ((4 * k) + 1))) (tn (xs ((4 * k) + 2)))) (savS sv sn T) cs pf fa (cW K a b t c (svG g sn) (stpT T ((lowT T none).getD 0) (tn (xs ((4 * k) + 1))) (tn (xs ((4 * k) + 2)))) len qu n cs ln (svN sn) (svV Sv sn T) [oC K o (vp_updL of 0 ((oI (lowT T none)).toInt64))])) H := hP
    have hD : va_D A (rfW K r (nI 0) pn (svN sn) ln pm sta ms hs (stpT T ((lowT T none).getD 0) (tn (xs ((4 * k) + 1))) (tn (xs ((4 * k) + 2)))) (savS sv sn T) cs pf fa (cW K a b t c (svG g sn) (stpT T ((lowT T none).getD 0) (tn (xs ((4 * k) + 1))) (tn (xs ((4 * k) + 2)))) len qu n cs ln (svN sn) (svV Sv sn T) [oC K o (vp_updL of 0 ((oI (lowT T none)).toInt64))])) := hD
    have hP := hP.perm lw_pm.symm
    have hD := hD.perm lw_pm.symm
    have hP : va_P D vwCl (cW K a b t c (svG g sn) (stpT T ((lowT T none).getD 0) (tn (xs ((4 * k) + 1))) (tn (xs ((4 * k) + 2)))) len qu n cs ln (svN sn) (svV Sv sn T) (oC K o (vp_updL of 0 ((oI (lowT T none)).toInt64)) :: rfW K r (nI 0) pn (svN sn) ln pm sta ms hs (stpT T ((lowT T none).getD 0) (tn (xs ((4 * k) + 1))) (tn (xs ((4 * k) + 2)))) (savS sv sn T) cs pf fa [])) H := hP
    have hD : va_D A (cW K a b t c (svG g sn) (stpT T ((lowT T none).getD 0) (tn (xs ((4 * k) + 1))) (tn (xs ((4 * k) + 2)))) len qu n cs ln (svN sn) (svV Sv sn T) (oC K o (vp_updL of 0 ((oI (lowT T none)).toInt64)) :: rfW K r (nI 0) pn (svN sn) ln pm sta ms hs (stpT T ((lowT T none).getD 0) (tn (xs ((4 * k) + 1))) (tn (xs ((4 * k) + 2)))) (savS sv sn T) cs pf fa [])) := hD
    refine lv_iload hx hb dL_law_277 (lv_at hl 1 rfl) ?_
    refine nv_icmp_eq (x := 0) (y := 0) (tgt := 284) hx hb dL_law_279 (by decide) (by decide) (by decide) (fun c_1 => ?_) (fun c_1 => ?_)
    · refine lv_iload hx hb dL_law_284 (lv_at hl 1 rfl) ?_
      refine nv_if_ne (x := 0) (tgt := 301) hx hb dL_law_286 (by decide) (by decide) (fun c_2 => ?_) (fun c_2 => ?_)
      · exact absurd c_2 (by decide)
      have n_c_2 : ¬ 0 < 0 := by omega
      refine lv_aload_n hx hb dL_law_289 rfl (lv_at hl 6 rfl) ?_
      refine lv_iconst (v := nI 0) hx hb dL_law_290 (by decide) ?_
      refine nv_lald hx hb hE hP 91 rfl dL_law_291 ?_
      refine top_l (y := (oI (lowT T none)).toInt64) rfl ?_
      refine lv_iload hx hb dL_law_292 (lv_at hl 0 rfl) ?_
      refine lv_i2l (v := (oI (lowT T none)).toInt64) hx hb dL_law_294 rfl ?_
      refine W.lcmp hx hb dL_law_295 ?_
      refine top_i (y := nI 0) (lcmp_rf _) ?_
      refine nv_if_eq (x := 0) (tgt := 301) hx hb dL_law_296 (by decide) (by decide) (fun c_3 => ?_) (fun c_3 => ?_)
      · have n_c_3 : ¬ 0 < 0 := by omega
        refine lv_goto (tgt := 1550) hx hb dL_law_301 (by decide) ?_
        refine W.widen (k := cells + 1) (n := slots + 6) (by omega) (by omega) ?_
        exact kk _ _ _ _ _ _ _ _ _ _ _ _ _ _ _ _ _ _ _ (hLI0.stp hE0) H locs ls hP hD hS (lv_sub hl [2, 3, 4, 5, 6] rfl)
      exact absurd c_3 (by decide)
    exact absurd c_1 (by decide)
  · refine lx_S (rest := []) ⟨hx, hb, hml, hown, hts⟩ hP hE hA hD hS hXw hZ hxn (c_L_stop l D K dp fs hst _ _ _ _ _ _ _ _ _ _ _ _ _ _ (xs ((4 * k) + 1)) (xs ((4 * k) + 2)) hI hsn _ _ _) (vx_cwSW 4 hts gL_law_L_stop rfl rfl rfl hn_L_stop ⟨Nat.le_of_ble_eq_true rfl, Nat.le_of_ble_eq_true rfl⟩) rfl hl.1 rfl (Nat.le_of_ble_eq_true rfl) dL_law_250 ⟨show _ ≤ 601024 by omega, show _ ≤ 7293034 by omega⟩ (fun H locs hP hD hS => ?_)
    rw [if_neg hE0] at hP hD
    have hP : va_P D vwCl (cW K a b t c g T len qu n cs ln sn Sv (oC K o of :: rfW K r th pn sn ln pm sta ms hs T sv cs pf fa [])) H := hP
    have hD : va_D A (cW K a b t c g T len qu n cs ln sn Sv (oC K o of :: rfW K r th pn sn ln pm sta ms hs T sv cs pf fa [])) := hD
    refine top_i (y := nI (stE T (xs ((4 * k) + 1)) (xs ((4 * k) + 2)))) (rfl) ?_
    refine lv_istore (lv' := [(5, .int (nI (stE T (xs ((4 * k) + 1)) (xs ((4 * k) + 2))))), (4, .int (nI (4 * k))), (0, .ref b9), (1, .ref (c 0)), (2, .ref (r 0)), (3, .ref o)]) hx hb dL_law_253 hl (by decide) rfl (fun ls hl => ?_)
    refine lv_aload_n hx hb dL_law_255 rfl (lv_at hl 4 rfl) ?_
    refine lv_aload_n hx hb dL_law_256 rfl (lv_at hl 2 rfl) ?_
    refine lv_iload hx hb dL_law_257 (lv_at hl 1 rfl) ?_
    refine lv_iconst (v := nI 1) hx hb dL_law_259 (by decide) ?_
    refine nv_iadd (x := 4 * k) (y := 1) hx hb dL_law_260 ?_
    refine va_sld hx hb hX hbl hbA hS (pk_in ((4 * k) + 1) L (by omega)) dL_law_261 ?_
    rw [pk_cl ((4 * k) + 1)]
    refine lv_aload_n hx hb dL_law_262 rfl (lv_at hl 2 rfl) ?_
    refine lv_iload hx hb dL_law_263 (lv_at hl 1 rfl) ?_
    refine lv_iconst (v := nI 2) hx hb dL_law_265 (by decide) ?_
    refine nv_iadd (x := 4 * k) (y := 2) hx hb dL_law_266 ?_
    refine va_sld hx hb hX hbl hbA hS (pk_in ((4 * k) + 2) L (by omega)) dL_law_267 ?_
    rw [pk_cl ((4 * k) + 2)]
    have hP := hP.perm lw_pm
    have hD := hD.perm lw_pm
    refine wr_V (rest := []) (ci := 4) (q0 := 0) ⟨hx, hb, hml, hown, hts⟩ hP hE hA hD hS (c_X4_stop l D K _ _ _ _ _ _ _ _ _ _ _ _ _ _ _ _ (xs ((4 * k) + 1)) (xs ((4 * k) + 2)) hI hsn) (cwV 2 hts gL_law_X4_stop rfl rfl rfl hd_X4_stop ⟨Nat.le_of_ble_eq_true rfl, Nat.le_of_ble_eq_true rfl⟩) rfl rfl rfl rfl hl.1 rfl (Nat.le_of_ble_eq_true rfl) dL_law_268 ⟨show _ ≤ 601024 by omega, show _ ≤ 7293034 by omega⟩ (fun H locs hP hD hS => ?_)
    rw [if_neg hE0] at hP hD
    have hP : va_P D vwCl (rfW K r (nI (stE T (xs ((4 * k) + 1)) (xs ((4 * k) + 2)))) pn sn ln pm sta ms hs T sv cs pf fa (cW K a b t c g T len qu n cs ln sn Sv [oC K o of])) H := hP
    have hD : va_D A (rfW K r (nI (stE T (xs ((4 * k) + 1)) (xs ((4 * k) + 2)))) pn sn ln pm sta ms hs T sv cs pf fa (cW K a b t c g T len qu n cs ln sn Sv [oC K o of])) := hD
    have hP := hP.perm lw_pm.symm
    have hD := hD.perm lw_pm.symm
    have hP : va_P D vwCl (cW K a b t c g T len qu n cs ln sn Sv (oC K o of :: rfW K r (nI (stE T (xs ((4 * k) + 1)) (xs ((4 * k) + 2)))) pn sn ln pm sta ms hs T sv cs pf fa [])) H := hP
    have hD : va_D A (cW K a b t c g T len qu n cs ln sn Sv (oC K o of :: rfW K r (nI (stE T (xs ((4 * k) + 1)) (xs ((4 * k) + 2)))) pn sn ln pm sta ms hs T sv cs pf fa [])) := hD
    refine top_i (y := 0) (if_neg hE0) ?_
    refine lv_istore (lv' := [(6, .int 0), (5, .int (nI (stE T (xs ((4 * k) + 1)) (xs ((4 * k) + 2))))), (4, .int (nI (4 * k))), (0, .ref b9), (1, .ref (c 0)), (2, .ref (r 0)), (3, .ref o)]) hx hb dL_law_271 hl (by decide) rfl (fun ls hl => ?_)
    refine lv_aload_n hx hb dL_law_273 rfl (lv_at hl 5 rfl) ?_
    have hP := hP.perm lw_pm
    have hD := hD.perm lw_pm
    refine wr_V (rest := []) (ci := 4) (q0 := 0) ⟨hx, hb, hml, hown, hts⟩ hP hE hA hD hS (c_X4_thrown l D K _ _ _ _ _ _ _ _ _ _ _ _ _ _ _ _ ) (cwV 0 hts gL_law_X4_thrown rfl rfl rfl hd_X4_thrown ⟨Nat.le_of_ble_eq_true rfl, Nat.le_of_ble_eq_true rfl⟩) rfl rfl rfl rfl hl.1 rfl (Nat.le_of_ble_eq_true rfl) dL_law_274 ⟨show _ ≤ 601024 by omega, show _ ≤ 7293034 by omega⟩ (fun H locs hP hD hS => ?_)
    have hP : va_P D vwCl (rfW K r (nI (stE T (xs ((4 * k) + 1)) (xs ((4 * k) + 2)))) pn sn ln pm sta ms hs T sv cs pf fa (cW K a b t c g T len qu n cs ln sn Sv [oC K o of])) H := hP
    have hD : va_D A (rfW K r (nI (stE T (xs ((4 * k) + 1)) (xs ((4 * k) + 2)))) pn sn ln pm sta ms hs T sv cs pf fa (cW K a b t c g T len qu n cs ln sn Sv [oC K o of])) := hD
    have hP := hP.perm lw_pm.symm
    have hD := hD.perm lw_pm.symm
    have hP : va_P D vwCl (cW K a b t c g T len qu n cs ln sn Sv (oC K o of :: rfW K r (nI (stE T (xs ((4 * k) + 1)) (xs ((4 * k) + 2)))) pn sn ln pm sta ms hs T sv cs pf fa [])) H := hP
    have hD : va_D A (cW K a b t c g T len qu n cs ln sn Sv (oC K o of :: rfW K r (nI (stE T (xs ((4 * k) + 1)) (xs ((4 * k) + 2)))) pn sn ln pm sta ms hs T sv cs pf fa [])) := hD
    refine lv_iload hx hb dL_law_277 (lv_at hl 1 rfl) ?_
    refine lv_icmp_eq (x := nI (stE T (xs ((4 * k) + 1)) (xs ((4 * k) + 2)))) (y := nI (stE T (xs ((4 * k) + 1)) (xs ((4 * k) + 2)))) (tgt := 284) hx hb dL_law_279 (by decide) (fun c_4 => ?_) (fun c_4 => ?_)
    · refine lv_iload hx hb dL_law_284 (lv_at hl 1 rfl) ?_
      refine nv_if_ne (x := stE T (xs ((4 * k) + 1)) (xs ((4 * k) + 2))) (tgt := 301) hx hb dL_law_286 (by decide) (by omega) (fun c_5 => ?_) (fun c_5 => ?_)
      · have n_c_5 : ¬ stE T (xs ((4 * k) + 1)) (xs ((4 * k) + 2)) = 0 := by omega
        refine lv_goto (tgt := 1550) hx hb dL_law_301 (by decide) ?_
        refine W.widen (k := cells + 1) (n := slots + 6) (by omega) (by omega) ?_
        exact kk _ _ _ _ _ _ _ _ _ _ _ _ _ _ _ _ _ _ _ (hLI0) H locs ls hP hD hS (lv_sub hl [2, 3, 4, 5, 6] rfl)
      exact absurd c_5 hE0
    exact absurd rfl c_4
set_option maxHeartbeats 4000000 in
set_option maxRecDepth 100000 in
theorem lc_drop {pr : Program} {l : Launch} {en : Env} {st : State} {md : MethodId} {ar : Array Value} {bl : List Frame} {mt : Method} {co : Code} {D : va_G} {K : Nat → ClassId} {A : Nat → Prop} {Q : State → Prop} {b9 : Nat} {a b t c r : Nat → Nat} {o : Nat} {dp fs L : Nat} {xs : Nat → Int32} (hx : pr.tables.exec = Jvm.exec) (hb : co.code = cL_law) (hml : co.maxLocals = 9) (hts : ∀ w ∈ wsL_law, w.before ar st = true) (hown : st.vm.findClass RL = some md.cls) (hst : l.stackTraces = false) (hE : ev D K st) (hXw : xw st) (hxn : xn st) (hZ : xst dp fs A st st.heap) (hA : ∀ q : Nat, st.heap.size ≤ q → A q) (hX : va_X b9 L xs st st.heap) (hbl : b9 < st.heap.size) (hbA : ¬ A b9) (k : Nat) (hk : 4 * k + 4 ≤ L) (hL : L ≤ 2048) (cells slots : Nat) (hc1 : cells + 1 ≤ 601024) (hc2 : slots + 6 ≤ 7293034) (kk : Nx pr l en st md ar bl mt co D K A Q b9 a b t c r o k (cells + 1) (slots + 6) 1550) : Nx pr l en st md ar bl mt co D K A Q b9 a b t c r o k cells slots 304 := by
  intro T len qu n cs ln sn Sv g th pn pm sta ms hs sv pf fa of hLI H locs ls hP hD hS hl
  have hLI0 := hLI
  obtain ⟨hI, hK, hCB, hsn, hSV, hSI, hSH⟩ := hLI
  refine lv_aload_n hx hb dL_law_304 rfl (lv_at hl 2 rfl) ?_
  refine lv_aload_n hx hb dL_law_305 rfl (lv_at hl 1 rfl) ?_
  refine lv_iload hx hb dL_law_306 (lv_at hl 0 rfl) ?_
  refine lv_iconst (v := nI 1) hx hb dL_law_308 (by decide) ?_
  refine nv_iadd (x := 4 * k) (y := 1) hx hb dL_law_309 ?_
  refine va_sld hx hb hX hbl hbA hS (pk_in ((4 * k) + 1) L (by omega)) dL_law_310 ?_
  rw [pk_cl ((4 * k) + 1)]
  refine lv_aload_n hx hb dL_law_311 rfl (lv_at hl 4 rfl) ?_
  have hEl : drE T (xs ((4 * k) + 1)) ≤ 1 := by unfold drE; (repeat' split) <;> omega
  by_cases hE0 : drE T (xs ((4 * k) + 1)) = 0
  · refine lx_S (rest := []) ⟨hx, hb, hml, hown, hts⟩ hP hE hA hD hS hXw hZ hxn (c_L_drop l D K dp fs hst _ _ _ _ _ _ _ _ _ _ _ _ _ _ (xs ((4 * k) + 1)) hI hsn _ _ _) (vx_cwSW 3 hts gL_law_L_drop rfl rfl rfl hn_L_drop ⟨Nat.le_of_ble_eq_true rfl, Nat.le_of_ble_eq_true rfl⟩) rfl hl.1 rfl (Nat.le_of_ble_eq_true rfl) dL_law_312 ⟨show _ ≤ 601024 by omega, show _ ≤ 7293034 by omega⟩ (fun H locs hP hD hS => ?_)
    rw [if_pos hE0] at hP hD
    have hP : va_P D vwCl (cW K a b t c (svG g sn) (drpT T (tn (xs ((4 * k) + 1)))) len qu n cs ln (svN sn) (svV Sv sn T) (oC K o (vp_updL of 0 ((oI (sqT T (tn (xs ((4 * k) + 1))))).toInt64)) :: rfW K r th pn sn ln pm sta ms hs T sv cs pf fa [])) H := hP
    have hD : va_D A (cW K a b t c (svG g sn) (drpT T (tn (xs ((4 * k) + 1)))) len qu n cs ln (svN sn) (svV Sv sn T) (oC K o (vp_updL of 0 ((oI (sqT T (tn (xs ((4 * k) + 1))))).toInt64)) :: rfW K r th pn sn ln pm sta ms hs T sv cs pf fa [])) := hD
    refine top_i (y := nI 0) (by rw [hE0]) ?_
    refine lv_istore (lv' := [(5, .int (nI 0)), (4, .int (nI (4 * k))), (0, .ref b9), (1, .ref (c 0)), (2, .ref (r 0)), (3, .ref o)]) hx hb dL_law_315 hl (by decide) rfl (fun ls hl => ?_)
    refine lv_aload_n hx hb dL_law_317 rfl (lv_at hl 4 rfl) ?_
    refine lv_aload_n hx hb dL_law_318 rfl (lv_at hl 2 rfl) ?_
    refine lv_iload hx hb dL_law_319 (lv_at hl 1 rfl) ?_
    refine lv_iconst (v := nI 1) hx hb dL_law_321 (by decide) ?_
    refine nv_iadd (x := 4 * k) (y := 1) hx hb dL_law_322 ?_
    refine va_sld hx hb hX hbl hbA hS (pk_in ((4 * k) + 1) L (by omega)) dL_law_323 ?_
    rw [pk_cl ((4 * k) + 1)]
    have hP := hP.perm lw_pm
    have hD := hD.perm lw_pm
    refine wr_V (rest := []) (ci := 4) (q0 := 0) ⟨hx, hb, hml, hown, hts⟩ hP hE hA hD hS (c_X4_drop l D K _ _ _ _ _ _ _ _ _ _ _ _ _ _ _ _ (xs ((4 * k) + 1)) hI hsn) (cwV 1 hts gL_law_X4_drop rfl rfl rfl hd_X4_drop ⟨Nat.le_of_ble_eq_true rfl, Nat.le_of_ble_eq_true rfl⟩) rfl rfl rfl rfl hl.1 rfl (Nat.le_of_ble_eq_true rfl) dL_law_324 ⟨show _ ≤ 601024 by omega, show _ ≤ 7293034 by omega⟩ (fun H locs hP hD hS => ?_)
    rw [if_pos hE0] at hP hD
    have hP : va_P D vwCl (rfW K r (nI 0) pn (svN sn) ln pm sta ms hs (drpT T (tn (xs ((4 * k) + 1)))) (savS sv sn T) cs pf fa (cW K a b t c (svG g sn) (drpT T (tn (xs ((4 * k) + 1)))) len qu n cs ln (svN sn) (svV Sv sn T) [oC K o (vp_updL of 0 ((oI (sqT T (tn (xs ((4 * k) + 1))))).toInt64))])) H := hP
    have hD : va_D A (rfW K r (nI 0) pn (svN sn) ln pm sta ms hs (drpT T (tn (xs ((4 * k) + 1)))) (savS sv sn T) cs pf fa (cW K a b t c (svG g sn) (drpT T (tn (xs ((4 * k) + 1)))) len qu n cs ln (svN sn) (svV Sv sn T) [oC K o (vp_updL of 0 ((oI (sqT T (tn (xs ((4 * k) + 1))))).toInt64))])) := hD
    have hP := hP.perm lw_pm.symm
    have hD := hD.perm lw_pm.symm
    have hP : va_P D vwCl (cW K a b t c (svG g sn) (drpT T (tn (xs ((4 * k) + 1)))) len qu n cs ln (svN sn) (svV Sv sn T) (oC K o (vp_updL of 0 ((oI (sqT T (tn (xs ((4 * k) + 1))))).toInt64)) :: rfW K r (nI 0) pn (svN sn) ln pm sta ms hs (drpT T (tn (xs ((4 * k) + 1)))) (savS sv sn T) cs pf fa [])) H := hP
    have hD : va_D A (cW K a b t c (svG g sn) (drpT T (tn (xs ((4 * k) + 1)))) len qu n cs ln (svN sn) (svV Sv sn T) (oC K o (vp_updL of 0 ((oI (sqT T (tn (xs ((4 * k) + 1))))).toInt64)) :: rfW K r (nI 0) pn (svN sn) ln pm sta ms hs (drpT T (tn (xs ((4 * k) + 1)))) (savS sv sn T) cs pf fa [])) := hD
    refine top_i (y := oI (sqT T (tn (xs ((4 * k) + 1))))) (if_pos hE0) ?_
    refine lv_istore (lv' := [(6, .int (oI (sqT T (tn (xs ((4 * k) + 1)))))), (5, .int (nI 0)), (4, .int (nI (4 * k))), (0, .ref b9), (1, .ref (c 0)), (2, .ref (r 0)), (3, .ref o)]) hx hb dL_law_327 hl (by decide) rfl (fun ls hl => ?_)
    refine lv_aload_n hx hb dL_law_329 rfl (lv_at hl 5 rfl) ?_
    have hP := hP.perm lw_pm
    have hD := hD.perm lw_pm
    refine wr_V (rest := []) (ci := 4) (q0 := 0) ⟨hx, hb, hml, hown, hts⟩ hP hE hA hD hS (c_X4_thrown l D K _ _ _ _ _ _ _ _ _ _ _ _ _ _ _ _ ) (cwV 0 hts gL_law_X4_thrown rfl rfl rfl hd_X4_thrown ⟨Nat.le_of_ble_eq_true rfl, Nat.le_of_ble_eq_true rfl⟩) rfl rfl rfl rfl hl.1 rfl (Nat.le_of_ble_eq_true rfl) dL_law_330 ⟨show _ ≤ 601024 by omega, show _ ≤ 7293034 by omega⟩ (fun H locs hP hD hS => ?_)
    have hP : va_P D vwCl (rfW K r (nI 0) pn (svN sn) ln pm sta ms hs (drpT T (tn (xs ((4 * k) + 1)))) (savS sv sn T) cs pf fa (cW K a b t c (svG g sn) (drpT T (tn (xs ((4 * k) + 1)))) len qu n cs ln (svN sn) (svV Sv sn T) [oC K o (vp_updL of 0 ((oI (sqT T (tn (xs ((4 * k) + 1))))).toInt64))])) H := hP
    have hD : va_D A (rfW K r (nI 0) pn (svN sn) ln pm sta ms hs (drpT T (tn (xs ((4 * k) + 1)))) (savS sv sn T) cs pf fa (cW K a b t c (svG g sn) (drpT T (tn (xs ((4 * k) + 1)))) len qu n cs ln (svN sn) (svV Sv sn T) [oC K o (vp_updL of 0 ((oI (sqT T (tn (xs ((4 * k) + 1))))).toInt64))])) := hD
    have hP := hP.perm lw_pm.symm
    have hD := hD.perm lw_pm.symm
    have hP : va_P D vwCl (cW K a b t c (svG g sn) (drpT T (tn (xs ((4 * k) + 1)))) len qu n cs ln (svN sn) (svV Sv sn T) (oC K o (vp_updL of 0 ((oI (sqT T (tn (xs ((4 * k) + 1))))).toInt64)) :: rfW K r (nI 0) pn (svN sn) ln pm sta ms hs (drpT T (tn (xs ((4 * k) + 1)))) (savS sv sn T) cs pf fa [])) H := hP
    have hD : va_D A (cW K a b t c (svG g sn) (drpT T (tn (xs ((4 * k) + 1)))) len qu n cs ln (svN sn) (svV Sv sn T) (oC K o (vp_updL of 0 ((oI (sqT T (tn (xs ((4 * k) + 1))))).toInt64)) :: rfW K r (nI 0) pn (svN sn) ln pm sta ms hs (drpT T (tn (xs ((4 * k) + 1)))) (savS sv sn T) cs pf fa [])) := hD
    refine lv_iload hx hb dL_law_333 (lv_at hl 1 rfl) ?_
    refine nv_icmp_eq (x := 0) (y := 0) (tgt := 340) hx hb dL_law_335 (by decide) (by decide) (by decide) (fun c_1 => ?_) (fun c_1 => ?_)
    · refine lv_iload hx hb dL_law_340 (lv_at hl 1 rfl) ?_
      refine nv_if_ne (x := 0) (tgt := 357) hx hb dL_law_342 (by decide) (by decide) (fun c_2 => ?_) (fun c_2 => ?_)
      · exact absurd c_2 (by decide)
      have n_c_2 : ¬ 0 < 0 := by omega
      refine lv_aload_n hx hb dL_law_345 rfl (lv_at hl 6 rfl) ?_
      refine lv_iconst (v := nI 0) hx hb dL_law_346 (by decide) ?_
      refine nv_lald hx hb hE hP 91 rfl dL_law_347 ?_
      refine top_l (y := (oI (sqT T (tn (xs ((4 * k) + 1))))).toInt64) rfl ?_
      refine lv_iload hx hb dL_law_348 (lv_at hl 0 rfl) ?_
      refine lv_i2l (v := (oI (sqT T (tn (xs ((4 * k) + 1))))).toInt64) hx hb dL_law_350 rfl ?_
      refine W.lcmp hx hb dL_law_351 ?_
      refine top_i (y := nI 0) (lcmp_rf _) ?_
      refine nv_if_eq (x := 0) (tgt := 357) hx hb dL_law_352 (by decide) (by decide) (fun c_3 => ?_) (fun c_3 => ?_)
      · have n_c_3 : ¬ 0 < 0 := by omega
        refine lv_goto (tgt := 1550) hx hb dL_law_357 (by decide) ?_
        refine W.widen (k := cells + 1) (n := slots + 6) (by omega) (by omega) ?_
        exact kk _ _ _ _ _ _ _ _ _ _ _ _ _ _ _ _ _ _ _ (hLI0.drp) H locs ls hP hD hS (lv_sub hl [2, 3, 4, 5, 6] rfl)
      exact absurd c_3 (by decide)
    exact absurd c_1 (by decide)
  · refine lx_S (rest := []) ⟨hx, hb, hml, hown, hts⟩ hP hE hA hD hS hXw hZ hxn (c_L_drop l D K dp fs hst _ _ _ _ _ _ _ _ _ _ _ _ _ _ (xs ((4 * k) + 1)) hI hsn _ _ _) (vx_cwSW 3 hts gL_law_L_drop rfl rfl rfl hn_L_drop ⟨Nat.le_of_ble_eq_true rfl, Nat.le_of_ble_eq_true rfl⟩) rfl hl.1 rfl (Nat.le_of_ble_eq_true rfl) dL_law_312 ⟨show _ ≤ 601024 by omega, show _ ≤ 7293034 by omega⟩ (fun H locs hP hD hS => ?_)
    rw [if_neg hE0] at hP hD
    have hP : va_P D vwCl (cW K a b t c g T len qu n cs ln sn Sv (oC K o of :: rfW K r th pn sn ln pm sta ms hs T sv cs pf fa [])) H := hP
    have hD : va_D A (cW K a b t c g T len qu n cs ln sn Sv (oC K o of :: rfW K r th pn sn ln pm sta ms hs T sv cs pf fa [])) := hD
    refine top_i (y := nI (drE T (xs ((4 * k) + 1)))) (rfl) ?_
    refine lv_istore (lv' := [(5, .int (nI (drE T (xs ((4 * k) + 1))))), (4, .int (nI (4 * k))), (0, .ref b9), (1, .ref (c 0)), (2, .ref (r 0)), (3, .ref o)]) hx hb dL_law_315 hl (by decide) rfl (fun ls hl => ?_)
    refine lv_aload_n hx hb dL_law_317 rfl (lv_at hl 4 rfl) ?_
    refine lv_aload_n hx hb dL_law_318 rfl (lv_at hl 2 rfl) ?_
    refine lv_iload hx hb dL_law_319 (lv_at hl 1 rfl) ?_
    refine lv_iconst (v := nI 1) hx hb dL_law_321 (by decide) ?_
    refine nv_iadd (x := 4 * k) (y := 1) hx hb dL_law_322 ?_
    refine va_sld hx hb hX hbl hbA hS (pk_in ((4 * k) + 1) L (by omega)) dL_law_323 ?_
    rw [pk_cl ((4 * k) + 1)]
    have hP := hP.perm lw_pm
    have hD := hD.perm lw_pm
    refine wr_V (rest := []) (ci := 4) (q0 := 0) ⟨hx, hb, hml, hown, hts⟩ hP hE hA hD hS (c_X4_drop l D K _ _ _ _ _ _ _ _ _ _ _ _ _ _ _ _ (xs ((4 * k) + 1)) hI hsn) (cwV 1 hts gL_law_X4_drop rfl rfl rfl hd_X4_drop ⟨Nat.le_of_ble_eq_true rfl, Nat.le_of_ble_eq_true rfl⟩) rfl rfl rfl rfl hl.1 rfl (Nat.le_of_ble_eq_true rfl) dL_law_324 ⟨show _ ≤ 601024 by omega, show _ ≤ 7293034 by omega⟩ (fun H locs hP hD hS => ?_)
    rw [if_neg hE0] at hP hD
    have hP : va_P D vwCl (rfW K r (nI (drE T (xs ((4 * k) + 1)))) pn sn ln pm sta ms hs T sv cs pf fa (cW K a b t c g T len qu n cs ln sn Sv [oC K o of])) H := hP
    have hD : va_D A (rfW K r (nI (drE T (xs ((4 * k) + 1)))) pn sn ln pm sta ms hs T sv cs pf fa (cW K a b t c g T len qu n cs ln sn Sv [oC K o of])) := hD
    have hP := hP.perm lw_pm.symm
    have hD := hD.perm lw_pm.symm
    have hP : va_P D vwCl (cW K a b t c g T len qu n cs ln sn Sv (oC K o of :: rfW K r (nI (drE T (xs ((4 * k) + 1)))) pn sn ln pm sta ms hs T sv cs pf fa [])) H := hP
    have hD : va_D A (cW K a b t c g T len qu n cs ln sn Sv (oC K o of :: rfW K r (nI (drE T (xs ((4 * k) + 1)))) pn sn ln pm sta ms hs T sv cs pf fa [])) := hD
    refine top_i (y := 0) (if_neg hE0) ?_
    refine lv_istore (lv' := [(6, .int 0), (5, .int (nI (drE T (xs ((4 * k) + 1))))), (4, .int (nI (4 * k))), (0, .ref b9), (1, .ref (c 0)), (2, .ref (r 0)), (3, .ref o)]) hx hb dL_law_327 hl (by decide) rfl (fun ls hl => ?_)
    refine lv_aload_n hx hb dL_law_329 rfl (lv_at hl 5 rfl) ?_
    have hP := hP.perm lw_pm
    have hD := hD.perm lw_pm
    refine wr_V (rest := []) (ci := 4) (q0 := 0) ⟨hx, hb, hml, hown, hts⟩ hP hE hA hD hS (c_X4_thrown l D K _ _ _ _ _ _ _ _ _ _ _ _ _ _ _ _ ) (cwV 0 hts gL_law_X4_thrown rfl rfl rfl hd_X4_thrown ⟨Nat.le_of_ble_eq_true rfl, Nat.le_of_ble_eq_true rfl⟩) rfl rfl rfl rfl hl.1 rfl (Nat.le_of_ble_eq_true rfl) dL_law_330 ⟨show _ ≤ 601024 by omega, show _ ≤ 7293034 by omega⟩ (fun H locs hP hD hS => ?_)
    have hP : va_P D vwCl (rfW K r (nI (drE T (xs ((4 * k) + 1)))) pn sn ln pm sta ms hs T sv cs pf fa (cW K a b t c g T len qu n cs ln sn Sv [oC K o of])) H := hP
    have hD : va_D A (rfW K r (nI (drE T (xs ((4 * k) + 1)))) pn sn ln pm sta ms hs T sv cs pf fa (cW K a b t c g T len qu n cs ln sn Sv [oC K o of])) := hD
    have hP := hP.perm lw_pm.symm
    have hD := hD.perm lw_pm.symm
    have hP : va_P D vwCl (cW K a b t c g T len qu n cs ln sn Sv (oC K o of :: rfW K r (nI (drE T (xs ((4 * k) + 1)))) pn sn ln pm sta ms hs T sv cs pf fa [])) H := hP
    have hD : va_D A (cW K a b t c g T len qu n cs ln sn Sv (oC K o of :: rfW K r (nI (drE T (xs ((4 * k) + 1)))) pn sn ln pm sta ms hs T sv cs pf fa [])) := hD
    refine lv_iload hx hb dL_law_333 (lv_at hl 1 rfl) ?_
    refine lv_icmp_eq (x := nI (drE T (xs ((4 * k) + 1)))) (y := nI (drE T (xs ((4 * k) + 1)))) (tgt := 340) hx hb dL_law_335 (by decide) (fun c_4 => ?_) (fun c_4 => ?_)
    · refine lv_iload hx hb dL_law_340 (lv_at hl 1 rfl) ?_
      refine nv_if_ne (x := drE T (xs ((4 * k) + 1))) (tgt := 357) hx hb dL_law_342 (by decide) (by omega) (fun c_5 => ?_) (fun c_5 => ?_)
      · have n_c_5 : ¬ drE T (xs ((4 * k) + 1)) = 0 := by omega
        refine lv_goto (tgt := 1550) hx hb dL_law_357 (by decide) ?_
        refine W.widen (k := cells + 1) (n := slots + 6) (by omega) (by omega) ?_
        exact kk _ _ _ _ _ _ _ _ _ _ _ _ _ _ _ _ _ _ _ (hLI0) H locs ls hP hD hS (lv_sub hl [2, 3, 4, 5, 6] rfl)
      exact absurd c_5 hE0
    exact absurd rfl c_4
set_option maxHeartbeats 4000000 in
set_option maxRecDepth 100000 in
theorem lc_lay {pr : Program} {l : Launch} {en : Env} {st : State} {md : MethodId} {ar : Array Value} {bl : List Frame} {mt : Method} {co : Code} {D : va_G} {K : Nat → ClassId} {A : Nat → Prop} {Q : State → Prop} {b9 : Nat} {a b t c r : Nat → Nat} {o : Nat} {dp fs L : Nat} {xs : Nat → Int32} (hx : pr.tables.exec = Jvm.exec) (hb : co.code = cL_law) (hml : co.maxLocals = 9) (hts : ∀ w ∈ wsL_law, w.before ar st = true) (hown : st.vm.findClass RL = some md.cls) (hst : l.stackTraces = false) (hE : ev D K st) (hXw : xw st) (hxn : xn st) (hZ : xst dp fs A st st.heap) (hA : ∀ q : Nat, st.heap.size ≤ q → A q) (hX : va_X b9 L xs st st.heap) (hbl : b9 < st.heap.size) (hbA : ¬ A b9) (k : Nat) (hk : 4 * k + 4 ≤ L) (hL : L ≤ 2048) (cells slots : Nat) (hc1 : cells + 1 ≤ 601024) (hc2 : slots + 6 ≤ 7293034) (kk : Nx pr l en st md ar bl mt co D K A Q b9 a b t c r o k (cells + 1) (slots + 6) 1550) : Nx pr l en st md ar bl mt co D K A Q b9 a b t c r o k cells slots 360 := by
  intro T len qu n cs ln sn Sv g th pn pm sta ms hs sv pf fa of hLI H locs ls hP hD hS hl
  have hLI0 := hLI
  obtain ⟨hI, hK, hCB, hsn, hSV, hSI, hSH⟩ := hLI
  refine lv_aload_n hx hb dL_law_360 rfl (lv_at hl 2 rfl) ?_
  refine lv_aload_n hx hb dL_law_361 rfl (lv_at hl 1 rfl) ?_
  refine lv_iload hx hb dL_law_362 (lv_at hl 0 rfl) ?_
  refine lv_iconst (v := nI 1) hx hb dL_law_364 (by decide) ?_
  refine nv_iadd (x := 4 * k) (y := 1) hx hb dL_law_365 ?_
  refine va_sld hx hb hX hbl hbA hS (pk_in ((4 * k) + 1) L (by omega)) dL_law_366 ?_
  rw [pk_cl ((4 * k) + 1)]
  refine lv_aload_n hx hb dL_law_367 rfl (lv_at hl 1 rfl) ?_
  refine lv_iload hx hb dL_law_368 (lv_at hl 0 rfl) ?_
  refine lv_iconst (v := nI 2) hx hb dL_law_370 (by decide) ?_
  refine nv_iadd (x := 4 * k) (y := 2) hx hb dL_law_371 ?_
  refine va_sld hx hb hX hbl hbA hS (pk_in ((4 * k) + 2) L (by omega)) dL_law_372 ?_
  rw [pk_cl ((4 * k) + 2)]
  refine lv_aload_n hx hb dL_law_373 rfl (lv_at hl 1 rfl) ?_
  refine lv_iload hx hb dL_law_374 (lv_at hl 0 rfl) ?_
  refine lv_iconst (v := nI 3) hx hb dL_law_376 (by decide) ?_
  refine nv_iadd (x := 4 * k) (y := 3) hx hb dL_law_377 ?_
  refine va_sld hx hb hX hbl hbA hS (pk_in ((4 * k) + 3) L (by omega)) dL_law_378 ?_
  rw [pk_cl ((4 * k) + 3)]
  refine lv_aload_n hx hb dL_law_379 rfl (lv_at hl 4 rfl) ?_
  have hEl : laE T (xs ((4 * k) + 1)) (xs ((4 * k) + 2)) (xs ((4 * k) + 3)) ≤ 3 := by unfold laE; (repeat' split) <;> omega
  by_cases hE0 : laE T (xs ((4 * k) + 1)) (xs ((4 * k) + 2)) (xs ((4 * k) + 3)) = 0
  · refine lx_S (rest := []) ⟨hx, hb, hml, hown, hts⟩ hP hE hA hD hS hXw hZ hxn (c_L_lay l D K dp fs hst _ _ _ _ _ _ _ _ _ _ _ _ _ _ (xs ((4 * k) + 1)) (xs ((4 * k) + 2)) (xs ((4 * k) + 3)) hI hsn _ _ _) (vx_cwSW 5 hts gL_law_L_lay rfl rfl rfl hn_L_lay ⟨Nat.le_of_ble_eq_true rfl, Nat.le_of_ble_eq_true rfl⟩) rfl hl.1 rfl (Nat.le_of_ble_eq_true rfl) dL_law_380 ⟨show _ ≤ 601024 by omega, show _ ≤ 7293034 by omega⟩ (fun H locs hP hD hS => ?_)
    rw [if_pos hE0] at hP hD
    have hP : va_P D vwCl (cW K a b t c (svG g sn) (layT T (tn (xs ((4 * k) + 1))) (toT (hdT T (tn (xs ((4 * k) + 1)))) (tn (xs ((4 * k) + 3)))) (tn (xs ((4 * k) + 3)))) len qu n cs ln (svN sn) (svV Sv sn T) (oC K o (vp_updL of 0 ((nI (tollT T (toT (hdT T (tn (xs ((4 * k) + 1)))) (tn (xs ((4 * k) + 3)))))).toInt64)) :: rfW K r th pn sn ln pm sta ms hs T sv cs pf fa [])) H := hP
    have hD : va_D A (cW K a b t c (svG g sn) (layT T (tn (xs ((4 * k) + 1))) (toT (hdT T (tn (xs ((4 * k) + 1)))) (tn (xs ((4 * k) + 3)))) (tn (xs ((4 * k) + 3)))) len qu n cs ln (svN sn) (svV Sv sn T) (oC K o (vp_updL of 0 ((nI (tollT T (toT (hdT T (tn (xs ((4 * k) + 1)))) (tn (xs ((4 * k) + 3)))))).toInt64)) :: rfW K r th pn sn ln pm sta ms hs T sv cs pf fa [])) := hD
    refine top_i (y := nI 0) (by rw [hE0]) ?_
    refine lv_istore (lv' := [(5, .int (nI 0)), (4, .int (nI (4 * k))), (0, .ref b9), (1, .ref (c 0)), (2, .ref (r 0)), (3, .ref o)]) hx hb dL_law_383 hl (by decide) rfl (fun ls hl => ?_)
    refine lv_aload_n hx hb dL_law_385 rfl (lv_at hl 4 rfl) ?_
    refine lv_aload_n hx hb dL_law_386 rfl (lv_at hl 2 rfl) ?_
    refine lv_iload hx hb dL_law_387 (lv_at hl 1 rfl) ?_
    refine lv_iconst (v := nI 1) hx hb dL_law_389 (by decide) ?_
    refine nv_iadd (x := 4 * k) (y := 1) hx hb dL_law_390 ?_
    refine va_sld hx hb hX hbl hbA hS (pk_in ((4 * k) + 1) L (by omega)) dL_law_391 ?_
    rw [pk_cl ((4 * k) + 1)]
    refine lv_aload_n hx hb dL_law_392 rfl (lv_at hl 2 rfl) ?_
    refine lv_iload hx hb dL_law_393 (lv_at hl 1 rfl) ?_
    refine lv_iconst (v := nI 2) hx hb dL_law_395 (by decide) ?_
    refine nv_iadd (x := 4 * k) (y := 2) hx hb dL_law_396 ?_
    refine va_sld hx hb hX hbl hbA hS (pk_in ((4 * k) + 2) L (by omega)) dL_law_397 ?_
    rw [pk_cl ((4 * k) + 2)]
    refine lv_aload_n hx hb dL_law_398 rfl (lv_at hl 2 rfl) ?_
    refine lv_iload hx hb dL_law_399 (lv_at hl 1 rfl) ?_
    refine lv_iconst (v := nI 3) hx hb dL_law_401 (by decide) ?_
    refine nv_iadd (x := 4 * k) (y := 3) hx hb dL_law_402 ?_
    refine va_sld hx hb hX hbl hbA hS (pk_in ((4 * k) + 3) L (by omega)) dL_law_403 ?_
    rw [pk_cl ((4 * k) + 3)]
    have hP := hP.perm lw_pm
    have hD := hD.perm lw_pm
    refine wr_V (rest := []) (ci := 4) (q0 := 0) ⟨hx, hb, hml, hown, hts⟩ hP hE hA hD hS (c_X4_lay l D K _ _ _ _ _ _ _ _ _ _ _ _ _ _ _ _ (xs ((4 * k) + 1)) (xs ((4 * k) + 2)) (xs ((4 * k) + 3)) hI hsn) (cwV 3 hts gL_law_X4_lay rfl rfl rfl hd_X4_lay ⟨Nat.le_of_ble_eq_true rfl, Nat.le_of_ble_eq_true rfl⟩) rfl rfl rfl rfl hl.1 rfl (Nat.le_of_ble_eq_true rfl) dL_law_404 ⟨show _ ≤ 601024 by omega, show _ ≤ 7293034 by omega⟩ (fun H locs hP hD hS => ?_)
    rw [if_pos hE0] at hP hD
    have hP : va_P D vwCl (rfW K r (nI 0) pn (svN sn) ln pm sta ms hs (layT T (tn (xs ((4 * k) + 1))) (toT (hdT T (tn (xs ((4 * k) + 1)))) (tn (xs ((4 * k) + 3)))) (tn (xs ((4 * k) + 3)))) (savS sv sn T) cs pf fa (cW K a b t c (svG g sn) (layT T (tn (xs ((4 * k) + 1))) (toT (hdT T (tn (xs ((4 * k) + 1)))) (tn (xs ((4 * k) + 3)))) (tn (xs ((4 * k) + 3)))) len qu n cs ln (svN sn) (svV Sv sn T) [oC K o (vp_updL of 0 ((nI (tollT T (toT (hdT T (tn (xs ((4 * k) + 1)))) (tn (xs ((4 * k) + 3)))))).toInt64))])) H := hP
    have hD : va_D A (rfW K r (nI 0) pn (svN sn) ln pm sta ms hs (layT T (tn (xs ((4 * k) + 1))) (toT (hdT T (tn (xs ((4 * k) + 1)))) (tn (xs ((4 * k) + 3)))) (tn (xs ((4 * k) + 3)))) (savS sv sn T) cs pf fa (cW K a b t c (svG g sn) (layT T (tn (xs ((4 * k) + 1))) (toT (hdT T (tn (xs ((4 * k) + 1)))) (tn (xs ((4 * k) + 3)))) (tn (xs ((4 * k) + 3)))) len qu n cs ln (svN sn) (svV Sv sn T) [oC K o (vp_updL of 0 ((nI (tollT T (toT (hdT T (tn (xs ((4 * k) + 1)))) (tn (xs ((4 * k) + 3)))))).toInt64))])) := hD
    have hP := hP.perm lw_pm.symm
    have hD := hD.perm lw_pm.symm
    have hP : va_P D vwCl (cW K a b t c (svG g sn) (layT T (tn (xs ((4 * k) + 1))) (toT (hdT T (tn (xs ((4 * k) + 1)))) (tn (xs ((4 * k) + 3)))) (tn (xs ((4 * k) + 3)))) len qu n cs ln (svN sn) (svV Sv sn T) (oC K o (vp_updL of 0 ((nI (tollT T (toT (hdT T (tn (xs ((4 * k) + 1)))) (tn (xs ((4 * k) + 3)))))).toInt64)) :: rfW K r (nI 0) pn (svN sn) ln pm sta ms hs (layT T (tn (xs ((4 * k) + 1))) (toT (hdT T (tn (xs ((4 * k) + 1)))) (tn (xs ((4 * k) + 3)))) (tn (xs ((4 * k) + 3)))) (savS sv sn T) cs pf fa [])) H := hP
    have hD : va_D A (cW K a b t c (svG g sn) (layT T (tn (xs ((4 * k) + 1))) (toT (hdT T (tn (xs ((4 * k) + 1)))) (tn (xs ((4 * k) + 3)))) (tn (xs ((4 * k) + 3)))) len qu n cs ln (svN sn) (svV Sv sn T) (oC K o (vp_updL of 0 ((nI (tollT T (toT (hdT T (tn (xs ((4 * k) + 1)))) (tn (xs ((4 * k) + 3)))))).toInt64)) :: rfW K r (nI 0) pn (svN sn) ln pm sta ms hs (layT T (tn (xs ((4 * k) + 1))) (toT (hdT T (tn (xs ((4 * k) + 1)))) (tn (xs ((4 * k) + 3)))) (tn (xs ((4 * k) + 3)))) (savS sv sn T) cs pf fa [])) := hD
    refine top_i (y := nI (tollT T (toT (hdT T (tn (xs ((4 * k) + 1)))) (tn (xs ((4 * k) + 3)))))) (if_pos hE0) ?_
    refine lv_istore (lv' := [(6, .int (nI (tollT T (toT (hdT T (tn (xs ((4 * k) + 1)))) (tn (xs ((4 * k) + 3))))))), (5, .int (nI 0)), (4, .int (nI (4 * k))), (0, .ref b9), (1, .ref (c 0)), (2, .ref (r 0)), (3, .ref o)]) hx hb dL_law_407 hl (by decide) rfl (fun ls hl => ?_)
    refine lv_aload_n hx hb dL_law_409 rfl (lv_at hl 5 rfl) ?_
    have hP := hP.perm lw_pm
    have hD := hD.perm lw_pm
    refine wr_V (rest := []) (ci := 4) (q0 := 0) ⟨hx, hb, hml, hown, hts⟩ hP hE hA hD hS (c_X4_thrown l D K _ _ _ _ _ _ _ _ _ _ _ _ _ _ _ _ ) (cwV 0 hts gL_law_X4_thrown rfl rfl rfl hd_X4_thrown ⟨Nat.le_of_ble_eq_true rfl, Nat.le_of_ble_eq_true rfl⟩) rfl rfl rfl rfl hl.1 rfl (Nat.le_of_ble_eq_true rfl) dL_law_410 ⟨show _ ≤ 601024 by omega, show _ ≤ 7293034 by omega⟩ (fun H locs hP hD hS => ?_)
    have hP : va_P D vwCl (rfW K r (nI 0) pn (svN sn) ln pm sta ms hs (layT T (tn (xs ((4 * k) + 1))) (toT (hdT T (tn (xs ((4 * k) + 1)))) (tn (xs ((4 * k) + 3)))) (tn (xs ((4 * k) + 3)))) (savS sv sn T) cs pf fa (cW K a b t c (svG g sn) (layT T (tn (xs ((4 * k) + 1))) (toT (hdT T (tn (xs ((4 * k) + 1)))) (tn (xs ((4 * k) + 3)))) (tn (xs ((4 * k) + 3)))) len qu n cs ln (svN sn) (svV Sv sn T) [oC K o (vp_updL of 0 ((nI (tollT T (toT (hdT T (tn (xs ((4 * k) + 1)))) (tn (xs ((4 * k) + 3)))))).toInt64))])) H := hP
    have hD : va_D A (rfW K r (nI 0) pn (svN sn) ln pm sta ms hs (layT T (tn (xs ((4 * k) + 1))) (toT (hdT T (tn (xs ((4 * k) + 1)))) (tn (xs ((4 * k) + 3)))) (tn (xs ((4 * k) + 3)))) (savS sv sn T) cs pf fa (cW K a b t c (svG g sn) (layT T (tn (xs ((4 * k) + 1))) (toT (hdT T (tn (xs ((4 * k) + 1)))) (tn (xs ((4 * k) + 3)))) (tn (xs ((4 * k) + 3)))) len qu n cs ln (svN sn) (svV Sv sn T) [oC K o (vp_updL of 0 ((nI (tollT T (toT (hdT T (tn (xs ((4 * k) + 1)))) (tn (xs ((4 * k) + 3)))))).toInt64))])) := hD
    have hP := hP.perm lw_pm.symm
    have hD := hD.perm lw_pm.symm
    have hP : va_P D vwCl (cW K a b t c (svG g sn) (layT T (tn (xs ((4 * k) + 1))) (toT (hdT T (tn (xs ((4 * k) + 1)))) (tn (xs ((4 * k) + 3)))) (tn (xs ((4 * k) + 3)))) len qu n cs ln (svN sn) (svV Sv sn T) (oC K o (vp_updL of 0 ((nI (tollT T (toT (hdT T (tn (xs ((4 * k) + 1)))) (tn (xs ((4 * k) + 3)))))).toInt64)) :: rfW K r (nI 0) pn (svN sn) ln pm sta ms hs (layT T (tn (xs ((4 * k) + 1))) (toT (hdT T (tn (xs ((4 * k) + 1)))) (tn (xs ((4 * k) + 3)))) (tn (xs ((4 * k) + 3)))) (savS sv sn T) cs pf fa [])) H := hP
    have hD : va_D A (cW K a b t c (svG g sn) (layT T (tn (xs ((4 * k) + 1))) (toT (hdT T (tn (xs ((4 * k) + 1)))) (tn (xs ((4 * k) + 3)))) (tn (xs ((4 * k) + 3)))) len qu n cs ln (svN sn) (svV Sv sn T) (oC K o (vp_updL of 0 ((nI (tollT T (toT (hdT T (tn (xs ((4 * k) + 1)))) (tn (xs ((4 * k) + 3)))))).toInt64)) :: rfW K r (nI 0) pn (svN sn) ln pm sta ms hs (layT T (tn (xs ((4 * k) + 1))) (toT (hdT T (tn (xs ((4 * k) + 1)))) (tn (xs ((4 * k) + 3)))) (tn (xs ((4 * k) + 3)))) (savS sv sn T) cs pf fa [])) := hD
    refine lv_iload hx hb dL_law_413 (lv_at hl 1 rfl) ?_
    refine nv_icmp_eq (x := 0) (y := 0) (tgt := 420) hx hb dL_law_415 (by decide) (by decide) (by decide) (fun c_1 => ?_) (fun c_1 => ?_)
    · refine lv_iload hx hb dL_law_420 (lv_at hl 1 rfl) ?_
      refine nv_if_ne (x := 0) (tgt := 437) hx hb dL_law_422 (by decide) (by decide) (fun c_2 => ?_) (fun c_2 => ?_)
      · exact absurd c_2 (by decide)
      have n_c_2 : ¬ 0 < 0 := by omega
      refine lv_aload_n hx hb dL_law_425 rfl (lv_at hl 6 rfl) ?_
      refine lv_iconst (v := nI 0) hx hb dL_law_426 (by decide) ?_
      refine nv_lald hx hb hE hP 91 rfl dL_law_427 ?_
      refine top_l (y := (nI (tollT T (toT (hdT T (tn (xs ((4 * k) + 1)))) (tn (xs ((4 * k) + 3)))))).toInt64) rfl ?_
      refine lv_iload hx hb dL_law_428 (lv_at hl 0 rfl) ?_
      refine lv_i2l (v := (nI (tollT T (toT (hdT T (tn (xs ((4 * k) + 1)))) (tn (xs ((4 * k) + 3)))))).toInt64) hx hb dL_law_430 rfl ?_
      refine W.lcmp hx hb dL_law_431 ?_
      refine top_i (y := nI 0) (lcmp_rf _) ?_
      refine nv_if_eq (x := 0) (tgt := 437) hx hb dL_law_432 (by decide) (by decide) (fun c_3 => ?_) (fun c_3 => ?_)
      · have n_c_3 : ¬ 0 < 0 := by omega
        refine lv_goto (tgt := 1550) hx hb dL_law_437 (by decide) ?_
        refine W.widen (k := cells + 1) (n := slots + 6) (by omega) (by omega) ?_
        exact kk _ _ _ _ _ _ _ _ _ _ _ _ _ _ _ _ _ _ _ (hLI0.lay hE0) H locs ls hP hD hS (lv_sub hl [2, 3, 4, 5, 6] rfl)
      exact absurd c_3 (by decide)
    exact absurd c_1 (by decide)
  · refine lx_S (rest := []) ⟨hx, hb, hml, hown, hts⟩ hP hE hA hD hS hXw hZ hxn (c_L_lay l D K dp fs hst _ _ _ _ _ _ _ _ _ _ _ _ _ _ (xs ((4 * k) + 1)) (xs ((4 * k) + 2)) (xs ((4 * k) + 3)) hI hsn _ _ _) (vx_cwSW 5 hts gL_law_L_lay rfl rfl rfl hn_L_lay ⟨Nat.le_of_ble_eq_true rfl, Nat.le_of_ble_eq_true rfl⟩) rfl hl.1 rfl (Nat.le_of_ble_eq_true rfl) dL_law_380 ⟨show _ ≤ 601024 by omega, show _ ≤ 7293034 by omega⟩ (fun H locs hP hD hS => ?_)
    rw [if_neg hE0] at hP hD
    have hP : va_P D vwCl (cW K a b t c g T len qu n cs ln sn Sv (oC K o of :: rfW K r th pn sn ln pm sta ms hs T sv cs pf fa [])) H := hP
    have hD : va_D A (cW K a b t c g T len qu n cs ln sn Sv (oC K o of :: rfW K r th pn sn ln pm sta ms hs T sv cs pf fa [])) := hD
    refine top_i (y := nI (laE T (xs ((4 * k) + 1)) (xs ((4 * k) + 2)) (xs ((4 * k) + 3)))) (rfl) ?_
    refine lv_istore (lv' := [(5, .int (nI (laE T (xs ((4 * k) + 1)) (xs ((4 * k) + 2)) (xs ((4 * k) + 3))))), (4, .int (nI (4 * k))), (0, .ref b9), (1, .ref (c 0)), (2, .ref (r 0)), (3, .ref o)]) hx hb dL_law_383 hl (by decide) rfl (fun ls hl => ?_)
    refine lv_aload_n hx hb dL_law_385 rfl (lv_at hl 4 rfl) ?_
    refine lv_aload_n hx hb dL_law_386 rfl (lv_at hl 2 rfl) ?_
    refine lv_iload hx hb dL_law_387 (lv_at hl 1 rfl) ?_
    refine lv_iconst (v := nI 1) hx hb dL_law_389 (by decide) ?_
    refine nv_iadd (x := 4 * k) (y := 1) hx hb dL_law_390 ?_
    refine va_sld hx hb hX hbl hbA hS (pk_in ((4 * k) + 1) L (by omega)) dL_law_391 ?_
    rw [pk_cl ((4 * k) + 1)]
    refine lv_aload_n hx hb dL_law_392 rfl (lv_at hl 2 rfl) ?_
    refine lv_iload hx hb dL_law_393 (lv_at hl 1 rfl) ?_
    refine lv_iconst (v := nI 2) hx hb dL_law_395 (by decide) ?_
    refine nv_iadd (x := 4 * k) (y := 2) hx hb dL_law_396 ?_
    refine va_sld hx hb hX hbl hbA hS (pk_in ((4 * k) + 2) L (by omega)) dL_law_397 ?_
    rw [pk_cl ((4 * k) + 2)]
    refine lv_aload_n hx hb dL_law_398 rfl (lv_at hl 2 rfl) ?_
    refine lv_iload hx hb dL_law_399 (lv_at hl 1 rfl) ?_
    refine lv_iconst (v := nI 3) hx hb dL_law_401 (by decide) ?_
    refine nv_iadd (x := 4 * k) (y := 3) hx hb dL_law_402 ?_
    refine va_sld hx hb hX hbl hbA hS (pk_in ((4 * k) + 3) L (by omega)) dL_law_403 ?_
    rw [pk_cl ((4 * k) + 3)]
    have hP := hP.perm lw_pm
    have hD := hD.perm lw_pm
    refine wr_V (rest := []) (ci := 4) (q0 := 0) ⟨hx, hb, hml, hown, hts⟩ hP hE hA hD hS (c_X4_lay l D K _ _ _ _ _ _ _ _ _ _ _ _ _ _ _ _ (xs ((4 * k) + 1)) (xs ((4 * k) + 2)) (xs ((4 * k) + 3)) hI hsn) (cwV 3 hts gL_law_X4_lay rfl rfl rfl hd_X4_lay ⟨Nat.le_of_ble_eq_true rfl, Nat.le_of_ble_eq_true rfl⟩) rfl rfl rfl rfl hl.1 rfl (Nat.le_of_ble_eq_true rfl) dL_law_404 ⟨show _ ≤ 601024 by omega, show _ ≤ 7293034 by omega⟩ (fun H locs hP hD hS => ?_)
    rw [if_neg hE0] at hP hD
    have hP : va_P D vwCl (rfW K r (nI (laE T (xs ((4 * k) + 1)) (xs ((4 * k) + 2)) (xs ((4 * k) + 3)))) pn sn ln pm sta ms hs T sv cs pf fa (cW K a b t c g T len qu n cs ln sn Sv [oC K o of])) H := hP
    have hD : va_D A (rfW K r (nI (laE T (xs ((4 * k) + 1)) (xs ((4 * k) + 2)) (xs ((4 * k) + 3)))) pn sn ln pm sta ms hs T sv cs pf fa (cW K a b t c g T len qu n cs ln sn Sv [oC K o of])) := hD
    have hP := hP.perm lw_pm.symm
    have hD := hD.perm lw_pm.symm
    have hP : va_P D vwCl (cW K a b t c g T len qu n cs ln sn Sv (oC K o of :: rfW K r (nI (laE T (xs ((4 * k) + 1)) (xs ((4 * k) + 2)) (xs ((4 * k) + 3)))) pn sn ln pm sta ms hs T sv cs pf fa [])) H := hP
    have hD : va_D A (cW K a b t c g T len qu n cs ln sn Sv (oC K o of :: rfW K r (nI (laE T (xs ((4 * k) + 1)) (xs ((4 * k) + 2)) (xs ((4 * k) + 3)))) pn sn ln pm sta ms hs T sv cs pf fa [])) := hD
    refine top_i (y := 0) (if_neg hE0) ?_
    refine lv_istore (lv' := [(6, .int 0), (5, .int (nI (laE T (xs ((4 * k) + 1)) (xs ((4 * k) + 2)) (xs ((4 * k) + 3))))), (4, .int (nI (4 * k))), (0, .ref b9), (1, .ref (c 0)), (2, .ref (r 0)), (3, .ref o)]) hx hb dL_law_407 hl (by decide) rfl (fun ls hl => ?_)
    refine lv_aload_n hx hb dL_law_409 rfl (lv_at hl 5 rfl) ?_
    have hP := hP.perm lw_pm
    have hD := hD.perm lw_pm
    refine wr_V (rest := []) (ci := 4) (q0 := 0) ⟨hx, hb, hml, hown, hts⟩ hP hE hA hD hS (c_X4_thrown l D K _ _ _ _ _ _ _ _ _ _ _ _ _ _ _ _ ) (cwV 0 hts gL_law_X4_thrown rfl rfl rfl hd_X4_thrown ⟨Nat.le_of_ble_eq_true rfl, Nat.le_of_ble_eq_true rfl⟩) rfl rfl rfl rfl hl.1 rfl (Nat.le_of_ble_eq_true rfl) dL_law_410 ⟨show _ ≤ 601024 by omega, show _ ≤ 7293034 by omega⟩ (fun H locs hP hD hS => ?_)
    have hP : va_P D vwCl (rfW K r (nI (laE T (xs ((4 * k) + 1)) (xs ((4 * k) + 2)) (xs ((4 * k) + 3)))) pn sn ln pm sta ms hs T sv cs pf fa (cW K a b t c g T len qu n cs ln sn Sv [oC K o of])) H := hP
    have hD : va_D A (rfW K r (nI (laE T (xs ((4 * k) + 1)) (xs ((4 * k) + 2)) (xs ((4 * k) + 3)))) pn sn ln pm sta ms hs T sv cs pf fa (cW K a b t c g T len qu n cs ln sn Sv [oC K o of])) := hD
    have hP := hP.perm lw_pm.symm
    have hD := hD.perm lw_pm.symm
    have hP : va_P D vwCl (cW K a b t c g T len qu n cs ln sn Sv (oC K o of :: rfW K r (nI (laE T (xs ((4 * k) + 1)) (xs ((4 * k) + 2)) (xs ((4 * k) + 3)))) pn sn ln pm sta ms hs T sv cs pf fa [])) H := hP
    have hD : va_D A (cW K a b t c g T len qu n cs ln sn Sv (oC K o of :: rfW K r (nI (laE T (xs ((4 * k) + 1)) (xs ((4 * k) + 2)) (xs ((4 * k) + 3)))) pn sn ln pm sta ms hs T sv cs pf fa [])) := hD
    refine lv_iload hx hb dL_law_413 (lv_at hl 1 rfl) ?_
    refine lv_icmp_eq (x := nI (laE T (xs ((4 * k) + 1)) (xs ((4 * k) + 2)) (xs ((4 * k) + 3)))) (y := nI (laE T (xs ((4 * k) + 1)) (xs ((4 * k) + 2)) (xs ((4 * k) + 3)))) (tgt := 420) hx hb dL_law_415 (by decide) (fun c_4 => ?_) (fun c_4 => ?_)
    · refine lv_iload hx hb dL_law_420 (lv_at hl 1 rfl) ?_
      refine nv_if_ne (x := laE T (xs ((4 * k) + 1)) (xs ((4 * k) + 2)) (xs ((4 * k) + 3))) (tgt := 437) hx hb dL_law_422 (by decide) (by omega) (fun c_5 => ?_) (fun c_5 => ?_)
      · have n_c_5 : ¬ laE T (xs ((4 * k) + 1)) (xs ((4 * k) + 2)) (xs ((4 * k) + 3)) = 0 := by omega
        refine lv_goto (tgt := 1550) hx hb dL_law_437 (by decide) ?_
        refine W.widen (k := cells + 1) (n := slots + 6) (by omega) (by omega) ?_
        exact kk _ _ _ _ _ _ _ _ _ _ _ _ _ _ _ _ _ _ _ (hLI0) H locs ls hP hD hS (lv_sub hl [2, 3, 4, 5, 6] rfl)
      exact absurd c_5 hE0
    exact absurd rfl c_4
set_option maxHeartbeats 4000000 in
set_option maxRecDepth 100000 in
theorem lc_branch {pr : Program} {l : Launch} {en : Env} {st : State} {md : MethodId} {ar : Array Value} {bl : List Frame} {mt : Method} {co : Code} {D : va_G} {K : Nat → ClassId} {A : Nat → Prop} {Q : State → Prop} {b9 : Nat} {a b t c r : Nat → Nat} {o : Nat} {dp fs L : Nat} {xs : Nat → Int32} (hx : pr.tables.exec = Jvm.exec) (hb : co.code = cL_law) (hml : co.maxLocals = 9) (hts : ∀ w ∈ wsL_law, w.before ar st = true) (hown : st.vm.findClass RL = some md.cls) (hst : l.stackTraces = false) (hE : ev D K st) (hXw : xw st) (hxn : xn st) (hZ : xst dp fs A st st.heap) (hA : ∀ q : Nat, st.heap.size ≤ q → A q) (hX : va_X b9 L xs st st.heap) (hbl : b9 < st.heap.size) (hbA : ¬ A b9) (k : Nat) (hk : 4 * k + 4 ≤ L) (hL : L ≤ 2048) (cells slots : Nat) (hc1 : cells + 1 ≤ 601024) (hc2 : slots + 6 ≤ 7293034) (kk : Nx pr l en st md ar bl mt co D K A Q b9 a b t c r o k (cells + 1) (slots + 6) 1550) : Nx pr l en st md ar bl mt co D K A Q b9 a b t c r o k cells slots 440 := by
  intro T len qu n cs ln sn Sv g th pn pm sta ms hs sv pf fa of hLI H locs ls hP hD hS hl
  have hLI0 := hLI
  obtain ⟨hI, hK, hCB, hsn, hSV, hSI, hSH⟩ := hLI
  refine lv_aload_n hx hb dL_law_440 rfl (lv_at hl 2 rfl) ?_
  refine lv_aload_n hx hb dL_law_441 rfl (lv_at hl 1 rfl) ?_
  refine lv_iload hx hb dL_law_442 (lv_at hl 0 rfl) ?_
  refine lv_iconst (v := nI 1) hx hb dL_law_444 (by decide) ?_
  refine nv_iadd (x := 4 * k) (y := 1) hx hb dL_law_445 ?_
  refine va_sld hx hb hX hbl hbA hS (pk_in ((4 * k) + 1) L (by omega)) dL_law_446 ?_
  rw [pk_cl ((4 * k) + 1)]
  refine lv_aload_n hx hb dL_law_447 rfl (lv_at hl 1 rfl) ?_
  refine lv_iload hx hb dL_law_448 (lv_at hl 0 rfl) ?_
  refine lv_iconst (v := nI 2) hx hb dL_law_450 (by decide) ?_
  refine nv_iadd (x := 4 * k) (y := 2) hx hb dL_law_451 ?_
  refine va_sld hx hb hX hbl hbA hS (pk_in ((4 * k) + 2) L (by omega)) dL_law_452 ?_
  rw [pk_cl ((4 * k) + 2)]
  refine lv_aload_n hx hb dL_law_453 rfl (lv_at hl 1 rfl) ?_
  refine lv_iload hx hb dL_law_454 (lv_at hl 0 rfl) ?_
  refine lv_iconst (v := nI 3) hx hb dL_law_456 (by decide) ?_
  refine nv_iadd (x := 4 * k) (y := 3) hx hb dL_law_457 ?_
  refine va_sld hx hb hX hbl hbA hS (pk_in ((4 * k) + 3) L (by omega)) dL_law_458 ?_
  rw [pk_cl ((4 * k) + 3)]
  refine lv_aload_n hx hb dL_law_459 rfl (lv_at hl 4 rfl) ?_
  have hEl : brE T (xs ((4 * k) + 1)) (xs ((4 * k) + 2)) (xs ((4 * k) + 3)) ≤ 3 := by unfold brE; (repeat' split) <;> omega
  by_cases hE0 : brE T (xs ((4 * k) + 1)) (xs ((4 * k) + 2)) (xs ((4 * k) + 3)) = 0
  · refine lx_S (rest := []) ⟨hx, hb, hml, hown, hts⟩ hP hE hA hD hS hXw hZ hxn (c_L_branch l D K dp fs hst _ _ _ _ _ _ _ _ _ _ _ _ _ _ (xs ((4 * k) + 1)) (xs ((4 * k) + 2)) (xs ((4 * k) + 3)) hI hsn _ _ _) (vx_cwSW 5 hts gL_law_L_branch rfl rfl rfl hn_L_branch ⟨Nat.le_of_ble_eq_true rfl, Nat.le_of_ble_eq_true rfl⟩) rfl hl.1 rfl (Nat.le_of_ble_eq_true rfl) dL_law_460 ⟨show _ ≤ 601024 by omega, show _ ≤ 7293034 by omega⟩ (fun H locs hP hD hS => ?_)
    rw [if_pos hE0] at hP hD
    have hP : va_P D vwCl (cW K a b t c (svG g sn) (layT T (tn (xs ((4 * k) + 1))) (toT (tn (xs ((4 * k) + 2))) (tn (xs ((4 * k) + 3)))) (tn (xs ((4 * k) + 3)))) len qu n cs ln (svN sn) (svV Sv sn T) (oC K o (vp_updL of 0 ((nI (tollT T (toT (tn (xs ((4 * k) + 2))) (tn (xs ((4 * k) + 3)))))).toInt64)) :: rfW K r th pn sn ln pm sta ms hs T sv cs pf fa [])) H := hP
    have hD : va_D A (cW K a b t c (svG g sn) (layT T (tn (xs ((4 * k) + 1))) (toT (tn (xs ((4 * k) + 2))) (tn (xs ((4 * k) + 3)))) (tn (xs ((4 * k) + 3)))) len qu n cs ln (svN sn) (svV Sv sn T) (oC K o (vp_updL of 0 ((nI (tollT T (toT (tn (xs ((4 * k) + 2))) (tn (xs ((4 * k) + 3)))))).toInt64)) :: rfW K r th pn sn ln pm sta ms hs T sv cs pf fa [])) := hD
    refine top_i (y := nI 0) (by rw [hE0]) ?_
    refine lv_istore (lv' := [(5, .int (nI 0)), (4, .int (nI (4 * k))), (0, .ref b9), (1, .ref (c 0)), (2, .ref (r 0)), (3, .ref o)]) hx hb dL_law_463 hl (by decide) rfl (fun ls hl => ?_)
    refine lv_aload_n hx hb dL_law_465 rfl (lv_at hl 4 rfl) ?_
    refine lv_aload_n hx hb dL_law_466 rfl (lv_at hl 2 rfl) ?_
    refine lv_iload hx hb dL_law_467 (lv_at hl 1 rfl) ?_
    refine lv_iconst (v := nI 1) hx hb dL_law_469 (by decide) ?_
    refine nv_iadd (x := 4 * k) (y := 1) hx hb dL_law_470 ?_
    refine va_sld hx hb hX hbl hbA hS (pk_in ((4 * k) + 1) L (by omega)) dL_law_471 ?_
    rw [pk_cl ((4 * k) + 1)]
    refine lv_aload_n hx hb dL_law_472 rfl (lv_at hl 2 rfl) ?_
    refine lv_iload hx hb dL_law_473 (lv_at hl 1 rfl) ?_
    refine lv_iconst (v := nI 2) hx hb dL_law_475 (by decide) ?_
    refine nv_iadd (x := 4 * k) (y := 2) hx hb dL_law_476 ?_
    refine va_sld hx hb hX hbl hbA hS (pk_in ((4 * k) + 2) L (by omega)) dL_law_477 ?_
    rw [pk_cl ((4 * k) + 2)]
    refine lv_aload_n hx hb dL_law_478 rfl (lv_at hl 2 rfl) ?_
    refine lv_iload hx hb dL_law_479 (lv_at hl 1 rfl) ?_
    refine lv_iconst (v := nI 3) hx hb dL_law_481 (by decide) ?_
    refine nv_iadd (x := 4 * k) (y := 3) hx hb dL_law_482 ?_
    refine va_sld hx hb hX hbl hbA hS (pk_in ((4 * k) + 3) L (by omega)) dL_law_483 ?_
    rw [pk_cl ((4 * k) + 3)]
    have hP := hP.perm lw_pm
    have hD := hD.perm lw_pm
    refine wr_V (rest := []) (ci := 4) (q0 := 0) ⟨hx, hb, hml, hown, hts⟩ hP hE hA hD hS (c_X4_branch l D K _ _ _ _ _ _ _ _ _ _ _ _ _ _ _ _ (xs ((4 * k) + 1)) (xs ((4 * k) + 2)) (xs ((4 * k) + 3)) hI hsn) (cwV 3 hts gL_law_X4_branch rfl rfl rfl hd_X4_branch ⟨Nat.le_of_ble_eq_true rfl, Nat.le_of_ble_eq_true rfl⟩) rfl rfl rfl rfl hl.1 rfl (Nat.le_of_ble_eq_true rfl) dL_law_484 ⟨show _ ≤ 601024 by omega, show _ ≤ 7293034 by omega⟩ (fun H locs hP hD hS => ?_)
    rw [if_pos hE0] at hP hD
    have hP : va_P D vwCl (rfW K r (nI 0) pn (svN sn) ln pm sta ms hs (layT T (tn (xs ((4 * k) + 1))) (toT (tn (xs ((4 * k) + 2))) (tn (xs ((4 * k) + 3)))) (tn (xs ((4 * k) + 3)))) (savS sv sn T) cs pf fa (cW K a b t c (svG g sn) (layT T (tn (xs ((4 * k) + 1))) (toT (tn (xs ((4 * k) + 2))) (tn (xs ((4 * k) + 3)))) (tn (xs ((4 * k) + 3)))) len qu n cs ln (svN sn) (svV Sv sn T) [oC K o (vp_updL of 0 ((nI (tollT T (toT (tn (xs ((4 * k) + 2))) (tn (xs ((4 * k) + 3)))))).toInt64))])) H := hP
    have hD : va_D A (rfW K r (nI 0) pn (svN sn) ln pm sta ms hs (layT T (tn (xs ((4 * k) + 1))) (toT (tn (xs ((4 * k) + 2))) (tn (xs ((4 * k) + 3)))) (tn (xs ((4 * k) + 3)))) (savS sv sn T) cs pf fa (cW K a b t c (svG g sn) (layT T (tn (xs ((4 * k) + 1))) (toT (tn (xs ((4 * k) + 2))) (tn (xs ((4 * k) + 3)))) (tn (xs ((4 * k) + 3)))) len qu n cs ln (svN sn) (svV Sv sn T) [oC K o (vp_updL of 0 ((nI (tollT T (toT (tn (xs ((4 * k) + 2))) (tn (xs ((4 * k) + 3)))))).toInt64))])) := hD
    have hP := hP.perm lw_pm.symm
    have hD := hD.perm lw_pm.symm
    have hP : va_P D vwCl (cW K a b t c (svG g sn) (layT T (tn (xs ((4 * k) + 1))) (toT (tn (xs ((4 * k) + 2))) (tn (xs ((4 * k) + 3)))) (tn (xs ((4 * k) + 3)))) len qu n cs ln (svN sn) (svV Sv sn T) (oC K o (vp_updL of 0 ((nI (tollT T (toT (tn (xs ((4 * k) + 2))) (tn (xs ((4 * k) + 3)))))).toInt64)) :: rfW K r (nI 0) pn (svN sn) ln pm sta ms hs (layT T (tn (xs ((4 * k) + 1))) (toT (tn (xs ((4 * k) + 2))) (tn (xs ((4 * k) + 3)))) (tn (xs ((4 * k) + 3)))) (savS sv sn T) cs pf fa [])) H := hP
    have hD : va_D A (cW K a b t c (svG g sn) (layT T (tn (xs ((4 * k) + 1))) (toT (tn (xs ((4 * k) + 2))) (tn (xs ((4 * k) + 3)))) (tn (xs ((4 * k) + 3)))) len qu n cs ln (svN sn) (svV Sv sn T) (oC K o (vp_updL of 0 ((nI (tollT T (toT (tn (xs ((4 * k) + 2))) (tn (xs ((4 * k) + 3)))))).toInt64)) :: rfW K r (nI 0) pn (svN sn) ln pm sta ms hs (layT T (tn (xs ((4 * k) + 1))) (toT (tn (xs ((4 * k) + 2))) (tn (xs ((4 * k) + 3)))) (tn (xs ((4 * k) + 3)))) (savS sv sn T) cs pf fa [])) := hD
    refine top_i (y := nI (tollT T (toT (tn (xs ((4 * k) + 2))) (tn (xs ((4 * k) + 3)))))) (if_pos hE0) ?_
    refine lv_istore (lv' := [(6, .int (nI (tollT T (toT (tn (xs ((4 * k) + 2))) (tn (xs ((4 * k) + 3))))))), (5, .int (nI 0)), (4, .int (nI (4 * k))), (0, .ref b9), (1, .ref (c 0)), (2, .ref (r 0)), (3, .ref o)]) hx hb dL_law_487 hl (by decide) rfl (fun ls hl => ?_)
    refine lv_aload_n hx hb dL_law_489 rfl (lv_at hl 5 rfl) ?_
    have hP := hP.perm lw_pm
    have hD := hD.perm lw_pm
    refine wr_V (rest := []) (ci := 4) (q0 := 0) ⟨hx, hb, hml, hown, hts⟩ hP hE hA hD hS (c_X4_thrown l D K _ _ _ _ _ _ _ _ _ _ _ _ _ _ _ _ ) (cwV 0 hts gL_law_X4_thrown rfl rfl rfl hd_X4_thrown ⟨Nat.le_of_ble_eq_true rfl, Nat.le_of_ble_eq_true rfl⟩) rfl rfl rfl rfl hl.1 rfl (Nat.le_of_ble_eq_true rfl) dL_law_490 ⟨show _ ≤ 601024 by omega, show _ ≤ 7293034 by omega⟩ (fun H locs hP hD hS => ?_)
    have hP : va_P D vwCl (rfW K r (nI 0) pn (svN sn) ln pm sta ms hs (layT T (tn (xs ((4 * k) + 1))) (toT (tn (xs ((4 * k) + 2))) (tn (xs ((4 * k) + 3)))) (tn (xs ((4 * k) + 3)))) (savS sv sn T) cs pf fa (cW K a b t c (svG g sn) (layT T (tn (xs ((4 * k) + 1))) (toT (tn (xs ((4 * k) + 2))) (tn (xs ((4 * k) + 3)))) (tn (xs ((4 * k) + 3)))) len qu n cs ln (svN sn) (svV Sv sn T) [oC K o (vp_updL of 0 ((nI (tollT T (toT (tn (xs ((4 * k) + 2))) (tn (xs ((4 * k) + 3)))))).toInt64))])) H := hP
    have hD : va_D A (rfW K r (nI 0) pn (svN sn) ln pm sta ms hs (layT T (tn (xs ((4 * k) + 1))) (toT (tn (xs ((4 * k) + 2))) (tn (xs ((4 * k) + 3)))) (tn (xs ((4 * k) + 3)))) (savS sv sn T) cs pf fa (cW K a b t c (svG g sn) (layT T (tn (xs ((4 * k) + 1))) (toT (tn (xs ((4 * k) + 2))) (tn (xs ((4 * k) + 3)))) (tn (xs ((4 * k) + 3)))) len qu n cs ln (svN sn) (svV Sv sn T) [oC K o (vp_updL of 0 ((nI (tollT T (toT (tn (xs ((4 * k) + 2))) (tn (xs ((4 * k) + 3)))))).toInt64))])) := hD
    have hP := hP.perm lw_pm.symm
    have hD := hD.perm lw_pm.symm
    have hP : va_P D vwCl (cW K a b t c (svG g sn) (layT T (tn (xs ((4 * k) + 1))) (toT (tn (xs ((4 * k) + 2))) (tn (xs ((4 * k) + 3)))) (tn (xs ((4 * k) + 3)))) len qu n cs ln (svN sn) (svV Sv sn T) (oC K o (vp_updL of 0 ((nI (tollT T (toT (tn (xs ((4 * k) + 2))) (tn (xs ((4 * k) + 3)))))).toInt64)) :: rfW K r (nI 0) pn (svN sn) ln pm sta ms hs (layT T (tn (xs ((4 * k) + 1))) (toT (tn (xs ((4 * k) + 2))) (tn (xs ((4 * k) + 3)))) (tn (xs ((4 * k) + 3)))) (savS sv sn T) cs pf fa [])) H := hP
    have hD : va_D A (cW K a b t c (svG g sn) (layT T (tn (xs ((4 * k) + 1))) (toT (tn (xs ((4 * k) + 2))) (tn (xs ((4 * k) + 3)))) (tn (xs ((4 * k) + 3)))) len qu n cs ln (svN sn) (svV Sv sn T) (oC K o (vp_updL of 0 ((nI (tollT T (toT (tn (xs ((4 * k) + 2))) (tn (xs ((4 * k) + 3)))))).toInt64)) :: rfW K r (nI 0) pn (svN sn) ln pm sta ms hs (layT T (tn (xs ((4 * k) + 1))) (toT (tn (xs ((4 * k) + 2))) (tn (xs ((4 * k) + 3)))) (tn (xs ((4 * k) + 3)))) (savS sv sn T) cs pf fa [])) := hD
    refine lv_iload hx hb dL_law_493 (lv_at hl 1 rfl) ?_
    refine nv_icmp_eq (x := 0) (y := 0) (tgt := 500) hx hb dL_law_495 (by decide) (by decide) (by decide) (fun c_1 => ?_) (fun c_1 => ?_)
    · refine lv_iload hx hb dL_law_500 (lv_at hl 1 rfl) ?_
      refine nv_if_ne (x := 0) (tgt := 517) hx hb dL_law_502 (by decide) (by decide) (fun c_2 => ?_) (fun c_2 => ?_)
      · exact absurd c_2 (by decide)
      have n_c_2 : ¬ 0 < 0 := by omega
      refine lv_aload_n hx hb dL_law_505 rfl (lv_at hl 6 rfl) ?_
      refine lv_iconst (v := nI 0) hx hb dL_law_506 (by decide) ?_
      refine nv_lald hx hb hE hP 91 rfl dL_law_507 ?_
      refine top_l (y := (nI (tollT T (toT (tn (xs ((4 * k) + 2))) (tn (xs ((4 * k) + 3)))))).toInt64) rfl ?_
      refine lv_iload hx hb dL_law_508 (lv_at hl 0 rfl) ?_
      refine lv_i2l (v := (nI (tollT T (toT (tn (xs ((4 * k) + 2))) (tn (xs ((4 * k) + 3)))))).toInt64) hx hb dL_law_510 rfl ?_
      refine W.lcmp hx hb dL_law_511 ?_
      refine top_i (y := nI 0) (lcmp_rf _) ?_
      refine nv_if_eq (x := 0) (tgt := 517) hx hb dL_law_512 (by decide) (by decide) (fun c_3 => ?_) (fun c_3 => ?_)
      · have n_c_3 : ¬ 0 < 0 := by omega
        refine lv_goto (tgt := 1550) hx hb dL_law_517 (by decide) ?_
        refine W.widen (k := cells + 1) (n := slots + 6) (by omega) (by omega) ?_
        exact kk _ _ _ _ _ _ _ _ _ _ _ _ _ _ _ _ _ _ _ (hLI0.bra hE0) H locs ls hP hD hS (lv_sub hl [2, 3, 4, 5, 6] rfl)
      exact absurd c_3 (by decide)
    exact absurd c_1 (by decide)
  · refine lx_S (rest := []) ⟨hx, hb, hml, hown, hts⟩ hP hE hA hD hS hXw hZ hxn (c_L_branch l D K dp fs hst _ _ _ _ _ _ _ _ _ _ _ _ _ _ (xs ((4 * k) + 1)) (xs ((4 * k) + 2)) (xs ((4 * k) + 3)) hI hsn _ _ _) (vx_cwSW 5 hts gL_law_L_branch rfl rfl rfl hn_L_branch ⟨Nat.le_of_ble_eq_true rfl, Nat.le_of_ble_eq_true rfl⟩) rfl hl.1 rfl (Nat.le_of_ble_eq_true rfl) dL_law_460 ⟨show _ ≤ 601024 by omega, show _ ≤ 7293034 by omega⟩ (fun H locs hP hD hS => ?_)
    rw [if_neg hE0] at hP hD
    have hP : va_P D vwCl (cW K a b t c g T len qu n cs ln sn Sv (oC K o of :: rfW K r th pn sn ln pm sta ms hs T sv cs pf fa [])) H := hP
    have hD : va_D A (cW K a b t c g T len qu n cs ln sn Sv (oC K o of :: rfW K r th pn sn ln pm sta ms hs T sv cs pf fa [])) := hD
    refine top_i (y := nI (brE T (xs ((4 * k) + 1)) (xs ((4 * k) + 2)) (xs ((4 * k) + 3)))) (rfl) ?_
    refine lv_istore (lv' := [(5, .int (nI (brE T (xs ((4 * k) + 1)) (xs ((4 * k) + 2)) (xs ((4 * k) + 3))))), (4, .int (nI (4 * k))), (0, .ref b9), (1, .ref (c 0)), (2, .ref (r 0)), (3, .ref o)]) hx hb dL_law_463 hl (by decide) rfl (fun ls hl => ?_)
    refine lv_aload_n hx hb dL_law_465 rfl (lv_at hl 4 rfl) ?_
    refine lv_aload_n hx hb dL_law_466 rfl (lv_at hl 2 rfl) ?_
    refine lv_iload hx hb dL_law_467 (lv_at hl 1 rfl) ?_
    refine lv_iconst (v := nI 1) hx hb dL_law_469 (by decide) ?_
    refine nv_iadd (x := 4 * k) (y := 1) hx hb dL_law_470 ?_
    refine va_sld hx hb hX hbl hbA hS (pk_in ((4 * k) + 1) L (by omega)) dL_law_471 ?_
    rw [pk_cl ((4 * k) + 1)]
    refine lv_aload_n hx hb dL_law_472 rfl (lv_at hl 2 rfl) ?_
    refine lv_iload hx hb dL_law_473 (lv_at hl 1 rfl) ?_
    refine lv_iconst (v := nI 2) hx hb dL_law_475 (by decide) ?_
    refine nv_iadd (x := 4 * k) (y := 2) hx hb dL_law_476 ?_
    refine va_sld hx hb hX hbl hbA hS (pk_in ((4 * k) + 2) L (by omega)) dL_law_477 ?_
    rw [pk_cl ((4 * k) + 2)]
    refine lv_aload_n hx hb dL_law_478 rfl (lv_at hl 2 rfl) ?_
    refine lv_iload hx hb dL_law_479 (lv_at hl 1 rfl) ?_
    refine lv_iconst (v := nI 3) hx hb dL_law_481 (by decide) ?_
    refine nv_iadd (x := 4 * k) (y := 3) hx hb dL_law_482 ?_
    refine va_sld hx hb hX hbl hbA hS (pk_in ((4 * k) + 3) L (by omega)) dL_law_483 ?_
    rw [pk_cl ((4 * k) + 3)]
    have hP := hP.perm lw_pm
    have hD := hD.perm lw_pm
    refine wr_V (rest := []) (ci := 4) (q0 := 0) ⟨hx, hb, hml, hown, hts⟩ hP hE hA hD hS (c_X4_branch l D K _ _ _ _ _ _ _ _ _ _ _ _ _ _ _ _ (xs ((4 * k) + 1)) (xs ((4 * k) + 2)) (xs ((4 * k) + 3)) hI hsn) (cwV 3 hts gL_law_X4_branch rfl rfl rfl hd_X4_branch ⟨Nat.le_of_ble_eq_true rfl, Nat.le_of_ble_eq_true rfl⟩) rfl rfl rfl rfl hl.1 rfl (Nat.le_of_ble_eq_true rfl) dL_law_484 ⟨show _ ≤ 601024 by omega, show _ ≤ 7293034 by omega⟩ (fun H locs hP hD hS => ?_)
    rw [if_neg hE0] at hP hD
    have hP : va_P D vwCl (rfW K r (nI (brE T (xs ((4 * k) + 1)) (xs ((4 * k) + 2)) (xs ((4 * k) + 3)))) pn sn ln pm sta ms hs T sv cs pf fa (cW K a b t c g T len qu n cs ln sn Sv [oC K o of])) H := hP
    have hD : va_D A (rfW K r (nI (brE T (xs ((4 * k) + 1)) (xs ((4 * k) + 2)) (xs ((4 * k) + 3)))) pn sn ln pm sta ms hs T sv cs pf fa (cW K a b t c g T len qu n cs ln sn Sv [oC K o of])) := hD
    have hP := hP.perm lw_pm.symm
    have hD := hD.perm lw_pm.symm
    have hP : va_P D vwCl (cW K a b t c g T len qu n cs ln sn Sv (oC K o of :: rfW K r (nI (brE T (xs ((4 * k) + 1)) (xs ((4 * k) + 2)) (xs ((4 * k) + 3)))) pn sn ln pm sta ms hs T sv cs pf fa [])) H := hP
    have hD : va_D A (cW K a b t c g T len qu n cs ln sn Sv (oC K o of :: rfW K r (nI (brE T (xs ((4 * k) + 1)) (xs ((4 * k) + 2)) (xs ((4 * k) + 3)))) pn sn ln pm sta ms hs T sv cs pf fa [])) := hD
    refine top_i (y := 0) (if_neg hE0) ?_
    refine lv_istore (lv' := [(6, .int 0), (5, .int (nI (brE T (xs ((4 * k) + 1)) (xs ((4 * k) + 2)) (xs ((4 * k) + 3))))), (4, .int (nI (4 * k))), (0, .ref b9), (1, .ref (c 0)), (2, .ref (r 0)), (3, .ref o)]) hx hb dL_law_487 hl (by decide) rfl (fun ls hl => ?_)
    refine lv_aload_n hx hb dL_law_489 rfl (lv_at hl 5 rfl) ?_
    have hP := hP.perm lw_pm
    have hD := hD.perm lw_pm
    refine wr_V (rest := []) (ci := 4) (q0 := 0) ⟨hx, hb, hml, hown, hts⟩ hP hE hA hD hS (c_X4_thrown l D K _ _ _ _ _ _ _ _ _ _ _ _ _ _ _ _ ) (cwV 0 hts gL_law_X4_thrown rfl rfl rfl hd_X4_thrown ⟨Nat.le_of_ble_eq_true rfl, Nat.le_of_ble_eq_true rfl⟩) rfl rfl rfl rfl hl.1 rfl (Nat.le_of_ble_eq_true rfl) dL_law_490 ⟨show _ ≤ 601024 by omega, show _ ≤ 7293034 by omega⟩ (fun H locs hP hD hS => ?_)
    have hP : va_P D vwCl (rfW K r (nI (brE T (xs ((4 * k) + 1)) (xs ((4 * k) + 2)) (xs ((4 * k) + 3)))) pn sn ln pm sta ms hs T sv cs pf fa (cW K a b t c g T len qu n cs ln sn Sv [oC K o of])) H := hP
    have hD : va_D A (rfW K r (nI (brE T (xs ((4 * k) + 1)) (xs ((4 * k) + 2)) (xs ((4 * k) + 3)))) pn sn ln pm sta ms hs T sv cs pf fa (cW K a b t c g T len qu n cs ln sn Sv [oC K o of])) := hD
    have hP := hP.perm lw_pm.symm
    have hD := hD.perm lw_pm.symm
    have hP : va_P D vwCl (cW K a b t c g T len qu n cs ln sn Sv (oC K o of :: rfW K r (nI (brE T (xs ((4 * k) + 1)) (xs ((4 * k) + 2)) (xs ((4 * k) + 3)))) pn sn ln pm sta ms hs T sv cs pf fa [])) H := hP
    have hD : va_D A (cW K a b t c g T len qu n cs ln sn Sv (oC K o of :: rfW K r (nI (brE T (xs ((4 * k) + 1)) (xs ((4 * k) + 2)) (xs ((4 * k) + 3)))) pn sn ln pm sta ms hs T sv cs pf fa [])) := hD
    refine lv_iload hx hb dL_law_493 (lv_at hl 1 rfl) ?_
    refine lv_icmp_eq (x := nI (brE T (xs ((4 * k) + 1)) (xs ((4 * k) + 2)) (xs ((4 * k) + 3)))) (y := nI (brE T (xs ((4 * k) + 1)) (xs ((4 * k) + 2)) (xs ((4 * k) + 3)))) (tgt := 500) hx hb dL_law_495 (by decide) (fun c_4 => ?_) (fun c_4 => ?_)
    · refine lv_iload hx hb dL_law_500 (lv_at hl 1 rfl) ?_
      refine nv_if_ne (x := brE T (xs ((4 * k) + 1)) (xs ((4 * k) + 2)) (xs ((4 * k) + 3))) (tgt := 517) hx hb dL_law_502 (by decide) (by omega) (fun c_5 => ?_) (fun c_5 => ?_)
      · have n_c_5 : ¬ brE T (xs ((4 * k) + 1)) (xs ((4 * k) + 2)) (xs ((4 * k) + 3)) = 0 := by omega
        refine lv_goto (tgt := 1550) hx hb dL_law_517 (by decide) ?_
        refine W.widen (k := cells + 1) (n := slots + 6) (by omega) (by omega) ?_
        exact kk _ _ _ _ _ _ _ _ _ _ _ _ _ _ _ _ _ _ _ (hLI0) H locs ls hP hD hS (lv_sub hl [2, 3, 4, 5, 6] rfl)
      exact absurd c_5 hE0
    exact absurd rfl c_4
