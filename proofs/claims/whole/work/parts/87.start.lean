/-! what the law's start gives -/
theorem tw_at {args : Array Value} {s : State} (hts : ∀ w ∈ lw_tbl, w.before args s = true) {i : Nat} {w : Cond} (h : tables_1[i]? = some w) : w.before args s = true := hts w (List.mem_append_right _ (List.mem_of_getElem? h))
theorem str_of {args : Array Value} {s : State} {own tx : String} {k : Nat} (h : (Cond.stringRef own k tx).before args s = true) : ∃ a, vk_R own k tx a s := by
  have hcur : ∃ cur, s.vm.findClass own = some cur := by
    have h1 := h
    simp only [Cond.before, Cond.holds, Cond.value] at h1
    cases hc : s.vm.findClass own with
    | none => simp [hc] at h1
    | some cur => exact ⟨cur, rfl⟩
  obtain ⟨cur, hcur⟩ := hcur
  obtain ⟨_, _, _, a, _, _, _, _, _, hev⟩ := Cond.stringRef_spec hcur h
  exact ⟨a, vk_R.of h hev⟩
theorem xw_start {args : Array Value} {s : State} (hts : ∀ w ∈ lw_tbl, w.before args s = true) : xw s :=
  ⟨va_Nw.of rfl (tw_at hts (i := 375) (by decide +kernel)), va_Nw.of rfl (tw_at hts (i := 377) (by decide +kernel)), va_Nw.of rfl (tw_at hts (i := 379) (by decide +kernel)), va_Nw.of rfl (tw_at hts (i := 373) (by decide +kernel)), va_Nw.of rfl (tw_at hts (i := 525) (by decide +kernel)), va_Nw.of rfl (tw_at hts (i := 442) (by decide +kernel)), List.forall_mem_cons.mpr ⟨str_of (tw_at hts (i := 412) (by decide +kernel)), List.forall_mem_cons.mpr ⟨str_of (tw_at hts (i := 449) (by decide +kernel)), List.forall_mem_cons.mpr ⟨str_of (tw_at hts (i := 485) (by decide +kernel)), List.forall_mem_cons.mpr ⟨str_of (tw_at hts (i := 490) (by decide +kernel)), List.forall_mem_cons.mpr ⟨str_of (tw_at hts (i := 496) (by decide +kernel)), List.forall_mem_cons.mpr ⟨str_of (tw_at hts (i := 507) (by decide +kernel)), List.forall_mem_cons.mpr ⟨str_of (tw_at hts (i := 516) (by decide +kernel)), List.forall_mem_cons.mpr ⟨str_of (tw_at hts (i := 532) (by decide +kernel)), List.forall_mem_cons.mpr ⟨str_of (tw_at hts (i := 539) (by decide +kernel)), List.forall_mem_cons.mpr ⟨str_of (tw_at hts (i := 556) (by decide +kernel)), List.forall_mem_cons.mpr ⟨str_of (tw_at hts (i := 557) (by decide +kernel)), List.forall_mem_cons.mpr ⟨str_of (tw_at hts (i := 584) (by decide +kernel)), List.forall_mem_cons.mpr ⟨str_of (tw_at hts (i := 586) (by decide +kernel)), List.forall_mem_cons.mpr ⟨str_of (tw_at hts (i := 598) (by decide +kernel)), List.forall_mem_cons.mpr ⟨str_of (tw_at hts (i := 602) (by decide +kernel)), List.forall_mem_cons.mpr ⟨str_of (tw_at hts (i := 610) (by decide +kernel)), List.forall_mem_cons.mpr ⟨str_of (tw_at hts (i := 611) (by decide +kernel)), List.forall_mem_cons.mpr ⟨str_of (tw_at hts (i := 628) (by decide +kernel)), List.forall_mem_cons.mpr ⟨str_of (tw_at hts (i := 642) (by decide +kernel)), List.forall_mem_cons.mpr ⟨str_of (tw_at hts (i := 650) (by decide +kernel)), List.forall_mem_cons.mpr ⟨str_of (tw_at hts (i := 658) (by decide +kernel)), List.forall_mem_cons.mpr ⟨str_of (tw_at hts (i := 659) (by decide +kernel)), List.forall_mem_cons.mpr ⟨str_of (tw_at hts (i := 667) (by decide +kernel)), List.forall_mem_cons.mpr ⟨str_of (tw_at hts (i := 682) (by decide +kernel)), List.forall_mem_cons.mpr ⟨str_of (tw_at hts (i := 697) (by decide +kernel)), List.forall_mem_cons.mpr ⟨str_of (tw_at hts (i := 712) (by decide +kernel)), fun _ h => nomatch h⟩⟩⟩⟩⟩⟩⟩⟩⟩⟩⟩⟩⟩⟩⟩⟩⟩⟩⟩⟩⟩⟩⟩⟩⟩⟩, va_Nw.of rfl (tw_at hts (i := 30) (by decide +kernel)), va_Nw.of rfl (tw_at hts (i := 39) (by decide +kernel)), va_Nw.of rfl (tw_at hts (i := 37) (by decide +kernel)), va_AO.of (tw_at hts (i := 97) (by decide +kernel))⟩
theorem nw_start {args : Array Value} {s : State} (hts : ∀ w ∈ lw_tbl, w.before args s = true) : nwAll s :=
  ⟨va_Nw.of rfl (tw_at hts (i := 100) (by decide +kernel)), va_Nw.of rfl (tw_at hts (i := 115) (by decide +kernel)), va_Nw.of rfl (tw_at hts (i := 157) (by decide +kernel)), va_Nw.of rfl (tw_at hts (i := 181) (by decide +kernel)), va_Nw.of rfl (tw_at hts (i := 293) (by decide +kernel)), va_Nw.of rfl (tw_at hts (i := 300) (by decide +kernel)), va_Nw.of rfl (tw_at hts (i := 301) (by decide +kernel)), va_Nw.of rfl (tw_at hts (i := 316) (by decide +kernel)), va_Nw.of rfl (tw_at hts (i := 330) (by decide +kernel)), va_Nw.of rfl (tw_at hts (i := 331) (by decide +kernel)), va_Nw.of rfl (tw_at hts (i := 468) (by decide +kernel)), va_Nw.of rfl (tw_at hts (i := 544) (by decide +kernel)), va_Nw.of rfl (tw_at hts (i := 545) (by decide +kernel)), va_Nw.of rfl (tw_at hts (i := 616) (by decide +kernel))⟩
theorem xn_start {args : Array Value} {s : State} (hgv : (Jvm.Cond.and given_1 narrow_1).before args s = true) : xn s :=
  ⟨va_Nc.of (flat_of_before _ hgv (.not (.castable "java/lang/IndexOutOfBoundsException" "java/lang/IllegalArgumentException")) (by decide +kernel)), va_Nc.of (flat_of_before _ hgv (.not (.castable "java/lang/IndexOutOfBoundsException" "java/lang/IllegalStateException")) (by decide +kernel)), va_Nc.of (flat_of_before _ hgv (.not (.castable "java/lang/IllegalArgumentException" "java/lang/IndexOutOfBoundsException")) (by decide +kernel)), va_Nc.of (flat_of_before _ hgv (.not (.castable "java/lang/IllegalArgumentException" "java/lang/IllegalStateException")) (by decide +kernel)), va_Nc.of (flat_of_before _ hgv (.not (.castable "java/lang/IllegalStateException" "java/lang/IndexOutOfBoundsException")) (by decide +kernel)), va_Nc.of (flat_of_before _ hgv (.not (.castable "java/lang/IllegalStateException" "java/lang/IllegalArgumentException")) (by decide +kernel))⟩
theorem arr_cls {args : Array Value} {s : State} {ty : FieldType} (h : (Cond.arrayClass ty).before args s = true) (hn : ∀ C, ¬ ty = .object C) : ∃ cA : ClassId, ArrOfT s cA ty ∧ va_RA s cA ty := by
  obtain ⟨cA, kA, comp, h1, h2, h3⟩ := Cond.arrayClass_spec h
  refine ⟨cA, fun N z => ⟨(fun k h => by cases h), kA, h2, comp, h3⟩, ?_⟩
  cases ty with
  | object C => exact absurd rfl (hn C)
  | _ => exact h1
theorem arr_obj {args : Array Value} {s : State} {C : String} (h : (Cond.arrayOver (.object C)).before args s = true) : ∃ cA : ClassId, ArrOfT s cA (.object C) ∧ va_RA s cA (.object C) := by
  obtain ⟨comp, cA, kA, h1, _, h2, h3, h5⟩ := Cond.arrayOver_spec h
  exact ⟨cA, fun N z => ⟨(fun k h => by cases h), kA, h2, comp, h3⟩, kA, comp, h2, h3, h1, h5⟩
theorem xT_of {args : Array Value} {s : State} {tm : Term} {N : Nat} {f : Nat → Int32} {A : Nat → Prop} (hN : N < 2 ^ 31) (harr : (Cond.arrayOf tm .int).before args s = true) (hex : (Cond.exactly tm "[I").before args s = true) (hlen : (Cond.eq (.length tm) (.int (Int32.ofNat N))).before args s = true) (hel : ∀ j : Nat, j < N → (Cond.eq (.elem tm (.int (Int32.ofNat j))) (.int (f j))).before args s = true) (hA : ∀ a : Nat, a < s.heap.size → ¬ A a) : ∃ t : Nat, tm.eval args s none [] s = some (.ref t) ∧ xT t N f A s s.heap := by
  have hl := va_eqt hlen
  obtain ⟨t, ht, hT⟩ := va_Tof (f := fun j => .int (f j)) hN harr hl (fun j hj => va_eqt (hel j hj)) hA
  obtain ⟨a2, cC, cell2, k2, e1, e2, e3, e4, e5, e6, _⟩ := Cond.exactly_spec hex
  cases ht.symm.trans e1
  obtain ⟨cell, h1, h2, h3, h4, h5, h6, h7⟩ := hT
  cases h1.symm.trans e3
  refine ⟨t, ht, cell2, h1, h2, h3, ?_, h6, by rw [e2, e6], h7⟩
  simp only [Term.eval, ht, Option.bind_eq_bind, Option.bind_some] at hl
  cases h9 : s.arrayAt? t with
  | none => simp [h9] at hl
  | some c9 =>
    obtain ⟨g1, _, _, _⟩ := State.arrayAt?_spec h9
    cases h1.symm.trans g1
    simp only [h9, Option.bind_some] at hl
    split at hl
    · rename_i q
      have hl2 : nI cell2.slots.size = nI N := by
        have := Option.some.inj hl
        exact Value.int.inj this
      exact (nI_eq q hN).mp hl2
    · cases hl
theorem st_start {args : Array Value} {s : State} (hts : ∀ w ∈ lw_tbl, w.before args s = true) (hgv : (Jvm.Cond.and given_1 narrow_1).before args s = true) : ∃ dp fs : Nat, xst dp fs (fun q : Nat => s.heap.size ≤ q) s s.heap := by
  have hA : ∀ a : Nat, a < s.heap.size → ¬ (fun q : Nat => s.heap.size ≤ q) a := fun a h => Nat.not_le.mpr h
  have hf := flat_of_before _ hgv
  obtain ⟨dp, d1, d2⟩ := xT_of (tm := .static "TramTolls" "DEPOTS" "[I") (N := 4) (f := depF) (by decide) (hf _ (by decide +kernel)) (hf _ (by decide +kernel)) (hf _ (by decide +kernel)) (fun j hj => by
    rcases (show j = 0 ∨ j = 1 ∨ j = 2 ∨ j = 3 by omega) with rfl | rfl | rfl | rfl
    · exact hf (.eq (.elem (.static "TramTolls" "DEPOTS" "[I") (.int 0)) (.int 0)) (by decide +kernel)
    · exact hf (.eq (.elem (.static "TramTolls" "DEPOTS" "[I") (.int 1)) (.int 9)) (by decide +kernel)
    · exact hf (.eq (.elem (.static "TramTolls" "DEPOTS" "[I") (.int 2)) (.int 79)) (by decide +kernel)
    · exact hf (.eq (.elem (.static "TramTolls" "DEPOTS" "[I") (.int 3)) (.int 70)) (by decide +kernel)) hA
  obtain ⟨fs, f1, f2⟩ := xT_of (tm := .static "TramTolls" "FIRST_SETTINGS" "[I") (N := 3) (f := fseF) (by decide) (hf _ (by decide +kernel)) (hf _ (by decide +kernel)) (hf _ (by decide +kernel)) (fun j hj => by
    rcases (show j = 0 ∨ j = 1 ∨ j = 2 by omega) with rfl | rfl | rfl
    · exact hf (.eq (.elem (.static "TramTolls" "FIRST_SETTINGS" "[I") (.int 0)) (.int 2)) (by decide +kernel)
    · exact hf (.eq (.elem (.static "TramTolls" "FIRST_SETTINGS" "[I") (.int 1)) (.int 2)) (by decide +kernel)
    · exact hf (.eq (.elem (.static "TramTolls" "FIRST_SETTINGS" "[I") (.int 2)) (.int 1)) (by decide +kernel)) hA
  have hi := tw_at hts (i := 1) (w := .initialized RX3) (by decide +kernel)
  have ht := tw_at hts (i := 7) (w := .initialized Bundle.tN) (by decide +kernel)
  exact ⟨dp, fs, vx_Zqof (tw_at hts (i := 398) (by decide +kernel)) ht (hf (.isRef (.static Bundle.tN "UNASSIGNED_STACK" Bundle.steD)) (by decide +kernel)) hA, vx_Zqof (tw_at hts (i := 400) (by decide +kernel)) ht (hf (.isRef (.static Bundle.tN "SUPPRESSED_SENTINEL" Bundle.listD)) (by decide +kernel)) hA,
    ⟨va_Zref (tw_at hts (i := 31) (by decide +kernel)) hi d1 hA, d2⟩, ⟨va_Zref (tw_at hts (i := 40) (by decide +kernel)) hi f1 hA, f2⟩⟩
