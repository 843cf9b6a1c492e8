/-! the whole object's words -/
def mainW (K : Nat → ClassId) (a b t c : Nat → Nat) (g : Nat → Nat → Nat) (sn : Nat) : va_W := [(c 0, .inr (3, [.ref (a 0), .ref (c 1), .int (nI sn), .ref (t 0), .ref (b 0)])), (c 1, .inl (K 1, 6, .inr (.inr (.inr (.inr (fun j => some (g j 0)))))))]
def svW (K : Nat → ClassId) (g : Nat → Nat → Nat) (Sv : Nat → TW) (X : va_W) : va_W := townW K (g 0) (Sv 0) ++ (townW K (g 1) (Sv 1) ++ (townW K (g 2) (Sv 2) ++ (townW K (g 3) (Sv 3) ++ (townW K (g 4) (Sv 4) ++ (townW K (g 5) (Sv 5) ++ X)))))
def rotG (g : Nat → Nat → Nat) : Nat → Nat → Nat := fun j => if j < 5 then g (j + 1) else g 0
def rotS (Sv : Nat → TW) (T : TW) : Nat → TW := fun j => if j < 5 then Sv (j + 1) else T
theorem cell_congQ {cA : ClassId} {n : Nat} {f g : Nat → Option Nat} (h : ∀ j, j < n → f j = g j) : vp_cell cA (n, .inr (.inr (.inr (.inr f)))) = vp_cell cA (n, .inr (.inr (.inr (.inr g)))) := by
  rw [vp_cell_q, vp_cell_q]
  unfold arrV
  have e : (fun j : Fin n => va_rf (f j.val)) = (fun j : Fin n => va_rf (g j.val)) := funext fun j => by rw [h j.val j.isLt]
  rw [e]
theorem va_P.congQ {D : va_G} {cl : List vw_C} {ws : va_W} {H : Heap} {q0 h n : Nat} {cA : ClassId} {f g : Nat → Option Nat} (hP : va_P D cl (ws.set q0 (h, .inl (cA, n, .inr (.inr (.inr (.inr f)))))) H) (e : ∀ j, j < n → f j = g j) : va_P D cl (ws.set q0 (h, .inl (cA, n, .inr (.inr (.inr (.inr g)))))) H := by
  intro k q hk
  rw [List.getElem?_set] at hk
  have hp := hP k
  rw [List.getElem?_set] at hp
  split at hk
  · rename_i hkq
    split at hk
    · rename_i hl
      rw [if_pos hkq, if_pos hl] at hp
      cases hk
      have h1 := hp _ rfl
      show H[h]? = some (vp_cell cA (n, .inr (.inr (.inr (.inr g)))))
      rw [← cell_congQ e]
      exact h1
    · cases hk
  · rename_i hkq
    rw [if_neg hkq] at hp
    exact hp q hk
/-- the order of the cells is free -/
theorem va_P.perm {D : va_G} {cl : List vw_C} {ws w2 : va_W} {H : Heap} (hP : va_P D cl ws H) (h : ws.Perm w2) : va_P D cl w2 H := by
  intro k q hk
  obtain ⟨i, hi⟩ := List.getElem?_of_mem (h.mem_iff.mpr (List.mem_of_getElem? hk))
  exact hP i q hi
theorem va_D.iff {A : Nat → Prop} {ws : va_W} : va_D A ws ↔ (ws.map Prod.fst).Nodup ∧ ∀ q ∈ ws, A q.1 := by
  constructor
  · intro h
    refine ⟨List.pairwise_iff_getElem.mpr fun i j hi hj hij => ?_, fun q hq => ?_⟩
    · intro e
      rw [List.length_map] at hi hj
      rw [List.getElem_map, List.getElem_map] at e
      have := h.1 i j _ _ (List.getElem?_eq_getElem hi) (List.getElem?_eq_getElem hj) e
      omega
    · obtain ⟨i, hi⟩ := List.getElem?_of_mem hq
      exact h.2 i q hi
  · intro h
    refine ⟨fun i j p q hi hj hpq => ?_, fun k q hk => h.2 q (List.mem_of_getElem? hk)⟩
    obtain ⟨hi', ei⟩ := List.getElem?_eq_some_iff.mp hi
    obtain ⟨hj', ej⟩ := List.getElem?_eq_some_iff.mp hj
    have hn := List.pairwise_iff_getElem.mp h.1
    rcases Nat.lt_trichotomy i j with q1 | q1 | q1
    · refine absurd ?_ (hn i j (by rw [List.length_map]; exact hi') (by rw [List.length_map]; exact hj') q1)
      rw [List.getElem_map, List.getElem_map, ei, ej]
      exact hpq
    · exact q1
    · refine absurd ?_ (hn j i (by rw [List.length_map]; exact hj') (by rw [List.length_map]; exact hi') q1)
      rw [List.getElem_map, List.getElem_map, ei, ej]
      exact hpq.symm
theorem va_D.perm {A : Nat → Prop} {ws w2 : va_W} (hD : va_D A ws) (h : ws.Perm w2) : va_D A w2 := by
  rw [va_D.iff] at hD ⊢
  exact ⟨(h.map Prod.fst).nodup_iff.mp hD.1, fun q hq => hD.2 q (h.mem_iff.mpr hq)⟩
theorem sv_perm (K : Nat → ClassId) (g : Nat → Nat → Nat) (Sv : Nat → TW) (T : TW) (X : va_W) : (svW K g (va_up Sv 0 T) X).Perm (svW K (rotG g) (rotS Sv T) X) := by
  show (townW K (g 0) T ++ (townW K (g 1) (Sv 1) ++ (townW K (g 2) (Sv 2) ++ (townW K (g 3) (Sv 3) ++ (townW K (g 4) (Sv 4) ++ (townW K (g 5) (Sv 5) ++ X)))))).Perm (townW K (g 1) (Sv 1) ++ (townW K (g 2) (Sv 2) ++ (townW K (g 3) (Sv 3) ++ (townW K (g 4) (Sv 4) ++ (townW K (g 5) (Sv 5) ++ (townW K (g 0) T ++ X))))))
  refine (List.perm_append_comm_assoc _ _ _).trans (List.Perm.append_left _ ?_)
  refine (List.perm_append_comm_assoc _ _ _).trans (List.Perm.append_left _ ?_)
  refine (List.perm_append_comm_assoc _ _ _).trans (List.Perm.append_left _ ?_)
  refine (List.perm_append_comm_assoc _ _ _).trans (List.Perm.append_left _ ?_)
  exact List.perm_append_comm_assoc _ _ _
section ROWQ
variable {p : Program} {l : Launch} {e : Env} {R : Room} {s : State} {m : MethodId} {args : Array Value} {below : List Frame} {meth : Method} {c : Code} {H H0 : Heap} {locs : List Loc} {cells slots : Nat} {Q : State → Prop}
variable {cc : ByteArray} {pc : Nat} {ls : Array Slot} {rest : List Value} {D : va_G} {K : Nat → ClassId} {A : Nat → Prop} {a : Nat} {ws : va_W}
theorem nv_aald (hx : p.tables.exec = Jvm.exec) (hb : c.code = cc) (hE : ev D K s) (hP : va_P D vwCl ws H) (q0 i : Nat) {n : Nat} (f : Nat → Nat) (ha : ws[q0]? = some (a, .inl (K 1, n, .inr (.inr (.inr (.inr (fun j => some (f j)))))))) (hi : i < n) (hn : n < 2 ^ 31) (hdg : decode cc pc = .ok (.aaload, 1)) (kk : W p l e R s m args below meth c H locs cells slots Q (F0 m (pc + 1) ls (.ref (f i) :: rest))) : W p l e R s m args below meth c H locs cells slots Q (F0 m pc ls (.int (nI i) :: .ref a :: rest)) := by
  refine va_aldq hx hb hE.1 hP q0 1 ha rfl (pk_in i n hi rfl hn) hdg ?_
  rw [pk_cl i rfl (by omega)]
  exact kk
theorem nv_aast (hx : p.tables.exec = Jvm.exec) (hb : c.code = cc) (hE : ev D K s) (hP : va_P D vwCl ws H) (hD : va_D A ws) (hS : va_S A H0 H locs) (q0 qk i : Nat) {n v : Nat} {vs : List Value} (f : Nat → Nat) (ha : ws[q0]? = some (a, .inl (K 1, n, .inr (.inr (.inr (.inr (fun j => some (f j)))))))) (hv : ws[qk]? = some (v, .inr (1, vs))) (hi : i < n) (hn : n < 2 ^ 31) (hdg : decode cc pc = .ok (.aastore, 1)) (kk : ∀ (H1 : Heap) (locs1 : List Loc), va_P D vwCl (ws.set q0 (a, .inl (K 1, n, .inr (.inr (.inr (.inr (fun j => some (va_up f i v j)))))))) H1 → va_D A (ws.set q0 (a, .inl (K 1, n, .inr (.inr (.inr (.inr (fun j => some (va_up f i v j)))))))) → va_S A H0 H1 locs1 → W p l e R s m args below meth c H1 locs1 cells slots Q (F0 m (pc + 1) ls rest)) : W p l e R s m args below meth c H locs cells slots Q (F0 m pc ls (.ref v :: .int (nI i) :: .ref a :: rest)) := by
  refine va_astq hx hb hE.1 hP hD hS q0 1 qk 1 ha (r := (RX1, TX1, 12)) rfl hv rfl (pk_in i n hi rfl hn) hdg (fun H1 locs1 h1 h2 h3 => ?_)
  rw [pk_cl i rfl (by omega)] at h1 h2
  have e : va_up (fun j => some (f j)) i (some v) = fun j => some (va_up f i v j) := by
    funext j
    unfold va_up
    split <;> rfl
  rw [e] at h1 h2
  exact kk H1 locs1 h1 h2 h3
end ROWQ
def sumI (f : Nat → Int32) : Nat → Int32
  | 0 => 0
  | k + 1 => sumI f k + f k
def svN (sn : Nat) : Nat := if sn < 6 then sn + 1 else 6
def svG (g : Nat → Nat → Nat) (sn : Nat) : Nat → Nat → Nat := if sn < 6 then g else rotG g
def svV (Sv : Nat → TW) (sn : Nat) (T : TW) : Nat → TW := if sn < 6 then va_up Sv sn T else rotS Sv T
theorem svN_le {sn : Nat} (_h : sn ≤ 6) : svN sn ≤ 6 := by unfold svN; split <;> omega
theorem lit_4 : (4 : Int32) = nI 4 := rfl
theorem lit_9 : (9 : Int32) = nI 9 := rfl
def stvR (k : Nat) (x : Int32) : Bool := if k = 1 then inR 1 4 x else inR 0 9 x
def rchT (T : TW) (t : Nat) : Bool := match plT T t with
  | none => false
  | some p => onT T p t
def psT (T : TW) (s w : Nat) : Int32 := if w = 0 then nI (mkT T s) else if w = 1 then oI (owT T s) else if w = 2 then bI (hsT T s) else oI (lowT T (some s))
def ptT (T : TW) (t w : Nat) : Int32 := if sqT T t = none then -1 else if w = 0 then oI (sqT T t) else if w = 1 then oI (plT T t) else bI (rchT T t)
def ppT (T : TW) (p w : Nat) : Int32 := if w = 0 then coT T p else if w = 1 then nI (lenT T p) else if w = 2 then nI (hdT T p) else if w = 3 then oI (laT T p) else if w = 4 then nI (ownsT T p) else if w = 5 then nI (slT T p) else if w = 6 then nI (srT T p) else if w = 7 then bI (joinT T p) else if w = 8 then T 8 p else T 9 p
def nbrT (T : TW) (sn w : Nat) : Int32 := if w = 0 then sumI (T 0) 80 else if w = 1 then nI (stopsT T) else if w = 2 then nI (swT T 1) else if w = 3 then nI (swT T 2) else if w = 4 then T 11 0 else if w = 5 then sumI (T 8) 4 else if w = 6 then nI (ljT T) else nI sn
