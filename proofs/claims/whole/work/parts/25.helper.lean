theorem zXw_cast : Cond.castable NSE NSE ∈ zXw := by decide +kernel
theorem z_exc1 {c : Code} {a1 a2 a3 a4 : Nat} (h : c.exceptionTable.toList.map (fun h => (h.startPc, h.endPc, h.handlerPc, h.catchType)) = [(a1, a2, a3, a4)]) : ∃ x, c.exceptionTable.toList = [x] ∧ x.startPc = a1 ∧ x.endPc = a2 ∧ x.handlerPc = a3 ∧ x.catchType = a4 := by
  cases ht : c.exceptionTable.toList with
  | nil => rw [ht] at h; simp at h
  | cons x r =>
    cases r with
    | nil =>
      rw [ht] at h
      simp only [List.map_cons, List.map_nil, List.cons.injEq, Prod.mk.injEq, and_true] at h
      exact ⟨x, rfl, h.1, h.2.1, h.2.2.1, h.2.2.2⟩
    | cons y r => rw [ht] at h; simp at h
section ZLs
variable {p : Program} {l : Launch} {e : Env} {R : Room} {s : State} {m : MethodId} {args : Array Value} {below : List Frame} {meth : Method} {c : Code} {H : Heap} {locs : List Loc} {cells slots : Nat} {Q : State → Prop}
variable {cc : ByteArray} {pc nL : Nat} {ls : Array Slot} {rest : List Value} {D : va_G} {A : Nat → Prop} {tys : List (ClassId × FieldType)} {ws : va_W}
theorem z_lst {own : String} {a n : Nat} {cA : ClassId} {f : Nat → Int64} {i : Int32} {x : Int64} {ws' : va_W} (E : CallFix p m c cc nL s args zB own) (hK : va_K D vwCl tys s) (G : zG D A s H locs ws) (q0 t0 : Nat) (ha : ws[q0]? = some (a, .inl (cA, n, .inr (.inl f)))) (ht : tys[t0]? = some (cA, .long)) (hin : vp_in i n) (hws : ws.set q0 (a, .inl (cA, n, .inr (.inl (vp_updL f i.toNatClampNeg x)))) = ws') (hdg : decode cc pc = .ok (.lastore, 1))
    (kk : ∀ (H1 : Heap) (locs1 : List Loc), zG D A s H1 locs1 ws' → W p l e R s m args below meth c H1 locs1 cells slots Q (F0 m (pc + 1) ls rest)) : W p l e R s m args below meth c H locs cells slots Q (F0 m pc ls (.long x :: .int i :: .ref a :: rest)) := by
  subst hws
  exact va_last E.1 E.2.1 hK G.1 G.2.1 G.2.2 q0 t0 ha ht hin hdg (fun H1 l1 a1 a2 a3 => kk H1 l1 ⟨a1, a2, a3⟩)
theorem z_lld {own : String} {a n : Nat} {cA : ClassId} {f : Nat → Int64} {i : Int32} (E : CallFix p m c cc nL s args zB own) (hK : va_K D vwCl tys s) (hP : va_P D vwCl ws H) (q0 t0 : Nat) (ha : ws[q0]? = some (a, .inl (cA, n, .inr (.inl f)))) (ht : tys[t0]? = some (cA, .long)) (hin : vp_in i n) (hdg : decode cc pc = .ok (.laload, 1))
    (kk : W p l e R s m args below meth c H locs cells slots Q (F0 m (pc + 1) ls (.long (f i.toNatClampNeg) :: rest))) : W p l e R s m args below meth c H locs cells slots Q (F0 m pc ls (.int i :: .ref a :: rest)) :=
  va_lald E.1 E.2.1 hK hP q0 t0 ha ht hin hdg kk
end ZLs
section HL
variable {p : Program} {l : Launch} {e : Env} {s : State} {m : MethodId} {below : List Frame} {meth : Method} {c0 : Code} {D : va_G} {cI cJ : ClassId} {a b : Nat → Nat} {o : Nat} {nw : Int32} {k n c : Nat} {Z P U V : Nat → Nat → Int32} {th nw' k' n' c' : Int32} {Z' P' U' V' : Nat → Nat → Int32} {g : Nat → Int64} {A : Nat → Prop} {p0 p1 : Int32} {ls : Array Slot}
set_option maxHeartbeats 4000000 in
set_option maxRecDepth 100000 in
theorem h_request_ret (hk : k ≤ 20) (hn : n ≤ 60) (hc : c ≤ 300) (hh : ¬ f_Q_has c p0 = 0) (hw : p1 = 0 ∨ p1 = 1 ∨ p1 = 2 ∨ p1 = 3 ∨ p1 = 4 ∨ p1 = 5) (E : CallFix p m c0 b_L_request 5 s ([.ref (a 0), .int p0, .int p1, .ref o] : List Value).toArray zB R_L) (hrt : meth.sig.returnType = some .int) (hlk : meth.locks = false) (hexc : c0.exceptionTable.toList.map (fun h => (h.startPc, h.endPc, h.handlerPc, h.catchType)) = [(0, 10, 13, 13)]) (hN : zN s) (hK : va_K D vwCl [(cI, .int), (cJ, .long)] s) (hA : ∀ q, s.heap.size ≤ q → A q) (G : zG D A s s.heap [] (wL a b o cI cJ nw (nI k) (nI n) (nI c) Z P U V th nw' k' n' c' Z' P' U' V' g)) (hl : lv_has ls 5 [(0, .ref (a 0)), (1, .int p0), (2, .int p1), (3, .ref o)]) :
    W p l e { frames := 8, cells := 1, slots := 6, locals := 160 } s m ([.ref (a 0), .int p0, .int p1, .ref o] : List Value).toArray below meth c0 s.heap [] 0 0 (MQ below (zQ D A (wL a b o cI cJ nw (nI k) (nI n) (nI c) Z P U V th nw' k' n' c' Z' P' U' V' (vp_updL g 0 (f_X_request c V p0 p1).toInt64)) (some (.int 0))) ([.ref (a 0), .int p0, .int p1, .ref o] : List Value).toArray s 1 6 A) (F0 m 0 ls []) := by
  have hx := E.1
  have hb := E.2.1
  have hK1 : va_K D vwCl [(cI, .int)] s := hK.sub [0] rfl
  refine lv_aload_n hx hb d_L_request_0 rfl (lv_at hl 3 rfl) ?_
  refine lv_iconst (v := 0) hx hb d_L_request_1 (by decide) ?_
  refine lv_aload_n hx hb d_L_request_2 rfl (lv_at hl 0 rfl) ?_
  refine lv_iload_n hx hb d_L_request_3 rfl (lv_at hl 1 rfl) ?_
  refine lv_iload_n hx hb d_L_request_4 rfl (lv_at hl 2 rfl) ?_
  refine z_rv (As := [.int p0, .int p1]) (rest := [.int 0, .ref o]) E hN hK1 G.1 hl.1 (c_X_request l D cI a nw k n c Z P U V p0 p1 hk hn hc hh hw) [0, 1, 2, 3, 4, 5, 6, 7, 8, 9, 10, 11, 12, 13, 14, 15, 16, 17, 18, 19, 20, 21] rfl 0 rfl rfl kl_request rfl ⟨Nat.le_of_ble_eq_true rfl, Nat.le_of_ble_eq_true rfl⟩ rfl (Nat.le_of_ble_eq_true rfl) ⟨Nat.zero_le _, Nat.zero_le _⟩ d_L_request_5 ?_
  refine lv_i2l (v := (f_X_request c V p0 p1).toInt64) hx hb d_L_request_8 rfl ?_
  refine z_lst (f := g) (ws' := wL a b o cI cJ nw (nI k) (nI n) (nI c) Z P U V th nw' k' n' c' Z' P' U' V' (vp_updL g 0 (f_X_request c V p0 p1).toInt64)) E hK G 40 1 rfl rfl (vp_in_nI (n := 0) (by decide) (by decide)) rfl d_L_request_9 (fun H locs G => ?_)
  refine lv_goto (tgt := 17) hx hb d_L_request_10 (by decide) ?_
  refine lv_iconst (v := 0) hx hb d_L_request_17 (by decide) ?_
  refine W.widen (k := 1) (n := 6) (by decide) (by decide) ?_
  exact zW.iret E hrt hlk G rfl rfl d_L_request_18
set_option maxHeartbeats 4000000 in
set_option maxRecDepth 100000 in
theorem h_request_thr (hk : k ≤ 20) (hn : n ≤ 60) (hc : c ≤ 300) (hfl : l.flags = flags0) (hZ : zTx s) (hbad : f_Q_has c p0 = 0 ∨ (¬ p1 = 0 ∧ ¬ p1 = 1 ∧ ¬ p1 = 2 ∧ ¬ p1 = 3 ∧ ¬ p1 = 4 ∧ ¬ p1 = 5)) (E : CallFix p m c0 b_L_request 5 s ([.ref (a 0), .int p0, .int p1, .ref o] : List Value).toArray zB R_L) (hrt : meth.sig.returnType = some .int) (hlk : meth.locks = false) (hexc : c0.exceptionTable.toList.map (fun h => (h.startPc, h.endPc, h.handlerPc, h.catchType)) = [(0, 10, 13, 13)]) (hN : zN s) (hK : va_K D vwCl [(cI, .int), (cJ, .long)] s) (hA : ∀ q, s.heap.size ≤ q → A q) (G : zG D A s s.heap [] (wL a b o cI cJ nw (nI k) (nI n) (nI c) Z P U V th nw' k' n' c' Z' P' U' V' g)) (hl : lv_has ls 5 [(0, .ref (a 0)), (1, .int p0), (2, .int p1), (3, .ref o)]) :
    W p l e { frames := 8, cells := 1, slots := 6, locals := 160 } s m ([.ref (a 0), .int p0, .int p1, .ref o] : List Value).toArray below meth c0 s.heap [] 0 0 (MQ below (zQ D A (wL a b o cI cJ nw (nI k) (nI n) (nI c) Z P U V th nw' k' n' c' Z' P' U' V' g) (some (.int 1))) ([.ref (a 0), .int p0, .int p1, .ref o] : List Value).toArray s 1 6 A) (F0 m 0 ls []) := by
  have hx := E.1
  have hb := E.2.1
  have hK1 : va_K D vwCl [(cI, .int)] s := hK.sub [0] rfl
  refine lv_aload_n hx hb d_L_request_0 rfl (lv_at hl 3 rfl) ?_
  refine lv_iconst (v := 0) hx hb d_L_request_1 (by decide) ?_
  refine lv_aload_n hx hb d_L_request_2 rfl (lv_at hl 0 rfl) ?_
  refine lv_iload_n hx hb d_L_request_3 rfl (lv_at hl 1 rfl) ?_
  refine lv_iload_n hx hb d_L_request_4 rfl (lv_at hl 2 rfl) ?_
  obtain ⟨x, hsp, hx1, hx2, hx3, hx4⟩ := z_exc1 hexc
  refine z_walkX (name := NSE) (q0 := 0) (As := [.int p0, .int p1]) (rest := [.int 0, .ref o]) (R' := { frames := 6, cells := 1, slots := 6, locals := 110 }) (x := x) E hN hK1 hA G hl.1 rfl rfl kl_request (by decide +kernel) rfl (Nat.le_of_ble_eq_true rfl) ⟨Nat.le_of_ble_eq_true rfl, Nat.le_of_ble_eq_true rfl⟩ rfl (Nat.le_of_ble_eq_true rfl) ⟨Nat.le_of_ble_eq_true rfl, Nat.le_of_ble_eq_true rfl⟩ ⟨Nat.le_of_ble_eq_true rfl, Nat.le_of_ble_eq_true rfl⟩ d_L_request_5 hsp (by simp [covers, hx1, hx2]) (by rw [hx4]; decide) (by rw [hx4]; exact kl_nse) (hZ.1 _ zXw_cast _) ?_ ?_
  · intro s1 mk b1 methk ck ls1 hW hH E1 hrt1 hlk1 hex1 hN1 hK2 hP1 hl1
    exact x_request_thr hc E1 hlk1 hfl hN1 hK2 (zTx.go hW (fun q hq => by rw [hH]) hZ) hex1 (hP1.sub [0, 1, 2, 3, 4, 5, 6, 7, 8, 9, 10, 11, 12, 13, 14, 15, 16, 17, 18, 19, 20, 21] rfl) hl1 hbad
  · intro H q9 G
    rw [hx3]
    refine lv_astore (lv' := [(4, .ref q9), (0, .ref (a 0)), (1, .int p0), (2, .int p1), (3, .ref o)]) hx hb d_L_request_13 hl (by decide) rfl (fun ls hl => ?_)
    refine lv_iconst (v := 1) hx hb d_L_request_15 (by decide) ?_
    exact zW.iret E hrt hlk G rfl rfl d_L_request_16
set_option maxHeartbeats 4000000 in
set_option maxRecDepth 100000 in
theorem h_waits_ret (hk : k ≤ 20) (hn : n ≤ 60) (hc : c ≤ 300) (hh : ¬ f_Q_openOf c V p0 p1 = (-1)) (E : CallFix p m c0 b_L_waits 5 s ([.ref (a 0), .int p0, .int p1, .ref o] : List Value).toArray zB R_L) (hrt : meth.sig.returnType = some .int) (hlk : meth.locks = false) (hexc : c0.exceptionTable.toList.map (fun h => (h.startPc, h.endPc, h.handlerPc, h.catchType)) = [(0, 10, 13, 13)]) (hN : zN s) (hK : va_K D vwCl [(cI, .int), (cJ, .long)] s) (hA : ∀ q, s.heap.size ≤ q → A q) (G : zG D A s s.heap [] (wL a b o cI cJ nw (nI k) (nI n) (nI c) Z P U V th nw' k' n' c' Z' P' U' V' g)) (hl : lv_has ls 5 [(0, .ref (a 0)), (1, .int p0), (2, .int p1), (3, .ref o)]) :
    W p l e { frames := 8, cells := 1, slots := 6, locals := 160 } s m ([.ref (a 0), .int p0, .int p1, .ref o] : List Value).toArray below meth c0 s.heap [] 0 0 (MQ below (zQ D A (wL a b o cI cJ nw (nI k) (nI n) (nI c) Z P U V th nw' k' n' c' Z' P' U' V' (vp_updL g 0 (f_X_waits c V p0 p1).toInt64)) (some (.int 0))) ([.ref (a 0), .int p0, .int p1, .ref o] : List Value).toArray s 1 6 A) (F0 m 0 ls []) := by
  have hx := E.1
  have hb := E.2.1
  have hK1 : va_K D vwCl [(cI, .int)] s := hK.sub [0] rfl
  refine lv_aload_n hx hb d_L_waits_0 rfl (lv_at hl 3 rfl) ?_
  refine lv_iconst (v := 0) hx hb d_L_waits_1 (by decide) ?_
  refine lv_aload_n hx hb d_L_waits_2 rfl (lv_at hl 0 rfl) ?_
  refine lv_iload_n hx hb d_L_waits_3 rfl (lv_at hl 1 rfl) ?_
  refine lv_iload_n hx hb d_L_waits_4 rfl (lv_at hl 2 rfl) ?_
  refine z_rv (As := [.int p0, .int p1]) (rest := [.int 0, .ref o]) E hN hK1 G.1 hl.1 (c_X_waits l D cI a nw k n c Z P U V p0 p1 hk hn hc hh) [0, 1, 2, 3, 4, 5, 6, 7, 8, 9, 10, 11, 12, 13, 14, 15, 16, 17, 18, 19, 20, 21] rfl 0 rfl rfl kl_waits rfl ⟨Nat.le_of_ble_eq_true rfl, Nat.le_of_ble_eq_true rfl⟩ rfl (Nat.le_of_ble_eq_true rfl) ⟨Nat.zero_le _, Nat.zero_le _⟩ d_L_waits_5 ?_
  refine lv_i2l (v := (f_X_waits c V p0 p1).toInt64) hx hb d_L_waits_8 rfl ?_
  refine z_lst (f := g) (ws' := wL a b o cI cJ nw (nI k) (nI n) (nI c) Z P U V th nw' k' n' c' Z' P' U' V' (vp_updL g 0 (f_X_waits c V p0 p1).toInt64)) E hK G 40 1 rfl rfl (vp_in_nI (n := 0) (by decide) (by decide)) rfl d_L_waits_9 (fun H locs G => ?_)
  refine lv_goto (tgt := 17) hx hb d_L_waits_10 (by decide) ?_
  refine lv_iconst (v := 0) hx hb d_L_waits_17 (by decide) ?_
  refine W.widen (k := 1) (n := 6) (by decide) (by decide) ?_
  exact zW.iret E hrt hlk G rfl rfl d_L_waits_18
set_option maxHeartbeats 4000000 in
set_option maxRecDepth 100000 in
theorem h_waits_thr (hk : k ≤ 20) (hn : n ≤ 60) (hc : c ≤ 300) (hfl : l.flags = flags0) (hZ : zTx s) (hbad : f_Q_openOf c V p0 p1 = (-1)) (E : CallFix p m c0 b_L_waits 5 s ([.ref (a 0), .int p0, .int p1, .ref o] : List Value).toArray zB R_L) (hrt : meth.sig.returnType = some .int) (hlk : meth.locks = false) (hexc : c0.exceptionTable.toList.map (fun h => (h.startPc, h.endPc, h.handlerPc, h.catchType)) = [(0, 10, 13, 13)]) (hN : zN s) (hK : va_K D vwCl [(cI, .int), (cJ, .long)] s) (hA : ∀ q, s.heap.size ≤ q → A q) (G : zG D A s s.heap [] (wL a b o cI cJ nw (nI k) (nI n) (nI c) Z P U V th nw' k' n' c' Z' P' U' V' g)) (hl : lv_has ls 5 [(0, .ref (a 0)), (1, .int p0), (2, .int p1), (3, .ref o)]) :
    W p l e { frames := 8, cells := 1, slots := 6, locals := 160 } s m ([.ref (a 0), .int p0, .int p1, .ref o] : List Value).toArray below meth c0 s.heap [] 0 0 (MQ below (zQ D A (wL a b o cI cJ nw (nI k) (nI n) (nI c) Z P U V th nw' k' n' c' Z' P' U' V' g) (some (.int 1))) ([.ref (a 0), .int p0, .int p1, .ref o] : List Value).toArray s 1 6 A) (F0 m 0 ls []) := by
  have hx := E.1
  have hb := E.2.1
  have hK1 : va_K D vwCl [(cI, .int)] s := hK.sub [0] rfl
  refine lv_aload_n hx hb d_L_waits_0 rfl (lv_at hl 3 rfl) ?_
  refine lv_iconst (v := 0) hx hb d_L_waits_1 (by decide) ?_
  refine lv_aload_n hx hb d_L_waits_2 rfl (lv_at hl 0 rfl) ?_
  refine lv_iload_n hx hb d_L_waits_3 rfl (lv_at hl 1 rfl) ?_
  refine lv_iload_n hx hb d_L_waits_4 rfl (lv_at hl 2 rfl) ?_
  obtain ⟨x, hsp, hx1, hx2, hx3, hx4⟩ := z_exc1 hexc
  refine z_walkX (name := NSE) (q0 := 0) (As := [.int p0, .int p1]) (rest := [.int 0, .ref o]) (R' := { frames := 6, cells := 1, slots := 6, locals := 110 }) (x := x) E hN hK1 hA G hl.1 rfl rfl kl_waits (by decide +kernel) rfl (Nat.le_of_ble_eq_true rfl) ⟨Nat.le_of_ble_eq_true rfl, Nat.le_of_ble_eq_true rfl⟩ rfl (Nat.le_of_ble_eq_true rfl) ⟨Nat.le_of_ble_eq_true rfl, Nat.le_of_ble_eq_true rfl⟩ ⟨Nat.le_of_ble_eq_true rfl, Nat.le_of_ble_eq_true rfl⟩ d_L_waits_5 hsp (by simp [covers, hx1, hx2]) (by rw [hx4]; decide) (by rw [hx4]; exact kl_nse) (hZ.1 _ zXw_cast _) ?_ ?_
  · intro s1 mk b1 methk ck ls1 hW hH E1 hrt1 hlk1 hex1 hN1 hK2 hP1 hl1
    exact x_waits_thr hc E1 hlk1 hfl hN1 hK2 (zTx.go hW (fun q hq => by rw [hH]) hZ) hex1 (hP1.sub [0, 1, 2, 3, 4, 5, 6, 7, 8, 9, 10, 11, 12, 13, 14, 15, 16, 17, 18, 19, 20, 21] rfl) hl1 hbad
  · intro H q9 G
    rw [hx3]
    refine lv_astore (lv' := [(4, .ref q9), (0, .ref (a 0)), (1, .int p0), (2, .int p1), (3, .ref o)]) hx hb d_L_waits_13 hl (by decide) rfl (fun ls hl => ?_)
    refine lv_iconst (v := 1) hx hb d_L_waits_15 (by decide) ?_
    exact zW.iret E hrt hlk G rfl rfl d_L_waits_16
end HL
