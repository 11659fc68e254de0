section LB
variable {p : Program} {l : Launch} {e : Env} {s : State} {m : MethodId} {below : List Frame} {meth : Method} {c0 : Code} {D : va_G} {cI cJ : ClassId} {a bb : Nat → Nat} {o b L : Nat} {xs : Nat → Int32} {nw th : Int32} {k n c : Nat} {Z P U V PM : N2} {g : Nat → Int64} {A : Nat → Prop} {i : Int32} {ls : Array Slot} {H : Heap} {locs : List Loc} {cells slots : Nat}
set_option maxHeartbeats 4000000 in
set_option maxRecDepth 100000 in
theorem lw_mend (E : CallFix p m c0 b_L_law 7 s #[Value.ref b] zB R_L) (hN : zN s) (hK : va_K D vwCl [(cI, .int), (cJ, .long)] s) (hA : ∀ q, s.heap.size ≤ q → A q) (hAq : ∀ q, q < s.heap.size → ¬ A q) (hX : va_X b L xs s s.heap) (hbl : b < s.heap.size) (h1 : vp_in (i + 1) L) (h2 : vp_in (i + 2) L) (h3 : vp_in (i + 3) L) (hcs : cells + 1 ≤ room_1.cells ∧ slots + 6 ≤ room_1.slots) (hR : Rel nw k n c Z P U V PM) (G : zG D A s H locs (wL a bb o cI cJ nw (nI k) (nI n) (nI c) Z P U V th nw (nI k) (nI n) (nI c) Z PM U V g)) (hl : lv_has ls 7 [(0, .ref b), (1, .ref (a 0)), (2, .ref (bb 0)), (3, .ref o), (4, .int i)]) (kk : lwNext p l e s m below meth c0 D cI cJ a bb o b A k i (cells + 1) (slots + 6)) : W p l e room_1 s m #[Value.ref b] below meth c0 H locs cells slots (lw_Z below #[Value.ref b] s) (F0 m 379 ls []) := by
  have hx := E.1
  have hb := E.2.1
  have hK1 : va_K D vwCl [(cI, .int)] s := hK.sub [0] rfl
  have hk := hR.1.1
  have hn := hR.1.2.1
  have hc := hR.1.2.2.1
  have hcs0 : cells ≤ room_1.cells ∧ slots ≤ room_1.slots := ⟨by omega, by omega⟩
  obtain ⟨r, nw1, th1, n1, c1, Z1, P1, U1, V1, PM1, eX, eM, hR1⟩ := ok_mend hR (xs (i + 1).toNatClampNeg)
  have cX : zW l D [(cI, .int)] y_X_mend b_X_mend 2 (some .int) 3 64 (.ref (a 0) :: [.int (xs (i + 1).toNatClampNeg)]) (wX a cI nw (nI k) (nI n) (nI c) Z P U V) (wX a cI nw1 (nI k) (nI n1) (nI c1) Z1 P1 U1 V1) (some (.int r)) := by
    have h := c_X_mend l D cI a nw k n c Z P U V (xs (i + 1).toNatClampNeg) hk hn hc
    rw [eX] at h
    exact h
  have cM : zW l D [(cI, .int)] y_M_mend b_M_mend 2 (some .int) 2 42 (.ref (bb 0) :: [.int (xs (i + 1).toNatClampNeg)]) (wM bb cI th nw (nI k) (nI n) (nI c) Z PM U V) (wM bb cI th1 nw1 (nI k) (nI n1) (nI c1) Z1 PM1 U1 V1) (some (.int r)) := by
    have h := c_M_mend l D cI bb th nw k n c Z PM U V (xs (i + 1).toNatClampNeg) hk hn hc 
    rw [eM] at h
    exact h
  refine lv_aload_n hx hb d_L_law_379 rfl (lv_at hl 1 rfl) ?_
  refine lv_aload_n hx hb d_L_law_380 rfl (lv_at hl 0 rfl) ?_
  refine lv_iload hx hb d_L_law_381 (lv_at hl 4 rfl) ?_
  refine lv_iconst (v := 1) hx hb d_L_law_383 (by decide) ?_
  refine lv_iadd hx hb d_L_law_384 ?_
  refine va_sld hx hb hX hbl (hAq b hbl) G.2.2 h1 d_L_law_385 ?_
  refine z_wv (As := [.int (xs (i + 1).toNatClampNeg)]) (rest := []) (wr := ([22, 23, 24, 25, 26, 27, 28, 29, 30, 31, 32, 33, 34, 35, 36, 37, 38, 39, 40] : List Nat).filterMap (fun j => (wL a bb o cI cJ nw (nI k) (nI n) (nI c) Z P U V th nw (nI k) (nI n) (nI c) Z PM U V g)[j]?)) (ws' := wL a bb o cI cJ nw1 (nI k) (nI n1) (nI c1) Z1 P1 U1 V1 th nw (nI k) (nI n) (nI c) Z PM U V g) E hN hK1 hA G hl.1 cX [0, 1, 2, 3, 4, 5, 6, 7, 8, 9, 10, 11, 12, 13, 14, 15, 16, 17, 18, 19, 20, 21] [22, 23, 24, 25, 26, 27, 28, 29, 30, 31, 32, 33, 34, 35, 36, 37, 38, 39, 40] [19, 20, 21, 22, 23, 24, 25, 26, 27, 28, 29, 30, 31, 32, 33, 34, 35, 36, 37, 38, 39, 40, 0, 1, 2, 3, 4, 5, 6, 7, 8, 9, 10, 11, 12, 13, 14, 15, 16, 17, 18] rfl rfl rfl rfl rfl rfl (by decide) 0 rfl rfl kl_X_mend rfl ⟨Nat.le_of_ble_eq_true rfl, Nat.le_of_ble_eq_true rfl⟩ rfl (Nat.le_of_ble_eq_true rfl) hcs0 d_L_law_386 (fun H locs G => ?_)
  refine lv_aload_n hx hb d_L_law_389 rfl (lv_at hl 2 rfl) ?_
  refine lv_aload_n hx hb d_L_law_390 rfl (lv_at hl 0 rfl) ?_
  refine lv_iload hx hb d_L_law_391 (lv_at hl 4 rfl) ?_
  refine lv_iconst (v := 1) hx hb d_L_law_393 (by decide) ?_
  refine lv_iadd hx hb d_L_law_394 ?_
  refine va_sld hx hb hX hbl (hAq b hbl) G.2.2 h1 d_L_law_395 ?_
  refine z_wv (As := [.int (xs (i + 1).toNatClampNeg)]) (rest := [.int r]) (wr := ([0, 1, 2, 3, 4, 5, 6, 7, 8, 9, 10, 11, 12, 13, 14, 15, 16, 17, 18, 19, 20, 21, 40] : List Nat).filterMap (fun j => (wL a bb o cI cJ nw1 (nI k) (nI n1) (nI c1) Z1 P1 U1 V1 th nw (nI k) (nI n) (nI c) Z PM U V g)[j]?)) (ws' := wL a bb o cI cJ nw1 (nI k) (nI n1) (nI c1) Z1 P1 U1 V1 th1 nw1 (nI k) (nI n1) (nI c1) Z1 PM1 U1 V1 g) E hN hK1 hA G hl.1 cM [22, 23, 24, 25, 26, 27, 28, 29, 30, 31, 32, 33, 34, 35, 36, 37, 38, 39] [0, 1, 2, 3, 4, 5, 6, 7, 8, 9, 10, 11, 12, 13, 14, 15, 16, 17, 18, 19, 20, 21, 40] [0, 1, 2, 3, 4, 5, 6, 7, 8, 9, 10, 11, 12, 13, 14, 15, 16, 17, 18, 19, 20, 21, 23, 24, 25, 26, 27, 28, 29, 30, 31, 32, 33, 34, 35, 36, 37, 38, 39, 40, 22] rfl rfl rfl rfl rfl rfl (by decide) 0 rfl rfl kl_M_mend rfl ⟨Nat.le_of_ble_eq_true rfl, Nat.le_of_ble_eq_true rfl⟩ rfl (Nat.le_of_ble_eq_true rfl) hcs0 d_L_law_396 (fun H locs G => ?_)
  refine lv_icmp_eq (tgt := 811) hx hb d_L_law_399 (by decide) (fun _ => ?_) (fun z => absurd rfl z)
  exact kk.up nw1 th1 n1 c1 Z1 P1 U1 V1 PM1 g H locs ls hR1 G hl
set_option maxHeartbeats 4000000 in
set_option maxRecDepth 100000 in
theorem lw_restrict (E : CallFix p m c0 b_L_law 7 s #[Value.ref b] zB R_L) (hN : zN s) (hK : va_K D vwCl [(cI, .int), (cJ, .long)] s) (hA : ∀ q, s.heap.size ≤ q → A q) (hAq : ∀ q, q < s.heap.size → ¬ A q) (hX : va_X b L xs s s.heap) (hbl : b < s.heap.size) (h1 : vp_in (i + 1) L) (h2 : vp_in (i + 2) L) (h3 : vp_in (i + 3) L) (hcs : cells + 1 ≤ room_1.cells ∧ slots + 6 ≤ room_1.slots) (hR : Rel nw k n c Z P U V PM) (G : zG D A s H locs (wL a bb o cI cJ nw (nI k) (nI n) (nI c) Z P U V th nw (nI k) (nI n) (nI c) Z PM U V g)) (hl : lv_has ls 7 [(0, .ref b), (1, .ref (a 0)), (2, .ref (bb 0)), (3, .ref o), (4, .int i)]) (kk : lwNext p l e s m below meth c0 D cI cJ a bb o b A k i (cells + 1) (slots + 6)) : W p l e room_1 s m #[Value.ref b] below meth c0 H locs cells slots (lw_Z below #[Value.ref b] s) (F0 m 404 ls []) := by
  have hx := E.1
  have hb := E.2.1
  have hK1 : va_K D vwCl [(cI, .int)] s := hK.sub [0] rfl
  have hk := hR.1.1
  have hn := hR.1.2.1
  have hc := hR.1.2.2.1
  have hcs0 : cells ≤ room_1.cells ∧ slots ≤ room_1.slots := ⟨by omega, by omega⟩
  obtain ⟨r, nw1, th1, n1, c1, Z1, P1, U1, V1, PM1, eX, eM, hR1⟩ := ok_restrict hR (xs (i + 1).toNatClampNeg) (xs (i + 2).toNatClampNeg)
  have cX : zW l D [(cI, .int)] y_X_restrict b_X_restrict 3 (some .int) 5 108 (.ref (a 0) :: [.int (xs (i + 1).toNatClampNeg), .int (xs (i + 2).toNatClampNeg)]) (wX a cI nw (nI k) (nI n) (nI c) Z P U V) (wX a cI nw1 (nI k) (nI n1) (nI c1) Z1 P1 U1 V1) (some (.int r)) := by
    have h := c_X_restrict l D cI a nw k n c Z P U V (xs (i + 1).toNatClampNeg) (xs (i + 2).toNatClampNeg) hk hn hc
    rw [eX] at h
    exact h
  have cM : zW l D [(cI, .int)] y_M_restrict b_M_restrict 5 (some .int) 2 42 (.ref (bb 0) :: [.int (xs (i + 1).toNatClampNeg), .int (xs (i + 2).toNatClampNeg)]) (wM bb cI th nw (nI k) (nI n) (nI c) Z PM U V) (wM bb cI th1 nw1 (nI k) (nI n1) (nI c1) Z1 PM1 U1 V1) (some (.int r)) := by
    have h := c_M_restrict l D cI bb th nw k n c Z PM U V (xs (i + 1).toNatClampNeg) (xs (i + 2).toNatClampNeg) hk hn hc hR.hV
    rw [eM] at h
    exact h
  refine lv_aload_n hx hb d_L_law_404 rfl (lv_at hl 1 rfl) ?_
  refine lv_aload_n hx hb d_L_law_405 rfl (lv_at hl 0 rfl) ?_
  refine lv_iload hx hb d_L_law_406 (lv_at hl 4 rfl) ?_
  refine lv_iconst (v := 1) hx hb d_L_law_408 (by decide) ?_
  refine lv_iadd hx hb d_L_law_409 ?_
  refine va_sld hx hb hX hbl (hAq b hbl) G.2.2 h1 d_L_law_410 ?_
  refine lv_aload_n hx hb d_L_law_411 rfl (lv_at hl 0 rfl) ?_
  refine lv_iload hx hb d_L_law_412 (lv_at hl 4 rfl) ?_
  refine lv_iconst (v := 2) hx hb d_L_law_414 (by decide) ?_
  refine lv_iadd hx hb d_L_law_415 ?_
  refine va_sld hx hb hX hbl (hAq b hbl) G.2.2 h2 d_L_law_416 ?_
  refine z_wv (As := [.int (xs (i + 1).toNatClampNeg), .int (xs (i + 2).toNatClampNeg)]) (rest := []) (wr := ([22, 23, 24, 25, 26, 27, 28, 29, 30, 31, 32, 33, 34, 35, 36, 37, 38, 39, 40] : List Nat).filterMap (fun j => (wL a bb o cI cJ nw (nI k) (nI n) (nI c) Z P U V th nw (nI k) (nI n) (nI c) Z PM U V g)[j]?)) (ws' := wL a bb o cI cJ nw1 (nI k) (nI n1) (nI c1) Z1 P1 U1 V1 th nw (nI k) (nI n) (nI c) Z PM U V g) E hN hK1 hA G hl.1 cX [0, 1, 2, 3, 4, 5, 6, 7, 8, 9, 10, 11, 12, 13, 14, 15, 16, 17, 18, 19, 20, 21] [22, 23, 24, 25, 26, 27, 28, 29, 30, 31, 32, 33, 34, 35, 36, 37, 38, 39, 40] [19, 20, 21, 22, 23, 24, 25, 26, 27, 28, 29, 30, 31, 32, 33, 34, 35, 36, 37, 38, 39, 40, 0, 1, 2, 3, 4, 5, 6, 7, 8, 9, 10, 11, 12, 13, 14, 15, 16, 17, 18] rfl rfl rfl rfl rfl rfl (by decide) 0 rfl rfl kl_X_restrict rfl ⟨Nat.le_of_ble_eq_true rfl, Nat.le_of_ble_eq_true rfl⟩ rfl (Nat.le_of_ble_eq_true rfl) hcs0 d_L_law_417 (fun H locs G => ?_)
  refine lv_aload_n hx hb d_L_law_420 rfl (lv_at hl 2 rfl) ?_
  refine lv_aload_n hx hb d_L_law_421 rfl (lv_at hl 0 rfl) ?_
  refine lv_iload hx hb d_L_law_422 (lv_at hl 4 rfl) ?_
  refine lv_iconst (v := 1) hx hb d_L_law_424 (by decide) ?_
  refine lv_iadd hx hb d_L_law_425 ?_
  refine va_sld hx hb hX hbl (hAq b hbl) G.2.2 h1 d_L_law_426 ?_
  refine lv_aload_n hx hb d_L_law_427 rfl (lv_at hl 0 rfl) ?_
  refine lv_iload hx hb d_L_law_428 (lv_at hl 4 rfl) ?_
  refine lv_iconst (v := 2) hx hb d_L_law_430 (by decide) ?_
  refine lv_iadd hx hb d_L_law_431 ?_
  refine va_sld hx hb hX hbl (hAq b hbl) G.2.2 h2 d_L_law_432 ?_
  refine z_wv (As := [.int (xs (i + 1).toNatClampNeg), .int (xs (i + 2).toNatClampNeg)]) (rest := [.int r]) (wr := ([0, 1, 2, 3, 4, 5, 6, 7, 8, 9, 10, 11, 12, 13, 14, 15, 16, 17, 18, 19, 20, 21, 40] : List Nat).filterMap (fun j => (wL a bb o cI cJ nw1 (nI k) (nI n1) (nI c1) Z1 P1 U1 V1 th nw (nI k) (nI n) (nI c) Z PM U V g)[j]?)) (ws' := wL a bb o cI cJ nw1 (nI k) (nI n1) (nI c1) Z1 P1 U1 V1 th1 nw1 (nI k) (nI n1) (nI c1) Z1 PM1 U1 V1 g) E hN hK1 hA G hl.1 cM [22, 23, 24, 25, 26, 27, 28, 29, 30, 31, 32, 33, 34, 35, 36, 37, 38, 39] [0, 1, 2, 3, 4, 5, 6, 7, 8, 9, 10, 11, 12, 13, 14, 15, 16, 17, 18, 19, 20, 21, 40] [0, 1, 2, 3, 4, 5, 6, 7, 8, 9, 10, 11, 12, 13, 14, 15, 16, 17, 18, 19, 20, 21, 23, 24, 25, 26, 27, 28, 29, 30, 31, 32, 33, 34, 35, 36, 37, 38, 39, 40, 22] rfl rfl rfl rfl rfl rfl (by decide) 0 rfl rfl kl_M_restrict rfl ⟨Nat.le_of_ble_eq_true rfl, Nat.le_of_ble_eq_true rfl⟩ rfl (Nat.le_of_ble_eq_true rfl) hcs0 d_L_law_433 (fun H locs G => ?_)
  refine lv_icmp_eq (tgt := 811) hx hb d_L_law_436 (by decide) (fun _ => ?_) (fun z => absurd rfl z)
  exact kk.up nw1 th1 n1 c1 Z1 P1 U1 V1 PM1 g H locs ls hR1 G hl
set_option maxHeartbeats 4000000 in
set_option maxRecDepth 100000 in
theorem lw_right (E : CallFix p m c0 b_L_law 7 s #[Value.ref b] zB R_L) (hN : zN s) (hK : va_K D vwCl [(cI, .int), (cJ, .long)] s) (hA : ∀ q, s.heap.size ≤ q → A q) (hAq : ∀ q, q < s.heap.size → ¬ A q) (hX : va_X b L xs s s.heap) (hbl : b < s.heap.size) (h1 : vp_in (i + 1) L) (h2 : vp_in (i + 2) L) (h3 : vp_in (i + 3) L) (hcs : cells + 1 ≤ room_1.cells ∧ slots + 6 ≤ room_1.slots) (hR : Rel nw k n c Z P U V PM) (G : zG D A s H locs (wL a bb o cI cJ nw (nI k) (nI n) (nI c) Z P U V th nw (nI k) (nI n) (nI c) Z PM U V g)) (hl : lv_has ls 7 [(0, .ref b), (1, .ref (a 0)), (2, .ref (bb 0)), (3, .ref o), (4, .int i)]) (kk : lwNext p l e s m below meth c0 D cI cJ a bb o b A k i (cells + 1) (slots + 6)) : W p l e room_1 s m #[Value.ref b] below meth c0 H locs cells slots (lw_Z below #[Value.ref b] s) (F0 m 441 ls []) := by
  have hx := E.1
  have hb := E.2.1
  have hK1 : va_K D vwCl [(cI, .int)] s := hK.sub [0] rfl
  have hk := hR.1.1
  have hn := hR.1.2.1
  have hc := hR.1.2.2.1
  have hcs0 : cells ≤ room_1.cells ∧ slots ≤ room_1.slots := ⟨by omega, by omega⟩
  obtain ⟨r, nw1, th1, n1, c1, Z1, P1, U1, V1, PM1, eX, eM, hR1⟩ := ok_right hR (xs (i + 1).toNatClampNeg) (xs (i + 2).toNatClampNeg)
  have cX : zW l D [(cI, .int)] y_X_right b_X_right 3 (some .int) 3 64 (.ref (a 0) :: [.int (xs (i + 1).toNatClampNeg), .int (xs (i + 2).toNatClampNeg)]) (wX a cI nw (nI k) (nI n) (nI c) Z P U V) (wX a cI nw1 (nI k) (nI n1) (nI c1) Z1 P1 U1 V1) (some (.int r)) := by
    have h := c_X_right l D cI a nw k n c Z P U V (xs (i + 1).toNatClampNeg) (xs (i + 2).toNatClampNeg) hk hn hc
    rw [eX] at h
    exact h
  have cM : zW l D [(cI, .int)] y_M_right b_M_right 3 (some .int) 2 42 (.ref (bb 0) :: [.int (xs (i + 1).toNatClampNeg), .int (xs (i + 2).toNatClampNeg)]) (wM bb cI th nw (nI k) (nI n) (nI c) Z PM U V) (wM bb cI th1 nw1 (nI k) (nI n1) (nI c1) Z1 PM1 U1 V1) (some (.int r)) := by
    have h := c_M_right l D cI bb th nw k n c Z PM U V (xs (i + 1).toNatClampNeg) (xs (i + 2).toNatClampNeg) hk hn hc 
    rw [eM] at h
    exact h
  refine lv_aload_n hx hb d_L_law_441 rfl (lv_at hl 1 rfl) ?_
  refine lv_aload_n hx hb d_L_law_442 rfl (lv_at hl 0 rfl) ?_
  refine lv_iload hx hb d_L_law_443 (lv_at hl 4 rfl) ?_
  refine lv_iconst (v := 1) hx hb d_L_law_445 (by decide) ?_
  refine lv_iadd hx hb d_L_law_446 ?_
  refine va_sld hx hb hX hbl (hAq b hbl) G.2.2 h1 d_L_law_447 ?_
  refine lv_aload_n hx hb d_L_law_448 rfl (lv_at hl 0 rfl) ?_
  refine lv_iload hx hb d_L_law_449 (lv_at hl 4 rfl) ?_
  refine lv_iconst (v := 2) hx hb d_L_law_451 (by decide) ?_
  refine lv_iadd hx hb d_L_law_452 ?_
  refine va_sld hx hb hX hbl (hAq b hbl) G.2.2 h2 d_L_law_453 ?_
  refine z_wv (As := [.int (xs (i + 1).toNatClampNeg), .int (xs (i + 2).toNatClampNeg)]) (rest := []) (wr := ([22, 23, 24, 25, 26, 27, 28, 29, 30, 31, 32, 33, 34, 35, 36, 37, 38, 39, 40] : List Nat).filterMap (fun j => (wL a bb o cI cJ nw (nI k) (nI n) (nI c) Z P U V th nw (nI k) (nI n) (nI c) Z PM U V g)[j]?)) (ws' := wL a bb o cI cJ nw1 (nI k) (nI n1) (nI c1) Z1 P1 U1 V1 th nw (nI k) (nI n) (nI c) Z PM U V g) E hN hK1 hA G hl.1 cX [0, 1, 2, 3, 4, 5, 6, 7, 8, 9, 10, 11, 12, 13, 14, 15, 16, 17, 18, 19, 20, 21] [22, 23, 24, 25, 26, 27, 28, 29, 30, 31, 32, 33, 34, 35, 36, 37, 38, 39, 40] [19, 20, 21, 22, 23, 24, 25, 26, 27, 28, 29, 30, 31, 32, 33, 34, 35, 36, 37, 38, 39, 40, 0, 1, 2, 3, 4, 5, 6, 7, 8, 9, 10, 11, 12, 13, 14, 15, 16, 17, 18] rfl rfl rfl rfl rfl rfl (by decide) 0 rfl rfl kl_X_right rfl ⟨Nat.le_of_ble_eq_true rfl, Nat.le_of_ble_eq_true rfl⟩ rfl (Nat.le_of_ble_eq_true rfl) hcs0 d_L_law_454 (fun H locs G => ?_)
  refine lv_aload_n hx hb d_L_law_457 rfl (lv_at hl 2 rfl) ?_
  refine lv_aload_n hx hb d_L_law_458 rfl (lv_at hl 0 rfl) ?_
  refine lv_iload hx hb d_L_law_459 (lv_at hl 4 rfl) ?_
  refine lv_iconst (v := 1) hx hb d_L_law_461 (by decide) ?_
  refine lv_iadd hx hb d_L_law_462 ?_
  refine va_sld hx hb hX hbl (hAq b hbl) G.2.2 h1 d_L_law_463 ?_
  refine lv_aload_n hx hb d_L_law_464 rfl (lv_at hl 0 rfl) ?_
  refine lv_iload hx hb d_L_law_465 (lv_at hl 4 rfl) ?_
  refine lv_iconst (v := 2) hx hb d_L_law_467 (by decide) ?_
  refine lv_iadd hx hb d_L_law_468 ?_
  refine va_sld hx hb hX hbl (hAq b hbl) G.2.2 h2 d_L_law_469 ?_
  refine z_wv (As := [.int (xs (i + 1).toNatClampNeg), .int (xs (i + 2).toNatClampNeg)]) (rest := [.int r]) (wr := ([0, 1, 2, 3, 4, 5, 6, 7, 8, 9, 10, 11, 12, 13, 14, 15, 16, 17, 18, 19, 20, 21, 40] : List Nat).filterMap (fun j => (wL a bb o cI cJ nw1 (nI k) (nI n1) (nI c1) Z1 P1 U1 V1 th nw (nI k) (nI n) (nI c) Z PM U V g)[j]?)) (ws' := wL a bb o cI cJ nw1 (nI k) (nI n1) (nI c1) Z1 P1 U1 V1 th1 nw1 (nI k) (nI n1) (nI c1) Z1 PM1 U1 V1 g) E hN hK1 hA G hl.1 cM [22, 23, 24, 25, 26, 27, 28, 29, 30, 31, 32, 33, 34, 35, 36, 37, 38, 39] [0, 1, 2, 3, 4, 5, 6, 7, 8, 9, 10, 11, 12, 13, 14, 15, 16, 17, 18, 19, 20, 21, 40] [0, 1, 2, 3, 4, 5, 6, 7, 8, 9, 10, 11, 12, 13, 14, 15, 16, 17, 18, 19, 20, 21, 23, 24, 25, 26, 27, 28, 29, 30, 31, 32, 33, 34, 35, 36, 37, 38, 39, 40, 22] rfl rfl rfl rfl rfl rfl (by decide) 0 rfl rfl kl_M_right rfl ⟨Nat.le_of_ble_eq_true rfl, Nat.le_of_ble_eq_true rfl⟩ rfl (Nat.le_of_ble_eq_true rfl) hcs0 d_L_law_470 (fun H locs G => ?_)
  refine lv_icmp_eq (tgt := 811) hx hb d_L_law_473 (by decide) (fun _ => ?_) (fun z => absurd rfl z)
  exact kk.up nw1 th1 n1 c1 Z1 P1 U1 V1 PM1 g H locs ls hR1 G hl
set_option maxHeartbeats 4000000 in
set_option maxRecDepth 100000 in
theorem lw_limit (E : CallFix p m c0 b_L_law 7 s #[Value.ref b] zB R_L) (hN : zN s) (hK : va_K D vwCl [(cI, .int), (cJ, .long)] s) (hA : ∀ q, s.heap.size ≤ q → A q) (hAq : ∀ q, q < s.heap.size → ¬ A q) (hX : va_X b L xs s s.heap) (hbl : b < s.heap.size) (h1 : vp_in (i + 1) L) (h2 : vp_in (i + 2) L) (h3 : vp_in (i + 3) L) (hcs : cells + 1 ≤ room_1.cells ∧ slots + 6 ≤ room_1.slots) (hR : Rel nw k n c Z P U V PM) (G : zG D A s H locs (wL a bb o cI cJ nw (nI k) (nI n) (nI c) Z P U V th nw (nI k) (nI n) (nI c) Z PM U V g)) (hl : lv_has ls 7 [(0, .ref b), (1, .ref (a 0)), (2, .ref (bb 0)), (3, .ref o), (4, .int i)]) (kk : lwNext p l e s m below meth c0 D cI cJ a bb o b A k i (cells + 1) (slots + 6)) : W p l e room_1 s m #[Value.ref b] below meth c0 H locs cells slots (lw_Z below #[Value.ref b] s) (F0 m 478 ls []) := by
  have hx := E.1
  have hb := E.2.1
  have hK1 : va_K D vwCl [(cI, .int)] s := hK.sub [0] rfl
  have hk := hR.1.1
  have hn := hR.1.2.1
  have hc := hR.1.2.2.1
  have hcs0 : cells ≤ room_1.cells ∧ slots ≤ room_1.slots := ⟨by omega, by omega⟩
  obtain ⟨r, nw1, th1, n1, c1, Z1, P1, U1, V1, PM1, eX, eM, hR1⟩ := ok_limit hR (xs (i + 1).toNatClampNeg) (xs (i + 2).toNatClampNeg) (xs (i + 3).toNatClampNeg)
  have cX : zW l D [(cI, .int)] y_X_limit b_X_limit 4 (some .int) 3 65 (.ref (a 0) :: [.int (xs (i + 1).toNatClampNeg), .int (xs (i + 2).toNatClampNeg), .int (xs (i + 3).toNatClampNeg)]) (wX a cI nw (nI k) (nI n) (nI c) Z P U V) (wX a cI nw1 (nI k) (nI n1) (nI c1) Z1 P1 U1 V1) (some (.int r)) := by
    have h := c_X_limit l D cI a nw k n c Z P U V (xs (i + 1).toNatClampNeg) (xs (i + 2).toNatClampNeg) (xs (i + 3).toNatClampNeg) hk hn hc
    rw [eX] at h
    exact h
  have cM : zW l D [(cI, .int)] y_M_limit b_M_limit 4 (some .int) 2 42 (.ref (bb 0) :: [.int (xs (i + 1).toNatClampNeg), .int (xs (i + 2).toNatClampNeg), .int (xs (i + 3).toNatClampNeg)]) (wM bb cI th nw (nI k) (nI n) (nI c) Z PM U V) (wM bb cI th1 nw1 (nI k) (nI n1) (nI c1) Z1 PM1 U1 V1) (some (.int r)) := by
    have h := c_M_limit l D cI bb th nw k n c Z PM U V (xs (i + 1).toNatClampNeg) (xs (i + 2).toNatClampNeg) (xs (i + 3).toNatClampNeg) hk hn hc 
    rw [eM] at h
    exact h
  refine lv_aload_n hx hb d_L_law_478 rfl (lv_at hl 1 rfl) ?_
  refine lv_aload_n hx hb d_L_law_479 rfl (lv_at hl 0 rfl) ?_
  refine lv_iload hx hb d_L_law_480 (lv_at hl 4 rfl) ?_
  refine lv_iconst (v := 1) hx hb d_L_law_482 (by decide) ?_
  refine lv_iadd hx hb d_L_law_483 ?_
  refine va_sld hx hb hX hbl (hAq b hbl) G.2.2 h1 d_L_law_484 ?_
  refine lv_aload_n hx hb d_L_law_485 rfl (lv_at hl 0 rfl) ?_
  refine lv_iload hx hb d_L_law_486 (lv_at hl 4 rfl) ?_
  refine lv_iconst (v := 2) hx hb d_L_law_488 (by decide) ?_
  refine lv_iadd hx hb d_L_law_489 ?_
  refine va_sld hx hb hX hbl (hAq b hbl) G.2.2 h2 d_L_law_490 ?_
  refine lv_aload_n hx hb d_L_law_491 rfl (lv_at hl 0 rfl) ?_
  refine lv_iload hx hb d_L_law_492 (lv_at hl 4 rfl) ?_
  refine lv_iconst (v := 3) hx hb d_L_law_494 (by decide) ?_
  refine lv_iadd hx hb d_L_law_495 ?_
  refine va_sld hx hb hX hbl (hAq b hbl) G.2.2 h3 d_L_law_496 ?_
  refine z_wv (As := [.int (xs (i + 1).toNatClampNeg), .int (xs (i + 2).toNatClampNeg), .int (xs (i + 3).toNatClampNeg)]) (rest := []) (wr := ([22, 23, 24, 25, 26, 27, 28, 29, 30, 31, 32, 33, 34, 35, 36, 37, 38, 39, 40] : List Nat).filterMap (fun j => (wL a bb o cI cJ nw (nI k) (nI n) (nI c) Z P U V th nw (nI k) (nI n) (nI c) Z PM U V g)[j]?)) (ws' := wL a bb o cI cJ nw1 (nI k) (nI n1) (nI c1) Z1 P1 U1 V1 th nw (nI k) (nI n) (nI c) Z PM U V g) E hN hK1 hA G hl.1 cX [0, 1, 2, 3, 4, 5, 6, 7, 8, 9, 10, 11, 12, 13, 14, 15, 16, 17, 18, 19, 20, 21] [22, 23, 24, 25, 26, 27, 28, 29, 30, 31, 32, 33, 34, 35, 36, 37, 38, 39, 40] [19, 20, 21, 22, 23, 24, 25, 26, 27, 28, 29, 30, 31, 32, 33, 34, 35, 36, 37, 38, 39, 40, 0, 1, 2, 3, 4, 5, 6, 7, 8, 9, 10, 11, 12, 13, 14, 15, 16, 17, 18] rfl rfl rfl rfl rfl rfl (by decide) 0 rfl rfl kl_X_limit rfl ⟨Nat.le_of_ble_eq_true rfl, Nat.le_of_ble_eq_true rfl⟩ rfl (Nat.le_of_ble_eq_true rfl) hcs0 d_L_law_497 (fun H locs G => ?_)
  refine lv_aload_n hx hb d_L_law_500 rfl (lv_at hl 2 rfl) ?_
  refine lv_aload_n hx hb d_L_law_501 rfl (lv_at hl 0 rfl) ?_
  refine lv_iload hx hb d_L_law_502 (lv_at hl 4 rfl) ?_
  refine lv_iconst (v := 1) hx hb d_L_law_504 (by decide) ?_
  refine lv_iadd hx hb d_L_law_505 ?_
  refine va_sld hx hb hX hbl (hAq b hbl) G.2.2 h1 d_L_law_506 ?_
  refine lv_aload_n hx hb d_L_law_507 rfl (lv_at hl 0 rfl) ?_
  refine lv_iload hx hb d_L_law_508 (lv_at hl 4 rfl) ?_
  refine lv_iconst (v := 2) hx hb d_L_law_510 (by decide) ?_
  refine lv_iadd hx hb d_L_law_511 ?_
  refine va_sld hx hb hX hbl (hAq b hbl) G.2.2 h2 d_L_law_512 ?_
  refine lv_aload_n hx hb d_L_law_513 rfl (lv_at hl 0 rfl) ?_
  refine lv_iload hx hb d_L_law_514 (lv_at hl 4 rfl) ?_
  refine lv_iconst (v := 3) hx hb d_L_law_516 (by decide) ?_
  refine lv_iadd hx hb d_L_law_517 ?_
  refine va_sld hx hb hX hbl (hAq b hbl) G.2.2 h3 d_L_law_518 ?_
  refine z_wv (As := [.int (xs (i + 1).toNatClampNeg), .int (xs (i + 2).toNatClampNeg), .int (xs (i + 3).toNatClampNeg)]) (rest := [.int r]) (wr := ([0, 1, 2, 3, 4, 5, 6, 7, 8, 9, 10, 11, 12, 13, 14, 15, 16, 17, 18, 19, 20, 21, 40] : List Nat).filterMap (fun j => (wL a bb o cI cJ nw1 (nI k) (nI n1) (nI c1) Z1 P1 U1 V1 th nw (nI k) (nI n) (nI c) Z PM U V g)[j]?)) (ws' := wL a bb o cI cJ nw1 (nI k) (nI n1) (nI c1) Z1 P1 U1 V1 th1 nw1 (nI k) (nI n1) (nI c1) Z1 PM1 U1 V1 g) E hN hK1 hA G hl.1 cM [22, 23, 24, 25, 26, 27, 28, 29, 30, 31, 32, 33, 34, 35, 36, 37, 38, 39] [0, 1, 2, 3, 4, 5, 6, 7, 8, 9, 10, 11, 12, 13, 14, 15, 16, 17, 18, 19, 20, 21, 40] [0, 1, 2, 3, 4, 5, 6, 7, 8, 9, 10, 11, 12, 13, 14, 15, 16, 17, 18, 19, 20, 21, 23, 24, 25, 26, 27, 28, 29, 30, 31, 32, 33, 34, 35, 36, 37, 38, 39, 40, 22] rfl rfl rfl rfl rfl rfl (by decide) 0 rfl rfl kl_M_limit rfl ⟨Nat.le_of_ble_eq_true rfl, Nat.le_of_ble_eq_true rfl⟩ rfl (Nat.le_of_ble_eq_true rfl) hcs0 d_L_law_519 (fun H locs G => ?_)
  refine lv_icmp_eq (tgt := 811) hx hb d_L_law_522 (by decide) (fun _ => ?_) (fun z => absurd rfl z)
  exact kk.up nw1 th1 n1 c1 Z1 P1 U1 V1 PM1 g H locs ls hR1 G hl
set_option maxHeartbeats 4000000 in
set_option maxRecDepth 100000 in
theorem lw_copy (E : CallFix p m c0 b_L_law 7 s #[Value.ref b] zB R_L) (hN : zN s) (hK : va_K D vwCl [(cI, .int), (cJ, .long)] s) (hA : ∀ q, s.heap.size ≤ q → A q) (hAq : ∀ q, q < s.heap.size → ¬ A q) (hX : va_X b L xs s s.heap) (hbl : b < s.heap.size) (h1 : vp_in (i + 1) L) (h2 : vp_in (i + 2) L) (h3 : vp_in (i + 3) L) (hcs : cells + 1 ≤ room_1.cells ∧ slots + 6 ≤ room_1.slots) (hR : Rel nw k n c Z P U V PM) (G : zG D A s H locs (wL a bb o cI cJ nw (nI k) (nI n) (nI c) Z P U V th nw (nI k) (nI n) (nI c) Z PM U V g)) (hl : lv_has ls 7 [(0, .ref b), (1, .ref (a 0)), (2, .ref (bb 0)), (3, .ref o), (4, .int i)]) (kk : lwNext p l e s m below meth c0 D cI cJ a bb o b A k i (cells + 1) (slots + 6)) : W p l e room_1 s m #[Value.ref b] below meth c0 H locs cells slots (lw_Z below #[Value.ref b] s) (F0 m 527 ls []) := by
  have hx := E.1
  have hb := E.2.1
  have hK1 : va_K D vwCl [(cI, .int)] s := hK.sub [0] rfl
  have hk := hR.1.1
  have hn := hR.1.2.1
  have hc := hR.1.2.2.1
  have hcs0 : cells ≤ room_1.cells ∧ slots ≤ room_1.slots := ⟨by omega, by omega⟩
  obtain ⟨r, nw1, th1, n1, c1, Z1, P1, U1, V1, PM1, eX, eM, hR1⟩ := ok_copy hR (xs (i + 1).toNatClampNeg) (xs (i + 2).toNatClampNeg) (xs (i + 3).toNatClampNeg)
  have cX : zW l D [(cI, .int)] y_X_copy b_X_copy 6 (some .int) 4 87 (.ref (a 0) :: [.int (xs (i + 1).toNatClampNeg), .int (xs (i + 2).toNatClampNeg), .int (xs (i + 3).toNatClampNeg)]) (wX a cI nw (nI k) (nI n) (nI c) Z P U V) (wX a cI nw1 (nI k) (nI n1) (nI c1) Z1 P1 U1 V1) (some (.int r)) := by
    have h := c_X_copy l D cI a nw k n c Z P U V (xs (i + 1).toNatClampNeg) (xs (i + 2).toNatClampNeg) (xs (i + 3).toNatClampNeg) hk hn hc
    rw [eX] at h
    exact h
  have cM : zW l D [(cI, .int)] y_M_copy b_M_copy 6 (some .int) 2 43 (.ref (bb 0) :: [.int (xs (i + 1).toNatClampNeg), .int (xs (i + 2).toNatClampNeg), .int (xs (i + 3).toNatClampNeg)]) (wM bb cI th nw (nI k) (nI n) (nI c) Z PM U V) (wM bb cI th1 nw1 (nI k) (nI n1) (nI c1) Z1 PM1 U1 V1) (some (.int r)) := by
    have h := c_M_copy l D cI bb th nw k n c Z PM U V (xs (i + 1).toNatClampNeg) (xs (i + 2).toNatClampNeg) (xs (i + 3).toNatClampNeg) hk hn hc hR.hU hR.hV
    rw [eM] at h
    exact h
  refine lv_aload_n hx hb d_L_law_527 rfl (lv_at hl 1 rfl) ?_
  refine lv_aload_n hx hb d_L_law_528 rfl (lv_at hl 0 rfl) ?_
  refine lv_iload hx hb d_L_law_529 (lv_at hl 4 rfl) ?_
  refine lv_iconst (v := 1) hx hb d_L_law_531 (by decide) ?_
  refine lv_iadd hx hb d_L_law_532 ?_
  refine va_sld hx hb hX hbl (hAq b hbl) G.2.2 h1 d_L_law_533 ?_
  refine lv_aload_n hx hb d_L_law_534 rfl (lv_at hl 0 rfl) ?_
  refine lv_iload hx hb d_L_law_535 (lv_at hl 4 rfl) ?_
  refine lv_iconst (v := 2) hx hb d_L_law_537 (by decide) ?_
  refine lv_iadd hx hb d_L_law_538 ?_
  refine va_sld hx hb hX hbl (hAq b hbl) G.2.2 h2 d_L_law_539 ?_
  refine lv_aload_n hx hb d_L_law_540 rfl (lv_at hl 0 rfl) ?_
  refine lv_iload hx hb d_L_law_541 (lv_at hl 4 rfl) ?_
  refine lv_iconst (v := 3) hx hb d_L_law_543 (by decide) ?_
  refine lv_iadd hx hb d_L_law_544 ?_
  refine va_sld hx hb hX hbl (hAq b hbl) G.2.2 h3 d_L_law_545 ?_
  refine z_wv (As := [.int (xs (i + 1).toNatClampNeg), .int (xs (i + 2).toNatClampNeg), .int (xs (i + 3).toNatClampNeg)]) (rest := []) (wr := ([22, 23, 24, 25, 26, 27, 28, 29, 30, 31, 32, 33, 34, 35, 36, 37, 38, 39, 40] : List Nat).filterMap (fun j => (wL a bb o cI cJ nw (nI k) (nI n) (nI c) Z P U V th nw (nI k) (nI n) (nI c) Z PM U V g)[j]?)) (ws' := wL a bb o cI cJ nw1 (nI k) (nI n1) (nI c1) Z1 P1 U1 V1 th nw (nI k) (nI n) (nI c) Z PM U V g) E hN hK1 hA G hl.1 cX [0, 1, 2, 3, 4, 5, 6, 7, 8, 9, 10, 11, 12, 13, 14, 15, 16, 17, 18, 19, 20, 21] [22, 23, 24, 25, 26, 27, 28, 29, 30, 31, 32, 33, 34, 35, 36, 37, 38, 39, 40] [19, 20, 21, 22, 23, 24, 25, 26, 27, 28, 29, 30, 31, 32, 33, 34, 35, 36, 37, 38, 39, 40, 0, 1, 2, 3, 4, 5, 6, 7, 8, 9, 10, 11, 12, 13, 14, 15, 16, 17, 18] rfl rfl rfl rfl rfl rfl (by decide) 0 rfl rfl kl_X_copy rfl ⟨Nat.le_of_ble_eq_true rfl, Nat.le_of_ble_eq_true rfl⟩ rfl (Nat.le_of_ble_eq_true rfl) hcs0 d_L_law_546 (fun H locs G => ?_)
  refine lv_aload_n hx hb d_L_law_549 rfl (lv_at hl 2 rfl) ?_
  refine lv_aload_n hx hb d_L_law_550 rfl (lv_at hl 0 rfl) ?_
  refine lv_iload hx hb d_L_law_551 (lv_at hl 4 rfl) ?_
  refine lv_iconst (v := 1) hx hb d_L_law_553 (by decide) ?_
  refine lv_iadd hx hb d_L_law_554 ?_
  refine va_sld hx hb hX hbl (hAq b hbl) G.2.2 h1 d_L_law_555 ?_
  refine lv_aload_n hx hb d_L_law_556 rfl (lv_at hl 0 rfl) ?_
  refine lv_iload hx hb d_L_law_557 (lv_at hl 4 rfl) ?_
  refine lv_iconst (v := 2) hx hb d_L_law_559 (by decide) ?_
  refine lv_iadd hx hb d_L_law_560 ?_
  refine va_sld hx hb hX hbl (hAq b hbl) G.2.2 h2 d_L_law_561 ?_
  refine lv_aload_n hx hb d_L_law_562 rfl (lv_at hl 0 rfl) ?_
  refine lv_iload hx hb d_L_law_563 (lv_at hl 4 rfl) ?_
  refine lv_iconst (v := 3) hx hb d_L_law_565 (by decide) ?_
  refine lv_iadd hx hb d_L_law_566 ?_
  refine va_sld hx hb hX hbl (hAq b hbl) G.2.2 h3 d_L_law_567 ?_
  refine z_wv (As := [.int (xs (i + 1).toNatClampNeg), .int (xs (i + 2).toNatClampNeg), .int (xs (i + 3).toNatClampNeg)]) (rest := [.int r]) (wr := ([0, 1, 2, 3, 4, 5, 6, 7, 8, 9, 10, 11, 12, 13, 14, 15, 16, 17, 18, 19, 20, 21, 40] : List Nat).filterMap (fun j => (wL a bb o cI cJ nw1 (nI k) (nI n1) (nI c1) Z1 P1 U1 V1 th nw (nI k) (nI n) (nI c) Z PM U V g)[j]?)) (ws' := wL a bb o cI cJ nw1 (nI k) (nI n1) (nI c1) Z1 P1 U1 V1 th1 nw1 (nI k) (nI n1) (nI c1) Z1 PM1 U1 V1 g) E hN hK1 hA G hl.1 cM [22, 23, 24, 25, 26, 27, 28, 29, 30, 31, 32, 33, 34, 35, 36, 37, 38, 39] [0, 1, 2, 3, 4, 5, 6, 7, 8, 9, 10, 11, 12, 13, 14, 15, 16, 17, 18, 19, 20, 21, 40] [0, 1, 2, 3, 4, 5, 6, 7, 8, 9, 10, 11, 12, 13, 14, 15, 16, 17, 18, 19, 20, 21, 23, 24, 25, 26, 27, 28, 29, 30, 31, 32, 33, 34, 35, 36, 37, 38, 39, 40, 22] rfl rfl rfl rfl rfl rfl (by decide) 0 rfl rfl kl_M_copy rfl ⟨Nat.le_of_ble_eq_true rfl, Nat.le_of_ble_eq_true rfl⟩ rfl (Nat.le_of_ble_eq_true rfl) hcs0 d_L_law_568 (fun H locs G => ?_)
  refine lv_icmp_eq (tgt := 811) hx hb d_L_law_571 (by decide) (fun _ => ?_) (fun z => absurd rfl z)
  exact kk.up nw1 th1 n1 c1 Z1 P1 U1 V1 PM1 g H locs ls hR1 G hl
set_option maxHeartbeats 4000000 in
set_option maxRecDepth 100000 in
theorem lw_close (E : CallFix p m c0 b_L_law 7 s #[Value.ref b] zB R_L) (hN : zN s) (hK : va_K D vwCl [(cI, .int), (cJ, .long)] s) (hA : ∀ q, s.heap.size ≤ q → A q) (hAq : ∀ q, q < s.heap.size → ¬ A q) (hX : va_X b L xs s s.heap) (hbl : b < s.heap.size) (h1 : vp_in (i + 1) L) (h2 : vp_in (i + 2) L) (h3 : vp_in (i + 3) L) (hcs : cells + 1 ≤ room_1.cells ∧ slots + 6 ≤ room_1.slots) (hR : Rel nw k n c Z P U V PM) (G : zG D A s H locs (wL a bb o cI cJ nw (nI k) (nI n) (nI c) Z P U V th nw (nI k) (nI n) (nI c) Z PM U V g)) (hl : lv_has ls 7 [(0, .ref b), (1, .ref (a 0)), (2, .ref (bb 0)), (3, .ref o), (4, .int i)]) (kk : lwNext p l e s m below meth c0 D cI cJ a bb o b A k i (cells + 1) (slots + 6)) : W p l e room_1 s m #[Value.ref b] below meth c0 H locs cells slots (lw_Z below #[Value.ref b] s) (F0 m 576 ls []) := by
  have hx := E.1
  have hb := E.2.1
  have hK1 : va_K D vwCl [(cI, .int)] s := hK.sub [0] rfl
  have hk := hR.1.1
  have hn := hR.1.2.1
  have hc := hR.1.2.2.1
  have hcs0 : cells ≤ room_1.cells ∧ slots ≤ room_1.slots := ⟨by omega, by omega⟩
  obtain ⟨r, nw1, th1, n1, c1, Z1, P1, U1, V1, PM1, eX, eM, hR1⟩ := ok_close hR (xs (i + 1).toNatClampNeg)
  have cX : zW l D [(cI, .int)] y_X_close b_X_close 2 (some .int) 5 109 (.ref (a 0) :: [.int (xs (i + 1).toNatClampNeg)]) (wX a cI nw (nI k) (nI n) (nI c) Z P U V) (wX a cI nw1 (nI k) (nI n1) (nI c1) Z1 P1 U1 V1) (some (.int r)) := by
    have h := c_X_close l D cI a nw k n c Z P U V (xs (i + 1).toNatClampNeg) hk hn hc
    rw [eX] at h
    exact h
  have cM : zW l D [(cI, .int)] y_M_close b_M_close 4 (some .int) 2 43 (.ref (bb 0) :: [.int (xs (i + 1).toNatClampNeg)]) (wM bb cI th nw (nI k) (nI n) (nI c) Z PM U V) (wM bb cI th1 nw1 (nI k) (nI n1) (nI c1) Z1 PM1 U1 V1) (some (.int r)) := by
    have h := c_M_close l D cI bb th nw k n c Z PM U V (xs (i + 1).toNatClampNeg) hk hn hc 
    rw [eM] at h
    exact h
  refine lv_aload_n hx hb d_L_law_576 rfl (lv_at hl 1 rfl) ?_
  refine lv_aload_n hx hb d_L_law_577 rfl (lv_at hl 0 rfl) ?_
  refine lv_iload hx hb d_L_law_578 (lv_at hl 4 rfl) ?_
  refine lv_iconst (v := 1) hx hb d_L_law_580 (by decide) ?_
  refine lv_iadd hx hb d_L_law_581 ?_
  refine va_sld hx hb hX hbl (hAq b hbl) G.2.2 h1 d_L_law_582 ?_
  refine z_wv (As := [.int (xs (i + 1).toNatClampNeg)]) (rest := []) (wr := ([22, 23, 24, 25, 26, 27, 28, 29, 30, 31, 32, 33, 34, 35, 36, 37, 38, 39, 40] : List Nat).filterMap (fun j => (wL a bb o cI cJ nw (nI k) (nI n) (nI c) Z P U V th nw (nI k) (nI n) (nI c) Z PM U V g)[j]?)) (ws' := wL a bb o cI cJ nw1 (nI k) (nI n1) (nI c1) Z1 P1 U1 V1 th nw (nI k) (nI n) (nI c) Z PM U V g) E hN hK1 hA G hl.1 cX [0, 1, 2, 3, 4, 5, 6, 7, 8, 9, 10, 11, 12, 13, 14, 15, 16, 17, 18, 19, 20, 21] [22, 23, 24, 25, 26, 27, 28, 29, 30, 31, 32, 33, 34, 35, 36, 37, 38, 39, 40] [19, 20, 21, 22, 23, 24, 25, 26, 27, 28, 29, 30, 31, 32, 33, 34, 35, 36, 37, 38, 39, 40, 0, 1, 2, 3, 4, 5, 6, 7, 8, 9, 10, 11, 12, 13, 14, 15, 16, 17, 18] rfl rfl rfl rfl rfl rfl (by decide) 0 rfl rfl kl_X_close rfl ⟨Nat.le_of_ble_eq_true rfl, Nat.le_of_ble_eq_true rfl⟩ rfl (Nat.le_of_ble_eq_true rfl) hcs0 d_L_law_583 (fun H locs G => ?_)
  refine lv_aload_n hx hb d_L_law_586 rfl (lv_at hl 2 rfl) ?_
  refine lv_aload_n hx hb d_L_law_587 rfl (lv_at hl 0 rfl) ?_
  refine lv_iload hx hb d_L_law_588 (lv_at hl 4 rfl) ?_
  refine lv_iconst (v := 1) hx hb d_L_law_590 (by decide) ?_
  refine lv_iadd hx hb d_L_law_591 ?_
  refine va_sld hx hb hX hbl (hAq b hbl) G.2.2 h1 d_L_law_592 ?_
  refine z_wv (As := [.int (xs (i + 1).toNatClampNeg)]) (rest := [.int r]) (wr := ([0, 1, 2, 3, 4, 5, 6, 7, 8, 9, 10, 11, 12, 13, 14, 15, 16, 17, 18, 19, 20, 21, 40] : List Nat).filterMap (fun j => (wL a bb o cI cJ nw1 (nI k) (nI n1) (nI c1) Z1 P1 U1 V1 th nw (nI k) (nI n) (nI c) Z PM U V g)[j]?)) (ws' := wL a bb o cI cJ nw1 (nI k) (nI n1) (nI c1) Z1 P1 U1 V1 th1 nw1 (nI k) (nI n1) (nI c1) Z1 PM1 U1 V1 g) E hN hK1 hA G hl.1 cM [22, 23, 24, 25, 26, 27, 28, 29, 30, 31, 32, 33, 34, 35, 36, 37, 38, 39] [0, 1, 2, 3, 4, 5, 6, 7, 8, 9, 10, 11, 12, 13, 14, 15, 16, 17, 18, 19, 20, 21, 40] [0, 1, 2, 3, 4, 5, 6, 7, 8, 9, 10, 11, 12, 13, 14, 15, 16, 17, 18, 19, 20, 21, 23, 24, 25, 26, 27, 28, 29, 30, 31, 32, 33, 34, 35, 36, 37, 38, 39, 40, 22] rfl rfl rfl rfl rfl rfl (by decide) 0 rfl rfl kl_M_close rfl ⟨Nat.le_of_ble_eq_true rfl, Nat.le_of_ble_eq_true rfl⟩ rfl (Nat.le_of_ble_eq_true rfl) hcs0 d_L_law_593 (fun H locs G => ?_)
  refine lv_icmp_eq (tgt := 811) hx hb d_L_law_596 (by decide) (fun _ => ?_) (fun z => absurd rfl z)
  exact kk.up nw1 th1 n1 c1 Z1 P1 U1 V1 PM1 g H locs ls hR1 G hl
set_option maxHeartbeats 4000000 in
set_option maxRecDepth 100000 in
theorem lw_unit (E : CallFix p m c0 b_L_law 7 s #[Value.ref b] zB R_L) (hN : zN s) (hK : va_K D vwCl [(cI, .int), (cJ, .long)] s) (hA : ∀ q, s.heap.size ≤ q → A q) (hAq : ∀ q, q < s.heap.size → ¬ A q) (hX : va_X b L xs s s.heap) (hbl : b < s.heap.size) (h1 : vp_in (i + 1) L) (h2 : vp_in (i + 2) L) (h3 : vp_in (i + 3) L) (hcs : cells + 1 ≤ room_1.cells ∧ slots + 6 ≤ room_1.slots) (hR : Rel nw k n c Z P U V PM) (G : zG D A s H locs (wL a bb o cI cJ nw (nI k) (nI n) (nI c) Z P U V th nw (nI k) (nI n) (nI c) Z PM U V g)) (hl : lv_has ls 7 [(0, .ref b), (1, .ref (a 0)), (2, .ref (bb 0)), (3, .ref o), (4, .int i)]) (kk : lwNext p l e s m below meth c0 D cI cJ a bb o b A k i (cells + 1) (slots + 6)) : W p l e room_1 s m #[Value.ref b] below meth c0 H locs cells slots (lw_Z below #[Value.ref b] s) (F0 m 601 ls []) := by
  have hx := E.1
  have hb := E.2.1
  have hK1 : va_K D vwCl [(cI, .int)] s := hK.sub [0] rfl
  have hk := hR.1.1
  have hn := hR.1.2.1
  have hc := hR.1.2.2.1
  have hcs0 : cells ≤ room_1.cells ∧ slots ≤ room_1.slots := ⟨by omega, by omega⟩
  have eM := unit_eq hR (xs (i + 1).toNatClampNeg) (xs (i + 2).toNatClampNeg)
  have cX := c_X_unit l D cI a nw k n c Z P U V (xs (i + 1).toNatClampNeg) (xs (i + 2).toNatClampNeg) hk hn hc
  have cM : zW l D [(cI, .int)] y_M_unit b_M_unit 5 (some .int) 2 42 (.ref (bb 0) :: [.int (xs (i + 1).toNatClampNeg), .int (xs (i + 2).toNatClampNeg)]) (wM bb cI th nw (nI k) (nI n) (nI c) Z PM U V) (wM bb cI 0 nw (nI k) (nI n) (nI c) Z PM U V) (some (.int (f_X_unit c U V (xs (i + 1).toNatClampNeg) (xs (i + 2).toNatClampNeg)))) := by
    have h := c_M_unit l D cI bb th nw k n c Z PM U V (xs (i + 1).toNatClampNeg) (xs (i + 2).toNatClampNeg) hk hn hc 
    rw [eM] at h
    exact h
  refine lv_aload_n hx hb d_L_law_601 rfl (lv_at hl 1 rfl) ?_
  refine lv_aload_n hx hb d_L_law_602 rfl (lv_at hl 0 rfl) ?_
  refine lv_iload hx hb d_L_law_603 (lv_at hl 4 rfl) ?_
  refine lv_iconst (v := 1) hx hb d_L_law_605 (by decide) ?_
  refine lv_iadd hx hb d_L_law_606 ?_
  refine va_sld hx hb hX hbl (hAq b hbl) G.2.2 h1 d_L_law_607 ?_
  refine lv_aload_n hx hb d_L_law_608 rfl (lv_at hl 0 rfl) ?_
  refine lv_iload hx hb d_L_law_609 (lv_at hl 4 rfl) ?_
  refine lv_iconst (v := 2) hx hb d_L_law_611 (by decide) ?_
  refine lv_iadd hx hb d_L_law_612 ?_
  refine va_sld hx hb hX hbl (hAq b hbl) G.2.2 h2 d_L_law_613 ?_
  refine z_rv (As := [.int (xs (i + 1).toNatClampNeg), .int (xs (i + 2).toNatClampNeg)]) (rest := []) E hN hK1 G.1 hl.1 cX [0, 1, 2, 3, 4, 5, 6, 7, 8, 9, 10, 11, 12, 13, 14, 15, 16, 17, 18, 19, 20, 21] rfl 0 rfl rfl kl_X_unit rfl ⟨Nat.le_of_ble_eq_true rfl, Nat.le_of_ble_eq_true rfl⟩ rfl (Nat.le_of_ble_eq_true rfl) hcs0 d_L_law_614 ?_
  refine lv_aload_n hx hb d_L_law_617 rfl (lv_at hl 2 rfl) ?_
  refine lv_aload_n hx hb d_L_law_618 rfl (lv_at hl 0 rfl) ?_
  refine lv_iload hx hb d_L_law_619 (lv_at hl 4 rfl) ?_
  refine lv_iconst (v := 1) hx hb d_L_law_621 (by decide) ?_
  refine lv_iadd hx hb d_L_law_622 ?_
  refine va_sld hx hb hX hbl (hAq b hbl) G.2.2 h1 d_L_law_623 ?_
  refine lv_aload_n hx hb d_L_law_624 rfl (lv_at hl 0 rfl) ?_
  refine lv_iload hx hb d_L_law_625 (lv_at hl 4 rfl) ?_
  refine lv_iconst (v := 2) hx hb d_L_law_627 (by decide) ?_
  refine lv_iadd hx hb d_L_law_628 ?_
  refine va_sld hx hb hX hbl (hAq b hbl) G.2.2 h2 d_L_law_629 ?_
  refine z_wv (As := [.int (xs (i + 1).toNatClampNeg), .int (xs (i + 2).toNatClampNeg)]) (rest := [.int (f_X_unit c U V (xs (i + 1).toNatClampNeg) (xs (i + 2).toNatClampNeg))]) (wr := ([0, 1, 2, 3, 4, 5, 6, 7, 8, 9, 10, 11, 12, 13, 14, 15, 16, 17, 18, 19, 20, 21, 40] : List Nat).filterMap (fun j => (wL a bb o cI cJ nw (nI k) (nI n) (nI c) Z P U V th nw (nI k) (nI n) (nI c) Z PM U V g)[j]?)) (ws' := wL a bb o cI cJ nw (nI k) (nI n) (nI c) Z P U V 0 nw (nI k) (nI n) (nI c) Z PM U V g) E hN hK1 hA G hl.1 cM [22, 23, 24, 25, 26, 27, 28, 29, 30, 31, 32, 33, 34, 35, 36, 37, 38, 39] [0, 1, 2, 3, 4, 5, 6, 7, 8, 9, 10, 11, 12, 13, 14, 15, 16, 17, 18, 19, 20, 21, 40] [0, 1, 2, 3, 4, 5, 6, 7, 8, 9, 10, 11, 12, 13, 14, 15, 16, 17, 18, 19, 20, 21, 23, 24, 25, 26, 27, 28, 29, 30, 31, 32, 33, 34, 35, 36, 37, 38, 39, 40, 22] rfl rfl rfl rfl rfl rfl (by decide) 0 rfl rfl kl_M_unit rfl ⟨Nat.le_of_ble_eq_true rfl, Nat.le_of_ble_eq_true rfl⟩ rfl (Nat.le_of_ble_eq_true rfl) hcs0 d_L_law_630 (fun H locs G => ?_)
  refine lv_icmp_eq (tgt := 811) hx hb d_L_law_633 (by decide) (fun _ => ?_) (fun z => absurd rfl z)
  exact kk.up nw 0 n c Z P U V PM g H locs ls hR G hl
set_option maxHeartbeats 4000000 in
set_option maxRecDepth 100000 in
theorem lw_person (E : CallFix p m c0 b_L_law 7 s #[Value.ref b] zB R_L) (hN : zN s) (hK : va_K D vwCl [(cI, .int), (cJ, .long)] s) (hA : ∀ q, s.heap.size ≤ q → A q) (hAq : ∀ q, q < s.heap.size → ¬ A q) (hX : va_X b L xs s s.heap) (hbl : b < s.heap.size) (h1 : vp_in (i + 1) L) (h2 : vp_in (i + 2) L) (h3 : vp_in (i + 3) L) (hcs : cells + 1 ≤ room_1.cells ∧ slots + 6 ≤ room_1.slots) (hR : Rel nw k n c Z P U V PM) (G : zG D A s H locs (wL a bb o cI cJ nw (nI k) (nI n) (nI c) Z P U V th nw (nI k) (nI n) (nI c) Z PM U V g)) (hl : lv_has ls 7 [(0, .ref b), (1, .ref (a 0)), (2, .ref (bb 0)), (3, .ref o), (4, .int i)]) (kk : lwNext p l e s m below meth c0 D cI cJ a bb o b A k i (cells + 1) (slots + 6)) : W p l e room_1 s m #[Value.ref b] below meth c0 H locs cells slots (lw_Z below #[Value.ref b] s) (F0 m 638 ls []) := by
  have hx := E.1
  have hb := E.2.1
  have hK1 : va_K D vwCl [(cI, .int)] s := hK.sub [0] rfl
  have hk := hR.1.1
  have hn := hR.1.2.1
  have hc := hR.1.2.2.1
  have hcs0 : cells ≤ room_1.cells ∧ slots ≤ room_1.slots := ⟨by omega, by omega⟩
  have eM := person_eq hR (xs (i + 1).toNatClampNeg) (xs (i + 2).toNatClampNeg)
  have cX := c_X_person l D cI a nw k n c Z P U V (xs (i + 1).toNatClampNeg) (xs (i + 2).toNatClampNeg) hk hn hc
  have cM : zW l D [(cI, .int)] y_M_person b_M_person 3 (some .int) 2 44 (.ref (bb 0) :: [.int (xs (i + 1).toNatClampNeg), .int (xs (i + 2).toNatClampNeg)]) (wM bb cI th nw (nI k) (nI n) (nI c) Z PM U V) (wM bb cI 0 nw (nI k) (nI n) (nI c) Z PM U V) (some (.int (f_X_person k n c Z P V (xs (i + 1).toNatClampNeg) (xs (i + 2).toNatClampNeg)))) := by
    have h := c_M_person l D cI bb th nw k n c Z PM U V (xs (i + 1).toNatClampNeg) (xs (i + 2).toNatClampNeg) hk hn hc hR.hU
    rw [eM] at h
    exact h
  refine lv_aload_n hx hb d_L_law_638 rfl (lv_at hl 1 rfl) ?_
  refine lv_aload_n hx hb d_L_law_639 rfl (lv_at hl 0 rfl) ?_
  refine lv_iload hx hb d_L_law_640 (lv_at hl 4 rfl) ?_
  refine lv_iconst (v := 1) hx hb d_L_law_642 (by decide) ?_
  refine lv_iadd hx hb d_L_law_643 ?_
  refine va_sld hx hb hX hbl (hAq b hbl) G.2.2 h1 d_L_law_644 ?_
  refine lv_aload_n hx hb d_L_law_645 rfl (lv_at hl 0 rfl) ?_
  refine lv_iload hx hb d_L_law_646 (lv_at hl 4 rfl) ?_
  refine lv_iconst (v := 2) hx hb d_L_law_648 (by decide) ?_
  refine lv_iadd hx hb d_L_law_649 ?_
  refine va_sld hx hb hX hbl (hAq b hbl) G.2.2 h2 d_L_law_650 ?_
  refine z_rv (As := [.int (xs (i + 1).toNatClampNeg), .int (xs (i + 2).toNatClampNeg)]) (rest := []) E hN hK1 G.1 hl.1 cX [0, 1, 2, 3, 4, 5, 6, 7, 8, 9, 10, 11, 12, 13, 14, 15, 16, 17, 18, 19, 20, 21] rfl 0 rfl rfl kl_X_person rfl ⟨Nat.le_of_ble_eq_true rfl, Nat.le_of_ble_eq_true rfl⟩ rfl (Nat.le_of_ble_eq_true rfl) hcs0 d_L_law_651 ?_
  refine lv_aload_n hx hb d_L_law_654 rfl (lv_at hl 2 rfl) ?_
  refine lv_aload_n hx hb d_L_law_655 rfl (lv_at hl 0 rfl) ?_
  refine lv_iload hx hb d_L_law_656 (lv_at hl 4 rfl) ?_
  refine lv_iconst (v := 1) hx hb d_L_law_658 (by decide) ?_
  refine lv_iadd hx hb d_L_law_659 ?_
  refine va_sld hx hb hX hbl (hAq b hbl) G.2.2 h1 d_L_law_660 ?_
  refine lv_aload_n hx hb d_L_law_661 rfl (lv_at hl 0 rfl) ?_
  refine lv_iload hx hb d_L_law_662 (lv_at hl 4 rfl) ?_
  refine lv_iconst (v := 2) hx hb d_L_law_664 (by decide) ?_
  refine lv_iadd hx hb d_L_law_665 ?_
  refine va_sld hx hb hX hbl (hAq b hbl) G.2.2 h2 d_L_law_666 ?_
  refine z_wv (As := [.int (xs (i + 1).toNatClampNeg), .int (xs (i + 2).toNatClampNeg)]) (rest := [.int (f_X_person k n c Z P V (xs (i + 1).toNatClampNeg) (xs (i + 2).toNatClampNeg))]) (wr := ([0, 1, 2, 3, 4, 5, 6, 7, 8, 9, 10, 11, 12, 13, 14, 15, 16, 17, 18, 19, 20, 21, 40] : List Nat).filterMap (fun j => (wL a bb o cI cJ nw (nI k) (nI n) (nI c) Z P U V th nw (nI k) (nI n) (nI c) Z PM U V g)[j]?)) (ws' := wL a bb o cI cJ nw (nI k) (nI n) (nI c) Z P U V 0 nw (nI k) (nI n) (nI c) Z PM U V g) E hN hK1 hA G hl.1 cM [22, 23, 24, 25, 26, 27, 28, 29, 30, 31, 32, 33, 34, 35, 36, 37, 38, 39] [0, 1, 2, 3, 4, 5, 6, 7, 8, 9, 10, 11, 12, 13, 14, 15, 16, 17, 18, 19, 20, 21, 40] [0, 1, 2, 3, 4, 5, 6, 7, 8, 9, 10, 11, 12, 13, 14, 15, 16, 17, 18, 19, 20, 21, 23, 24, 25, 26, 27, 28, 29, 30, 31, 32, 33, 34, 35, 36, 37, 38, 39, 40, 22] rfl rfl rfl rfl rfl rfl (by decide) 0 rfl rfl kl_M_person rfl ⟨Nat.le_of_ble_eq_true rfl, Nat.le_of_ble_eq_true rfl⟩ rfl (Nat.le_of_ble_eq_true rfl) hcs0 d_L_law_667 (fun H locs G => ?_)
  refine lv_icmp_eq (tgt := 811) hx hb d_L_law_670 (by decide) (fun _ => ?_) (fun z => absurd rfl z)
  exact kk.up nw 0 n c Z P U V PM g H locs ls hR G hl
end LB
