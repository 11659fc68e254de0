theorem kw_request : zCw R_L 92 y_L_request b_L_request 5 (some .int) [(0, 10, 13, 13)] 4 := ⟨(z_in 408 (by decide +kernel) (by decide +kernel)), (z_in 409 (by decide +kernel) (by decide +kernel)), (z_in 0 (by decide +kernel) (by decide +kernel)), (z_in 410 (by decide +kernel) (by decide +kernel)), ⟨by decide, by decide⟩, by decide +kernel⟩
theorem kw_waits : zCw R_L 100 y_L_waits b_L_waits 5 (some .int) [(0, 10, 13, 13)] 4 := ⟨(z_in 501 (by decide +kernel) (by decide +kernel)), (z_in 502 (by decide +kernel) (by decide +kernel)), (z_in 0 (by decide +kernel) (by decide +kernel)), (z_in 503 (by decide +kernel) (by decide +kernel)), ⟨by decide, by decide⟩, by decide +kernel⟩
theorem lcmp_self (x : Int64) : lg_cmp x x = 0 := by simp [lg_cmp]
section LC
variable {p : Program} {l : Launch} {e : Env} {s : State} {m : MethodId} {below : List Frame} {meth : Method} {c0 : Code} {D : va_G} {cI cJ : ClassId} {a bb : Nat → Nat} {o b L : Nat} {xs : Nat → Int32} {nw th : Int32} {k n c : Nat} {Z P U V PM : N2} {g : Nat → Int64} {A : Nat → Prop} {i : Int32} {ls : Array Slot} {H : Heap} {locs : List Loc} {cells slots : Nat}
set_option maxHeartbeats 4000000 in
set_option maxRecDepth 100000 in
theorem lw_request (hfl : l.flags = flags0) (hZ : zTx s) (E : CallFix p m c0 b_L_law 7 s #[Value.ref b] zB R_L) (hN : zN s) (hK : va_K D vwCl [(cI, .int), (cJ, .long)] s) (hA : ∀ q, s.heap.size ≤ q → A q) (hAq : ∀ q, q < s.heap.size → ¬ A q) (hX : va_X b L xs s s.heap) (hbl : b < s.heap.size) (h1 : vp_in (i + 1) L) (h2 : vp_in (i + 2) L) (h3 : vp_in (i + 3) L) (hcs : cells + 1 ≤ room_1.cells ∧ slots + 6 ≤ room_1.slots) (hR : Rel nw k n c Z P U V PM) (G : zG D A s H locs (wL a bb o cI cJ nw (nI k) (nI n) (nI c) Z P U V th nw (nI k) (nI n) (nI c) Z PM U V g)) (hl : lv_has ls 7 [(0, .ref b), (1, .ref (a 0)), (2, .ref (bb 0)), (3, .ref o), (4, .int i)]) (kk : lwNext p l e s m below meth c0 D cI cJ a bb o b A k i (cells + 1) (slots + 6)) : W p l e room_1 s m #[Value.ref b] below meth c0 H locs cells slots (lw_Z below #[Value.ref b] s) (F0 m 675 ls []) := by
  have hx := E.1
  have hb := E.2.1
  have hK1 : va_K D vwCl [(cI, .int)] s := hK.sub [0] rfl
  have hk := hR.1.1
  have hn := hR.1.2.1
  have hc := hR.1.2.2.1
  refine lv_aload_n hx hb d_L_law_675 rfl (lv_at hl 1 rfl) ?_
  refine lv_aload_n hx hb d_L_law_676 rfl (lv_at hl 0 rfl) ?_
  refine lv_iload hx hb d_L_law_677 (lv_at hl 4 rfl) ?_
  refine lv_iconst (v := 1) hx hb d_L_law_679 (by decide) ?_
  refine lv_iadd hx hb d_L_law_680 ?_
  refine va_sld hx hb hX hbl (hAq b hbl) G.2.2 h1 d_L_law_681 ?_
  refine lv_aload_n hx hb d_L_law_682 rfl (lv_at hl 0 rfl) ?_
  refine lv_iload hx hb d_L_law_683 (lv_at hl 4 rfl) ?_
  refine lv_iconst (v := 2) hx hb d_L_law_685 (by decide) ?_
  refine lv_iadd hx hb d_L_law_686 ?_
  refine va_sld hx hb hX hbl (hAq b hbl) G.2.2 h2 d_L_law_687 ?_
  refine lv_aload_n hx hb d_L_law_688 rfl (lv_at hl 3 rfl) ?_
  rcases Classical.em (f_Q_has c (xs (i + 1).toNatClampNeg) = 0 ∨ f_isWithin (xs (i + 2).toNatClampNeg) 0 5 = 0) with hbad | hok
  · have eM := req_thr nw n Z PM U V (xs (i + 1).toNatClampNeg) (xs (i + 2).toNatClampNeg) hbad
    have cM : zW l D [(cI, .int)] y_M_request b_M_request 3 (some .int) 1 22 (.ref (bb 0) :: [.int (xs (i + 1).toNatClampNeg), .int (xs (i + 2).toNatClampNeg)]) (wM bb cI th nw (nI k) (nI n) (nI c) Z PM U V) (wM bb cI 1 nw (nI k) (nI n) (nI c) Z PM U V) (some (.int 0)) := by
      have h := c_M_request l D cI bb th nw k n c Z PM U V (xs (i + 1).toNatClampNeg) (xs (i + 2).toNatClampNeg) hk hn hc
      rw [eM] at h
      exact h
    refine z_walkS (As := [.ref (a 0), .int (xs (i + 1).toNatClampNeg), .int (xs (i + 2).toNatClampNeg), .ref o]) (rest := []) (mc := 1) (ms := 6) (r := 1) (R' := { frames := 8, cells := 1, slots := 6, locals := 160 }) (ws' := wL a bb o cI cJ nw (nI k) (nI n) (nI c) Z P U V th nw (nI k) (nI n) (nI c) Z PM U V g) E hN hK hA G hl.1 kw_request (by decide +kernel) rfl (Nat.le_of_ble_eq_true rfl) ⟨Nat.le_of_ble_eq_true rfl, Nat.le_of_ble_eq_true rfl⟩ ⟨rfl, rfl⟩ rfl (Nat.le_of_ble_eq_true rfl) hcs d_L_law_689 (fun s9 mk b9 methk ck ls9 hW hH E9 hrt9 hlk9 hexc9 hN9 hK9 hA9 G9 hl9 => ?_) (fun H locs G => ?_)
    · exact h_request_thr hk hn hc hfl (zTx.go hW (fun q hq => by rw [hH]; exact G.2.2.2.1 q hq (hAq q hq)) hZ) (hbad.imp id req_nw) E9 hrt9 hlk9 hexc9 hN9 hK9 hA9 G9 hl9
    refine lv_istore (lv' := [(5, .int 1), (0, .ref b), (1, .ref (a 0)), (2, .ref (bb 0)), (3, .ref o), (4, .int i)]) hx hb d_L_law_692 hl (by decide) rfl (fun ls hl => ?_)
    refine lv_aload_n hx hb d_L_law_694 rfl (lv_at hl 3 rfl) ?_
    refine lv_aload_n hx hb d_L_law_695 rfl (lv_at hl 1 rfl) ?_
    refine lv_iload hx hb d_L_law_696 (lv_at hl 5 rfl) ?_
    refine lv_iconst (v := 1) hx hb d_L_law_698 (by decide) ?_
    refine lv_iadd hx hb d_L_law_699 ?_
    refine va_sld hx hb hX hbl (hAq b hbl) G.2.2 h1 d_L_law_700 ?_
    refine lv_aload_n hx hb d_L_law_701 rfl (lv_at hl 1 rfl) ?_
    refine lv_iload hx hb d_L_law_702 (lv_at hl 5 rfl) ?_
    refine lv_iconst (v := 2) hx hb d_L_law_704 (by decide) ?_
    refine lv_iadd hx hb d_L_law_705 ?_
    refine va_sld hx hb hX hbl (hAq b hbl) G.2.2 h2 d_L_law_706 ?_
    refine z_wv (As := [.int (xs (i + 1).toNatClampNeg), .int (xs (i + 2).toNatClampNeg)]) (rest := []) (wr := ([0, 1, 2, 3, 4, 5, 6, 7, 8, 9, 10, 11, 12, 13, 14, 15, 16, 17, 18, 19, 20, 21, 40] : List Nat).filterMap (fun j => (wL a bb o cI cJ nw (nI k) (nI n) (nI c) Z P U V th nw (nI k) (nI n) (nI c) Z PM U V g)[j]?)) (ws' := wL a bb o cI cJ nw (nI k) (nI n) (nI c) Z P U V 1 nw (nI k) (nI n) (nI c) Z PM U V g) E hN hK1 hA G hl.1 cM [22, 23, 24, 25, 26, 27, 28, 29, 30, 31, 32, 33, 34, 35, 36, 37, 38, 39] [0, 1, 2, 3, 4, 5, 6, 7, 8, 9, 10, 11, 12, 13, 14, 15, 16, 17, 18, 19, 20, 21, 40] [0, 1, 2, 3, 4, 5, 6, 7, 8, 9, 10, 11, 12, 13, 14, 15, 16, 17, 18, 19, 20, 21, 23, 24, 25, 26, 27, 28, 29, 30, 31, 32, 33, 34, 35, 36, 37, 38, 39, 40, 22] rfl rfl rfl rfl rfl rfl (by decide) 0 rfl rfl kl_M_request rfl ⟨Nat.le_of_ble_eq_true rfl, Nat.le_of_ble_eq_true rfl⟩ rfl (Nat.le_of_ble_eq_true rfl) hcs d_L_law_707 (fun H locs G => ?_)
    refine lv_istore (lv' := [(6, .int 0), (5, .int 1), (0, .ref b), (1, .ref (a 0)), (2, .ref (bb 0)), (3, .ref o), (4, .int i)]) hx hb d_L_law_710 hl (by decide) rfl (fun ls hl => ?_)
    refine lv_aload_n hx hb d_L_law_712 rfl (lv_at hl 4 rfl) ?_
    refine z_rv (As := []) (rest := []) E hN hK1 G.1 hl.1 (c_M_thrown l D cI bb 1 nw k n c Z PM U V hk hn hc) [22, 23, 24, 25, 26, 27, 28, 29, 30, 31, 32, 33, 34, 35, 36, 37, 38, 39] rfl 0 rfl rfl kl_M_thrown rfl ⟨Nat.le_of_ble_eq_true rfl, Nat.le_of_ble_eq_true rfl⟩ rfl (Nat.le_of_ble_eq_true rfl) hcs d_L_law_713 ?_
    refine lv_iload hx hb d_L_law_716 (lv_at hl 1 rfl) ?_
    refine lv_icmp_eq (tgt := 723) hx hb d_L_law_718 (by decide) (fun _ => ?_) (fun z => absurd rfl z)
    refine lv_iload hx hb d_L_law_723 (lv_at hl 1 rfl) ?_
    refine lv_if_ne (tgt := 740) hx hb d_L_law_725 (by decide) (fun _ => ?_) (fun z => absurd z (by decide))
    refine lv_goto (tgt := 811) hx hb d_L_law_740 (by decide) ?_
    exact kk nw 1 n c Z P U V PM g H locs ls hR G (lv_sub hl [2, 3, 4, 5, 6] rfl)
  · have hh : ¬ f_Q_has c (xs (i + 1).toNatClampNeg) = 0 := fun z => hok (Or.inl z)
    have hw := req_w (w := (xs (i + 2).toNatClampNeg)) (fun z => hok (Or.inr z))
    have eM := req_ret hc nw n Z PM U V (xs (i + 1).toNatClampNeg) (xs (i + 2).toNatClampNeg) hh hw
    have cM : zW l D [(cI, .int)] y_M_request b_M_request 3 (some .int) 1 22 (.ref (bb 0) :: [.int (xs (i + 1).toNatClampNeg), .int (xs (i + 2).toNatClampNeg)]) (wM bb cI th nw (nI k) (nI n) (nI c) Z PM U V) (wM bb cI 0 nw (nI k) (nI n) (nI c) Z PM U V) (some (.int (f_X_request c V (xs (i + 1).toNatClampNeg) (xs (i + 2).toNatClampNeg)))) := by
      have h := c_M_request l D cI bb th nw k n c Z PM U V (xs (i + 1).toNatClampNeg) (xs (i + 2).toNatClampNeg) hk hn hc
      rw [eM] at h
      exact h
    refine z_walkS (As := [.ref (a 0), .int (xs (i + 1).toNatClampNeg), .int (xs (i + 2).toNatClampNeg), .ref o]) (rest := []) (mc := 1) (ms := 6) (r := 0) (R' := { frames := 8, cells := 1, slots := 6, locals := 160 }) (ws' := wL a bb o cI cJ nw (nI k) (nI n) (nI c) Z P U V th nw (nI k) (nI n) (nI c) Z PM U V (vp_updL g 0 (f_X_request c V (xs (i + 1).toNatClampNeg) (xs (i + 2).toNatClampNeg)).toInt64)) E hN hK hA G hl.1 kw_request (by decide +kernel) rfl (Nat.le_of_ble_eq_true rfl) ⟨Nat.le_of_ble_eq_true rfl, Nat.le_of_ble_eq_true rfl⟩ ⟨rfl, rfl⟩ rfl (Nat.le_of_ble_eq_true rfl) hcs d_L_law_689 (fun s9 mk b9 methk ck ls9 hW hH E9 hrt9 hlk9 hexc9 hN9 hK9 hA9 G9 hl9 => ?_) (fun H locs G => ?_)
    · exact h_request_ret hk hn hc hh hw E9 hrt9 hlk9 hexc9 hN9 hK9 hA9 G9 hl9
    refine lv_istore (lv' := [(5, .int 0), (0, .ref b), (1, .ref (a 0)), (2, .ref (bb 0)), (3, .ref o), (4, .int i)]) hx hb d_L_law_692 hl (by decide) rfl (fun ls hl => ?_)
    refine lv_aload_n hx hb d_L_law_694 rfl (lv_at hl 3 rfl) ?_
    refine lv_aload_n hx hb d_L_law_695 rfl (lv_at hl 1 rfl) ?_
    refine lv_iload hx hb d_L_law_696 (lv_at hl 5 rfl) ?_
    refine lv_iconst (v := 1) hx hb d_L_law_698 (by decide) ?_
    refine lv_iadd hx hb d_L_law_699 ?_
    refine va_sld hx hb hX hbl (hAq b hbl) G.2.2 h1 d_L_law_700 ?_
    refine lv_aload_n hx hb d_L_law_701 rfl (lv_at hl 1 rfl) ?_
    refine lv_iload hx hb d_L_law_702 (lv_at hl 5 rfl) ?_
    refine lv_iconst (v := 2) hx hb d_L_law_704 (by decide) ?_
    refine lv_iadd hx hb d_L_law_705 ?_
    refine va_sld hx hb hX hbl (hAq b hbl) G.2.2 h2 d_L_law_706 ?_
    refine z_wv (As := [.int (xs (i + 1).toNatClampNeg), .int (xs (i + 2).toNatClampNeg)]) (rest := []) (wr := ([0, 1, 2, 3, 4, 5, 6, 7, 8, 9, 10, 11, 12, 13, 14, 15, 16, 17, 18, 19, 20, 21, 40] : List Nat).filterMap (fun j => (wL a bb o cI cJ nw (nI k) (nI n) (nI c) Z P U V th nw (nI k) (nI n) (nI c) Z PM U V (vp_updL g 0 (f_X_request c V (xs (i + 1).toNatClampNeg) (xs (i + 2).toNatClampNeg)).toInt64))[j]?)) (ws' := wL a bb o cI cJ nw (nI k) (nI n) (nI c) Z P U V 0 nw (nI k) (nI n) (nI c) Z PM U V (vp_updL g 0 (f_X_request c V (xs (i + 1).toNatClampNeg) (xs (i + 2).toNatClampNeg)).toInt64)) E hN hK1 hA G hl.1 cM [22, 23, 24, 25, 26, 27, 28, 29, 30, 31, 32, 33, 34, 35, 36, 37, 38, 39] [0, 1, 2, 3, 4, 5, 6, 7, 8, 9, 10, 11, 12, 13, 14, 15, 16, 17, 18, 19, 20, 21, 40] [0, 1, 2, 3, 4, 5, 6, 7, 8, 9, 10, 11, 12, 13, 14, 15, 16, 17, 18, 19, 20, 21, 23, 24, 25, 26, 27, 28, 29, 30, 31, 32, 33, 34, 35, 36, 37, 38, 39, 40, 22] rfl rfl rfl rfl rfl rfl (by decide) 0 rfl rfl kl_M_request rfl ⟨Nat.le_of_ble_eq_true rfl, Nat.le_of_ble_eq_true rfl⟩ rfl (Nat.le_of_ble_eq_true rfl) hcs d_L_law_707 (fun H locs G => ?_)
    refine lv_istore (lv' := [(6, .int (f_X_request c V (xs (i + 1).toNatClampNeg) (xs (i + 2).toNatClampNeg))), (5, .int 0), (0, .ref b), (1, .ref (a 0)), (2, .ref (bb 0)), (3, .ref o), (4, .int i)]) hx hb d_L_law_710 hl (by decide) rfl (fun ls hl => ?_)
    refine lv_aload_n hx hb d_L_law_712 rfl (lv_at hl 4 rfl) ?_
    refine z_rv (As := []) (rest := []) E hN hK1 G.1 hl.1 (c_M_thrown l D cI bb 0 nw k n c Z PM U V hk hn hc) [22, 23, 24, 25, 26, 27, 28, 29, 30, 31, 32, 33, 34, 35, 36, 37, 38, 39] rfl 0 rfl rfl kl_M_thrown rfl ⟨Nat.le_of_ble_eq_true rfl, Nat.le_of_ble_eq_true rfl⟩ rfl (Nat.le_of_ble_eq_true rfl) hcs d_L_law_713 ?_
    refine lv_iload hx hb d_L_law_716 (lv_at hl 1 rfl) ?_
    refine lv_icmp_eq (tgt := 723) hx hb d_L_law_718 (by decide) (fun _ => ?_) (fun z => absurd rfl z)
    refine lv_iload hx hb d_L_law_723 (lv_at hl 1 rfl) ?_
    refine lv_if_ne (tgt := 740) hx hb d_L_law_725 (by decide) (fun z => absurd rfl z) (fun _ => ?_)
    refine lv_aload_n hx hb d_L_law_728 rfl (lv_at hl 5 rfl) ?_
    refine lv_iconst (v := 0) hx hb d_L_law_729 (by decide) ?_
    refine z_lld (f := (vp_updL g 0 (f_X_request c V (xs (i + 1).toNatClampNeg) (xs (i + 2).toNatClampNeg)).toInt64)) E hK G.1 40 1 rfl rfl (vp_in_nI (n := 0) (by decide) (by decide)) d_L_law_730 ?_
    refine lv_iload hx hb d_L_law_731 (lv_at hl 0 rfl) ?_
    refine lv_i2l (v := (f_X_request c V (xs (i + 1).toNatClampNeg) (xs (i + 2).toNatClampNeg)).toInt64) hx hb d_L_law_733 rfl ?_
    refine W.lcmp hx hb d_L_law_734 ?_
    refine lv_if_eq (tgt := 740) hx hb d_L_law_735 (by decide) (fun _ => ?_) (fun z => absurd (lcmp_self _) z)
    refine lv_goto (tgt := 811) hx hb d_L_law_740 (by decide) ?_
    exact kk nw 0 n c Z P U V PM (vp_updL g 0 (f_X_request c V (xs (i + 1).toNatClampNeg) (xs (i + 2).toNatClampNeg)).toInt64) H locs ls hR G (lv_sub hl [2, 3, 4, 5, 6] rfl)
set_option maxHeartbeats 4000000 in
set_option maxRecDepth 100000 in
theorem lw_waits (hfl : l.flags = flags0) (hZ : zTx s) (E : CallFix p m c0 b_L_law 7 s #[Value.ref b] zB R_L) (hN : zN s) (hK : va_K D vwCl [(cI, .int), (cJ, .long)] s) (hA : ∀ q, s.heap.size ≤ q → A q) (hAq : ∀ q, q < s.heap.size → ¬ A q) (hX : va_X b L xs s s.heap) (hbl : b < s.heap.size) (h1 : vp_in (i + 1) L) (h2 : vp_in (i + 2) L) (h3 : vp_in (i + 3) L) (hcs : cells + 1 ≤ room_1.cells ∧ slots + 6 ≤ room_1.slots) (hR : Rel nw k n c Z P U V PM) (G : zG D A s H locs (wL a bb o cI cJ nw (nI k) (nI n) (nI c) Z P U V th nw (nI k) (nI n) (nI c) Z PM U V g)) (hl : lv_has ls 7 [(0, .ref b), (1, .ref (a 0)), (2, .ref (bb 0)), (3, .ref o), (4, .int i)]) (kk : lwNext p l e s m below meth c0 D cI cJ a bb o b A k i (cells + 1) (slots + 6)) : W p l e room_1 s m #[Value.ref b] below meth c0 H locs cells slots (lw_Z below #[Value.ref b] s) (F0 m 743 ls []) := by
  have hx := E.1
  have hb := E.2.1
  have hK1 : va_K D vwCl [(cI, .int)] s := hK.sub [0] rfl
  have hk := hR.1.1
  have hn := hR.1.2.1
  have hc := hR.1.2.2.1
  refine lv_aload_n hx hb d_L_law_743 rfl (lv_at hl 1 rfl) ?_
  refine lv_aload_n hx hb d_L_law_744 rfl (lv_at hl 0 rfl) ?_
  refine lv_iload hx hb d_L_law_745 (lv_at hl 4 rfl) ?_
  refine lv_iconst (v := 1) hx hb d_L_law_747 (by decide) ?_
  refine lv_iadd hx hb d_L_law_748 ?_
  refine va_sld hx hb hX hbl (hAq b hbl) G.2.2 h1 d_L_law_749 ?_
  refine lv_aload_n hx hb d_L_law_750 rfl (lv_at hl 0 rfl) ?_
  refine lv_iload hx hb d_L_law_751 (lv_at hl 4 rfl) ?_
  refine lv_iconst (v := 2) hx hb d_L_law_753 (by decide) ?_
  refine lv_iadd hx hb d_L_law_754 ?_
  refine va_sld hx hb hX hbl (hAq b hbl) G.2.2 h2 d_L_law_755 ?_
  refine lv_aload_n hx hb d_L_law_756 rfl (lv_at hl 3 rfl) ?_
  rcases Classical.em (f_Q_openOf c V (xs (i + 1).toNatClampNeg) (xs (i + 2).toNatClampNeg) = -1) with hbad | hok
  · have eM := (waits_eq hc nw n Z PM U V (xs (i + 1).toNatClampNeg) (xs (i + 2).toNatClampNeg)).trans (if_pos hbad)
    have cM : zW l D [(cI, .int)] y_M_waits b_M_waits 5 (some .int) 0 0 (.ref (bb 0) :: [.int (xs (i + 1).toNatClampNeg), .int (xs (i + 2).toNatClampNeg)]) (wM bb cI th nw (nI k) (nI n) (nI c) Z PM U V) (wM bb cI 1 nw (nI k) (nI n) (nI c) Z PM U V) (some (.int 0)) := by
      have h := c_M_waits l D cI bb th nw k n c Z PM U V (xs (i + 1).toNatClampNeg) (xs (i + 2).toNatClampNeg) hk hn hc
      rw [eM] at h
      exact h
    refine z_walkS (As := [.ref (a 0), .int (xs (i + 1).toNatClampNeg), .int (xs (i + 2).toNatClampNeg), .ref o]) (rest := []) (mc := 1) (ms := 6) (r := 1) (R' := { frames := 8, cells := 1, slots := 6, locals := 160 }) (ws' := wL a bb o cI cJ nw (nI k) (nI n) (nI c) Z P U V th nw (nI k) (nI n) (nI c) Z PM U V g) E hN hK hA G hl.1 kw_waits (by decide +kernel) rfl (Nat.le_of_ble_eq_true rfl) ⟨Nat.le_of_ble_eq_true rfl, Nat.le_of_ble_eq_true rfl⟩ ⟨rfl, rfl⟩ rfl (Nat.le_of_ble_eq_true rfl) hcs d_L_law_757 (fun s9 mk b9 methk ck ls9 hW hH E9 hrt9 hlk9 hexc9 hN9 hK9 hA9 G9 hl9 => ?_) (fun H locs G => ?_)
    · exact h_waits_thr hk hn hc hfl (zTx.go hW (fun q hq => by rw [hH]; exact G.2.2.2.1 q hq (hAq q hq)) hZ) hbad E9 hrt9 hlk9 hexc9 hN9 hK9 hA9 G9 hl9
    refine lv_istore (lv' := [(5, .int 1), (0, .ref b), (1, .ref (a 0)), (2, .ref (bb 0)), (3, .ref o), (4, .int i)]) hx hb d_L_law_760 hl (by decide) rfl (fun ls hl => ?_)
    refine lv_aload_n hx hb d_L_law_762 rfl (lv_at hl 3 rfl) ?_
    refine lv_aload_n hx hb d_L_law_763 rfl (lv_at hl 1 rfl) ?_
    refine lv_iload hx hb d_L_law_764 (lv_at hl 5 rfl) ?_
    refine lv_iconst (v := 1) hx hb d_L_law_766 (by decide) ?_
    refine lv_iadd hx hb d_L_law_767 ?_
    refine va_sld hx hb hX hbl (hAq b hbl) G.2.2 h1 d_L_law_768 ?_
    refine lv_aload_n hx hb d_L_law_769 rfl (lv_at hl 1 rfl) ?_
    refine lv_iload hx hb d_L_law_770 (lv_at hl 5 rfl) ?_
    refine lv_iconst (v := 2) hx hb d_L_law_772 (by decide) ?_
    refine lv_iadd hx hb d_L_law_773 ?_
    refine va_sld hx hb hX hbl (hAq b hbl) G.2.2 h2 d_L_law_774 ?_
    refine z_wv (As := [.int (xs (i + 1).toNatClampNeg), .int (xs (i + 2).toNatClampNeg)]) (rest := []) (wr := ([0, 1, 2, 3, 4, 5, 6, 7, 8, 9, 10, 11, 12, 13, 14, 15, 16, 17, 18, 19, 20, 21, 40] : List Nat).filterMap (fun j => (wL a bb o cI cJ nw (nI k) (nI n) (nI c) Z P U V th nw (nI k) (nI n) (nI c) Z PM U V g)[j]?)) (ws' := wL a bb o cI cJ nw (nI k) (nI n) (nI c) Z P U V 1 nw (nI k) (nI n) (nI c) Z PM U V g) E hN hK1 hA G hl.1 cM [22, 23, 24, 25, 26, 27, 28, 29, 30, 31, 32, 33, 34, 35, 36, 37, 38, 39] [0, 1, 2, 3, 4, 5, 6, 7, 8, 9, 10, 11, 12, 13, 14, 15, 16, 17, 18, 19, 20, 21, 40] [0, 1, 2, 3, 4, 5, 6, 7, 8, 9, 10, 11, 12, 13, 14, 15, 16, 17, 18, 19, 20, 21, 23, 24, 25, 26, 27, 28, 29, 30, 31, 32, 33, 34, 35, 36, 37, 38, 39, 40, 22] rfl rfl rfl rfl rfl rfl (by decide) 0 rfl rfl kl_M_waits rfl ⟨Nat.le_of_ble_eq_true rfl, Nat.le_of_ble_eq_true rfl⟩ rfl (Nat.le_of_ble_eq_true rfl) hcs d_L_law_775 (fun H locs G => ?_)
    refine lv_istore (lv' := [(6, .int 0), (5, .int 1), (0, .ref b), (1, .ref (a 0)), (2, .ref (bb 0)), (3, .ref o), (4, .int i)]) hx hb d_L_law_778 hl (by decide) rfl (fun ls hl => ?_)
    refine lv_aload_n hx hb d_L_law_780 rfl (lv_at hl 4 rfl) ?_
    refine z_rv (As := []) (rest := []) E hN hK1 G.1 hl.1 (c_M_thrown l D cI bb 1 nw k n c Z PM U V hk hn hc) [22, 23, 24, 25, 26, 27, 28, 29, 30, 31, 32, 33, 34, 35, 36, 37, 38, 39] rfl 0 rfl rfl kl_M_thrown rfl ⟨Nat.le_of_ble_eq_true rfl, Nat.le_of_ble_eq_true rfl⟩ rfl (Nat.le_of_ble_eq_true rfl) hcs d_L_law_781 ?_
    refine lv_iload hx hb d_L_law_784 (lv_at hl 1 rfl) ?_
    refine lv_icmp_eq (tgt := 791) hx hb d_L_law_786 (by decide) (fun _ => ?_) (fun z => absurd rfl z)
    refine lv_iload hx hb d_L_law_791 (lv_at hl 1 rfl) ?_
    refine lv_if_ne (tgt := 808) hx hb d_L_law_793 (by decide) (fun _ => ?_) (fun z => absurd z (by decide))
    refine lv_goto (tgt := 811) hx hb d_L_law_808 (by decide) ?_
    exact kk nw 1 n c Z P U V PM g H locs ls hR G (lv_sub hl [2, 3, 4, 5, 6] rfl)
  · have eM := (waits_eq hc nw n Z PM U V (xs (i + 1).toNatClampNeg) (xs (i + 2).toNatClampNeg)).trans (if_neg hok)
    have cM : zW l D [(cI, .int)] y_M_waits b_M_waits 5 (some .int) 0 0 (.ref (bb 0) :: [.int (xs (i + 1).toNatClampNeg), .int (xs (i + 2).toNatClampNeg)]) (wM bb cI th nw (nI k) (nI n) (nI c) Z PM U V) (wM bb cI 0 nw (nI k) (nI n) (nI c) Z PM U V) (some (.int (f_X_waits c V (xs (i + 1).toNatClampNeg) (xs (i + 2).toNatClampNeg)))) := by
      have h := c_M_waits l D cI bb th nw k n c Z PM U V (xs (i + 1).toNatClampNeg) (xs (i + 2).toNatClampNeg) hk hn hc
      rw [eM] at h
      exact h
    refine z_walkS (As := [.ref (a 0), .int (xs (i + 1).toNatClampNeg), .int (xs (i + 2).toNatClampNeg), .ref o]) (rest := []) (mc := 1) (ms := 6) (r := 0) (R' := { frames := 8, cells := 1, slots := 6, locals := 160 }) (ws' := wL a bb o cI cJ nw (nI k) (nI n) (nI c) Z P U V th nw (nI k) (nI n) (nI c) Z PM U V (vp_updL g 0 (f_X_waits c V (xs (i + 1).toNatClampNeg) (xs (i + 2).toNatClampNeg)).toInt64)) E hN hK hA G hl.1 kw_waits (by decide +kernel) rfl (Nat.le_of_ble_eq_true rfl) ⟨Nat.le_of_ble_eq_true rfl, Nat.le_of_ble_eq_true rfl⟩ ⟨rfl, rfl⟩ rfl (Nat.le_of_ble_eq_true rfl) hcs d_L_law_757 (fun s9 mk b9 methk ck ls9 hW hH E9 hrt9 hlk9 hexc9 hN9 hK9 hA9 G9 hl9 => ?_) (fun H locs G => ?_)
    · exact h_waits_ret hk hn hc hok E9 hrt9 hlk9 hexc9 hN9 hK9 hA9 G9 hl9
    refine lv_istore (lv' := [(5, .int 0), (0, .ref b), (1, .ref (a 0)), (2, .ref (bb 0)), (3, .ref o), (4, .int i)]) hx hb d_L_law_760 hl (by decide) rfl (fun ls hl => ?_)
    refine lv_aload_n hx hb d_L_law_762 rfl (lv_at hl 3 rfl) ?_
    refine lv_aload_n hx hb d_L_law_763 rfl (lv_at hl 1 rfl) ?_
    refine lv_iload hx hb d_L_law_764 (lv_at hl 5 rfl) ?_
    refine lv_iconst (v := 1) hx hb d_L_law_766 (by decide) ?_
    refine lv_iadd hx hb d_L_law_767 ?_
    refine va_sld hx hb hX hbl (hAq b hbl) G.2.2 h1 d_L_law_768 ?_
    refine lv_aload_n hx hb d_L_law_769 rfl (lv_at hl 1 rfl) ?_
    refine lv_iload hx hb d_L_law_770 (lv_at hl 5 rfl) ?_
    refine lv_iconst (v := 2) hx hb d_L_law_772 (by decide) ?_
    refine lv_iadd hx hb d_L_law_773 ?_
    refine va_sld hx hb hX hbl (hAq b hbl) G.2.2 h2 d_L_law_774 ?_
    refine z_wv (As := [.int (xs (i + 1).toNatClampNeg), .int (xs (i + 2).toNatClampNeg)]) (rest := []) (wr := ([0, 1, 2, 3, 4, 5, 6, 7, 8, 9, 10, 11, 12, 13, 14, 15, 16, 17, 18, 19, 20, 21, 40] : List Nat).filterMap (fun j => (wL a bb o cI cJ nw (nI k) (nI n) (nI c) Z P U V th nw (nI k) (nI n) (nI c) Z PM U V (vp_updL g 0 (f_X_waits c V (xs (i + 1).toNatClampNeg) (xs (i + 2).toNatClampNeg)).toInt64))[j]?)) (ws' := wL a bb o cI cJ nw (nI k) (nI n) (nI c) Z P U V 0 nw (nI k) (nI n) (nI c) Z PM U V (vp_updL g 0 (f_X_waits c V (xs (i + 1).toNatClampNeg) (xs (i + 2).toNatClampNeg)).toInt64)) E hN hK1 hA G hl.1 cM [22, 23, 24, 25, 26, 27, 28, 29, 30, 31, 32, 33, 34, 35, 36, 37, 38, 39] [0, 1, 2, 3, 4, 5, 6, 7, 8, 9, 10, 11, 12, 13, 14, 15, 16, 17, 18, 19, 20, 21, 40] [0, 1, 2, 3, 4, 5, 6, 7, 8, 9, 10, 11, 12, 13, 14, 15, 16, 17, 18, 19, 20, 21, 23, 24, 25, 26, 27, 28, 29, 30, 31, 32, 33, 34, 35, 36, 37, 38, 39, 40, 22] rfl rfl rfl rfl rfl rfl (by decide) 0 rfl rfl kl_M_waits rfl ⟨Nat.le_of_ble_eq_true rfl, Nat.le_of_ble_eq_true rfl⟩ rfl (Nat.le_of_ble_eq_true rfl) hcs d_L_law_775 (fun H locs G => ?_)
    refine lv_istore (lv' := [(6, .int (f_X_waits c V (xs (i + 1).toNatClampNeg) (xs (i + 2).toNatClampNeg))), (5, .int 0), (0, .ref b), (1, .ref (a 0)), (2, .ref (bb 0)), (3, .ref o), (4, .int i)]) hx hb d_L_law_778 hl (by decide) rfl (fun ls hl => ?_)
    refine lv_aload_n hx hb d_L_law_780 rfl (lv_at hl 4 rfl) ?_
    refine z_rv (As := []) (rest := []) E hN hK1 G.1 hl.1 (c_M_thrown l D cI bb 0 nw k n c Z PM U V hk hn hc) [22, 23, 24, 25, 26, 27, 28, 29, 30, 31, 32, 33, 34, 35, 36, 37, 38, 39] rfl 0 rfl rfl kl_M_thrown rfl ⟨Nat.le_of_ble_eq_true rfl, Nat.le_of_ble_eq_true rfl⟩ rfl (Nat.le_of_ble_eq_true rfl) hcs d_L_law_781 ?_
    refine lv_iload hx hb d_L_law_784 (lv_at hl 1 rfl) ?_
    refine lv_icmp_eq (tgt := 791) hx hb d_L_law_786 (by decide) (fun _ => ?_) (fun z => absurd rfl z)
    refine lv_iload hx hb d_L_law_791 (lv_at hl 1 rfl) ?_
    refine lv_if_ne (tgt := 808) hx hb d_L_law_793 (by decide) (fun z => absurd rfl z) (fun _ => ?_)
    refine lv_aload_n hx hb d_L_law_796 rfl (lv_at hl 5 rfl) ?_
    refine lv_iconst (v := 0) hx hb d_L_law_797 (by decide) ?_
    refine z_lld (f := (vp_updL g 0 (f_X_waits c V (xs (i + 1).toNatClampNeg) (xs (i + 2).toNatClampNeg)).toInt64)) E hK G.1 40 1 rfl rfl (vp_in_nI (n := 0) (by decide) (by decide)) d_L_law_798 ?_
    refine lv_iload hx hb d_L_law_799 (lv_at hl 0 rfl) ?_
    refine lv_i2l (v := (f_X_waits c V (xs (i + 1).toNatClampNeg) (xs (i + 2).toNatClampNeg)).toInt64) hx hb d_L_law_801 rfl ?_
    refine W.lcmp hx hb d_L_law_802 ?_
    refine lv_if_eq (tgt := 808) hx hb d_L_law_803 (by decide) (fun _ => ?_) (fun z => absurd (lcmp_self _) z)
    refine lv_goto (tgt := 811) hx hb d_L_law_808 (by decide) ?_
    exact kk nw 0 n c Z P U V PM (vp_updL g 0 (f_X_waits c V (xs (i + 1).toNatClampNeg) (xs (i + 2).toNatClampNeg)).toInt64) H locs ls hR G (lv_sub hl [2, 3, 4, 5, 6] rfl)
end LC
