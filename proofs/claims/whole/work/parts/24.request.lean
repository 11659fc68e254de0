theorem kz_X_171 : zC R_X 171 R_Q y_Q_has b_Q_has 2 (some .boolean) 1 := ⟨(z_in 416 (by decide +kernel) (by decide +kernel)), (z_in 211 (by decide +kernel) (by decide +kernel)), (z_in 212 (by decide +kernel) (by decide +kernel)), (z_in 7 (by decide +kernel) (by decide +kernel)), (z_in 213 (by decide +kernel) (by decide +kernel)), ⟨by decide, by decide⟩, by decide +kernel⟩
theorem kz_X_181 : zC R_X 181 R_Q y_Q_unitOf b_Q_unitOf 2 (some .int) 1 := ⟨(z_in 483 (by decide +kernel) (by decide +kernel)), (z_in 484 (by decide +kernel) (by decide +kernel)), (z_in 485 (by decide +kernel) (by decide +kernel)), (z_in 7 (by decide +kernel) (by decide +kernel)), (z_in 486 (by decide +kernel) (by decide +kernel)), ⟨by decide, by decide⟩, by decide +kernel⟩
theorem kz_X_184 : zC R_X 184 R_Q y_Q_stateOf b_Q_stateOf 2 (some .int) 1 := ⟨(z_in 487 (by decide +kernel) (by decide +kernel)), (z_in 373 (by decide +kernel) (by decide +kernel)), (z_in 374 (by decide +kernel) (by decide +kernel)), (z_in 7 (by decide +kernel) (by decide +kernel)), (z_in 375 (by decide +kernel) (by decide +kernel)), ⟨by decide, by decide⟩, by decide +kernel⟩
theorem kz_X_187 : zC R_X 187 R_Q y_Q_askedAt b_Q_askedAt 2 (some .int) 1 := ⟨(z_in 488 (by decide +kernel) (by decide +kernel)), (z_in 489 (by decide +kernel) (by decide +kernel)), (z_in 490 (by decide +kernel) (by decide +kernel)), (z_in 7 (by decide +kernel) (by decide +kernel)), (z_in 491 (by decide +kernel) (by decide +kernel)), ⟨by decide, by decide⟩, by decide +kernel⟩
theorem kz_X_190 : zC R_X 190 R_Q y_Q_handedOutAt b_Q_handedOutAt 2 (some .int) 1 := ⟨(z_in 492 (by decide +kernel) (by decide +kernel)), (z_in 493 (by decide +kernel) (by decide +kernel)), (z_in 494 (by decide +kernel) (by decide +kernel)), (z_in 7 (by decide +kernel) (by decide +kernel)), (z_in 495 (by decide +kernel) (by decide +kernel)), ⟨by decide, by decide⟩, by decide +kernel⟩
theorem kz_X_193 : zC R_X 193 R_Q y_Q_backAt b_Q_backAt 2 (some .int) 1 := ⟨(z_in 496 (by decide +kernel) (by decide +kernel)), (z_in 497 (by decide +kernel) (by decide +kernel)), (z_in 498 (by decide +kernel) (by decide +kernel)), (z_in 7 (by decide +kernel) (by decide +kernel)), (z_in 499 (by decide +kernel) (by decide +kernel)), ⟨by decide, by decide⟩, by decide +kernel⟩
def f_X_request (c : Nat) (V : Nat → Nat → Int32) (i : Int32) (what : Int32) : Int32 := (if what = 0 then (f_Q_personOf c V i) else (if what = 1 then (f_Q_unitOf c V i) else (if what = 2 then (f_Q_stateOf c V i) else (if what = 3 then (f_Q_askedAt c V i) else (if what = 4 then (f_Q_handedOutAt c V i) else (if what = 5 then (f_Q_backAt c V i) else 0))))))
set_option maxHeartbeats 4000000 in
set_option maxRecDepth 100000 in
theorem c_X_request (l : Launch) (D : va_G) (cI : ClassId) (a : Nat → Nat) (nw : Int32) (k : Nat) (n : Nat) (c : Nat) (Z : Nat → Nat → Int32) (P : Nat → Nat → Int32) (U : Nat → Nat → Int32) (V : Nat → Nat → Int32) (i : Int32) (what : Int32) (hk : k ≤ 20) (hn : n ≤ 60) (hc : c ≤ 300) (hh : ¬ f_Q_has c i = 0) (hw : what = 0 ∨ what = 1 ∨ what = 2 ∨ what = 3 ∨ what = 4 ∨ what = 5) : zR l D [(cI, .int)] y_X_request b_X_request 3 (some .int) 3 64 [.ref (a 0), .int i, .int what] (wX a cI nw (nI k) (nI n) (nI c) Z P U V) (f_X_request c V i what) := by
  refine zR.of (by decide) (Nat.le_of_ble_eq_true rfl) ?_
  intro p e s m below meth c0 ls E hrt hlk hN hK hP hl
  have hx := E.1
  have hb := E.2.1
  have hl : lv_has ls 3 [(0, .ref (a 0)), (1, .int i), (2, .int what)] := hl
  refine lv_aload_n hx hb d_X_request_0 rfl (lv_at hl 0 rfl) ?_
  refine z_get (v := .ref (a 15)) E hK hP i_X 0 3 rfl rfl (by decide) kf_X_35 rfl d_X_request_1 ?_
  refine lv_iload_n hx hb d_X_request_4 rfl (lv_at hl 1 rfl) ?_
  refine z_rv (As := [.int i]) (rest := []) E hN hK hP hl.1 (c_Q_has l D cI (fun j => a (15 + j)) c V i hc) [15, 16, 17, 18, 19, 20, 21] rfl 0 rfl rfl kz_X_171 rfl ⟨Nat.le_of_ble_eq_true rfl, Nat.le_of_ble_eq_true rfl⟩ rfl (Nat.le_of_ble_eq_true rfl) ⟨Nat.zero_le _, Nat.zero_le _⟩ d_X_request_5 ?_
  refine lv_if_ne (tgt := 21) hx hb d_X_request_8 (by decide) (fun c_1 => ?_) (fun c_1 => absurd c_1 hh)
  refine lv_iload_n hx hb d_X_request_21 rfl (lv_at hl 2 rfl) ?_
  rcases Classical.em (what = 0) with c_2 | c_2
  · refine lv_tableIn (tgt := 60) (off := 38) hx hb d_X_request_22 (by rw [c_2]; decide) (by rw [c_2]; decide) (by rw [c_2]; decide) (by decide) ?_
    refine lv_aload_n hx hb d_X_request_60 rfl (lv_at hl 0 rfl) ?_
    refine z_get (v := .ref (a 15)) E hK hP i_X 0 3 rfl rfl (by decide) kf_X_35 rfl d_X_request_61 ?_
    refine lv_iload_n hx hb d_X_request_64 rfl (lv_at hl 1 rfl) ?_
    refine z_rv (As := [.int i]) (rest := []) E hN hK hP hl.1 (c_Q_personOf l D cI (fun j => a (15 + j)) c V i hc) [15, 16, 17, 18, 19, 20, 21] rfl 0 rfl rfl kz_X_107 rfl ⟨Nat.le_of_ble_eq_true rfl, Nat.le_of_ble_eq_true rfl⟩ rfl (Nat.le_of_ble_eq_true rfl) ⟨Nat.zero_le _, Nat.zero_le _⟩ d_X_request_65 ?_
    exact zR.iret E hrt hlk (by unfold f_X_request; rw [if_pos c_2]) d_X_request_68
  · rcases Classical.em (what = 1) with c_3 | c_3
    · refine lv_tableIn (tgt := 69) (off := 47) hx hb d_X_request_22 (by rw [c_3]; decide) (by rw [c_3]; decide) (by rw [c_3]; decide) (by decide) ?_
      refine lv_aload_n hx hb d_X_request_69 rfl (lv_at hl 0 rfl) ?_
      refine z_get (v := .ref (a 15)) E hK hP i_X 0 3 rfl rfl (by decide) kf_X_35 rfl d_X_request_70 ?_
      refine lv_iload_n hx hb d_X_request_73 rfl (lv_at hl 1 rfl) ?_
      refine z_rv (As := [.int i]) (rest := []) E hN hK hP hl.1 (c_Q_unitOf l D cI (fun j => a (15 + j)) c V i hc) [15, 16, 17, 18, 19, 20, 21] rfl 0 rfl rfl kz_X_181 rfl ⟨Nat.le_of_ble_eq_true rfl, Nat.le_of_ble_eq_true rfl⟩ rfl (Nat.le_of_ble_eq_true rfl) ⟨Nat.zero_le _, Nat.zero_le _⟩ d_X_request_74 ?_
      exact zR.iret E hrt hlk (by unfold f_X_request; rw [if_neg c_2, if_pos c_3]) d_X_request_77
    · rcases Classical.em (what = 2) with c_4 | c_4
      · refine lv_tableIn (tgt := 78) (off := 56) hx hb d_X_request_22 (by rw [c_4]; decide) (by rw [c_4]; decide) (by rw [c_4]; decide) (by decide) ?_
        refine lv_aload_n hx hb d_X_request_78 rfl (lv_at hl 0 rfl) ?_
        refine z_get (v := .ref (a 15)) E hK hP i_X 0 3 rfl rfl (by decide) kf_X_35 rfl d_X_request_79 ?_
        refine lv_iload_n hx hb d_X_request_82 rfl (lv_at hl 1 rfl) ?_
        refine z_rv (As := [.int i]) (rest := []) E hN hK hP hl.1 (c_Q_stateOf l D cI (fun j => a (15 + j)) c V i hc) [15, 16, 17, 18, 19, 20, 21] rfl 0 rfl rfl kz_X_184 rfl ⟨Nat.le_of_ble_eq_true rfl, Nat.le_of_ble_eq_true rfl⟩ rfl (Nat.le_of_ble_eq_true rfl) ⟨Nat.zero_le _, Nat.zero_le _⟩ d_X_request_83 ?_
        exact zR.iret E hrt hlk (by unfold f_X_request; rw [if_neg c_2, if_neg c_3, if_pos c_4]) d_X_request_86
      · rcases Classical.em (what = 3) with c_5 | c_5
        · refine lv_tableIn (tgt := 87) (off := 65) hx hb d_X_request_22 (by rw [c_5]; decide) (by rw [c_5]; decide) (by rw [c_5]; decide) (by decide) ?_
          refine lv_aload_n hx hb d_X_request_87 rfl (lv_at hl 0 rfl) ?_
          refine z_get (v := .ref (a 15)) E hK hP i_X 0 3 rfl rfl (by decide) kf_X_35 rfl d_X_request_88 ?_
          refine lv_iload_n hx hb d_X_request_91 rfl (lv_at hl 1 rfl) ?_
          refine z_rv (As := [.int i]) (rest := []) E hN hK hP hl.1 (c_Q_askedAt l D cI (fun j => a (15 + j)) c V i hc) [15, 16, 17, 18, 19, 20, 21] rfl 0 rfl rfl kz_X_187 rfl ⟨Nat.le_of_ble_eq_true rfl, Nat.le_of_ble_eq_true rfl⟩ rfl (Nat.le_of_ble_eq_true rfl) ⟨Nat.zero_le _, Nat.zero_le _⟩ d_X_request_92 ?_
          exact zR.iret E hrt hlk (by unfold f_X_request; rw [if_neg c_2, if_neg c_3, if_neg c_4, if_pos c_5]) d_X_request_95
        · rcases Classical.em (what = 4) with c_6 | c_6
          · refine lv_tableIn (tgt := 96) (off := 74) hx hb d_X_request_22 (by rw [c_6]; decide) (by rw [c_6]; decide) (by rw [c_6]; decide) (by decide) ?_
            refine lv_aload_n hx hb d_X_request_96 rfl (lv_at hl 0 rfl) ?_
            refine z_get (v := .ref (a 15)) E hK hP i_X 0 3 rfl rfl (by decide) kf_X_35 rfl d_X_request_97 ?_
            refine lv_iload_n hx hb d_X_request_100 rfl (lv_at hl 1 rfl) ?_
            refine z_rv (As := [.int i]) (rest := []) E hN hK hP hl.1 (c_Q_handedOutAt l D cI (fun j => a (15 + j)) c V i hc) [15, 16, 17, 18, 19, 20, 21] rfl 0 rfl rfl kz_X_190 rfl ⟨Nat.le_of_ble_eq_true rfl, Nat.le_of_ble_eq_true rfl⟩ rfl (Nat.le_of_ble_eq_true rfl) ⟨Nat.zero_le _, Nat.zero_le _⟩ d_X_request_101 ?_
            exact zR.iret E hrt hlk (by unfold f_X_request; rw [if_neg c_2, if_neg c_3, if_neg c_4, if_neg c_5, if_pos c_6]) d_X_request_104
          · rcases Classical.em (what = 5) with c_7 | c_7
            · refine lv_tableIn (tgt := 105) (off := 83) hx hb d_X_request_22 (by rw [c_7]; decide) (by rw [c_7]; decide) (by rw [c_7]; decide) (by decide) ?_
              refine lv_aload_n hx hb d_X_request_105 rfl (lv_at hl 0 rfl) ?_
              refine z_get (v := .ref (a 15)) E hK hP i_X 0 3 rfl rfl (by decide) kf_X_35 rfl d_X_request_106 ?_
              refine lv_iload_n hx hb d_X_request_109 rfl (lv_at hl 1 rfl) ?_
              refine z_rv (As := [.int i]) (rest := []) E hN hK hP hl.1 (c_Q_backAt l D cI (fun j => a (15 + j)) c V i hc) [15, 16, 17, 18, 19, 20, 21] rfl 0 rfl rfl kz_X_193 rfl ⟨Nat.le_of_ble_eq_true rfl, Nat.le_of_ble_eq_true rfl⟩ rfl (Nat.le_of_ble_eq_true rfl) ⟨Nat.zero_le _, Nat.zero_le _⟩ d_X_request_110 ?_
              exact zR.iret E hrt hlk (by unfold f_X_request; rw [if_neg c_2, if_neg c_3, if_neg c_4, if_neg c_5, if_neg c_6, if_pos c_7]) d_X_request_113
            · exfalso; rcases hw with h9 | h9 | h9 | h9 | h9 | h9 <;> exact absurd h9 (by assumption)
def f_X_waits (c : Nat) (V : Nat → Nat → Int32) (unit : Int32) (i : Int32) : Int32 := (f_Q_openOf c V unit i)
set_option maxHeartbeats 4000000 in
set_option maxRecDepth 100000 in
theorem c_X_waits (l : Launch) (D : va_G) (cI : ClassId) (a : Nat → Nat) (nw : Int32) (k : Nat) (n : Nat) (c : Nat) (Z : Nat → Nat → Int32) (P : Nat → Nat → Int32) (U : Nat → Nat → Int32) (V : Nat → Nat → Int32) (unit : Int32) (i : Int32) (hk : k ≤ 20) (hn : n ≤ 60) (hc : c ≤ 300) (hh : ¬ f_Q_openOf c V unit i = (-1)) : zR l D [(cI, .int)] y_X_waits b_X_waits 4 (some .int) 4 89 [.ref (a 0), .int unit, .int i] (wX a cI nw (nI k) (nI n) (nI c) Z P U V) (f_X_waits c V unit i) := by
  refine zR.of (by decide) (Nat.le_of_ble_eq_true rfl) ?_
  intro p e s m below meth c0 ls E hrt hlk hN hK hP hl
  have hx := E.1
  have hb := E.2.1
  have hl : lv_has ls 4 [(0, .ref (a 0)), (1, .int unit), (2, .int i)] := hl
  refine lv_aload_n hx hb d_X_waits_0 rfl (lv_at hl 0 rfl) ?_
  refine z_get (v := .ref (a 15)) E hK hP i_X 0 3 rfl rfl (by decide) kf_X_35 rfl d_X_waits_1 ?_
  refine lv_iload_n hx hb d_X_waits_4 rfl (lv_at hl 1 rfl) ?_
  refine lv_iload_n hx hb d_X_waits_5 rfl (lv_at hl 2 rfl) ?_
  refine z_rv (As := [.int unit, .int i]) (rest := []) E hN hK hP hl.1 (c_Q_openOf l D cI (fun j => a (15 + j)) c V unit i hc) [15, 16, 17, 18, 19, 20, 21] rfl 0 rfl rfl kz_X_90 rfl ⟨Nat.le_of_ble_eq_true rfl, Nat.le_of_ble_eq_true rfl⟩ rfl (Nat.le_of_ble_eq_true rfl) ⟨Nat.zero_le _, Nat.zero_le _⟩ d_X_waits_6 ?_
  refine lv_istore_n (lv' := [(3, .int (f_Q_openOf c V unit i)), (0, .ref (a 0)), (1, .int unit), (2, .int i)]) hx hb d_X_waits_9 rfl hl (by decide) rfl (fun ls hl => ?_)
  refine lv_iload_n hx hb d_X_waits_10 rfl (lv_at hl 0 rfl) ?_
  refine lv_iconst (v := (-1)) hx hb d_X_waits_11 (by decide) ?_
  refine lv_icmp_ne (tgt := 25) hx hb d_X_waits_12 (by decide) (fun c_1 => ?_) (fun c_1 => absurd c_1 hh)
  refine lv_iload_n hx hb d_X_waits_25 rfl (lv_at hl 0 rfl) ?_
  exact zR.iret E hrt hlk (by rfl) d_X_waits_26
theorem kx_new : Cond.classLink R_X 174 NSE ∈ zB ∧ Cond.initialized NSE ∈ zB ∧ Cond.instantiable NSE 6 ∈ zB := ⟨(z_in 417 (by decide +kernel) (by decide +kernel)), (z_in 12 (by decide +kernel) (by decide +kernel)), (z_in 418 (by decide +kernel) (by decide +kernel))⟩
section XT
variable {p : Program} {l : Launch} {e : Env} {s : State} {m : MethodId} {below : List Frame} {meth : Method} {c0 : Code} {D : va_G} {cI : ClassId} {a : Nat → Nat} {nw : Int32} {k n c : Nat} {Z P U V : Nat → Nat → Int32}
set_option maxHeartbeats 4000000 in
set_option maxRecDepth 100000 in
/-- request, where it throws -/
theorem x_request_thr {i what : Int32} {ls : Array Slot} (hc : c ≤ 300) (E : CallFix p m c0 b_X_request 3 s ([.ref (a 0), .int i, .int what] : List Value).toArray zB R_X) (hlk : meth.locks = false) (hfl : l.flags = flags0) (hN : zN s) (hK : va_K D vwCl [(cI, .int)] s) (hZ : zTx s) (hex : c0.exceptionTable.toList = []) (hP : va_P D vwCl (wX a cI nw (nI k) (nI n) (nI c) Z P U V) s.heap) (hl : lv_has ls 3 [(0, .ref (a 0)), (1, .int i), (2, .int what)])
    (hbad : f_Q_has c i = 0 ∨ (¬ what = 0 ∧ ¬ what = 1 ∧ ¬ what = 2 ∧ ¬ what = 3 ∧ ¬ what = 4 ∧ ¬ what = 5)) :
    W p l e { frames := 6, cells := 1, slots := 6, locals := 110 } s m ([.ref (a 0), .int i, .int what] : List Value).toArray below meth c0 s.heap [] 0 0 (zXQ below s) (F0 m 0 ls []) := by
  have hx := E.1
  have hb := E.2.1
  refine lv_aload_n hx hb d_X_request_0 rfl (lv_at hl 0 rfl) ?_
  refine z_get (v := .ref (a 15)) E hK hP i_X 0 3 rfl rfl (by decide) kf_X_35 rfl d_X_request_1 ?_
  refine lv_iload_n hx hb d_X_request_4 rfl (lv_at hl 1 rfl) ?_
  refine z_rv (As := [.int i]) (rest := []) E hN hK hP hl.1 (c_Q_has l D cI (fun j => a (15 + j)) c V i hc) [15, 16, 17, 18, 19, 20, 21] rfl 0 rfl rfl kz_X_171 rfl ⟨Nat.le_of_ble_eq_true rfl, Nat.le_of_ble_eq_true rfl⟩ rfl (Nat.le_of_ble_eq_true rfl) ⟨Nat.zero_le _, Nat.zero_le _⟩ d_X_request_5 ?_
  refine lv_if_ne (tgt := 21) hx hb d_X_request_8 (by decide) (fun c_1 => ?_) (fun c_1 => ?_)
  · obtain ⟨h0, h1, h2, h3, h4, h5⟩ := hbad.resolve_left c_1
    refine lv_iload_n hx hb d_X_request_21 rfl (lv_at hl 2 rfl) ?_
    refine lv_tableOut (tgt := 114) hx hb d_X_request_22 (sw_out6 h0 h1 h2 h3 h4 h5) (by decide) ?_
    exact z_throw E hlk hfl hZ hl.1 hZ.2.2.1 kx_new.1 kx_new.2.1 kx_new.2.2 d_X_request_114 d_X_request_117 d_X_request_118 d_X_request_120 d_X_request_123 hex (by decide) (by decide) (by decide) (by decide)
  · exact z_throw E hlk hfl hZ hl.1 hZ.2.1 kx_new.1 kx_new.2.1 kx_new.2.2 d_X_request_11 d_X_request_14 d_X_request_15 d_X_request_17 d_X_request_20 hex (by decide) (by decide) (by decide) (by decide)
set_option maxHeartbeats 4000000 in
set_option maxRecDepth 100000 in
/-- waits, where it throws -/
theorem x_waits_thr {unit i : Int32} {ls : Array Slot} (hc : c ≤ 300) (E : CallFix p m c0 b_X_waits 4 s ([.ref (a 0), .int unit, .int i] : List Value).toArray zB R_X) (hlk : meth.locks = false) (hfl : l.flags = flags0) (hN : zN s) (hK : va_K D vwCl [(cI, .int)] s) (hZ : zTx s) (hex : c0.exceptionTable.toList = []) (hP : va_P D vwCl (wX a cI nw (nI k) (nI n) (nI c) Z P U V) s.heap) (hl : lv_has ls 4 [(0, .ref (a 0)), (1, .int unit), (2, .int i)])
    (hbad : f_Q_openOf c V unit i = (-1)) :
    W p l e { frames := 6, cells := 1, slots := 6, locals := 110 } s m ([.ref (a 0), .int unit, .int i] : List Value).toArray below meth c0 s.heap [] 0 0 (zXQ below s) (F0 m 0 ls []) := by
  have hx := E.1
  have hb := E.2.1
  refine lv_aload_n hx hb d_X_waits_0 rfl (lv_at hl 0 rfl) ?_
  refine z_get (v := .ref (a 15)) E hK hP i_X 0 3 rfl rfl (by decide) kf_X_35 rfl d_X_waits_1 ?_
  refine lv_iload_n hx hb d_X_waits_4 rfl (lv_at hl 1 rfl) ?_
  refine lv_iload_n hx hb d_X_waits_5 rfl (lv_at hl 2 rfl) ?_
  refine z_rv (As := [.int unit, .int i]) (rest := []) E hN hK hP hl.1 (c_Q_openOf l D cI (fun j => a (15 + j)) c V unit i hc) [15, 16, 17, 18, 19, 20, 21] rfl 0 rfl rfl kz_X_90 rfl ⟨Nat.le_of_ble_eq_true rfl, Nat.le_of_ble_eq_true rfl⟩ rfl (Nat.le_of_ble_eq_true rfl) ⟨Nat.zero_le _, Nat.zero_le _⟩ d_X_waits_6 ?_
  refine lv_istore_n (lv' := [(3, .int (f_Q_openOf c V unit i)), (0, .ref (a 0)), (1, .int unit), (2, .int i)]) hx hb d_X_waits_9 rfl hl (by decide) rfl (fun ls hl => ?_)
  refine lv_iload_n hx hb d_X_waits_10 rfl (lv_at hl 0 rfl) ?_
  refine lv_iconst (v := (-1)) hx hb d_X_waits_11 (by decide) ?_
  refine lv_icmp_ne (tgt := 25) hx hb d_X_waits_12 (by decide) (fun c_1 => absurd hbad c_1) (fun c_1 => ?_)
  exact z_throw E hlk hfl hZ hl.1 hZ.2.2.2 kx_new.1 kx_new.2.1 kx_new.2.2 d_X_waits_15 d_X_waits_18 d_X_waits_19 d_X_waits_21 d_X_waits_24 hex (by decide) (by decide) (by decide) (by decide)
end XT
/-- the law's cells: the class's, the model's, the long that an answer is put into -/
def wL (a b : Nat → Nat) (o : Nat) (cI cJ : ClassId) (nw k n c : Int32) (Z P U V : Nat → Nat → Int32) (th nw' k' n' c' : Int32) (Z' P' U' V' : Nat → Nat → Int32) (g : Nat → Int64) : va_W := wX a cI nw k n c Z P U V ++ (wM b cI th nw' k' n' c' Z' P' U' V' ++ [(o, .inl (cJ, 1, .inr (.inl g)))])
theorem kl_request : zC R_L 7 R_X y_X_request b_X_request 3 (some .int) 2 := ⟨(z_in 412 (by decide +kernel) (by decide +kernel)), (z_in 413 (by decide +kernel) (by decide +kernel)), (z_in 414 (by decide +kernel) (by decide +kernel)), (z_in 1 (by decide +kernel) (by decide +kernel)), (z_in 415 (by decide +kernel) (by decide +kernel)), ⟨by decide, by decide⟩, by decide +kernel⟩
theorem kl_waits : zC R_L 15 R_X y_X_waits b_X_waits 4 (some .int) 2 := ⟨(z_in 504 (by decide +kernel) (by decide +kernel)), (z_in 505 (by decide +kernel) (by decide +kernel)), (z_in 506 (by decide +kernel) (by decide +kernel)), (z_in 1 (by decide +kernel) (by decide +kernel)), (z_in 507 (by decide +kernel) (by decide +kernel)), ⟨by decide, by decide⟩, by decide +kernel⟩
theorem kl_nse : Cond.classLink R_L 13 NSE ∈ zB := (z_in 411 (by decide +kernel) (by decide +kernel))
