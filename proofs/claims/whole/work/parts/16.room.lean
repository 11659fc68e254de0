def f_X_isTime (nw : Int32) (t : Int32) : Int32 := (f_isWithin t nw 1000000000)
set_option maxHeartbeats 4000000 in
set_option maxRecDepth 100000 in
theorem c_X_isTime (l : Launch) (D : va_G) (cI : ClassId) (a : Nat → Nat) (nw : Int32) (k : Nat) (n : Nat) (c : Nat) (Z : Nat → Nat → Int32) (P : Nat → Nat → Int32) (U : Nat → Nat → Int32) (V : Nat → Nat → Int32) (t : Int32) (hk : k ≤ 20) (hn : n ≤ 60) (hc : c ≤ 300) : zR l D [(cI, .int)] y_X_isTime b_X_isTime 2 (some .boolean) 1 22 [.ref (a 0), .int t] (wX a cI nw (nI k) (nI n) (nI c) Z P U V) (f_X_isTime nw t) := by
  refine zR.of (by decide) (Nat.le_of_ble_eq_true rfl) ?_
  intro p e s m below meth c0 ls E hrt hlk hN hK hP hl
  have hx := E.1
  have hb := E.2.1
  have hl : lv_has ls 2 [(0, .ref (a 0)), (1, .int t)] := hl
  refine lv_iload_n hx hb d_X_isTime_0 rfl (lv_at hl 1 rfl) ?_
  refine lv_aload_n hx hb d_X_isTime_1 rfl (lv_at hl 0 rfl) ?_
  refine z_get (v := .int nw) E hK hP i_X 0 4 rfl rfl (by decide) kf_X_39 rfl d_X_isTime_2 ?_
  refine lv_ldc (v := 1000000000) hx hb E.2.2.2.1 (E.2.2.2.2 _ kc_X_200) d_X_isTime_5 ?_
  refine z_rs (As := [.int t, .int nw, .int 1000000000]) (rest := []) E hN hK hl.1 (c_isWithin l D [(cI, .int)] t nw 1000000000) kz_X_120 rfl ⟨Nat.le_of_ble_eq_true rfl, Nat.le_of_ble_eq_true rfl⟩ rfl (Nat.le_of_ble_eq_true rfl) ⟨Nat.zero_le _, Nat.zero_le _⟩ d_X_isTime_7 ?_
  exact zR.zret E hrt hlk (nar01 (b01_isWithin _ _ _)) (by rfl) d_X_isTime_10
def f_X_isRightTooLow (P : Nat → Nat → Int32) (U : Nat → Nat → Int32) (person : Int32) (unit : Int32) : Int32 := (if (f_H_restrictionOf U unit) ≤ (f_R_rightOf P person) then 0 else 1)
set_option maxHeartbeats 4000000 in
set_option maxRecDepth 100000 in
theorem c_X_isRightTooLow (l : Launch) (D : va_G) (cI : ClassId) (a : Nat → Nat) (nw : Int32) (k : Nat) (n : Nat) (c : Nat) (Z : Nat → Nat → Int32) (P : Nat → Nat → Int32) (U : Nat → Nat → Int32) (V : Nat → Nat → Int32) (person : Int32) (unit : Int32) (hk : k ≤ 20) (hn : n ≤ 60) (hc : c ≤ 300) : zR l D [(cI, .int)] y_X_isRightTooLow b_X_isRightTooLow 3 (some .boolean) 3 63 [.ref (a 0), .int person, .int unit] (wX a cI nw (nI k) (nI n) (nI c) Z P U V) (f_X_isRightTooLow P U person unit) := by
  refine zR.of (by decide) (Nat.le_of_ble_eq_true rfl) ?_
  intro p e s m below meth c0 ls E hrt hlk hN hK hP hl
  have hx := E.1
  have hb := E.2.1
  have hl : lv_has ls 3 [(0, .ref (a 0)), (1, .int person), (2, .int unit)] := hl
  refine lv_aload_n hx hb d_X_isRightTooLow_0 rfl (lv_at hl 0 rfl) ?_
  refine z_get (v := .ref (a 4)) E hK hP i_X 0 1 rfl rfl (by decide) kf_X_21 rfl d_X_isRightTooLow_1 ?_
  refine lv_iload_n hx hb d_X_isRightTooLow_4 rfl (lv_at hl 1 rfl) ?_
  refine z_rv (As := [.int person]) (rest := []) E hN hK hP hl.1 (c_R_rightOf l D cI (fun j => a (4 + j)) P person ) [4, 5, 6, 7, 8, 9] rfl 0 rfl rfl kz_X_201 rfl ⟨Nat.le_of_ble_eq_true rfl, Nat.le_of_ble_eq_true rfl⟩ rfl (Nat.le_of_ble_eq_true rfl) ⟨Nat.zero_le _, Nat.zero_le _⟩ d_X_isRightTooLow_5 ?_
  refine lv_aload_n hx hb d_X_isRightTooLow_8 rfl (lv_at hl 0 rfl) ?_
  refine z_get (v := .ref (a 10)) E hK hP i_X 0 2 rfl rfl (by decide) kf_X_28 rfl d_X_isRightTooLow_9 ?_
  refine lv_iload_n hx hb d_X_isRightTooLow_12 rfl (lv_at hl 2 rfl) ?_
  refine z_rv (As := [.int unit]) (rest := [.int (f_R_rightOf P person)]) E hN hK hP hl.1 (c_H_restrictionOf l D cI (fun j => a (10 + j)) U unit ) [10, 11, 12, 13, 14] rfl 0 rfl rfl kz_X_156 rfl ⟨Nat.le_of_ble_eq_true rfl, Nat.le_of_ble_eq_true rfl⟩ rfl (Nat.le_of_ble_eq_true rfl) ⟨Nat.zero_le _, Nat.zero_le _⟩ d_X_isRightTooLow_13 ?_
  refine lv_icmp_ge (tgt := 23) hx hb d_X_isRightTooLow_16 (by decide) (fun c_1 => ?_) (fun c_1 => ?_)
  · refine lv_iconst (v := 0) hx hb d_X_isRightTooLow_23 (by decide) ?_
    exact zR.zret E hrt hlk rfl (by unfold f_X_isRightTooLow; rw [if_pos c_1]) d_X_isRightTooLow_24
  · refine lv_iconst (v := 1) hx hb d_X_isRightTooLow_19 (by decide) ?_
    refine lv_goto (tgt := 24) hx hb d_X_isRightTooLow_20 (by decide) ?_
    exact zR.zret E hrt hlk rfl (by unfold f_X_isRightTooLow; rw [if_neg c_1]) d_X_isRightTooLow_24
def f_X_sendFor (c : Nat) (U : Nat → Nat → Int32) (V : Nat → Nat → Int32) (unit : Int32) (number : Int32) : (Nat → Nat → Int32) × (Nat → Nat → Int32) := ((f_H_put U unit 1 number), (f_Q_setState c V number 1))
set_option maxHeartbeats 4000000 in
set_option maxRecDepth 100000 in
theorem c_X_sendFor (l : Launch) (D : va_G) (cI : ClassId) (a : Nat → Nat) (nw : Int32) (k : Nat) (n : Nat) (c : Nat) (Z : Nat → Nat → Int32) (P : Nat → Nat → Int32) (U : Nat → Nat → Int32) (V : Nat → Nat → Int32) (unit : Int32) (number : Int32) (hk : k ≤ 20) (hn : n ≤ 60) (hc : c ≤ 300) : zW l D [(cI, .int)] y_X_sendFor b_X_sendFor 3 none 3 65 [.ref (a 0), .int unit, .int number] (wX a cI nw (nI k) (nI n) (nI c) Z P U V) (wX a cI nw (nI k) (nI n) (nI c) Z P ((f_X_sendFor c U V unit number).1) ((f_X_sendFor c U V unit number).2)) none := by
  refine zW.of (by decide) (Nat.le_of_ble_eq_true rfl) ?_
  intro p e s m below meth c0 ls A E hrt hlk hN hK hA G hl
  have hx := E.1
  have hb := E.2.1
  have hl : lv_has ls 3 [(0, .ref (a 0)), (1, .int unit), (2, .int number)] := hl
  refine lv_aload_n hx hb d_X_sendFor_0 rfl (lv_at hl 0 rfl) ?_
  refine z_get (v := .ref (a 10)) E hK G.1 i_X 0 2 rfl rfl (by decide) kf_X_28 rfl d_X_sendFor_1 ?_
  refine lv_iload_n hx hb d_X_sendFor_4 rfl (lv_at hl 1 rfl) ?_
  refine lv_iconst (v := 1) hx hb d_X_sendFor_5 (by decide) ?_
  refine lv_iload_n hx hb d_X_sendFor_6 rfl (lv_at hl 2 rfl) ?_
  refine z_wv (As := [.int unit, .int 1, .int number]) (rest := []) (wr := ([0, 1, 2, 3, 4, 5, 6, 7, 8, 9, 15, 16, 17, 18, 19, 20, 21] : List Nat).filterMap (fun i => (wX a cI nw (nI k) (nI n) (nI c) Z P U V)[i]?)) (ws' := wX a cI nw (nI k) (nI n) (nI c) Z P (f_H_put U unit 1 number) V) E hN hK hA G hl.1 (c_H_put l D cI (fun j => a (10 + j)) U unit 1 number ) [10, 11, 12, 13, 14] [0, 1, 2, 3, 4, 5, 6, 7, 8, 9, 15, 16, 17, 18, 19, 20, 21] [0, 1, 2, 3, 4, 5, 6, 7, 8, 9, 17, 18, 19, 20, 21, 10, 11, 12, 13, 14, 15, 16] rfl rfl rfl rfl rfl rfl (by decide) 0 rfl rfl kz_X_110 rfl ⟨Nat.le_of_ble_eq_true rfl, Nat.le_of_ble_eq_true rfl⟩ rfl (Nat.le_of_ble_eq_true rfl) ⟨Nat.zero_le _, Nat.zero_le _⟩ d_X_sendFor_7 (fun H locs G => ?_)
  refine W.eq (g2 := F0 m 10 ls []) rfl ?_
  refine lv_aload_n hx hb d_X_sendFor_10 rfl (lv_at hl 0 rfl) ?_
  refine z_get (v := .ref (a 15)) E hK G.1 i_X 0 3 rfl rfl (by decide) kf_X_35 rfl d_X_sendFor_11 ?_
  refine lv_iload_n hx hb d_X_sendFor_14 rfl (lv_at hl 2 rfl) ?_
  refine lv_iconst (v := 1) hx hb d_X_sendFor_15 (by decide) ?_
  refine z_wv (As := [.int number, .int 1]) (rest := []) (wr := ([0, 1, 2, 3, 4, 5, 6, 7, 8, 9, 10, 11, 12, 13, 14] : List Nat).filterMap (fun i => (wX a cI nw (nI k) (nI n) (nI c) Z P (f_H_put U unit 1 number) V)[i]?)) (ws' := wX a cI nw (nI k) (nI n) (nI c) Z P (f_H_put U unit 1 number) (f_Q_setState c V number 1)) E hN hK hA G hl.1 (c_Q_setState l D cI (fun j => a (15 + j)) c V number 1 hc) [15, 16, 17, 18, 19, 20, 21] [0, 1, 2, 3, 4, 5, 6, 7, 8, 9, 10, 11, 12, 13, 14] [0, 1, 2, 3, 4, 5, 6, 7, 8, 9, 10, 11, 12, 13, 14, 15, 16, 17, 18, 19, 20, 21] rfl rfl rfl rfl rfl rfl (by decide) 0 rfl rfl kz_X_204 rfl ⟨Nat.le_of_ble_eq_true rfl, Nat.le_of_ble_eq_true rfl⟩ rfl (Nat.le_of_ble_eq_true rfl) ⟨Nat.zero_le _, Nat.zero_le _⟩ d_X_sendFor_16 (fun H locs G => ?_)
  refine W.eq (g2 := F0 m 19 ls []) rfl ?_
  have hf : f_X_sendFor c U V unit number = ((f_H_put U unit 1 number), (f_Q_setState c V number 1)) := by rfl
  exact zW.vret E hrt hlk G (by rw [hf]) (by rfl) d_X_sendFor_19
def f_X_withdrawFromLowRights_L (c : Nat) (P : Nat → Nat → Int32) (U : Nat → Nat → Int32) (unit : Int32) : Nat → Nat → Int32 → (Nat → Nat → Int32) → Int32 × (Nat → Nat → Int32)
  | 0, k0, x2, V => (x2, V)
  | d + 1, k0, x2, V => (if (f_Q_isOpenFor c V (nI k0) unit) = 0 then (f_X_withdrawFromLowRights_L c P U unit d (k0 + 1) x2 V) else (if (f_X_isRightTooLow P U (f_Q_personOf c V (nI k0)) unit) = 0 then (f_X_withdrawFromLowRights_L c P U unit d (k0 + 1) x2 V) else (f_X_withdrawFromLowRights_L c P U unit d (k0 + 1) (x2 + 1) (f_Q_setState c V (nI k0) 4))))
theorem f_X_withdrawFromLowRights_L_0 (c : Nat) (P : Nat → Nat → Int32) (U : Nat → Nat → Int32) (unit : Int32) (k0 : Nat) (x2 : Int32) (V : Nat → Nat → Int32) : f_X_withdrawFromLowRights_L c P U unit 0 k0 x2 V = (x2, V) := rfl
theorem f_X_withdrawFromLowRights_L_s (c : Nat) (P : Nat → Nat → Int32) (U : Nat → Nat → Int32) (unit : Int32) (d k0 : Nat) (x2 : Int32) (V : Nat → Nat → Int32) : f_X_withdrawFromLowRights_L c P U unit (d + 1) k0 x2 V = (if (f_Q_isOpenFor c V (nI k0) unit) = 0 then (f_X_withdrawFromLowRights_L c P U unit d (k0 + 1) x2 V) else (if (f_X_isRightTooLow P U (f_Q_personOf c V (nI k0)) unit) = 0 then (f_X_withdrawFromLowRights_L c P U unit d (k0 + 1) x2 V) else (f_X_withdrawFromLowRights_L c P U unit d (k0 + 1) (x2 + 1) (f_Q_setState c V (nI k0) 4)))) := rfl
def f_X_withdrawFromLowRights (c : Nat) (P : Nat → Nat → Int32) (U : Nat → Nat → Int32) (V : Nat → Nat → Int32) (unit : Int32) : Int32 × (Nat → Nat → Int32) := (f_X_withdrawFromLowRights_L c P U unit 300 0 0 V)
set_option maxHeartbeats 4000000 in
set_option maxRecDepth 100000 in
theorem lp_X_withdrawFromLowRights (l : Launch) (D : va_G) (cI : ClassId) (a : Nat → Nat) (nw : Int32) (k : Nat) (n : Nat) (c : Nat) (Z : Nat → Nat → Int32) (P : Nat → Nat → Int32) (U : Nat → Nat → Int32) (unit : Int32) (hk : k ≤ 20) (hn : n ≤ 60) (hc : c ≤ 300) {p : Program} {e : Env} {s : State} {m : MethodId} {below : List Frame} {meth : Method} {c0 : Code} {A : Nat → Prop} (E : CallFix p m c0 b_X_withdrawFromLowRights 4 s ([.ref (a 0), .int unit] : List Value).toArray zB y_X_withdrawFromLowRights.cls) (hrt : meth.sig.returnType = (some .int)) (hlk : meth.locks = false) (hN : zN s) (hK : va_K D vwCl [(cI, .int)] s) (hA : ∀ q, s.heap.size ≤ q → A q) :
    ∀ (d k0 : Nat) (x2 : Int32) (V : Nat → Nat → Int32), k0 + d = 300 → ∀ X : Int32 × (Nat → Nat → Int32), f_X_withdrawFromLowRights_L c P U unit d k0 x2 V = X → ∀ (H : Heap) (locs : List Loc), zG D A s H locs (wX a cI nw (nI k) (nI n) (nI c) Z P U V) → ∀ ls : Array Slot, lv_has ls 4 [(3, .int (nI k0)), (2, .int x2), (0, .ref (a 0)), (1, .int unit)] → W p l e { frames := 4, cells := 0, slots := 0, locals := 85 } s m ([.ref (a 0), .int unit] : List Value).toArray below meth c0 H locs 0 0 (MQ below (zQ D A (wX a cI nw (nI k) (nI n) (nI c) Z P U X.2) (some (.int X.1))) ([.ref (a 0), .int unit] : List Value).toArray s 0 0 A) (F0 m 4 ls []) := by
  have hx := E.1
  have hb := E.2.1
  intro d
  induction d with
  | zero =>
    intro k0 x2 V hkd X hr H locs G ls hl
    refine lv_iload_n hx hb d_X_withdrawFromLowRights_4 rfl (lv_at hl 0 rfl) ?_
    refine lv_sipush (v := (nI 300)) hx hb d_X_withdrawFromLowRights_5 (by decide) ?_
    refine lv_icmp_ge (tgt := 57) hx hb d_X_withdrawFromLowRights_8 (by decide) (fun c_1 => ?_) (fun c_1 => absurd (nI_le (by omega) (by omega)) c_1)
    refine lv_iload_n hx hb d_X_withdrawFromLowRights_57 rfl (lv_at hl 1 rfl) ?_
    have hf : X = (x2, V) := by rw [← hr, f_X_withdrawFromLowRights_L_0]
    exact zW.iret E hrt hlk G (by rw [hf]) (by rw [hf]) d_X_withdrawFromLowRights_58
  | succ d ih =>
    intro k0 x2 V hkd X hr H locs G ls hl
    refine lv_iload_n hx hb d_X_withdrawFromLowRights_4 rfl (lv_at hl 0 rfl) ?_
    refine lv_sipush (v := (nI 300)) hx hb d_X_withdrawFromLowRights_5 (by decide) ?_
    refine lv_icmp_ge (tgt := 57) hx hb d_X_withdrawFromLowRights_8 (by decide) (fun c_2 => absurd c_2 (nI_ge (by omega) (by omega))) (fun c_2 => ?_)
    refine lv_aload_n hx hb d_X_withdrawFromLowRights_11 rfl (lv_at hl 2 rfl) ?_
    refine z_get (v := .ref (a 15)) E hK G.1 i_X 0 3 rfl rfl (by decide) kf_X_35 rfl d_X_withdrawFromLowRights_12 ?_
    refine lv_iload_n hx hb d_X_withdrawFromLowRights_15 rfl (lv_at hl 0 rfl) ?_
    refine lv_iload_n hx hb d_X_withdrawFromLowRights_16 rfl (lv_at hl 3 rfl) ?_
    refine z_rv (As := [.int (nI k0), .int unit]) (rest := []) E hN hK G.1 hl.1 (c_Q_isOpenFor l D cI (fun j => a (15 + j)) c V (nI k0) unit hc) [15, 16, 17, 18, 19, 20, 21] rfl 0 rfl rfl kz_X_207 rfl ⟨Nat.le_of_ble_eq_true rfl, Nat.le_of_ble_eq_true rfl⟩ rfl (Nat.le_of_ble_eq_true rfl) ⟨Nat.zero_le _, Nat.zero_le _⟩ d_X_withdrawFromLowRights_17 ?_
    refine lv_if_eq (tgt := 51) hx hb d_X_withdrawFromLowRights_20 (by decide) (fun c_3 => ?_) (fun c_3 => ?_)
    · refine lv_iinc (v := nI (k0 + 1)) (lv' := [(3, .int (nI (k0 + 1))), (2, .int x2), (0, .ref (a 0)), (1, .int unit)]) hx hb d_X_withdrawFromLowRights_51 hl (k := 0) rfl (nI_1 _) (by decide) rfl (fun ls hl => ?_)
      refine lv_goto (tgt := 4) hx hb d_X_withdrawFromLowRights_54 (by decide) ?_
      exact ih (k0 + 1) x2 V (by omega) X (by rw [← hr, f_X_withdrawFromLowRights_L_s, if_pos c_3]) H locs G ls (lv_sub hl [0, 1, 2, 3] rfl)
    · refine lv_aload_n hx hb d_X_withdrawFromLowRights_23 rfl (lv_at hl 2 rfl) ?_
      refine lv_aload_n hx hb d_X_withdrawFromLowRights_24 rfl (lv_at hl 2 rfl) ?_
      refine z_get (v := .ref (a 15)) E hK G.1 i_X 0 3 rfl rfl (by decide) kf_X_35 rfl d_X_withdrawFromLowRights_25 ?_
      refine lv_iload_n hx hb d_X_withdrawFromLowRights_28 rfl (lv_at hl 0 rfl) ?_
      refine z_rv (As := [.int (nI k0)]) (rest := [.ref (a 0)]) E hN hK G.1 hl.1 (c_Q_personOf l D cI (fun j => a (15 + j)) c V (nI k0) hc) [15, 16, 17, 18, 19, 20, 21] rfl 0 rfl rfl kz_X_107 rfl ⟨Nat.le_of_ble_eq_true rfl, Nat.le_of_ble_eq_true rfl⟩ rfl (Nat.le_of_ble_eq_true rfl) ⟨Nat.zero_le _, Nat.zero_le _⟩ d_X_withdrawFromLowRights_29 ?_
      refine lv_iload_n hx hb d_X_withdrawFromLowRights_32 rfl (lv_at hl 3 rfl) ?_
      refine z_rv (As := [.int (f_Q_personOf c V (nI k0)), .int unit]) (rest := []) E hN hK G.1 hl.1 (c_X_isRightTooLow l D cI a nw k n c Z P U V (f_Q_personOf c V (nI k0)) unit hk hn hc) [0, 1, 2, 3, 4, 5, 6, 7, 8, 9, 10, 11, 12, 13, 14, 15, 16, 17, 18, 19, 20, 21] rfl 0 rfl rfl kz_X_73 rfl ⟨Nat.le_of_ble_eq_true rfl, Nat.le_of_ble_eq_true rfl⟩ rfl (Nat.le_of_ble_eq_true rfl) ⟨Nat.zero_le _, Nat.zero_le _⟩ d_X_withdrawFromLowRights_33 ?_
      refine lv_if_eq (tgt := 51) hx hb d_X_withdrawFromLowRights_36 (by decide) (fun c_4 => ?_) (fun c_4 => ?_)
      · refine lv_iinc (v := nI (k0 + 1)) (lv' := [(3, .int (nI (k0 + 1))), (2, .int x2), (0, .ref (a 0)), (1, .int unit)]) hx hb d_X_withdrawFromLowRights_51 hl (k := 0) rfl (nI_1 _) (by decide) rfl (fun ls hl => ?_)
        refine lv_goto (tgt := 4) hx hb d_X_withdrawFromLowRights_54 (by decide) ?_
        exact ih (k0 + 1) x2 V (by omega) X (by rw [← hr, f_X_withdrawFromLowRights_L_s, if_neg c_3, if_pos c_4]) H locs G ls (lv_sub hl [0, 1, 2, 3] rfl)
      · refine lv_aload_n hx hb d_X_withdrawFromLowRights_39 rfl (lv_at hl 2 rfl) ?_
        refine z_get (v := .ref (a 15)) E hK G.1 i_X 0 3 rfl rfl (by decide) kf_X_35 rfl d_X_withdrawFromLowRights_40 ?_
        refine lv_iload_n hx hb d_X_withdrawFromLowRights_43 rfl (lv_at hl 0 rfl) ?_
        refine lv_iconst (v := 4) hx hb d_X_withdrawFromLowRights_44 (by decide) ?_
        refine z_wv (As := [.int (nI k0), .int 4]) (rest := []) (wr := ([0, 1, 2, 3, 4, 5, 6, 7, 8, 9, 10, 11, 12, 13, 14] : List Nat).filterMap (fun i => (wX a cI nw (nI k) (nI n) (nI c) Z P U V)[i]?)) (ws' := wX a cI nw (nI k) (nI n) (nI c) Z P U (f_Q_setState c V (nI k0) 4)) E hN hK hA G hl.1 (c_Q_setState l D cI (fun j => a (15 + j)) c V (nI k0) 4 hc) [15, 16, 17, 18, 19, 20, 21] [0, 1, 2, 3, 4, 5, 6, 7, 8, 9, 10, 11, 12, 13, 14] [0, 1, 2, 3, 4, 5, 6, 7, 8, 9, 10, 11, 12, 13, 14, 15, 16, 17, 18, 19, 20, 21] rfl rfl rfl rfl rfl rfl (by decide) 0 rfl rfl kz_X_204 rfl ⟨Nat.le_of_ble_eq_true rfl, Nat.le_of_ble_eq_true rfl⟩ rfl (Nat.le_of_ble_eq_true rfl) ⟨Nat.zero_le _, Nat.zero_le _⟩ d_X_withdrawFromLowRights_45 (fun H locs G => ?_)
        refine W.eq (g2 := F0 m 48 ls []) rfl ?_
        refine lv_iinc (v := x2 + 1) (lv' := [(2, .int (x2 + 1)), (3, .int (nI k0)), (0, .ref (a 0)), (1, .int unit)]) hx hb d_X_withdrawFromLowRights_48 hl (k := 1) rfl rfl (by decide) rfl (fun ls hl => ?_)
        refine lv_iinc (v := nI (k0 + 1)) (lv' := [(3, .int (nI (k0 + 1))), (2, .int (x2 + 1)), (0, .ref (a 0)), (1, .int unit)]) hx hb d_X_withdrawFromLowRights_51 hl (k := 1) rfl (nI_1 _) (by decide) rfl (fun ls hl => ?_)
        refine lv_goto (tgt := 4) hx hb d_X_withdrawFromLowRights_54 (by decide) ?_
        exact ih (k0 + 1) (x2 + 1) (f_Q_setState c V (nI k0) 4) (by omega) X (by rw [← hr, f_X_withdrawFromLowRights_L_s, if_neg c_3, if_neg c_4]) H locs G ls (lv_sub hl [0, 1, 2, 3] rfl)
set_option maxHeartbeats 4000000 in
set_option maxRecDepth 100000 in
theorem c_X_withdrawFromLowRights (l : Launch) (D : va_G) (cI : ClassId) (a : Nat → Nat) (nw : Int32) (k : Nat) (n : Nat) (c : Nat) (Z : Nat → Nat → Int32) (P : Nat → Nat → Int32) (U : Nat → Nat → Int32) (V : Nat → Nat → Int32) (unit : Int32) (hk : k ≤ 20) (hn : n ≤ 60) (hc : c ≤ 300) : zW l D [(cI, .int)] y_X_withdrawFromLowRights b_X_withdrawFromLowRights 4 (some .int) 4 85 [.ref (a 0), .int unit] (wX a cI nw (nI k) (nI n) (nI c) Z P U V) (wX a cI nw (nI k) (nI n) (nI c) Z P U ((f_X_withdrawFromLowRights c P U V unit).2)) (some (.int (f_X_withdrawFromLowRights c P U V unit).1)) := by
  refine zW.of (by decide) (Nat.le_of_ble_eq_true rfl) ?_
  intro p e s m below meth c0 ls A E hrt hlk hN hK hA G hl
  have hx := E.1
  have hb := E.2.1
  have hl : lv_has ls 4 [(0, .ref (a 0)), (1, .int unit)] := hl
  refine lv_iconst (v := 0) hx hb d_X_withdrawFromLowRights_0 (by decide) ?_
  refine lv_istore_n (lv' := [(2, .int 0), (0, .ref (a 0)), (1, .int unit)]) hx hb d_X_withdrawFromLowRights_1 rfl hl (by decide) rfl (fun ls hl => ?_)
  refine lv_iconst (v := 0) hx hb d_X_withdrawFromLowRights_2 (by decide) ?_
  refine lv_istore_n (lv' := [(3, .int 0), (2, .int 0), (0, .ref (a 0)), (1, .int unit)]) hx hb d_X_withdrawFromLowRights_3 rfl hl (by decide) rfl (fun ls hl => ?_)
  exact lp_X_withdrawFromLowRights l D cI a nw k n c Z P U unit hk hn hc E hrt hlk hN hK hA 300 0 0 V (by omega) _ (by rfl) _ _ G ls (by rw [nI_0]; exact lv_sub hl [0, 1, 2, 3] rfl)
def f_X_come (nw : Int32) (k : Nat) (n : Nat) (c : Nat) (Z : Nat → Nat → Int32) (P : Nat → Nat → Int32) (U : Nat → Nat → Int32) (V : Nat → Nat → Int32) (person : Int32) : Int32 × Int32 × Int32 × Int32 × (Nat → Nat → Int32) × (Nat → Nat → Int32) × (Nat → Nat → Int32) × (Nat → Nat → Int32) := (if (f_isPerson person) = 0 then ((-1), nw, nI n, nI c, Z, P, U, V) else (if (f_S_isPresent k n Z person) = 0 then ((f_S_admit k n Z person).1, nw, (f_S_admit k n Z person).2.1, nI c, (f_S_admit k n Z person).2.2, P, U, V) else ((-3), nw, nI n, nI c, Z, P, U, V)))
set_option maxHeartbeats 4000000 in
set_option maxRecDepth 100000 in
theorem c_X_come (l : Launch) (D : va_G) (cI : ClassId) (a : Nat → Nat) (nw : Int32) (k : Nat) (n : Nat) (c : Nat) (Z : Nat → Nat → Int32) (P : Nat → Nat → Int32) (U : Nat → Nat → Int32) (V : Nat → Nat → Int32) (person : Int32) (hk : k ≤ 20) (hn : n ≤ 60) (hc : c ≤ 300) : zW l D [(cI, .int)] y_X_come b_X_come 2 (some .int) 5 105 [.ref (a 0), .int person] (wX a cI nw (nI k) (nI n) (nI c) Z P U V) (wX a cI ((f_X_come nw k n c Z P U V person).2.1) (nI k) ((f_X_come nw k n c Z P U V person).2.2.1) ((f_X_come nw k n c Z P U V person).2.2.2.1) ((f_X_come nw k n c Z P U V person).2.2.2.2.1) ((f_X_come nw k n c Z P U V person).2.2.2.2.2.1) ((f_X_come nw k n c Z P U V person).2.2.2.2.2.2.1) ((f_X_come nw k n c Z P U V person).2.2.2.2.2.2.2)) (some (.int (f_X_come nw k n c Z P U V person).1)) := by
  refine zW.of (by decide) (Nat.le_of_ble_eq_true rfl) ?_
  intro p e s m below meth c0 ls A E hrt hlk hN hK hA G hl
  have hx := E.1
  have hb := E.2.1
  have hl : lv_has ls 2 [(0, .ref (a 0)), (1, .int person)] := hl
  refine lv_iload_n hx hb d_X_come_0 rfl (lv_at hl 1 rfl) ?_
  refine z_rs (As := [.int person]) (rest := []) E hN hK hl.1 (c_isPerson l D [(cI, .int)] person) kz_X_43 rfl ⟨Nat.le_of_ble_eq_true rfl, Nat.le_of_ble_eq_true rfl⟩ rfl (Nat.le_of_ble_eq_true rfl) ⟨Nat.zero_le _, Nat.zero_le _⟩ d_X_come_1 ?_
  refine lv_if_ne (tgt := 9) hx hb d_X_come_4 (by decide) (fun c_1 => ?_) (fun c_1 => ?_)
  · refine lv_aload_n hx hb d_X_come_9 rfl (lv_at hl 0 rfl) ?_
    refine z_get (v := .ref (a 1)) E hK G.1 i_X 0 0 rfl rfl (by decide) kf_X_12 rfl d_X_come_10 ?_
    refine lv_iload_n hx hb d_X_come_13 rfl (lv_at hl 1 rfl) ?_
    refine z_rv (As := [.int person]) (rest := []) E hN hK G.1 hl.1 (c_S_isPresent l D cI (fun j => a (1 + j)) k n Z person hk hn) [1, 2, 3] rfl 0 rfl rfl kz_X_47 rfl ⟨Nat.le_of_ble_eq_true rfl, Nat.le_of_ble_eq_true rfl⟩ rfl (Nat.le_of_ble_eq_true rfl) ⟨Nat.zero_le _, Nat.zero_le _⟩ d_X_come_14 ?_
    refine lv_if_eq (tgt := 23) hx hb d_X_come_17 (by decide) (fun c_2 => ?_) (fun c_2 => ?_)
    · refine lv_aload_n hx hb d_X_come_23 rfl (lv_at hl 0 rfl) ?_
      refine z_get (v := .ref (a 1)) E hK G.1 i_X 0 0 rfl rfl (by decide) kf_X_12 rfl d_X_come_24 ?_
      refine lv_iload_n hx hb d_X_come_27 rfl (lv_at hl 1 rfl) ?_
      refine z_wv (As := [.int person]) (rest := []) (wr := ([0, 4, 5, 6, 7, 8, 9, 10, 11, 12, 13, 14, 15, 16, 17, 18, 19, 20, 21] : List Nat).filterMap (fun i => (wX a cI nw (nI k) (nI n) (nI c) Z P U V)[i]?)) (ws' := wX a cI nw (nI k) ((f_S_admit k n Z person).2.1) (nI c) ((f_S_admit k n Z person).2.2) P U V) E hN hK hA G hl.1 (c_S_admit l D cI (fun j => a (1 + j)) k n Z person hk hn) [1, 2, 3] [0, 4, 5, 6, 7, 8, 9, 10, 11, 12, 13, 14, 15, 16, 17, 18, 19, 20, 21] [0, 19, 20, 21, 1, 2, 3, 4, 5, 6, 7, 8, 9, 10, 11, 12, 13, 14, 15, 16, 17, 18] rfl rfl rfl rfl rfl rfl (by decide) 0 rfl rfl kz_X_50 rfl ⟨Nat.le_of_ble_eq_true rfl, Nat.le_of_ble_eq_true rfl⟩ rfl (Nat.le_of_ble_eq_true rfl) ⟨Nat.zero_le _, Nat.zero_le _⟩ d_X_come_28 (fun H locs G => ?_)
      refine W.eq (g2 := F0 m 31 ls [.int ((f_S_admit k n Z person).1)]) rfl ?_
      have hf : f_X_come nw k n c Z P U V person = ((f_S_admit k n Z person).1, nw, (f_S_admit k n Z person).2.1, nI c, (f_S_admit k n Z person).2.2, P, U, V) := by unfold f_X_come; rw [if_neg c_1, if_pos c_2]
      exact zW.iret E hrt hlk G (by rw [hf]) (by rw [hf]) d_X_come_31
    · refine lv_bipush (v := (-3)) hx hb d_X_come_20 (by decide) ?_
      have hf : f_X_come nw k n c Z P U V person = ((-3), nw, nI n, nI c, Z, P, U, V) := by unfold f_X_come; rw [if_neg c_1, if_neg c_2]
      exact zW.iret E hrt hlk G (by rw [hf]) (by rw [hf]) d_X_come_22
  · refine lv_iconst (v := (-1)) hx hb d_X_come_7 (by decide) ?_
    have hf : f_X_come nw k n c Z P U V person = ((-1), nw, nI n, nI c, Z, P, U, V) := by unfold f_X_come; rw [if_pos c_1]
    exact zW.iret E hrt hlk G (by rw [hf]) (by rw [hf]) d_X_come_8
def f_X_leave (nw : Int32) (k : Nat) (n : Nat) (c : Nat) (Z : Nat → Nat → Int32) (P : Nat → Nat → Int32) (U : Nat → Nat → Int32) (V : Nat → Nat → Int32) (person : Int32) : Int32 × Int32 × Int32 × Int32 × (Nat → Nat → Int32) × (Nat → Nat → Int32) × (Nat → Nat → Int32) × (Nat → Nat → Int32) := (if (f_isPerson person) = 0 then ((-1), nw, nI n, nI c, Z, P, U, V) else (if (f_S_isPresent k n Z person) = 0 then ((-3), nw, nI n, nI c, Z, P, U, V) else (if (f_Q_countHandedOut c V person) ≤ 0 then ((f_S_release k n Z person).1, nw, (f_S_release k n Z person).2.1, nI c, (f_S_release k n Z person).2.2, P, U, V) else ((-3), nw, nI n, nI c, Z, P, U, V))))
set_option maxHeartbeats 4000000 in
set_option maxRecDepth 100000 in
theorem c_X_leave (l : Launch) (D : va_G) (cI : ClassId) (a : Nat → Nat) (nw : Int32) (k : Nat) (n : Nat) (c : Nat) (Z : Nat → Nat → Int32) (P : Nat → Nat → Int32) (U : Nat → Nat → Int32) (V : Nat → Nat → Int32) (person : Int32) (hk : k ≤ 20) (hn : n ≤ 60) (hc : c ≤ 300) : zW l D [(cI, .int)] y_X_leave b_X_leave 2 (some .int) 5 105 [.ref (a 0), .int person] (wX a cI nw (nI k) (nI n) (nI c) Z P U V) (wX a cI ((f_X_leave nw k n c Z P U V person).2.1) (nI k) ((f_X_leave nw k n c Z P U V person).2.2.1) ((f_X_leave nw k n c Z P U V person).2.2.2.1) ((f_X_leave nw k n c Z P U V person).2.2.2.2.1) ((f_X_leave nw k n c Z P U V person).2.2.2.2.2.1) ((f_X_leave nw k n c Z P U V person).2.2.2.2.2.2.1) ((f_X_leave nw k n c Z P U V person).2.2.2.2.2.2.2)) (some (.int (f_X_leave nw k n c Z P U V person).1)) := by
  refine zW.of (by decide) (Nat.le_of_ble_eq_true rfl) ?_
  intro p e s m below meth c0 ls A E hrt hlk hN hK hA G hl
  have hx := E.1
  have hb := E.2.1
  have hl : lv_has ls 2 [(0, .ref (a 0)), (1, .int person)] := hl
  refine lv_iload_n hx hb d_X_leave_0 rfl (lv_at hl 1 rfl) ?_
  refine z_rs (As := [.int person]) (rest := []) E hN hK hl.1 (c_isPerson l D [(cI, .int)] person) kz_X_43 rfl ⟨Nat.le_of_ble_eq_true rfl, Nat.le_of_ble_eq_true rfl⟩ rfl (Nat.le_of_ble_eq_true rfl) ⟨Nat.zero_le _, Nat.zero_le _⟩ d_X_leave_1 ?_
  refine lv_if_ne (tgt := 9) hx hb d_X_leave_4 (by decide) (fun c_1 => ?_) (fun c_1 => ?_)
  · refine lv_aload_n hx hb d_X_leave_9 rfl (lv_at hl 0 rfl) ?_
    refine z_get (v := .ref (a 1)) E hK G.1 i_X 0 0 rfl rfl (by decide) kf_X_12 rfl d_X_leave_10 ?_
    refine lv_iload_n hx hb d_X_leave_13 rfl (lv_at hl 1 rfl) ?_
    refine z_rv (As := [.int person]) (rest := []) E hN hK G.1 hl.1 (c_S_isPresent l D cI (fun j => a (1 + j)) k n Z person hk hn) [1, 2, 3] rfl 0 rfl rfl kz_X_47 rfl ⟨Nat.le_of_ble_eq_true rfl, Nat.le_of_ble_eq_true rfl⟩ rfl (Nat.le_of_ble_eq_true rfl) ⟨Nat.zero_le _, Nat.zero_le _⟩ d_X_leave_14 ?_
    refine lv_if_eq (tgt := 31) hx hb d_X_leave_17 (by decide) (fun c_2 => ?_) (fun c_2 => ?_)
    · refine lv_bipush (v := (-3)) hx hb d_X_leave_31 (by decide) ?_
      have hf : f_X_leave nw k n c Z P U V person = ((-3), nw, nI n, nI c, Z, P, U, V) := by unfold f_X_leave; rw [if_neg c_1, if_pos c_2]
      exact zW.iret E hrt hlk G (by rw [hf]) (by rw [hf]) d_X_leave_33
    · refine lv_aload_n hx hb d_X_leave_20 rfl (lv_at hl 0 rfl) ?_
      refine z_get (v := .ref (a 15)) E hK G.1 i_X 0 3 rfl rfl (by decide) kf_X_35 rfl d_X_leave_21 ?_
      refine lv_iload_n hx hb d_X_leave_24 rfl (lv_at hl 1 rfl) ?_
      refine z_rv (As := [.int person]) (rest := []) E hN hK G.1 hl.1 (c_Q_countHandedOut l D cI (fun j => a (15 + j)) c V person hc) [15, 16, 17, 18, 19, 20, 21] rfl 0 rfl rfl kz_X_54 rfl ⟨Nat.le_of_ble_eq_true rfl, Nat.le_of_ble_eq_true rfl⟩ rfl (Nat.le_of_ble_eq_true rfl) ⟨Nat.zero_le _, Nat.zero_le _⟩ d_X_leave_25 ?_
      refine lv_if_le (tgt := 34) hx hb d_X_leave_28 (by decide) (fun c_3 => ?_) (fun c_3 => ?_)
      · refine lv_aload_n hx hb d_X_leave_34 rfl (lv_at hl 0 rfl) ?_
        refine z_get (v := .ref (a 1)) E hK G.1 i_X 0 0 rfl rfl (by decide) kf_X_12 rfl d_X_leave_35 ?_
        refine lv_iload_n hx hb d_X_leave_38 rfl (lv_at hl 1 rfl) ?_
        refine z_wv (As := [.int person]) (rest := []) (wr := ([0, 4, 5, 6, 7, 8, 9, 10, 11, 12, 13, 14, 15, 16, 17, 18, 19, 20, 21] : List Nat).filterMap (fun i => (wX a cI nw (nI k) (nI n) (nI c) Z P U V)[i]?)) (ws' := wX a cI nw (nI k) ((f_S_release k n Z person).2.1) (nI c) ((f_S_release k n Z person).2.2) P U V) E hN hK hA G hl.1 (c_S_release l D cI (fun j => a (1 + j)) k n Z person hk hn) [1, 2, 3] [0, 4, 5, 6, 7, 8, 9, 10, 11, 12, 13, 14, 15, 16, 17, 18, 19, 20, 21] [0, 19, 20, 21, 1, 2, 3, 4, 5, 6, 7, 8, 9, 10, 11, 12, 13, 14, 15, 16, 17, 18] rfl rfl rfl rfl rfl rfl (by decide) 0 rfl rfl kz_X_57 rfl ⟨Nat.le_of_ble_eq_true rfl, Nat.le_of_ble_eq_true rfl⟩ rfl (Nat.le_of_ble_eq_true rfl) ⟨Nat.zero_le _, Nat.zero_le _⟩ d_X_leave_39 (fun H locs G => ?_)
        refine W.eq (g2 := F0 m 42 ls [.int ((f_S_release k n Z person).1)]) rfl ?_
        have hf : f_X_leave nw k n c Z P U V person = ((f_S_release k n Z person).1, nw, (f_S_release k n Z person).2.1, nI c, (f_S_release k n Z person).2.2, P, U, V) := by unfold f_X_leave; rw [if_neg c_1, if_neg c_2, if_pos c_3]
        exact zW.iret E hrt hlk G (by rw [hf]) (by rw [hf]) d_X_leave_42
      · refine lv_bipush (v := (-3)) hx hb d_X_leave_31 (by decide) ?_
        have hf : f_X_leave nw k n c Z P U V person = ((-3), nw, nI n, nI c, Z, P, U, V) := by unfold f_X_leave; rw [if_neg c_1, if_neg c_2, if_neg c_3]
        exact zW.iret E hrt hlk G (by rw [hf]) (by rw [hf]) d_X_leave_33
  · refine lv_iconst (v := (-1)) hx hb d_X_leave_7 (by decide) ?_
    have hf : f_X_leave nw k n c Z P U V person = ((-1), nw, nI n, nI c, Z, P, U, V) := by unfold f_X_leave; rw [if_pos c_1]
    exact zW.iret E hrt hlk G (by rw [hf]) (by rw [hf]) d_X_leave_8
def f_X_ask (nw : Int32) (k : Nat) (n : Nat) (c : Nat) (Z : Nat → Nat → Int32) (P : Nat → Nat → Int32) (U : Nat → Nat → Int32) (V : Nat → Nat → Int32) (person : Int32) (unit : Int32) (t : Int32) : Int32 × Int32 × Int32 × Int32 × (Nat → Nat → Int32) × (Nat → Nat → Int32) × (Nat → Nat → Int32) × (Nat → Nat → Int32) := (if (f_isPerson person) = 0 then ((-1), nw, nI n, nI c, Z, P, U, V) else (if (f_isUnit unit) = 0 then ((-1), nw, nI n, nI c, Z, P, U, V) else (if (f_X_isTime nw t) = 0 then ((-2), nw, nI n, nI c, Z, P, U, V) else (if (f_S_isSeated k Z person) = 0 then ((-3), nw, nI n, nI c, Z, P, U, V) else (if (f_Q_isRunning c V person unit) = 0 then (if (f_X_isRightTooLow P U person unit) = 0 then (if (f_R_requestLimitOf P person) ≤ (f_Q_countRunning c V person) then ((-4), nw, nI n, nI c, Z, P, U, V) else (if (f_Q_isFull c) = 0 then ((f_Q_add c V person unit t).1, t, nI n, (f_Q_add c V person unit t).2.1, Z, P, U, (f_Q_add c V person unit t).2.2) else ((-4), nw, nI n, nI c, Z, P, U, V))) else ((-5), nw, nI n, nI c, Z, P, U, V)) else ((-3), nw, nI n, nI c, Z, P, U, V))))))
set_option maxHeartbeats 4000000 in
set_option maxRecDepth 100000 in
theorem c_X_ask (l : Launch) (D : va_G) (cI : ClassId) (a : Nat → Nat) (nw : Int32) (k : Nat) (n : Nat) (c : Nat) (Z : Nat → Nat → Int32) (P : Nat → Nat → Int32) (U : Nat → Nat → Int32) (V : Nat → Nat → Int32) (person : Int32) (unit : Int32) (t : Int32) (hk : k ≤ 20) (hn : n ≤ 60) (hc : c ≤ 300) : zW l D [(cI, .int)] y_X_ask b_X_ask 4 (some .int) 4 88 [.ref (a 0), .int person, .int unit, .int t] (wX a cI nw (nI k) (nI n) (nI c) Z P U V) (wX a cI ((f_X_ask nw k n c Z P U V person unit t).2.1) (nI k) ((f_X_ask nw k n c Z P U V person unit t).2.2.1) ((f_X_ask nw k n c Z P U V person unit t).2.2.2.1) ((f_X_ask nw k n c Z P U V person unit t).2.2.2.2.1) ((f_X_ask nw k n c Z P U V person unit t).2.2.2.2.2.1) ((f_X_ask nw k n c Z P U V person unit t).2.2.2.2.2.2.1) ((f_X_ask nw k n c Z P U V person unit t).2.2.2.2.2.2.2)) (some (.int (f_X_ask nw k n c Z P U V person unit t).1)) := by
  refine zW.of (by decide) (Nat.le_of_ble_eq_true rfl) ?_
  intro p e s m below meth c0 ls A E hrt hlk hN hK hA G hl
  have hx := E.1
  have hb := E.2.1
  have hl : lv_has ls 4 [(0, .ref (a 0)), (1, .int person), (2, .int unit), (3, .int t)] := hl
  refine lv_iload_n hx hb d_X_ask_0 rfl (lv_at hl 1 rfl) ?_
  refine z_rs (As := [.int person]) (rest := []) E hN hK hl.1 (c_isPerson l D [(cI, .int)] person) kz_X_43 rfl ⟨Nat.le_of_ble_eq_true rfl, Nat.le_of_ble_eq_true rfl⟩ rfl (Nat.le_of_ble_eq_true rfl) ⟨Nat.zero_le _, Nat.zero_le _⟩ d_X_ask_1 ?_
  refine lv_if_eq (tgt := 14) hx hb d_X_ask_4 (by decide) (fun c_1 => ?_) (fun c_1 => ?_)
  · refine lv_iconst (v := (-1)) hx hb d_X_ask_14 (by decide) ?_
    have hf : f_X_ask nw k n c Z P U V person unit t = ((-1), nw, nI n, nI c, Z, P, U, V) := by unfold f_X_ask; rw [if_pos c_1]
    exact zW.iret E hrt hlk G (by rw [hf]) (by rw [hf]) d_X_ask_15
  · refine lv_iload_n hx hb d_X_ask_7 rfl (lv_at hl 2 rfl) ?_
    refine z_rs (As := [.int unit]) (rest := []) E hN hK hl.1 (c_isUnit l D [(cI, .int)] unit) kz_X_60 rfl ⟨Nat.le_of_ble_eq_true rfl, Nat.le_of_ble_eq_true rfl⟩ rfl (Nat.le_of_ble_eq_true rfl) ⟨Nat.zero_le _, Nat.zero_le _⟩ d_X_ask_8 ?_
    refine lv_if_ne (tgt := 16) hx hb d_X_ask_11 (by decide) (fun c_2 => ?_) (fun c_2 => ?_)
    · refine lv_aload_n hx hb d_X_ask_16 rfl (lv_at hl 0 rfl) ?_
      refine lv_iload_n hx hb d_X_ask_17 rfl (lv_at hl 3 rfl) ?_
      refine z_rv (As := [.int t]) (rest := []) E hN hK G.1 hl.1 (c_X_isTime l D cI a nw k n c Z P U V t hk hn hc) [0, 1, 2, 3, 4, 5, 6, 7, 8, 9, 10, 11, 12, 13, 14, 15, 16, 17, 18, 19, 20, 21] rfl 0 rfl rfl kz_X_63 rfl ⟨Nat.le_of_ble_eq_true rfl, Nat.le_of_ble_eq_true rfl⟩ rfl (Nat.le_of_ble_eq_true rfl) ⟨Nat.zero_le _, Nat.zero_le _⟩ d_X_ask_18 ?_
      refine lv_if_ne (tgt := 27) hx hb d_X_ask_21 (by decide) (fun c_3 => ?_) (fun c_3 => ?_)
      · refine lv_aload_n hx hb d_X_ask_27 rfl (lv_at hl 0 rfl) ?_
        refine z_get (v := .ref (a 1)) E hK G.1 i_X 0 0 rfl rfl (by decide) kf_X_12 rfl d_X_ask_28 ?_
        refine lv_iload_n hx hb d_X_ask_31 rfl (lv_at hl 1 rfl) ?_
        refine z_rv (As := [.int person]) (rest := []) E hN hK G.1 hl.1 (c_S_isSeated l D cI (fun j => a (1 + j)) k n Z person hk hn) [1, 2, 3] rfl 0 rfl rfl kz_X_66 rfl ⟨Nat.le_of_ble_eq_true rfl, Nat.le_of_ble_eq_true rfl⟩ rfl (Nat.le_of_ble_eq_true rfl) ⟨Nat.zero_le _, Nat.zero_le _⟩ d_X_ask_32 ?_
        refine lv_if_eq (tgt := 50) hx hb d_X_ask_35 (by decide) (fun c_4 => ?_) (fun c_4 => ?_)
        · refine lv_bipush (v := (-3)) hx hb d_X_ask_50 (by decide) ?_
          have hf : f_X_ask nw k n c Z P U V person unit t = ((-3), nw, nI n, nI c, Z, P, U, V) := by unfold f_X_ask; rw [if_neg c_1, if_neg c_2, if_neg c_3, if_pos c_4]
          exact zW.iret E hrt hlk G (by rw [hf]) (by rw [hf]) d_X_ask_52
        · refine lv_aload_n hx hb d_X_ask_38 rfl (lv_at hl 0 rfl) ?_
          refine z_get (v := .ref (a 15)) E hK G.1 i_X 0 3 rfl rfl (by decide) kf_X_35 rfl d_X_ask_39 ?_
          refine lv_iload_n hx hb d_X_ask_42 rfl (lv_at hl 1 rfl) ?_
          refine lv_iload_n hx hb d_X_ask_43 rfl (lv_at hl 2 rfl) ?_
          refine z_rv (As := [.int person, .int unit]) (rest := []) E hN hK G.1 hl.1 (c_Q_isRunning l D cI (fun j => a (15 + j)) c V person unit hc) [15, 16, 17, 18, 19, 20, 21] rfl 0 rfl rfl kz_X_69 rfl ⟨Nat.le_of_ble_eq_true rfl, Nat.le_of_ble_eq_true rfl⟩ rfl (Nat.le_of_ble_eq_true rfl) ⟨Nat.zero_le _, Nat.zero_le _⟩ d_X_ask_44 ?_
          refine lv_if_eq (tgt := 53) hx hb d_X_ask_47 (by decide) (fun c_5 => ?_) (fun c_5 => ?_)
          · refine lv_aload_n hx hb d_X_ask_53 rfl (lv_at hl 0 rfl) ?_
            refine lv_iload_n hx hb d_X_ask_54 rfl (lv_at hl 1 rfl) ?_
            refine lv_iload_n hx hb d_X_ask_55 rfl (lv_at hl 2 rfl) ?_
            refine z_rv (As := [.int person, .int unit]) (rest := []) E hN hK G.1 hl.1 (c_X_isRightTooLow l D cI a nw k n c Z P U V person unit hk hn hc) [0, 1, 2, 3, 4, 5, 6, 7, 8, 9, 10, 11, 12, 13, 14, 15, 16, 17, 18, 19, 20, 21] rfl 0 rfl rfl kz_X_73 rfl ⟨Nat.le_of_ble_eq_true rfl, Nat.le_of_ble_eq_true rfl⟩ rfl (Nat.le_of_ble_eq_true rfl) ⟨Nat.zero_le _, Nat.zero_le _⟩ d_X_ask_56 ?_
            refine lv_if_eq (tgt := 65) hx hb d_X_ask_59 (by decide) (fun c_6 => ?_) (fun c_6 => ?_)
            · refine lv_aload_n hx hb d_X_ask_65 rfl (lv_at hl 0 rfl) ?_
              refine z_get (v := .ref (a 15)) E hK G.1 i_X 0 3 rfl rfl (by decide) kf_X_35 rfl d_X_ask_66 ?_
              refine lv_iload_n hx hb d_X_ask_69 rfl (lv_at hl 1 rfl) ?_
              refine z_rv (As := [.int person]) (rest := []) E hN hK G.1 hl.1 (c_Q_countRunning l D cI (fun j => a (15 + j)) c V person hc) [15, 16, 17, 18, 19, 20, 21] rfl 0 rfl rfl kz_X_76 rfl ⟨Nat.le_of_ble_eq_true rfl, Nat.le_of_ble_eq_true rfl⟩ rfl (Nat.le_of_ble_eq_true rfl) ⟨Nat.zero_le _, Nat.zero_le _⟩ d_X_ask_70 ?_
              refine lv_aload_n hx hb d_X_ask_73 rfl (lv_at hl 0 rfl) ?_
              refine z_get (v := .ref (a 4)) E hK G.1 i_X 0 1 rfl rfl (by decide) kf_X_21 rfl d_X_ask_74 ?_
              refine lv_iload_n hx hb d_X_ask_77 rfl (lv_at hl 1 rfl) ?_
              refine z_rv (As := [.int person]) (rest := [.int (f_Q_countRunning c V person)]) E hN hK G.1 hl.1 (c_R_requestLimitOf l D cI (fun j => a (4 + j)) P person ) [4, 5, 6, 7, 8, 9] rfl 0 rfl rfl kz_X_79 rfl ⟨Nat.le_of_ble_eq_true rfl, Nat.le_of_ble_eq_true rfl⟩ rfl (Nat.le_of_ble_eq_true rfl) ⟨Nat.zero_le _, Nat.zero_le _⟩ d_X_ask_78 ?_
              refine lv_icmp_ge (tgt := 94) hx hb d_X_ask_81 (by decide) (fun c_7 => ?_) (fun c_7 => ?_)
              · refine lv_bipush (v := (-4)) hx hb d_X_ask_94 (by decide) ?_
                have hf : f_X_ask nw k n c Z P U V person unit t = ((-4), nw, nI n, nI c, Z, P, U, V) := by unfold f_X_ask; rw [if_neg c_1, if_neg c_2, if_neg c_3, if_neg c_4, if_pos c_5, if_pos c_6, if_pos c_7]
                exact zW.iret E hrt hlk G (by rw [hf]) (by rw [hf]) d_X_ask_96
              · refine lv_aload_n hx hb d_X_ask_84 rfl (lv_at hl 0 rfl) ?_
                refine z_get (v := .ref (a 15)) E hK G.1 i_X 0 3 rfl rfl (by decide) kf_X_35 rfl d_X_ask_85 ?_
                refine z_rv (As := []) (rest := []) E hN hK G.1 hl.1 (c_Q_isFull l D cI (fun j => a (15 + j)) c V  hc) [15, 16, 17, 18, 19, 20, 21] rfl 0 rfl rfl kz_X_82 rfl ⟨Nat.le_of_ble_eq_true rfl, Nat.le_of_ble_eq_true rfl⟩ rfl (Nat.le_of_ble_eq_true rfl) ⟨Nat.zero_le _, Nat.zero_le _⟩ d_X_ask_88 ?_
                refine lv_if_eq (tgt := 97) hx hb d_X_ask_91 (by decide) (fun c_8 => ?_) (fun c_8 => ?_)
                · refine lv_aload_n hx hb d_X_ask_97 rfl (lv_at hl 0 rfl) ?_
                  refine lv_iload_n hx hb d_X_ask_98 rfl (lv_at hl 3 rfl) ?_
                  refine z_put (ty := .int) (ws' := wX a cI t (nI k) (nI n) (nI c) Z P U V) E hK G i_X t_X t_X_ok n_X 0 4 rfl rfl (by decide) kf_X_39 rfl rfl rfl rfl (Nat.le_of_ble_eq_true rfl) rfl d_X_ask_99 (fun H locs G => ?_)
                  refine lv_aload_n hx hb d_X_ask_102 rfl (lv_at hl 0 rfl) ?_
                  refine z_get (v := .ref (a 15)) E hK G.1 i_X 0 3 rfl rfl (by decide) kf_X_35 rfl d_X_ask_103 ?_
                  refine lv_iload_n hx hb d_X_ask_106 rfl (lv_at hl 1 rfl) ?_
                  refine lv_iload_n hx hb d_X_ask_107 rfl (lv_at hl 2 rfl) ?_
                  refine lv_iload_n hx hb d_X_ask_108 rfl (lv_at hl 3 rfl) ?_
                  refine z_wv (As := [.int person, .int unit, .int t]) (rest := []) (wr := ([0, 1, 2, 3, 4, 5, 6, 7, 8, 9, 10, 11, 12, 13, 14] : List Nat).filterMap (fun i => (wX a cI t (nI k) (nI n) (nI c) Z P U V)[i]?)) (ws' := wX a cI t (nI k) (nI n) ((f_Q_add c V person unit t).2.1) Z P U ((f_Q_add c V person unit t).2.2)) E hN hK hA G hl.1 (c_Q_add l D cI (fun j => a (15 + j)) c V person unit t hc) [15, 16, 17, 18, 19, 20, 21] [0, 1, 2, 3, 4, 5, 6, 7, 8, 9, 10, 11, 12, 13, 14] [0, 1, 2, 3, 4, 5, 6, 7, 8, 9, 10, 11, 12, 13, 14, 15, 16, 17, 18, 19, 20, 21] rfl rfl rfl rfl rfl rfl (by decide) 0 rfl rfl kz_X_86 rfl ⟨Nat.le_of_ble_eq_true rfl, Nat.le_of_ble_eq_true rfl⟩ rfl (Nat.le_of_ble_eq_true rfl) ⟨Nat.zero_le _, Nat.zero_le _⟩ d_X_ask_109 (fun H locs G => ?_)
                  refine W.eq (g2 := F0 m 112 ls [.int ((f_Q_add c V person unit t).1)]) rfl ?_
                  have hf : f_X_ask nw k n c Z P U V person unit t = ((f_Q_add c V person unit t).1, t, nI n, (f_Q_add c V person unit t).2.1, Z, P, U, (f_Q_add c V person unit t).2.2) := by unfold f_X_ask; rw [if_neg c_1, if_neg c_2, if_neg c_3, if_neg c_4, if_pos c_5, if_pos c_6, if_neg c_7, if_pos c_8]
                  exact zW.iret E hrt hlk G (by rw [hf]) (by rw [hf]) d_X_ask_112
                · refine lv_bipush (v := (-4)) hx hb d_X_ask_94 (by decide) ?_
                  have hf : f_X_ask nw k n c Z P U V person unit t = ((-4), nw, nI n, nI c, Z, P, U, V) := by unfold f_X_ask; rw [if_neg c_1, if_neg c_2, if_neg c_3, if_neg c_4, if_pos c_5, if_pos c_6, if_neg c_7, if_neg c_8]
                  exact zW.iret E hrt hlk G (by rw [hf]) (by rw [hf]) d_X_ask_96
            · refine lv_bipush (v := (-5)) hx hb d_X_ask_62 (by decide) ?_
              have hf : f_X_ask nw k n c Z P U V person unit t = ((-5), nw, nI n, nI c, Z, P, U, V) := by unfold f_X_ask; rw [if_neg c_1, if_neg c_2, if_neg c_3, if_neg c_4, if_pos c_5, if_neg c_6]
              exact zW.iret E hrt hlk G (by rw [hf]) (by rw [hf]) d_X_ask_64
          · refine lv_bipush (v := (-3)) hx hb d_X_ask_50 (by decide) ?_
            have hf : f_X_ask nw k n c Z P U V person unit t = ((-3), nw, nI n, nI c, Z, P, U, V) := by unfold f_X_ask; rw [if_neg c_1, if_neg c_2, if_neg c_3, if_neg c_4, if_neg c_5]
            exact zW.iret E hrt hlk G (by rw [hf]) (by rw [hf]) d_X_ask_52
      · refine lv_bipush (v := (-2)) hx hb d_X_ask_24 (by decide) ?_
        have hf : f_X_ask nw k n c Z P U V person unit t = ((-2), nw, nI n, nI c, Z, P, U, V) := by unfold f_X_ask; rw [if_neg c_1, if_neg c_2, if_pos c_3]
        exact zW.iret E hrt hlk G (by rw [hf]) (by rw [hf]) d_X_ask_26
    · refine lv_iconst (v := (-1)) hx hb d_X_ask_14 (by decide) ?_
      have hf : f_X_ask nw k n c Z P U V person unit t = ((-1), nw, nI n, nI c, Z, P, U, V) := by unfold f_X_ask; rw [if_neg c_1, if_pos c_2]
      exact zW.iret E hrt hlk G (by rw [hf]) (by rw [hf]) d_X_ask_15
def f_X_fetch (nw : Int32) (n : Nat) (c : Nat) (Z : Nat → Nat → Int32) (P : Nat → Nat → Int32) (U : Nat → Nat → Int32) (V : Nat → Nat → Int32) (unit : Int32) (t : Int32) : Int32 × Int32 × Int32 × Int32 × (Nat → Nat → Int32) × (Nat → Nat → Int32) × (Nat → Nat → Int32) × (Nat → Nat → Int32) := (if (f_isUnit unit) = 0 then ((-1), nw, nI n, nI c, Z, P, U, V) else (if (f_X_isTime nw t) = 0 then ((-2), nw, nI n, nI c, Z, P, U, V) else (if (f_H_placeOf U unit) = 0 then (if (f_Q_openOf c V unit 0) = (-1) then ((-3), nw, nI n, nI c, Z, P, U, V) else (if (f_H_conditionOf U unit) ≤ 2 then (f_Q_openOf c V unit 0, t, nI n, nI c, Z, P, (f_X_sendFor c U V unit (f_Q_openOf c V unit 0)).1, (f_X_sendFor c U V unit (f_Q_openOf c V unit 0)).2) else ((-3), nw, nI n, nI c, Z, P, U, V))) else ((-3), nw, nI n, nI c, Z, P, U, V))))
set_option maxHeartbeats 4000000 in
set_option maxRecDepth 100000 in
theorem c_X_fetch (l : Launch) (D : va_G) (cI : ClassId) (a : Nat → Nat) (nw : Int32) (k : Nat) (n : Nat) (c : Nat) (Z : Nat → Nat → Int32) (P : Nat → Nat → Int32) (U : Nat → Nat → Int32) (V : Nat → Nat → Int32) (unit : Int32) (t : Int32) (hk : k ≤ 20) (hn : n ≤ 60) (hc : c ≤ 300) : zW l D [(cI, .int)] y_X_fetch b_X_fetch 4 (some .int) 4 89 [.ref (a 0), .int unit, .int t] (wX a cI nw (nI k) (nI n) (nI c) Z P U V) (wX a cI ((f_X_fetch nw n c Z P U V unit t).2.1) (nI k) ((f_X_fetch nw n c Z P U V unit t).2.2.1) ((f_X_fetch nw n c Z P U V unit t).2.2.2.1) ((f_X_fetch nw n c Z P U V unit t).2.2.2.2.1) ((f_X_fetch nw n c Z P U V unit t).2.2.2.2.2.1) ((f_X_fetch nw n c Z P U V unit t).2.2.2.2.2.2.1) ((f_X_fetch nw n c Z P U V unit t).2.2.2.2.2.2.2)) (some (.int (f_X_fetch nw n c Z P U V unit t).1)) := by
  refine zW.of (by decide) (Nat.le_of_ble_eq_true rfl) ?_
  intro p e s m below meth c0 ls A E hrt hlk hN hK hA G hl
  have hx := E.1
  have hb := E.2.1
  have hl : lv_has ls 4 [(0, .ref (a 0)), (1, .int unit), (2, .int t)] := hl
  refine lv_iload_n hx hb d_X_fetch_0 rfl (lv_at hl 1 rfl) ?_
  refine z_rs (As := [.int unit]) (rest := []) E hN hK hl.1 (c_isUnit l D [(cI, .int)] unit) kz_X_60 rfl ⟨Nat.le_of_ble_eq_true rfl, Nat.le_of_ble_eq_true rfl⟩ rfl (Nat.le_of_ble_eq_true rfl) ⟨Nat.zero_le _, Nat.zero_le _⟩ d_X_fetch_1 ?_
  refine lv_if_ne (tgt := 9) hx hb d_X_fetch_4 (by decide) (fun c_1 => ?_) (fun c_1 => ?_)
  · refine lv_aload_n hx hb d_X_fetch_9 rfl (lv_at hl 0 rfl) ?_
    refine lv_iload_n hx hb d_X_fetch_10 rfl (lv_at hl 2 rfl) ?_
    refine z_rv (As := [.int t]) (rest := []) E hN hK G.1 hl.1 (c_X_isTime l D cI a nw k n c Z P U V t hk hn hc) [0, 1, 2, 3, 4, 5, 6, 7, 8, 9, 10, 11, 12, 13, 14, 15, 16, 17, 18, 19, 20, 21] rfl 0 rfl rfl kz_X_63 rfl ⟨Nat.le_of_ble_eq_true rfl, Nat.le_of_ble_eq_true rfl⟩ rfl (Nat.le_of_ble_eq_true rfl) ⟨Nat.zero_le _, Nat.zero_le _⟩ d_X_fetch_11 ?_
    refine lv_if_ne (tgt := 20) hx hb d_X_fetch_14 (by decide) (fun c_2 => ?_) (fun c_2 => ?_)
    · refine lv_aload_n hx hb d_X_fetch_20 rfl (lv_at hl 0 rfl) ?_
      refine z_get (v := .ref (a 15)) E hK G.1 i_X 0 3 rfl rfl (by decide) kf_X_35 rfl d_X_fetch_21 ?_
      refine lv_iload_n hx hb d_X_fetch_24 rfl (lv_at hl 1 rfl) ?_
      refine lv_iconst (v := 0) hx hb d_X_fetch_25 (by decide) ?_
      refine z_rv (As := [.int unit, .int 0]) (rest := []) E hN hK G.1 hl.1 (c_Q_openOf l D cI (fun j => a (15 + j)) c V unit 0 hc) [15, 16, 17, 18, 19, 20, 21] rfl 0 rfl rfl kz_X_90 rfl ⟨Nat.le_of_ble_eq_true rfl, Nat.le_of_ble_eq_true rfl⟩ rfl (Nat.le_of_ble_eq_true rfl) ⟨Nat.zero_le _, Nat.zero_le _⟩ d_X_fetch_26 ?_
      refine lv_istore_n (lv' := [(3, .int (f_Q_openOf c V unit 0)), (0, .ref (a 0)), (1, .int unit), (2, .int t)]) hx hb d_X_fetch_29 rfl hl (by decide) rfl (fun ls hl => ?_)
      refine lv_aload_n hx hb d_X_fetch_30 rfl (lv_at hl 1 rfl) ?_
      refine z_get (v := .ref (a 10)) E hK G.1 i_X 0 2 rfl rfl (by decide) kf_X_28 rfl d_X_fetch_31 ?_
      refine lv_iload_n hx hb d_X_fetch_34 rfl (lv_at hl 2 rfl) ?_
      refine z_rv (As := [.int unit]) (rest := []) E hN hK G.1 hl.1 (c_H_placeOf l D cI (fun j => a (10 + j)) U unit ) [10, 11, 12, 13, 14] rfl 0 rfl rfl kz_X_94 rfl ⟨Nat.le_of_ble_eq_true rfl, Nat.le_of_ble_eq_true rfl⟩ rfl (Nat.le_of_ble_eq_true rfl) ⟨Nat.zero_le _, Nat.zero_le _⟩ d_X_fetch_35 ?_
      refine lv_if_ne (tgt := 58) hx hb d_X_fetch_38 (by decide) (fun c_3 => ?_) (fun c_3 => ?_)
      · refine lv_bipush (v := (-3)) hx hb d_X_fetch_58 (by decide) ?_
        have hf : f_X_fetch nw n c Z P U V unit t = ((-3), nw, nI n, nI c, Z, P, U, V) := by unfold f_X_fetch; rw [if_neg c_1, if_neg c_2, if_neg c_3]
        exact zW.iret E hrt hlk G (by rw [hf]) (by rw [hf]) d_X_fetch_60
      · refine lv_iload_n hx hb d_X_fetch_41 rfl (lv_at hl 0 rfl) ?_
        refine lv_iconst (v := (-1)) hx hb d_X_fetch_42 (by decide) ?_
        refine lv_icmp_eq (tgt := 58) hx hb d_X_fetch_43 (by decide) (fun c_4 => ?_) (fun c_4 => ?_)
        · refine lv_bipush (v := (-3)) hx hb d_X_fetch_58 (by decide) ?_
          have hf : f_X_fetch nw n c Z P U V unit t = ((-3), nw, nI n, nI c, Z, P, U, V) := by unfold f_X_fetch; rw [if_neg c_1, if_neg c_2, if_pos c_3, if_pos c_4]
          exact zW.iret E hrt hlk G (by rw [hf]) (by rw [hf]) d_X_fetch_60
        · refine lv_aload_n hx hb d_X_fetch_46 rfl (lv_at hl 1 rfl) ?_
          refine z_get (v := .ref (a 10)) E hK G.1 i_X 0 2 rfl rfl (by decide) kf_X_28 rfl d_X_fetch_47 ?_
          refine lv_iload_n hx hb d_X_fetch_50 rfl (lv_at hl 2 rfl) ?_
          refine z_rv (As := [.int unit]) (rest := []) E hN hK G.1 hl.1 (c_H_conditionOf l D cI (fun j => a (10 + j)) U unit ) [10, 11, 12, 13, 14] rfl 0 rfl rfl kz_X_97 rfl ⟨Nat.le_of_ble_eq_true rfl, Nat.le_of_ble_eq_true rfl⟩ rfl (Nat.le_of_ble_eq_true rfl) ⟨Nat.zero_le _, Nat.zero_le _⟩ d_X_fetch_51 ?_
          refine lv_iconst (v := 2) hx hb d_X_fetch_54 (by decide) ?_
          refine lv_icmp_le (tgt := 61) hx hb d_X_fetch_55 (by decide) (fun c_5 => ?_) (fun c_5 => ?_)
          · refine lv_aload_n hx hb d_X_fetch_61 rfl (lv_at hl 1 rfl) ?_
            refine lv_iload_n hx hb d_X_fetch_62 rfl (lv_at hl 3 rfl) ?_
            refine z_put (ty := .int) (ws' := wX a cI t (nI k) (nI n) (nI c) Z P U V) E hK G i_X t_X t_X_ok n_X 0 4 rfl rfl (by decide) kf_X_39 rfl rfl rfl rfl (Nat.le_of_ble_eq_true rfl) rfl d_X_fetch_63 (fun H locs G => ?_)
            refine lv_aload_n hx hb d_X_fetch_66 rfl (lv_at hl 1 rfl) ?_
            refine lv_iload_n hx hb d_X_fetch_67 rfl (lv_at hl 2 rfl) ?_
            refine lv_iload_n hx hb d_X_fetch_68 rfl (lv_at hl 0 rfl) ?_
            refine z_wv (As := [.int unit, .int (f_Q_openOf c V unit 0)]) (rest := []) (wr := ([] : List Nat).filterMap (fun i => (wX a cI t (nI k) (nI n) (nI c) Z P U V)[i]?)) (ws' := wX a cI t (nI k) (nI n) (nI c) Z P ((f_X_sendFor c U V unit (f_Q_openOf c V unit 0)).1) ((f_X_sendFor c U V unit (f_Q_openOf c V unit 0)).2)) E hN hK hA G hl.1 (c_X_sendFor l D cI a t k n c Z P U V unit (f_Q_openOf c V unit 0) hk hn hc) [0, 1, 2, 3, 4, 5, 6, 7, 8, 9, 10, 11, 12, 13, 14, 15, 16, 17, 18, 19, 20, 21] [] [0, 1, 2, 3, 4, 5, 6, 7, 8, 9, 10, 11, 12, 13, 14, 15, 16, 17, 18, 19, 20, 21] rfl rfl rfl rfl rfl rfl (by decide) 0 rfl rfl kz_X_100 rfl ⟨Nat.le_of_ble_eq_true rfl, Nat.le_of_ble_eq_true rfl⟩ rfl (Nat.le_of_ble_eq_true rfl) ⟨Nat.zero_le _, Nat.zero_le _⟩ d_X_fetch_69 (fun H locs G => ?_)
            refine W.eq (g2 := F0 m 72 ls []) rfl ?_
            refine lv_iload_n hx hb d_X_fetch_72 rfl (lv_at hl 0 rfl) ?_
            have hf : f_X_fetch nw n c Z P U V unit t = (f_Q_openOf c V unit 0, t, nI n, nI c, Z, P, (f_X_sendFor c U V unit (f_Q_openOf c V unit 0)).1, (f_X_sendFor c U V unit (f_Q_openOf c V unit 0)).2) := by unfold f_X_fetch; rw [if_neg c_1, if_neg c_2, if_pos c_3, if_neg c_4, if_pos c_5]
            exact zW.iret E hrt hlk G (by rw [hf]) (by rw [hf]) d_X_fetch_73
          · refine lv_bipush (v := (-3)) hx hb d_X_fetch_58 (by decide) ?_
            have hf : f_X_fetch nw n c Z P U V unit t = ((-3), nw, nI n, nI c, Z, P, U, V) := by unfold f_X_fetch; rw [if_neg c_1, if_neg c_2, if_pos c_3, if_neg c_4, if_neg c_5]
            exact zW.iret E hrt hlk G (by rw [hf]) (by rw [hf]) d_X_fetch_60
    · refine lv_bipush (v := (-2)) hx hb d_X_fetch_17 (by decide) ?_
      have hf : f_X_fetch nw n c Z P U V unit t = ((-2), nw, nI n, nI c, Z, P, U, V) := by unfold f_X_fetch; rw [if_neg c_1, if_pos c_2]
      exact zW.iret E hrt hlk G (by rw [hf]) (by rw [hf]) d_X_fetch_19
  · refine lv_iconst (v := (-1)) hx hb d_X_fetch_7 (by decide) ?_
    have hf : f_X_fetch nw n c Z P U V unit t = ((-1), nw, nI n, nI c, Z, P, U, V) := by unfold f_X_fetch; rw [if_pos c_1]
    exact zW.iret E hrt hlk G (by rw [hf]) (by rw [hf]) d_X_fetch_8
def f_X_handOut (nw : Int32) (k : Nat) (n : Nat) (c : Nat) (Z : Nat → Nat → Int32) (P : Nat → Nat → Int32) (U : Nat → Nat → Int32) (V : Nat → Nat → Int32) (unit : Int32) (t : Int32) : Int32 × Int32 × Int32 × Int32 × (Nat → Nat → Int32) × (Nat → Nat → Int32) × (Nat → Nat → Int32) × (Nat → Nat → Int32) := (if (f_isUnit unit) = 0 then ((-1), nw, nI n, nI c, Z, P, U, V) else (if (f_X_isTime nw t) = 0 then ((-2), nw, nI n, nI c, Z, P, U, V) else (if (f_H_placeOf U unit) = 1 then (if (f_S_isSeated k Z (f_Q_personOf c V (f_H_requestOf U unit))) = 0 then ((-3), nw, nI n, nI c, Z, P, U, V) else (if (f_X_isRightTooLow P U (f_Q_personOf c V (f_H_requestOf U unit)) unit) = 0 then (f_Q_personOf c V (f_H_requestOf U unit), t, nI n, nI c, Z, P, (f_H_put U unit 2 (f_H_requestOf U unit)), (f_Q_markHandedOut c V (f_H_requestOf U unit) t)) else ((-5), nw, nI n, nI c, Z, P, U, V))) else ((-3), nw, nI n, nI c, Z, P, U, V))))
set_option maxHeartbeats 4000000 in
set_option maxRecDepth 100000 in
theorem c_X_handOut (l : Launch) (D : va_G) (cI : ClassId) (a : Nat → Nat) (nw : Int32) (k : Nat) (n : Nat) (c : Nat) (Z : Nat → Nat → Int32) (P : Nat → Nat → Int32) (U : Nat → Nat → Int32) (V : Nat → Nat → Int32) (unit : Int32) (t : Int32) (hk : k ≤ 20) (hn : n ≤ 60) (hc : c ≤ 300) : zW l D [(cI, .int)] y_X_handOut b_X_handOut 5 (some .int) 4 85 [.ref (a 0), .int unit, .int t] (wX a cI nw (nI k) (nI n) (nI c) Z P U V) (wX a cI ((f_X_handOut nw k n c Z P U V unit t).2.1) (nI k) ((f_X_handOut nw k n c Z P U V unit t).2.2.1) ((f_X_handOut nw k n c Z P U V unit t).2.2.2.1) ((f_X_handOut nw k n c Z P U V unit t).2.2.2.2.1) ((f_X_handOut nw k n c Z P U V unit t).2.2.2.2.2.1) ((f_X_handOut nw k n c Z P U V unit t).2.2.2.2.2.2.1) ((f_X_handOut nw k n c Z P U V unit t).2.2.2.2.2.2.2)) (some (.int (f_X_handOut nw k n c Z P U V unit t).1)) := by
  refine zW.of (by decide) (Nat.le_of_ble_eq_true rfl) ?_
  intro p e s m below meth c0 ls A E hrt hlk hN hK hA G hl
  have hx := E.1
  have hb := E.2.1
  have hl : lv_has ls 5 [(0, .ref (a 0)), (1, .int unit), (2, .int t)] := hl
  refine lv_iload_n hx hb d_X_handOut_0 rfl (lv_at hl 1 rfl) ?_
  refine z_rs (As := [.int unit]) (rest := []) E hN hK hl.1 (c_isUnit l D [(cI, .int)] unit) kz_X_60 rfl ⟨Nat.le_of_ble_eq_true rfl, Nat.le_of_ble_eq_true rfl⟩ rfl (Nat.le_of_ble_eq_true rfl) ⟨Nat.zero_le _, Nat.zero_le _⟩ d_X_handOut_1 ?_
  refine lv_if_ne (tgt := 9) hx hb d_X_handOut_4 (by decide) (fun c_1 => ?_) (fun c_1 => ?_)
  · refine lv_aload_n hx hb d_X_handOut_9 rfl (lv_at hl 0 rfl) ?_
    refine lv_iload_n hx hb d_X_handOut_10 rfl (lv_at hl 2 rfl) ?_
    refine z_rv (As := [.int t]) (rest := []) E hN hK G.1 hl.1 (c_X_isTime l D cI a nw k n c Z P U V t hk hn hc) [0, 1, 2, 3, 4, 5, 6, 7, 8, 9, 10, 11, 12, 13, 14, 15, 16, 17, 18, 19, 20, 21] rfl 0 rfl rfl kz_X_63 rfl ⟨Nat.le_of_ble_eq_true rfl, Nat.le_of_ble_eq_true rfl⟩ rfl (Nat.le_of_ble_eq_true rfl) ⟨Nat.zero_le _, Nat.zero_le _⟩ d_X_handOut_11 ?_
    refine lv_if_ne (tgt := 20) hx hb d_X_handOut_14 (by decide) (fun c_2 => ?_) (fun c_2 => ?_)
    · refine lv_aload_n hx hb d_X_handOut_20 rfl (lv_at hl 0 rfl) ?_
      refine z_get (v := .ref (a 10)) E hK G.1 i_X 0 2 rfl rfl (by decide) kf_X_28 rfl d_X_handOut_21 ?_
      refine lv_iload_n hx hb d_X_handOut_24 rfl (lv_at hl 1 rfl) ?_
      refine z_rv (As := [.int unit]) (rest := []) E hN hK G.1 hl.1 (c_H_requestOf l D cI (fun j => a (10 + j)) U unit ) [10, 11, 12, 13, 14] rfl 0 rfl rfl kz_X_104 rfl ⟨Nat.le_of_ble_eq_true rfl, Nat.le_of_ble_eq_true rfl⟩ rfl (Nat.le_of_ble_eq_true rfl) ⟨Nat.zero_le _, Nat.zero_le _⟩ d_X_handOut_25 ?_
      refine lv_istore_n (lv' := [(3, .int (f_H_requestOf U unit)), (0, .ref (a 0)), (1, .int unit), (2, .int t)]) hx hb d_X_handOut_28 rfl hl (by decide) rfl (fun ls hl => ?_)
      refine lv_aload_n hx hb d_X_handOut_29 rfl (lv_at hl 1 rfl) ?_
      refine z_get (v := .ref (a 15)) E hK G.1 i_X 0 3 rfl rfl (by decide) kf_X_35 rfl d_X_handOut_30 ?_
      refine lv_iload_n hx hb d_X_handOut_33 rfl (lv_at hl 0 rfl) ?_
      refine z_rv (As := [.int (f_H_requestOf U unit)]) (rest := []) E hN hK G.1 hl.1 (c_Q_personOf l D cI (fun j => a (15 + j)) c V (f_H_requestOf U unit) hc) [15, 16, 17, 18, 19, 20, 21] rfl 0 rfl rfl kz_X_107 rfl ⟨Nat.le_of_ble_eq_true rfl, Nat.le_of_ble_eq_true rfl⟩ rfl (Nat.le_of_ble_eq_true rfl) ⟨Nat.zero_le _, Nat.zero_le _⟩ d_X_handOut_34 ?_
      refine lv_istore (lv' := [(4, .int (f_Q_personOf c V (f_H_requestOf U unit))), (3, .int (f_H_requestOf U unit)), (0, .ref (a 0)), (1, .int unit), (2, .int t)]) hx hb d_X_handOut_37 hl (by decide) rfl (fun ls hl => ?_)
      refine lv_aload_n hx hb d_X_handOut_39 rfl (lv_at hl 2 rfl) ?_
      refine z_get (v := .ref (a 10)) E hK G.1 i_X 0 2 rfl rfl (by decide) kf_X_28 rfl d_X_handOut_40 ?_
      refine lv_iload_n hx hb d_X_handOut_43 rfl (lv_at hl 3 rfl) ?_
      refine z_rv (As := [.int unit]) (rest := []) E hN hK G.1 hl.1 (c_H_placeOf l D cI (fun j => a (10 + j)) U unit ) [10, 11, 12, 13, 14] rfl 0 rfl rfl kz_X_94 rfl ⟨Nat.le_of_ble_eq_true rfl, Nat.le_of_ble_eq_true rfl⟩ rfl (Nat.le_of_ble_eq_true rfl) ⟨Nat.zero_le _, Nat.zero_le _⟩ d_X_handOut_44 ?_
      refine lv_iconst (v := 1) hx hb d_X_handOut_47 (by decide) ?_
      refine lv_icmp_ne (tgt := 63) hx hb d_X_handOut_48 (by decide) (fun c_3 => ?_) (fun c_3 => ?_)
      · refine lv_bipush (v := (-3)) hx hb d_X_handOut_63 (by decide) ?_
        have hf : f_X_handOut nw k n c Z P U V unit t = ((-3), nw, nI n, nI c, Z, P, U, V) := by unfold f_X_handOut; rw [if_neg c_1, if_neg c_2, if_neg c_3]
        exact zW.iret E hrt hlk G (by rw [hf]) (by rw [hf]) d_X_handOut_65
      · refine lv_aload_n hx hb d_X_handOut_51 rfl (lv_at hl 2 rfl) ?_
        refine z_get (v := .ref (a 1)) E hK G.1 i_X 0 0 rfl rfl (by decide) kf_X_12 rfl d_X_handOut_52 ?_
        refine lv_iload hx hb d_X_handOut_55 (lv_at hl 0 rfl) ?_
        refine z_rv (As := [.int (f_Q_personOf c V (f_H_requestOf U unit))]) (rest := []) E hN hK G.1 hl.1 (c_S_isSeated l D cI (fun j => a (1 + j)) k n Z (f_Q_personOf c V (f_H_requestOf U unit)) hk hn) [1, 2, 3] rfl 0 rfl rfl kz_X_66 rfl ⟨Nat.le_of_ble_eq_true rfl, Nat.le_of_ble_eq_true rfl⟩ rfl (Nat.le_of_ble_eq_true rfl) ⟨Nat.zero_le _, Nat.zero_le _⟩ d_X_handOut_57 ?_
        refine lv_if_ne (tgt := 66) hx hb d_X_handOut_60 (by decide) (fun c_4 => ?_) (fun c_4 => ?_)
        · refine lv_aload_n hx hb d_X_handOut_66 rfl (lv_at hl 2 rfl) ?_
          refine lv_iload hx hb d_X_handOut_67 (lv_at hl 0 rfl) ?_
          refine lv_iload_n hx hb d_X_handOut_69 rfl (lv_at hl 3 rfl) ?_
          refine z_rv (As := [.int (f_Q_personOf c V (f_H_requestOf U unit)), .int unit]) (rest := []) E hN hK G.1 hl.1 (c_X_isRightTooLow l D cI a nw k n c Z P U V (f_Q_personOf c V (f_H_requestOf U unit)) unit hk hn hc) [0, 1, 2, 3, 4, 5, 6, 7, 8, 9, 10, 11, 12, 13, 14, 15, 16, 17, 18, 19, 20, 21] rfl 0 rfl rfl kz_X_73 rfl ⟨Nat.le_of_ble_eq_true rfl, Nat.le_of_ble_eq_true rfl⟩ rfl (Nat.le_of_ble_eq_true rfl) ⟨Nat.zero_le _, Nat.zero_le _⟩ d_X_handOut_70 ?_
          refine lv_if_eq (tgt := 79) hx hb d_X_handOut_73 (by decide) (fun c_5 => ?_) (fun c_5 => ?_)
          · refine lv_aload_n hx hb d_X_handOut_79 rfl (lv_at hl 2 rfl) ?_
            refine lv_iload_n hx hb d_X_handOut_80 rfl (lv_at hl 4 rfl) ?_
            refine z_put (ty := .int) (ws' := wX a cI t (nI k) (nI n) (nI c) Z P U V) E hK G i_X t_X t_X_ok n_X 0 4 rfl rfl (by decide) kf_X_39 rfl rfl rfl rfl (Nat.le_of_ble_eq_true rfl) rfl d_X_handOut_81 (fun H locs G => ?_)
            refine lv_aload_n hx hb d_X_handOut_84 rfl (lv_at hl 2 rfl) ?_
            refine z_get (v := .ref (a 10)) E hK G.1 i_X 0 2 rfl rfl (by decide) kf_X_28 rfl d_X_handOut_85 ?_
            refine lv_iload_n hx hb d_X_handOut_88 rfl (lv_at hl 3 rfl) ?_
            refine lv_iconst (v := 2) hx hb d_X_handOut_89 (by decide) ?_
            refine lv_iload_n hx hb d_X_handOut_90 rfl (lv_at hl 1 rfl) ?_
            refine z_wv (As := [.int unit, .int 2, .int (f_H_requestOf U unit)]) (rest := []) (wr := ([0, 1, 2, 3, 4, 5, 6, 7, 8, 9, 15, 16, 17, 18, 19, 20, 21] : List Nat).filterMap (fun i => (wX a cI t (nI k) (nI n) (nI c) Z P U V)[i]?)) (ws' := wX a cI t (nI k) (nI n) (nI c) Z P (f_H_put U unit 2 (f_H_requestOf U unit)) V) E hN hK hA G hl.1 (c_H_put l D cI (fun j => a (10 + j)) U unit 2 (f_H_requestOf U unit) ) [10, 11, 12, 13, 14] [0, 1, 2, 3, 4, 5, 6, 7, 8, 9, 15, 16, 17, 18, 19, 20, 21] [0, 1, 2, 3, 4, 5, 6, 7, 8, 9, 17, 18, 19, 20, 21, 10, 11, 12, 13, 14, 15, 16] rfl rfl rfl rfl rfl rfl (by decide) 0 rfl rfl kz_X_110 rfl ⟨Nat.le_of_ble_eq_true rfl, Nat.le_of_ble_eq_true rfl⟩ rfl (Nat.le_of_ble_eq_true rfl) ⟨Nat.zero_le _, Nat.zero_le _⟩ d_X_handOut_91 (fun H locs G => ?_)
            refine W.eq (g2 := F0 m 94 ls []) rfl ?_
            refine lv_aload_n hx hb d_X_handOut_94 rfl (lv_at hl 2 rfl) ?_
            refine z_get (v := .ref (a 15)) E hK G.1 i_X 0 3 rfl rfl (by decide) kf_X_35 rfl d_X_handOut_95 ?_
            refine lv_iload_n hx hb d_X_handOut_98 rfl (lv_at hl 1 rfl) ?_
            refine lv_iload_n hx hb d_X_handOut_99 rfl (lv_at hl 4 rfl) ?_
            refine z_wv (As := [.int (f_H_requestOf U unit), .int t]) (rest := []) (wr := ([0, 1, 2, 3, 4, 5, 6, 7, 8, 9, 10, 11, 12, 13, 14] : List Nat).filterMap (fun i => (wX a cI t (nI k) (nI n) (nI c) Z P (f_H_put U unit 2 (f_H_requestOf U unit)) V)[i]?)) (ws' := wX a cI t (nI k) (nI n) (nI c) Z P (f_H_put U unit 2 (f_H_requestOf U unit)) (f_Q_markHandedOut c V (f_H_requestOf U unit) t)) E hN hK hA G hl.1 (c_Q_markHandedOut l D cI (fun j => a (15 + j)) c V (f_H_requestOf U unit) t hc) [15, 16, 17, 18, 19, 20, 21] [0, 1, 2, 3, 4, 5, 6, 7, 8, 9, 10, 11, 12, 13, 14] [0, 1, 2, 3, 4, 5, 6, 7, 8, 9, 10, 11, 12, 13, 14, 15, 16, 17, 18, 19, 20, 21] rfl rfl rfl rfl rfl rfl (by decide) 0 rfl rfl kz_X_114 rfl ⟨Nat.le_of_ble_eq_true rfl, Nat.le_of_ble_eq_true rfl⟩ rfl (Nat.le_of_ble_eq_true rfl) ⟨Nat.zero_le _, Nat.zero_le _⟩ d_X_handOut_100 (fun H locs G => ?_)
            refine W.eq (g2 := F0 m 103 ls []) rfl ?_
            refine lv_iload hx hb d_X_handOut_103 (lv_at hl 0 rfl) ?_
            have hf : f_X_handOut nw k n c Z P U V unit t = (f_Q_personOf c V (f_H_requestOf U unit), t, nI n, nI c, Z, P, (f_H_put U unit 2 (f_H_requestOf U unit)), (f_Q_markHandedOut c V (f_H_requestOf U unit) t)) := by unfold f_X_handOut; rw [if_neg c_1, if_neg c_2, if_pos c_3, if_neg c_4, if_pos c_5]
            exact zW.iret E hrt hlk G (by rw [hf]) (by rw [hf]) d_X_handOut_105
          · refine lv_bipush (v := (-5)) hx hb d_X_handOut_76 (by decide) ?_
            have hf : f_X_handOut nw k n c Z P U V unit t = ((-5), nw, nI n, nI c, Z, P, U, V) := by unfold f_X_handOut; rw [if_neg c_1, if_neg c_2, if_pos c_3, if_neg c_4, if_neg c_5]
            exact zW.iret E hrt hlk G (by rw [hf]) (by rw [hf]) d_X_handOut_78
        · refine lv_bipush (v := (-3)) hx hb d_X_handOut_63 (by decide) ?_
          have hf : f_X_handOut nw k n c Z P U V unit t = ((-3), nw, nI n, nI c, Z, P, U, V) := by unfold f_X_handOut; rw [if_neg c_1, if_neg c_2, if_pos c_3, if_pos c_4]
          exact zW.iret E hrt hlk G (by rw [hf]) (by rw [hf]) d_X_handOut_65
    · refine lv_bipush (v := (-2)) hx hb d_X_handOut_17 (by decide) ?_
      have hf : f_X_handOut nw k n c Z P U V unit t = ((-2), nw, nI n, nI c, Z, P, U, V) := by unfold f_X_handOut; rw [if_neg c_1, if_pos c_2]
      exact zW.iret E hrt hlk G (by rw [hf]) (by rw [hf]) d_X_handOut_19
  · refine lv_iconst (v := (-1)) hx hb d_X_handOut_7 (by decide) ?_
    have hf : f_X_handOut nw k n c Z P U V unit t = ((-1), nw, nI n, nI c, Z, P, U, V) := by unfold f_X_handOut; rw [if_pos c_1]
    exact zW.iret E hrt hlk G (by rw [hf]) (by rw [hf]) d_X_handOut_8
def f_X_back (nw : Int32) (n : Nat) (c : Nat) (Z : Nat → Nat → Int32) (P : Nat → Nat → Int32) (U : Nat → Nat → Int32) (V : Nat → Nat → Int32) (unit : Int32) (t : Int32) : Int32 × Int32 × Int32 × Int32 × (Nat → Nat → Int32) × (Nat → Nat → Int32) × (Nat → Nat → Int32) × (Nat → Nat → Int32) := (if (f_isUnit unit) = 0 then ((-1), nw, nI n, nI c, Z, P, U, V) else (if (f_X_isTime nw t) = 0 then ((-2), nw, nI n, nI c, Z, P, U, V) else (if (f_H_placeOf U unit) = 2 then (f_H_requestOf U unit, t, nI n, nI c, Z, P, (f_H_put U unit 3 (f_H_requestOf U unit)), (f_Q_markBack c V (f_H_requestOf U unit) t)) else ((-3), nw, nI n, nI c, Z, P, U, V))))
set_option maxHeartbeats 4000000 in
set_option maxRecDepth 100000 in
theorem c_X_back (l : Launch) (D : va_G) (cI : ClassId) (a : Nat → Nat) (nw : Int32) (k : Nat) (n : Nat) (c : Nat) (Z : Nat → Nat → Int32) (P : Nat → Nat → Int32) (U : Nat → Nat → Int32) (V : Nat → Nat → Int32) (unit : Int32) (t : Int32) (hk : k ≤ 20) (hn : n ≤ 60) (hc : c ≤ 300) : zW l D [(cI, .int)] y_X_back b_X_back 4 (some .int) 3 65 [.ref (a 0), .int unit, .int t] (wX a cI nw (nI k) (nI n) (nI c) Z P U V) (wX a cI ((f_X_back nw n c Z P U V unit t).2.1) (nI k) ((f_X_back nw n c Z P U V unit t).2.2.1) ((f_X_back nw n c Z P U V unit t).2.2.2.1) ((f_X_back nw n c Z P U V unit t).2.2.2.2.1) ((f_X_back nw n c Z P U V unit t).2.2.2.2.2.1) ((f_X_back nw n c Z P U V unit t).2.2.2.2.2.2.1) ((f_X_back nw n c Z P U V unit t).2.2.2.2.2.2.2)) (some (.int (f_X_back nw n c Z P U V unit t).1)) := by
  refine zW.of (by decide) (Nat.le_of_ble_eq_true rfl) ?_
  intro p e s m below meth c0 ls A E hrt hlk hN hK hA G hl
  have hx := E.1
  have hb := E.2.1
  have hl : lv_has ls 4 [(0, .ref (a 0)), (1, .int unit), (2, .int t)] := hl
  refine lv_iload_n hx hb d_X_back_0 rfl (lv_at hl 1 rfl) ?_
  refine z_rs (As := [.int unit]) (rest := []) E hN hK hl.1 (c_isUnit l D [(cI, .int)] unit) kz_X_60 rfl ⟨Nat.le_of_ble_eq_true rfl, Nat.le_of_ble_eq_true rfl⟩ rfl (Nat.le_of_ble_eq_true rfl) ⟨Nat.zero_le _, Nat.zero_le _⟩ d_X_back_1 ?_
  refine lv_if_ne (tgt := 9) hx hb d_X_back_4 (by decide) (fun c_1 => ?_) (fun c_1 => ?_)
  · refine lv_aload_n hx hb d_X_back_9 rfl (lv_at hl 0 rfl) ?_
    refine lv_iload_n hx hb d_X_back_10 rfl (lv_at hl 2 rfl) ?_
    refine z_rv (As := [.int t]) (rest := []) E hN hK G.1 hl.1 (c_X_isTime l D cI a nw k n c Z P U V t hk hn hc) [0, 1, 2, 3, 4, 5, 6, 7, 8, 9, 10, 11, 12, 13, 14, 15, 16, 17, 18, 19, 20, 21] rfl 0 rfl rfl kz_X_63 rfl ⟨Nat.le_of_ble_eq_true rfl, Nat.le_of_ble_eq_true rfl⟩ rfl (Nat.le_of_ble_eq_true rfl) ⟨Nat.zero_le _, Nat.zero_le _⟩ d_X_back_11 ?_
    refine lv_if_ne (tgt := 20) hx hb d_X_back_14 (by decide) (fun c_2 => ?_) (fun c_2 => ?_)
    · refine lv_aload_n hx hb d_X_back_20 rfl (lv_at hl 0 rfl) ?_
      refine z_get (v := .ref (a 10)) E hK G.1 i_X 0 2 rfl rfl (by decide) kf_X_28 rfl d_X_back_21 ?_
      refine lv_iload_n hx hb d_X_back_24 rfl (lv_at hl 1 rfl) ?_
      refine z_rv (As := [.int unit]) (rest := []) E hN hK G.1 hl.1 (c_H_placeOf l D cI (fun j => a (10 + j)) U unit ) [10, 11, 12, 13, 14] rfl 0 rfl rfl kz_X_94 rfl ⟨Nat.le_of_ble_eq_true rfl, Nat.le_of_ble_eq_true rfl⟩ rfl (Nat.le_of_ble_eq_true rfl) ⟨Nat.zero_le _, Nat.zero_le _⟩ d_X_back_25 ?_
      refine lv_iconst (v := 2) hx hb d_X_back_28 (by decide) ?_
      refine lv_icmp_eq (tgt := 35) hx hb d_X_back_29 (by decide) (fun c_3 => ?_) (fun c_3 => ?_)
      · refine lv_aload_n hx hb d_X_back_35 rfl (lv_at hl 0 rfl) ?_
        refine lv_iload_n hx hb d_X_back_36 rfl (lv_at hl 2 rfl) ?_
        refine z_put (ty := .int) (ws' := wX a cI t (nI k) (nI n) (nI c) Z P U V) E hK G i_X t_X t_X_ok n_X 0 4 rfl rfl (by decide) kf_X_39 rfl rfl rfl rfl (Nat.le_of_ble_eq_true rfl) rfl d_X_back_37 (fun H locs G => ?_)
        refine lv_aload_n hx hb d_X_back_40 rfl (lv_at hl 0 rfl) ?_
        refine z_get (v := .ref (a 10)) E hK G.1 i_X 0 2 rfl rfl (by decide) kf_X_28 rfl d_X_back_41 ?_
        refine lv_iload_n hx hb d_X_back_44 rfl (lv_at hl 1 rfl) ?_
        refine z_rv (As := [.int unit]) (rest := []) E hN hK G.1 hl.1 (c_H_requestOf l D cI (fun j => a (10 + j)) U unit ) [10, 11, 12, 13, 14] rfl 0 rfl rfl kz_X_104 rfl ⟨Nat.le_of_ble_eq_true rfl, Nat.le_of_ble_eq_true rfl⟩ rfl (Nat.le_of_ble_eq_true rfl) ⟨Nat.zero_le _, Nat.zero_le _⟩ d_X_back_45 ?_
        refine lv_istore_n (lv' := [(3, .int (f_H_requestOf U unit)), (0, .ref (a 0)), (1, .int unit), (2, .int t)]) hx hb d_X_back_48 rfl hl (by decide) rfl (fun ls hl => ?_)
        refine lv_aload_n hx hb d_X_back_49 rfl (lv_at hl 1 rfl) ?_
        refine z_get (v := .ref (a 10)) E hK G.1 i_X 0 2 rfl rfl (by decide) kf_X_28 rfl d_X_back_50 ?_
        refine lv_iload_n hx hb d_X_back_53 rfl (lv_at hl 2 rfl) ?_
        refine lv_iconst (v := 3) hx hb d_X_back_54 (by decide) ?_
        refine lv_iload_n hx hb d_X_back_55 rfl (lv_at hl 0 rfl) ?_
        refine z_wv (As := [.int unit, .int 3, .int (f_H_requestOf U unit)]) (rest := []) (wr := ([0, 1, 2, 3, 4, 5, 6, 7, 8, 9, 15, 16, 17, 18, 19, 20, 21] : List Nat).filterMap (fun i => (wX a cI t (nI k) (nI n) (nI c) Z P U V)[i]?)) (ws' := wX a cI t (nI k) (nI n) (nI c) Z P (f_H_put U unit 3 (f_H_requestOf U unit)) V) E hN hK hA G hl.1 (c_H_put l D cI (fun j => a (10 + j)) U unit 3 (f_H_requestOf U unit) ) [10, 11, 12, 13, 14] [0, 1, 2, 3, 4, 5, 6, 7, 8, 9, 15, 16, 17, 18, 19, 20, 21] [0, 1, 2, 3, 4, 5, 6, 7, 8, 9, 17, 18, 19, 20, 21, 10, 11, 12, 13, 14, 15, 16] rfl rfl rfl rfl rfl rfl (by decide) 0 rfl rfl kz_X_110 rfl ⟨Nat.le_of_ble_eq_true rfl, Nat.le_of_ble_eq_true rfl⟩ rfl (Nat.le_of_ble_eq_true rfl) ⟨Nat.zero_le _, Nat.zero_le _⟩ d_X_back_56 (fun H locs G => ?_)
        refine W.eq (g2 := F0 m 59 ls []) rfl ?_
        refine lv_aload_n hx hb d_X_back_59 rfl (lv_at hl 1 rfl) ?_
        refine z_get (v := .ref (a 15)) E hK G.1 i_X 0 3 rfl rfl (by decide) kf_X_35 rfl d_X_back_60 ?_
        refine lv_iload_n hx hb d_X_back_63 rfl (lv_at hl 0 rfl) ?_
        refine lv_iload_n hx hb d_X_back_64 rfl (lv_at hl 3 rfl) ?_
        refine z_wv (As := [.int (f_H_requestOf U unit), .int t]) (rest := []) (wr := ([0, 1, 2, 3, 4, 5, 6, 7, 8, 9, 10, 11, 12, 13, 14] : List Nat).filterMap (fun i => (wX a cI t (nI k) (nI n) (nI c) Z P (f_H_put U unit 3 (f_H_requestOf U unit)) V)[i]?)) (ws' := wX a cI t (nI k) (nI n) (nI c) Z P (f_H_put U unit 3 (f_H_requestOf U unit)) (f_Q_markBack c V (f_H_requestOf U unit) t)) E hN hK hA G hl.1 (c_Q_markBack l D cI (fun j => a (15 + j)) c V (f_H_requestOf U unit) t hc) [15, 16, 17, 18, 19, 20, 21] [0, 1, 2, 3, 4, 5, 6, 7, 8, 9, 10, 11, 12, 13, 14] [0, 1, 2, 3, 4, 5, 6, 7, 8, 9, 10, 11, 12, 13, 14, 15, 16, 17, 18, 19, 20, 21] rfl rfl rfl rfl rfl rfl (by decide) 0 rfl rfl kz_X_117 rfl ⟨Nat.le_of_ble_eq_true rfl, Nat.le_of_ble_eq_true rfl⟩ rfl (Nat.le_of_ble_eq_true rfl) ⟨Nat.zero_le _, Nat.zero_le _⟩ d_X_back_65 (fun H locs G => ?_)
        refine W.eq (g2 := F0 m 68 ls []) rfl ?_
        refine lv_iload_n hx hb d_X_back_68 rfl (lv_at hl 0 rfl) ?_
        have hf : f_X_back nw n c Z P U V unit t = (f_H_requestOf U unit, t, nI n, nI c, Z, P, (f_H_put U unit 3 (f_H_requestOf U unit)), (f_Q_markBack c V (f_H_requestOf U unit) t)) := by unfold f_X_back; rw [if_neg c_1, if_neg c_2, if_pos c_3]
        exact zW.iret E hrt hlk G (by rw [hf]) (by rw [hf]) d_X_back_69
      · refine lv_bipush (v := (-3)) hx hb d_X_back_32 (by decide) ?_
        have hf : f_X_back nw n c Z P U V unit t = ((-3), nw, nI n, nI c, Z, P, U, V) := by unfold f_X_back; rw [if_neg c_1, if_neg c_2, if_neg c_3]
        exact zW.iret E hrt hlk G (by rw [hf]) (by rw [hf]) d_X_back_34
    · refine lv_bipush (v := (-2)) hx hb d_X_back_17 (by decide) ?_
      have hf : f_X_back nw n c Z P U V unit t = ((-2), nw, nI n, nI c, Z, P, U, V) := by unfold f_X_back; rw [if_neg c_1, if_pos c_2]
      exact zW.iret E hrt hlk G (by rw [hf]) (by rw [hf]) d_X_back_19
  · refine lv_iconst (v := (-1)) hx hb d_X_back_7 (by decide) ?_
    have hf : f_X_back nw n c Z P U V unit t = ((-1), nw, nI n, nI c, Z, P, U, V) := by unfold f_X_back; rw [if_pos c_1]
    exact zW.iret E hrt hlk G (by rw [hf]) (by rw [hf]) d_X_back_8
def f_X_look (nw : Int32) (n : Nat) (c : Nat) (Z : Nat → Nat → Int32) (P : Nat → Nat → Int32) (U : Nat → Nat → Int32) (V : Nat → Nat → Int32) (unit : Int32) (condition : Int32) : Int32 × Int32 × Int32 × Int32 × (Nat → Nat → Int32) × (Nat → Nat → Int32) × (Nat → Nat → Int32) × (Nat → Nat → Int32) := (if (f_isUnit unit) = 0 then ((-1), nw, nI n, nI c, Z, P, U, V) else (if (f_isWithin condition (f_H_conditionOf U unit) 3) = 0 then ((-2), nw, nI n, nI c, Z, P, U, V) else (if (f_H_placeOf U unit) = 3 then (if 1 < condition then (1000, nw, nI n, nI c, Z, P, (f_H_put (f_H_setCondition U unit condition) unit 0 (-1)), V) else (if (f_Q_openOf c V unit 0) = (-1) then (1000, nw, nI n, nI c, Z, P, (f_H_put (f_H_setCondition U unit condition) unit 0 (-1)), V) else (f_Q_openOf c V unit 0, nw, nI n, nI c, Z, P, (f_X_sendFor c (f_H_setCondition U unit condition) V unit (f_Q_openOf c V unit 0)).1, (f_X_sendFor c (f_H_setCondition U unit condition) V unit (f_Q_openOf c V unit 0)).2))) else ((-3), nw, nI n, nI c, Z, P, U, V))))
set_option maxHeartbeats 4000000 in
set_option maxRecDepth 100000 in
theorem c_X_look (l : Launch) (D : va_G) (cI : ClassId) (a : Nat → Nat) (nw : Int32) (k : Nat) (n : Nat) (c : Nat) (Z : Nat → Nat → Int32) (P : Nat → Nat → Int32) (U : Nat → Nat → Int32) (V : Nat → Nat → Int32) (unit : Int32) (condition : Int32) (hk : k ≤ 20) (hn : n ≤ 60) (hc : c ≤ 300) : zW l D [(cI, .int)] y_X_look b_X_look 4 (some .int) 4 89 [.ref (a 0), .int unit, .int condition] (wX a cI nw (nI k) (nI n) (nI c) Z P U V) (wX a cI ((f_X_look nw n c Z P U V unit condition).2.1) (nI k) ((f_X_look nw n c Z P U V unit condition).2.2.1) ((f_X_look nw n c Z P U V unit condition).2.2.2.1) ((f_X_look nw n c Z P U V unit condition).2.2.2.2.1) ((f_X_look nw n c Z P U V unit condition).2.2.2.2.2.1) ((f_X_look nw n c Z P U V unit condition).2.2.2.2.2.2.1) ((f_X_look nw n c Z P U V unit condition).2.2.2.2.2.2.2)) (some (.int (f_X_look nw n c Z P U V unit condition).1)) := by
  refine zW.of (by decide) (Nat.le_of_ble_eq_true rfl) ?_
  intro p e s m below meth c0 ls A E hrt hlk hN hK hA G hl
  have hx := E.1
  have hb := E.2.1
  have hl : lv_has ls 4 [(0, .ref (a 0)), (1, .int unit), (2, .int condition)] := hl
  refine lv_iload_n hx hb d_X_look_0 rfl (lv_at hl 1 rfl) ?_
  refine z_rs (As := [.int unit]) (rest := []) E hN hK hl.1 (c_isUnit l D [(cI, .int)] unit) kz_X_60 rfl ⟨Nat.le_of_ble_eq_true rfl, Nat.le_of_ble_eq_true rfl⟩ rfl (Nat.le_of_ble_eq_true rfl) ⟨Nat.zero_le _, Nat.zero_le _⟩ d_X_look_1 ?_
  refine lv_if_ne (tgt := 9) hx hb d_X_look_4 (by decide) (fun c_1 => ?_) (fun c_1 => ?_)
  · refine lv_iload_n hx hb d_X_look_9 rfl (lv_at hl 2 rfl) ?_
    refine lv_aload_n hx hb d_X_look_10 rfl (lv_at hl 0 rfl) ?_
    refine z_get (v := .ref (a 10)) E hK G.1 i_X 0 2 rfl rfl (by decide) kf_X_28 rfl d_X_look_11 ?_
    refine lv_iload_n hx hb d_X_look_14 rfl (lv_at hl 1 rfl) ?_
    refine z_rv (As := [.int unit]) (rest := [.int condition]) E hN hK G.1 hl.1 (c_H_conditionOf l D cI (fun j => a (10 + j)) U unit ) [10, 11, 12, 13, 14] rfl 0 rfl rfl kz_X_97 rfl ⟨Nat.le_of_ble_eq_true rfl, Nat.le_of_ble_eq_true rfl⟩ rfl (Nat.le_of_ble_eq_true rfl) ⟨Nat.zero_le _, Nat.zero_le _⟩ d_X_look_15 ?_
    refine lv_iconst (v := 3) hx hb d_X_look_18 (by decide) ?_
    refine z_rs (As := [.int condition, .int (f_H_conditionOf U unit), .int 3]) (rest := []) E hN hK hl.1 (c_isWithin l D [(cI, .int)] condition (f_H_conditionOf U unit) 3) kz_X_120 rfl ⟨Nat.le_of_ble_eq_true rfl, Nat.le_of_ble_eq_true rfl⟩ rfl (Nat.le_of_ble_eq_true rfl) ⟨Nat.zero_le _, Nat.zero_le _⟩ d_X_look_19 ?_
    refine lv_if_ne (tgt := 28) hx hb d_X_look_22 (by decide) (fun c_2 => ?_) (fun c_2 => ?_)
    · refine lv_aload_n hx hb d_X_look_28 rfl (lv_at hl 0 rfl) ?_
      refine z_get (v := .ref (a 10)) E hK G.1 i_X 0 2 rfl rfl (by decide) kf_X_28 rfl d_X_look_29 ?_
      refine lv_iload_n hx hb d_X_look_32 rfl (lv_at hl 1 rfl) ?_
      refine z_rv (As := [.int unit]) (rest := []) E hN hK G.1 hl.1 (c_H_placeOf l D cI (fun j => a (10 + j)) U unit ) [10, 11, 12, 13, 14] rfl 0 rfl rfl kz_X_94 rfl ⟨Nat.le_of_ble_eq_true rfl, Nat.le_of_ble_eq_true rfl⟩ rfl (Nat.le_of_ble_eq_true rfl) ⟨Nat.zero_le _, Nat.zero_le _⟩ d_X_look_33 ?_
      refine lv_iconst (v := 3) hx hb d_X_look_36 (by decide) ?_
      refine lv_icmp_eq (tgt := 43) hx hb d_X_look_37 (by decide) (fun c_3 => ?_) (fun c_3 => ?_)
      · refine lv_aload_n hx hb d_X_look_43 rfl (lv_at hl 0 rfl) ?_
        refine z_get (v := .ref (a 10)) E hK G.1 i_X 0 2 rfl rfl (by decide) kf_X_28 rfl d_X_look_44 ?_
        refine lv_iload_n hx hb d_X_look_47 rfl (lv_at hl 1 rfl) ?_
        refine lv_iload_n hx hb d_X_look_48 rfl (lv_at hl 2 rfl) ?_
        refine z_wv (As := [.int unit, .int condition]) (rest := []) (wr := ([0, 1, 2, 3, 4, 5, 6, 7, 8, 9, 15, 16, 17, 18, 19, 20, 21] : List Nat).filterMap (fun i => (wX a cI nw (nI k) (nI n) (nI c) Z P U V)[i]?)) (ws' := wX a cI nw (nI k) (nI n) (nI c) Z P (f_H_setCondition U unit condition) V) E hN hK hA G hl.1 (c_H_setCondition l D cI (fun j => a (10 + j)) U unit condition ) [10, 11, 12, 13, 14] [0, 1, 2, 3, 4, 5, 6, 7, 8, 9, 15, 16, 17, 18, 19, 20, 21] [0, 1, 2, 3, 4, 5, 6, 7, 8, 9, 17, 18, 19, 20, 21, 10, 11, 12, 13, 14, 15, 16] rfl rfl rfl rfl rfl rfl (by decide) 0 rfl rfl kz_X_124 rfl ⟨Nat.le_of_ble_eq_true rfl, Nat.le_of_ble_eq_true rfl⟩ rfl (Nat.le_of_ble_eq_true rfl) ⟨Nat.zero_le _, Nat.zero_le _⟩ d_X_look_49 (fun H locs G => ?_)
        refine W.eq (g2 := F0 m 52 ls []) rfl ?_
        refine lv_aload_n hx hb d_X_look_52 rfl (lv_at hl 0 rfl) ?_
        refine z_get (v := .ref (a 15)) E hK G.1 i_X 0 3 rfl rfl (by decide) kf_X_35 rfl d_X_look_53 ?_
        refine lv_iload_n hx hb d_X_look_56 rfl (lv_at hl 1 rfl) ?_
        refine lv_iconst (v := 0) hx hb d_X_look_57 (by decide) ?_
        refine z_rv (As := [.int unit, .int 0]) (rest := []) E hN hK G.1 hl.1 (c_Q_openOf l D cI (fun j => a (15 + j)) c V unit 0 hc) [15, 16, 17, 18, 19, 20, 21] rfl 0 rfl rfl kz_X_90 rfl ⟨Nat.le_of_ble_eq_true rfl, Nat.le_of_ble_eq_true rfl⟩ rfl (Nat.le_of_ble_eq_true rfl) ⟨Nat.zero_le _, Nat.zero_le _⟩ d_X_look_58 ?_
        refine lv_istore_n (lv' := [(3, .int (f_Q_openOf c V unit 0)), (0, .ref (a 0)), (1, .int unit), (2, .int condition)]) hx hb d_X_look_61 rfl hl (by decide) rfl (fun ls hl => ?_)
        refine lv_iload_n hx hb d_X_look_62 rfl (lv_at hl 3 rfl) ?_
        refine lv_iconst (v := 1) hx hb d_X_look_63 (by decide) ?_
        refine lv_icmp_gt (tgt := 72) hx hb d_X_look_64 (by decide) (fun c_4 => ?_) (fun c_4 => ?_)
        · refine lv_aload_n hx hb d_X_look_72 rfl (lv_at hl 1 rfl) ?_
          refine z_get (v := .ref (a 10)) E hK G.1 i_X 0 2 rfl rfl (by decide) kf_X_28 rfl d_X_look_73 ?_
          refine lv_iload_n hx hb d_X_look_76 rfl (lv_at hl 2 rfl) ?_
          refine lv_iconst (v := 0) hx hb d_X_look_77 (by decide) ?_
          refine lv_iconst (v := (-1)) hx hb d_X_look_78 (by decide) ?_
          refine z_wv (As := [.int unit, .int 0, .int (-1)]) (rest := []) (wr := ([0, 1, 2, 3, 4, 5, 6, 7, 8, 9, 15, 16, 17, 18, 19, 20, 21] : List Nat).filterMap (fun i => (wX a cI nw (nI k) (nI n) (nI c) Z P (f_H_setCondition U unit condition) V)[i]?)) (ws' := wX a cI nw (nI k) (nI n) (nI c) Z P (f_H_put (f_H_setCondition U unit condition) unit 0 (-1)) V) E hN hK hA G hl.1 (c_H_put l D cI (fun j => a (10 + j)) (f_H_setCondition U unit condition) unit 0 (-1) ) [10, 11, 12, 13, 14] [0, 1, 2, 3, 4, 5, 6, 7, 8, 9, 15, 16, 17, 18, 19, 20, 21] [0, 1, 2, 3, 4, 5, 6, 7, 8, 9, 17, 18, 19, 20, 21, 10, 11, 12, 13, 14, 15, 16] rfl rfl rfl rfl rfl rfl (by decide) 0 rfl rfl kz_X_110 rfl ⟨Nat.le_of_ble_eq_true rfl, Nat.le_of_ble_eq_true rfl⟩ rfl (Nat.le_of_ble_eq_true rfl) ⟨Nat.zero_le _, Nat.zero_le _⟩ d_X_look_79 (fun H locs G => ?_)
          refine W.eq (g2 := F0 m 82 ls []) rfl ?_
          refine lv_sipush (v := 1000) hx hb d_X_look_82 (by decide) ?_
          have hf : f_X_look nw n c Z P U V unit condition = (1000, nw, nI n, nI c, Z, P, (f_H_put (f_H_setCondition U unit condition) unit 0 (-1)), V) := by unfold f_X_look; rw [if_neg c_1, if_neg c_2, if_pos c_3, if_pos c_4]
          exact zW.iret E hrt hlk G (by rw [hf]) (by rw [hf]) d_X_look_85
        · refine lv_iload_n hx hb d_X_look_67 rfl (lv_at hl 0 rfl) ?_
          refine lv_iconst (v := (-1)) hx hb d_X_look_68 (by decide) ?_
          refine lv_icmp_ne (tgt := 86) hx hb d_X_look_69 (by decide) (fun c_5 => ?_) (fun c_5 => ?_)
          · refine lv_aload_n hx hb d_X_look_86 rfl (lv_at hl 1 rfl) ?_
            refine lv_iload_n hx hb d_X_look_87 rfl (lv_at hl 2 rfl) ?_
            refine lv_iload_n hx hb d_X_look_88 rfl (lv_at hl 0 rfl) ?_
            refine z_wv (As := [.int unit, .int (f_Q_openOf c V unit 0)]) (rest := []) (wr := ([] : List Nat).filterMap (fun i => (wX a cI nw (nI k) (nI n) (nI c) Z P (f_H_setCondition U unit condition) V)[i]?)) (ws' := wX a cI nw (nI k) (nI n) (nI c) Z P ((f_X_sendFor c (f_H_setCondition U unit condition) V unit (f_Q_openOf c V unit 0)).1) ((f_X_sendFor c (f_H_setCondition U unit condition) V unit (f_Q_openOf c V unit 0)).2)) E hN hK hA G hl.1 (c_X_sendFor l D cI a nw k n c Z P (f_H_setCondition U unit condition) V unit (f_Q_openOf c V unit 0) hk hn hc) [0, 1, 2, 3, 4, 5, 6, 7, 8, 9, 10, 11, 12, 13, 14, 15, 16, 17, 18, 19, 20, 21] [] [0, 1, 2, 3, 4, 5, 6, 7, 8, 9, 10, 11, 12, 13, 14, 15, 16, 17, 18, 19, 20, 21] rfl rfl rfl rfl rfl rfl (by decide) 0 rfl rfl kz_X_100 rfl ⟨Nat.le_of_ble_eq_true rfl, Nat.le_of_ble_eq_true rfl⟩ rfl (Nat.le_of_ble_eq_true rfl) ⟨Nat.zero_le _, Nat.zero_le _⟩ d_X_look_89 (fun H locs G => ?_)
            refine W.eq (g2 := F0 m 92 ls []) rfl ?_
            refine lv_iload_n hx hb d_X_look_92 rfl (lv_at hl 0 rfl) ?_
            have hf : f_X_look nw n c Z P U V unit condition = (f_Q_openOf c V unit 0, nw, nI n, nI c, Z, P, (f_X_sendFor c (f_H_setCondition U unit condition) V unit (f_Q_openOf c V unit 0)).1, (f_X_sendFor c (f_H_setCondition U unit condition) V unit (f_Q_openOf c V unit 0)).2) := by unfold f_X_look; rw [if_neg c_1, if_neg c_2, if_pos c_3, if_neg c_4, if_neg c_5]
            exact zW.iret E hrt hlk G (by rw [hf]) (by rw [hf]) d_X_look_93
          · refine lv_aload_n hx hb d_X_look_72 rfl (lv_at hl 1 rfl) ?_
            refine z_get (v := .ref (a 10)) E hK G.1 i_X 0 2 rfl rfl (by decide) kf_X_28 rfl d_X_look_73 ?_
            refine lv_iload_n hx hb d_X_look_76 rfl (lv_at hl 2 rfl) ?_
            refine lv_iconst (v := 0) hx hb d_X_look_77 (by decide) ?_
            refine lv_iconst (v := (-1)) hx hb d_X_look_78 (by decide) ?_
            refine z_wv (As := [.int unit, .int 0, .int (-1)]) (rest := []) (wr := ([0, 1, 2, 3, 4, 5, 6, 7, 8, 9, 15, 16, 17, 18, 19, 20, 21] : List Nat).filterMap (fun i => (wX a cI nw (nI k) (nI n) (nI c) Z P (f_H_setCondition U unit condition) V)[i]?)) (ws' := wX a cI nw (nI k) (nI n) (nI c) Z P (f_H_put (f_H_setCondition U unit condition) unit 0 (-1)) V) E hN hK hA G hl.1 (c_H_put l D cI (fun j => a (10 + j)) (f_H_setCondition U unit condition) unit 0 (-1) ) [10, 11, 12, 13, 14] [0, 1, 2, 3, 4, 5, 6, 7, 8, 9, 15, 16, 17, 18, 19, 20, 21] [0, 1, 2, 3, 4, 5, 6, 7, 8, 9, 17, 18, 19, 20, 21, 10, 11, 12, 13, 14, 15, 16] rfl rfl rfl rfl rfl rfl (by decide) 0 rfl rfl kz_X_110 rfl ⟨Nat.le_of_ble_eq_true rfl, Nat.le_of_ble_eq_true rfl⟩ rfl (Nat.le_of_ble_eq_true rfl) ⟨Nat.zero_le _, Nat.zero_le _⟩ d_X_look_79 (fun H locs G => ?_)
            refine W.eq (g2 := F0 m 82 ls []) rfl ?_
            refine lv_sipush (v := 1000) hx hb d_X_look_82 (by decide) ?_
            have hf : f_X_look nw n c Z P U V unit condition = (1000, nw, nI n, nI c, Z, P, (f_H_put (f_H_setCondition U unit condition) unit 0 (-1)), V) := by unfold f_X_look; rw [if_neg c_1, if_neg c_2, if_pos c_3, if_neg c_4, if_pos c_5]
            exact zW.iret E hrt hlk G (by rw [hf]) (by rw [hf]) d_X_look_85
      · refine lv_bipush (v := (-3)) hx hb d_X_look_40 (by decide) ?_
        have hf : f_X_look nw n c Z P U V unit condition = ((-3), nw, nI n, nI c, Z, P, U, V) := by unfold f_X_look; rw [if_neg c_1, if_neg c_2, if_neg c_3]
        exact zW.iret E hrt hlk G (by rw [hf]) (by rw [hf]) d_X_look_42
    · refine lv_bipush (v := (-2)) hx hb d_X_look_25 (by decide) ?_
      have hf : f_X_look nw n c Z P U V unit condition = ((-2), nw, nI n, nI c, Z, P, U, V) := by unfold f_X_look; rw [if_neg c_1, if_pos c_2]
      exact zW.iret E hrt hlk G (by rw [hf]) (by rw [hf]) d_X_look_27
  · refine lv_iconst (v := (-1)) hx hb d_X_look_7 (by decide) ?_
    have hf : f_X_look nw n c Z P U V unit condition = ((-1), nw, nI n, nI c, Z, P, U, V) := by unfold f_X_look; rw [if_pos c_1]
    exact zW.iret E hrt hlk G (by rw [hf]) (by rw [hf]) d_X_look_8
def f_X_mend (nw : Int32) (n : Nat) (c : Nat) (Z : Nat → Nat → Int32) (P : Nat → Nat → Int32) (U : Nat → Nat → Int32) (V : Nat → Nat → Int32) (unit : Int32) : Int32 × Int32 × Int32 × Int32 × (Nat → Nat → Int32) × (Nat → Nat → Int32) × (Nat → Nat → Int32) × (Nat → Nat → Int32) := (if (f_isUnit unit) = 0 then ((-1), nw, nI n, nI c, Z, P, U, V) else (if (f_H_placeOf U unit) = 0 then (1, nw, nI n, nI c, Z, P, (f_H_setCondition U unit 0), V) else ((-3), nw, nI n, nI c, Z, P, U, V)))
set_option maxHeartbeats 4000000 in
set_option maxRecDepth 100000 in
theorem c_X_mend (l : Launch) (D : va_G) (cI : ClassId) (a : Nat → Nat) (nw : Int32) (k : Nat) (n : Nat) (c : Nat) (Z : Nat → Nat → Int32) (P : Nat → Nat → Int32) (U : Nat → Nat → Int32) (V : Nat → Nat → Int32) (unit : Int32) (hk : k ≤ 20) (hn : n ≤ 60) (hc : c ≤ 300) : zW l D [(cI, .int)] y_X_mend b_X_mend 2 (some .int) 3 64 [.ref (a 0), .int unit] (wX a cI nw (nI k) (nI n) (nI c) Z P U V) (wX a cI ((f_X_mend nw n c Z P U V unit).2.1) (nI k) ((f_X_mend nw n c Z P U V unit).2.2.1) ((f_X_mend nw n c Z P U V unit).2.2.2.1) ((f_X_mend nw n c Z P U V unit).2.2.2.2.1) ((f_X_mend nw n c Z P U V unit).2.2.2.2.2.1) ((f_X_mend nw n c Z P U V unit).2.2.2.2.2.2.1) ((f_X_mend nw n c Z P U V unit).2.2.2.2.2.2.2)) (some (.int (f_X_mend nw n c Z P U V unit).1)) := by
  refine zW.of (by decide) (Nat.le_of_ble_eq_true rfl) ?_
  intro p e s m below meth c0 ls A E hrt hlk hN hK hA G hl
  have hx := E.1
  have hb := E.2.1
  have hl : lv_has ls 2 [(0, .ref (a 0)), (1, .int unit)] := hl
  refine lv_iload_n hx hb d_X_mend_0 rfl (lv_at hl 1 rfl) ?_
  refine z_rs (As := [.int unit]) (rest := []) E hN hK hl.1 (c_isUnit l D [(cI, .int)] unit) kz_X_60 rfl ⟨Nat.le_of_ble_eq_true rfl, Nat.le_of_ble_eq_true rfl⟩ rfl (Nat.le_of_ble_eq_true rfl) ⟨Nat.zero_le _, Nat.zero_le _⟩ d_X_mend_1 ?_
  refine lv_if_ne (tgt := 9) hx hb d_X_mend_4 (by decide) (fun c_1 => ?_) (fun c_1 => ?_)
  · refine lv_aload_n hx hb d_X_mend_9 rfl (lv_at hl 0 rfl) ?_
    refine z_get (v := .ref (a 10)) E hK G.1 i_X 0 2 rfl rfl (by decide) kf_X_28 rfl d_X_mend_10 ?_
    refine lv_iload_n hx hb d_X_mend_13 rfl (lv_at hl 1 rfl) ?_
    refine z_rv (As := [.int unit]) (rest := []) E hN hK G.1 hl.1 (c_H_placeOf l D cI (fun j => a (10 + j)) U unit ) [10, 11, 12, 13, 14] rfl 0 rfl rfl kz_X_94 rfl ⟨Nat.le_of_ble_eq_true rfl, Nat.le_of_ble_eq_true rfl⟩ rfl (Nat.le_of_ble_eq_true rfl) ⟨Nat.zero_le _, Nat.zero_le _⟩ d_X_mend_14 ?_
    refine lv_if_eq (tgt := 23) hx hb d_X_mend_17 (by decide) (fun c_2 => ?_) (fun c_2 => ?_)
    · refine lv_aload_n hx hb d_X_mend_23 rfl (lv_at hl 0 rfl) ?_
      refine z_get (v := .ref (a 10)) E hK G.1 i_X 0 2 rfl rfl (by decide) kf_X_28 rfl d_X_mend_24 ?_
      refine lv_iload_n hx hb d_X_mend_27 rfl (lv_at hl 1 rfl) ?_
      refine lv_iconst (v := 0) hx hb d_X_mend_28 (by decide) ?_
      refine z_wv (As := [.int unit, .int 0]) (rest := []) (wr := ([0, 1, 2, 3, 4, 5, 6, 7, 8, 9, 15, 16, 17, 18, 19, 20, 21] : List Nat).filterMap (fun i => (wX a cI nw (nI k) (nI n) (nI c) Z P U V)[i]?)) (ws' := wX a cI nw (nI k) (nI n) (nI c) Z P (f_H_setCondition U unit 0) V) E hN hK hA G hl.1 (c_H_setCondition l D cI (fun j => a (10 + j)) U unit 0 ) [10, 11, 12, 13, 14] [0, 1, 2, 3, 4, 5, 6, 7, 8, 9, 15, 16, 17, 18, 19, 20, 21] [0, 1, 2, 3, 4, 5, 6, 7, 8, 9, 17, 18, 19, 20, 21, 10, 11, 12, 13, 14, 15, 16] rfl rfl rfl rfl rfl rfl (by decide) 0 rfl rfl kz_X_124 rfl ⟨Nat.le_of_ble_eq_true rfl, Nat.le_of_ble_eq_true rfl⟩ rfl (Nat.le_of_ble_eq_true rfl) ⟨Nat.zero_le _, Nat.zero_le _⟩ d_X_mend_29 (fun H locs G => ?_)
      refine W.eq (g2 := F0 m 32 ls []) rfl ?_
      refine lv_iconst (v := 1) hx hb d_X_mend_32 (by decide) ?_
      have hf : f_X_mend nw n c Z P U V unit = (1, nw, nI n, nI c, Z, P, (f_H_setCondition U unit 0), V) := by unfold f_X_mend; rw [if_neg c_1, if_pos c_2]
      exact zW.iret E hrt hlk G (by rw [hf]) (by rw [hf]) d_X_mend_33
    · refine lv_bipush (v := (-3)) hx hb d_X_mend_20 (by decide) ?_
      have hf : f_X_mend nw n c Z P U V unit = ((-3), nw, nI n, nI c, Z, P, U, V) := by unfold f_X_mend; rw [if_neg c_1, if_neg c_2]
      exact zW.iret E hrt hlk G (by rw [hf]) (by rw [hf]) d_X_mend_22
  · refine lv_iconst (v := (-1)) hx hb d_X_mend_7 (by decide) ?_
    have hf : f_X_mend nw n c Z P U V unit = ((-1), nw, nI n, nI c, Z, P, U, V) := by unfold f_X_mend; rw [if_pos c_1]
    exact zW.iret E hrt hlk G (by rw [hf]) (by rw [hf]) d_X_mend_8
def f_X_restrict (nw : Int32) (n : Nat) (c : Nat) (Z : Nat → Nat → Int32) (P : Nat → Nat → Int32) (U : Nat → Nat → Int32) (V : Nat → Nat → Int32) (unit : Int32) (restriction : Int32) : Int32 × Int32 × Int32 × Int32 × (Nat → Nat → Int32) × (Nat → Nat → Int32) × (Nat → Nat → Int32) × (Nat → Nat → Int32) := (if (f_isUnit unit) = 0 then ((-1), nw, nI n, nI c, Z, P, U, V) else (if (f_isWithin restriction 0 3) = 0 then ((-2), nw, nI n, nI c, Z, P, U, V) else ((f_X_withdrawFromLowRights c P (f_H_setRestriction U unit restriction) V unit).1, nw, nI n, nI c, Z, P, (f_H_setRestriction U unit restriction), (f_X_withdrawFromLowRights c P (f_H_setRestriction U unit restriction) V unit).2)))
set_option maxHeartbeats 4000000 in
set_option maxRecDepth 100000 in
theorem c_X_restrict (l : Launch) (D : va_G) (cI : ClassId) (a : Nat → Nat) (nw : Int32) (k : Nat) (n : Nat) (c : Nat) (Z : Nat → Nat → Int32) (P : Nat → Nat → Int32) (U : Nat → Nat → Int32) (V : Nat → Nat → Int32) (unit : Int32) (restriction : Int32) (hk : k ≤ 20) (hn : n ≤ 60) (hc : c ≤ 300) : zW l D [(cI, .int)] y_X_restrict b_X_restrict 3 (some .int) 5 108 [.ref (a 0), .int unit, .int restriction] (wX a cI nw (nI k) (nI n) (nI c) Z P U V) (wX a cI ((f_X_restrict nw n c Z P U V unit restriction).2.1) (nI k) ((f_X_restrict nw n c Z P U V unit restriction).2.2.1) ((f_X_restrict nw n c Z P U V unit restriction).2.2.2.1) ((f_X_restrict nw n c Z P U V unit restriction).2.2.2.2.1) ((f_X_restrict nw n c Z P U V unit restriction).2.2.2.2.2.1) ((f_X_restrict nw n c Z P U V unit restriction).2.2.2.2.2.2.1) ((f_X_restrict nw n c Z P U V unit restriction).2.2.2.2.2.2.2)) (some (.int (f_X_restrict nw n c Z P U V unit restriction).1)) := by
  refine zW.of (by decide) (Nat.le_of_ble_eq_true rfl) ?_
  intro p e s m below meth c0 ls A E hrt hlk hN hK hA G hl
  have hx := E.1
  have hb := E.2.1
  have hl : lv_has ls 3 [(0, .ref (a 0)), (1, .int unit), (2, .int restriction)] := hl
  refine lv_iload_n hx hb d_X_restrict_0 rfl (lv_at hl 1 rfl) ?_
  refine z_rs (As := [.int unit]) (rest := []) E hN hK hl.1 (c_isUnit l D [(cI, .int)] unit) kz_X_60 rfl ⟨Nat.le_of_ble_eq_true rfl, Nat.le_of_ble_eq_true rfl⟩ rfl (Nat.le_of_ble_eq_true rfl) ⟨Nat.zero_le _, Nat.zero_le _⟩ d_X_restrict_1 ?_
  refine lv_if_ne (tgt := 9) hx hb d_X_restrict_4 (by decide) (fun c_1 => ?_) (fun c_1 => ?_)
  · refine lv_iload_n hx hb d_X_restrict_9 rfl (lv_at hl 2 rfl) ?_
    refine lv_iconst (v := 0) hx hb d_X_restrict_10 (by decide) ?_
    refine lv_iconst (v := 3) hx hb d_X_restrict_11 (by decide) ?_
    refine z_rs (As := [.int restriction, .int 0, .int 3]) (rest := []) E hN hK hl.1 (c_isWithin l D [(cI, .int)] restriction 0 3) kz_X_120 rfl ⟨Nat.le_of_ble_eq_true rfl, Nat.le_of_ble_eq_true rfl⟩ rfl (Nat.le_of_ble_eq_true rfl) ⟨Nat.zero_le _, Nat.zero_le _⟩ d_X_restrict_12 ?_
    refine lv_if_ne (tgt := 21) hx hb d_X_restrict_15 (by decide) (fun c_2 => ?_) (fun c_2 => ?_)
    · refine lv_aload_n hx hb d_X_restrict_21 rfl (lv_at hl 0 rfl) ?_
      refine z_get (v := .ref (a 10)) E hK G.1 i_X 0 2 rfl rfl (by decide) kf_X_28 rfl d_X_restrict_22 ?_
      refine lv_iload_n hx hb d_X_restrict_25 rfl (lv_at hl 1 rfl) ?_
      refine lv_iload_n hx hb d_X_restrict_26 rfl (lv_at hl 2 rfl) ?_
      refine z_wv (As := [.int unit, .int restriction]) (rest := []) (wr := ([0, 1, 2, 3, 4, 5, 6, 7, 8, 9, 15, 16, 17, 18, 19, 20, 21] : List Nat).filterMap (fun i => (wX a cI nw (nI k) (nI n) (nI c) Z P U V)[i]?)) (ws' := wX a cI nw (nI k) (nI n) (nI c) Z P (f_H_setRestriction U unit restriction) V) E hN hK hA G hl.1 (c_H_setRestriction l D cI (fun j => a (10 + j)) U unit restriction ) [10, 11, 12, 13, 14] [0, 1, 2, 3, 4, 5, 6, 7, 8, 9, 15, 16, 17, 18, 19, 20, 21] [0, 1, 2, 3, 4, 5, 6, 7, 8, 9, 17, 18, 19, 20, 21, 10, 11, 12, 13, 14, 15, 16] rfl rfl rfl rfl rfl rfl (by decide) 0 rfl rfl kz_X_127 rfl ⟨Nat.le_of_ble_eq_true rfl, Nat.le_of_ble_eq_true rfl⟩ rfl (Nat.le_of_ble_eq_true rfl) ⟨Nat.zero_le _, Nat.zero_le _⟩ d_X_restrict_27 (fun H locs G => ?_)
      refine W.eq (g2 := F0 m 30 ls []) rfl ?_
      refine lv_aload_n hx hb d_X_restrict_30 rfl (lv_at hl 0 rfl) ?_
      refine lv_iload_n hx hb d_X_restrict_31 rfl (lv_at hl 1 rfl) ?_
      refine z_wv (As := [.int unit]) (rest := []) (wr := ([] : List Nat).filterMap (fun i => (wX a cI nw (nI k) (nI n) (nI c) Z P (f_H_setRestriction U unit restriction) V)[i]?)) (ws' := wX a cI nw (nI k) (nI n) (nI c) Z P (f_H_setRestriction U unit restriction) ((f_X_withdrawFromLowRights c P (f_H_setRestriction U unit restriction) V unit).2)) E hN hK hA G hl.1 (c_X_withdrawFromLowRights l D cI a nw k n c Z P (f_H_setRestriction U unit restriction) V unit hk hn hc) [0, 1, 2, 3, 4, 5, 6, 7, 8, 9, 10, 11, 12, 13, 14, 15, 16, 17, 18, 19, 20, 21] [] [0, 1, 2, 3, 4, 5, 6, 7, 8, 9, 10, 11, 12, 13, 14, 15, 16, 17, 18, 19, 20, 21] rfl rfl rfl rfl rfl rfl (by decide) 0 rfl rfl kz_X_130 rfl ⟨Nat.le_of_ble_eq_true rfl, Nat.le_of_ble_eq_true rfl⟩ rfl (Nat.le_of_ble_eq_true rfl) ⟨Nat.zero_le _, Nat.zero_le _⟩ d_X_restrict_32 (fun H locs G => ?_)
      refine W.eq (g2 := F0 m 35 ls [.int ((f_X_withdrawFromLowRights c P (f_H_setRestriction U unit restriction) V unit).1)]) rfl ?_
      have hf : f_X_restrict nw n c Z P U V unit restriction = ((f_X_withdrawFromLowRights c P (f_H_setRestriction U unit restriction) V unit).1, nw, nI n, nI c, Z, P, (f_H_setRestriction U unit restriction), (f_X_withdrawFromLowRights c P (f_H_setRestriction U unit restriction) V unit).2) := by unfold f_X_restrict; rw [if_neg c_1, if_neg c_2]
      exact zW.iret E hrt hlk G (by rw [hf]) (by rw [hf]) d_X_restrict_35
    · refine lv_bipush (v := (-2)) hx hb d_X_restrict_18 (by decide) ?_
      have hf : f_X_restrict nw n c Z P U V unit restriction = ((-2), nw, nI n, nI c, Z, P, U, V) := by unfold f_X_restrict; rw [if_neg c_1, if_pos c_2]
      exact zW.iret E hrt hlk G (by rw [hf]) (by rw [hf]) d_X_restrict_20
  · refine lv_iconst (v := (-1)) hx hb d_X_restrict_7 (by decide) ?_
    have hf : f_X_restrict nw n c Z P U V unit restriction = ((-1), nw, nI n, nI c, Z, P, U, V) := by unfold f_X_restrict; rw [if_pos c_1]
    exact zW.iret E hrt hlk G (by rw [hf]) (by rw [hf]) d_X_restrict_8
def f_X_right (nw : Int32) (n : Nat) (c : Nat) (Z : Nat → Nat → Int32) (P : Nat → Nat → Int32) (U : Nat → Nat → Int32) (V : Nat → Nat → Int32) (person : Int32) (right : Int32) : Int32 × Int32 × Int32 × Int32 × (Nat → Nat → Int32) × (Nat → Nat → Int32) × (Nat → Nat → Int32) × (Nat → Nat → Int32) := (if (f_isPerson person) = 0 then ((-1), nw, nI n, nI c, Z, P, U, V) else (if (f_isWithin right 0 3) = 0 then ((-2), nw, nI n, nI c, Z, P, U, V) else (1, nw, nI n, nI c, Z, (f_R_setRight P person right), U, V)))
set_option maxHeartbeats 4000000 in
set_option maxRecDepth 100000 in
theorem c_X_right (l : Launch) (D : va_G) (cI : ClassId) (a : Nat → Nat) (nw : Int32) (k : Nat) (n : Nat) (c : Nat) (Z : Nat → Nat → Int32) (P : Nat → Nat → Int32) (U : Nat → Nat → Int32) (V : Nat → Nat → Int32) (person : Int32) (right : Int32) (hk : k ≤ 20) (hn : n ≤ 60) (hc : c ≤ 300) : zW l D [(cI, .int)] y_X_right b_X_right 3 (some .int) 3 64 [.ref (a 0), .int person, .int right] (wX a cI nw (nI k) (nI n) (nI c) Z P U V) (wX a cI ((f_X_right nw n c Z P U V person right).2.1) (nI k) ((f_X_right nw n c Z P U V person right).2.2.1) ((f_X_right nw n c Z P U V person right).2.2.2.1) ((f_X_right nw n c Z P U V person right).2.2.2.2.1) ((f_X_right nw n c Z P U V person right).2.2.2.2.2.1) ((f_X_right nw n c Z P U V person right).2.2.2.2.2.2.1) ((f_X_right nw n c Z P U V person right).2.2.2.2.2.2.2)) (some (.int (f_X_right nw n c Z P U V person right).1)) := by
  refine zW.of (by decide) (Nat.le_of_ble_eq_true rfl) ?_
  intro p e s m below meth c0 ls A E hrt hlk hN hK hA G hl
  have hx := E.1
  have hb := E.2.1
  have hl : lv_has ls 3 [(0, .ref (a 0)), (1, .int person), (2, .int right)] := hl
  refine lv_iload_n hx hb d_X_right_0 rfl (lv_at hl 1 rfl) ?_
  refine z_rs (As := [.int person]) (rest := []) E hN hK hl.1 (c_isPerson l D [(cI, .int)] person) kz_X_43 rfl ⟨Nat.le_of_ble_eq_true rfl, Nat.le_of_ble_eq_true rfl⟩ rfl (Nat.le_of_ble_eq_true rfl) ⟨Nat.zero_le _, Nat.zero_le _⟩ d_X_right_1 ?_
  refine lv_if_ne (tgt := 9) hx hb d_X_right_4 (by decide) (fun c_1 => ?_) (fun c_1 => ?_)
  · refine lv_iload_n hx hb d_X_right_9 rfl (lv_at hl 2 rfl) ?_
    refine lv_iconst (v := 0) hx hb d_X_right_10 (by decide) ?_
    refine lv_iconst (v := 3) hx hb d_X_right_11 (by decide) ?_
    refine z_rs (As := [.int right, .int 0, .int 3]) (rest := []) E hN hK hl.1 (c_isWithin l D [(cI, .int)] right 0 3) kz_X_120 rfl ⟨Nat.le_of_ble_eq_true rfl, Nat.le_of_ble_eq_true rfl⟩ rfl (Nat.le_of_ble_eq_true rfl) ⟨Nat.zero_le _, Nat.zero_le _⟩ d_X_right_12 ?_
    refine lv_if_ne (tgt := 21) hx hb d_X_right_15 (by decide) (fun c_2 => ?_) (fun c_2 => ?_)
    · refine lv_aload_n hx hb d_X_right_21 rfl (lv_at hl 0 rfl) ?_
      refine z_get (v := .ref (a 4)) E hK G.1 i_X 0 1 rfl rfl (by decide) kf_X_21 rfl d_X_right_22 ?_
      refine lv_iload_n hx hb d_X_right_25 rfl (lv_at hl 1 rfl) ?_
      refine lv_iload_n hx hb d_X_right_26 rfl (lv_at hl 2 rfl) ?_
      refine z_wv (As := [.int person, .int right]) (rest := []) (wr := ([0, 1, 2, 3, 10, 11, 12, 13, 14, 15, 16, 17, 18, 19, 20, 21] : List Nat).filterMap (fun i => (wX a cI nw (nI k) (nI n) (nI c) Z P U V)[i]?)) (ws' := wX a cI nw (nI k) (nI n) (nI c) Z (f_R_setRight P person right) U V) E hN hK hA G hl.1 (c_R_setRight l D cI (fun j => a (4 + j)) P person right ) [4, 5, 6, 7, 8, 9] [0, 1, 2, 3, 10, 11, 12, 13, 14, 15, 16, 17, 18, 19, 20, 21] [0, 1, 2, 3, 16, 17, 18, 19, 20, 21, 4, 5, 6, 7, 8, 9, 10, 11, 12, 13, 14, 15] rfl rfl rfl rfl rfl rfl (by decide) 0 rfl rfl kz_X_133 rfl ⟨Nat.le_of_ble_eq_true rfl, Nat.le_of_ble_eq_true rfl⟩ rfl (Nat.le_of_ble_eq_true rfl) ⟨Nat.zero_le _, Nat.zero_le _⟩ d_X_right_27 (fun H locs G => ?_)
      refine W.eq (g2 := F0 m 30 ls []) rfl ?_
      refine lv_iconst (v := 1) hx hb d_X_right_30 (by decide) ?_
      have hf : f_X_right nw n c Z P U V person right = (1, nw, nI n, nI c, Z, (f_R_setRight P person right), U, V) := by unfold f_X_right; rw [if_neg c_1, if_neg c_2]
      exact zW.iret E hrt hlk G (by rw [hf]) (by rw [hf]) d_X_right_31
    · refine lv_bipush (v := (-2)) hx hb d_X_right_18 (by decide) ?_
      have hf : f_X_right nw n c Z P U V person right = ((-2), nw, nI n, nI c, Z, P, U, V) := by unfold f_X_right; rw [if_neg c_1, if_pos c_2]
      exact zW.iret E hrt hlk G (by rw [hf]) (by rw [hf]) d_X_right_20
  · refine lv_iconst (v := (-1)) hx hb d_X_right_7 (by decide) ?_
    have hf : f_X_right nw n c Z P U V person right = ((-1), nw, nI n, nI c, Z, P, U, V) := by unfold f_X_right; rw [if_pos c_1]
    exact zW.iret E hrt hlk G (by rw [hf]) (by rw [hf]) d_X_right_8
def f_X_limit (nw : Int32) (n : Nat) (c : Nat) (Z : Nat → Nat → Int32) (P : Nat → Nat → Int32) (U : Nat → Nat → Int32) (V : Nat → Nat → Int32) (person : Int32) (requests : Int32) (pages : Int32) : Int32 × Int32 × Int32 × Int32 × (Nat → Nat → Int32) × (Nat → Nat → Int32) × (Nat → Nat → Int32) × (Nat → Nat → Int32) := (if (f_isPerson person) = 0 then ((-1), nw, nI n, nI c, Z, P, U, V) else (if (f_isWithin requests 0 9) = 0 then ((-2), nw, nI n, nI c, Z, P, U, V) else (if (f_isWithin pages 0 500) = 0 then ((-2), nw, nI n, nI c, Z, P, U, V) else (1, nw, nI n, nI c, Z, (f_R_setLimits P person requests pages), U, V))))
set_option maxHeartbeats 4000000 in
set_option maxRecDepth 100000 in
theorem c_X_limit (l : Launch) (D : va_G) (cI : ClassId) (a : Nat → Nat) (nw : Int32) (k : Nat) (n : Nat) (c : Nat) (Z : Nat → Nat → Int32) (P : Nat → Nat → Int32) (U : Nat → Nat → Int32) (V : Nat → Nat → Int32) (person : Int32) (requests : Int32) (pages : Int32) (hk : k ≤ 20) (hn : n ≤ 60) (hc : c ≤ 300) : zW l D [(cI, .int)] y_X_limit b_X_limit 4 (some .int) 3 65 [.ref (a 0), .int person, .int requests, .int pages] (wX a cI nw (nI k) (nI n) (nI c) Z P U V) (wX a cI ((f_X_limit nw n c Z P U V person requests pages).2.1) (nI k) ((f_X_limit nw n c Z P U V person requests pages).2.2.1) ((f_X_limit nw n c Z P U V person requests pages).2.2.2.1) ((f_X_limit nw n c Z P U V person requests pages).2.2.2.2.1) ((f_X_limit nw n c Z P U V person requests pages).2.2.2.2.2.1) ((f_X_limit nw n c Z P U V person requests pages).2.2.2.2.2.2.1) ((f_X_limit nw n c Z P U V person requests pages).2.2.2.2.2.2.2)) (some (.int (f_X_limit nw n c Z P U V person requests pages).1)) := by
  refine zW.of (by decide) (Nat.le_of_ble_eq_true rfl) ?_
  intro p e s m below meth c0 ls A E hrt hlk hN hK hA G hl
  have hx := E.1
  have hb := E.2.1
  have hl : lv_has ls 4 [(0, .ref (a 0)), (1, .int person), (2, .int requests), (3, .int pages)] := hl
  refine lv_iload_n hx hb d_X_limit_0 rfl (lv_at hl 1 rfl) ?_
  refine z_rs (As := [.int person]) (rest := []) E hN hK hl.1 (c_isPerson l D [(cI, .int)] person) kz_X_43 rfl ⟨Nat.le_of_ble_eq_true rfl, Nat.le_of_ble_eq_true rfl⟩ rfl (Nat.le_of_ble_eq_true rfl) ⟨Nat.zero_le _, Nat.zero_le _⟩ d_X_limit_1 ?_
  refine lv_if_ne (tgt := 9) hx hb d_X_limit_4 (by decide) (fun c_1 => ?_) (fun c_1 => ?_)
  · refine lv_iload_n hx hb d_X_limit_9 rfl (lv_at hl 2 rfl) ?_
    refine lv_iconst (v := 0) hx hb d_X_limit_10 (by decide) ?_
    refine lv_bipush (v := 9) hx hb d_X_limit_11 (by decide) ?_
    refine z_rs (As := [.int requests, .int 0, .int 9]) (rest := []) E hN hK hl.1 (c_isWithin l D [(cI, .int)] requests 0 9) kz_X_120 rfl ⟨Nat.le_of_ble_eq_true rfl, Nat.le_of_ble_eq_true rfl⟩ rfl (Nat.le_of_ble_eq_true rfl) ⟨Nat.zero_le _, Nat.zero_le _⟩ d_X_limit_13 ?_
    refine lv_if_eq (tgt := 30) hx hb d_X_limit_16 (by decide) (fun c_2 => ?_) (fun c_2 => ?_)
    · refine lv_bipush (v := (-2)) hx hb d_X_limit_30 (by decide) ?_
      have hf : f_X_limit nw n c Z P U V person requests pages = ((-2), nw, nI n, nI c, Z, P, U, V) := by unfold f_X_limit; rw [if_neg c_1, if_pos c_2]
      exact zW.iret E hrt hlk G (by rw [hf]) (by rw [hf]) d_X_limit_32
    · refine lv_iload_n hx hb d_X_limit_19 rfl (lv_at hl 3 rfl) ?_
      refine lv_iconst (v := 0) hx hb d_X_limit_20 (by decide) ?_
      refine lv_sipush (v := 500) hx hb d_X_limit_21 (by decide) ?_
      refine z_rs (As := [.int pages, .int 0, .int 500]) (rest := []) E hN hK hl.1 (c_isWithin l D [(cI, .int)] pages 0 500) kz_X_120 rfl ⟨Nat.le_of_ble_eq_true rfl, Nat.le_of_ble_eq_true rfl⟩ rfl (Nat.le_of_ble_eq_true rfl) ⟨Nat.zero_le _, Nat.zero_le _⟩ d_X_limit_24 ?_
      refine lv_if_ne (tgt := 33) hx hb d_X_limit_27 (by decide) (fun c_3 => ?_) (fun c_3 => ?_)
      · refine lv_aload_n hx hb d_X_limit_33 rfl (lv_at hl 0 rfl) ?_
        refine z_get (v := .ref (a 4)) E hK G.1 i_X 0 1 rfl rfl (by decide) kf_X_21 rfl d_X_limit_34 ?_
        refine lv_iload_n hx hb d_X_limit_37 rfl (lv_at hl 1 rfl) ?_
        refine lv_iload_n hx hb d_X_limit_38 rfl (lv_at hl 2 rfl) ?_
        refine lv_iload_n hx hb d_X_limit_39 rfl (lv_at hl 3 rfl) ?_
        refine z_wv (As := [.int person, .int requests, .int pages]) (rest := []) (wr := ([0, 1, 2, 3, 10, 11, 12, 13, 14, 15, 16, 17, 18, 19, 20, 21] : List Nat).filterMap (fun i => (wX a cI nw (nI k) (nI n) (nI c) Z P U V)[i]?)) (ws' := wX a cI nw (nI k) (nI n) (nI c) Z (f_R_setLimits P person requests pages) U V) E hN hK hA G hl.1 (c_R_setLimits l D cI (fun j => a (4 + j)) P person requests pages ) [4, 5, 6, 7, 8, 9] [0, 1, 2, 3, 10, 11, 12, 13, 14, 15, 16, 17, 18, 19, 20, 21] [0, 1, 2, 3, 16, 17, 18, 19, 20, 21, 4, 5, 6, 7, 8, 9, 10, 11, 12, 13, 14, 15] rfl rfl rfl rfl rfl rfl (by decide) 0 rfl rfl kz_X_136 rfl ⟨Nat.le_of_ble_eq_true rfl, Nat.le_of_ble_eq_true rfl⟩ rfl (Nat.le_of_ble_eq_true rfl) ⟨Nat.zero_le _, Nat.zero_le _⟩ d_X_limit_40 (fun H locs G => ?_)
        refine W.eq (g2 := F0 m 43 ls []) rfl ?_
        refine lv_iconst (v := 1) hx hb d_X_limit_43 (by decide) ?_
        have hf : f_X_limit nw n c Z P U V person requests pages = (1, nw, nI n, nI c, Z, (f_R_setLimits P person requests pages), U, V) := by unfold f_X_limit; rw [if_neg c_1, if_neg c_2, if_neg c_3]
        exact zW.iret E hrt hlk G (by rw [hf]) (by rw [hf]) d_X_limit_44
      · refine lv_bipush (v := (-2)) hx hb d_X_limit_30 (by decide) ?_
        have hf : f_X_limit nw n c Z P U V person requests pages = ((-2), nw, nI n, nI c, Z, P, U, V) := by unfold f_X_limit; rw [if_neg c_1, if_neg c_2, if_pos c_3]
        exact zW.iret E hrt hlk G (by rw [hf]) (by rw [hf]) d_X_limit_32
  · refine lv_iconst (v := (-1)) hx hb d_X_limit_7 (by decide) ?_
    have hf : f_X_limit nw n c Z P U V person requests pages = ((-1), nw, nI n, nI c, Z, P, U, V) := by unfold f_X_limit; rw [if_pos c_1]
    exact zW.iret E hrt hlk G (by rw [hf]) (by rw [hf]) d_X_limit_8
def f_X_copy (nw : Int32) (n : Nat) (c : Nat) (Z : Nat → Nat → Int32) (P : Nat → Nat → Int32) (U : Nat → Nat → Int32) (V : Nat → Nat → Int32) (unit : Int32) (pages : Int32) (t : Int32) : Int32 × Int32 × Int32 × Int32 × (Nat → Nat → Int32) × (Nat → Nat → Int32) × (Nat → Nat → Int32) × (Nat → Nat → Int32) := (if (f_isUnit unit) = 0 then ((-1), nw, nI n, nI c, Z, P, U, V) else (if (f_isWithin pages 1 500) = 0 then ((-2), nw, nI n, nI c, Z, P, U, V) else (if (f_X_isTime nw t) = 0 then ((-2), nw, nI n, nI c, Z, P, U, V) else (if (f_H_placeOf U unit) = 2 then (if (f_H_conditionOf U unit) ≤ 1 then (if pages ≤ (f_R_pagesLeft P (f_Q_personOf c V (f_H_requestOf U unit)) (t / 86400)) then (f_R_pagesLeft (f_R_addCopied P (f_Q_personOf c V (f_H_requestOf U unit)) (t / 86400) pages) (f_Q_personOf c V (f_H_requestOf U unit)) (t / 86400), t, nI n, nI c, Z, (f_R_addCopied P (f_Q_personOf c V (f_H_requestOf U unit)) (t / 86400) pages), U, V) else ((-4), nw, nI n, nI c, Z, P, U, V)) else ((-3), nw, nI n, nI c, Z, P, U, V)) else ((-3), nw, nI n, nI c, Z, P, U, V)))))
set_option maxHeartbeats 4000000 in
set_option maxRecDepth 100000 in
theorem c_X_copy (l : Launch) (D : va_G) (cI : ClassId) (a : Nat → Nat) (nw : Int32) (k : Nat) (n : Nat) (c : Nat) (Z : Nat → Nat → Int32) (P : Nat → Nat → Int32) (U : Nat → Nat → Int32) (V : Nat → Nat → Int32) (unit : Int32) (pages : Int32) (t : Int32) (hk : k ≤ 20) (hn : n ≤ 60) (hc : c ≤ 300) : zW l D [(cI, .int)] y_X_copy b_X_copy 6 (some .int) 4 87 [.ref (a 0), .int unit, .int pages, .int t] (wX a cI nw (nI k) (nI n) (nI c) Z P U V) (wX a cI ((f_X_copy nw n c Z P U V unit pages t).2.1) (nI k) ((f_X_copy nw n c Z P U V unit pages t).2.2.1) ((f_X_copy nw n c Z P U V unit pages t).2.2.2.1) ((f_X_copy nw n c Z P U V unit pages t).2.2.2.2.1) ((f_X_copy nw n c Z P U V unit pages t).2.2.2.2.2.1) ((f_X_copy nw n c Z P U V unit pages t).2.2.2.2.2.2.1) ((f_X_copy nw n c Z P U V unit pages t).2.2.2.2.2.2.2)) (some (.int (f_X_copy nw n c Z P U V unit pages t).1)) := by
  refine zW.of (by decide) (Nat.le_of_ble_eq_true rfl) ?_
  intro p e s m below meth c0 ls A E hrt hlk hN hK hA G hl
  have hx := E.1
  have hb := E.2.1
  have hl : lv_has ls 6 [(0, .ref (a 0)), (1, .int unit), (2, .int pages), (3, .int t)] := hl
  refine lv_iload_n hx hb d_X_copy_0 rfl (lv_at hl 1 rfl) ?_
  refine z_rs (As := [.int unit]) (rest := []) E hN hK hl.1 (c_isUnit l D [(cI, .int)] unit) kz_X_60 rfl ⟨Nat.le_of_ble_eq_true rfl, Nat.le_of_ble_eq_true rfl⟩ rfl (Nat.le_of_ble_eq_true rfl) ⟨Nat.zero_le _, Nat.zero_le _⟩ d_X_copy_1 ?_
  refine lv_if_ne (tgt := 9) hx hb d_X_copy_4 (by decide) (fun c_1 => ?_) (fun c_1 => ?_)
  · refine lv_iload_n hx hb d_X_copy_9 rfl (lv_at hl 2 rfl) ?_
    refine lv_iconst (v := 1) hx hb d_X_copy_10 (by decide) ?_
    refine lv_sipush (v := 500) hx hb d_X_copy_11 (by decide) ?_
    refine z_rs (As := [.int pages, .int 1, .int 500]) (rest := []) E hN hK hl.1 (c_isWithin l D [(cI, .int)] pages 1 500) kz_X_120 rfl ⟨Nat.le_of_ble_eq_true rfl, Nat.le_of_ble_eq_true rfl⟩ rfl (Nat.le_of_ble_eq_true rfl) ⟨Nat.zero_le _, Nat.zero_le _⟩ d_X_copy_14 ?_
    refine lv_if_eq (tgt := 28) hx hb d_X_copy_17 (by decide) (fun c_2 => ?_) (fun c_2 => ?_)
    · refine lv_bipush (v := (-2)) hx hb d_X_copy_28 (by decide) ?_
      have hf : f_X_copy nw n c Z P U V unit pages t = ((-2), nw, nI n, nI c, Z, P, U, V) := by unfold f_X_copy; rw [if_neg c_1, if_pos c_2]
      exact zW.iret E hrt hlk G (by rw [hf]) (by rw [hf]) d_X_copy_30
    · refine lv_aload_n hx hb d_X_copy_20 rfl (lv_at hl 0 rfl) ?_
      refine lv_iload_n hx hb d_X_copy_21 rfl (lv_at hl 3 rfl) ?_
      refine z_rv (As := [.int t]) (rest := []) E hN hK G.1 hl.1 (c_X_isTime l D cI a nw k n c Z P U V t hk hn hc) [0, 1, 2, 3, 4, 5, 6, 7, 8, 9, 10, 11, 12, 13, 14, 15, 16, 17, 18, 19, 20, 21] rfl 0 rfl rfl kz_X_63 rfl ⟨Nat.le_of_ble_eq_true rfl, Nat.le_of_ble_eq_true rfl⟩ rfl (Nat.le_of_ble_eq_true rfl) ⟨Nat.zero_le _, Nat.zero_le _⟩ d_X_copy_22 ?_
      refine lv_if_ne (tgt := 31) hx hb d_X_copy_25 (by decide) (fun c_3 => ?_) (fun c_3 => ?_)
      · refine lv_aload_n hx hb d_X_copy_31 rfl (lv_at hl 0 rfl) ?_
        refine z_get (v := .ref (a 10)) E hK G.1 i_X 0 2 rfl rfl (by decide) kf_X_28 rfl d_X_copy_32 ?_
        refine lv_iload_n hx hb d_X_copy_35 rfl (lv_at hl 1 rfl) ?_
        refine z_rv (As := [.int unit]) (rest := []) E hN hK G.1 hl.1 (c_H_placeOf l D cI (fun j => a (10 + j)) U unit ) [10, 11, 12, 13, 14] rfl 0 rfl rfl kz_X_94 rfl ⟨Nat.le_of_ble_eq_true rfl, Nat.le_of_ble_eq_true rfl⟩ rfl (Nat.le_of_ble_eq_true rfl) ⟨Nat.zero_le _, Nat.zero_le _⟩ d_X_copy_36 ?_
        refine lv_iconst (v := 2) hx hb d_X_copy_39 (by decide) ?_
        refine lv_icmp_ne (tgt := 55) hx hb d_X_copy_40 (by decide) (fun c_4 => ?_) (fun c_4 => ?_)
        · refine lv_bipush (v := (-3)) hx hb d_X_copy_55 (by decide) ?_
          have hf : f_X_copy nw n c Z P U V unit pages t = ((-3), nw, nI n, nI c, Z, P, U, V) := by unfold f_X_copy; rw [if_neg c_1, if_neg c_2, if_neg c_3, if_neg c_4]
          exact zW.iret E hrt hlk G (by rw [hf]) (by rw [hf]) d_X_copy_57
        · refine lv_aload_n hx hb d_X_copy_43 rfl (lv_at hl 0 rfl) ?_
          refine z_get (v := .ref (a 10)) E hK G.1 i_X 0 2 rfl rfl (by decide) kf_X_28 rfl d_X_copy_44 ?_
          refine lv_iload_n hx hb d_X_copy_47 rfl (lv_at hl 1 rfl) ?_
          refine z_rv (As := [.int unit]) (rest := []) E hN hK G.1 hl.1 (c_H_conditionOf l D cI (fun j => a (10 + j)) U unit ) [10, 11, 12, 13, 14] rfl 0 rfl rfl kz_X_97 rfl ⟨Nat.le_of_ble_eq_true rfl, Nat.le_of_ble_eq_true rfl⟩ rfl (Nat.le_of_ble_eq_true rfl) ⟨Nat.zero_le _, Nat.zero_le _⟩ d_X_copy_48 ?_
          refine lv_iconst (v := 1) hx hb d_X_copy_51 (by decide) ?_
          refine lv_icmp_le (tgt := 58) hx hb d_X_copy_52 (by decide) (fun c_5 => ?_) (fun c_5 => ?_)
          · refine lv_aload_n hx hb d_X_copy_58 rfl (lv_at hl 0 rfl) ?_
            refine z_get (v := .ref (a 15)) E hK G.1 i_X 0 3 rfl rfl (by decide) kf_X_35 rfl d_X_copy_59 ?_
            refine lv_aload_n hx hb d_X_copy_62 rfl (lv_at hl 0 rfl) ?_
            refine z_get (v := .ref (a 10)) E hK G.1 i_X 0 2 rfl rfl (by decide) kf_X_28 rfl d_X_copy_63 ?_
            refine lv_iload_n hx hb d_X_copy_66 rfl (lv_at hl 1 rfl) ?_
            refine z_rv (As := [.int unit]) (rest := [.ref (a 15)]) E hN hK G.1 hl.1 (c_H_requestOf l D cI (fun j => a (10 + j)) U unit ) [10, 11, 12, 13, 14] rfl 0 rfl rfl kz_X_104 rfl ⟨Nat.le_of_ble_eq_true rfl, Nat.le_of_ble_eq_true rfl⟩ rfl (Nat.le_of_ble_eq_true rfl) ⟨Nat.zero_le _, Nat.zero_le _⟩ d_X_copy_67 ?_
            refine z_rv (As := [.int (f_H_requestOf U unit)]) (rest := []) E hN hK G.1 hl.1 (c_Q_personOf l D cI (fun j => a (15 + j)) c V (f_H_requestOf U unit) hc) [15, 16, 17, 18, 19, 20, 21] rfl 0 rfl rfl kz_X_107 rfl ⟨Nat.le_of_ble_eq_true rfl, Nat.le_of_ble_eq_true rfl⟩ rfl (Nat.le_of_ble_eq_true rfl) ⟨Nat.zero_le _, Nat.zero_le _⟩ d_X_copy_70 ?_
            refine lv_istore (lv' := [(4, .int (f_Q_personOf c V (f_H_requestOf U unit))), (0, .ref (a 0)), (1, .int unit), (2, .int pages), (3, .int t)]) hx hb d_X_copy_73 hl (by decide) rfl (fun ls hl => ?_)
            refine lv_iload_n hx hb d_X_copy_75 rfl (lv_at hl 4 rfl) ?_
            refine lv_ldc (v := 86400) hx hb E.2.2.2.1 (E.2.2.2.2 _ kc_X_139) d_X_copy_76 ?_
            refine lv_idiv hx hb d_X_copy_78 (by decide) ?_
            refine lv_istore (lv' := [(5, .int (t / 86400)), (4, .int (f_Q_personOf c V (f_H_requestOf U unit))), (0, .ref (a 0)), (1, .int unit), (2, .int pages), (3, .int t)]) hx hb d_X_copy_79 hl (by decide) rfl (fun ls hl => ?_)
            refine lv_iload_n hx hb d_X_copy_81 rfl (lv_at hl 4 rfl) ?_
            refine lv_aload_n hx hb d_X_copy_82 rfl (lv_at hl 2 rfl) ?_
            refine z_get (v := .ref (a 4)) E hK G.1 i_X 0 1 rfl rfl (by decide) kf_X_21 rfl d_X_copy_83 ?_
            refine lv_iload hx hb d_X_copy_86 (lv_at hl 1 rfl) ?_
            refine lv_iload hx hb d_X_copy_88 (lv_at hl 0 rfl) ?_
            refine z_rv (As := [.int (f_Q_personOf c V (f_H_requestOf U unit)), .int (t / 86400)]) (rest := [.int pages]) E hN hK G.1 hl.1 (c_R_pagesLeft l D cI (fun j => a (4 + j)) P (f_Q_personOf c V (f_H_requestOf U unit)) (t / 86400) ) [4, 5, 6, 7, 8, 9] rfl 0 rfl rfl kz_X_140 rfl ⟨Nat.le_of_ble_eq_true rfl, Nat.le_of_ble_eq_true rfl⟩ rfl (Nat.le_of_ble_eq_true rfl) ⟨Nat.zero_le _, Nat.zero_le _⟩ d_X_copy_90 ?_
            refine lv_icmp_le (tgt := 99) hx hb d_X_copy_93 (by decide) (fun c_6 => ?_) (fun c_6 => ?_)
            · refine lv_aload_n hx hb d_X_copy_99 rfl (lv_at hl 2 rfl) ?_
              refine lv_iload_n hx hb d_X_copy_100 rfl (lv_at hl 5 rfl) ?_
              refine z_put (ty := .int) (ws' := wX a cI t (nI k) (nI n) (nI c) Z P U V) E hK G i_X t_X t_X_ok n_X 0 4 rfl rfl (by decide) kf_X_39 rfl rfl rfl rfl (Nat.le_of_ble_eq_true rfl) rfl d_X_copy_101 (fun H locs G => ?_)
              refine lv_aload_n hx hb d_X_copy_104 rfl (lv_at hl 2 rfl) ?_
              refine z_get (v := .ref (a 4)) E hK G.1 i_X 0 1 rfl rfl (by decide) kf_X_21 rfl d_X_copy_105 ?_
              refine lv_iload hx hb d_X_copy_108 (lv_at hl 1 rfl) ?_
              refine lv_iload hx hb d_X_copy_110 (lv_at hl 0 rfl) ?_
              refine lv_iload_n hx hb d_X_copy_112 rfl (lv_at hl 4 rfl) ?_
              refine z_wv (As := [.int (f_Q_personOf c V (f_H_requestOf U unit)), .int (t / 86400), .int pages]) (rest := []) (wr := ([0, 1, 2, 3, 10, 11, 12, 13, 14, 15, 16, 17, 18, 19, 20, 21] : List Nat).filterMap (fun i => (wX a cI t (nI k) (nI n) (nI c) Z P U V)[i]?)) (ws' := wX a cI t (nI k) (nI n) (nI c) Z (f_R_addCopied P (f_Q_personOf c V (f_H_requestOf U unit)) (t / 86400) pages) U V) E hN hK hA G hl.1 (c_R_addCopied l D cI (fun j => a (4 + j)) P (f_Q_personOf c V (f_H_requestOf U unit)) (t / 86400) pages ) [4, 5, 6, 7, 8, 9] [0, 1, 2, 3, 10, 11, 12, 13, 14, 15, 16, 17, 18, 19, 20, 21] [0, 1, 2, 3, 16, 17, 18, 19, 20, 21, 4, 5, 6, 7, 8, 9, 10, 11, 12, 13, 14, 15] rfl rfl rfl rfl rfl rfl (by decide) 0 rfl rfl kz_X_143 rfl ⟨Nat.le_of_ble_eq_true rfl, Nat.le_of_ble_eq_true rfl⟩ rfl (Nat.le_of_ble_eq_true rfl) ⟨Nat.zero_le _, Nat.zero_le _⟩ d_X_copy_113 (fun H locs G => ?_)
              refine W.eq (g2 := F0 m 116 ls []) rfl ?_
              refine lv_aload_n hx hb d_X_copy_116 rfl (lv_at hl 2 rfl) ?_
              refine z_get (v := .ref (a 4)) E hK G.1 i_X 0 1 rfl rfl (by decide) kf_X_21 rfl d_X_copy_117 ?_
              refine lv_iload hx hb d_X_copy_120 (lv_at hl 1 rfl) ?_
              refine lv_iload hx hb d_X_copy_122 (lv_at hl 0 rfl) ?_
              refine z_rv (As := [.int (f_Q_personOf c V (f_H_requestOf U unit)), .int (t / 86400)]) (rest := []) E hN hK G.1 hl.1 (c_R_pagesLeft l D cI (fun j => a (4 + j)) (f_R_addCopied P (f_Q_personOf c V (f_H_requestOf U unit)) (t / 86400) pages) (f_Q_personOf c V (f_H_requestOf U unit)) (t / 86400) ) [4, 5, 6, 7, 8, 9] rfl 0 rfl rfl kz_X_140 rfl ⟨Nat.le_of_ble_eq_true rfl, Nat.le_of_ble_eq_true rfl⟩ rfl (Nat.le_of_ble_eq_true rfl) ⟨Nat.zero_le _, Nat.zero_le _⟩ d_X_copy_124 ?_
              have hf : f_X_copy nw n c Z P U V unit pages t = (f_R_pagesLeft (f_R_addCopied P (f_Q_personOf c V (f_H_requestOf U unit)) (t / 86400) pages) (f_Q_personOf c V (f_H_requestOf U unit)) (t / 86400), t, nI n, nI c, Z, (f_R_addCopied P (f_Q_personOf c V (f_H_requestOf U unit)) (t / 86400) pages), U, V) := by unfold f_X_copy; rw [if_neg c_1, if_neg c_2, if_neg c_3, if_pos c_4, if_pos c_5, if_pos c_6]
              exact zW.iret E hrt hlk G (by rw [hf]) (by rw [hf]) d_X_copy_127
            · refine lv_bipush (v := (-4)) hx hb d_X_copy_96 (by decide) ?_
              have hf : f_X_copy nw n c Z P U V unit pages t = ((-4), nw, nI n, nI c, Z, P, U, V) := by unfold f_X_copy; rw [if_neg c_1, if_neg c_2, if_neg c_3, if_pos c_4, if_pos c_5, if_neg c_6]
              exact zW.iret E hrt hlk G (by rw [hf]) (by rw [hf]) d_X_copy_98
          · refine lv_bipush (v := (-3)) hx hb d_X_copy_55 (by decide) ?_
            have hf : f_X_copy nw n c Z P U V unit pages t = ((-3), nw, nI n, nI c, Z, P, U, V) := by unfold f_X_copy; rw [if_neg c_1, if_neg c_2, if_neg c_3, if_pos c_4, if_neg c_5]
            exact zW.iret E hrt hlk G (by rw [hf]) (by rw [hf]) d_X_copy_57
      · refine lv_bipush (v := (-2)) hx hb d_X_copy_28 (by decide) ?_
        have hf : f_X_copy nw n c Z P U V unit pages t = ((-2), nw, nI n, nI c, Z, P, U, V) := by unfold f_X_copy; rw [if_neg c_1, if_neg c_2, if_pos c_3]
        exact zW.iret E hrt hlk G (by rw [hf]) (by rw [hf]) d_X_copy_30
  · refine lv_iconst (v := (-1)) hx hb d_X_copy_7 (by decide) ?_
    have hf : f_X_copy nw n c Z P U V unit pages t = ((-1), nw, nI n, nI c, Z, P, U, V) := by unfold f_X_copy; rw [if_pos c_1]
    exact zW.iret E hrt hlk G (by rw [hf]) (by rw [hf]) d_X_copy_8
def f_X_close (nw : Int32) (n : Nat) (c : Nat) (Z : Nat → Nat → Int32) (P : Nat → Nat → Int32) (U : Nat → Nat → Int32) (V : Nat → Nat → Int32) (t : Int32) : Int32 × Int32 × Int32 × Int32 × (Nat → Nat → Int32) × (Nat → Nat → Int32) × (Nat → Nat → Int32) × (Nat → Nat → Int32) := (if (f_X_isTime nw t) = 0 then ((-2), nw, nI n, nI c, Z, P, U, V) else ((f_H_storeAll U).1, t, (f_S_clear Z).1, nI c, (f_S_clear Z).2, P, (f_H_storeAll U).2, (f_Q_endAll c V t)))
set_option maxHeartbeats 4000000 in
set_option maxRecDepth 100000 in
theorem c_X_close (l : Launch) (D : va_G) (cI : ClassId) (a : Nat → Nat) (nw : Int32) (k : Nat) (n : Nat) (c : Nat) (Z : Nat → Nat → Int32) (P : Nat → Nat → Int32) (U : Nat → Nat → Int32) (V : Nat → Nat → Int32) (t : Int32) (hk : k ≤ 20) (hn : n ≤ 60) (hc : c ≤ 300) : zW l D [(cI, .int)] y_X_close b_X_close 2 (some .int) 5 109 [.ref (a 0), .int t] (wX a cI nw (nI k) (nI n) (nI c) Z P U V) (wX a cI ((f_X_close nw n c Z P U V t).2.1) (nI k) ((f_X_close nw n c Z P U V t).2.2.1) ((f_X_close nw n c Z P U V t).2.2.2.1) ((f_X_close nw n c Z P U V t).2.2.2.2.1) ((f_X_close nw n c Z P U V t).2.2.2.2.2.1) ((f_X_close nw n c Z P U V t).2.2.2.2.2.2.1) ((f_X_close nw n c Z P U V t).2.2.2.2.2.2.2)) (some (.int (f_X_close nw n c Z P U V t).1)) := by
  refine zW.of (by decide) (Nat.le_of_ble_eq_true rfl) ?_
  intro p e s m below meth c0 ls A E hrt hlk hN hK hA G hl
  have hx := E.1
  have hb := E.2.1
  have hl : lv_has ls 2 [(0, .ref (a 0)), (1, .int t)] := hl
  refine lv_aload_n hx hb d_X_close_0 rfl (lv_at hl 0 rfl) ?_
  refine lv_iload_n hx hb d_X_close_1 rfl (lv_at hl 1 rfl) ?_
  refine z_rv (As := [.int t]) (rest := []) E hN hK G.1 hl.1 (c_X_isTime l D cI a nw k n c Z P U V t hk hn hc) [0, 1, 2, 3, 4, 5, 6, 7, 8, 9, 10, 11, 12, 13, 14, 15, 16, 17, 18, 19, 20, 21] rfl 0 rfl rfl kz_X_63 rfl ⟨Nat.le_of_ble_eq_true rfl, Nat.le_of_ble_eq_true rfl⟩ rfl (Nat.le_of_ble_eq_true rfl) ⟨Nat.zero_le _, Nat.zero_le _⟩ d_X_close_2 ?_
  refine lv_if_ne (tgt := 11) hx hb d_X_close_5 (by decide) (fun c_1 => ?_) (fun c_1 => ?_)
  · refine lv_aload_n hx hb d_X_close_11 rfl (lv_at hl 0 rfl) ?_
    refine lv_iload_n hx hb d_X_close_12 rfl (lv_at hl 1 rfl) ?_
    refine z_put (ty := .int) (ws' := wX a cI t (nI k) (nI n) (nI c) Z P U V) E hK G i_X t_X t_X_ok n_X 0 4 rfl rfl (by decide) kf_X_39 rfl rfl rfl rfl (Nat.le_of_ble_eq_true rfl) rfl d_X_close_13 (fun H locs G => ?_)
    refine lv_aload_n hx hb d_X_close_16 rfl (lv_at hl 0 rfl) ?_
    refine z_get (v := .ref (a 15)) E hK G.1 i_X 0 3 rfl rfl (by decide) kf_X_35 rfl d_X_close_17 ?_
    refine lv_iload_n hx hb d_X_close_20 rfl (lv_at hl 1 rfl) ?_
    refine z_wv (As := [.int t]) (rest := []) (wr := ([0, 1, 2, 3, 4, 5, 6, 7, 8, 9, 10, 11, 12, 13, 14] : List Nat).filterMap (fun i => (wX a cI t (nI k) (nI n) (nI c) Z P U V)[i]?)) (ws' := wX a cI t (nI k) (nI n) (nI c) Z P U (f_Q_endAll c V t)) E hN hK hA G hl.1 (c_Q_endAll l D cI (fun j => a (15 + j)) c V t hc) [15, 16, 17, 18, 19, 20, 21] [0, 1, 2, 3, 4, 5, 6, 7, 8, 9, 10, 11, 12, 13, 14] [0, 1, 2, 3, 4, 5, 6, 7, 8, 9, 10, 11, 12, 13, 14, 15, 16, 17, 18, 19, 20, 21] rfl rfl rfl rfl rfl rfl (by decide) 0 rfl rfl kz_X_146 rfl ⟨Nat.le_of_ble_eq_true rfl, Nat.le_of_ble_eq_true rfl⟩ rfl (Nat.le_of_ble_eq_true rfl) ⟨Nat.zero_le _, Nat.zero_le _⟩ d_X_close_21 (fun H locs G => ?_)
    refine W.eq (g2 := F0 m 24 ls []) rfl ?_
    refine lv_aload_n hx hb d_X_close_24 rfl (lv_at hl 0 rfl) ?_
    refine z_get (v := .ref (a 1)) E hK G.1 i_X 0 0 rfl rfl (by decide) kf_X_12 rfl d_X_close_25 ?_
    refine z_wv (As := []) (rest := []) (wr := ([0, 4, 5, 6, 7, 8, 9, 10, 11, 12, 13, 14, 15, 16, 17, 18, 19, 20, 21] : List Nat).filterMap (fun i => (wX a cI t (nI k) (nI n) (nI c) Z P U (f_Q_endAll c V t))[i]?)) (ws' := wX a cI t (nI k) ((f_S_clear Z).1) (nI c) ((f_S_clear Z).2) P U (f_Q_endAll c V t)) E hN hK hA G hl.1 (c_S_clear l D cI (fun j => a (1 + j)) k n Z  hk hn) [1, 2, 3] [0, 4, 5, 6, 7, 8, 9, 10, 11, 12, 13, 14, 15, 16, 17, 18, 19, 20, 21] [0, 19, 20, 21, 1, 2, 3, 4, 5, 6, 7, 8, 9, 10, 11, 12, 13, 14, 15, 16, 17, 18] rfl rfl rfl rfl rfl rfl (by decide) 0 rfl rfl kz_X_149 rfl ⟨Nat.le_of_ble_eq_true rfl, Nat.le_of_ble_eq_true rfl⟩ rfl (Nat.le_of_ble_eq_true rfl) ⟨Nat.zero_le _, Nat.zero_le _⟩ d_X_close_28 (fun H locs G => ?_)
    refine W.eq (g2 := F0 m 31 ls []) rfl ?_
    refine lv_aload_n hx hb d_X_close_31 rfl (lv_at hl 0 rfl) ?_
    refine z_get (v := .ref (a 10)) E hK G.1 i_X 0 2 rfl rfl (by decide) kf_X_28 rfl d_X_close_32 ?_
    refine z_wv (As := []) (rest := []) (wr := ([0, 1, 2, 3, 4, 5, 6, 7, 8, 9, 15, 16, 17, 18, 19, 20, 21] : List Nat).filterMap (fun i => (wX a cI t (nI k) ((f_S_clear Z).1) (nI c) ((f_S_clear Z).2) P U (f_Q_endAll c V t))[i]?)) (ws' := wX a cI t (nI k) ((f_S_clear Z).1) (nI c) ((f_S_clear Z).2) P ((f_H_storeAll U).2) (f_Q_endAll c V t)) E hN hK hA G hl.1 (c_H_storeAll l D cI (fun j => a (10 + j)) U  ) [10, 11, 12, 13, 14] [0, 1, 2, 3, 4, 5, 6, 7, 8, 9, 15, 16, 17, 18, 19, 20, 21] [0, 1, 2, 3, 4, 5, 6, 7, 8, 9, 17, 18, 19, 20, 21, 10, 11, 12, 13, 14, 15, 16] rfl rfl rfl rfl rfl rfl (by decide) 0 rfl rfl kz_X_152 rfl ⟨Nat.le_of_ble_eq_true rfl, Nat.le_of_ble_eq_true rfl⟩ rfl (Nat.le_of_ble_eq_true rfl) ⟨Nat.zero_le _, Nat.zero_le _⟩ d_X_close_35 (fun H locs G => ?_)
    refine W.eq (g2 := F0 m 38 ls [.int ((f_H_storeAll U).1)]) rfl ?_
    have hf : f_X_close nw n c Z P U V t = ((f_H_storeAll U).1, t, (f_S_clear Z).1, nI c, (f_S_clear Z).2, P, (f_H_storeAll U).2, (f_Q_endAll c V t)) := by unfold f_X_close; rw [if_neg c_1]
    exact zW.iret E hrt hlk G (by rw [hf]) (by rw [hf]) d_X_close_38
  · refine lv_bipush (v := (-2)) hx hb d_X_close_8 (by decide) ?_
    have hf : f_X_close nw n c Z P U V t = ((-2), nw, nI n, nI c, Z, P, U, V) := by unfold f_X_close; rw [if_pos c_1]
    exact zW.iret E hrt hlk G (by rw [hf]) (by rw [hf]) d_X_close_10
def f_X_unit (c : Nat) (U : Nat → Nat → Int32) (V : Nat → Nat → Int32) (unit : Int32) (what : Int32) : Int32 := (if (f_isUnit unit) = 0 then (-1) else (if what = 0 then (f_H_placeOf U unit) else (if what = 1 then (f_H_conditionOf U unit) else (if what = 2 then (f_H_restrictionOf U unit) else (if what = 3 then (f_H_requestOf U unit) else (if what = 4 then (f_Q_countOpen c V unit) else (-1)))))))
set_option maxHeartbeats 4000000 in
set_option maxRecDepth 100000 in
theorem c_X_unit (l : Launch) (D : va_G) (cI : ClassId) (a : Nat → Nat) (nw : Int32) (k : Nat) (n : Nat) (c : Nat) (Z : Nat → Nat → Int32) (P : Nat → Nat → Int32) (U : Nat → Nat → Int32) (V : Nat → Nat → Int32) (unit : Int32) (what : Int32) (hk : k ≤ 20) (hn : n ≤ 60) (hc : c ≤ 300) : zR l D [(cI, .int)] y_X_unit b_X_unit 3 (some .int) 4 88 [.ref (a 0), .int unit, .int what] (wX a cI nw (nI k) (nI n) (nI c) Z P U V) (f_X_unit c U V unit what) := by
  refine zR.of (by decide) (Nat.le_of_ble_eq_true rfl) ?_
  intro p e s m below meth c0 ls E hrt hlk hN hK hP hl
  have hx := E.1
  have hb := E.2.1
  have hl : lv_has ls 3 [(0, .ref (a 0)), (1, .int unit), (2, .int what)] := hl
  refine lv_iload_n hx hb d_X_unit_0 rfl (lv_at hl 1 rfl) ?_
  refine z_rs (As := [.int unit]) (rest := []) E hN hK hl.1 (c_isUnit l D [(cI, .int)] unit) kz_X_60 rfl ⟨Nat.le_of_ble_eq_true rfl, Nat.le_of_ble_eq_true rfl⟩ rfl (Nat.le_of_ble_eq_true rfl) ⟨Nat.zero_le _, Nat.zero_le _⟩ d_X_unit_1 ?_
  refine lv_if_ne (tgt := 9) hx hb d_X_unit_4 (by decide) (fun c_1 => ?_) (fun c_1 => ?_)
  · refine lv_iload_n hx hb d_X_unit_9 rfl (lv_at hl 2 rfl) ?_
    rcases Classical.em (what = 0) with c_2 | c_2
    · refine lv_tableIn (tgt := 44) (off := 34) hx hb d_X_unit_10 (by rw [c_2]; decide) (by rw [c_2]; decide) (by rw [c_2]; decide) (by decide) ?_
      refine lv_aload_n hx hb d_X_unit_44 rfl (lv_at hl 0 rfl) ?_
      refine z_get (v := .ref (a 10)) E hK hP i_X 0 2 rfl rfl (by decide) kf_X_28 rfl d_X_unit_45 ?_
      refine lv_iload_n hx hb d_X_unit_48 rfl (lv_at hl 1 rfl) ?_
      refine z_rv (As := [.int unit]) (rest := []) E hN hK hP hl.1 (c_H_placeOf l D cI (fun j => a (10 + j)) U unit ) [10, 11, 12, 13, 14] rfl 0 rfl rfl kz_X_94 rfl ⟨Nat.le_of_ble_eq_true rfl, Nat.le_of_ble_eq_true rfl⟩ rfl (Nat.le_of_ble_eq_true rfl) ⟨Nat.zero_le _, Nat.zero_le _⟩ d_X_unit_49 ?_
      exact zR.iret E hrt hlk (by unfold f_X_unit; rw [if_neg c_1, if_pos c_2]) d_X_unit_52
    · rcases Classical.em (what = 1) with c_3 | c_3
      · refine lv_tableIn (tgt := 53) (off := 43) hx hb d_X_unit_10 (by rw [c_3]; decide) (by rw [c_3]; decide) (by rw [c_3]; decide) (by decide) ?_
        refine lv_aload_n hx hb d_X_unit_53 rfl (lv_at hl 0 rfl) ?_
        refine z_get (v := .ref (a 10)) E hK hP i_X 0 2 rfl rfl (by decide) kf_X_28 rfl d_X_unit_54 ?_
        refine lv_iload_n hx hb d_X_unit_57 rfl (lv_at hl 1 rfl) ?_
        refine z_rv (As := [.int unit]) (rest := []) E hN hK hP hl.1 (c_H_conditionOf l D cI (fun j => a (10 + j)) U unit ) [10, 11, 12, 13, 14] rfl 0 rfl rfl kz_X_97 rfl ⟨Nat.le_of_ble_eq_true rfl, Nat.le_of_ble_eq_true rfl⟩ rfl (Nat.le_of_ble_eq_true rfl) ⟨Nat.zero_le _, Nat.zero_le _⟩ d_X_unit_58 ?_
        exact zR.iret E hrt hlk (by unfold f_X_unit; rw [if_neg c_1, if_neg c_2, if_pos c_3]) d_X_unit_61
      · rcases Classical.em (what = 2) with c_4 | c_4
        · refine lv_tableIn (tgt := 62) (off := 52) hx hb d_X_unit_10 (by rw [c_4]; decide) (by rw [c_4]; decide) (by rw [c_4]; decide) (by decide) ?_
          refine lv_aload_n hx hb d_X_unit_62 rfl (lv_at hl 0 rfl) ?_
          refine z_get (v := .ref (a 10)) E hK hP i_X 0 2 rfl rfl (by decide) kf_X_28 rfl d_X_unit_63 ?_
          refine lv_iload_n hx hb d_X_unit_66 rfl (lv_at hl 1 rfl) ?_
          refine z_rv (As := [.int unit]) (rest := []) E hN hK hP hl.1 (c_H_restrictionOf l D cI (fun j => a (10 + j)) U unit ) [10, 11, 12, 13, 14] rfl 0 rfl rfl kz_X_156 rfl ⟨Nat.le_of_ble_eq_true rfl, Nat.le_of_ble_eq_true rfl⟩ rfl (Nat.le_of_ble_eq_true rfl) ⟨Nat.zero_le _, Nat.zero_le _⟩ d_X_unit_67 ?_
          exact zR.iret E hrt hlk (by unfold f_X_unit; rw [if_neg c_1, if_neg c_2, if_neg c_3, if_pos c_4]) d_X_unit_70
        · rcases Classical.em (what = 3) with c_5 | c_5
          · refine lv_tableIn (tgt := 71) (off := 61) hx hb d_X_unit_10 (by rw [c_5]; decide) (by rw [c_5]; decide) (by rw [c_5]; decide) (by decide) ?_
            refine lv_aload_n hx hb d_X_unit_71 rfl (lv_at hl 0 rfl) ?_
            refine z_get (v := .ref (a 10)) E hK hP i_X 0 2 rfl rfl (by decide) kf_X_28 rfl d_X_unit_72 ?_
            refine lv_iload_n hx hb d_X_unit_75 rfl (lv_at hl 1 rfl) ?_
            refine z_rv (As := [.int unit]) (rest := []) E hN hK hP hl.1 (c_H_requestOf l D cI (fun j => a (10 + j)) U unit ) [10, 11, 12, 13, 14] rfl 0 rfl rfl kz_X_104 rfl ⟨Nat.le_of_ble_eq_true rfl, Nat.le_of_ble_eq_true rfl⟩ rfl (Nat.le_of_ble_eq_true rfl) ⟨Nat.zero_le _, Nat.zero_le _⟩ d_X_unit_76 ?_
            exact zR.iret E hrt hlk (by unfold f_X_unit; rw [if_neg c_1, if_neg c_2, if_neg c_3, if_neg c_4, if_pos c_5]) d_X_unit_79
          · rcases Classical.em (what = 4) with c_6 | c_6
            · refine lv_tableIn (tgt := 80) (off := 70) hx hb d_X_unit_10 (by rw [c_6]; decide) (by rw [c_6]; decide) (by rw [c_6]; decide) (by decide) ?_
              refine lv_aload_n hx hb d_X_unit_80 rfl (lv_at hl 0 rfl) ?_
              refine z_get (v := .ref (a 15)) E hK hP i_X 0 3 rfl rfl (by decide) kf_X_35 rfl d_X_unit_81 ?_
              refine lv_iload_n hx hb d_X_unit_84 rfl (lv_at hl 1 rfl) ?_
              refine z_rv (As := [.int unit]) (rest := []) E hN hK hP hl.1 (c_Q_countOpen l D cI (fun j => a (15 + j)) c V unit hc) [15, 16, 17, 18, 19, 20, 21] rfl 0 rfl rfl kz_X_159 rfl ⟨Nat.le_of_ble_eq_true rfl, Nat.le_of_ble_eq_true rfl⟩ rfl (Nat.le_of_ble_eq_true rfl) ⟨Nat.zero_le _, Nat.zero_le _⟩ d_X_unit_85 ?_
              exact zR.iret E hrt hlk (by unfold f_X_unit; rw [if_neg c_1, if_neg c_2, if_neg c_3, if_neg c_4, if_neg c_5, if_pos c_6]) d_X_unit_88
            · refine lv_tableOut (tgt := 89) hx hb d_X_unit_10 (sw_out5 c_2 c_3 c_4 c_5 c_6) (by decide) ?_
              refine lv_iconst (v := (-1)) hx hb d_X_unit_89 (by decide) ?_
              exact zR.iret E hrt hlk (by unfold f_X_unit; rw [if_neg c_1, if_neg c_2, if_neg c_3, if_neg c_4, if_neg c_5, if_neg c_6]) d_X_unit_90
  · refine lv_iconst (v := (-1)) hx hb d_X_unit_7 (by decide) ?_
    exact zR.iret E hrt hlk (by unfold f_X_unit; rw [if_pos c_1]) d_X_unit_8
def f_X_person (k : Nat) (n : Nat) (c : Nat) (Z : Nat → Nat → Int32) (P : Nat → Nat → Int32) (V : Nat → Nat → Int32) (person : Int32) (what : Int32) : Int32 := (if (f_isPerson person) = 0 then (-1) else (if what = 0 then (f_S_seatOf k Z person) else (if what = 1 then (f_S_placeInRow n Z person) else (if what = 2 then (f_Q_countRunning c V person) else (if what = 3 then (f_Q_countHandedOut c V person) else (if what = 4 then (f_R_copiedLatelyBy P person) else (-1)))))))
set_option maxHeartbeats 4000000 in
set_option maxRecDepth 100000 in
theorem c_X_person (l : Launch) (D : va_G) (cI : ClassId) (a : Nat → Nat) (nw : Int32) (k : Nat) (n : Nat) (c : Nat) (Z : Nat → Nat → Int32) (P : Nat → Nat → Int32) (U : Nat → Nat → Int32) (V : Nat → Nat → Int32) (person : Int32) (what : Int32) (hk : k ≤ 20) (hn : n ≤ 60) (hc : c ≤ 300) : zR l D [(cI, .int)] y_X_person b_X_person 3 (some .int) 4 88 [.ref (a 0), .int person, .int what] (wX a cI nw (nI k) (nI n) (nI c) Z P U V) (f_X_person k n c Z P V person what) := by
  refine zR.of (by decide) (Nat.le_of_ble_eq_true rfl) ?_
  intro p e s m below meth c0 ls E hrt hlk hN hK hP hl
  have hx := E.1
  have hb := E.2.1
  have hl : lv_has ls 3 [(0, .ref (a 0)), (1, .int person), (2, .int what)] := hl
  refine lv_iload_n hx hb d_X_person_0 rfl (lv_at hl 1 rfl) ?_
  refine z_rs (As := [.int person]) (rest := []) E hN hK hl.1 (c_isPerson l D [(cI, .int)] person) kz_X_43 rfl ⟨Nat.le_of_ble_eq_true rfl, Nat.le_of_ble_eq_true rfl⟩ rfl (Nat.le_of_ble_eq_true rfl) ⟨Nat.zero_le _, Nat.zero_le _⟩ d_X_person_1 ?_
  refine lv_if_ne (tgt := 9) hx hb d_X_person_4 (by decide) (fun c_1 => ?_) (fun c_1 => ?_)
  · refine lv_iload_n hx hb d_X_person_9 rfl (lv_at hl 2 rfl) ?_
    rcases Classical.em (what = 0) with c_2 | c_2
    · refine lv_tableIn (tgt := 44) (off := 34) hx hb d_X_person_10 (by rw [c_2]; decide) (by rw [c_2]; decide) (by rw [c_2]; decide) (by decide) ?_
      refine lv_aload_n hx hb d_X_person_44 rfl (lv_at hl 0 rfl) ?_
      refine z_get (v := .ref (a 1)) E hK hP i_X 0 0 rfl rfl (by decide) kf_X_12 rfl d_X_person_45 ?_
      refine lv_iload_n hx hb d_X_person_48 rfl (lv_at hl 1 rfl) ?_
      refine z_rv (As := [.int person]) (rest := []) E hN hK hP hl.1 (c_S_seatOf l D cI (fun j => a (1 + j)) k n Z person hk hn) [1, 2, 3] rfl 0 rfl rfl kz_X_162 rfl ⟨Nat.le_of_ble_eq_true rfl, Nat.le_of_ble_eq_true rfl⟩ rfl (Nat.le_of_ble_eq_true rfl) ⟨Nat.zero_le _, Nat.zero_le _⟩ d_X_person_49 ?_
      exact zR.iret E hrt hlk (by unfold f_X_person; rw [if_neg c_1, if_pos c_2]) d_X_person_52
    · rcases Classical.em (what = 1) with c_3 | c_3
      · refine lv_tableIn (tgt := 53) (off := 43) hx hb d_X_person_10 (by rw [c_3]; decide) (by rw [c_3]; decide) (by rw [c_3]; decide) (by decide) ?_
        refine lv_aload_n hx hb d_X_person_53 rfl (lv_at hl 0 rfl) ?_
        refine z_get (v := .ref (a 1)) E hK hP i_X 0 0 rfl rfl (by decide) kf_X_12 rfl d_X_person_54 ?_
        refine lv_iload_n hx hb d_X_person_57 rfl (lv_at hl 1 rfl) ?_
        refine z_rv (As := [.int person]) (rest := []) E hN hK hP hl.1 (c_S_placeInRow l D cI (fun j => a (1 + j)) k n Z person hk hn) [1, 2, 3] rfl 0 rfl rfl kz_X_165 rfl ⟨Nat.le_of_ble_eq_true rfl, Nat.le_of_ble_eq_true rfl⟩ rfl (Nat.le_of_ble_eq_true rfl) ⟨Nat.zero_le _, Nat.zero_le _⟩ d_X_person_58 ?_
        exact zR.iret E hrt hlk (by unfold f_X_person; rw [if_neg c_1, if_neg c_2, if_pos c_3]) d_X_person_61
      · rcases Classical.em (what = 2) with c_4 | c_4
        · refine lv_tableIn (tgt := 62) (off := 52) hx hb d_X_person_10 (by rw [c_4]; decide) (by rw [c_4]; decide) (by rw [c_4]; decide) (by decide) ?_
          refine lv_aload_n hx hb d_X_person_62 rfl (lv_at hl 0 rfl) ?_
          refine z_get (v := .ref (a 15)) E hK hP i_X 0 3 rfl rfl (by decide) kf_X_35 rfl d_X_person_63 ?_
          refine lv_iload_n hx hb d_X_person_66 rfl (lv_at hl 1 rfl) ?_
          refine z_rv (As := [.int person]) (rest := []) E hN hK hP hl.1 (c_Q_countRunning l D cI (fun j => a (15 + j)) c V person hc) [15, 16, 17, 18, 19, 20, 21] rfl 0 rfl rfl kz_X_76 rfl ⟨Nat.le_of_ble_eq_true rfl, Nat.le_of_ble_eq_true rfl⟩ rfl (Nat.le_of_ble_eq_true rfl) ⟨Nat.zero_le _, Nat.zero_le _⟩ d_X_person_67 ?_
          exact zR.iret E hrt hlk (by unfold f_X_person; rw [if_neg c_1, if_neg c_2, if_neg c_3, if_pos c_4]) d_X_person_70
        · rcases Classical.em (what = 3) with c_5 | c_5
          · refine lv_tableIn (tgt := 71) (off := 61) hx hb d_X_person_10 (by rw [c_5]; decide) (by rw [c_5]; decide) (by rw [c_5]; decide) (by decide) ?_
            refine lv_aload_n hx hb d_X_person_71 rfl (lv_at hl 0 rfl) ?_
            refine z_get (v := .ref (a 15)) E hK hP i_X 0 3 rfl rfl (by decide) kf_X_35 rfl d_X_person_72 ?_
            refine lv_iload_n hx hb d_X_person_75 rfl (lv_at hl 1 rfl) ?_
            refine z_rv (As := [.int person]) (rest := []) E hN hK hP hl.1 (c_Q_countHandedOut l D cI (fun j => a (15 + j)) c V person hc) [15, 16, 17, 18, 19, 20, 21] rfl 0 rfl rfl kz_X_54 rfl ⟨Nat.le_of_ble_eq_true rfl, Nat.le_of_ble_eq_true rfl⟩ rfl (Nat.le_of_ble_eq_true rfl) ⟨Nat.zero_le _, Nat.zero_le _⟩ d_X_person_76 ?_
            exact zR.iret E hrt hlk (by unfold f_X_person; rw [if_neg c_1, if_neg c_2, if_neg c_3, if_neg c_4, if_pos c_5]) d_X_person_79
          · rcases Classical.em (what = 4) with c_6 | c_6
            · refine lv_tableIn (tgt := 80) (off := 70) hx hb d_X_person_10 (by rw [c_6]; decide) (by rw [c_6]; decide) (by rw [c_6]; decide) (by decide) ?_
              refine lv_aload_n hx hb d_X_person_80 rfl (lv_at hl 0 rfl) ?_
              refine z_get (v := .ref (a 4)) E hK hP i_X 0 1 rfl rfl (by decide) kf_X_21 rfl d_X_person_81 ?_
              refine lv_iload_n hx hb d_X_person_84 rfl (lv_at hl 1 rfl) ?_
              refine z_rv (As := [.int person]) (rest := []) E hN hK hP hl.1 (c_R_copiedLatelyBy l D cI (fun j => a (4 + j)) P person ) [4, 5, 6, 7, 8, 9] rfl 0 rfl rfl kz_X_168 rfl ⟨Nat.le_of_ble_eq_true rfl, Nat.le_of_ble_eq_true rfl⟩ rfl (Nat.le_of_ble_eq_true rfl) ⟨Nat.zero_le _, Nat.zero_le _⟩ d_X_person_85 ?_
              exact zR.iret E hrt hlk (by unfold f_X_person; rw [if_neg c_1, if_neg c_2, if_neg c_3, if_neg c_4, if_neg c_5, if_pos c_6]) d_X_person_88
            · refine lv_tableOut (tgt := 89) hx hb d_X_person_10 (sw_out5 c_2 c_3 c_4 c_5 c_6) (by decide) ?_
              refine lv_iconst (v := (-1)) hx hb d_X_person_89 (by decide) ?_
              exact zR.iret E hrt hlk (by unfold f_X_person; rw [if_neg c_1, if_neg c_2, if_neg c_3, if_neg c_4, if_neg c_5, if_neg c_6]) d_X_person_90
  · refine lv_iconst (v := (-1)) hx hb d_X_person_7 (by decide) ?_
    exact zR.iret E hrt hlk (by unfold f_X_person; rw [if_pos c_1]) d_X_person_8
