def f_Q_has (c : Nat) (number : Int32) : Int32 := (f_isWithin number 0 ((nI c) - 1))
set_option maxHeartbeats 4000000 in
set_option maxRecDepth 100000 in
theorem c_Q_has (l : Launch) (D : va_G) (cI : ClassId) (a : Nat → Nat) (c : Nat) (V : Nat → Nat → Int32) (number : Int32) (hc : c ≤ 300) : zR l D [(cI, .int)] y_Q_has b_Q_has 2 (some .boolean) 1 22 [.ref (a 0), .int number] (wQ a cI (nI c) V) (f_Q_has c number) := by
  refine zR.of (by decide) (Nat.le_of_ble_eq_true rfl) ?_
  intro p e s m below meth c0 ls E hrt hlk hN hK hP hl
  have hx := E.1
  have hb := E.2.1
  have hl : lv_has ls 2 [(0, .ref (a 0)), (1, .int number)] := hl
  refine lv_iload_n hx hb d_Q_has_0 rfl (lv_at hl 1 rfl) ?_
  refine lv_iconst (v := 0) hx hb d_Q_has_1 (by decide) ?_
  refine lv_aload_n hx hb d_Q_has_2 rfl (lv_at hl 0 rfl) ?_
  refine z_get (v := .int (nI c)) E hK hP i_Q 0 6 rfl rfl (by decide) kf_Q_30 rfl d_Q_has_3 ?_
  refine lv_iconst (v := 1) hx hb d_Q_has_6 (by decide) ?_
  refine lv_isub hx hb d_Q_has_7 ?_
  refine z_rn (As := [.int number, .int 0, .int ((nI c) - 1)]) (rest := []) E hN hK hl.1 (c_isWithin l D [(cI, .int)] number 0 ((nI c) - 1)) kz_Q_34 rfl ⟨Nat.le_of_ble_eq_true rfl, Nat.le_of_ble_eq_true rfl⟩ rfl (Nat.le_of_ble_eq_true rfl) ⟨Nat.zero_le _, Nat.zero_le _⟩ d_Q_has_8 ?_
  exact zR.zret E hrt hlk (nar01 (b01_isWithin _ _ _)) (by rfl) d_Q_has_11
theorem in_has {c : Nat} {x : Int32} (hc : c ≤ 300) (h : ¬ f_Q_has c x = 0) : vp_in x 300 := by
  obtain ⟨j, hj, rfl⟩ := pre1_in (by omega) h
  exact vp_in_nI (by omega) (by decide)
def f_Q_isFull (c : Nat)  : Int32 := (if (nI c) < 300 then 0 else 1)
set_option maxHeartbeats 4000000 in
set_option maxRecDepth 100000 in
theorem c_Q_isFull (l : Launch) (D : va_G) (cI : ClassId) (a : Nat → Nat) (c : Nat) (V : Nat → Nat → Int32)  (hc : c ≤ 300) : zR l D [(cI, .int)] y_Q_isFull b_Q_isFull 1 (some .boolean) 0 0 [.ref (a 0)] (wQ a cI (nI c) V) (f_Q_isFull c) := by
  refine zR.of (by decide) (Nat.le_of_ble_eq_true rfl) ?_
  intro p e s m below meth c0 ls E hrt hlk hN hK hP hl
  have hx := E.1
  have hb := E.2.1
  have hl : lv_has ls 1 [(0, .ref (a 0))] := hl
  refine lv_aload_n hx hb d_Q_isFull_0 rfl (lv_at hl 0 rfl) ?_
  refine z_get (v := .int (nI c)) E hK hP i_Q 0 6 rfl rfl (by decide) kf_Q_30 rfl d_Q_isFull_1 ?_
  refine lv_sipush (v := 300) hx hb d_Q_isFull_4 (by decide) ?_
  refine lv_icmp_lt (tgt := 14) hx hb d_Q_isFull_7 (by decide) (fun c_1 => ?_) (fun c_1 => ?_)
  · refine lv_iconst (v := 0) hx hb d_Q_isFull_14 (by decide) ?_
    exact zR.zret E hrt hlk rfl (by unfold f_Q_isFull; rw [if_pos c_1]) d_Q_isFull_15
  · refine lv_iconst (v := 1) hx hb d_Q_isFull_10 (by decide) ?_
    refine lv_goto (tgt := 15) hx hb d_Q_isFull_11 (by decide) ?_
    exact zR.zret E hrt hlk rfl (by unfold f_Q_isFull; rw [if_neg c_1]) d_Q_isFull_15
theorem full_lt {c : Nat} (hc : c ≤ 300) (h : f_Q_isFull c = 0) : c < 300 := by
  unfold f_Q_isFull at h
  split at h
  · rename_i h1
    exact (nI_ltI (by omega) (by decide)).mp h1
  · exact absurd h (by decide)
def f_Q_personOf (c : Nat) (V : Nat → Nat → Int32) (number : Int32) : Int32 := (if (f_Q_has c number) = 0 then (-1) else (V 0 number.toNatClampNeg))
set_option maxHeartbeats 4000000 in
set_option maxRecDepth 100000 in
theorem c_Q_personOf (l : Launch) (D : va_G) (cI : ClassId) (a : Nat → Nat) (c : Nat) (V : Nat → Nat → Int32) (number : Int32) (hc : c ≤ 300) : zR l D [(cI, .int)] y_Q_personOf b_Q_personOf 2 (some .int) 2 43 [.ref (a 0), .int number] (wQ a cI (nI c) V) (f_Q_personOf c V number) := by
  refine zR.of (by decide) (Nat.le_of_ble_eq_true rfl) ?_
  intro p e s m below meth c0 ls E hrt hlk hN hK hP hl
  have hx := E.1
  have hb := E.2.1
  have hl : lv_has ls 2 [(0, .ref (a 0)), (1, .int number)] := hl
  refine lv_aload_n hx hb d_Q_personOf_0 rfl (lv_at hl 0 rfl) ?_
  refine lv_iload_n hx hb d_Q_personOf_1 rfl (lv_at hl 1 rfl) ?_
  refine z_rv (As := [.int number]) (rest := []) E hN hK hP hl.1 (c_Q_has l D cI a c V number hc) [0, 1, 2, 3, 4, 5, 6] rfl 0 rfl rfl kz_Q_38 rfl ⟨Nat.le_of_ble_eq_true rfl, Nat.le_of_ble_eq_true rfl⟩ rfl (Nat.le_of_ble_eq_true rfl) ⟨Nat.zero_le _, Nat.zero_le _⟩ d_Q_personOf_2 ?_
  refine lv_if_eq (tgt := 17) hx hb d_Q_personOf_5 (by decide) (fun c_1 => ?_) (fun c_1 => ?_)
  · refine lv_iconst (v := (-1)) hx hb d_Q_personOf_17 (by decide) ?_
    exact zR.iret E hrt hlk (by unfold f_Q_personOf; rw [if_pos c_1]) d_Q_personOf_18
  · refine lv_aload_n hx hb d_Q_personOf_8 rfl (lv_at hl 0 rfl) ?_
    refine z_get (v := .ref (a 1)) E hK hP i_Q 0 0 rfl rfl (by decide) kf_Q_9 rfl d_Q_personOf_9 ?_
    refine lv_iload_n hx hb d_Q_personOf_12 rfl (lv_at hl 1 rfl) ?_
    refine z_ald (f := V 0) E hK hP 1 0 rfl rfl (in_has hc c_1) d_Q_personOf_13 ?_
    refine lv_goto (tgt := 18) hx hb d_Q_personOf_14 (by decide) ?_
    exact zR.iret E hrt hlk (by unfold f_Q_personOf; rw [if_neg c_1]) d_Q_personOf_18
def f_Q_unitOf (c : Nat) (V : Nat → Nat → Int32) (number : Int32) : Int32 := (if (f_Q_has c number) = 0 then (-1) else (V 1 number.toNatClampNeg))
set_option maxHeartbeats 4000000 in
set_option maxRecDepth 100000 in
theorem c_Q_unitOf (l : Launch) (D : va_G) (cI : ClassId) (a : Nat → Nat) (c : Nat) (V : Nat → Nat → Int32) (number : Int32) (hc : c ≤ 300) : zR l D [(cI, .int)] y_Q_unitOf b_Q_unitOf 2 (some .int) 2 43 [.ref (a 0), .int number] (wQ a cI (nI c) V) (f_Q_unitOf c V number) := by
  refine zR.of (by decide) (Nat.le_of_ble_eq_true rfl) ?_
  intro p e s m below meth c0 ls E hrt hlk hN hK hP hl
  have hx := E.1
  have hb := E.2.1
  have hl : lv_has ls 2 [(0, .ref (a 0)), (1, .int number)] := hl
  refine lv_aload_n hx hb d_Q_unitOf_0 rfl (lv_at hl 0 rfl) ?_
  refine lv_iload_n hx hb d_Q_unitOf_1 rfl (lv_at hl 1 rfl) ?_
  refine z_rv (As := [.int number]) (rest := []) E hN hK hP hl.1 (c_Q_has l D cI a c V number hc) [0, 1, 2, 3, 4, 5, 6] rfl 0 rfl rfl kz_Q_38 rfl ⟨Nat.le_of_ble_eq_true rfl, Nat.le_of_ble_eq_true rfl⟩ rfl (Nat.le_of_ble_eq_true rfl) ⟨Nat.zero_le _, Nat.zero_le _⟩ d_Q_unitOf_2 ?_
  refine lv_if_eq (tgt := 17) hx hb d_Q_unitOf_5 (by decide) (fun c_1 => ?_) (fun c_1 => ?_)
  · refine lv_iconst (v := (-1)) hx hb d_Q_unitOf_17 (by decide) ?_
    exact zR.iret E hrt hlk (by unfold f_Q_unitOf; rw [if_pos c_1]) d_Q_unitOf_18
  · refine lv_aload_n hx hb d_Q_unitOf_8 rfl (lv_at hl 0 rfl) ?_
    refine z_get (v := .ref (a 2)) E hK hP i_Q 0 1 rfl rfl (by decide) kf_Q_15 rfl d_Q_unitOf_9 ?_
    refine lv_iload_n hx hb d_Q_unitOf_12 rfl (lv_at hl 1 rfl) ?_
    refine z_ald (f := V 1) E hK hP 2 0 rfl rfl (in_has hc c_1) d_Q_unitOf_13 ?_
    refine lv_goto (tgt := 18) hx hb d_Q_unitOf_14 (by decide) ?_
    exact zR.iret E hrt hlk (by unfold f_Q_unitOf; rw [if_neg c_1]) d_Q_unitOf_18
def f_Q_stateOf (c : Nat) (V : Nat → Nat → Int32) (number : Int32) : Int32 := (if (f_Q_has c number) = 0 then (-1) else (V 2 number.toNatClampNeg))
set_option maxHeartbeats 4000000 in
set_option maxRecDepth 100000 in
theorem c_Q_stateOf (l : Launch) (D : va_G) (cI : ClassId) (a : Nat → Nat) (c : Nat) (V : Nat → Nat → Int32) (number : Int32) (hc : c ≤ 300) : zR l D [(cI, .int)] y_Q_stateOf b_Q_stateOf 2 (some .int) 2 43 [.ref (a 0), .int number] (wQ a cI (nI c) V) (f_Q_stateOf c V number) := by
  refine zR.of (by decide) (Nat.le_of_ble_eq_true rfl) ?_
  intro p e s m below meth c0 ls E hrt hlk hN hK hP hl
  have hx := E.1
  have hb := E.2.1
  have hl : lv_has ls 2 [(0, .ref (a 0)), (1, .int number)] := hl
  refine lv_aload_n hx hb d_Q_stateOf_0 rfl (lv_at hl 0 rfl) ?_
  refine lv_iload_n hx hb d_Q_stateOf_1 rfl (lv_at hl 1 rfl) ?_
  refine z_rv (As := [.int number]) (rest := []) E hN hK hP hl.1 (c_Q_has l D cI a c V number hc) [0, 1, 2, 3, 4, 5, 6] rfl 0 rfl rfl kz_Q_38 rfl ⟨Nat.le_of_ble_eq_true rfl, Nat.le_of_ble_eq_true rfl⟩ rfl (Nat.le_of_ble_eq_true rfl) ⟨Nat.zero_le _, Nat.zero_le _⟩ d_Q_stateOf_2 ?_
  refine lv_if_eq (tgt := 17) hx hb d_Q_stateOf_5 (by decide) (fun c_1 => ?_) (fun c_1 => ?_)
  · refine lv_iconst (v := (-1)) hx hb d_Q_stateOf_17 (by decide) ?_
    exact zR.iret E hrt hlk (by unfold f_Q_stateOf; rw [if_pos c_1]) d_Q_stateOf_18
  · refine lv_aload_n hx hb d_Q_stateOf_8 rfl (lv_at hl 0 rfl) ?_
    refine z_get (v := .ref (a 3)) E hK hP i_Q 0 2 rfl rfl (by decide) kf_Q_18 rfl d_Q_stateOf_9 ?_
    refine lv_iload_n hx hb d_Q_stateOf_12 rfl (lv_at hl 1 rfl) ?_
    refine z_ald (f := V 2) E hK hP 3 0 rfl rfl (in_has hc c_1) d_Q_stateOf_13 ?_
    refine lv_goto (tgt := 18) hx hb d_Q_stateOf_14 (by decide) ?_
    exact zR.iret E hrt hlk (by unfold f_Q_stateOf; rw [if_neg c_1]) d_Q_stateOf_18
def f_Q_askedAt (c : Nat) (V : Nat → Nat → Int32) (number : Int32) : Int32 := (if (f_Q_has c number) = 0 then (-1) else (V 3 number.toNatClampNeg))
set_option maxHeartbeats 4000000 in
set_option maxRecDepth 100000 in
theorem c_Q_askedAt (l : Launch) (D : va_G) (cI : ClassId) (a : Nat → Nat) (c : Nat) (V : Nat → Nat → Int32) (number : Int32) (hc : c ≤ 300) : zR l D [(cI, .int)] y_Q_askedAt b_Q_askedAt 2 (some .int) 2 43 [.ref (a 0), .int number] (wQ a cI (nI c) V) (f_Q_askedAt c V number) := by
  refine zR.of (by decide) (Nat.le_of_ble_eq_true rfl) ?_
  intro p e s m below meth c0 ls E hrt hlk hN hK hP hl
  have hx := E.1
  have hb := E.2.1
  have hl : lv_has ls 2 [(0, .ref (a 0)), (1, .int number)] := hl
  refine lv_aload_n hx hb d_Q_askedAt_0 rfl (lv_at hl 0 rfl) ?_
  refine lv_iload_n hx hb d_Q_askedAt_1 rfl (lv_at hl 1 rfl) ?_
  refine z_rv (As := [.int number]) (rest := []) E hN hK hP hl.1 (c_Q_has l D cI a c V number hc) [0, 1, 2, 3, 4, 5, 6] rfl 0 rfl rfl kz_Q_38 rfl ⟨Nat.le_of_ble_eq_true rfl, Nat.le_of_ble_eq_true rfl⟩ rfl (Nat.le_of_ble_eq_true rfl) ⟨Nat.zero_le _, Nat.zero_le _⟩ d_Q_askedAt_2 ?_
  refine lv_if_eq (tgt := 17) hx hb d_Q_askedAt_5 (by decide) (fun c_1 => ?_) (fun c_1 => ?_)
  · refine lv_iconst (v := (-1)) hx hb d_Q_askedAt_17 (by decide) ?_
    exact zR.iret E hrt hlk (by unfold f_Q_askedAt; rw [if_pos c_1]) d_Q_askedAt_18
  · refine lv_aload_n hx hb d_Q_askedAt_8 rfl (lv_at hl 0 rfl) ?_
    refine z_get (v := .ref (a 4)) E hK hP i_Q 0 3 rfl rfl (by decide) kf_Q_21 rfl d_Q_askedAt_9 ?_
    refine lv_iload_n hx hb d_Q_askedAt_12 rfl (lv_at hl 1 rfl) ?_
    refine z_ald (f := V 3) E hK hP 4 0 rfl rfl (in_has hc c_1) d_Q_askedAt_13 ?_
    refine lv_goto (tgt := 18) hx hb d_Q_askedAt_14 (by decide) ?_
    exact zR.iret E hrt hlk (by unfold f_Q_askedAt; rw [if_neg c_1]) d_Q_askedAt_18
def f_Q_handedOutAt (c : Nat) (V : Nat → Nat → Int32) (number : Int32) : Int32 := (if (f_Q_has c number) = 0 then (-1) else (V 4 number.toNatClampNeg))
set_option maxHeartbeats 4000000 in
set_option maxRecDepth 100000 in
theorem c_Q_handedOutAt (l : Launch) (D : va_G) (cI : ClassId) (a : Nat → Nat) (c : Nat) (V : Nat → Nat → Int32) (number : Int32) (hc : c ≤ 300) : zR l D [(cI, .int)] y_Q_handedOutAt b_Q_handedOutAt 2 (some .int) 2 43 [.ref (a 0), .int number] (wQ a cI (nI c) V) (f_Q_handedOutAt c V number) := by
  refine zR.of (by decide) (Nat.le_of_ble_eq_true rfl) ?_
  intro p e s m below meth c0 ls E hrt hlk hN hK hP hl
  have hx := E.1
  have hb := E.2.1
  have hl : lv_has ls 2 [(0, .ref (a 0)), (1, .int number)] := hl
  refine lv_aload_n hx hb d_Q_handedOutAt_0 rfl (lv_at hl 0 rfl) ?_
  refine lv_iload_n hx hb d_Q_handedOutAt_1 rfl (lv_at hl 1 rfl) ?_
  refine z_rv (As := [.int number]) (rest := []) E hN hK hP hl.1 (c_Q_has l D cI a c V number hc) [0, 1, 2, 3, 4, 5, 6] rfl 0 rfl rfl kz_Q_38 rfl ⟨Nat.le_of_ble_eq_true rfl, Nat.le_of_ble_eq_true rfl⟩ rfl (Nat.le_of_ble_eq_true rfl) ⟨Nat.zero_le _, Nat.zero_le _⟩ d_Q_handedOutAt_2 ?_
  refine lv_if_eq (tgt := 17) hx hb d_Q_handedOutAt_5 (by decide) (fun c_1 => ?_) (fun c_1 => ?_)
  · refine lv_iconst (v := (-1)) hx hb d_Q_handedOutAt_17 (by decide) ?_
    exact zR.iret E hrt hlk (by unfold f_Q_handedOutAt; rw [if_pos c_1]) d_Q_handedOutAt_18
  · refine lv_aload_n hx hb d_Q_handedOutAt_8 rfl (lv_at hl 0 rfl) ?_
    refine z_get (v := .ref (a 5)) E hK hP i_Q 0 4 rfl rfl (by decide) kf_Q_24 rfl d_Q_handedOutAt_9 ?_
    refine lv_iload_n hx hb d_Q_handedOutAt_12 rfl (lv_at hl 1 rfl) ?_
    refine z_ald (f := V 4) E hK hP 5 0 rfl rfl (in_has hc c_1) d_Q_handedOutAt_13 ?_
    refine lv_goto (tgt := 18) hx hb d_Q_handedOutAt_14 (by decide) ?_
    exact zR.iret E hrt hlk (by unfold f_Q_handedOutAt; rw [if_neg c_1]) d_Q_handedOutAt_18
def f_Q_backAt (c : Nat) (V : Nat → Nat → Int32) (number : Int32) : Int32 := (if (f_Q_has c number) = 0 then (-1) else (V 5 number.toNatClampNeg))
set_option maxHeartbeats 4000000 in
set_option maxRecDepth 100000 in
theorem c_Q_backAt (l : Launch) (D : va_G) (cI : ClassId) (a : Nat → Nat) (c : Nat) (V : Nat → Nat → Int32) (number : Int32) (hc : c ≤ 300) : zR l D [(cI, .int)] y_Q_backAt b_Q_backAt 2 (some .int) 2 43 [.ref (a 0), .int number] (wQ a cI (nI c) V) (f_Q_backAt c V number) := by
  refine zR.of (by decide) (Nat.le_of_ble_eq_true rfl) ?_
  intro p e s m below meth c0 ls E hrt hlk hN hK hP hl
  have hx := E.1
  have hb := E.2.1
  have hl : lv_has ls 2 [(0, .ref (a 0)), (1, .int number)] := hl
  refine lv_aload_n hx hb d_Q_backAt_0 rfl (lv_at hl 0 rfl) ?_
  refine lv_iload_n hx hb d_Q_backAt_1 rfl (lv_at hl 1 rfl) ?_
  refine z_rv (As := [.int number]) (rest := []) E hN hK hP hl.1 (c_Q_has l D cI a c V number hc) [0, 1, 2, 3, 4, 5, 6] rfl 0 rfl rfl kz_Q_38 rfl ⟨Nat.le_of_ble_eq_true rfl, Nat.le_of_ble_eq_true rfl⟩ rfl (Nat.le_of_ble_eq_true rfl) ⟨Nat.zero_le _, Nat.zero_le _⟩ d_Q_backAt_2 ?_
  refine lv_if_eq (tgt := 17) hx hb d_Q_backAt_5 (by decide) (fun c_1 => ?_) (fun c_1 => ?_)
  · refine lv_iconst (v := (-1)) hx hb d_Q_backAt_17 (by decide) ?_
    exact zR.iret E hrt hlk (by unfold f_Q_backAt; rw [if_pos c_1]) d_Q_backAt_18
  · refine lv_aload_n hx hb d_Q_backAt_8 rfl (lv_at hl 0 rfl) ?_
    refine z_get (v := .ref (a 6)) E hK hP i_Q 0 5 rfl rfl (by decide) kf_Q_27 rfl d_Q_backAt_9 ?_
    refine lv_iload_n hx hb d_Q_backAt_12 rfl (lv_at hl 1 rfl) ?_
    refine z_ald (f := V 5) E hK hP 6 0 rfl rfl (in_has hc c_1) d_Q_backAt_13 ?_
    refine lv_goto (tgt := 18) hx hb d_Q_backAt_14 (by decide) ?_
    exact zR.iret E hrt hlk (by unfold f_Q_backAt; rw [if_neg c_1]) d_Q_backAt_18
def f_Q_isOpenFor (c : Nat) (V : Nat → Nat → Int32) (number : Int32) (unit : Int32) : Int32 := (if (f_Q_has c number) = 0 then 0 else (if (V 1 number.toNatClampNeg) = unit then (if (V 2 number.toNatClampNeg) = 0 then 1 else 0) else 0))
set_option maxHeartbeats 4000000 in
set_option maxRecDepth 100000 in
theorem c_Q_isOpenFor (l : Launch) (D : va_G) (cI : ClassId) (a : Nat → Nat) (c : Nat) (V : Nat → Nat → Int32) (number : Int32) (unit : Int32) (hc : c ≤ 300) : zR l D [(cI, .int)] y_Q_isOpenFor b_Q_isOpenFor 3 (some .boolean) 2 43 [.ref (a 0), .int number, .int unit] (wQ a cI (nI c) V) (f_Q_isOpenFor c V number unit) := by
  refine zR.of (by decide) (Nat.le_of_ble_eq_true rfl) ?_
  intro p e s m below meth c0 ls E hrt hlk hN hK hP hl
  have hx := E.1
  have hb := E.2.1
  have hl : lv_has ls 3 [(0, .ref (a 0)), (1, .int number), (2, .int unit)] := hl
  refine lv_aload_n hx hb d_Q_isOpenFor_0 rfl (lv_at hl 0 rfl) ?_
  refine lv_iload_n hx hb d_Q_isOpenFor_1 rfl (lv_at hl 1 rfl) ?_
  refine z_rv (As := [.int number]) (rest := []) E hN hK hP hl.1 (c_Q_has l D cI a c V number hc) [0, 1, 2, 3, 4, 5, 6] rfl 0 rfl rfl kz_Q_38 rfl ⟨Nat.le_of_ble_eq_true rfl, Nat.le_of_ble_eq_true rfl⟩ rfl (Nat.le_of_ble_eq_true rfl) ⟨Nat.zero_le _, Nat.zero_le _⟩ d_Q_isOpenFor_2 ?_
  refine lv_if_eq (tgt := 31) hx hb d_Q_isOpenFor_5 (by decide) (fun c_1 => ?_) (fun c_1 => ?_)
  · refine lv_iconst (v := 0) hx hb d_Q_isOpenFor_31 (by decide) ?_
    exact zR.zret E hrt hlk rfl (by unfold f_Q_isOpenFor; rw [if_pos c_1]) d_Q_isOpenFor_32
  · refine lv_aload_n hx hb d_Q_isOpenFor_8 rfl (lv_at hl 0 rfl) ?_
    refine z_get (v := .ref (a 2)) E hK hP i_Q 0 1 rfl rfl (by decide) kf_Q_15 rfl d_Q_isOpenFor_9 ?_
    refine lv_iload_n hx hb d_Q_isOpenFor_12 rfl (lv_at hl 1 rfl) ?_
    refine z_ald (f := V 1) E hK hP 2 0 rfl rfl (in_has hc c_1) d_Q_isOpenFor_13 ?_
    refine lv_iload_n hx hb d_Q_isOpenFor_14 rfl (lv_at hl 2 rfl) ?_
    refine lv_icmp_ne (tgt := 31) hx hb d_Q_isOpenFor_15 (by decide) (fun c_2 => ?_) (fun c_2 => ?_)
    · refine lv_iconst (v := 0) hx hb d_Q_isOpenFor_31 (by decide) ?_
      exact zR.zret E hrt hlk rfl (by unfold f_Q_isOpenFor; rw [if_neg c_1, if_neg c_2]) d_Q_isOpenFor_32
    · refine lv_aload_n hx hb d_Q_isOpenFor_18 rfl (lv_at hl 0 rfl) ?_
      refine z_get (v := .ref (a 3)) E hK hP i_Q 0 2 rfl rfl (by decide) kf_Q_18 rfl d_Q_isOpenFor_19 ?_
      refine lv_iload_n hx hb d_Q_isOpenFor_22 rfl (lv_at hl 1 rfl) ?_
      refine z_ald (f := V 2) E hK hP 3 0 rfl rfl (in_has hc c_1) d_Q_isOpenFor_23 ?_
      refine lv_if_ne (tgt := 31) hx hb d_Q_isOpenFor_24 (by decide) (fun c_3 => ?_) (fun c_3 => ?_)
      · refine lv_iconst (v := 0) hx hb d_Q_isOpenFor_31 (by decide) ?_
        exact zR.zret E hrt hlk rfl (by unfold f_Q_isOpenFor; rw [if_neg c_1, if_pos c_2, if_neg c_3]) d_Q_isOpenFor_32
      · refine lv_iconst (v := 1) hx hb d_Q_isOpenFor_27 (by decide) ?_
        refine lv_goto (tgt := 32) hx hb d_Q_isOpenFor_28 (by decide) ?_
        exact zR.zret E hrt hlk rfl (by unfold f_Q_isOpenFor; rw [if_neg c_1, if_pos c_2, if_pos c_3]) d_Q_isOpenFor_32
def f_Q_isRunningBy (c : Nat) (V : Nat → Nat → Int32) (number : Int32) (person : Int32) : Int32 := (if (f_Q_has c number) = 0 then 0 else (if (V 0 number.toNatClampNeg) = person then (if 2 < (V 2 number.toNatClampNeg) then 0 else 1) else 0))
set_option maxHeartbeats 4000000 in
set_option maxRecDepth 100000 in
theorem c_Q_isRunningBy (l : Launch) (D : va_G) (cI : ClassId) (a : Nat → Nat) (c : Nat) (V : Nat → Nat → Int32) (number : Int32) (person : Int32) (hc : c ≤ 300) : zR l D [(cI, .int)] y_Q_isRunningBy b_Q_isRunningBy 3 (some .boolean) 2 43 [.ref (a 0), .int number, .int person] (wQ a cI (nI c) V) (f_Q_isRunningBy c V number person) := by
  refine zR.of (by decide) (Nat.le_of_ble_eq_true rfl) ?_
  intro p e s m below meth c0 ls E hrt hlk hN hK hP hl
  have hx := E.1
  have hb := E.2.1
  have hl : lv_has ls 3 [(0, .ref (a 0)), (1, .int number), (2, .int person)] := hl
  refine lv_aload_n hx hb d_Q_isRunningBy_0 rfl (lv_at hl 0 rfl) ?_
  refine lv_iload_n hx hb d_Q_isRunningBy_1 rfl (lv_at hl 1 rfl) ?_
  refine z_rv (As := [.int number]) (rest := []) E hN hK hP hl.1 (c_Q_has l D cI a c V number hc) [0, 1, 2, 3, 4, 5, 6] rfl 0 rfl rfl kz_Q_38 rfl ⟨Nat.le_of_ble_eq_true rfl, Nat.le_of_ble_eq_true rfl⟩ rfl (Nat.le_of_ble_eq_true rfl) ⟨Nat.zero_le _, Nat.zero_le _⟩ d_Q_isRunningBy_2 ?_
  refine lv_if_eq (tgt := 32) hx hb d_Q_isRunningBy_5 (by decide) (fun c_1 => ?_) (fun c_1 => ?_)
  · refine lv_iconst (v := 0) hx hb d_Q_isRunningBy_32 (by decide) ?_
    exact zR.zret E hrt hlk rfl (by unfold f_Q_isRunningBy; rw [if_pos c_1]) d_Q_isRunningBy_33
  · refine lv_aload_n hx hb d_Q_isRunningBy_8 rfl (lv_at hl 0 rfl) ?_
    refine z_get (v := .ref (a 1)) E hK hP i_Q 0 0 rfl rfl (by decide) kf_Q_9 rfl d_Q_isRunningBy_9 ?_
    refine lv_iload_n hx hb d_Q_isRunningBy_12 rfl (lv_at hl 1 rfl) ?_
    refine z_ald (f := V 0) E hK hP 1 0 rfl rfl (in_has hc c_1) d_Q_isRunningBy_13 ?_
    refine lv_iload_n hx hb d_Q_isRunningBy_14 rfl (lv_at hl 2 rfl) ?_
    refine lv_icmp_ne (tgt := 32) hx hb d_Q_isRunningBy_15 (by decide) (fun c_2 => ?_) (fun c_2 => ?_)
    · refine lv_iconst (v := 0) hx hb d_Q_isRunningBy_32 (by decide) ?_
      exact zR.zret E hrt hlk rfl (by unfold f_Q_isRunningBy; rw [if_neg c_1, if_neg c_2]) d_Q_isRunningBy_33
    · refine lv_aload_n hx hb d_Q_isRunningBy_18 rfl (lv_at hl 0 rfl) ?_
      refine z_get (v := .ref (a 3)) E hK hP i_Q 0 2 rfl rfl (by decide) kf_Q_18 rfl d_Q_isRunningBy_19 ?_
      refine lv_iload_n hx hb d_Q_isRunningBy_22 rfl (lv_at hl 1 rfl) ?_
      refine z_ald (f := V 2) E hK hP 3 0 rfl rfl (in_has hc c_1) d_Q_isRunningBy_23 ?_
      refine lv_iconst (v := 2) hx hb d_Q_isRunningBy_24 (by decide) ?_
      refine lv_icmp_gt (tgt := 32) hx hb d_Q_isRunningBy_25 (by decide) (fun c_3 => ?_) (fun c_3 => ?_)
      · refine lv_iconst (v := 0) hx hb d_Q_isRunningBy_32 (by decide) ?_
        exact zR.zret E hrt hlk rfl (by unfold f_Q_isRunningBy; rw [if_neg c_1, if_pos c_2, if_pos c_3]) d_Q_isRunningBy_33
      · refine lv_iconst (v := 1) hx hb d_Q_isRunningBy_28 (by decide) ?_
        refine lv_goto (tgt := 33) hx hb d_Q_isRunningBy_29 (by decide) ?_
        exact zR.zret E hrt hlk rfl (by unfold f_Q_isRunningBy; rw [if_neg c_1, if_pos c_2, if_neg c_3]) d_Q_isRunningBy_33
def f_Q_isRunning_L (c : Nat) (V : Nat → Nat → Int32) (person : Int32) (unit : Int32) : Nat → Nat → Int32
  | 0, k0 => 0
  | d + 1, k0 => (if (f_Q_isRunningBy c V (nI k0) person) = 0 then (f_Q_isRunning_L c V person unit d (k0 + 1)) else (if (V 1 k0) = unit then 1 else (f_Q_isRunning_L c V person unit d (k0 + 1))))
theorem f_Q_isRunning_L_0 (c : Nat) (V : Nat → Nat → Int32) (person : Int32) (unit : Int32) (k0 : Nat)  : f_Q_isRunning_L c V person unit 0 k0  = 0 := rfl
theorem f_Q_isRunning_L_s (c : Nat) (V : Nat → Nat → Int32) (person : Int32) (unit : Int32) (d k0 : Nat)  : f_Q_isRunning_L c V person unit (d + 1) k0  = (if (f_Q_isRunningBy c V (nI k0) person) = 0 then (f_Q_isRunning_L c V person unit d (k0 + 1)) else (if (V 1 k0) = unit then 1 else (f_Q_isRunning_L c V person unit d (k0 + 1)))) := rfl
def f_Q_isRunning (c : Nat) (V : Nat → Nat → Int32) (person : Int32) (unit : Int32) : Int32 := (f_Q_isRunning_L c V person unit c 0)
set_option maxHeartbeats 4000000 in
set_option maxRecDepth 100000 in
theorem lp_Q_isRunning (l : Launch) (D : va_G) (cI : ClassId) (a : Nat → Nat) (c : Nat) (V : Nat → Nat → Int32) (person : Int32) (unit : Int32) (hc : c ≤ 300) {p : Program} {e : Env} {s : State} {m : MethodId} {below : List Frame} {meth : Method} {c0 : Code} (E : CallFix p m c0 b_Q_isRunning 4 s ([.ref (a 0), .int person, .int unit] : List Value).toArray zB y_Q_isRunning.cls) (hrt : meth.sig.returnType = (some .boolean)) (hlk : meth.locks = false) (hN : zN s) (hK : va_K D vwCl [(cI, .int)] s) (hP : va_P D vwCl (wQ a cI (nI c) V) s.heap) :
    ∀ (d k0 : Nat) , k0 + d = c → ∀ r : Int32, f_Q_isRunning_L c V person unit d k0  = r → ∀ ls : Array Slot, lv_has ls 4 [(3, .int (nI k0)), (0, .ref (a 0)), (1, .int person), (2, .int unit)] → W p l e { frames := 3, cells := 0, slots := 0, locals := 65 } s m ([.ref (a 0), .int person, .int unit] : List Value).toArray below meth c0 s.heap [] 0 0 (MQ below (QcRead r) ([.ref (a 0), .int person, .int unit] : List Value).toArray s 0 0 (fun _ => False)) (F0 m 2 ls []) := by
  have hx := E.1
  have hb := E.2.1
  intro d
  induction d with
  | zero =>
    intro k0  hkd r hr ls hl
    refine lv_iload_n hx hb d_Q_isRunning_2 rfl (lv_at hl 0 rfl) ?_
    refine lv_aload_n hx hb d_Q_isRunning_3 rfl (lv_at hl 1 rfl) ?_
    refine z_get (v := .int (nI c)) E hK hP i_Q 0 6 rfl rfl (by decide) kf_Q_30 rfl d_Q_isRunning_4 ?_
    refine lv_icmp_ge (tgt := 37) hx hb d_Q_isRunning_7 (by decide) (fun c_1 => ?_) (fun c_1 => absurd (nI_le (by omega) (by omega)) c_1)
    refine lv_iconst (v := 0) hx hb d_Q_isRunning_37 (by decide) ?_
    exact zR.zret E hrt hlk rfl (by rw [← hr, f_Q_isRunning_L_0]) d_Q_isRunning_38
  | succ d ih =>
    intro k0  hkd r hr ls hl
    refine lv_iload_n hx hb d_Q_isRunning_2 rfl (lv_at hl 0 rfl) ?_
    refine lv_aload_n hx hb d_Q_isRunning_3 rfl (lv_at hl 1 rfl) ?_
    refine z_get (v := .int (nI c)) E hK hP i_Q 0 6 rfl rfl (by decide) kf_Q_30 rfl d_Q_isRunning_4 ?_
    refine lv_icmp_ge (tgt := 37) hx hb d_Q_isRunning_7 (by decide) (fun c_2 => absurd c_2 (nI_ge (by omega) (by omega))) (fun c_2 => ?_)
    refine lv_aload_n hx hb d_Q_isRunning_10 rfl (lv_at hl 1 rfl) ?_
    refine lv_iload_n hx hb d_Q_isRunning_11 rfl (lv_at hl 0 rfl) ?_
    refine lv_iload_n hx hb d_Q_isRunning_12 rfl (lv_at hl 2 rfl) ?_
    refine z_rv (As := [.int (nI k0), .int person]) (rest := []) E hN hK hP hl.1 (c_Q_isRunningBy l D cI a c V (nI k0) person hc) [0, 1, 2, 3, 4, 5, 6] rfl 0 rfl rfl kz_Q_42 rfl ⟨Nat.le_of_ble_eq_true rfl, Nat.le_of_ble_eq_true rfl⟩ rfl (Nat.le_of_ble_eq_true rfl) ⟨Nat.zero_le _, Nat.zero_le _⟩ d_Q_isRunning_13 ?_
    refine lv_if_eq (tgt := 31) hx hb d_Q_isRunning_16 (by decide) (fun c_3 => ?_) (fun c_3 => ?_)
    · refine lv_iinc (v := nI (k0 + 1)) (lv' := [(3, .int (nI (k0 + 1))), (0, .ref (a 0)), (1, .int person), (2, .int unit)]) hx hb d_Q_isRunning_31 hl (k := 0) rfl (nI_1 _) (by decide) rfl (fun ls hl => ?_)
      refine lv_goto (tgt := 2) hx hb d_Q_isRunning_34 (by decide) ?_
      exact ih (k0 + 1)  (by omega) r (by rw [← hr, f_Q_isRunning_L_s, if_pos c_3]) ls (lv_sub hl [0, 1, 2, 3] rfl)
    · refine lv_aload_n hx hb d_Q_isRunning_19 rfl (lv_at hl 1 rfl) ?_
      refine z_get (v := .ref (a 2)) E hK hP i_Q 0 1 rfl rfl (by decide) kf_Q_15 rfl d_Q_isRunning_20 ?_
      refine lv_iload_n hx hb d_Q_isRunning_23 rfl (lv_at hl 0 rfl) ?_
      refine z_aldN (f := V 1) (j := k0) E hK hP 2 0 rfl rfl rfl (by omega) (by decide) d_Q_isRunning_24 ?_
      refine lv_iload_n hx hb d_Q_isRunning_25 rfl (lv_at hl 3 rfl) ?_
      refine lv_icmp_ne (tgt := 31) hx hb d_Q_isRunning_26 (by decide) (fun c_4 => ?_) (fun c_4 => ?_)
      · refine lv_iinc (v := nI (k0 + 1)) (lv' := [(3, .int (nI (k0 + 1))), (0, .ref (a 0)), (1, .int person), (2, .int unit)]) hx hb d_Q_isRunning_31 hl (k := 0) rfl (nI_1 _) (by decide) rfl (fun ls hl => ?_)
        refine lv_goto (tgt := 2) hx hb d_Q_isRunning_34 (by decide) ?_
        exact ih (k0 + 1)  (by omega) r (by rw [← hr, f_Q_isRunning_L_s, if_neg c_3, if_neg c_4]) ls (lv_sub hl [0, 1, 2, 3] rfl)
      · refine lv_iconst (v := 1) hx hb d_Q_isRunning_29 (by decide) ?_
        exact zR.zret E hrt hlk rfl (by rw [← hr, f_Q_isRunning_L_s, if_neg c_3, if_pos c_4]) d_Q_isRunning_30
set_option maxHeartbeats 4000000 in
set_option maxRecDepth 100000 in
theorem c_Q_isRunning (l : Launch) (D : va_G) (cI : ClassId) (a : Nat → Nat) (c : Nat) (V : Nat → Nat → Int32) (person : Int32) (unit : Int32) (hc : c ≤ 300) : zR l D [(cI, .int)] y_Q_isRunning b_Q_isRunning 4 (some .boolean) 3 65 [.ref (a 0), .int person, .int unit] (wQ a cI (nI c) V) (f_Q_isRunning c V person unit) := by
  refine zR.of (by decide) (Nat.le_of_ble_eq_true rfl) ?_
  intro p e s m below meth c0 ls E hrt hlk hN hK hP hl
  have hx := E.1
  have hb := E.2.1
  have hl : lv_has ls 4 [(0, .ref (a 0)), (1, .int person), (2, .int unit)] := hl
  refine lv_iconst (v := 0) hx hb d_Q_isRunning_0 (by decide) ?_
  refine lv_istore_n (lv' := [(3, .int 0), (0, .ref (a 0)), (1, .int person), (2, .int unit)]) hx hb d_Q_isRunning_1 rfl hl (by decide) rfl (fun ls hl => ?_)
  exact lp_Q_isRunning l D cI a c V person unit hc E hrt hlk hN hK hP c 0  (by omega) _ (by rfl) ls (by rw [nI_0]; exact lv_sub hl [0, 1, 2, 3] rfl)
def f_Q_countRunning_L (c : Nat) (V : Nat → Nat → Int32) (person : Int32) : Nat → Nat → Int32 → Int32
  | 0, k0, x2 => x2
  | d + 1, k0, x2 => (if (f_Q_isRunningBy c V (nI k0) person) = 0 then (f_Q_countRunning_L c V person d (k0 + 1) x2) else (f_Q_countRunning_L c V person d (k0 + 1) (x2 + 1)))
theorem f_Q_countRunning_L_0 (c : Nat) (V : Nat → Nat → Int32) (person : Int32) (k0 : Nat) (x2 : Int32) : f_Q_countRunning_L c V person 0 k0 x2 = x2 := rfl
theorem f_Q_countRunning_L_s (c : Nat) (V : Nat → Nat → Int32) (person : Int32) (d k0 : Nat) (x2 : Int32) : f_Q_countRunning_L c V person (d + 1) k0 x2 = (if (f_Q_isRunningBy c V (nI k0) person) = 0 then (f_Q_countRunning_L c V person d (k0 + 1) x2) else (f_Q_countRunning_L c V person d (k0 + 1) (x2 + 1))) := rfl
def f_Q_countRunning (c : Nat) (V : Nat → Nat → Int32) (person : Int32) : Int32 := (f_Q_countRunning_L c V person c 0 0)
set_option maxHeartbeats 4000000 in
set_option maxRecDepth 100000 in
theorem lp_Q_countRunning (l : Launch) (D : va_G) (cI : ClassId) (a : Nat → Nat) (c : Nat) (V : Nat → Nat → Int32) (person : Int32) (hc : c ≤ 300) {p : Program} {e : Env} {s : State} {m : MethodId} {below : List Frame} {meth : Method} {c0 : Code} (E : CallFix p m c0 b_Q_countRunning 4 s ([.ref (a 0), .int person] : List Value).toArray zB y_Q_countRunning.cls) (hrt : meth.sig.returnType = (some .int)) (hlk : meth.locks = false) (hN : zN s) (hK : va_K D vwCl [(cI, .int)] s) (hP : va_P D vwCl (wQ a cI (nI c) V) s.heap) :
    ∀ (d k0 : Nat) (x2 : Int32), k0 + d = c → ∀ r : Int32, f_Q_countRunning_L c V person d k0 x2 = r → ∀ ls : Array Slot, lv_has ls 4 [(3, .int (nI k0)), (2, .int x2), (0, .ref (a 0)), (1, .int person)] → W p l e { frames := 3, cells := 0, slots := 0, locals := 65 } s m ([.ref (a 0), .int person] : List Value).toArray below meth c0 s.heap [] 0 0 (MQ below (QcRead r) ([.ref (a 0), .int person] : List Value).toArray s 0 0 (fun _ => False)) (F0 m 4 ls []) := by
  have hx := E.1
  have hb := E.2.1
  intro d
  induction d with
  | zero =>
    intro k0 x2 hkd r hr ls hl
    refine lv_iload_n hx hb d_Q_countRunning_4 rfl (lv_at hl 0 rfl) ?_
    refine lv_aload_n hx hb d_Q_countRunning_5 rfl (lv_at hl 2 rfl) ?_
    refine z_get (v := .int (nI c)) E hK hP i_Q 0 6 rfl rfl (by decide) kf_Q_30 rfl d_Q_countRunning_6 ?_
    refine lv_icmp_ge (tgt := 30) hx hb d_Q_countRunning_9 (by decide) (fun c_1 => ?_) (fun c_1 => absurd (nI_le (by omega) (by omega)) c_1)
    refine lv_iload_n hx hb d_Q_countRunning_30 rfl (lv_at hl 1 rfl) ?_
    exact zR.iret E hrt hlk (by rw [← hr, f_Q_countRunning_L_0]) d_Q_countRunning_31
  | succ d ih =>
    intro k0 x2 hkd r hr ls hl
    refine lv_iload_n hx hb d_Q_countRunning_4 rfl (lv_at hl 0 rfl) ?_
    refine lv_aload_n hx hb d_Q_countRunning_5 rfl (lv_at hl 2 rfl) ?_
    refine z_get (v := .int (nI c)) E hK hP i_Q 0 6 rfl rfl (by decide) kf_Q_30 rfl d_Q_countRunning_6 ?_
    refine lv_icmp_ge (tgt := 30) hx hb d_Q_countRunning_9 (by decide) (fun c_2 => absurd c_2 (nI_ge (by omega) (by omega))) (fun c_2 => ?_)
    refine lv_aload_n hx hb d_Q_countRunning_12 rfl (lv_at hl 2 rfl) ?_
    refine lv_iload_n hx hb d_Q_countRunning_13 rfl (lv_at hl 0 rfl) ?_
    refine lv_iload_n hx hb d_Q_countRunning_14 rfl (lv_at hl 3 rfl) ?_
    refine z_rv (As := [.int (nI k0), .int person]) (rest := []) E hN hK hP hl.1 (c_Q_isRunningBy l D cI a c V (nI k0) person hc) [0, 1, 2, 3, 4, 5, 6] rfl 0 rfl rfl kz_Q_42 rfl ⟨Nat.le_of_ble_eq_true rfl, Nat.le_of_ble_eq_true rfl⟩ rfl (Nat.le_of_ble_eq_true rfl) ⟨Nat.zero_le _, Nat.zero_le _⟩ d_Q_countRunning_15 ?_
    refine lv_if_eq (tgt := 24) hx hb d_Q_countRunning_18 (by decide) (fun c_3 => ?_) (fun c_3 => ?_)
    · refine lv_iinc (v := nI (k0 + 1)) (lv' := [(3, .int (nI (k0 + 1))), (2, .int x2), (0, .ref (a 0)), (1, .int person)]) hx hb d_Q_countRunning_24 hl (k := 0) rfl (nI_1 _) (by decide) rfl (fun ls hl => ?_)
      refine lv_goto (tgt := 4) hx hb d_Q_countRunning_27 (by decide) ?_
      exact ih (k0 + 1) x2 (by omega) r (by rw [← hr, f_Q_countRunning_L_s, if_pos c_3]) ls (lv_sub hl [0, 1, 2, 3] rfl)
    · refine lv_iinc (v := x2 + 1) (lv' := [(2, .int (x2 + 1)), (3, .int (nI k0)), (0, .ref (a 0)), (1, .int person)]) hx hb d_Q_countRunning_21 hl (k := 1) rfl rfl (by decide) rfl (fun ls hl => ?_)
      refine lv_iinc (v := nI (k0 + 1)) (lv' := [(3, .int (nI (k0 + 1))), (2, .int (x2 + 1)), (0, .ref (a 0)), (1, .int person)]) hx hb d_Q_countRunning_24 hl (k := 1) rfl (nI_1 _) (by decide) rfl (fun ls hl => ?_)
      refine lv_goto (tgt := 4) hx hb d_Q_countRunning_27 (by decide) ?_
      exact ih (k0 + 1) (x2 + 1) (by omega) r (by rw [← hr, f_Q_countRunning_L_s, if_neg c_3]) ls (lv_sub hl [0, 1, 2, 3] rfl)
set_option maxHeartbeats 4000000 in
set_option maxRecDepth 100000 in
theorem c_Q_countRunning (l : Launch) (D : va_G) (cI : ClassId) (a : Nat → Nat) (c : Nat) (V : Nat → Nat → Int32) (person : Int32) (hc : c ≤ 300) : zR l D [(cI, .int)] y_Q_countRunning b_Q_countRunning 4 (some .int) 3 65 [.ref (a 0), .int person] (wQ a cI (nI c) V) (f_Q_countRunning c V person) := by
  refine zR.of (by decide) (Nat.le_of_ble_eq_true rfl) ?_
  intro p e s m below meth c0 ls E hrt hlk hN hK hP hl
  have hx := E.1
  have hb := E.2.1
  have hl : lv_has ls 4 [(0, .ref (a 0)), (1, .int person)] := hl
  refine lv_iconst (v := 0) hx hb d_Q_countRunning_0 (by decide) ?_
  refine lv_istore_n (lv' := [(2, .int 0), (0, .ref (a 0)), (1, .int person)]) hx hb d_Q_countRunning_1 rfl hl (by decide) rfl (fun ls hl => ?_)
  refine lv_iconst (v := 0) hx hb d_Q_countRunning_2 (by decide) ?_
  refine lv_istore_n (lv' := [(3, .int 0), (2, .int 0), (0, .ref (a 0)), (1, .int person)]) hx hb d_Q_countRunning_3 rfl hl (by decide) rfl (fun ls hl => ?_)
  exact lp_Q_countRunning l D cI a c V person hc E hrt hlk hN hK hP c 0 0 (by omega) _ (by rfl) ls (by rw [nI_0]; exact lv_sub hl [0, 1, 2, 3] rfl)
def f_Q_countHandedOut_L (V : Nat → Nat → Int32) (person : Int32) : Nat → Nat → Int32 → Int32
  | 0, k0, x2 => x2
  | d + 1, k0, x2 => (if (V 0 k0) = person then (if (V 2 k0) = 2 then (f_Q_countHandedOut_L V person d (k0 + 1) (x2 + 1)) else (f_Q_countHandedOut_L V person d (k0 + 1) x2)) else (f_Q_countHandedOut_L V person d (k0 + 1) x2))
theorem f_Q_countHandedOut_L_0 (V : Nat → Nat → Int32) (person : Int32) (k0 : Nat) (x2 : Int32) : f_Q_countHandedOut_L V person 0 k0 x2 = x2 := rfl
theorem f_Q_countHandedOut_L_s (V : Nat → Nat → Int32) (person : Int32) (d k0 : Nat) (x2 : Int32) : f_Q_countHandedOut_L V person (d + 1) k0 x2 = (if (V 0 k0) = person then (if (V 2 k0) = 2 then (f_Q_countHandedOut_L V person d (k0 + 1) (x2 + 1)) else (f_Q_countHandedOut_L V person d (k0 + 1) x2)) else (f_Q_countHandedOut_L V person d (k0 + 1) x2)) := rfl
def f_Q_countHandedOut (c : Nat) (V : Nat → Nat → Int32) (person : Int32) : Int32 := (f_Q_countHandedOut_L V person c 0 0)
set_option maxHeartbeats 4000000 in
set_option maxRecDepth 100000 in
theorem lp_Q_countHandedOut (l : Launch) (D : va_G) (cI : ClassId) (a : Nat → Nat) (c : Nat) (V : Nat → Nat → Int32) (person : Int32) (hc : c ≤ 300) {p : Program} {e : Env} {s : State} {m : MethodId} {below : List Frame} {meth : Method} {c0 : Code} (E : CallFix p m c0 b_Q_countHandedOut 4 s ([.ref (a 0), .int person] : List Value).toArray zB y_Q_countHandedOut.cls) (hrt : meth.sig.returnType = (some .int)) (hlk : meth.locks = false) (hN : zN s) (hK : va_K D vwCl [(cI, .int)] s) (hP : va_P D vwCl (wQ a cI (nI c) V) s.heap) :
    ∀ (d k0 : Nat) (x2 : Int32), k0 + d = c → ∀ r : Int32, f_Q_countHandedOut_L V person d k0 x2 = r → ∀ ls : Array Slot, lv_has ls 4 [(3, .int (nI k0)), (2, .int x2), (0, .ref (a 0)), (1, .int person)] → W p l e { frames := 0, cells := 0, slots := 0, locals := 0 } s m ([.ref (a 0), .int person] : List Value).toArray below meth c0 s.heap [] 0 0 (MQ below (QcRead r) ([.ref (a 0), .int person] : List Value).toArray s 0 0 (fun _ => False)) (F0 m 4 ls []) := by
  have hx := E.1
  have hb := E.2.1
  intro d
  induction d with
  | zero =>
    intro k0 x2 hkd r hr ls hl
    refine lv_iload_n hx hb d_Q_countHandedOut_4 rfl (lv_at hl 0 rfl) ?_
    refine lv_aload_n hx hb d_Q_countHandedOut_5 rfl (lv_at hl 2 rfl) ?_
    refine z_get (v := .int (nI c)) E hK hP i_Q 0 6 rfl rfl (by decide) kf_Q_30 rfl d_Q_countHandedOut_6 ?_
    refine lv_icmp_ge (tgt := 41) hx hb d_Q_countHandedOut_9 (by decide) (fun c_1 => ?_) (fun c_1 => absurd (nI_le (by omega) (by omega)) c_1)
    refine lv_iload_n hx hb d_Q_countHandedOut_41 rfl (lv_at hl 1 rfl) ?_
    exact zR.iret E hrt hlk (by rw [← hr, f_Q_countHandedOut_L_0]) d_Q_countHandedOut_42
  | succ d ih =>
    intro k0 x2 hkd r hr ls hl
    refine lv_iload_n hx hb d_Q_countHandedOut_4 rfl (lv_at hl 0 rfl) ?_
    refine lv_aload_n hx hb d_Q_countHandedOut_5 rfl (lv_at hl 2 rfl) ?_
    refine z_get (v := .int (nI c)) E hK hP i_Q 0 6 rfl rfl (by decide) kf_Q_30 rfl d_Q_countHandedOut_6 ?_
    refine lv_icmp_ge (tgt := 41) hx hb d_Q_countHandedOut_9 (by decide) (fun c_2 => absurd c_2 (nI_ge (by omega) (by omega))) (fun c_2 => ?_)
    refine lv_aload_n hx hb d_Q_countHandedOut_12 rfl (lv_at hl 2 rfl) ?_
    refine z_get (v := .ref (a 1)) E hK hP i_Q 0 0 rfl rfl (by decide) kf_Q_9 rfl d_Q_countHandedOut_13 ?_
    refine lv_iload_n hx hb d_Q_countHandedOut_16 rfl (lv_at hl 0 rfl) ?_
    refine z_aldN (f := V 0) (j := k0) E hK hP 1 0 rfl rfl rfl (by omega) (by decide) d_Q_countHandedOut_17 ?_
    refine lv_iload_n hx hb d_Q_countHandedOut_18 rfl (lv_at hl 3 rfl) ?_
    refine lv_icmp_ne (tgt := 35) hx hb d_Q_countHandedOut_19 (by decide) (fun c_3 => ?_) (fun c_3 => ?_)
    · refine lv_iinc (v := nI (k0 + 1)) (lv' := [(3, .int (nI (k0 + 1))), (2, .int x2), (0, .ref (a 0)), (1, .int person)]) hx hb d_Q_countHandedOut_35 hl (k := 0) rfl (nI_1 _) (by decide) rfl (fun ls hl => ?_)
      refine lv_goto (tgt := 4) hx hb d_Q_countHandedOut_38 (by decide) ?_
      exact ih (k0 + 1) x2 (by omega) r (by rw [← hr, f_Q_countHandedOut_L_s, if_neg c_3]) ls (lv_sub hl [0, 1, 2, 3] rfl)
    · refine lv_aload_n hx hb d_Q_countHandedOut_22 rfl (lv_at hl 2 rfl) ?_
      refine z_get (v := .ref (a 3)) E hK hP i_Q 0 2 rfl rfl (by decide) kf_Q_18 rfl d_Q_countHandedOut_23 ?_
      refine lv_iload_n hx hb d_Q_countHandedOut_26 rfl (lv_at hl 0 rfl) ?_
      refine z_aldN (f := V 2) (j := k0) E hK hP 3 0 rfl rfl rfl (by omega) (by decide) d_Q_countHandedOut_27 ?_
      refine lv_iconst (v := 2) hx hb d_Q_countHandedOut_28 (by decide) ?_
      refine lv_icmp_ne (tgt := 35) hx hb d_Q_countHandedOut_29 (by decide) (fun c_4 => ?_) (fun c_4 => ?_)
      · refine lv_iinc (v := nI (k0 + 1)) (lv' := [(3, .int (nI (k0 + 1))), (2, .int x2), (0, .ref (a 0)), (1, .int person)]) hx hb d_Q_countHandedOut_35 hl (k := 0) rfl (nI_1 _) (by decide) rfl (fun ls hl => ?_)
        refine lv_goto (tgt := 4) hx hb d_Q_countHandedOut_38 (by decide) ?_
        exact ih (k0 + 1) x2 (by omega) r (by rw [← hr, f_Q_countHandedOut_L_s, if_pos c_3, if_neg c_4]) ls (lv_sub hl [0, 1, 2, 3] rfl)
      · refine lv_iinc (v := x2 + 1) (lv' := [(2, .int (x2 + 1)), (3, .int (nI k0)), (0, .ref (a 0)), (1, .int person)]) hx hb d_Q_countHandedOut_32 hl (k := 1) rfl rfl (by decide) rfl (fun ls hl => ?_)
        refine lv_iinc (v := nI (k0 + 1)) (lv' := [(3, .int (nI (k0 + 1))), (2, .int (x2 + 1)), (0, .ref (a 0)), (1, .int person)]) hx hb d_Q_countHandedOut_35 hl (k := 1) rfl (nI_1 _) (by decide) rfl (fun ls hl => ?_)
        refine lv_goto (tgt := 4) hx hb d_Q_countHandedOut_38 (by decide) ?_
        exact ih (k0 + 1) (x2 + 1) (by omega) r (by rw [← hr, f_Q_countHandedOut_L_s, if_pos c_3, if_pos c_4]) ls (lv_sub hl [0, 1, 2, 3] rfl)
set_option maxHeartbeats 4000000 in
set_option maxRecDepth 100000 in
theorem c_Q_countHandedOut (l : Launch) (D : va_G) (cI : ClassId) (a : Nat → Nat) (c : Nat) (V : Nat → Nat → Int32) (person : Int32) (hc : c ≤ 300) : zR l D [(cI, .int)] y_Q_countHandedOut b_Q_countHandedOut 4 (some .int) 0 0 [.ref (a 0), .int person] (wQ a cI (nI c) V) (f_Q_countHandedOut c V person) := by
  refine zR.of (by decide) (Nat.le_of_ble_eq_true rfl) ?_
  intro p e s m below meth c0 ls E hrt hlk hN hK hP hl
  have hx := E.1
  have hb := E.2.1
  have hl : lv_has ls 4 [(0, .ref (a 0)), (1, .int person)] := hl
  refine lv_iconst (v := 0) hx hb d_Q_countHandedOut_0 (by decide) ?_
  refine lv_istore_n (lv' := [(2, .int 0), (0, .ref (a 0)), (1, .int person)]) hx hb d_Q_countHandedOut_1 rfl hl (by decide) rfl (fun ls hl => ?_)
  refine lv_iconst (v := 0) hx hb d_Q_countHandedOut_2 (by decide) ?_
  refine lv_istore_n (lv' := [(3, .int 0), (2, .int 0), (0, .ref (a 0)), (1, .int person)]) hx hb d_Q_countHandedOut_3 rfl hl (by decide) rfl (fun ls hl => ?_)
  exact lp_Q_countHandedOut l D cI a c V person hc E hrt hlk hN hK hP c 0 0 (by omega) _ (by rfl) ls (by rw [nI_0]; exact lv_sub hl [0, 1, 2, 3] rfl)
def f_Q_countOpen_L (c : Nat) (V : Nat → Nat → Int32) (unit : Int32) : Nat → Nat → Int32 → Int32
  | 0, k0, x2 => x2
  | d + 1, k0, x2 => (if (f_Q_isOpenFor c V (nI k0) unit) = 0 then (f_Q_countOpen_L c V unit d (k0 + 1) x2) else (f_Q_countOpen_L c V unit d (k0 + 1) (x2 + 1)))
theorem f_Q_countOpen_L_0 (c : Nat) (V : Nat → Nat → Int32) (unit : Int32) (k0 : Nat) (x2 : Int32) : f_Q_countOpen_L c V unit 0 k0 x2 = x2 := rfl
theorem f_Q_countOpen_L_s (c : Nat) (V : Nat → Nat → Int32) (unit : Int32) (d k0 : Nat) (x2 : Int32) : f_Q_countOpen_L c V unit (d + 1) k0 x2 = (if (f_Q_isOpenFor c V (nI k0) unit) = 0 then (f_Q_countOpen_L c V unit d (k0 + 1) x2) else (f_Q_countOpen_L c V unit d (k0 + 1) (x2 + 1))) := rfl
def f_Q_countOpen (c : Nat) (V : Nat → Nat → Int32) (unit : Int32) : Int32 := (f_Q_countOpen_L c V unit c 0 0)
set_option maxHeartbeats 4000000 in
set_option maxRecDepth 100000 in
theorem lp_Q_countOpen (l : Launch) (D : va_G) (cI : ClassId) (a : Nat → Nat) (c : Nat) (V : Nat → Nat → Int32) (unit : Int32) (hc : c ≤ 300) {p : Program} {e : Env} {s : State} {m : MethodId} {below : List Frame} {meth : Method} {c0 : Code} (E : CallFix p m c0 b_Q_countOpen 4 s ([.ref (a 0), .int unit] : List Value).toArray zB y_Q_countOpen.cls) (hrt : meth.sig.returnType = (some .int)) (hlk : meth.locks = false) (hN : zN s) (hK : va_K D vwCl [(cI, .int)] s) (hP : va_P D vwCl (wQ a cI (nI c) V) s.heap) :
    ∀ (d k0 : Nat) (x2 : Int32), k0 + d = c → ∀ r : Int32, f_Q_countOpen_L c V unit d k0 x2 = r → ∀ ls : Array Slot, lv_has ls 4 [(3, .int (nI k0)), (2, .int x2), (0, .ref (a 0)), (1, .int unit)] → W p l e { frames := 3, cells := 0, slots := 0, locals := 65 } s m ([.ref (a 0), .int unit] : List Value).toArray below meth c0 s.heap [] 0 0 (MQ below (QcRead r) ([.ref (a 0), .int unit] : List Value).toArray s 0 0 (fun _ => False)) (F0 m 4 ls []) := by
  have hx := E.1
  have hb := E.2.1
  intro d
  induction d with
  | zero =>
    intro k0 x2 hkd r hr ls hl
    refine lv_iload_n hx hb d_Q_countOpen_4 rfl (lv_at hl 0 rfl) ?_
    refine lv_aload_n hx hb d_Q_countOpen_5 rfl (lv_at hl 2 rfl) ?_
    refine z_get (v := .int (nI c)) E hK hP i_Q 0 6 rfl rfl (by decide) kf_Q_30 rfl d_Q_countOpen_6 ?_
    refine lv_icmp_ge (tgt := 30) hx hb d_Q_countOpen_9 (by decide) (fun c_1 => ?_) (fun c_1 => absurd (nI_le (by omega) (by omega)) c_1)
    refine lv_iload_n hx hb d_Q_countOpen_30 rfl (lv_at hl 1 rfl) ?_
    exact zR.iret E hrt hlk (by rw [← hr, f_Q_countOpen_L_0]) d_Q_countOpen_31
  | succ d ih =>
    intro k0 x2 hkd r hr ls hl
    refine lv_iload_n hx hb d_Q_countOpen_4 rfl (lv_at hl 0 rfl) ?_
    refine lv_aload_n hx hb d_Q_countOpen_5 rfl (lv_at hl 2 rfl) ?_
    refine z_get (v := .int (nI c)) E hK hP i_Q 0 6 rfl rfl (by decide) kf_Q_30 rfl d_Q_countOpen_6 ?_
    refine lv_icmp_ge (tgt := 30) hx hb d_Q_countOpen_9 (by decide) (fun c_2 => absurd c_2 (nI_ge (by omega) (by omega))) (fun c_2 => ?_)
    refine lv_aload_n hx hb d_Q_countOpen_12 rfl (lv_at hl 2 rfl) ?_
    refine lv_iload_n hx hb d_Q_countOpen_13 rfl (lv_at hl 0 rfl) ?_
    refine lv_iload_n hx hb d_Q_countOpen_14 rfl (lv_at hl 3 rfl) ?_
    refine z_rv (As := [.int (nI k0), .int unit]) (rest := []) E hN hK hP hl.1 (c_Q_isOpenFor l D cI a c V (nI k0) unit hc) [0, 1, 2, 3, 4, 5, 6] rfl 0 rfl rfl kz_Q_46 rfl ⟨Nat.le_of_ble_eq_true rfl, Nat.le_of_ble_eq_true rfl⟩ rfl (Nat.le_of_ble_eq_true rfl) ⟨Nat.zero_le _, Nat.zero_le _⟩ d_Q_countOpen_15 ?_
    refine lv_if_eq (tgt := 24) hx hb d_Q_countOpen_18 (by decide) (fun c_3 => ?_) (fun c_3 => ?_)
    · refine lv_iinc (v := nI (k0 + 1)) (lv' := [(3, .int (nI (k0 + 1))), (2, .int x2), (0, .ref (a 0)), (1, .int unit)]) hx hb d_Q_countOpen_24 hl (k := 0) rfl (nI_1 _) (by decide) rfl (fun ls hl => ?_)
      refine lv_goto (tgt := 4) hx hb d_Q_countOpen_27 (by decide) ?_
      exact ih (k0 + 1) x2 (by omega) r (by rw [← hr, f_Q_countOpen_L_s, if_pos c_3]) ls (lv_sub hl [0, 1, 2, 3] rfl)
    · refine lv_iinc (v := x2 + 1) (lv' := [(2, .int (x2 + 1)), (3, .int (nI k0)), (0, .ref (a 0)), (1, .int unit)]) hx hb d_Q_countOpen_21 hl (k := 1) rfl rfl (by decide) rfl (fun ls hl => ?_)
      refine lv_iinc (v := nI (k0 + 1)) (lv' := [(3, .int (nI (k0 + 1))), (2, .int (x2 + 1)), (0, .ref (a 0)), (1, .int unit)]) hx hb d_Q_countOpen_24 hl (k := 1) rfl (nI_1 _) (by decide) rfl (fun ls hl => ?_)
      refine lv_goto (tgt := 4) hx hb d_Q_countOpen_27 (by decide) ?_
      exact ih (k0 + 1) (x2 + 1) (by omega) r (by rw [← hr, f_Q_countOpen_L_s, if_neg c_3]) ls (lv_sub hl [0, 1, 2, 3] rfl)
set_option maxHeartbeats 4000000 in
set_option maxRecDepth 100000 in
theorem c_Q_countOpen (l : Launch) (D : va_G) (cI : ClassId) (a : Nat → Nat) (c : Nat) (V : Nat → Nat → Int32) (unit : Int32) (hc : c ≤ 300) : zR l D [(cI, .int)] y_Q_countOpen b_Q_countOpen 4 (some .int) 3 65 [.ref (a 0), .int unit] (wQ a cI (nI c) V) (f_Q_countOpen c V unit) := by
  refine zR.of (by decide) (Nat.le_of_ble_eq_true rfl) ?_
  intro p e s m below meth c0 ls E hrt hlk hN hK hP hl
  have hx := E.1
  have hb := E.2.1
  have hl : lv_has ls 4 [(0, .ref (a 0)), (1, .int unit)] := hl
  refine lv_iconst (v := 0) hx hb d_Q_countOpen_0 (by decide) ?_
  refine lv_istore_n (lv' := [(2, .int 0), (0, .ref (a 0)), (1, .int unit)]) hx hb d_Q_countOpen_1 rfl hl (by decide) rfl (fun ls hl => ?_)
  refine lv_iconst (v := 0) hx hb d_Q_countOpen_2 (by decide) ?_
  refine lv_istore_n (lv' := [(3, .int 0), (2, .int 0), (0, .ref (a 0)), (1, .int unit)]) hx hb d_Q_countOpen_3 rfl hl (by decide) rfl (fun ls hl => ?_)
  exact lp_Q_countOpen l D cI a c V unit hc E hrt hlk hN hK hP c 0 0 (by omega) _ (by rfl) ls (by rw [nI_0]; exact lv_sub hl [0, 1, 2, 3] rfl)
def f_Q_openOf_L (c : Nat) (V : Nat → Nat → Int32) (unit : Int32) (index : Int32) : Nat → Nat → Int32 → Int32
  | 0, k0, x3 => (-1)
  | d + 1, k0, x3 => (if (f_Q_isOpenFor c V (nI k0) unit) = 0 then (f_Q_openOf_L c V unit index d (k0 + 1) x3) else (if x3 = index then (nI k0) else (f_Q_openOf_L c V unit index d (k0 + 1) (x3 + 1))))
theorem f_Q_openOf_L_0 (c : Nat) (V : Nat → Nat → Int32) (unit : Int32) (index : Int32) (k0 : Nat) (x3 : Int32) : f_Q_openOf_L c V unit index 0 k0 x3 = (-1) := rfl
theorem f_Q_openOf_L_s (c : Nat) (V : Nat → Nat → Int32) (unit : Int32) (index : Int32) (d k0 : Nat) (x3 : Int32) : f_Q_openOf_L c V unit index (d + 1) k0 x3 = (if (f_Q_isOpenFor c V (nI k0) unit) = 0 then (f_Q_openOf_L c V unit index d (k0 + 1) x3) else (if x3 = index then (nI k0) else (f_Q_openOf_L c V unit index d (k0 + 1) (x3 + 1)))) := rfl
def f_Q_openOf (c : Nat) (V : Nat → Nat → Int32) (unit : Int32) (index : Int32) : Int32 := (f_Q_openOf_L c V unit index c 0 0)
set_option maxHeartbeats 4000000 in
set_option maxRecDepth 100000 in
theorem lp_Q_openOf (l : Launch) (D : va_G) (cI : ClassId) (a : Nat → Nat) (c : Nat) (V : Nat → Nat → Int32) (unit : Int32) (index : Int32) (hc : c ≤ 300) {p : Program} {e : Env} {s : State} {m : MethodId} {below : List Frame} {meth : Method} {c0 : Code} (E : CallFix p m c0 b_Q_openOf 5 s ([.ref (a 0), .int unit, .int index] : List Value).toArray zB y_Q_openOf.cls) (hrt : meth.sig.returnType = (some .int)) (hlk : meth.locks = false) (hN : zN s) (hK : va_K D vwCl [(cI, .int)] s) (hP : va_P D vwCl (wQ a cI (nI c) V) s.heap) :
    ∀ (d k0 : Nat) (x3 : Int32), k0 + d = c → ∀ r : Int32, f_Q_openOf_L c V unit index d k0 x3 = r → ∀ ls : Array Slot, lv_has ls 5 [(4, .int (nI k0)), (3, .int x3), (0, .ref (a 0)), (1, .int unit), (2, .int index)] → W p l e { frames := 3, cells := 0, slots := 0, locals := 65 } s m ([.ref (a 0), .int unit, .int index] : List Value).toArray below meth c0 s.heap [] 0 0 (MQ below (QcRead r) ([.ref (a 0), .int unit, .int index] : List Value).toArray s 0 0 (fun _ => False)) (F0 m 5 ls []) := by
  have hx := E.1
  have hb := E.2.1
  intro d
  induction d with
  | zero =>
    intro k0 x3 hkd r hr ls hl
    refine lv_iload hx hb d_Q_openOf_5 (lv_at hl 0 rfl) ?_
    refine lv_aload_n hx hb d_Q_openOf_7 rfl (lv_at hl 2 rfl) ?_
    refine z_get (v := .int (nI c)) E hK hP i_Q 0 6 rfl rfl (by decide) kf_Q_30 rfl d_Q_openOf_8 ?_
    refine lv_icmp_ge (tgt := 41) hx hb d_Q_openOf_11 (by decide) (fun c_1 => ?_) (fun c_1 => absurd (nI_le (by omega) (by omega)) c_1)
    refine lv_iconst (v := (-1)) hx hb d_Q_openOf_41 (by decide) ?_
    exact zR.iret E hrt hlk (by rw [← hr, f_Q_openOf_L_0]) d_Q_openOf_42
  | succ d ih =>
    intro k0 x3 hkd r hr ls hl
    refine lv_iload hx hb d_Q_openOf_5 (lv_at hl 0 rfl) ?_
    refine lv_aload_n hx hb d_Q_openOf_7 rfl (lv_at hl 2 rfl) ?_
    refine z_get (v := .int (nI c)) E hK hP i_Q 0 6 rfl rfl (by decide) kf_Q_30 rfl d_Q_openOf_8 ?_
    refine lv_icmp_ge (tgt := 41) hx hb d_Q_openOf_11 (by decide) (fun c_2 => absurd c_2 (nI_ge (by omega) (by omega))) (fun c_2 => ?_)
    refine lv_aload_n hx hb d_Q_openOf_14 rfl (lv_at hl 2 rfl) ?_
    refine lv_iload hx hb d_Q_openOf_15 (lv_at hl 0 rfl) ?_
    refine lv_iload_n hx hb d_Q_openOf_17 rfl (lv_at hl 3 rfl) ?_
    refine z_rv (As := [.int (nI k0), .int unit]) (rest := []) E hN hK hP hl.1 (c_Q_isOpenFor l D cI a c V (nI k0) unit hc) [0, 1, 2, 3, 4, 5, 6] rfl 0 rfl rfl kz_Q_46 rfl ⟨Nat.le_of_ble_eq_true rfl, Nat.le_of_ble_eq_true rfl⟩ rfl (Nat.le_of_ble_eq_true rfl) ⟨Nat.zero_le _, Nat.zero_le _⟩ d_Q_openOf_18 ?_
    refine lv_if_eq (tgt := 35) hx hb d_Q_openOf_21 (by decide) (fun c_3 => ?_) (fun c_3 => ?_)
    · refine lv_iinc (v := nI (k0 + 1)) (lv' := [(4, .int (nI (k0 + 1))), (3, .int x3), (0, .ref (a 0)), (1, .int unit), (2, .int index)]) hx hb d_Q_openOf_35 hl (k := 0) rfl (nI_1 _) (by decide) rfl (fun ls hl => ?_)
      refine lv_goto (tgt := 5) hx hb d_Q_openOf_38 (by decide) ?_
      exact ih (k0 + 1) x3 (by omega) r (by rw [← hr, f_Q_openOf_L_s, if_pos c_3]) ls (lv_sub hl [0, 1, 2, 3, 4] rfl)
    · refine lv_iload_n hx hb d_Q_openOf_24 rfl (lv_at hl 1 rfl) ?_
      refine lv_iload_n hx hb d_Q_openOf_25 rfl (lv_at hl 4 rfl) ?_
      refine lv_icmp_ne (tgt := 32) hx hb d_Q_openOf_26 (by decide) (fun c_4 => ?_) (fun c_4 => ?_)
      · refine lv_iinc (v := x3 + 1) (lv' := [(3, .int (x3 + 1)), (4, .int (nI k0)), (0, .ref (a 0)), (1, .int unit), (2, .int index)]) hx hb d_Q_openOf_32 hl (k := 1) rfl rfl (by decide) rfl (fun ls hl => ?_)
        refine lv_iinc (v := nI (k0 + 1)) (lv' := [(4, .int (nI (k0 + 1))), (3, .int (x3 + 1)), (0, .ref (a 0)), (1, .int unit), (2, .int index)]) hx hb d_Q_openOf_35 hl (k := 1) rfl (nI_1 _) (by decide) rfl (fun ls hl => ?_)
        refine lv_goto (tgt := 5) hx hb d_Q_openOf_38 (by decide) ?_
        exact ih (k0 + 1) (x3 + 1) (by omega) r (by rw [← hr, f_Q_openOf_L_s, if_neg c_3, if_neg c_4]) ls (lv_sub hl [0, 1, 2, 3, 4] rfl)
      · refine lv_iload hx hb d_Q_openOf_29 (lv_at hl 0 rfl) ?_
        exact zR.iret E hrt hlk (by rw [← hr, f_Q_openOf_L_s, if_neg c_3, if_pos c_4]) d_Q_openOf_31
set_option maxHeartbeats 4000000 in
set_option maxRecDepth 100000 in
theorem c_Q_openOf (l : Launch) (D : va_G) (cI : ClassId) (a : Nat → Nat) (c : Nat) (V : Nat → Nat → Int32) (unit : Int32) (index : Int32) (hc : c ≤ 300) : zR l D [(cI, .int)] y_Q_openOf b_Q_openOf 5 (some .int) 3 65 [.ref (a 0), .int unit, .int index] (wQ a cI (nI c) V) (f_Q_openOf c V unit index) := by
  refine zR.of (by decide) (Nat.le_of_ble_eq_true rfl) ?_
  intro p e s m below meth c0 ls E hrt hlk hN hK hP hl
  have hx := E.1
  have hb := E.2.1
  have hl : lv_has ls 5 [(0, .ref (a 0)), (1, .int unit), (2, .int index)] := hl
  refine lv_iconst (v := 0) hx hb d_Q_openOf_0 (by decide) ?_
  refine lv_istore_n (lv' := [(3, .int 0), (0, .ref (a 0)), (1, .int unit), (2, .int index)]) hx hb d_Q_openOf_1 rfl hl (by decide) rfl (fun ls hl => ?_)
  refine lv_iconst (v := 0) hx hb d_Q_openOf_2 (by decide) ?_
  refine lv_istore (lv' := [(4, .int 0), (3, .int 0), (0, .ref (a 0)), (1, .int unit), (2, .int index)]) hx hb d_Q_openOf_3 hl (by decide) rfl (fun ls hl => ?_)
  exact lp_Q_openOf l D cI a c V unit index hc E hrt hlk hN hK hP c 0 0 (by omega) _ (by rfl) ls (by rw [nI_0]; exact lv_sub hl [0, 1, 2, 3, 4] rfl)
def f_Q_add (c : Nat) (V : Nat → Nat → Int32) (person : Int32) (unit : Int32) (t : Int32) : Int32 × Int32 × (Nat → Nat → Int32) := (if (f_Q_isFull c) = 0 then (nI c, (nI c) + 1, up2 (up2 (up2 (up2 (up2 (up2 V 0 c person) 1 c unit) 2 c 0) 3 c t) 4 c (-1)) 5 c (-1)) else ((-4), nI c, V))
set_option maxHeartbeats 4000000 in
set_option maxRecDepth 100000 in
theorem c_Q_add (l : Launch) (D : va_G) (cI : ClassId) (a : Nat → Nat) (c : Nat) (V : Nat → Nat → Int32) (person : Int32) (unit : Int32) (t : Int32) (hc : c ≤ 300) : zW l D [(cI, .int)] y_Q_add b_Q_add 5 (some .int) 1 20 [.ref (a 0), .int person, .int unit, .int t] (wQ a cI (nI c) V) (wQ a cI ((f_Q_add c V person unit t).2.1) ((f_Q_add c V person unit t).2.2)) (some (.int (f_Q_add c V person unit t).1)) := by
  refine zW.of (by decide) (Nat.le_of_ble_eq_true rfl) ?_
  intro p e s m below meth c0 ls A E hrt hlk hN hK hA G hl
  have hx := E.1
  have hb := E.2.1
  have hl : lv_has ls 5 [(0, .ref (a 0)), (1, .int person), (2, .int unit), (3, .int t)] := hl
  refine lv_aload_n hx hb d_Q_add_0 rfl (lv_at hl 0 rfl) ?_
  refine z_rv (As := []) (rest := []) E hN hK G.1 hl.1 (c_Q_isFull l D cI a c V  hc) [0, 1, 2, 3, 4, 5, 6] rfl 0 rfl rfl kz_Q_49 rfl ⟨Nat.le_of_ble_eq_true rfl, Nat.le_of_ble_eq_true rfl⟩ rfl (Nat.le_of_ble_eq_true rfl) ⟨Nat.zero_le _, Nat.zero_le _⟩ d_Q_add_1 ?_
  refine lv_if_eq (tgt := 10) hx hb d_Q_add_4 (by decide) (fun c_1 => ?_) (fun c_1 => ?_)
  · have h300 : c < 300 := full_lt hc c_1
    refine lv_aload_n hx hb d_Q_add_10 rfl (lv_at hl 0 rfl) ?_
    refine z_get (v := .int (nI c)) E hK G.1 i_Q 0 6 rfl rfl (by decide) kf_Q_30 rfl d_Q_add_11 ?_
    refine lv_istore (lv' := [(4, .int (nI c)), (0, .ref (a 0)), (1, .int person), (2, .int unit), (3, .int t)]) hx hb d_Q_add_14 hl (by decide) rfl (fun ls hl => ?_)
    refine lv_aload_n hx hb d_Q_add_16 rfl (lv_at hl 1 rfl) ?_
    refine z_get (v := .ref (a 1)) E hK G.1 i_Q 0 0 rfl rfl (by decide) kf_Q_9 rfl d_Q_add_17 ?_
    refine lv_iload hx hb d_Q_add_20 (lv_at hl 0 rfl) ?_
    refine lv_iload_n hx hb d_Q_add_22 rfl (lv_at hl 2 rfl) ?_
    refine z_astN (f := V 0) (j := c) (ws' := wQ a cI (nI c) (up2 V 0 c person)) E hK G 1 0 rfl rfl rfl (by omega) (by decide) rfl d_Q_add_23 (fun H locs G => ?_)
    refine lv_aload_n hx hb d_Q_add_24 rfl (lv_at hl 1 rfl) ?_
    refine z_get (v := .ref (a 2)) E hK G.1 i_Q 0 1 rfl rfl (by decide) kf_Q_15 rfl d_Q_add_25 ?_
    refine lv_iload hx hb d_Q_add_28 (lv_at hl 0 rfl) ?_
    refine lv_iload_n hx hb d_Q_add_30 rfl (lv_at hl 3 rfl) ?_
    refine z_astN (f := (up2 V 0 c person) 1) (j := c) (ws' := wQ a cI (nI c) (up2 (up2 V 0 c person) 1 c unit)) E hK G 2 0 rfl rfl rfl (by omega) (by decide) rfl d_Q_add_31 (fun H locs G => ?_)
    refine lv_aload_n hx hb d_Q_add_32 rfl (lv_at hl 1 rfl) ?_
    refine z_get (v := .ref (a 3)) E hK G.1 i_Q 0 2 rfl rfl (by decide) kf_Q_18 rfl d_Q_add_33 ?_
    refine lv_iload hx hb d_Q_add_36 (lv_at hl 0 rfl) ?_
    refine lv_iconst (v := 0) hx hb d_Q_add_38 (by decide) ?_
    refine z_astN (f := (up2 (up2 V 0 c person) 1 c unit) 2) (j := c) (ws' := wQ a cI (nI c) (up2 (up2 (up2 V 0 c person) 1 c unit) 2 c 0)) E hK G 3 0 rfl rfl rfl (by omega) (by decide) rfl d_Q_add_39 (fun H locs G => ?_)
    refine lv_aload_n hx hb d_Q_add_40 rfl (lv_at hl 1 rfl) ?_
    refine z_get (v := .ref (a 4)) E hK G.1 i_Q 0 3 rfl rfl (by decide) kf_Q_21 rfl d_Q_add_41 ?_
    refine lv_iload hx hb d_Q_add_44 (lv_at hl 0 rfl) ?_
    refine lv_iload_n hx hb d_Q_add_46 rfl (lv_at hl 4 rfl) ?_
    refine z_astN (f := (up2 (up2 (up2 V 0 c person) 1 c unit) 2 c 0) 3) (j := c) (ws' := wQ a cI (nI c) (up2 (up2 (up2 (up2 V 0 c person) 1 c unit) 2 c 0) 3 c t)) E hK G 4 0 rfl rfl rfl (by omega) (by decide) rfl d_Q_add_47 (fun H locs G => ?_)
    refine lv_aload_n hx hb d_Q_add_48 rfl (lv_at hl 1 rfl) ?_
    refine z_get (v := .ref (a 5)) E hK G.1 i_Q 0 4 rfl rfl (by decide) kf_Q_24 rfl d_Q_add_49 ?_
    refine lv_iload hx hb d_Q_add_52 (lv_at hl 0 rfl) ?_
    refine lv_iconst (v := (-1)) hx hb d_Q_add_54 (by decide) ?_
    refine z_astN (f := (up2 (up2 (up2 (up2 V 0 c person) 1 c unit) 2 c 0) 3 c t) 4) (j := c) (ws' := wQ a cI (nI c) (up2 (up2 (up2 (up2 (up2 V 0 c person) 1 c unit) 2 c 0) 3 c t) 4 c (-1))) E hK G 5 0 rfl rfl rfl (by omega) (by decide) rfl d_Q_add_55 (fun H locs G => ?_)
    refine lv_aload_n hx hb d_Q_add_56 rfl (lv_at hl 1 rfl) ?_
    refine z_get (v := .ref (a 6)) E hK G.1 i_Q 0 5 rfl rfl (by decide) kf_Q_27 rfl d_Q_add_57 ?_
    refine lv_iload hx hb d_Q_add_60 (lv_at hl 0 rfl) ?_
    refine lv_iconst (v := (-1)) hx hb d_Q_add_62 (by decide) ?_
    refine z_astN (f := (up2 (up2 (up2 (up2 (up2 V 0 c person) 1 c unit) 2 c 0) 3 c t) 4 c (-1)) 5) (j := c) (ws' := wQ a cI (nI c) (up2 (up2 (up2 (up2 (up2 (up2 V 0 c person) 1 c unit) 2 c 0) 3 c t) 4 c (-1)) 5 c (-1))) E hK G 6 0 rfl rfl rfl (by omega) (by decide) rfl d_Q_add_63 (fun H locs G => ?_)
    refine lv_aload_n hx hb d_Q_add_64 rfl (lv_at hl 1 rfl) ?_
    refine lv_dup hx hb d_Q_add_65 rfl ?_
    refine z_get (v := .int (nI c)) E hK G.1 i_Q 0 6 rfl rfl (by decide) kf_Q_30 rfl d_Q_add_66 ?_
    refine lv_iconst (v := 1) hx hb d_Q_add_69 (by decide) ?_
    refine lv_iadd hx hb d_Q_add_70 ?_
    refine z_put (ty := .int) (ws' := wQ a cI ((nI c) + 1) (up2 (up2 (up2 (up2 (up2 (up2 V 0 c person) 1 c unit) 2 c 0) 3 c t) 4 c (-1)) 5 c (-1))) E hK G i_Q t_Q t_Q_ok n_Q 0 6 rfl rfl (by decide) kf_Q_30 rfl rfl rfl rfl (Nat.le_of_ble_eq_true rfl) rfl d_Q_add_71 (fun H locs G => ?_)
    refine lv_iload hx hb d_Q_add_74 (lv_at hl 0 rfl) ?_
    have hf : f_Q_add c V person unit t = (nI c, (nI c) + 1, up2 (up2 (up2 (up2 (up2 (up2 V 0 c person) 1 c unit) 2 c 0) 3 c t) 4 c (-1)) 5 c (-1)) := by unfold f_Q_add; rw [if_pos c_1]
    exact zW.iret E hrt hlk G (by rw [hf]) (by rw [hf]) d_Q_add_76
  · refine lv_bipush (v := (-4)) hx hb d_Q_add_7 (by decide) ?_
    have hf : f_Q_add c V person unit t = ((-4), nI c, V) := by unfold f_Q_add; rw [if_neg c_1]
    exact zW.iret E hrt hlk G (by rw [hf]) (by rw [hf]) d_Q_add_9
def f_Q_setState (c : Nat) (V : Nat → Nat → Int32) (number : Int32) (state : Int32) : (Nat → Nat → Int32) := (if (f_Q_has c number) = 0 then V else (up2 V 2 number.toNatClampNeg state))
set_option maxHeartbeats 4000000 in
set_option maxRecDepth 100000 in
theorem c_Q_setState (l : Launch) (D : va_G) (cI : ClassId) (a : Nat → Nat) (c : Nat) (V : Nat → Nat → Int32) (number : Int32) (state : Int32) (hc : c ≤ 300) : zW l D [(cI, .int)] y_Q_setState b_Q_setState 3 none 2 43 [.ref (a 0), .int number, .int state] (wQ a cI (nI c) V) (wQ a cI (nI c) (f_Q_setState c V number state)) none := by
  refine zW.of (by decide) (Nat.le_of_ble_eq_true rfl) ?_
  intro p e s m below meth c0 ls A E hrt hlk hN hK hA G hl
  have hx := E.1
  have hb := E.2.1
  have hl : lv_has ls 3 [(0, .ref (a 0)), (1, .int number), (2, .int state)] := hl
  refine lv_aload_n hx hb d_Q_setState_0 rfl (lv_at hl 0 rfl) ?_
  refine lv_iload_n hx hb d_Q_setState_1 rfl (lv_at hl 1 rfl) ?_
  refine z_rv (As := [.int number]) (rest := []) E hN hK G.1 hl.1 (c_Q_has l D cI a c V number hc) [0, 1, 2, 3, 4, 5, 6] rfl 0 rfl rfl kz_Q_38 rfl ⟨Nat.le_of_ble_eq_true rfl, Nat.le_of_ble_eq_true rfl⟩ rfl (Nat.le_of_ble_eq_true rfl) ⟨Nat.zero_le _, Nat.zero_le _⟩ d_Q_setState_2 ?_
  refine lv_if_eq (tgt := 15) hx hb d_Q_setState_5 (by decide) (fun c_1 => ?_) (fun c_1 => ?_)
  · have hf : f_Q_setState c V number state = V := by unfold f_Q_setState; rw [if_pos c_1]
    exact zW.vret E hrt hlk G (by rw [hf]) (by rfl) d_Q_setState_15
  · refine lv_aload_n hx hb d_Q_setState_8 rfl (lv_at hl 0 rfl) ?_
    refine z_get (v := .ref (a 3)) E hK G.1 i_Q 0 2 rfl rfl (by decide) kf_Q_18 rfl d_Q_setState_9 ?_
    refine lv_iload_n hx hb d_Q_setState_12 rfl (lv_at hl 1 rfl) ?_
    refine lv_iload_n hx hb d_Q_setState_13 rfl (lv_at hl 2 rfl) ?_
    refine z_ast (f := V 2) (ws' := wQ a cI (nI c) (up2 V 2 number.toNatClampNeg state)) E hK G 3 0 rfl rfl (in_has hc c_1) rfl d_Q_setState_14 (fun H locs G => ?_)
    have hf : f_Q_setState c V number state = (up2 V 2 number.toNatClampNeg state) := by unfold f_Q_setState; rw [if_neg c_1]
    exact zW.vret E hrt hlk G (by rw [hf]) (by rfl) d_Q_setState_15
def f_Q_markHandedOut (c : Nat) (V : Nat → Nat → Int32) (number : Int32) (t : Int32) : (Nat → Nat → Int32) := (if (f_Q_has c number) = 0 then V else (up2 (up2 V 2 number.toNatClampNeg 2) 4 number.toNatClampNeg t))
set_option maxHeartbeats 4000000 in
set_option maxRecDepth 100000 in
theorem c_Q_markHandedOut (l : Launch) (D : va_G) (cI : ClassId) (a : Nat → Nat) (c : Nat) (V : Nat → Nat → Int32) (number : Int32) (t : Int32) (hc : c ≤ 300) : zW l D [(cI, .int)] y_Q_markHandedOut b_Q_markHandedOut 3 none 2 43 [.ref (a 0), .int number, .int t] (wQ a cI (nI c) V) (wQ a cI (nI c) (f_Q_markHandedOut c V number t)) none := by
  refine zW.of (by decide) (Nat.le_of_ble_eq_true rfl) ?_
  intro p e s m below meth c0 ls A E hrt hlk hN hK hA G hl
  have hx := E.1
  have hb := E.2.1
  have hl : lv_has ls 3 [(0, .ref (a 0)), (1, .int number), (2, .int t)] := hl
  refine lv_aload_n hx hb d_Q_markHandedOut_0 rfl (lv_at hl 0 rfl) ?_
  refine lv_iload_n hx hb d_Q_markHandedOut_1 rfl (lv_at hl 1 rfl) ?_
  refine z_rv (As := [.int number]) (rest := []) E hN hK G.1 hl.1 (c_Q_has l D cI a c V number hc) [0, 1, 2, 3, 4, 5, 6] rfl 0 rfl rfl kz_Q_38 rfl ⟨Nat.le_of_ble_eq_true rfl, Nat.le_of_ble_eq_true rfl⟩ rfl (Nat.le_of_ble_eq_true rfl) ⟨Nat.zero_le _, Nat.zero_le _⟩ d_Q_markHandedOut_2 ?_
  refine lv_if_eq (tgt := 22) hx hb d_Q_markHandedOut_5 (by decide) (fun c_1 => ?_) (fun c_1 => ?_)
  · have hf : f_Q_markHandedOut c V number t = V := by unfold f_Q_markHandedOut; rw [if_pos c_1]
    exact zW.vret E hrt hlk G (by rw [hf]) (by rfl) d_Q_markHandedOut_22
  · refine lv_aload_n hx hb d_Q_markHandedOut_8 rfl (lv_at hl 0 rfl) ?_
    refine z_get (v := .ref (a 3)) E hK G.1 i_Q 0 2 rfl rfl (by decide) kf_Q_18 rfl d_Q_markHandedOut_9 ?_
    refine lv_iload_n hx hb d_Q_markHandedOut_12 rfl (lv_at hl 1 rfl) ?_
    refine lv_iconst (v := 2) hx hb d_Q_markHandedOut_13 (by decide) ?_
    refine z_ast (f := V 2) (ws' := wQ a cI (nI c) (up2 V 2 number.toNatClampNeg 2)) E hK G 3 0 rfl rfl (in_has hc c_1) rfl d_Q_markHandedOut_14 (fun H locs G => ?_)
    refine lv_aload_n hx hb d_Q_markHandedOut_15 rfl (lv_at hl 0 rfl) ?_
    refine z_get (v := .ref (a 5)) E hK G.1 i_Q 0 4 rfl rfl (by decide) kf_Q_24 rfl d_Q_markHandedOut_16 ?_
    refine lv_iload_n hx hb d_Q_markHandedOut_19 rfl (lv_at hl 1 rfl) ?_
    refine lv_iload_n hx hb d_Q_markHandedOut_20 rfl (lv_at hl 2 rfl) ?_
    refine z_ast (f := (up2 V 2 number.toNatClampNeg 2) 4) (ws' := wQ a cI (nI c) (up2 (up2 V 2 number.toNatClampNeg 2) 4 number.toNatClampNeg t)) E hK G 5 0 rfl rfl (in_has hc c_1) rfl d_Q_markHandedOut_21 (fun H locs G => ?_)
    have hf : f_Q_markHandedOut c V number t = (up2 (up2 V 2 number.toNatClampNeg 2) 4 number.toNatClampNeg t) := by unfold f_Q_markHandedOut; rw [if_neg c_1]
    exact zW.vret E hrt hlk G (by rw [hf]) (by rfl) d_Q_markHandedOut_22
def f_Q_markBack (c : Nat) (V : Nat → Nat → Int32) (number : Int32) (t : Int32) : (Nat → Nat → Int32) := (if (f_Q_has c number) = 0 then V else (up2 (up2 V 2 number.toNatClampNeg 3) 5 number.toNatClampNeg t))
set_option maxHeartbeats 4000000 in
set_option maxRecDepth 100000 in
theorem c_Q_markBack (l : Launch) (D : va_G) (cI : ClassId) (a : Nat → Nat) (c : Nat) (V : Nat → Nat → Int32) (number : Int32) (t : Int32) (hc : c ≤ 300) : zW l D [(cI, .int)] y_Q_markBack b_Q_markBack 3 none 2 43 [.ref (a 0), .int number, .int t] (wQ a cI (nI c) V) (wQ a cI (nI c) (f_Q_markBack c V number t)) none := by
  refine zW.of (by decide) (Nat.le_of_ble_eq_true rfl) ?_
  intro p e s m below meth c0 ls A E hrt hlk hN hK hA G hl
  have hx := E.1
  have hb := E.2.1
  have hl : lv_has ls 3 [(0, .ref (a 0)), (1, .int number), (2, .int t)] := hl
  refine lv_aload_n hx hb d_Q_markBack_0 rfl (lv_at hl 0 rfl) ?_
  refine lv_iload_n hx hb d_Q_markBack_1 rfl (lv_at hl 1 rfl) ?_
  refine z_rv (As := [.int number]) (rest := []) E hN hK G.1 hl.1 (c_Q_has l D cI a c V number hc) [0, 1, 2, 3, 4, 5, 6] rfl 0 rfl rfl kz_Q_38 rfl ⟨Nat.le_of_ble_eq_true rfl, Nat.le_of_ble_eq_true rfl⟩ rfl (Nat.le_of_ble_eq_true rfl) ⟨Nat.zero_le _, Nat.zero_le _⟩ d_Q_markBack_2 ?_
  refine lv_if_eq (tgt := 22) hx hb d_Q_markBack_5 (by decide) (fun c_1 => ?_) (fun c_1 => ?_)
  · have hf : f_Q_markBack c V number t = V := by unfold f_Q_markBack; rw [if_pos c_1]
    exact zW.vret E hrt hlk G (by rw [hf]) (by rfl) d_Q_markBack_22
  · refine lv_aload_n hx hb d_Q_markBack_8 rfl (lv_at hl 0 rfl) ?_
    refine z_get (v := .ref (a 3)) E hK G.1 i_Q 0 2 rfl rfl (by decide) kf_Q_18 rfl d_Q_markBack_9 ?_
    refine lv_iload_n hx hb d_Q_markBack_12 rfl (lv_at hl 1 rfl) ?_
    refine lv_iconst (v := 3) hx hb d_Q_markBack_13 (by decide) ?_
    refine z_ast (f := V 2) (ws' := wQ a cI (nI c) (up2 V 2 number.toNatClampNeg 3)) E hK G 3 0 rfl rfl (in_has hc c_1) rfl d_Q_markBack_14 (fun H locs G => ?_)
    refine lv_aload_n hx hb d_Q_markBack_15 rfl (lv_at hl 0 rfl) ?_
    refine z_get (v := .ref (a 6)) E hK G.1 i_Q 0 5 rfl rfl (by decide) kf_Q_27 rfl d_Q_markBack_16 ?_
    refine lv_iload_n hx hb d_Q_markBack_19 rfl (lv_at hl 1 rfl) ?_
    refine lv_iload_n hx hb d_Q_markBack_20 rfl (lv_at hl 2 rfl) ?_
    refine z_ast (f := (up2 V 2 number.toNatClampNeg 3) 5) (ws' := wQ a cI (nI c) (up2 (up2 V 2 number.toNatClampNeg 3) 5 number.toNatClampNeg t)) E hK G 6 0 rfl rfl (in_has hc c_1) rfl d_Q_markBack_21 (fun H locs G => ?_)
    have hf : f_Q_markBack c V number t = (up2 (up2 V 2 number.toNatClampNeg 3) 5 number.toNatClampNeg t) := by unfold f_Q_markBack; rw [if_neg c_1]
    exact zW.vret E hrt hlk G (by rw [hf]) (by rfl) d_Q_markBack_22
def f_Q_endAtClosing (c : Nat) (V : Nat → Nat → Int32) (number : Int32) (t : Int32) : (Nat → Nat → Int32) := (if (f_Q_stateOf c V number) = 0 then (f_Q_setState c V number 4) else (if (f_Q_stateOf c V number) = 1 then (f_Q_setState c V number 3) else (if (f_Q_stateOf c V number) = 2 then (f_Q_markBack c V number t) else V)))
set_option maxHeartbeats 4000000 in
set_option maxRecDepth 100000 in
theorem c_Q_endAtClosing (l : Launch) (D : va_G) (cI : ClassId) (a : Nat → Nat) (c : Nat) (V : Nat → Nat → Int32) (number : Int32) (t : Int32) (hc : c ≤ 300) : zW l D [(cI, .int)] y_Q_endAtClosing b_Q_endAtClosing 3 none 3 65 [.ref (a 0), .int number, .int t] (wQ a cI (nI c) V) (wQ a cI (nI c) (f_Q_endAtClosing c V number t)) none := by
  refine zW.of (by decide) (Nat.le_of_ble_eq_true rfl) ?_
  intro p e s m below meth c0 ls A E hrt hlk hN hK hA G hl
  have hx := E.1
  have hb := E.2.1
  have hl : lv_has ls 3 [(0, .ref (a 0)), (1, .int number), (2, .int t)] := hl
  refine lv_aload_n hx hb d_Q_endAtClosing_0 rfl (lv_at hl 0 rfl) ?_
  refine lv_iload_n hx hb d_Q_endAtClosing_1 rfl (lv_at hl 1 rfl) ?_
  refine z_rv (As := [.int number]) (rest := []) E hN hK G.1 hl.1 (c_Q_stateOf l D cI a c V number hc) [0, 1, 2, 3, 4, 5, 6] rfl 0 rfl rfl kz_Q_57 rfl ⟨Nat.le_of_ble_eq_true rfl, Nat.le_of_ble_eq_true rfl⟩ rfl (Nat.le_of_ble_eq_true rfl) ⟨Nat.zero_le _, Nat.zero_le _⟩ d_Q_endAtClosing_2 ?_
  rcases Classical.em ((f_Q_stateOf c V number) = 0) with c_1 | c_1
  · refine lv_tableIn (tgt := 32) (off := 27) hx hb d_Q_endAtClosing_5 (by rw [c_1]; decide) (by rw [c_1]; decide) (by rw [c_1]; decide) (by decide) ?_
    refine lv_aload_n hx hb d_Q_endAtClosing_32 rfl (lv_at hl 0 rfl) ?_
    refine lv_iload_n hx hb d_Q_endAtClosing_33 rfl (lv_at hl 1 rfl) ?_
    refine lv_iconst (v := 4) hx hb d_Q_endAtClosing_34 (by decide) ?_
    refine z_wv (As := [.int number, .int 4]) (rest := []) (wr := ([] : List Nat).filterMap (fun i => (wQ a cI (nI c) V)[i]?)) (ws' := wQ a cI (nI c) (f_Q_setState c V number 4)) E hN hK hA G hl.1 (c_Q_setState l D cI a c V number 4 hc) [0, 1, 2, 3, 4, 5, 6] [] [0, 1, 2, 3, 4, 5, 6] rfl rfl rfl rfl rfl rfl (by decide) 0 rfl rfl kz_Q_61 rfl ⟨Nat.le_of_ble_eq_true rfl, Nat.le_of_ble_eq_true rfl⟩ rfl (Nat.le_of_ble_eq_true rfl) ⟨Nat.zero_le _, Nat.zero_le _⟩ d_Q_endAtClosing_35 (fun H locs G => ?_)
    refine W.eq (g2 := F0 m 38 ls []) rfl ?_
    refine lv_goto (tgt := 59) hx hb d_Q_endAtClosing_38 (by decide) ?_
    have hf : f_Q_endAtClosing c V number t = (f_Q_setState c V number 4) := by unfold f_Q_endAtClosing; rw [if_pos c_1]
    exact zW.vret E hrt hlk G (by rw [hf]) (by rfl) d_Q_endAtClosing_59
  · rcases Classical.em ((f_Q_stateOf c V number) = 1) with c_2 | c_2
    · refine lv_tableIn (tgt := 41) (off := 36) hx hb d_Q_endAtClosing_5 (by rw [c_2]; decide) (by rw [c_2]; decide) (by rw [c_2]; decide) (by decide) ?_
      refine lv_aload_n hx hb d_Q_endAtClosing_41 rfl (lv_at hl 0 rfl) ?_
      refine lv_iload_n hx hb d_Q_endAtClosing_42 rfl (lv_at hl 1 rfl) ?_
      refine lv_iconst (v := 3) hx hb d_Q_endAtClosing_43 (by decide) ?_
      refine z_wv (As := [.int number, .int 3]) (rest := []) (wr := ([] : List Nat).filterMap (fun i => (wQ a cI (nI c) V)[i]?)) (ws' := wQ a cI (nI c) (f_Q_setState c V number 3)) E hN hK hA G hl.1 (c_Q_setState l D cI a c V number 3 hc) [0, 1, 2, 3, 4, 5, 6] [] [0, 1, 2, 3, 4, 5, 6] rfl rfl rfl rfl rfl rfl (by decide) 0 rfl rfl kz_Q_61 rfl ⟨Nat.le_of_ble_eq_true rfl, Nat.le_of_ble_eq_true rfl⟩ rfl (Nat.le_of_ble_eq_true rfl) ⟨Nat.zero_le _, Nat.zero_le _⟩ d_Q_endAtClosing_44 (fun H locs G => ?_)
      refine W.eq (g2 := F0 m 47 ls []) rfl ?_
      refine lv_goto (tgt := 59) hx hb d_Q_endAtClosing_47 (by decide) ?_
      have hf : f_Q_endAtClosing c V number t = (f_Q_setState c V number 3) := by unfold f_Q_endAtClosing; rw [if_neg c_1, if_pos c_2]
      exact zW.vret E hrt hlk G (by rw [hf]) (by rfl) d_Q_endAtClosing_59
    · rcases Classical.em ((f_Q_stateOf c V number) = 2) with c_3 | c_3
      · refine lv_tableIn (tgt := 50) (off := 45) hx hb d_Q_endAtClosing_5 (by rw [c_3]; decide) (by rw [c_3]; decide) (by rw [c_3]; decide) (by decide) ?_
        refine lv_aload_n hx hb d_Q_endAtClosing_50 rfl (lv_at hl 0 rfl) ?_
        refine lv_iload_n hx hb d_Q_endAtClosing_51 rfl (lv_at hl 1 rfl) ?_
        refine lv_iload_n hx hb d_Q_endAtClosing_52 rfl (lv_at hl 2 rfl) ?_
        refine z_wv (As := [.int number, .int t]) (rest := []) (wr := ([] : List Nat).filterMap (fun i => (wQ a cI (nI c) V)[i]?)) (ws' := wQ a cI (nI c) (f_Q_markBack c V number t)) E hN hK hA G hl.1 (c_Q_markBack l D cI a c V number t hc) [0, 1, 2, 3, 4, 5, 6] [] [0, 1, 2, 3, 4, 5, 6] rfl rfl rfl rfl rfl rfl (by decide) 0 rfl rfl kz_Q_64 rfl ⟨Nat.le_of_ble_eq_true rfl, Nat.le_of_ble_eq_true rfl⟩ rfl (Nat.le_of_ble_eq_true rfl) ⟨Nat.zero_le _, Nat.zero_le _⟩ d_Q_endAtClosing_53 (fun H locs G => ?_)
        refine W.eq (g2 := F0 m 56 ls []) rfl ?_
        refine lv_goto (tgt := 59) hx hb d_Q_endAtClosing_56 (by decide) ?_
        have hf : f_Q_endAtClosing c V number t = (f_Q_markBack c V number t) := by unfold f_Q_endAtClosing; rw [if_neg c_1, if_neg c_2, if_pos c_3]
        exact zW.vret E hrt hlk G (by rw [hf]) (by rfl) d_Q_endAtClosing_59
      · refine lv_tableOut (tgt := 59) hx hb d_Q_endAtClosing_5 (sw_out3 c_1 c_2 c_3) (by decide) ?_
        have hf : f_Q_endAtClosing c V number t = V := by unfold f_Q_endAtClosing; rw [if_neg c_1, if_neg c_2, if_neg c_3]
        exact zW.vret E hrt hlk G (by rw [hf]) (by rfl) d_Q_endAtClosing_59
def f_Q_endAll_L (c : Nat) (t : Int32) : Nat → Nat → (Nat → Nat → Int32) → (Nat → Nat → Int32)
  | 0, k0, V => V
  | d + 1, k0, V => (f_Q_endAll_L c t d (k0 + 1) (f_Q_endAtClosing c V (nI k0) t))
theorem f_Q_endAll_L_0 (c : Nat) (t : Int32) (k0 : Nat) (V : Nat → Nat → Int32) : f_Q_endAll_L c t 0 k0 V = V := rfl
theorem f_Q_endAll_L_s (c : Nat) (t : Int32) (d k0 : Nat) (V : Nat → Nat → Int32) : f_Q_endAll_L c t (d + 1) k0 V = (f_Q_endAll_L c t d (k0 + 1) (f_Q_endAtClosing c V (nI k0) t)) := rfl
def f_Q_endAll (c : Nat) (V : Nat → Nat → Int32) (t : Int32) : (Nat → Nat → Int32) := (f_Q_endAll_L c t c 0 V)
set_option maxHeartbeats 4000000 in
set_option maxRecDepth 100000 in
theorem lp_Q_endAll (l : Launch) (D : va_G) (cI : ClassId) (a : Nat → Nat) (c : Nat) (t : Int32) (hc : c ≤ 300) {p : Program} {e : Env} {s : State} {m : MethodId} {below : List Frame} {meth : Method} {c0 : Code} {A : Nat → Prop} (E : CallFix p m c0 b_Q_endAll 3 s ([.ref (a 0), .int t] : List Value).toArray zB y_Q_endAll.cls) (hrt : meth.sig.returnType = none) (hlk : meth.locks = false) (hN : zN s) (hK : va_K D vwCl [(cI, .int)] s) (hA : ∀ q, s.heap.size ≤ q → A q) :
    ∀ (d k0 : Nat) (V : Nat → Nat → Int32), k0 + d = c → ∀ X : (Nat → Nat → Int32), f_Q_endAll_L c t d k0 V = X → ∀ (H : Heap) (locs : List Loc), zG D A s H locs (wQ a cI (nI c) V) → ∀ ls : Array Slot, lv_has ls 3 [(2, .int (nI k0)), (0, .ref (a 0)), (1, .int t)] → W p l e { frames := 4, cells := 0, slots := 0, locals := 87 } s m ([.ref (a 0), .int t] : List Value).toArray below meth c0 H locs 0 0 (MQ below (zQ D A (wQ a cI (nI c) X) none) ([.ref (a 0), .int t] : List Value).toArray s 0 0 A) (F0 m 2 ls []) := by
  have hx := E.1
  have hb := E.2.1
  intro d
  induction d with
  | zero =>
    intro k0 V hkd X hr H locs G ls hl
    refine lv_iload_n hx hb d_Q_endAll_2 rfl (lv_at hl 0 rfl) ?_
    refine lv_aload_n hx hb d_Q_endAll_3 rfl (lv_at hl 1 rfl) ?_
    refine z_get (v := .int (nI c)) E hK G.1 i_Q 0 6 rfl rfl (by decide) kf_Q_30 rfl d_Q_endAll_4 ?_
    refine lv_icmp_ge (tgt := 22) hx hb d_Q_endAll_7 (by decide) (fun c_1 => ?_) (fun c_1 => absurd (nI_le (by omega) (by omega)) c_1)
    have hf : X = V := by rw [← hr, f_Q_endAll_L_0]
    exact zW.vret E hrt hlk G (by rw [hf]) (by rfl) d_Q_endAll_22
  | succ d ih =>
    intro k0 V hkd X hr H locs G ls hl
    refine lv_iload_n hx hb d_Q_endAll_2 rfl (lv_at hl 0 rfl) ?_
    refine lv_aload_n hx hb d_Q_endAll_3 rfl (lv_at hl 1 rfl) ?_
    refine z_get (v := .int (nI c)) E hK G.1 i_Q 0 6 rfl rfl (by decide) kf_Q_30 rfl d_Q_endAll_4 ?_
    refine lv_icmp_ge (tgt := 22) hx hb d_Q_endAll_7 (by decide) (fun c_2 => absurd c_2 (nI_ge (by omega) (by omega))) (fun c_2 => ?_)
    refine lv_aload_n hx hb d_Q_endAll_10 rfl (lv_at hl 1 rfl) ?_
    refine lv_iload_n hx hb d_Q_endAll_11 rfl (lv_at hl 0 rfl) ?_
    refine lv_iload_n hx hb d_Q_endAll_12 rfl (lv_at hl 2 rfl) ?_
    refine z_wv (As := [.int (nI k0), .int t]) (rest := []) (wr := ([] : List Nat).filterMap (fun i => (wQ a cI (nI c) V)[i]?)) (ws' := wQ a cI (nI c) (f_Q_endAtClosing c V (nI k0) t)) E hN hK hA G hl.1 (c_Q_endAtClosing l D cI a c V (nI k0) t hc) [0, 1, 2, 3, 4, 5, 6] [] [0, 1, 2, 3, 4, 5, 6] rfl rfl rfl rfl rfl rfl (by decide) 0 rfl rfl kz_Q_53 rfl ⟨Nat.le_of_ble_eq_true rfl, Nat.le_of_ble_eq_true rfl⟩ rfl (Nat.le_of_ble_eq_true rfl) ⟨Nat.zero_le _, Nat.zero_le _⟩ d_Q_endAll_13 (fun H locs G => ?_)
    refine W.eq (g2 := F0 m 16 ls []) rfl ?_
    refine lv_iinc (v := nI (k0 + 1)) (lv' := [(2, .int (nI (k0 + 1))), (0, .ref (a 0)), (1, .int t)]) hx hb d_Q_endAll_16 hl (k := 0) rfl (nI_1 _) (by decide) rfl (fun ls hl => ?_)
    refine lv_goto (tgt := 2) hx hb d_Q_endAll_19 (by decide) ?_
    exact ih (k0 + 1) (f_Q_endAtClosing c V (nI k0) t) (by omega) X (by rw [← hr, f_Q_endAll_L_s]) H locs G ls (lv_sub hl [0, 1, 2] rfl)
set_option maxHeartbeats 4000000 in
set_option maxRecDepth 100000 in
theorem c_Q_endAll (l : Launch) (D : va_G) (cI : ClassId) (a : Nat → Nat) (c : Nat) (V : Nat → Nat → Int32) (t : Int32) (hc : c ≤ 300) : zW l D [(cI, .int)] y_Q_endAll b_Q_endAll 3 none 4 87 [.ref (a 0), .int t] (wQ a cI (nI c) V) (wQ a cI (nI c) (f_Q_endAll c V t)) none := by
  refine zW.of (by decide) (Nat.le_of_ble_eq_true rfl) ?_
  intro p e s m below meth c0 ls A E hrt hlk hN hK hA G hl
  have hx := E.1
  have hb := E.2.1
  have hl : lv_has ls 3 [(0, .ref (a 0)), (1, .int t)] := hl
  refine lv_iconst (v := 0) hx hb d_Q_endAll_0 (by decide) ?_
  refine lv_istore_n (lv' := [(2, .int 0), (0, .ref (a 0)), (1, .int t)]) hx hb d_Q_endAll_1 rfl hl (by decide) rfl (fun ls hl => ?_)
  exact lp_Q_endAll l D cI a c t hc E hrt hlk hN hK hA c 0 V (by omega) _ (by rfl) _ _ G ls (by rw [nI_0]; exact lv_sub hl [0, 1, 2] rfl)
