def f_R_copiedOn (P : Nat → Nat → Int32) (person : Int32) (day : Int32) : Int32 := (if (f_isPerson person) = 0 then 0 else (if (P 3 person.toNatClampNeg) = day then (P 4 person.toNatClampNeg) else 0))
set_option maxHeartbeats 4000000 in
set_option maxRecDepth 100000 in
theorem c_R_copiedOn (l : Launch) (D : va_G) (cI : ClassId) (a : Nat → Nat) (P : Nat → Nat → Int32) (person : Int32) (day : Int32)  : zR l D [(cI, .int)] y_R_copiedOn b_R_copiedOn 3 (some .int) 2 42 [.ref (a 0), .int person, .int day] (wR a cI P) (f_R_copiedOn P person day) := by
  refine zR.of (by decide) (Nat.le_of_ble_eq_true rfl) ?_
  intro p e s m below meth c0 ls E hrt hlk hN hK hP hl
  have hx := E.1
  have hb := E.2.1
  have hl : lv_has ls 3 [(0, .ref (a 0)), (1, .int person), (2, .int day)] := hl
  refine lv_iload_n hx hb d_R_copiedOn_0 rfl (lv_at hl 1 rfl) ?_
  refine z_rn (As := [.int person]) (rest := []) E hN hK hl.1 (c_isPerson l D [(cI, .int)] person) kz_R_33 rfl ⟨Nat.le_of_ble_eq_true rfl, Nat.le_of_ble_eq_true rfl⟩ rfl (Nat.le_of_ble_eq_true rfl) ⟨Nat.zero_le _, Nat.zero_le _⟩ d_R_copiedOn_1 ?_
  refine lv_if_eq (tgt := 26) hx hb d_R_copiedOn_4 (by decide) (fun c_1 => ?_) (fun c_1 => ?_)
  · refine lv_iconst (v := 0) hx hb d_R_copiedOn_26 (by decide) ?_
    exact zR.iret E hrt hlk (by unfold f_R_copiedOn; rw [if_pos c_1]) d_R_copiedOn_27
  · refine lv_aload_n hx hb d_R_copiedOn_7 rfl (lv_at hl 0 rfl) ?_
    refine z_get (v := .ref (a 4)) E hK hP i_R 0 3 rfl rfl (by decide) kf_R_21 rfl d_R_copiedOn_8 ?_
    refine lv_iload_n hx hb d_R_copiedOn_11 rfl (lv_at hl 1 rfl) ?_
    refine z_ald (f := P 3) E hK hP 4 0 rfl rfl (in_person c_1) d_R_copiedOn_12 ?_
    refine lv_iload_n hx hb d_R_copiedOn_13 rfl (lv_at hl 2 rfl) ?_
    refine lv_icmp_ne (tgt := 26) hx hb d_R_copiedOn_14 (by decide) (fun c_2 => ?_) (fun c_2 => ?_)
    · refine lv_iconst (v := 0) hx hb d_R_copiedOn_26 (by decide) ?_
      exact zR.iret E hrt hlk (by unfold f_R_copiedOn; rw [if_neg c_1, if_neg c_2]) d_R_copiedOn_27
    · refine lv_aload_n hx hb d_R_copiedOn_17 rfl (lv_at hl 0 rfl) ?_
      refine z_get (v := .ref (a 5)) E hK hP i_R 0 4 rfl rfl (by decide) kf_R_24 rfl d_R_copiedOn_18 ?_
      refine lv_iload_n hx hb d_R_copiedOn_21 rfl (lv_at hl 1 rfl) ?_
      refine z_ald (f := P 4) E hK hP 5 0 rfl rfl (in_person c_1) d_R_copiedOn_22 ?_
      refine lv_goto (tgt := 27) hx hb d_R_copiedOn_23 (by decide) ?_
      exact zR.iret E hrt hlk (by unfold f_R_copiedOn; rw [if_neg c_1, if_pos c_2]) d_R_copiedOn_27
def f_R_rightOf (P : Nat → Nat → Int32) (person : Int32) : Int32 := (if (f_isPerson person) = 0 then 0 else (P 0 person.toNatClampNeg))
set_option maxHeartbeats 4000000 in
set_option maxRecDepth 100000 in
theorem c_R_rightOf (l : Launch) (D : va_G) (cI : ClassId) (a : Nat → Nat) (P : Nat → Nat → Int32) (person : Int32)  : zR l D [(cI, .int)] y_R_rightOf b_R_rightOf 2 (some .int) 2 42 [.ref (a 0), .int person] (wR a cI P) (f_R_rightOf P person) := by
  refine zR.of (by decide) (Nat.le_of_ble_eq_true rfl) ?_
  intro p e s m below meth c0 ls E hrt hlk hN hK hP hl
  have hx := E.1
  have hb := E.2.1
  have hl : lv_has ls 2 [(0, .ref (a 0)), (1, .int person)] := hl
  refine lv_iload_n hx hb d_R_rightOf_0 rfl (lv_at hl 1 rfl) ?_
  refine z_rn (As := [.int person]) (rest := []) E hN hK hl.1 (c_isPerson l D [(cI, .int)] person) kz_R_33 rfl ⟨Nat.le_of_ble_eq_true rfl, Nat.le_of_ble_eq_true rfl⟩ rfl (Nat.le_of_ble_eq_true rfl) ⟨Nat.zero_le _, Nat.zero_le _⟩ d_R_rightOf_1 ?_
  refine lv_if_eq (tgt := 16) hx hb d_R_rightOf_4 (by decide) (fun c_1 => ?_) (fun c_1 => ?_)
  · refine lv_iconst (v := 0) hx hb d_R_rightOf_16 (by decide) ?_
    exact zR.iret E hrt hlk (by unfold f_R_rightOf; rw [if_pos c_1]) d_R_rightOf_17
  · refine lv_aload_n hx hb d_R_rightOf_7 rfl (lv_at hl 0 rfl) ?_
    refine z_get (v := .ref (a 1)) E hK hP i_R 0 0 rfl rfl (by decide) kf_R_9 rfl d_R_rightOf_8 ?_
    refine lv_iload_n hx hb d_R_rightOf_11 rfl (lv_at hl 1 rfl) ?_
    refine z_ald (f := P 0) E hK hP 1 0 rfl rfl (in_person c_1) d_R_rightOf_12 ?_
    refine lv_goto (tgt := 17) hx hb d_R_rightOf_13 (by decide) ?_
    exact zR.iret E hrt hlk (by unfold f_R_rightOf; rw [if_neg c_1]) d_R_rightOf_17
def f_R_requestLimitOf (P : Nat → Nat → Int32) (person : Int32) : Int32 := (if (f_isPerson person) = 0 then 0 else (P 1 person.toNatClampNeg))
set_option maxHeartbeats 4000000 in
set_option maxRecDepth 100000 in
theorem c_R_requestLimitOf (l : Launch) (D : va_G) (cI : ClassId) (a : Nat → Nat) (P : Nat → Nat → Int32) (person : Int32)  : zR l D [(cI, .int)] y_R_requestLimitOf b_R_requestLimitOf 2 (some .int) 2 42 [.ref (a 0), .int person] (wR a cI P) (f_R_requestLimitOf P person) := by
  refine zR.of (by decide) (Nat.le_of_ble_eq_true rfl) ?_
  intro p e s m below meth c0 ls E hrt hlk hN hK hP hl
  have hx := E.1
  have hb := E.2.1
  have hl : lv_has ls 2 [(0, .ref (a 0)), (1, .int person)] := hl
  refine lv_iload_n hx hb d_R_requestLimitOf_0 rfl (lv_at hl 1 rfl) ?_
  refine z_rn (As := [.int person]) (rest := []) E hN hK hl.1 (c_isPerson l D [(cI, .int)] person) kz_R_33 rfl ⟨Nat.le_of_ble_eq_true rfl, Nat.le_of_ble_eq_true rfl⟩ rfl (Nat.le_of_ble_eq_true rfl) ⟨Nat.zero_le _, Nat.zero_le _⟩ d_R_requestLimitOf_1 ?_
  refine lv_if_eq (tgt := 16) hx hb d_R_requestLimitOf_4 (by decide) (fun c_1 => ?_) (fun c_1 => ?_)
  · refine lv_iconst (v := 0) hx hb d_R_requestLimitOf_16 (by decide) ?_
    exact zR.iret E hrt hlk (by unfold f_R_requestLimitOf; rw [if_pos c_1]) d_R_requestLimitOf_17
  · refine lv_aload_n hx hb d_R_requestLimitOf_7 rfl (lv_at hl 0 rfl) ?_
    refine z_get (v := .ref (a 2)) E hK hP i_R 0 1 rfl rfl (by decide) kf_R_15 rfl d_R_requestLimitOf_8 ?_
    refine lv_iload_n hx hb d_R_requestLimitOf_11 rfl (lv_at hl 1 rfl) ?_
    refine z_ald (f := P 1) E hK hP 2 0 rfl rfl (in_person c_1) d_R_requestLimitOf_12 ?_
    refine lv_goto (tgt := 17) hx hb d_R_requestLimitOf_13 (by decide) ?_
    exact zR.iret E hrt hlk (by unfold f_R_requestLimitOf; rw [if_neg c_1]) d_R_requestLimitOf_17
def f_R_copiedLatelyBy (P : Nat → Nat → Int32) (person : Int32) : Int32 := (if (f_isPerson person) = 0 then 0 else (P 4 person.toNatClampNeg))
set_option maxHeartbeats 4000000 in
set_option maxRecDepth 100000 in
theorem c_R_copiedLatelyBy (l : Launch) (D : va_G) (cI : ClassId) (a : Nat → Nat) (P : Nat → Nat → Int32) (person : Int32)  : zR l D [(cI, .int)] y_R_copiedLatelyBy b_R_copiedLatelyBy 2 (some .int) 2 42 [.ref (a 0), .int person] (wR a cI P) (f_R_copiedLatelyBy P person) := by
  refine zR.of (by decide) (Nat.le_of_ble_eq_true rfl) ?_
  intro p e s m below meth c0 ls E hrt hlk hN hK hP hl
  have hx := E.1
  have hb := E.2.1
  have hl : lv_has ls 2 [(0, .ref (a 0)), (1, .int person)] := hl
  refine lv_iload_n hx hb d_R_copiedLatelyBy_0 rfl (lv_at hl 1 rfl) ?_
  refine z_rn (As := [.int person]) (rest := []) E hN hK hl.1 (c_isPerson l D [(cI, .int)] person) kz_R_33 rfl ⟨Nat.le_of_ble_eq_true rfl, Nat.le_of_ble_eq_true rfl⟩ rfl (Nat.le_of_ble_eq_true rfl) ⟨Nat.zero_le _, Nat.zero_le _⟩ d_R_copiedLatelyBy_1 ?_
  refine lv_if_eq (tgt := 16) hx hb d_R_copiedLatelyBy_4 (by decide) (fun c_1 => ?_) (fun c_1 => ?_)
  · refine lv_iconst (v := 0) hx hb d_R_copiedLatelyBy_16 (by decide) ?_
    exact zR.iret E hrt hlk (by unfold f_R_copiedLatelyBy; rw [if_pos c_1]) d_R_copiedLatelyBy_17
  · refine lv_aload_n hx hb d_R_copiedLatelyBy_7 rfl (lv_at hl 0 rfl) ?_
    refine z_get (v := .ref (a 5)) E hK hP i_R 0 4 rfl rfl (by decide) kf_R_24 rfl d_R_copiedLatelyBy_8 ?_
    refine lv_iload_n hx hb d_R_copiedLatelyBy_11 rfl (lv_at hl 1 rfl) ?_
    refine z_ald (f := P 4) E hK hP 5 0 rfl rfl (in_person c_1) d_R_copiedLatelyBy_12 ?_
    refine lv_goto (tgt := 17) hx hb d_R_copiedLatelyBy_13 (by decide) ?_
    exact zR.iret E hrt hlk (by unfold f_R_copiedLatelyBy; rw [if_neg c_1]) d_R_copiedLatelyBy_17
def f_R_pagesLeft (P : Nat → Nat → Int32) (person : Int32) (day : Int32) : Int32 := (if (f_isPerson person) = 0 then 0 else ((P 2 person.toNatClampNeg) - (f_R_copiedOn P person day)))
set_option maxHeartbeats 4000000 in
set_option maxRecDepth 100000 in
theorem c_R_pagesLeft (l : Launch) (D : va_G) (cI : ClassId) (a : Nat → Nat) (P : Nat → Nat → Int32) (person : Int32) (day : Int32)  : zR l D [(cI, .int)] y_R_pagesLeft b_R_pagesLeft 3 (some .int) 3 64 [.ref (a 0), .int person, .int day] (wR a cI P) (f_R_pagesLeft P person day) := by
  refine zR.of (by decide) (Nat.le_of_ble_eq_true rfl) ?_
  intro p e s m below meth c0 ls E hrt hlk hN hK hP hl
  have hx := E.1
  have hb := E.2.1
  have hl : lv_has ls 3 [(0, .ref (a 0)), (1, .int person), (2, .int day)] := hl
  refine lv_iload_n hx hb d_R_pagesLeft_0 rfl (lv_at hl 1 rfl) ?_
  refine z_rn (As := [.int person]) (rest := []) E hN hK hl.1 (c_isPerson l D [(cI, .int)] person) kz_R_33 rfl ⟨Nat.le_of_ble_eq_true rfl, Nat.le_of_ble_eq_true rfl⟩ rfl (Nat.le_of_ble_eq_true rfl) ⟨Nat.zero_le _, Nat.zero_le _⟩ d_R_pagesLeft_1 ?_
  refine lv_if_eq (tgt := 23) hx hb d_R_pagesLeft_4 (by decide) (fun c_1 => ?_) (fun c_1 => ?_)
  · refine lv_iconst (v := 0) hx hb d_R_pagesLeft_23 (by decide) ?_
    exact zR.iret E hrt hlk (by unfold f_R_pagesLeft; rw [if_pos c_1]) d_R_pagesLeft_24
  · refine lv_aload_n hx hb d_R_pagesLeft_7 rfl (lv_at hl 0 rfl) ?_
    refine z_get (v := .ref (a 3)) E hK hP i_R 0 2 rfl rfl (by decide) kf_R_18 rfl d_R_pagesLeft_8 ?_
    refine lv_iload_n hx hb d_R_pagesLeft_11 rfl (lv_at hl 1 rfl) ?_
    refine z_ald (f := P 2) E hK hP 3 0 rfl rfl (in_person c_1) d_R_pagesLeft_12 ?_
    refine lv_aload_n hx hb d_R_pagesLeft_13 rfl (lv_at hl 0 rfl) ?_
    refine lv_iload_n hx hb d_R_pagesLeft_14 rfl (lv_at hl 1 rfl) ?_
    refine lv_iload_n hx hb d_R_pagesLeft_15 rfl (lv_at hl 2 rfl) ?_
    refine z_rv (As := [.int person, .int day]) (rest := [.int (P 2 person.toNatClampNeg)]) E hN hK hP hl.1 (c_R_copiedOn l D cI a P person day ) [0, 1, 2, 3, 4, 5] rfl 0 rfl rfl kz_R_37 rfl ⟨Nat.le_of_ble_eq_true rfl, Nat.le_of_ble_eq_true rfl⟩ rfl (Nat.le_of_ble_eq_true rfl) ⟨Nat.zero_le _, Nat.zero_le _⟩ d_R_pagesLeft_16 ?_
    refine lv_isub hx hb d_R_pagesLeft_19 ?_
    refine lv_goto (tgt := 24) hx hb d_R_pagesLeft_20 (by decide) ?_
    exact zR.iret E hrt hlk (by unfold f_R_pagesLeft; rw [if_neg c_1]) d_R_pagesLeft_24
def f_R_setRight (P : Nat → Nat → Int32) (person : Int32) (right : Int32) : (Nat → Nat → Int32) := (if (f_isPerson person) = 0 then P else (up2 P 0 person.toNatClampNeg right))
set_option maxHeartbeats 4000000 in
set_option maxRecDepth 100000 in
theorem c_R_setRight (l : Launch) (D : va_G) (cI : ClassId) (a : Nat → Nat) (P : Nat → Nat → Int32) (person : Int32) (right : Int32)  : zW l D [(cI, .int)] y_R_setRight b_R_setRight 3 none 2 42 [.ref (a 0), .int person, .int right] (wR a cI P) (wR a cI (f_R_setRight P person right)) none := by
  refine zW.of (by decide) (Nat.le_of_ble_eq_true rfl) ?_
  intro p e s m below meth c0 ls A E hrt hlk hN hK hA G hl
  have hx := E.1
  have hb := E.2.1
  have hl : lv_has ls 3 [(0, .ref (a 0)), (1, .int person), (2, .int right)] := hl
  refine lv_iload_n hx hb d_R_setRight_0 rfl (lv_at hl 1 rfl) ?_
  refine z_rn (As := [.int person]) (rest := []) E hN hK hl.1 (c_isPerson l D [(cI, .int)] person) kz_R_33 rfl ⟨Nat.le_of_ble_eq_true rfl, Nat.le_of_ble_eq_true rfl⟩ rfl (Nat.le_of_ble_eq_true rfl) ⟨Nat.zero_le _, Nat.zero_le _⟩ d_R_setRight_1 ?_
  refine lv_if_eq (tgt := 14) hx hb d_R_setRight_4 (by decide) (fun c_1 => ?_) (fun c_1 => ?_)
  · have hf : f_R_setRight P person right = P := by unfold f_R_setRight; rw [if_pos c_1]
    exact zW.vret E hrt hlk G (by rw [hf]) (by rfl) d_R_setRight_14
  · refine lv_aload_n hx hb d_R_setRight_7 rfl (lv_at hl 0 rfl) ?_
    refine z_get (v := .ref (a 1)) E hK G.1 i_R 0 0 rfl rfl (by decide) kf_R_9 rfl d_R_setRight_8 ?_
    refine lv_iload_n hx hb d_R_setRight_11 rfl (lv_at hl 1 rfl) ?_
    refine lv_iload_n hx hb d_R_setRight_12 rfl (lv_at hl 2 rfl) ?_
    refine z_ast (f := P 0) (ws' := wR a cI (up2 P 0 person.toNatClampNeg right)) E hK G 1 0 rfl rfl (in_person c_1) rfl d_R_setRight_13 (fun H locs G => ?_)
    have hf : f_R_setRight P person right = (up2 P 0 person.toNatClampNeg right) := by unfold f_R_setRight; rw [if_neg c_1]
    exact zW.vret E hrt hlk G (by rw [hf]) (by rfl) d_R_setRight_14
def f_R_setLimits (P : Nat → Nat → Int32) (person : Int32) (requestLimit : Int32) (pageLimit : Int32) : (Nat → Nat → Int32) := (if (f_isPerson person) = 0 then P else (up2 (up2 P 1 person.toNatClampNeg requestLimit) 2 person.toNatClampNeg pageLimit))
set_option maxHeartbeats 4000000 in
set_option maxRecDepth 100000 in
theorem c_R_setLimits (l : Launch) (D : va_G) (cI : ClassId) (a : Nat → Nat) (P : Nat → Nat → Int32) (person : Int32) (requestLimit : Int32) (pageLimit : Int32)  : zW l D [(cI, .int)] y_R_setLimits b_R_setLimits 4 none 2 42 [.ref (a 0), .int person, .int requestLimit, .int pageLimit] (wR a cI P) (wR a cI (f_R_setLimits P person requestLimit pageLimit)) none := by
  refine zW.of (by decide) (Nat.le_of_ble_eq_true rfl) ?_
  intro p e s m below meth c0 ls A E hrt hlk hN hK hA G hl
  have hx := E.1
  have hb := E.2.1
  have hl : lv_has ls 4 [(0, .ref (a 0)), (1, .int person), (2, .int requestLimit), (3, .int pageLimit)] := hl
  refine lv_iload_n hx hb d_R_setLimits_0 rfl (lv_at hl 1 rfl) ?_
  refine z_rn (As := [.int person]) (rest := []) E hN hK hl.1 (c_isPerson l D [(cI, .int)] person) kz_R_33 rfl ⟨Nat.le_of_ble_eq_true rfl, Nat.le_of_ble_eq_true rfl⟩ rfl (Nat.le_of_ble_eq_true rfl) ⟨Nat.zero_le _, Nat.zero_le _⟩ d_R_setLimits_1 ?_
  refine lv_if_eq (tgt := 21) hx hb d_R_setLimits_4 (by decide) (fun c_1 => ?_) (fun c_1 => ?_)
  · have hf : f_R_setLimits P person requestLimit pageLimit = P := by unfold f_R_setLimits; rw [if_pos c_1]
    exact zW.vret E hrt hlk G (by rw [hf]) (by rfl) d_R_setLimits_21
  · refine lv_aload_n hx hb d_R_setLimits_7 rfl (lv_at hl 0 rfl) ?_
    refine z_get (v := .ref (a 2)) E hK G.1 i_R 0 1 rfl rfl (by decide) kf_R_15 rfl d_R_setLimits_8 ?_
    refine lv_iload_n hx hb d_R_setLimits_11 rfl (lv_at hl 1 rfl) ?_
    refine lv_iload_n hx hb d_R_setLimits_12 rfl (lv_at hl 2 rfl) ?_
    refine z_ast (f := P 1) (ws' := wR a cI (up2 P 1 person.toNatClampNeg requestLimit)) E hK G 2 0 rfl rfl (in_person c_1) rfl d_R_setLimits_13 (fun H locs G => ?_)
    refine lv_aload_n hx hb d_R_setLimits_14 rfl (lv_at hl 0 rfl) ?_
    refine z_get (v := .ref (a 3)) E hK G.1 i_R 0 2 rfl rfl (by decide) kf_R_18 rfl d_R_setLimits_15 ?_
    refine lv_iload_n hx hb d_R_setLimits_18 rfl (lv_at hl 1 rfl) ?_
    refine lv_iload_n hx hb d_R_setLimits_19 rfl (lv_at hl 3 rfl) ?_
    refine z_ast (f := (up2 P 1 person.toNatClampNeg requestLimit) 2) (ws' := wR a cI (up2 (up2 P 1 person.toNatClampNeg requestLimit) 2 person.toNatClampNeg pageLimit)) E hK G 3 0 rfl rfl (in_person c_1) rfl d_R_setLimits_20 (fun H locs G => ?_)
    have hf : f_R_setLimits P person requestLimit pageLimit = (up2 (up2 P 1 person.toNatClampNeg requestLimit) 2 person.toNatClampNeg pageLimit) := by unfold f_R_setLimits; rw [if_neg c_1]
    exact zW.vret E hrt hlk G (by rw [hf]) (by rfl) d_R_setLimits_21
def f_R_addCopied (P : Nat → Nat → Int32) (person : Int32) (day : Int32) (pages : Int32) : (Nat → Nat → Int32) := (if (f_isPerson person) = 0 then P else (up2 (up2 P 4 person.toNatClampNeg ((f_R_copiedOn P person day) + pages)) 3 person.toNatClampNeg day))
set_option maxHeartbeats 4000000 in
set_option maxRecDepth 100000 in
theorem c_R_addCopied (l : Launch) (D : va_G) (cI : ClassId) (a : Nat → Nat) (P : Nat → Nat → Int32) (person : Int32) (day : Int32) (pages : Int32)  : zW l D [(cI, .int)] y_R_addCopied b_R_addCopied 4 none 3 64 [.ref (a 0), .int person, .int day, .int pages] (wR a cI P) (wR a cI (f_R_addCopied P person day pages)) none := by
  refine zW.of (by decide) (Nat.le_of_ble_eq_true rfl) ?_
  intro p e s m below meth c0 ls A E hrt hlk hN hK hA G hl
  have hx := E.1
  have hb := E.2.1
  have hl : lv_has ls 4 [(0, .ref (a 0)), (1, .int person), (2, .int day), (3, .int pages)] := hl
  refine lv_iload_n hx hb d_R_addCopied_0 rfl (lv_at hl 1 rfl) ?_
  refine z_rn (As := [.int person]) (rest := []) E hN hK hl.1 (c_isPerson l D [(cI, .int)] person) kz_R_33 rfl ⟨Nat.le_of_ble_eq_true rfl, Nat.le_of_ble_eq_true rfl⟩ rfl (Nat.le_of_ble_eq_true rfl) ⟨Nat.zero_le _, Nat.zero_le _⟩ d_R_addCopied_1 ?_
  refine lv_if_eq (tgt := 28) hx hb d_R_addCopied_4 (by decide) (fun c_1 => ?_) (fun c_1 => ?_)
  · have hf : f_R_addCopied P person day pages = P := by unfold f_R_addCopied; rw [if_pos c_1]
    exact zW.vret E hrt hlk G (by rw [hf]) (by rfl) d_R_addCopied_28
  · refine lv_aload_n hx hb d_R_addCopied_7 rfl (lv_at hl 0 rfl) ?_
    refine z_get (v := .ref (a 5)) E hK G.1 i_R 0 4 rfl rfl (by decide) kf_R_24 rfl d_R_addCopied_8 ?_
    refine lv_iload_n hx hb d_R_addCopied_11 rfl (lv_at hl 1 rfl) ?_
    refine lv_aload_n hx hb d_R_addCopied_12 rfl (lv_at hl 0 rfl) ?_
    refine lv_iload_n hx hb d_R_addCopied_13 rfl (lv_at hl 1 rfl) ?_
    refine lv_iload_n hx hb d_R_addCopied_14 rfl (lv_at hl 2 rfl) ?_
    refine z_rv (As := [.int person, .int day]) (rest := [.int person, .ref (a 5)]) E hN hK G.1 hl.1 (c_R_copiedOn l D cI a P person day ) [0, 1, 2, 3, 4, 5] rfl 0 rfl rfl kz_R_37 rfl ⟨Nat.le_of_ble_eq_true rfl, Nat.le_of_ble_eq_true rfl⟩ rfl (Nat.le_of_ble_eq_true rfl) ⟨Nat.zero_le _, Nat.zero_le _⟩ d_R_addCopied_15 ?_
    refine lv_iload_n hx hb d_R_addCopied_18 rfl (lv_at hl 3 rfl) ?_
    refine lv_iadd hx hb d_R_addCopied_19 ?_
    refine z_ast (f := P 4) (ws' := wR a cI (up2 P 4 person.toNatClampNeg ((f_R_copiedOn P person day) + pages))) E hK G 5 0 rfl rfl (in_person c_1) rfl d_R_addCopied_20 (fun H locs G => ?_)
    refine lv_aload_n hx hb d_R_addCopied_21 rfl (lv_at hl 0 rfl) ?_
    refine z_get (v := .ref (a 4)) E hK G.1 i_R 0 3 rfl rfl (by decide) kf_R_21 rfl d_R_addCopied_22 ?_
    refine lv_iload_n hx hb d_R_addCopied_25 rfl (lv_at hl 1 rfl) ?_
    refine lv_iload_n hx hb d_R_addCopied_26 rfl (lv_at hl 2 rfl) ?_
    refine z_ast (f := (up2 P 4 person.toNatClampNeg ((f_R_copiedOn P person day) + pages)) 3) (ws' := wR a cI (up2 (up2 P 4 person.toNatClampNeg ((f_R_copiedOn P person day) + pages)) 3 person.toNatClampNeg day)) E hK G 4 0 rfl rfl (in_person c_1) rfl d_R_addCopied_27 (fun H locs G => ?_)
    have hf : f_R_addCopied P person day pages = (up2 (up2 P 4 person.toNatClampNeg ((f_R_copiedOn P person day) + pages)) 3 person.toNatClampNeg day) := by unfold f_R_addCopied; rw [if_neg c_1]
    exact zW.vret E hrt hlk G (by rw [hf]) (by rfl) d_R_addCopied_28
def f_H_placeOf (U : Nat → Nat → Int32) (unit : Int32) : Int32 := (if (f_isUnit unit) = 0 then (-1) else (U 0 unit.toNatClampNeg))
set_option maxHeartbeats 4000000 in
set_option maxRecDepth 100000 in
theorem c_H_placeOf (l : Launch) (D : va_G) (cI : ClassId) (a : Nat → Nat) (U : Nat → Nat → Int32) (unit : Int32)  : zR l D [(cI, .int)] y_H_placeOf b_H_placeOf 2 (some .int) 2 42 [.ref (a 0), .int unit] (wH a cI U) (f_H_placeOf U unit) := by
  refine zR.of (by decide) (Nat.le_of_ble_eq_true rfl) ?_
  intro p e s m below meth c0 ls E hrt hlk hN hK hP hl
  have hx := E.1
  have hb := E.2.1
  have hl : lv_has ls 2 [(0, .ref (a 0)), (1, .int unit)] := hl
  refine lv_iload_n hx hb d_H_placeOf_0 rfl (lv_at hl 1 rfl) ?_
  refine z_rn (As := [.int unit]) (rest := []) E hN hK hl.1 (c_isUnit l D [(cI, .int)] unit) kz_H_30 rfl ⟨Nat.le_of_ble_eq_true rfl, Nat.le_of_ble_eq_true rfl⟩ rfl (Nat.le_of_ble_eq_true rfl) ⟨Nat.zero_le _, Nat.zero_le _⟩ d_H_placeOf_1 ?_
  refine lv_if_eq (tgt := 16) hx hb d_H_placeOf_4 (by decide) (fun c_1 => ?_) (fun c_1 => ?_)
  · refine lv_iconst (v := (-1)) hx hb d_H_placeOf_16 (by decide) ?_
    exact zR.iret E hrt hlk (by unfold f_H_placeOf; rw [if_pos c_1]) d_H_placeOf_17
  · refine lv_aload_n hx hb d_H_placeOf_7 rfl (lv_at hl 0 rfl) ?_
    refine z_get (v := .ref (a 1)) E hK hP i_H 0 0 rfl rfl (by decide) kf_H_9 rfl d_H_placeOf_8 ?_
    refine lv_iload_n hx hb d_H_placeOf_11 rfl (lv_at hl 1 rfl) ?_
    refine z_ald (f := U 0) E hK hP 1 0 rfl rfl (in_unit c_1) d_H_placeOf_12 ?_
    refine lv_goto (tgt := 17) hx hb d_H_placeOf_13 (by decide) ?_
    exact zR.iret E hrt hlk (by unfold f_H_placeOf; rw [if_neg c_1]) d_H_placeOf_17
def f_H_conditionOf (U : Nat → Nat → Int32) (unit : Int32) : Int32 := (if (f_isUnit unit) = 0 then (-1) else (U 1 unit.toNatClampNeg))
set_option maxHeartbeats 4000000 in
set_option maxRecDepth 100000 in
theorem c_H_conditionOf (l : Launch) (D : va_G) (cI : ClassId) (a : Nat → Nat) (U : Nat → Nat → Int32) (unit : Int32)  : zR l D [(cI, .int)] y_H_conditionOf b_H_conditionOf 2 (some .int) 2 42 [.ref (a 0), .int unit] (wH a cI U) (f_H_conditionOf U unit) := by
  refine zR.of (by decide) (Nat.le_of_ble_eq_true rfl) ?_
  intro p e s m below meth c0 ls E hrt hlk hN hK hP hl
  have hx := E.1
  have hb := E.2.1
  have hl : lv_has ls 2 [(0, .ref (a 0)), (1, .int unit)] := hl
  refine lv_iload_n hx hb d_H_conditionOf_0 rfl (lv_at hl 1 rfl) ?_
  refine z_rn (As := [.int unit]) (rest := []) E hN hK hl.1 (c_isUnit l D [(cI, .int)] unit) kz_H_30 rfl ⟨Nat.le_of_ble_eq_true rfl, Nat.le_of_ble_eq_true rfl⟩ rfl (Nat.le_of_ble_eq_true rfl) ⟨Nat.zero_le _, Nat.zero_le _⟩ d_H_conditionOf_1 ?_
  refine lv_if_eq (tgt := 16) hx hb d_H_conditionOf_4 (by decide) (fun c_1 => ?_) (fun c_1 => ?_)
  · refine lv_iconst (v := (-1)) hx hb d_H_conditionOf_16 (by decide) ?_
    exact zR.iret E hrt hlk (by unfold f_H_conditionOf; rw [if_pos c_1]) d_H_conditionOf_17
  · refine lv_aload_n hx hb d_H_conditionOf_7 rfl (lv_at hl 0 rfl) ?_
    refine z_get (v := .ref (a 2)) E hK hP i_H 0 1 rfl rfl (by decide) kf_H_15 rfl d_H_conditionOf_8 ?_
    refine lv_iload_n hx hb d_H_conditionOf_11 rfl (lv_at hl 1 rfl) ?_
    refine z_ald (f := U 1) E hK hP 2 0 rfl rfl (in_unit c_1) d_H_conditionOf_12 ?_
    refine lv_goto (tgt := 17) hx hb d_H_conditionOf_13 (by decide) ?_
    exact zR.iret E hrt hlk (by unfold f_H_conditionOf; rw [if_neg c_1]) d_H_conditionOf_17
def f_H_restrictionOf (U : Nat → Nat → Int32) (unit : Int32) : Int32 := (if (f_isUnit unit) = 0 then (-1) else (U 2 unit.toNatClampNeg))
set_option maxHeartbeats 4000000 in
set_option maxRecDepth 100000 in
theorem c_H_restrictionOf (l : Launch) (D : va_G) (cI : ClassId) (a : Nat → Nat) (U : Nat → Nat → Int32) (unit : Int32)  : zR l D [(cI, .int)] y_H_restrictionOf b_H_restrictionOf 2 (some .int) 2 42 [.ref (a 0), .int unit] (wH a cI U) (f_H_restrictionOf U unit) := by
  refine zR.of (by decide) (Nat.le_of_ble_eq_true rfl) ?_
  intro p e s m below meth c0 ls E hrt hlk hN hK hP hl
  have hx := E.1
  have hb := E.2.1
  have hl : lv_has ls 2 [(0, .ref (a 0)), (1, .int unit)] := hl
  refine lv_iload_n hx hb d_H_restrictionOf_0 rfl (lv_at hl 1 rfl) ?_
  refine z_rn (As := [.int unit]) (rest := []) E hN hK hl.1 (c_isUnit l D [(cI, .int)] unit) kz_H_30 rfl ⟨Nat.le_of_ble_eq_true rfl, Nat.le_of_ble_eq_true rfl⟩ rfl (Nat.le_of_ble_eq_true rfl) ⟨Nat.zero_le _, Nat.zero_le _⟩ d_H_restrictionOf_1 ?_
  refine lv_if_eq (tgt := 16) hx hb d_H_restrictionOf_4 (by decide) (fun c_1 => ?_) (fun c_1 => ?_)
  · refine lv_iconst (v := (-1)) hx hb d_H_restrictionOf_16 (by decide) ?_
    exact zR.iret E hrt hlk (by unfold f_H_restrictionOf; rw [if_pos c_1]) d_H_restrictionOf_17
  · refine lv_aload_n hx hb d_H_restrictionOf_7 rfl (lv_at hl 0 rfl) ?_
    refine z_get (v := .ref (a 3)) E hK hP i_H 0 2 rfl rfl (by decide) kf_H_18 rfl d_H_restrictionOf_8 ?_
    refine lv_iload_n hx hb d_H_restrictionOf_11 rfl (lv_at hl 1 rfl) ?_
    refine z_ald (f := U 2) E hK hP 3 0 rfl rfl (in_unit c_1) d_H_restrictionOf_12 ?_
    refine lv_goto (tgt := 17) hx hb d_H_restrictionOf_13 (by decide) ?_
    exact zR.iret E hrt hlk (by unfold f_H_restrictionOf; rw [if_neg c_1]) d_H_restrictionOf_17
def f_H_requestOf (U : Nat → Nat → Int32) (unit : Int32) : Int32 := (if (f_isUnit unit) = 0 then (-1) else (U 3 unit.toNatClampNeg))
set_option maxHeartbeats 4000000 in
set_option maxRecDepth 100000 in
theorem c_H_requestOf (l : Launch) (D : va_G) (cI : ClassId) (a : Nat → Nat) (U : Nat → Nat → Int32) (unit : Int32)  : zR l D [(cI, .int)] y_H_requestOf b_H_requestOf 2 (some .int) 2 42 [.ref (a 0), .int unit] (wH a cI U) (f_H_requestOf U unit) := by
  refine zR.of (by decide) (Nat.le_of_ble_eq_true rfl) ?_
  intro p e s m below meth c0 ls E hrt hlk hN hK hP hl
  have hx := E.1
  have hb := E.2.1
  have hl : lv_has ls 2 [(0, .ref (a 0)), (1, .int unit)] := hl
  refine lv_iload_n hx hb d_H_requestOf_0 rfl (lv_at hl 1 rfl) ?_
  refine z_rn (As := [.int unit]) (rest := []) E hN hK hl.1 (c_isUnit l D [(cI, .int)] unit) kz_H_30 rfl ⟨Nat.le_of_ble_eq_true rfl, Nat.le_of_ble_eq_true rfl⟩ rfl (Nat.le_of_ble_eq_true rfl) ⟨Nat.zero_le _, Nat.zero_le _⟩ d_H_requestOf_1 ?_
  refine lv_if_eq (tgt := 16) hx hb d_H_requestOf_4 (by decide) (fun c_1 => ?_) (fun c_1 => ?_)
  · refine lv_iconst (v := (-1)) hx hb d_H_requestOf_16 (by decide) ?_
    exact zR.iret E hrt hlk (by unfold f_H_requestOf; rw [if_pos c_1]) d_H_requestOf_17
  · refine lv_aload_n hx hb d_H_requestOf_7 rfl (lv_at hl 0 rfl) ?_
    refine z_get (v := .ref (a 4)) E hK hP i_H 0 3 rfl rfl (by decide) kf_H_21 rfl d_H_requestOf_8 ?_
    refine lv_iload_n hx hb d_H_requestOf_11 rfl (lv_at hl 1 rfl) ?_
    refine z_ald (f := U 3) E hK hP 4 0 rfl rfl (in_unit c_1) d_H_requestOf_12 ?_
    refine lv_goto (tgt := 17) hx hb d_H_requestOf_13 (by decide) ?_
    exact zR.iret E hrt hlk (by unfold f_H_requestOf; rw [if_neg c_1]) d_H_requestOf_17
def f_H_put (U : Nat → Nat → Int32) (unit : Int32) (place : Int32) (number : Int32) : (Nat → Nat → Int32) := (if (f_isUnit unit) = 0 then U else (up2 (up2 U 0 unit.toNatClampNeg place) 3 unit.toNatClampNeg number))
set_option maxHeartbeats 4000000 in
set_option maxRecDepth 100000 in
theorem c_H_put (l : Launch) (D : va_G) (cI : ClassId) (a : Nat → Nat) (U : Nat → Nat → Int32) (unit : Int32) (place : Int32) (number : Int32)  : zW l D [(cI, .int)] y_H_put b_H_put 4 none 2 42 [.ref (a 0), .int unit, .int place, .int number] (wH a cI U) (wH a cI (f_H_put U unit place number)) none := by
  refine zW.of (by decide) (Nat.le_of_ble_eq_true rfl) ?_
  intro p e s m below meth c0 ls A E hrt hlk hN hK hA G hl
  have hx := E.1
  have hb := E.2.1
  have hl : lv_has ls 4 [(0, .ref (a 0)), (1, .int unit), (2, .int place), (3, .int number)] := hl
  refine lv_iload_n hx hb d_H_put_0 rfl (lv_at hl 1 rfl) ?_
  refine z_rn (As := [.int unit]) (rest := []) E hN hK hl.1 (c_isUnit l D [(cI, .int)] unit) kz_H_30 rfl ⟨Nat.le_of_ble_eq_true rfl, Nat.le_of_ble_eq_true rfl⟩ rfl (Nat.le_of_ble_eq_true rfl) ⟨Nat.zero_le _, Nat.zero_le _⟩ d_H_put_1 ?_
  refine lv_if_eq (tgt := 21) hx hb d_H_put_4 (by decide) (fun c_1 => ?_) (fun c_1 => ?_)
  · have hf : f_H_put U unit place number = U := by unfold f_H_put; rw [if_pos c_1]
    exact zW.vret E hrt hlk G (by rw [hf]) (by rfl) d_H_put_21
  · refine lv_aload_n hx hb d_H_put_7 rfl (lv_at hl 0 rfl) ?_
    refine z_get (v := .ref (a 1)) E hK G.1 i_H 0 0 rfl rfl (by decide) kf_H_9 rfl d_H_put_8 ?_
    refine lv_iload_n hx hb d_H_put_11 rfl (lv_at hl 1 rfl) ?_
    refine lv_iload_n hx hb d_H_put_12 rfl (lv_at hl 2 rfl) ?_
    refine z_ast (f := U 0) (ws' := wH a cI (up2 U 0 unit.toNatClampNeg place)) E hK G 1 0 rfl rfl (in_unit c_1) rfl d_H_put_13 (fun H locs G => ?_)
    refine lv_aload_n hx hb d_H_put_14 rfl (lv_at hl 0 rfl) ?_
    refine z_get (v := .ref (a 4)) E hK G.1 i_H 0 3 rfl rfl (by decide) kf_H_21 rfl d_H_put_15 ?_
    refine lv_iload_n hx hb d_H_put_18 rfl (lv_at hl 1 rfl) ?_
    refine lv_iload_n hx hb d_H_put_19 rfl (lv_at hl 3 rfl) ?_
    refine z_ast (f := (up2 U 0 unit.toNatClampNeg place) 3) (ws' := wH a cI (up2 (up2 U 0 unit.toNatClampNeg place) 3 unit.toNatClampNeg number)) E hK G 4 0 rfl rfl (in_unit c_1) rfl d_H_put_20 (fun H locs G => ?_)
    have hf : f_H_put U unit place number = (up2 (up2 U 0 unit.toNatClampNeg place) 3 unit.toNatClampNeg number) := by unfold f_H_put; rw [if_neg c_1]
    exact zW.vret E hrt hlk G (by rw [hf]) (by rfl) d_H_put_21
def f_H_setCondition (U : Nat → Nat → Int32) (unit : Int32) (condition : Int32) : (Nat → Nat → Int32) := (if (f_isUnit unit) = 0 then U else (up2 U 1 unit.toNatClampNeg condition))
set_option maxHeartbeats 4000000 in
set_option maxRecDepth 100000 in
theorem c_H_setCondition (l : Launch) (D : va_G) (cI : ClassId) (a : Nat → Nat) (U : Nat → Nat → Int32) (unit : Int32) (condition : Int32)  : zW l D [(cI, .int)] y_H_setCondition b_H_setCondition 3 none 2 42 [.ref (a 0), .int unit, .int condition] (wH a cI U) (wH a cI (f_H_setCondition U unit condition)) none := by
  refine zW.of (by decide) (Nat.le_of_ble_eq_true rfl) ?_
  intro p e s m below meth c0 ls A E hrt hlk hN hK hA G hl
  have hx := E.1
  have hb := E.2.1
  have hl : lv_has ls 3 [(0, .ref (a 0)), (1, .int unit), (2, .int condition)] := hl
  refine lv_iload_n hx hb d_H_setCondition_0 rfl (lv_at hl 1 rfl) ?_
  refine z_rn (As := [.int unit]) (rest := []) E hN hK hl.1 (c_isUnit l D [(cI, .int)] unit) kz_H_30 rfl ⟨Nat.le_of_ble_eq_true rfl, Nat.le_of_ble_eq_true rfl⟩ rfl (Nat.le_of_ble_eq_true rfl) ⟨Nat.zero_le _, Nat.zero_le _⟩ d_H_setCondition_1 ?_
  refine lv_if_eq (tgt := 14) hx hb d_H_setCondition_4 (by decide) (fun c_1 => ?_) (fun c_1 => ?_)
  · have hf : f_H_setCondition U unit condition = U := by unfold f_H_setCondition; rw [if_pos c_1]
    exact zW.vret E hrt hlk G (by rw [hf]) (by rfl) d_H_setCondition_14
  · refine lv_aload_n hx hb d_H_setCondition_7 rfl (lv_at hl 0 rfl) ?_
    refine z_get (v := .ref (a 2)) E hK G.1 i_H 0 1 rfl rfl (by decide) kf_H_15 rfl d_H_setCondition_8 ?_
    refine lv_iload_n hx hb d_H_setCondition_11 rfl (lv_at hl 1 rfl) ?_
    refine lv_iload_n hx hb d_H_setCondition_12 rfl (lv_at hl 2 rfl) ?_
    refine z_ast (f := U 1) (ws' := wH a cI (up2 U 1 unit.toNatClampNeg condition)) E hK G 2 0 rfl rfl (in_unit c_1) rfl d_H_setCondition_13 (fun H locs G => ?_)
    have hf : f_H_setCondition U unit condition = (up2 U 1 unit.toNatClampNeg condition) := by unfold f_H_setCondition; rw [if_neg c_1]
    exact zW.vret E hrt hlk G (by rw [hf]) (by rfl) d_H_setCondition_14
def f_H_setRestriction (U : Nat → Nat → Int32) (unit : Int32) (restriction : Int32) : (Nat → Nat → Int32) := (if (f_isUnit unit) = 0 then U else (up2 U 2 unit.toNatClampNeg restriction))
set_option maxHeartbeats 4000000 in
set_option maxRecDepth 100000 in
theorem c_H_setRestriction (l : Launch) (D : va_G) (cI : ClassId) (a : Nat → Nat) (U : Nat → Nat → Int32) (unit : Int32) (restriction : Int32)  : zW l D [(cI, .int)] y_H_setRestriction b_H_setRestriction 3 none 2 42 [.ref (a 0), .int unit, .int restriction] (wH a cI U) (wH a cI (f_H_setRestriction U unit restriction)) none := by
  refine zW.of (by decide) (Nat.le_of_ble_eq_true rfl) ?_
  intro p e s m below meth c0 ls A E hrt hlk hN hK hA G hl
  have hx := E.1
  have hb := E.2.1
  have hl : lv_has ls 3 [(0, .ref (a 0)), (1, .int unit), (2, .int restriction)] := hl
  refine lv_iload_n hx hb d_H_setRestriction_0 rfl (lv_at hl 1 rfl) ?_
  refine z_rn (As := [.int unit]) (rest := []) E hN hK hl.1 (c_isUnit l D [(cI, .int)] unit) kz_H_30 rfl ⟨Nat.le_of_ble_eq_true rfl, Nat.le_of_ble_eq_true rfl⟩ rfl (Nat.le_of_ble_eq_true rfl) ⟨Nat.zero_le _, Nat.zero_le _⟩ d_H_setRestriction_1 ?_
  refine lv_if_eq (tgt := 14) hx hb d_H_setRestriction_4 (by decide) (fun c_1 => ?_) (fun c_1 => ?_)
  · have hf : f_H_setRestriction U unit restriction = U := by unfold f_H_setRestriction; rw [if_pos c_1]
    exact zW.vret E hrt hlk G (by rw [hf]) (by rfl) d_H_setRestriction_14
  · refine lv_aload_n hx hb d_H_setRestriction_7 rfl (lv_at hl 0 rfl) ?_
    refine z_get (v := .ref (a 3)) E hK G.1 i_H 0 2 rfl rfl (by decide) kf_H_18 rfl d_H_setRestriction_8 ?_
    refine lv_iload_n hx hb d_H_setRestriction_11 rfl (lv_at hl 1 rfl) ?_
    refine lv_iload_n hx hb d_H_setRestriction_12 rfl (lv_at hl 2 rfl) ?_
    refine z_ast (f := U 2) (ws' := wH a cI (up2 U 2 unit.toNatClampNeg restriction)) E hK G 3 0 rfl rfl (in_unit c_1) rfl d_H_setRestriction_13 (fun H locs G => ?_)
    have hf : f_H_setRestriction U unit restriction = (up2 U 2 unit.toNatClampNeg restriction) := by unfold f_H_setRestriction; rw [if_neg c_1]
    exact zW.vret E hrt hlk G (by rw [hf]) (by rfl) d_H_setRestriction_14
def f_H_storeAll_L   : Nat → Nat → Int32 → (Nat → Nat → Int32) → Int32 × (Nat → Nat → Int32)
  | 0, k0, x1, U => (x1, U)
  | d + 1, k0, x1, U => (if (U 0 k0) = 0 then (f_H_storeAll_L  d (k0 + 1) x1 U) else (f_H_storeAll_L  d (k0 + 1) (x1 + 1) (f_H_put U (nI k0) 0 (-1))))
theorem f_H_storeAll_L_0   (k0 : Nat) (x1 : Int32) (U : Nat → Nat → Int32) : f_H_storeAll_L  0 k0 x1 U = (x1, U) := rfl
theorem f_H_storeAll_L_s   (d k0 : Nat) (x1 : Int32) (U : Nat → Nat → Int32) : f_H_storeAll_L  (d + 1) k0 x1 U = (if (U 0 k0) = 0 then (f_H_storeAll_L  d (k0 + 1) x1 U) else (f_H_storeAll_L  d (k0 + 1) (x1 + 1) (f_H_put U (nI k0) 0 (-1)))) := rfl
def f_H_storeAll (U : Nat → Nat → Int32)  : Int32 × (Nat → Nat → Int32) := (f_H_storeAll_L  80 0 0 U)
set_option maxHeartbeats 4000000 in
set_option maxRecDepth 100000 in
theorem lp_H_storeAll (l : Launch) (D : va_G) (cI : ClassId) (a : Nat → Nat)    {p : Program} {e : Env} {s : State} {m : MethodId} {below : List Frame} {meth : Method} {c0 : Code} {A : Nat → Prop} (E : CallFix p m c0 b_H_storeAll 3 s ([.ref (a 0)] : List Value).toArray zB y_H_storeAll.cls) (hrt : meth.sig.returnType = (some .int)) (hlk : meth.locks = false) (hN : zN s) (hK : va_K D vwCl [(cI, .int)] s) (hA : ∀ q, s.heap.size ≤ q → A q) :
    ∀ (d k0 : Nat) (x1 : Int32) (U : Nat → Nat → Int32), k0 + d = 80 → ∀ X : Int32 × (Nat → Nat → Int32), f_H_storeAll_L  d k0 x1 U = X → ∀ (H : Heap) (locs : List Loc), zG D A s H locs (wH a cI U) → ∀ ls : Array Slot, lv_has ls 3 [(2, .int (nI k0)), (1, .int x1), (0, .ref (a 0))] → W p l e { frames := 3, cells := 0, slots := 0, locals := 65 } s m ([.ref (a 0)] : List Value).toArray below meth c0 H locs 0 0 (MQ below (zQ D A (wH a cI X.2) (some (.int X.1))) ([.ref (a 0)] : List Value).toArray s 0 0 A) (F0 m 4 ls []) := by
  have hx := E.1
  have hb := E.2.1
  intro d
  induction d with
  | zero =>
    intro k0 x1 U hkd X hr H locs G ls hl
    refine lv_iload_n hx hb d_H_storeAll_4 rfl (lv_at hl 0 rfl) ?_
    refine lv_bipush (v := (nI 80)) hx hb d_H_storeAll_5 (by decide) ?_
    refine lv_icmp_ge (tgt := 35) hx hb d_H_storeAll_7 (by decide) (fun c_1 => ?_) (fun c_1 => absurd (nI_le (by omega) (by omega)) c_1)
    refine lv_iload_n hx hb d_H_storeAll_35 rfl (lv_at hl 1 rfl) ?_
    have hf : X = (x1, U) := by rw [← hr, f_H_storeAll_L_0]
    exact zW.iret E hrt hlk G (by rw [hf]) (by rw [hf]) d_H_storeAll_36
  | succ d ih =>
    intro k0 x1 U hkd X hr H locs G ls hl
    refine lv_iload_n hx hb d_H_storeAll_4 rfl (lv_at hl 0 rfl) ?_
    refine lv_bipush (v := (nI 80)) hx hb d_H_storeAll_5 (by decide) ?_
    refine lv_icmp_ge (tgt := 35) hx hb d_H_storeAll_7 (by decide) (fun c_2 => absurd c_2 (nI_ge (by omega) (by omega))) (fun c_2 => ?_)
    refine lv_aload_n hx hb d_H_storeAll_10 rfl (lv_at hl 2 rfl) ?_
    refine z_get (v := .ref (a 1)) E hK G.1 i_H 0 0 rfl rfl (by decide) kf_H_9 rfl d_H_storeAll_11 ?_
    refine lv_iload_n hx hb d_H_storeAll_14 rfl (lv_at hl 0 rfl) ?_
    refine z_aldN (f := U 0) (j := k0) E hK G.1 1 0 rfl rfl rfl (by omega) (by decide) d_H_storeAll_15 ?_
    refine lv_if_eq (tgt := 29) hx hb d_H_storeAll_16 (by decide) (fun c_3 => ?_) (fun c_3 => ?_)
    · refine lv_iinc (v := nI (k0 + 1)) (lv' := [(2, .int (nI (k0 + 1))), (1, .int x1), (0, .ref (a 0))]) hx hb d_H_storeAll_29 hl (k := 0) rfl (nI_1 _) (by decide) rfl (fun ls hl => ?_)
      refine lv_goto (tgt := 4) hx hb d_H_storeAll_32 (by decide) ?_
      exact ih (k0 + 1) x1 U (by omega) X (by rw [← hr, f_H_storeAll_L_s, if_pos c_3]) H locs G ls (lv_sub hl [0, 1, 2] rfl)
    · refine lv_aload_n hx hb d_H_storeAll_19 rfl (lv_at hl 2 rfl) ?_
      refine lv_iload_n hx hb d_H_storeAll_20 rfl (lv_at hl 0 rfl) ?_
      refine lv_iconst (v := 0) hx hb d_H_storeAll_21 (by decide) ?_
      refine lv_iconst (v := (-1)) hx hb d_H_storeAll_22 (by decide) ?_
      refine z_wv (As := [.int (nI k0), .int 0, .int (-1)]) (rest := []) (wr := ([] : List Nat).filterMap (fun i => (wH a cI U)[i]?)) (ws' := wH a cI (f_H_put U (nI k0) 0 (-1))) E hN hK hA G hl.1 (c_H_put l D cI a U (nI k0) 0 (-1) ) [0, 1, 2, 3, 4] [] [0, 1, 2, 3, 4] rfl rfl rfl rfl rfl rfl (by decide) 0 rfl rfl kz_H_34 rfl ⟨Nat.le_of_ble_eq_true rfl, Nat.le_of_ble_eq_true rfl⟩ rfl (Nat.le_of_ble_eq_true rfl) ⟨Nat.zero_le _, Nat.zero_le _⟩ d_H_storeAll_23 (fun H locs G => ?_)
      refine W.eq (g2 := F0 m 26 ls []) rfl ?_
      refine lv_iinc (v := x1 + 1) (lv' := [(1, .int (x1 + 1)), (2, .int (nI k0)), (0, .ref (a 0))]) hx hb d_H_storeAll_26 hl (k := 1) rfl rfl (by decide) rfl (fun ls hl => ?_)
      refine lv_iinc (v := nI (k0 + 1)) (lv' := [(2, .int (nI (k0 + 1))), (1, .int (x1 + 1)), (0, .ref (a 0))]) hx hb d_H_storeAll_29 hl (k := 1) rfl (nI_1 _) (by decide) rfl (fun ls hl => ?_)
      refine lv_goto (tgt := 4) hx hb d_H_storeAll_32 (by decide) ?_
      exact ih (k0 + 1) (x1 + 1) (f_H_put U (nI k0) 0 (-1)) (by omega) X (by rw [← hr, f_H_storeAll_L_s, if_neg c_3]) H locs G ls (lv_sub hl [0, 1, 2] rfl)
set_option maxHeartbeats 4000000 in
set_option maxRecDepth 100000 in
theorem c_H_storeAll (l : Launch) (D : va_G) (cI : ClassId) (a : Nat → Nat) (U : Nat → Nat → Int32)   : zW l D [(cI, .int)] y_H_storeAll b_H_storeAll 3 (some .int) 3 65 [.ref (a 0)] (wH a cI U) (wH a cI ((f_H_storeAll U).2)) (some (.int (f_H_storeAll U).1)) := by
  refine zW.of (by decide) (Nat.le_of_ble_eq_true rfl) ?_
  intro p e s m below meth c0 ls A E hrt hlk hN hK hA G hl
  have hx := E.1
  have hb := E.2.1
  have hl : lv_has ls 3 [(0, .ref (a 0))] := hl
  refine lv_iconst (v := 0) hx hb d_H_storeAll_0 (by decide) ?_
  refine lv_istore_n (lv' := [(1, .int 0), (0, .ref (a 0))]) hx hb d_H_storeAll_1 rfl hl (by decide) rfl (fun ls hl => ?_)
  refine lv_iconst (v := 0) hx hb d_H_storeAll_2 (by decide) ?_
  refine lv_istore_n (lv' := [(2, .int 0), (1, .int 0), (0, .ref (a 0))]) hx hb d_H_storeAll_3 rfl hl (by decide) rfl (fun ls hl => ?_)
  exact lp_H_storeAll l D cI a   E hrt hlk hN hK hA 80 0 0 U (by omega) _ (by rfl) _ _ G ls (by rw [nI_0]; exact lv_sub hl [0, 1, 2] rfl)
