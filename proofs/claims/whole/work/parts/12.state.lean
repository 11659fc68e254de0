def wS (a : Nat → Nat) (cI : ClassId) (k : Int32) (n : Int32) (Z : Nat → Nat → Int32) : va_W := [(a 0, .inr (3, [.int k, .ref (a 1), .ref (a 2), .int n])), (a 1, .inl (cI, 20, .inl (Z 0))), (a 2, .inl (cI, 60, .inl (Z 1)))]
def wR (a : Nat → Nat) (cI : ClassId) (P : Nat → Nat → Int32) : va_W := [(a 0, .inr (1, [.ref (a 1), .ref (a 2), .ref (a 3), .ref (a 4), .ref (a 5)])), (a 1, .inl (cI, 60, .inl (P 0))), (a 2, .inl (cI, 60, .inl (P 1))), (a 3, .inl (cI, 60, .inl (P 2))), (a 4, .inl (cI, 60, .inl (P 3))), (a 5, .inl (cI, 60, .inl (P 4)))]
def wH (a : Nat → Nat) (cI : ClassId) (U : Nat → Nat → Int32) : va_W := [(a 0, .inr (0, [.ref (a 1), .ref (a 2), .ref (a 3), .ref (a 4)])), (a 1, .inl (cI, 80, .inl (U 0))), (a 2, .inl (cI, 80, .inl (U 1))), (a 3, .inl (cI, 80, .inl (U 2))), (a 4, .inl (cI, 80, .inl (U 3)))]
def wQ (a : Nat → Nat) (cI : ClassId) (c : Int32) (V : Nat → Nat → Int32) : va_W := [(a 0, .inr (2, [.ref (a 1), .ref (a 2), .ref (a 3), .ref (a 4), .ref (a 5), .ref (a 6), .int c])), (a 1, .inl (cI, 300, .inl (V 0))), (a 2, .inl (cI, 300, .inl (V 1))), (a 3, .inl (cI, 300, .inl (V 2))), (a 4, .inl (cI, 300, .inl (V 3))), (a 5, .inl (cI, 300, .inl (V 4))), (a 6, .inl (cI, 300, .inl (V 5)))]
def wX (a : Nat → Nat) (cI : ClassId) (nw : Int32) (k : Int32) (n : Int32) (c : Int32) (Z : Nat → Nat → Int32) (P : Nat → Nat → Int32) (U : Nat → Nat → Int32) (V : Nat → Nat → Int32) : va_W := [(a 0, .inr (4, [.ref (a 1), .ref (a 4), .ref (a 10), .ref (a 15), .int nw])), (a 1, .inr (3, [.int k, .ref (a 2), .ref (a 3), .int n])), (a 2, .inl (cI, 20, .inl (Z 0))), (a 3, .inl (cI, 60, .inl (Z 1))), (a 4, .inr (1, [.ref (a 5), .ref (a 6), .ref (a 7), .ref (a 8), .ref (a 9)])), (a 5, .inl (cI, 60, .inl (P 0))), (a 6, .inl (cI, 60, .inl (P 1))), (a 7, .inl (cI, 60, .inl (P 2))), (a 8, .inl (cI, 60, .inl (P 3))), (a 9, .inl (cI, 60, .inl (P 4))), (a 10, .inr (0, [.ref (a 11), .ref (a 12), .ref (a 13), .ref (a 14)])), (a 11, .inl (cI, 80, .inl (U 0))), (a 12, .inl (cI, 80, .inl (U 1))), (a 13, .inl (cI, 80, .inl (U 2))), (a 14, .inl (cI, 80, .inl (U 3))), (a 15, .inr (2, [.ref (a 16), .ref (a 17), .ref (a 18), .ref (a 19), .ref (a 20), .ref (a 21), .int c])), (a 16, .inl (cI, 300, .inl (V 0))), (a 17, .inl (cI, 300, .inl (V 1))), (a 18, .inl (cI, 300, .inl (V 2))), (a 19, .inl (cI, 300, .inl (V 3))), (a 20, .inl (cI, 300, .inl (V 4))), (a 21, .inl (cI, 300, .inl (V 5)))]
def wM (a : Nat → Nat) (cI : ClassId) (th : Int32) (nw : Int32) (k : Int32) (n : Int32) (c : Int32) (Z : Nat → Nat → Int32) (P : Nat → Nat → Int32) (U : Nat → Nat → Int32) (V : Nat → Nat → Int32) : va_W := [(a 0, .inr (5, [.int th, .int nw, .int k, .ref (a 1), .int n, .ref (a 2), .ref (a 3), .ref (a 4), .ref (a 5), .ref (a 6), .ref (a 7), .ref (a 8), .ref (a 9), .ref (a 10), .ref (a 11), .int c, .ref (a 12), .ref (a 13), .ref (a 14), .ref (a 15), .ref (a 16), .ref (a 17)])), (a 1, .inl (cI, 20, .inl (Z 0))), (a 2, .inl (cI, 60, .inl (Z 1))), (a 3, .inl (cI, 60, .inl (P 0))), (a 4, .inl (cI, 60, .inl (P 1))), (a 5, .inl (cI, 60, .inl (P 2))), (a 6, .inl (cI, 60, .inl (P 4))), (a 7, .inl (cI, 60, .inl (P 3))), (a 8, .inl (cI, 80, .inl (U 0))), (a 9, .inl (cI, 80, .inl (U 1))), (a 10, .inl (cI, 80, .inl (U 2))), (a 11, .inl (cI, 80, .inl (U 3))), (a 12, .inl (cI, 300, .inl (V 0))), (a 13, .inl (cI, 300, .inl (V 1))), (a 14, .inl (cI, 300, .inl (V 2))), (a 15, .inl (cI, 300, .inl (V 3))), (a 16, .inl (cI, 300, .inl (V 4))), (a 17, .inl (cI, 300, .inl (V 5)))]
set_option maxHeartbeats 4000000 in
set_option maxRecDepth 100000 in
/-- Arrays.fill(int[], int) -/
theorem c_fill (l : Launch) (D : va_G) (cI : ClassId) (h n : Nat) (f : Nat → Int32) (v : Int32) (hn : n < 2 ^ 31) : zW l D [(cI, .int)] y_JA_fill b_JA_fill 4 none 0 0 [.ref h, .int v] [(h, .inl (cI, n, .inl f))] [(h, .inl (cI, n, .inl (fillF f n v)))] none := by
  refine zW.of (by decide) (Nat.le_of_ble_eq_true rfl) ?_
  intro p e s m below meth c0 ls A E hrt hlk hN hK hA G hl
  have hx := E.1
  have hb := E.2.1
  have hl : lv_has ls 4 [(0, .ref h), (1, .int v)] := hl
  have lp : ∀ (d i : Nat), i + d = n → ∀ (H : Heap) (locs : List Loc), zG D A s H locs [(h, .inl (cI, n, .inl (fillF f i v)))] → ∀ ls : Array Slot, lv_has ls 4 [(2, .int (nI i)), (3, .int (nI n)), (0, .ref h), (1, .int v)] → W p l e { frames := 0, cells := 0, slots := 0, locals := 0 } s m ([.ref h, .int v] : List Value).toArray below meth c0 H locs 0 0 (MQ below (zQ D A [(h, .inl (cI, n, .inl (fillF f n v)))] none) ([.ref h, .int v] : List Value).toArray s 0 0 A) (F0 m 5 ls []) := by
    intro d
    induction d with
    | zero =>
      intro i hi H locs G ls hl
      refine lv_iload_n hx hb d_JA_fill_5 rfl (lv_at hl 0 rfl) ?_
      refine lv_iload_n hx hb d_JA_fill_6 rfl (lv_at hl 1 rfl) ?_
      refine lv_icmp_ge (tgt := 20) hx hb d_JA_fill_7 (by decide) (fun c_1 => ?_) (fun c_1 => absurd (nI_le (by omega) (by omega)) c_1)
      have hi : i = n := by omega
      subst hi
      exact zW.vret E hrt hlk G rfl rfl d_JA_fill_20
    | succ d ih =>
      intro i hi H locs G ls hl
      refine lv_iload_n hx hb d_JA_fill_5 rfl (lv_at hl 0 rfl) ?_
      refine lv_iload_n hx hb d_JA_fill_6 rfl (lv_at hl 1 rfl) ?_
      refine lv_icmp_ge (tgt := 20) hx hb d_JA_fill_7 (by decide) (fun c_1 => absurd c_1 (nI_ge (by omega) (by omega))) (fun c_1 => ?_)
      refine lv_aload_n hx hb d_JA_fill_10 rfl (lv_at hl 2 rfl) ?_
      refine lv_iload_n hx hb d_JA_fill_11 rfl (lv_at hl 0 rfl) ?_
      refine lv_iload_n hx hb d_JA_fill_12 rfl (lv_at hl 3 rfl) ?_
      refine z_astN (f := fillF f i v) (j := i) (ws' := [(h, .inl (cI, n, .inl (fillF f (i + 1) v)))]) E hK G 0 0 rfl rfl rfl (by omega) hn (by rw [← fillF_s]; rfl) d_JA_fill_13 (fun H locs G => ?_)
      refine lv_iinc (v := nI (i + 1)) (lv' := [(2, .int (nI (i + 1))), (3, .int (nI n)), (0, .ref h), (1, .int v)]) hx hb d_JA_fill_14 hl (k := 0) rfl (nI_1 _) (by decide) rfl (fun ls hl => ?_)
      refine lv_goto (tgt := 5) hx hb d_JA_fill_17 (by decide) ?_
      exact ih (i + 1) (by omega) H locs G ls hl
  refine lv_iconst (v := nI 0) hx hb d_JA_fill_0 (by decide) ?_
  refine lv_istore_n (lv' := [(2, .int (nI 0)), (0, .ref h), (1, .int v)]) hx hb d_JA_fill_1 rfl hl (by decide) rfl (fun ls hl => ?_)
  refine lv_aload_n hx hb d_JA_fill_2 rfl (lv_at hl 1 rfl) ?_
  refine va_alen (v := nI n) hx hb hK G.1 0 0 rfl rfl rfl d_JA_fill_3 ?_
  refine lv_istore_n (lv' := [(3, .int (nI n)), (2, .int (nI 0)), (0, .ref h), (1, .int v)]) hx hb d_JA_fill_4 rfl hl (by decide) rfl (fun ls hl => ?_)
  exact lp n 0 (by omega) _ _ (by rw [fillF_0]; exact G) ls (lv_sub hl [1, 0, 2, 3] rfl)
def f_isWithin  (number : Int32) (least : Int32) (most : Int32) : Int32 := (if number < least then 0 else (if most < number then 0 else 1))
set_option maxHeartbeats 4000000 in
set_option maxRecDepth 100000 in
theorem c_isWithin (l : Launch) (D : va_G) (tys : List (ClassId × FieldType))  (number : Int32) (least : Int32) (most : Int32)  : zR l D tys y_X_isWithin b_X_isWithin 3 (some .boolean) 0 0 [.int number, .int least, .int most] ([]) (f_isWithin number least most) := by
  refine zR.of (by decide) (Nat.le_of_ble_eq_true rfl) ?_
  intro p e s m below meth c0 ls E hrt hlk hN hK hP hl
  have hx := E.1
  have hb := E.2.1
  have hl : lv_has ls 3 [(0, .int number), (1, .int least), (2, .int most)] := hl
  refine lv_iload_n hx hb d_X_isWithin_0 rfl (lv_at hl 0 rfl) ?_
  refine lv_iload_n hx hb d_X_isWithin_1 rfl (lv_at hl 1 rfl) ?_
  refine lv_icmp_lt (tgt := 14) hx hb d_X_isWithin_2 (by decide) (fun c_1 => ?_) (fun c_1 => ?_)
  · refine lv_iconst (v := 0) hx hb d_X_isWithin_14 (by decide) ?_
    exact zR.zret E hrt hlk rfl (by unfold f_isWithin; rw [if_pos c_1]) d_X_isWithin_15
  · refine lv_iload_n hx hb d_X_isWithin_5 rfl (lv_at hl 0 rfl) ?_
    refine lv_iload_n hx hb d_X_isWithin_6 rfl (lv_at hl 2 rfl) ?_
    refine lv_icmp_gt (tgt := 14) hx hb d_X_isWithin_7 (by decide) (fun c_2 => ?_) (fun c_2 => ?_)
    · refine lv_iconst (v := 0) hx hb d_X_isWithin_14 (by decide) ?_
      exact zR.zret E hrt hlk rfl (by unfold f_isWithin; rw [if_neg c_1, if_pos c_2]) d_X_isWithin_15
    · refine lv_iconst (v := 1) hx hb d_X_isWithin_10 (by decide) ?_
      refine lv_goto (tgt := 15) hx hb d_X_isWithin_11 (by decide) ?_
      exact zR.zret E hrt hlk rfl (by unfold f_isWithin; rw [if_neg c_1, if_neg c_2]) d_X_isWithin_15
theorem nI_m1 {n : Nat} (h : 1 ≤ n) : nI n - 1 = nI (n - 1) := by
  obtain ⟨j, rfl⟩ : ∃ j, n = j + 1 := ⟨n - 1, by omega⟩
  exact nI_pred j
theorem nI_nle_lt {n b : Nat} {x : Int32} (hn : n < 2 ^ 31) (hx : x = nI b) (h : ¬ x ≤ nI n) : n < b := by
  subst hx
  exact Nat.lt_of_not_le (fun q => h (nI_le q hn))
theorem i32_ti {x y : Int32} : x ≤ y ↔ x.toInt ≤ y.toInt := Int32.le_iff_toInt_le
theorem vp_in_le {x y : Int32} {n : Nat} (h0 : 0 ≤ x) (h1 : x ≤ y) (hy : y.toInt < n) : vp_in x n := by
  rw [i32_ti] at h0 h1
  have h2 : (0 : Int32).toInt = 0 := by decide
  exact vp_in_iff.mpr ⟨by omega, by omega⟩
theorem b01_isWithin (x lo hi : Int32) : f_isWithin x lo hi = 0 ∨ f_isWithin x lo hi = 1 := by
  unfold f_isWithin
  split
  · exact Or.inl rfl
  · split
    · exact Or.inl rfl
    · exact Or.inr rfl
theorem isWithin_nz {x lo hi : Int32} (h : ¬ f_isWithin x lo hi = 0) : lo ≤ x ∧ x ≤ hi := by
  unfold f_isWithin at h
  split at h
  · exact absurd rfl h
  · rename_i h1
    split at h
    · exact absurd rfl h
    · rename_i h2
      exact ⟨Int32.not_lt.mp h1, Int32.not_lt.mp h2⟩
def f_isPerson  (person : Int32) : Int32 := (f_isWithin person 0 59)
set_option maxHeartbeats 4000000 in
set_option maxRecDepth 100000 in
theorem c_isPerson (l : Launch) (D : va_G) (tys : List (ClassId × FieldType))  (person : Int32)  : zR l D tys y_X_isPerson b_X_isPerson 1 (some .boolean) 1 22 [.int person] ([]) (f_isPerson person) := by
  refine zR.of (by decide) (Nat.le_of_ble_eq_true rfl) ?_
  intro p e s m below meth c0 ls E hrt hlk hN hK hP hl
  have hx := E.1
  have hb := E.2.1
  have hl : lv_has ls 1 [(0, .int person)] := hl
  refine lv_iload_n hx hb d_X_isPerson_0 rfl (lv_at hl 0 rfl) ?_
  refine lv_iconst (v := 0) hx hb d_X_isPerson_1 (by decide) ?_
  refine lv_bipush (v := 59) hx hb d_X_isPerson_2 (by decide) ?_
  refine z_rs (As := [.int person, .int 0, .int 59]) (rest := []) E hN hK hl.1 (c_isWithin l D tys person 0 59) kz_X_120 rfl ⟨Nat.le_of_ble_eq_true rfl, Nat.le_of_ble_eq_true rfl⟩ rfl (Nat.le_of_ble_eq_true rfl) ⟨Nat.zero_le _, Nat.zero_le _⟩ d_X_isPerson_4 ?_
  exact zR.zret E hrt hlk (nar01 (b01_isWithin _ _ _)) (by rfl) d_X_isPerson_7
def f_isUnit  (unit : Int32) : Int32 := (f_isWithin unit 0 79)
set_option maxHeartbeats 4000000 in
set_option maxRecDepth 100000 in
theorem c_isUnit (l : Launch) (D : va_G) (tys : List (ClassId × FieldType))  (unit : Int32)  : zR l D tys y_X_isUnit b_X_isUnit 1 (some .boolean) 1 22 [.int unit] ([]) (f_isUnit unit) := by
  refine zR.of (by decide) (Nat.le_of_ble_eq_true rfl) ?_
  intro p e s m below meth c0 ls E hrt hlk hN hK hP hl
  have hx := E.1
  have hb := E.2.1
  have hl : lv_has ls 1 [(0, .int unit)] := hl
  refine lv_iload_n hx hb d_X_isUnit_0 rfl (lv_at hl 0 rfl) ?_
  refine lv_iconst (v := 0) hx hb d_X_isUnit_1 (by decide) ?_
  refine lv_bipush (v := 79) hx hb d_X_isUnit_2 (by decide) ?_
  refine z_rs (As := [.int unit, .int 0, .int 79]) (rest := []) E hN hK hl.1 (c_isWithin l D tys unit 0 79) kz_X_120 rfl ⟨Nat.le_of_ble_eq_true rfl, Nat.le_of_ble_eq_true rfl⟩ rfl (Nat.le_of_ble_eq_true rfl) ⟨Nat.zero_le _, Nat.zero_le _⟩ d_X_isUnit_4 ?_
  exact zR.zret E hrt hlk (nar01 (b01_isWithin _ _ _)) (by rfl) d_X_isUnit_7
theorem in_person {x : Int32} (h : ¬ f_isPerson x = 0) : vp_in x 60 := by
  have h1 := isWithin_nz h
  exact vp_in_le h1.1 h1.2 (by decide)
theorem in_unit {x : Int32} (h : ¬ f_isUnit x = 0) : vp_in x 80 := by
  have h1 := isWithin_nz h
  exact vp_in_le h1.1 h1.2 (by decide)
theorem pre1_in {n : Nat} {x : Int32} (hn : n < 2 ^ 30) (h : ¬ f_isWithin x 0 (nI n - 1) = 0) : ∃ j, j < n ∧ x = nI j := by
  have h1 := isWithin_nz h
  obtain ⟨j, hj, rfl⟩ := nI_of (x := x) (fun q => Int32.not_lt.mpr h1.1 q)
  refine ⟨j, ?_, rfl⟩
  have h2 := i32_ti.mp h1.2
  rw [nI_toInt hj] at h2
  rcases Nat.eq_zero_or_pos n with h0 | h0
  · subst h0
    have : (nI 0 - 1).toInt = -1 := by decide
    omega
  · rw [nI_m1 h0, nI_toInt (by omega)] at h2
    omega
theorem drop_in {n : Nat} {x : Int32} (hn : n ≤ 60) (h : ¬ f_isWithin x 0 (nI n - 1) = 0) : x.toNatClampNeg < n ∧ x + 1 = nI (x.toNatClampNeg + 1) := by
  obtain ⟨j, hj, rfl⟩ := pre1_in (by omega) h
  rw [nI_clamp (by omega)]
  exact ⟨hj, nI_1 j⟩
