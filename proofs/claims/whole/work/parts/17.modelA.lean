def f_M_in  (v : Int32) (low : Int32) (high : Int32) : Int32 := (if v < low then 0 else (if high < v then 0 else 1))
set_option maxHeartbeats 4000000 in
set_option maxRecDepth 100000 in
theorem c_M_in (l : Launch) (D : va_G) (tys : List (ClassId × FieldType))  (v : Int32) (low : Int32) (high : Int32)  : zR l D tys y_M_in b_M_in 3 (some .boolean) 0 0 [.int v, .int low, .int high] ([]) (f_M_in v low high) := by
  refine zR.of (by decide) (Nat.le_of_ble_eq_true rfl) ?_
  intro p e s m below meth c0 ls E hrt hlk hN hK hP hl
  have hx := E.1
  have hb := E.2.1
  have hl : lv_has ls 3 [(0, .int v), (1, .int low), (2, .int high)] := hl
  refine lv_iload_n hx hb d_M_in_0 rfl (lv_at hl 0 rfl) ?_
  refine lv_iload_n hx hb d_M_in_1 rfl (lv_at hl 1 rfl) ?_
  refine lv_icmp_lt (tgt := 14) hx hb d_M_in_2 (by decide) (fun c_1 => ?_) (fun c_1 => ?_)
  · refine lv_iconst (v := 0) hx hb d_M_in_14 (by decide) ?_
    exact zR.zret E hrt hlk rfl (by unfold f_M_in; rw [if_pos c_1]) d_M_in_15
  · refine lv_iload_n hx hb d_M_in_5 rfl (lv_at hl 0 rfl) ?_
    refine lv_iload_n hx hb d_M_in_6 rfl (lv_at hl 2 rfl) ?_
    refine lv_icmp_gt (tgt := 14) hx hb d_M_in_7 (by decide) (fun c_2 => ?_) (fun c_2 => ?_)
    · refine lv_iconst (v := 0) hx hb d_M_in_14 (by decide) ?_
      exact zR.zret E hrt hlk rfl (by unfold f_M_in; rw [if_neg c_1, if_pos c_2]) d_M_in_15
    · refine lv_iconst (v := 1) hx hb d_M_in_10 (by decide) ?_
      refine lv_goto (tgt := 15) hx hb d_M_in_11 (by decide) ?_
      exact zR.zret E hrt hlk rfl (by unfold f_M_in; rw [if_neg c_1, if_neg c_2]) d_M_in_15
theorem in_eq (x lo hi : Int32) : f_M_in x lo hi = f_isWithin x lo hi := rfl
theorem b01_in (x lo hi : Int32) : f_M_in x lo hi = 0 ∨ f_M_in x lo hi = 1 := b01_isWithin x lo hi
def f_M_isPerson  (pr : Int32) : Int32 := (f_M_in pr 0 59)
set_option maxHeartbeats 4000000 in
set_option maxRecDepth 100000 in
theorem c_M_isPerson (l : Launch) (D : va_G) (tys : List (ClassId × FieldType))  (pr : Int32)  : zR l D tys y_M_isPerson b_M_isPerson 1 (some .boolean) 1 22 [.int pr] ([]) (f_M_isPerson pr) := by
  refine zR.of (by decide) (Nat.le_of_ble_eq_true rfl) ?_
  intro p e s m below meth c0 ls E hrt hlk hN hK hP hl
  have hx := E.1
  have hb := E.2.1
  have hl : lv_has ls 1 [(0, .int pr)] := hl
  refine lv_iload_n hx hb d_M_isPerson_0 rfl (lv_at hl 0 rfl) ?_
  refine lv_iconst (v := 0) hx hb d_M_isPerson_1 (by decide) ?_
  refine lv_bipush (v := 59) hx hb d_M_isPerson_2 (by decide) ?_
  refine z_rs (As := [.int pr, .int 0, .int 59]) (rest := []) E hN hK hl.1 (c_M_in l D tys pr 0 59) kz_M_68 rfl ⟨Nat.le_of_ble_eq_true rfl, Nat.le_of_ble_eq_true rfl⟩ rfl (Nat.le_of_ble_eq_true rfl) ⟨Nat.zero_le _, Nat.zero_le _⟩ d_M_isPerson_4 ?_
  exact zR.zret E hrt hlk (nar01 (b01_in _ _ _)) (by rfl) d_M_isPerson_7
def f_M_isUnit  (u : Int32) : Int32 := (f_M_in u 0 79)
set_option maxHeartbeats 4000000 in
set_option maxRecDepth 100000 in
theorem c_M_isUnit (l : Launch) (D : va_G) (tys : List (ClassId × FieldType))  (u : Int32)  : zR l D tys y_M_isUnit b_M_isUnit 1 (some .boolean) 1 22 [.int u] ([]) (f_M_isUnit u) := by
  refine zR.of (by decide) (Nat.le_of_ble_eq_true rfl) ?_
  intro p e s m below meth c0 ls E hrt hlk hN hK hP hl
  have hx := E.1
  have hb := E.2.1
  have hl : lv_has ls 1 [(0, .int u)] := hl
  refine lv_iload_n hx hb d_M_isUnit_0 rfl (lv_at hl 0 rfl) ?_
  refine lv_iconst (v := 0) hx hb d_M_isUnit_1 (by decide) ?_
  refine lv_bipush (v := 79) hx hb d_M_isUnit_2 (by decide) ?_
  refine z_rs (As := [.int u, .int 0, .int 79]) (rest := []) E hN hK hl.1 (c_M_in l D tys u 0 79) kz_M_68 rfl ⟨Nat.le_of_ble_eq_true rfl, Nat.le_of_ble_eq_true rfl⟩ rfl (Nat.le_of_ble_eq_true rfl) ⟨Nat.zero_le _, Nat.zero_le _⟩ d_M_isUnit_4 ?_
  exact zR.zret E hrt hlk (nar01 (b01_in _ _ _)) (by rfl) d_M_isUnit_7
theorem isPersonM (x : Int32) : f_M_isPerson x = f_isPerson x := rfl
theorem isUnitM (x : Int32) : f_M_isUnit x = f_isUnit x := rfl
theorem in_personM {x : Int32} (h : ¬ f_M_isPerson x = 0) : vp_in x 60 := in_person h
theorem in_unitM {x : Int32} (h : ¬ f_M_isUnit x = 0) : vp_in x 80 := in_unit h
theorem vp_lt {x : Int32} {n : Nat} (h : vp_in x n) : x.toNatClampNeg < n := Nat.not_le.mp fun q => h (Or.inr q)
theorem unit_lt {x : Int32} (h : ¬ f_M_isUnit x = 0) : x.toNatClampNeg < 80 := vp_lt (in_unitM h)
theorem in_hasM {c : Nat} {x : Int32} (hc : c ≤ 300) (h : ¬ f_M_in x 0 (nI c - 1) = 0) : vp_in x 300 := by
  obtain ⟨j, hj, rfl⟩ := pre1_in (by omega) h
  exact vp_in_nI (by omega) (by decide)
theorem ne300 {c : Nat} (hc : c ≤ 300) (h : ¬ nI c = 300) : c < 300 := by
  rcases Nat.lt_or_ge c 300 with q | q
  · exact q
  · have : c = 300 := by omega
    subst this
    exact absurd (by decide) h
theorem pos_n {n : Nat} (hn : n ≤ 60) (h : ¬ nI n ≤ 0) : (0 : Int32).toNatClampNeg < n := by
  rcases Nat.eq_zero_or_pos n with q | q
  · subst q
    exact absurd (by decide) h
  · exact q
def f_M_thrown (th : Int32)  : Int32 := th
set_option maxHeartbeats 4000000 in
set_option maxRecDepth 100000 in
theorem c_M_thrown (l : Launch) (D : va_G) (cI : ClassId) (a : Nat → Nat) (th : Int32) (nw : Int32) (k : Nat) (n : Nat) (c : Nat) (Z : Nat → Nat → Int32) (P : Nat → Nat → Int32) (U : Nat → Nat → Int32) (V : Nat → Nat → Int32)  (hk : k ≤ 20) (hn : n ≤ 60) (hc : c ≤ 300) : zR l D [(cI, .int)] y_M_thrown b_M_thrown 1 (some .int) 0 0 [.ref (a 0)] (wM a cI th nw (nI k) (nI n) (nI c) Z P U V) (f_M_thrown th) := by
  refine zR.of (by decide) (Nat.le_of_ble_eq_true rfl) ?_
  intro p e s m below meth c0 ls E hrt hlk hN hK hP hl
  have hx := E.1
  have hb := E.2.1
  have hl : lv_has ls 1 [(0, .ref (a 0))] := hl
  refine lv_aload_n hx hb d_M_thrown_0 rfl (lv_at hl 0 rfl) ?_
  refine z_get (v := .int th) E hK hP i_M 0 0 rfl rfl (by decide) kf_M_65 rfl d_M_thrown_1 ?_
  exact zR.iret E hrt hlk (by rfl) d_M_thrown_4
def f_M_isNow (nw : Int32) (t : Int32) : Int32 := (f_M_in t nw 1000000000)
set_option maxHeartbeats 4000000 in
set_option maxRecDepth 100000 in
theorem c_M_isNow (l : Launch) (D : va_G) (cI : ClassId) (a : Nat → Nat) (th : Int32) (nw : Int32) (k : Nat) (n : Nat) (c : Nat) (Z : Nat → Nat → Int32) (P : Nat → Nat → Int32) (U : Nat → Nat → Int32) (V : Nat → Nat → Int32) (t : Int32) (hk : k ≤ 20) (hn : n ≤ 60) (hc : c ≤ 300) : zR l D [(cI, .int)] y_M_isNow b_M_isNow 2 (some .boolean) 1 22 [.ref (a 0), .int t] (wM a cI th nw (nI k) (nI n) (nI c) Z P U V) (f_M_isNow nw t) := by
  refine zR.of (by decide) (Nat.le_of_ble_eq_true rfl) ?_
  intro p e s m below meth c0 ls E hrt hlk hN hK hP hl
  have hx := E.1
  have hb := E.2.1
  have hl : lv_has ls 2 [(0, .ref (a 0)), (1, .int t)] := hl
  refine lv_iload_n hx hb d_M_isNow_0 rfl (lv_at hl 1 rfl) ?_
  refine lv_aload_n hx hb d_M_isNow_1 rfl (lv_at hl 0 rfl) ?_
  refine z_get (v := .int nw) E hK hP i_M 0 1 rfl rfl (by decide) kf_M_72 rfl d_M_isNow_2 ?_
  refine lv_ldc (v := 1000000000) hx hb E.2.2.2.1 (E.2.2.2.2 _ kc_M_75) d_M_isNow_5 ?_
  refine z_rs (As := [.int t, .int nw, .int 1000000000]) (rest := []) E hN hK hl.1 (c_M_in l D [(cI, .int)] t nw 1000000000) kz_M_68 rfl ⟨Nat.le_of_ble_eq_true rfl, Nat.le_of_ble_eq_true rfl⟩ rfl (Nat.le_of_ble_eq_true rfl) ⟨Nat.zero_le _, Nat.zero_le _⟩ d_M_isNow_7 ?_
  exact zR.zret E hrt hlk (nar01 (b01_in _ _ _)) (by rfl) d_M_isNow_10
def f_M_seatOf_L (Z : Nat → Nat → Int32) (pr : Int32) : Nat → Nat → Int32
  | 0, k0 => (-1)
  | d + 1, k0 => (if (Z 0 k0) = pr then (nI k0) else (f_M_seatOf_L Z pr d (k0 + 1)))
theorem f_M_seatOf_L_0 (Z : Nat → Nat → Int32) (pr : Int32) (k0 : Nat)  : f_M_seatOf_L Z pr 0 k0  = (-1) := rfl
theorem f_M_seatOf_L_s (Z : Nat → Nat → Int32) (pr : Int32) (d k0 : Nat)  : f_M_seatOf_L Z pr (d + 1) k0  = (if (Z 0 k0) = pr then (nI k0) else (f_M_seatOf_L Z pr d (k0 + 1))) := rfl
def f_M_seatOf (k : Nat) (Z : Nat → Nat → Int32) (pr : Int32) : Int32 := (f_M_seatOf_L Z pr k 0)
set_option maxHeartbeats 4000000 in
set_option maxRecDepth 100000 in
theorem lp_M_seatOf (l : Launch) (D : va_G) (cI : ClassId) (a : Nat → Nat) (th : Int32) (nw : Int32) (k : Nat) (n : Nat) (c : Nat) (Z : Nat → Nat → Int32) (P : Nat → Nat → Int32) (U : Nat → Nat → Int32) (V : Nat → Nat → Int32) (pr : Int32) (hk : k ≤ 20) (hn : n ≤ 60) (hc : c ≤ 300) {p : Program} {e : Env} {s : State} {m : MethodId} {below : List Frame} {meth : Method} {c0 : Code} (E : CallFix p m c0 b_M_seatOf 3 s ([.ref (a 0), .int pr] : List Value).toArray zB y_M_seatOf.cls) (hrt : meth.sig.returnType = (some .int)) (hlk : meth.locks = false) (hN : zN s) (hK : va_K D vwCl [(cI, .int)] s) (hP : va_P D vwCl (wM a cI th nw (nI k) (nI n) (nI c) Z P U V) s.heap) :
    ∀ (d k0 : Nat) , k0 + d = k → ∀ r : Int32, f_M_seatOf_L Z pr d k0  = r → ∀ ls : Array Slot, lv_has ls 3 [(2, .int (nI k0)), (0, .ref (a 0)), (1, .int pr)] → W p l e { frames := 0, cells := 0, slots := 0, locals := 0 } s m ([.ref (a 0), .int pr] : List Value).toArray below meth c0 s.heap [] 0 0 (MQ below (QcRead r) ([.ref (a 0), .int pr] : List Value).toArray s 0 0 (fun _ => False)) (F0 m 2 ls []) := by
  have hx := E.1
  have hb := E.2.1
  intro d
  induction d with
  | zero =>
    intro k0  hkd r hr ls hl
    refine lv_iload_n hx hb d_M_seatOf_2 rfl (lv_at hl 0 rfl) ?_
    refine lv_aload_n hx hb d_M_seatOf_3 rfl (lv_at hl 1 rfl) ?_
    refine z_get (v := .int (nI k)) E hK hP i_M 0 2 rfl rfl (by decide) kf_M_61 rfl d_M_seatOf_4 ?_
    refine lv_icmp_ge (tgt := 28) hx hb d_M_seatOf_7 (by decide) (fun c_1 => ?_) (fun c_1 => absurd (nI_le (by omega) (by omega)) c_1)
    refine lv_iconst (v := (-1)) hx hb d_M_seatOf_28 (by decide) ?_
    exact zR.iret E hrt hlk (by rw [← hr, f_M_seatOf_L_0]) d_M_seatOf_29
  | succ d ih =>
    intro k0  hkd r hr ls hl
    refine lv_iload_n hx hb d_M_seatOf_2 rfl (lv_at hl 0 rfl) ?_
    refine lv_aload_n hx hb d_M_seatOf_3 rfl (lv_at hl 1 rfl) ?_
    refine z_get (v := .int (nI k)) E hK hP i_M 0 2 rfl rfl (by decide) kf_M_61 rfl d_M_seatOf_4 ?_
    refine lv_icmp_ge (tgt := 28) hx hb d_M_seatOf_7 (by decide) (fun c_2 => absurd c_2 (nI_ge (by omega) (by omega))) (fun c_2 => ?_)
    refine lv_aload_n hx hb d_M_seatOf_10 rfl (lv_at hl 1 rfl) ?_
    refine z_get (v := .ref (a 1)) E hK hP i_M 0 3 rfl rfl (by decide) kf_M_7 rfl d_M_seatOf_11 ?_
    refine lv_iload_n hx hb d_M_seatOf_14 rfl (lv_at hl 0 rfl) ?_
    refine z_aldN (f := Z 0) (j := k0) E hK hP 1 0 rfl rfl rfl (by omega) (by decide) d_M_seatOf_15 ?_
    refine lv_iload_n hx hb d_M_seatOf_16 rfl (lv_at hl 2 rfl) ?_
    refine lv_icmp_ne (tgt := 22) hx hb d_M_seatOf_17 (by decide) (fun c_3 => ?_) (fun c_3 => ?_)
    · refine lv_iinc (v := nI (k0 + 1)) (lv' := [(2, .int (nI (k0 + 1))), (0, .ref (a 0)), (1, .int pr)]) hx hb d_M_seatOf_22 hl (k := 0) rfl (nI_1 _) (by decide) rfl (fun ls hl => ?_)
      refine lv_goto (tgt := 2) hx hb d_M_seatOf_25 (by decide) ?_
      exact ih (k0 + 1)  (by omega) r (by rw [← hr, f_M_seatOf_L_s, if_neg c_3]) ls (lv_sub hl [0, 1, 2] rfl)
    · refine lv_iload_n hx hb d_M_seatOf_20 rfl (lv_at hl 0 rfl) ?_
      exact zR.iret E hrt hlk (by rw [← hr, f_M_seatOf_L_s, if_pos c_3]) d_M_seatOf_21
set_option maxHeartbeats 4000000 in
set_option maxRecDepth 100000 in
theorem c_M_seatOf (l : Launch) (D : va_G) (cI : ClassId) (a : Nat → Nat) (th : Int32) (nw : Int32) (k : Nat) (n : Nat) (c : Nat) (Z : Nat → Nat → Int32) (P : Nat → Nat → Int32) (U : Nat → Nat → Int32) (V : Nat → Nat → Int32) (pr : Int32) (hk : k ≤ 20) (hn : n ≤ 60) (hc : c ≤ 300) : zR l D [(cI, .int)] y_M_seatOf b_M_seatOf 3 (some .int) 0 0 [.ref (a 0), .int pr] (wM a cI th nw (nI k) (nI n) (nI c) Z P U V) (f_M_seatOf k Z pr) := by
  refine zR.of (by decide) (Nat.le_of_ble_eq_true rfl) ?_
  intro p e s m below meth c0 ls E hrt hlk hN hK hP hl
  have hx := E.1
  have hb := E.2.1
  have hl : lv_has ls 3 [(0, .ref (a 0)), (1, .int pr)] := hl
  refine lv_iconst (v := 0) hx hb d_M_seatOf_0 (by decide) ?_
  refine lv_istore_n (lv' := [(2, .int 0), (0, .ref (a 0)), (1, .int pr)]) hx hb d_M_seatOf_1 rfl hl (by decide) rfl (fun ls hl => ?_)
  exact lp_M_seatOf l D cI a th nw k n c Z P U V pr hk hn hc E hrt hlk hN hK hP k 0  (by omega) _ (by rfl) ls (by rw [nI_0]; exact lv_sub hl [0, 1, 2] rfl)
def f_M_waitOf_L (Z : Nat → Nat → Int32) (pr : Int32) : Nat → Nat → Int32
  | 0, k0 => (-1)
  | d + 1, k0 => (if (Z 1 k0) = pr then (nI k0) else (f_M_waitOf_L Z pr d (k0 + 1)))
theorem f_M_waitOf_L_0 (Z : Nat → Nat → Int32) (pr : Int32) (k0 : Nat)  : f_M_waitOf_L Z pr 0 k0  = (-1) := rfl
theorem f_M_waitOf_L_s (Z : Nat → Nat → Int32) (pr : Int32) (d k0 : Nat)  : f_M_waitOf_L Z pr (d + 1) k0  = (if (Z 1 k0) = pr then (nI k0) else (f_M_waitOf_L Z pr d (k0 + 1))) := rfl
def f_M_waitOf (n : Nat) (Z : Nat → Nat → Int32) (pr : Int32) : Int32 := (f_M_waitOf_L Z pr n 0)
set_option maxHeartbeats 4000000 in
set_option maxRecDepth 100000 in
theorem lp_M_waitOf (l : Launch) (D : va_G) (cI : ClassId) (a : Nat → Nat) (th : Int32) (nw : Int32) (k : Nat) (n : Nat) (c : Nat) (Z : Nat → Nat → Int32) (P : Nat → Nat → Int32) (U : Nat → Nat → Int32) (V : Nat → Nat → Int32) (pr : Int32) (hk : k ≤ 20) (hn : n ≤ 60) (hc : c ≤ 300) {p : Program} {e : Env} {s : State} {m : MethodId} {below : List Frame} {meth : Method} {c0 : Code} (E : CallFix p m c0 b_M_waitOf 3 s ([.ref (a 0), .int pr] : List Value).toArray zB y_M_waitOf.cls) (hrt : meth.sig.returnType = (some .int)) (hlk : meth.locks = false) (hN : zN s) (hK : va_K D vwCl [(cI, .int)] s) (hP : va_P D vwCl (wM a cI th nw (nI k) (nI n) (nI c) Z P U V) s.heap) :
    ∀ (d k0 : Nat) , k0 + d = n → ∀ r : Int32, f_M_waitOf_L Z pr d k0  = r → ∀ ls : Array Slot, lv_has ls 3 [(2, .int (nI k0)), (0, .ref (a 0)), (1, .int pr)] → W p l e { frames := 0, cells := 0, slots := 0, locals := 0 } s m ([.ref (a 0), .int pr] : List Value).toArray below meth c0 s.heap [] 0 0 (MQ below (QcRead r) ([.ref (a 0), .int pr] : List Value).toArray s 0 0 (fun _ => False)) (F0 m 2 ls []) := by
  have hx := E.1
  have hb := E.2.1
  intro d
  induction d with
  | zero =>
    intro k0  hkd r hr ls hl
    refine lv_iload_n hx hb d_M_waitOf_2 rfl (lv_at hl 0 rfl) ?_
    refine lv_aload_n hx hb d_M_waitOf_3 rfl (lv_at hl 1 rfl) ?_
    refine z_get (v := .int (nI n)) E hK hP i_M 0 4 rfl rfl (by decide) kf_M_76 rfl d_M_waitOf_4 ?_
    refine lv_icmp_ge (tgt := 28) hx hb d_M_waitOf_7 (by decide) (fun c_1 => ?_) (fun c_1 => absurd (nI_le (by omega) (by omega)) c_1)
    refine lv_iconst (v := (-1)) hx hb d_M_waitOf_28 (by decide) ?_
    exact zR.iret E hrt hlk (by rw [← hr, f_M_waitOf_L_0]) d_M_waitOf_29
  | succ d ih =>
    intro k0  hkd r hr ls hl
    refine lv_iload_n hx hb d_M_waitOf_2 rfl (lv_at hl 0 rfl) ?_
    refine lv_aload_n hx hb d_M_waitOf_3 rfl (lv_at hl 1 rfl) ?_
    refine z_get (v := .int (nI n)) E hK hP i_M 0 4 rfl rfl (by decide) kf_M_76 rfl d_M_waitOf_4 ?_
    refine lv_icmp_ge (tgt := 28) hx hb d_M_waitOf_7 (by decide) (fun c_2 => absurd c_2 (nI_ge (by omega) (by omega))) (fun c_2 => ?_)
    refine lv_aload_n hx hb d_M_waitOf_10 rfl (lv_at hl 1 rfl) ?_
    refine z_get (v := .ref (a 2)) E hK hP i_M 0 5 rfl rfl (by decide) kf_M_13 rfl d_M_waitOf_11 ?_
    refine lv_iload_n hx hb d_M_waitOf_14 rfl (lv_at hl 0 rfl) ?_
    refine z_aldN (f := Z 1) (j := k0) E hK hP 2 0 rfl rfl rfl (by omega) (by decide) d_M_waitOf_15 ?_
    refine lv_iload_n hx hb d_M_waitOf_16 rfl (lv_at hl 2 rfl) ?_
    refine lv_icmp_ne (tgt := 22) hx hb d_M_waitOf_17 (by decide) (fun c_3 => ?_) (fun c_3 => ?_)
    · refine lv_iinc (v := nI (k0 + 1)) (lv' := [(2, .int (nI (k0 + 1))), (0, .ref (a 0)), (1, .int pr)]) hx hb d_M_waitOf_22 hl (k := 0) rfl (nI_1 _) (by decide) rfl (fun ls hl => ?_)
      refine lv_goto (tgt := 2) hx hb d_M_waitOf_25 (by decide) ?_
      exact ih (k0 + 1)  (by omega) r (by rw [← hr, f_M_waitOf_L_s, if_neg c_3]) ls (lv_sub hl [0, 1, 2] rfl)
    · refine lv_iload_n hx hb d_M_waitOf_20 rfl (lv_at hl 0 rfl) ?_
      exact zR.iret E hrt hlk (by rw [← hr, f_M_waitOf_L_s, if_pos c_3]) d_M_waitOf_21
set_option maxHeartbeats 4000000 in
set_option maxRecDepth 100000 in
theorem c_M_waitOf (l : Launch) (D : va_G) (cI : ClassId) (a : Nat → Nat) (th : Int32) (nw : Int32) (k : Nat) (n : Nat) (c : Nat) (Z : Nat → Nat → Int32) (P : Nat → Nat → Int32) (U : Nat → Nat → Int32) (V : Nat → Nat → Int32) (pr : Int32) (hk : k ≤ 20) (hn : n ≤ 60) (hc : c ≤ 300) : zR l D [(cI, .int)] y_M_waitOf b_M_waitOf 3 (some .int) 0 0 [.ref (a 0), .int pr] (wM a cI th nw (nI k) (nI n) (nI c) Z P U V) (f_M_waitOf n Z pr) := by
  refine zR.of (by decide) (Nat.le_of_ble_eq_true rfl) ?_
  intro p e s m below meth c0 ls E hrt hlk hN hK hP hl
  have hx := E.1
  have hb := E.2.1
  have hl : lv_has ls 3 [(0, .ref (a 0)), (1, .int pr)] := hl
  refine lv_iconst (v := 0) hx hb d_M_waitOf_0 (by decide) ?_
  refine lv_istore_n (lv' := [(2, .int 0), (0, .ref (a 0)), (1, .int pr)]) hx hb d_M_waitOf_1 rfl hl (by decide) rfl (fun ls hl => ?_)
  exact lp_M_waitOf l D cI a th nw k n c Z P U V pr hk hn hc E hrt hlk hN hK hP n 0  (by omega) _ (by rfl) ls (by rw [nI_0]; exact lv_sub hl [0, 1, 2] rfl)
def f_M_has_L (U : Nat → Nat → Int32) (V : Nat → Nat → Int32) (pr : Int32) : Nat → Nat → Int32 → Int32
  | 0, k0, x2 => x2
  | d + 1, k0, x2 => (if (U 0 k0) = 2 then (if (V 0 (U 3 k0).toNatClampNeg) = pr then (f_M_has_L U V pr d (k0 + 1) (x2 + 1)) else (f_M_has_L U V pr d (k0 + 1) (x2 + 0))) else (f_M_has_L U V pr d (k0 + 1) (x2 + 0)))
theorem f_M_has_L_0 (U : Nat → Nat → Int32) (V : Nat → Nat → Int32) (pr : Int32) (k0 : Nat) (x2 : Int32) : f_M_has_L U V pr 0 k0 x2 = x2 := rfl
theorem f_M_has_L_s (U : Nat → Nat → Int32) (V : Nat → Nat → Int32) (pr : Int32) (d k0 : Nat) (x2 : Int32) : f_M_has_L U V pr (d + 1) k0 x2 = (if (U 0 k0) = 2 then (if (V 0 (U 3 k0).toNatClampNeg) = pr then (f_M_has_L U V pr d (k0 + 1) (x2 + 1)) else (f_M_has_L U V pr d (k0 + 1) (x2 + 0))) else (f_M_has_L U V pr d (k0 + 1) (x2 + 0))) := rfl
def f_M_has (U : Nat → Nat → Int32) (V : Nat → Nat → Int32) (pr : Int32) : Int32 := (f_M_has_L U V pr 80 0 0)
set_option maxHeartbeats 4000000 in
set_option maxRecDepth 100000 in
theorem lp_M_has (l : Launch) (D : va_G) (cI : ClassId) (a : Nat → Nat) (th : Int32) (nw : Int32) (k : Nat) (n : Nat) (c : Nat) (Z : Nat → Nat → Int32) (P : Nat → Nat → Int32) (U : Nat → Nat → Int32) (V : Nat → Nat → Int32) (pr : Int32) (hk : k ≤ 20) (hn : n ≤ 60) (hc : c ≤ 300) (hU : ∀ u, u < 80 → (U 0 u = 1 ∨ U 0 u = 2) → vp_in (U 3 u) 300) {p : Program} {e : Env} {s : State} {m : MethodId} {below : List Frame} {meth : Method} {c0 : Code} (E : CallFix p m c0 b_M_has 4 s ([.ref (a 0), .int pr] : List Value).toArray zB y_M_has.cls) (hrt : meth.sig.returnType = (some .int)) (hlk : meth.locks = false) (hN : zN s) (hK : va_K D vwCl [(cI, .int)] s) (hP : va_P D vwCl (wM a cI th nw (nI k) (nI n) (nI c) Z P U V) s.heap) :
    ∀ (d k0 : Nat) (x2 : Int32), k0 + d = 80 → ∀ r : Int32, f_M_has_L U V pr d k0 x2 = r → ∀ ls : Array Slot, lv_has ls 4 [(3, .int (nI k0)), (2, .int x2), (0, .ref (a 0)), (1, .int pr)] → W p l e { frames := 0, cells := 0, slots := 0, locals := 0 } s m ([.ref (a 0), .int pr] : List Value).toArray below meth c0 s.heap [] 0 0 (MQ below (QcRead r) ([.ref (a 0), .int pr] : List Value).toArray s 0 0 (fun _ => False)) (F0 m 4 ls []) := by
  have hx := E.1
  have hb := E.2.1
  intro d
  induction d with
  | zero =>
    intro k0 x2 hkd r hr ls hl
    refine lv_iload_n hx hb d_M_has_4 rfl (lv_at hl 0 rfl) ?_
    refine lv_bipush (v := (nI 80)) hx hb d_M_has_5 (by decide) ?_
    refine lv_icmp_ge (tgt := 49) hx hb d_M_has_7 (by decide) (fun c_1 => ?_) (fun c_1 => absurd (nI_le (by omega) (by omega)) c_1)
    refine lv_iload_n hx hb d_M_has_49 rfl (lv_at hl 1 rfl) ?_
    exact zR.iret E hrt hlk (by rw [← hr, f_M_has_L_0]) d_M_has_50
  | succ d ih =>
    intro k0 x2 hkd r hr ls hl
    refine lv_iload_n hx hb d_M_has_4 rfl (lv_at hl 0 rfl) ?_
    refine lv_bipush (v := (nI 80)) hx hb d_M_has_5 (by decide) ?_
    refine lv_icmp_ge (tgt := 49) hx hb d_M_has_7 (by decide) (fun c_2 => absurd c_2 (nI_ge (by omega) (by omega))) (fun c_2 => ?_)
    refine lv_iload_n hx hb d_M_has_10 rfl (lv_at hl 1 rfl) ?_
    refine lv_aload_n hx hb d_M_has_11 rfl (lv_at hl 2 rfl) ?_
    refine z_get (v := .ref (a 8)) E hK hP i_M 0 11 rfl rfl (by decide) kf_M_31 rfl d_M_has_12 ?_
    refine lv_iload_n hx hb d_M_has_15 rfl (lv_at hl 0 rfl) ?_
    refine z_aldN (f := U 0) (j := k0) E hK hP 8 0 rfl rfl rfl (by omega) (by decide) d_M_has_16 ?_
    refine lv_iconst (v := 2) hx hb d_M_has_17 (by decide) ?_
    refine lv_icmp_ne (tgt := 40) hx hb d_M_has_18 (by decide) (fun c_3 => ?_) (fun c_3 => ?_)
    · refine lv_iconst (v := 0) hx hb d_M_has_40 (by decide) ?_
      refine lv_iadd hx hb d_M_has_41 ?_
      refine lv_istore_n (lv' := [(2, .int (x2 + 0)), (3, .int (nI k0)), (0, .ref (a 0)), (1, .int pr)]) hx hb d_M_has_42 rfl hl (by decide) rfl (fun ls hl => ?_)
      refine lv_iinc (v := nI (k0 + 1)) (lv' := [(3, .int (nI (k0 + 1))), (2, .int (x2 + 0)), (0, .ref (a 0)), (1, .int pr)]) hx hb d_M_has_43 hl (k := 1) rfl (nI_1 _) (by decide) rfl (fun ls hl => ?_)
      refine lv_goto (tgt := 4) hx hb d_M_has_46 (by decide) ?_
      exact ih (k0 + 1) (x2 + 0) (by omega) r (by rw [← hr, f_M_has_L_s, if_neg c_3]) ls (lv_sub hl [0, 1, 2, 3] rfl)
    · refine lv_aload_n hx hb d_M_has_21 rfl (lv_at hl 2 rfl) ?_
      refine z_get (v := .ref (a 12)) E hK hP i_M 0 16 rfl rfl (by decide) kf_M_43 rfl d_M_has_22 ?_
      refine lv_aload_n hx hb d_M_has_25 rfl (lv_at hl 2 rfl) ?_
      refine z_get (v := .ref (a 11)) E hK hP i_M 0 14 rfl rfl (by decide) kf_M_40 rfl d_M_has_26 ?_
      refine lv_iload_n hx hb d_M_has_29 rfl (lv_at hl 0 rfl) ?_
      refine z_aldN (f := U 3) (j := k0) E hK hP 11 0 rfl rfl rfl (by omega) (by decide) d_M_has_30 ?_
      refine z_ald (f := V 0) E hK hP 12 0 rfl rfl (hU _ (by omega) (Or.inr c_3)) d_M_has_31 ?_
      refine lv_iload_n hx hb d_M_has_32 rfl (lv_at hl 3 rfl) ?_
      refine lv_icmp_ne (tgt := 40) hx hb d_M_has_33 (by decide) (fun c_4 => ?_) (fun c_4 => ?_)
      · refine lv_iconst (v := 0) hx hb d_M_has_40 (by decide) ?_
        refine lv_iadd hx hb d_M_has_41 ?_
        refine lv_istore_n (lv' := [(2, .int (x2 + 0)), (3, .int (nI k0)), (0, .ref (a 0)), (1, .int pr)]) hx hb d_M_has_42 rfl hl (by decide) rfl (fun ls hl => ?_)
        refine lv_iinc (v := nI (k0 + 1)) (lv' := [(3, .int (nI (k0 + 1))), (2, .int (x2 + 0)), (0, .ref (a 0)), (1, .int pr)]) hx hb d_M_has_43 hl (k := 1) rfl (nI_1 _) (by decide) rfl (fun ls hl => ?_)
        refine lv_goto (tgt := 4) hx hb d_M_has_46 (by decide) ?_
        exact ih (k0 + 1) (x2 + 0) (by omega) r (by rw [← hr, f_M_has_L_s, if_pos c_3, if_neg c_4]) ls (lv_sub hl [0, 1, 2, 3] rfl)
      · refine lv_iconst (v := 1) hx hb d_M_has_36 (by decide) ?_
        refine lv_goto (tgt := 41) hx hb d_M_has_37 (by decide) ?_
        refine lv_iadd hx hb d_M_has_41 ?_
        refine lv_istore_n (lv' := [(2, .int (x2 + 1)), (3, .int (nI k0)), (0, .ref (a 0)), (1, .int pr)]) hx hb d_M_has_42 rfl hl (by decide) rfl (fun ls hl => ?_)
        refine lv_iinc (v := nI (k0 + 1)) (lv' := [(3, .int (nI (k0 + 1))), (2, .int (x2 + 1)), (0, .ref (a 0)), (1, .int pr)]) hx hb d_M_has_43 hl (k := 1) rfl (nI_1 _) (by decide) rfl (fun ls hl => ?_)
        refine lv_goto (tgt := 4) hx hb d_M_has_46 (by decide) ?_
        exact ih (k0 + 1) (x2 + 1) (by omega) r (by rw [← hr, f_M_has_L_s, if_pos c_3, if_pos c_4]) ls (lv_sub hl [0, 1, 2, 3] rfl)
set_option maxHeartbeats 4000000 in
set_option maxRecDepth 100000 in
theorem c_M_has (l : Launch) (D : va_G) (cI : ClassId) (a : Nat → Nat) (th : Int32) (nw : Int32) (k : Nat) (n : Nat) (c : Nat) (Z : Nat → Nat → Int32) (P : Nat → Nat → Int32) (U : Nat → Nat → Int32) (V : Nat → Nat → Int32) (pr : Int32) (hk : k ≤ 20) (hn : n ≤ 60) (hc : c ≤ 300) (hU : ∀ u, u < 80 → (U 0 u = 1 ∨ U 0 u = 2) → vp_in (U 3 u) 300) : zR l D [(cI, .int)] y_M_has b_M_has 4 (some .int) 0 0 [.ref (a 0), .int pr] (wM a cI th nw (nI k) (nI n) (nI c) Z P U V) (f_M_has U V pr) := by
  refine zR.of (by decide) (Nat.le_of_ble_eq_true rfl) ?_
  intro p e s m below meth c0 ls E hrt hlk hN hK hP hl
  have hx := E.1
  have hb := E.2.1
  have hl : lv_has ls 4 [(0, .ref (a 0)), (1, .int pr)] := hl
  refine lv_iconst (v := 0) hx hb d_M_has_0 (by decide) ?_
  refine lv_istore_n (lv' := [(2, .int 0), (0, .ref (a 0)), (1, .int pr)]) hx hb d_M_has_1 rfl hl (by decide) rfl (fun ls hl => ?_)
  refine lv_iconst (v := 0) hx hb d_M_has_2 (by decide) ?_
  refine lv_istore_n (lv' := [(3, .int 0), (2, .int 0), (0, .ref (a 0)), (1, .int pr)]) hx hb d_M_has_3 rfl hl (by decide) rfl (fun ls hl => ?_)
  exact lp_M_has l D cI a th nw k n c Z P U V pr hk hn hc hU E hrt hlk hN hK hP 80 0 0 (by omega) _ (by rfl) ls (by rw [nI_0]; exact lv_sub hl [0, 1, 2, 3] rfl)
def f_M_lives (V : Nat → Nat → Int32) (i : Int32) : Int32 := (if 3 ≤ (V 2 i.toNatClampNeg) then 0 else 1)
set_option maxHeartbeats 4000000 in
set_option maxRecDepth 100000 in
theorem c_M_lives (l : Launch) (D : va_G) (cI : ClassId) (a : Nat → Nat) (th : Int32) (nw : Int32) (k : Nat) (n : Nat) (c : Nat) (Z : Nat → Nat → Int32) (P : Nat → Nat → Int32) (U : Nat → Nat → Int32) (V : Nat → Nat → Int32) (i : Int32) (hk : k ≤ 20) (hn : n ≤ 60) (hc : c ≤ 300) (hi : vp_in i 300) : zR l D [(cI, .int)] y_M_lives b_M_lives 2 (some .boolean) 0 0 [.ref (a 0), .int i] (wM a cI th nw (nI k) (nI n) (nI c) Z P U V) (f_M_lives V i) := by
  refine zR.of (by decide) (Nat.le_of_ble_eq_true rfl) ?_
  intro p e s m below meth c0 ls E hrt hlk hN hK hP hl
  have hx := E.1
  have hb := E.2.1
  have hl : lv_has ls 2 [(0, .ref (a 0)), (1, .int i)] := hl
  refine lv_aload_n hx hb d_M_lives_0 rfl (lv_at hl 0 rfl) ?_
  refine z_get (v := .ref (a 14)) E hK hP i_M 0 18 rfl rfl (by decide) kf_M_49 rfl d_M_lives_1 ?_
  refine lv_iload_n hx hb d_M_lives_4 rfl (lv_at hl 1 rfl) ?_
  refine z_ald (f := V 2) E hK hP 14 0 rfl rfl hi d_M_lives_5 ?_
  refine lv_iconst (v := 3) hx hb d_M_lives_6 (by decide) ?_
  refine lv_icmp_ge (tgt := 14) hx hb d_M_lives_7 (by decide) (fun c_1 => ?_) (fun c_1 => ?_)
  · refine lv_iconst (v := 0) hx hb d_M_lives_14 (by decide) ?_
    exact zR.zret E hrt hlk rfl (by unfold f_M_lives; rw [if_pos c_1]) d_M_lives_15
  · refine lv_iconst (v := 1) hx hb d_M_lives_10 (by decide) ?_
    refine lv_goto (tgt := 15) hx hb d_M_lives_11 (by decide) ?_
    exact zR.zret E hrt hlk rfl (by unfold f_M_lives; rw [if_neg c_1]) d_M_lives_15
def f_M_living_L (V : Nat → Nat → Int32) (pr : Int32) : Nat → Nat → Int32 → Int32
  | 0, k0, x2 => x2
  | d + 1, k0, x2 => (if (V 0 k0) = pr then (if (f_M_lives V (nI k0)) = 0 then (f_M_living_L V pr d (k0 + 1) (x2 + 0)) else (f_M_living_L V pr d (k0 + 1) (x2 + 1))) else (f_M_living_L V pr d (k0 + 1) (x2 + 0)))
theorem f_M_living_L_0 (V : Nat → Nat → Int32) (pr : Int32) (k0 : Nat) (x2 : Int32) : f_M_living_L V pr 0 k0 x2 = x2 := rfl
theorem f_M_living_L_s (V : Nat → Nat → Int32) (pr : Int32) (d k0 : Nat) (x2 : Int32) : f_M_living_L V pr (d + 1) k0 x2 = (if (V 0 k0) = pr then (if (f_M_lives V (nI k0)) = 0 then (f_M_living_L V pr d (k0 + 1) (x2 + 0)) else (f_M_living_L V pr d (k0 + 1) (x2 + 1))) else (f_M_living_L V pr d (k0 + 1) (x2 + 0))) := rfl
def f_M_living (c : Nat) (V : Nat → Nat → Int32) (pr : Int32) : Int32 := (f_M_living_L V pr c 0 0)
set_option maxHeartbeats 4000000 in
set_option maxRecDepth 100000 in
theorem lp_M_living (l : Launch) (D : va_G) (cI : ClassId) (a : Nat → Nat) (th : Int32) (nw : Int32) (k : Nat) (n : Nat) (c : Nat) (Z : Nat → Nat → Int32) (P : Nat → Nat → Int32) (U : Nat → Nat → Int32) (V : Nat → Nat → Int32) (pr : Int32) (hk : k ≤ 20) (hn : n ≤ 60) (hc : c ≤ 300) {p : Program} {e : Env} {s : State} {m : MethodId} {below : List Frame} {meth : Method} {c0 : Code} (E : CallFix p m c0 b_M_living 4 s ([.ref (a 0), .int pr] : List Value).toArray zB y_M_living.cls) (hrt : meth.sig.returnType = (some .int)) (hlk : meth.locks = false) (hN : zN s) (hK : va_K D vwCl [(cI, .int)] s) (hP : va_P D vwCl (wM a cI th nw (nI k) (nI n) (nI c) Z P U V) s.heap) :
    ∀ (d k0 : Nat) (x2 : Int32), k0 + d = c → ∀ r : Int32, f_M_living_L V pr d k0 x2 = r → ∀ ls : Array Slot, lv_has ls 4 [(3, .int (nI k0)), (2, .int x2), (0, .ref (a 0)), (1, .int pr)] → W p l e { frames := 1, cells := 0, slots := 0, locals := 21 } s m ([.ref (a 0), .int pr] : List Value).toArray below meth c0 s.heap [] 0 0 (MQ below (QcRead r) ([.ref (a 0), .int pr] : List Value).toArray s 0 0 (fun _ => False)) (F0 m 4 ls []) := by
  have hx := E.1
  have hb := E.2.1
  intro d
  induction d with
  | zero =>
    intro k0 x2 hkd r hr ls hl
    refine lv_iload_n hx hb d_M_living_4 rfl (lv_at hl 0 rfl) ?_
    refine lv_aload_n hx hb d_M_living_5 rfl (lv_at hl 2 rfl) ?_
    refine z_get (v := .int (nI c)) E hK hP i_M 0 15 rfl rfl (by decide) kf_M_97 rfl d_M_living_6 ?_
    refine lv_icmp_ge (tgt := 44) hx hb d_M_living_9 (by decide) (fun c_1 => ?_) (fun c_1 => absurd (nI_le (by omega) (by omega)) c_1)
    refine lv_iload_n hx hb d_M_living_44 rfl (lv_at hl 1 rfl) ?_
    exact zR.iret E hrt hlk (by rw [← hr, f_M_living_L_0]) d_M_living_45
  | succ d ih =>
    intro k0 x2 hkd r hr ls hl
    refine lv_iload_n hx hb d_M_living_4 rfl (lv_at hl 0 rfl) ?_
    refine lv_aload_n hx hb d_M_living_5 rfl (lv_at hl 2 rfl) ?_
    refine z_get (v := .int (nI c)) E hK hP i_M 0 15 rfl rfl (by decide) kf_M_97 rfl d_M_living_6 ?_
    refine lv_icmp_ge (tgt := 44) hx hb d_M_living_9 (by decide) (fun c_2 => absurd c_2 (nI_ge (by omega) (by omega))) (fun c_2 => ?_)
    refine lv_iload_n hx hb d_M_living_12 rfl (lv_at hl 1 rfl) ?_
    refine lv_aload_n hx hb d_M_living_13 rfl (lv_at hl 2 rfl) ?_
    refine z_get (v := .ref (a 12)) E hK hP i_M 0 16 rfl rfl (by decide) kf_M_43 rfl d_M_living_14 ?_
    refine lv_iload_n hx hb d_M_living_17 rfl (lv_at hl 0 rfl) ?_
    refine z_aldN (f := V 0) (j := k0) E hK hP 12 0 rfl rfl rfl (by omega) (by decide) d_M_living_18 ?_
    refine lv_iload_n hx hb d_M_living_19 rfl (lv_at hl 3 rfl) ?_
    refine lv_icmp_ne (tgt := 35) hx hb d_M_living_20 (by decide) (fun c_3 => ?_) (fun c_3 => ?_)
    · refine lv_iconst (v := 0) hx hb d_M_living_35 (by decide) ?_
      refine lv_iadd hx hb d_M_living_36 ?_
      refine lv_istore_n (lv' := [(2, .int (x2 + 0)), (3, .int (nI k0)), (0, .ref (a 0)), (1, .int pr)]) hx hb d_M_living_37 rfl hl (by decide) rfl (fun ls hl => ?_)
      refine lv_iinc (v := nI (k0 + 1)) (lv' := [(3, .int (nI (k0 + 1))), (2, .int (x2 + 0)), (0, .ref (a 0)), (1, .int pr)]) hx hb d_M_living_38 hl (k := 1) rfl (nI_1 _) (by decide) rfl (fun ls hl => ?_)
      refine lv_goto (tgt := 4) hx hb d_M_living_41 (by decide) ?_
      exact ih (k0 + 1) (x2 + 0) (by omega) r (by rw [← hr, f_M_living_L_s, if_neg c_3]) ls (lv_sub hl [0, 1, 2, 3] rfl)
    · refine lv_aload_n hx hb d_M_living_23 rfl (lv_at hl 2 rfl) ?_
      refine lv_iload_n hx hb d_M_living_24 rfl (lv_at hl 0 rfl) ?_
      refine z_rv (As := [.int (nI k0)]) (rest := [.int x2]) E hN hK hP hl.1 (c_M_lives l D cI a th nw k n c Z P U V (nI k0) hk hn hc (vp_in_nI (by omega) (by decide))) [0, 1, 2, 3, 4, 5, 6, 7, 8, 9, 10, 11, 12, 13, 14, 15, 16, 17] rfl 0 rfl rfl kz_M_100 rfl ⟨Nat.le_of_ble_eq_true rfl, Nat.le_of_ble_eq_true rfl⟩ rfl (Nat.le_of_ble_eq_true rfl) ⟨Nat.zero_le _, Nat.zero_le _⟩ d_M_living_25 ?_
      refine lv_if_eq (tgt := 35) hx hb d_M_living_28 (by decide) (fun c_4 => ?_) (fun c_4 => ?_)
      · refine lv_iconst (v := 0) hx hb d_M_living_35 (by decide) ?_
        refine lv_iadd hx hb d_M_living_36 ?_
        refine lv_istore_n (lv' := [(2, .int (x2 + 0)), (3, .int (nI k0)), (0, .ref (a 0)), (1, .int pr)]) hx hb d_M_living_37 rfl hl (by decide) rfl (fun ls hl => ?_)
        refine lv_iinc (v := nI (k0 + 1)) (lv' := [(3, .int (nI (k0 + 1))), (2, .int (x2 + 0)), (0, .ref (a 0)), (1, .int pr)]) hx hb d_M_living_38 hl (k := 1) rfl (nI_1 _) (by decide) rfl (fun ls hl => ?_)
        refine lv_goto (tgt := 4) hx hb d_M_living_41 (by decide) ?_
        exact ih (k0 + 1) (x2 + 0) (by omega) r (by rw [← hr, f_M_living_L_s, if_pos c_3, if_pos c_4]) ls (lv_sub hl [0, 1, 2, 3] rfl)
      · refine lv_iconst (v := 1) hx hb d_M_living_31 (by decide) ?_
        refine lv_goto (tgt := 36) hx hb d_M_living_32 (by decide) ?_
        refine lv_iadd hx hb d_M_living_36 ?_
        refine lv_istore_n (lv' := [(2, .int (x2 + 1)), (3, .int (nI k0)), (0, .ref (a 0)), (1, .int pr)]) hx hb d_M_living_37 rfl hl (by decide) rfl (fun ls hl => ?_)
        refine lv_iinc (v := nI (k0 + 1)) (lv' := [(3, .int (nI (k0 + 1))), (2, .int (x2 + 1)), (0, .ref (a 0)), (1, .int pr)]) hx hb d_M_living_38 hl (k := 1) rfl (nI_1 _) (by decide) rfl (fun ls hl => ?_)
        refine lv_goto (tgt := 4) hx hb d_M_living_41 (by decide) ?_
        exact ih (k0 + 1) (x2 + 1) (by omega) r (by rw [← hr, f_M_living_L_s, if_pos c_3, if_neg c_4]) ls (lv_sub hl [0, 1, 2, 3] rfl)
set_option maxHeartbeats 4000000 in
set_option maxRecDepth 100000 in
theorem c_M_living (l : Launch) (D : va_G) (cI : ClassId) (a : Nat → Nat) (th : Int32) (nw : Int32) (k : Nat) (n : Nat) (c : Nat) (Z : Nat → Nat → Int32) (P : Nat → Nat → Int32) (U : Nat → Nat → Int32) (V : Nat → Nat → Int32) (pr : Int32) (hk : k ≤ 20) (hn : n ≤ 60) (hc : c ≤ 300) : zR l D [(cI, .int)] y_M_living b_M_living 4 (some .int) 1 21 [.ref (a 0), .int pr] (wM a cI th nw (nI k) (nI n) (nI c) Z P U V) (f_M_living c V pr) := by
  refine zR.of (by decide) (Nat.le_of_ble_eq_true rfl) ?_
  intro p e s m below meth c0 ls E hrt hlk hN hK hP hl
  have hx := E.1
  have hb := E.2.1
  have hl : lv_has ls 4 [(0, .ref (a 0)), (1, .int pr)] := hl
  refine lv_iconst (v := 0) hx hb d_M_living_0 (by decide) ?_
  refine lv_istore_n (lv' := [(2, .int 0), (0, .ref (a 0)), (1, .int pr)]) hx hb d_M_living_1 rfl hl (by decide) rfl (fun ls hl => ?_)
  refine lv_iconst (v := 0) hx hb d_M_living_2 (by decide) ?_
  refine lv_istore_n (lv' := [(3, .int 0), (2, .int 0), (0, .ref (a 0)), (1, .int pr)]) hx hb d_M_living_3 rfl hl (by decide) rfl (fun ls hl => ?_)
  exact lp_M_living l D cI a th nw k n c Z P U V pr hk hn hc E hrt hlk hN hK hP c 0 0 (by omega) _ (by rfl) ls (by rw [nI_0]; exact lv_sub hl [0, 1, 2, 3] rfl)
def f_M_ahead_L (V : Nat → Nat → Int32) (u : Int32) : Nat → Nat → Int32
  | 0, k0 => (-1)
  | d + 1, k0 => (if (V 1 k0) = u then (if (V 2 k0) = 0 then (nI k0) else (f_M_ahead_L V u d (k0 + 1))) else (f_M_ahead_L V u d (k0 + 1)))
theorem f_M_ahead_L_0 (V : Nat → Nat → Int32) (u : Int32) (k0 : Nat)  : f_M_ahead_L V u 0 k0  = (-1) := rfl
theorem f_M_ahead_L_s (V : Nat → Nat → Int32) (u : Int32) (d k0 : Nat)  : f_M_ahead_L V u (d + 1) k0  = (if (V 1 k0) = u then (if (V 2 k0) = 0 then (nI k0) else (f_M_ahead_L V u d (k0 + 1))) else (f_M_ahead_L V u d (k0 + 1))) := rfl
def f_M_ahead (c : Nat) (V : Nat → Nat → Int32) (u : Int32) : Int32 := (f_M_ahead_L V u c 0)
set_option maxHeartbeats 4000000 in
set_option maxRecDepth 100000 in
theorem lp_M_ahead (l : Launch) (D : va_G) (cI : ClassId) (a : Nat → Nat) (th : Int32) (nw : Int32) (k : Nat) (n : Nat) (c : Nat) (Z : Nat → Nat → Int32) (P : Nat → Nat → Int32) (U : Nat → Nat → Int32) (V : Nat → Nat → Int32) (u : Int32) (hk : k ≤ 20) (hn : n ≤ 60) (hc : c ≤ 300) {p : Program} {e : Env} {s : State} {m : MethodId} {below : List Frame} {meth : Method} {c0 : Code} (E : CallFix p m c0 b_M_ahead 3 s ([.ref (a 0), .int u] : List Value).toArray zB y_M_ahead.cls) (hrt : meth.sig.returnType = (some .int)) (hlk : meth.locks = false) (hN : zN s) (hK : va_K D vwCl [(cI, .int)] s) (hP : va_P D vwCl (wM a cI th nw (nI k) (nI n) (nI c) Z P U V) s.heap) :
    ∀ (d k0 : Nat) , k0 + d = c → ∀ r : Int32, f_M_ahead_L V u d k0  = r → ∀ ls : Array Slot, lv_has ls 3 [(2, .int (nI k0)), (0, .ref (a 0)), (1, .int u)] → W p l e { frames := 0, cells := 0, slots := 0, locals := 0 } s m ([.ref (a 0), .int u] : List Value).toArray below meth c0 s.heap [] 0 0 (MQ below (QcRead r) ([.ref (a 0), .int u] : List Value).toArray s 0 0 (fun _ => False)) (F0 m 2 ls []) := by
  have hx := E.1
  have hb := E.2.1
  intro d
  induction d with
  | zero =>
    intro k0  hkd r hr ls hl
    refine lv_iload_n hx hb d_M_ahead_2 rfl (lv_at hl 0 rfl) ?_
    refine lv_aload_n hx hb d_M_ahead_3 rfl (lv_at hl 1 rfl) ?_
    refine z_get (v := .int (nI c)) E hK hP i_M 0 15 rfl rfl (by decide) kf_M_97 rfl d_M_ahead_4 ?_
    refine lv_icmp_ge (tgt := 37) hx hb d_M_ahead_7 (by decide) (fun c_1 => ?_) (fun c_1 => absurd (nI_le (by omega) (by omega)) c_1)
    refine lv_iconst (v := (-1)) hx hb d_M_ahead_37 (by decide) ?_
    exact zR.iret E hrt hlk (by rw [← hr, f_M_ahead_L_0]) d_M_ahead_38
  | succ d ih =>
    intro k0  hkd r hr ls hl
    refine lv_iload_n hx hb d_M_ahead_2 rfl (lv_at hl 0 rfl) ?_
    refine lv_aload_n hx hb d_M_ahead_3 rfl (lv_at hl 1 rfl) ?_
    refine z_get (v := .int (nI c)) E hK hP i_M 0 15 rfl rfl (by decide) kf_M_97 rfl d_M_ahead_4 ?_
    refine lv_icmp_ge (tgt := 37) hx hb d_M_ahead_7 (by decide) (fun c_2 => absurd c_2 (nI_ge (by omega) (by omega))) (fun c_2 => ?_)
    refine lv_aload_n hx hb d_M_ahead_10 rfl (lv_at hl 1 rfl) ?_
    refine z_get (v := .ref (a 13)) E hK hP i_M 0 17 rfl rfl (by decide) kf_M_46 rfl d_M_ahead_11 ?_
    refine lv_iload_n hx hb d_M_ahead_14 rfl (lv_at hl 0 rfl) ?_
    refine z_aldN (f := V 1) (j := k0) E hK hP 13 0 rfl rfl rfl (by omega) (by decide) d_M_ahead_15 ?_
    refine lv_iload_n hx hb d_M_ahead_16 rfl (lv_at hl 2 rfl) ?_
    refine lv_icmp_ne (tgt := 31) hx hb d_M_ahead_17 (by decide) (fun c_3 => ?_) (fun c_3 => ?_)
    · refine lv_iinc (v := nI (k0 + 1)) (lv' := [(2, .int (nI (k0 + 1))), (0, .ref (a 0)), (1, .int u)]) hx hb d_M_ahead_31 hl (k := 0) rfl (nI_1 _) (by decide) rfl (fun ls hl => ?_)
      refine lv_goto (tgt := 2) hx hb d_M_ahead_34 (by decide) ?_
      exact ih (k0 + 1)  (by omega) r (by rw [← hr, f_M_ahead_L_s, if_neg c_3]) ls (lv_sub hl [0, 1, 2] rfl)
    · refine lv_aload_n hx hb d_M_ahead_20 rfl (lv_at hl 1 rfl) ?_
      refine z_get (v := .ref (a 14)) E hK hP i_M 0 18 rfl rfl (by decide) kf_M_49 rfl d_M_ahead_21 ?_
      refine lv_iload_n hx hb d_M_ahead_24 rfl (lv_at hl 0 rfl) ?_
      refine z_aldN (f := V 2) (j := k0) E hK hP 14 0 rfl rfl rfl (by omega) (by decide) d_M_ahead_25 ?_
      refine lv_if_ne (tgt := 31) hx hb d_M_ahead_26 (by decide) (fun c_4 => ?_) (fun c_4 => ?_)
      · refine lv_iinc (v := nI (k0 + 1)) (lv' := [(2, .int (nI (k0 + 1))), (0, .ref (a 0)), (1, .int u)]) hx hb d_M_ahead_31 hl (k := 0) rfl (nI_1 _) (by decide) rfl (fun ls hl => ?_)
        refine lv_goto (tgt := 2) hx hb d_M_ahead_34 (by decide) ?_
        exact ih (k0 + 1)  (by omega) r (by rw [← hr, f_M_ahead_L_s, if_pos c_3, if_neg c_4]) ls (lv_sub hl [0, 1, 2] rfl)
      · refine lv_iload_n hx hb d_M_ahead_29 rfl (lv_at hl 0 rfl) ?_
        exact zR.iret E hrt hlk (by rw [← hr, f_M_ahead_L_s, if_pos c_3, if_pos c_4]) d_M_ahead_30
set_option maxHeartbeats 4000000 in
set_option maxRecDepth 100000 in
theorem c_M_ahead (l : Launch) (D : va_G) (cI : ClassId) (a : Nat → Nat) (th : Int32) (nw : Int32) (k : Nat) (n : Nat) (c : Nat) (Z : Nat → Nat → Int32) (P : Nat → Nat → Int32) (U : Nat → Nat → Int32) (V : Nat → Nat → Int32) (u : Int32) (hk : k ≤ 20) (hn : n ≤ 60) (hc : c ≤ 300) : zR l D [(cI, .int)] y_M_ahead b_M_ahead 3 (some .int) 0 0 [.ref (a 0), .int u] (wM a cI th nw (nI k) (nI n) (nI c) Z P U V) (f_M_ahead c V u) := by
  refine zR.of (by decide) (Nat.le_of_ble_eq_true rfl) ?_
  intro p e s m below meth c0 ls E hrt hlk hN hK hP hl
  have hx := E.1
  have hb := E.2.1
  have hl : lv_has ls 3 [(0, .ref (a 0)), (1, .int u)] := hl
  refine lv_iconst (v := 0) hx hb d_M_ahead_0 (by decide) ?_
  refine lv_istore_n (lv' := [(2, .int 0), (0, .ref (a 0)), (1, .int u)]) hx hb d_M_ahead_1 rfl hl (by decide) rfl (fun ls hl => ?_)
  exact lp_M_ahead l D cI a th nw k n c Z P U V u hk hn hc E hrt hlk hN hK hP c 0  (by omega) _ (by rfl) ls (by rw [nI_0]; exact lv_sub hl [0, 1, 2] rfl)
theorem ms_L {Z : Nat → Nat → Int32} {x : Int32} : ∀ (d k0 : Nat), f_M_seatOf_L Z x d k0 = -1 ∨ ∃ j, j < k0 + d ∧ f_M_seatOf_L Z x d k0 = nI j := by
  intro d
  induction d with
  | zero => intro k0; exact Or.inl rfl
  | succ d ih =>
    intro k0
    rw [f_M_seatOf_L_s]
    split
    · exact Or.inr ⟨k0, by omega, rfl⟩
    · rcases ih (k0 + 1) with h | ⟨j, h1, h2⟩
      · exact Or.inl h
      · exact Or.inr ⟨j, by omega, h2⟩
theorem ms_in {k : Nat} {Z : Nat → Nat → Int32} {x : Int32} (hk : k ≤ 20) (h : ¬ f_M_seatOf k Z x < 0) : vp_in (f_M_seatOf k Z x) 20 := by
  rcases ms_L (Z := Z) (x := x) k 0 with h1 | ⟨j, h1, h2⟩
  · exact absurd (by rw [show f_M_seatOf k Z x = -1 from h1]; decide) h
  · rw [show f_M_seatOf k Z x = nI j from h2]
    exact vp_in_nI (by omega) (by decide)
theorem ms_in0 {k : Nat} {Z : Nat → Nat → Int32} {x : Int32} (hk : k ≤ 20) (h : 0 ≤ f_M_seatOf k Z x) : vp_in (f_M_seatOf k Z x) 20 := ms_in hk (Int32.not_lt.mpr h)
theorem mw_L {Z : Nat → Nat → Int32} {x : Int32} : ∀ (d k0 : Nat), f_M_waitOf_L Z x d k0 = -1 ∨ ∃ j, j < k0 + d ∧ f_M_waitOf_L Z x d k0 = nI j := by
  intro d
  induction d with
  | zero => intro k0; exact Or.inl rfl
  | succ d ih =>
    intro k0
    rw [f_M_waitOf_L_s]
    split
    · exact Or.inr ⟨k0, by omega, rfl⟩
    · rcases ih (k0 + 1) with h | ⟨j, h1, h2⟩
      · exact Or.inl h
      · exact Or.inr ⟨j, by omega, h2⟩
theorem mw_in {n : Nat} {Z : Nat → Nat → Int32} {x : Int32} (hn : n ≤ 60) (h : ¬ f_M_waitOf n Z x < 0) : f_M_waitOf n Z x = nI (f_M_waitOf n Z x).toNatClampNeg ∧ (f_M_waitOf n Z x).toNatClampNeg < n := by
  rcases mw_L (Z := Z) (x := x) n 0 with h1 | ⟨j, h1, h2⟩
  · exact absurd (by rw [show f_M_waitOf n Z x = -1 from h1]; decide) h
  · rw [show f_M_waitOf n Z x = nI j from h2, nI_clamp (by omega)]
    exact ⟨rfl, by omega⟩
theorem ah_L {V : Nat → Nat → Int32} {x : Int32} : ∀ (d k0 : Nat), f_M_ahead_L V x d k0 = -1 ∨ ∃ j, j < k0 + d ∧ f_M_ahead_L V x d k0 = nI j := by
  intro d
  induction d with
  | zero => intro k0; exact Or.inl rfl
  | succ d ih =>
    intro k0
    rw [f_M_ahead_L_s]
    have e := ih (k0 + 1)
    have e2 : f_M_ahead_L V x d (k0 + 1) = -1 ∨ ∃ j, j < k0 + (d + 1) ∧ f_M_ahead_L V x d (k0 + 1) = nI j := by
      rcases e with h | ⟨j, h1, h2⟩
      · exact Or.inl h
      · exact Or.inr ⟨j, by omega, h2⟩
    split
    · split
      · exact Or.inr ⟨k0, by omega, rfl⟩
      · exact e2
    · exact e2
theorem ah_in {c : Nat} {V : Nat → Nat → Int32} {x : Int32} (hc : c ≤ 300) (h : ¬ f_M_ahead c V x < 0) : vp_in (f_M_ahead c V x) 300 := by
  rcases ah_L (V := V) (x := x) c 0 with h1 | ⟨j, h1, h2⟩
  · exact absurd (by rw [show f_M_ahead c V x = -1 from h1]; decide) h
  · rw [show f_M_ahead c V x = nI j from h2]
    exact vp_in_nI (by omega) (by decide)
