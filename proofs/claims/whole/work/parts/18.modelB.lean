def f_M_come (nw : Int32) (k : Nat) (n : Nat) (c : Nat) (Z : Nat → Nat → Int32) (P : Nat → Nat → Int32) (U : Nat → Nat → Int32) (V : Nat → Nat → Int32) (pr : Int32) : Int32 × Int32 × Int32 × Int32 × Int32 × (Nat → Nat → Int32) × (Nat → Nat → Int32) × (Nat → Nat → Int32) × (Nat → Nat → Int32) := (if (f_M_isPerson pr) = 0 then ((-1), 0, nw, nI n, nI c, Z, P, U, V) else (if 0 ≤ (f_M_seatOf k Z pr) then ((-3), 0, nw, nI n, nI c, Z, P, U, V) else (if (f_M_waitOf n Z pr) < 0 then (if (f_M_seatOf k Z (-1)) < 0 then ((-10) - (((nI n) + 1) - 1), 0, nw, (nI n) + 1, nI c, up2 Z 1 n pr, P, U, V) else (f_M_seatOf k Z (-1), 0, nw, nI n, nI c, up2 Z 0 (f_M_seatOf k Z (-1)).toNatClampNeg pr, P, U, V)) else ((-3), 0, nw, nI n, nI c, Z, P, U, V))))
set_option maxHeartbeats 4000000 in
set_option maxRecDepth 100000 in
theorem c_M_come (l : Launch) (D : va_G) (cI : ClassId) (a : Nat → Nat) (th : Int32) (nw : Int32) (k : Nat) (n : Nat) (c : Nat) (Z : Nat → Nat → Int32) (P : Nat → Nat → Int32) (U : Nat → Nat → Int32) (V : Nat → Nat → Int32) (pr : Int32) (hk : k ≤ 20) (hn : n ≤ 60) (hc : c ≤ 300) (h60 : ¬ f_M_isPerson pr = 0 → f_M_waitOf n Z pr < 0 → n < 60) : zW l D [(cI, .int)] y_M_come b_M_come 3 (some .int) 2 42 [.ref (a 0), .int pr] (wM a cI th nw (nI k) (nI n) (nI c) Z P U V) (wM a cI ((f_M_come nw k n c Z P U V pr).2.1) ((f_M_come nw k n c Z P U V pr).2.2.1) (nI k) ((f_M_come nw k n c Z P U V pr).2.2.2.1) ((f_M_come nw k n c Z P U V pr).2.2.2.2.1) ((f_M_come nw k n c Z P U V pr).2.2.2.2.2.1) ((f_M_come nw k n c Z P U V pr).2.2.2.2.2.2.1) ((f_M_come nw k n c Z P U V pr).2.2.2.2.2.2.2.1) ((f_M_come nw k n c Z P U V pr).2.2.2.2.2.2.2.2)) (some (.int (f_M_come nw k n c Z P U V pr).1)) := by
  refine zW.of (by decide) (Nat.le_of_ble_eq_true rfl) ?_
  intro p e s m below meth c0 ls A E hrt hlk hN hK hA G hl
  have hx := E.1
  have hb := E.2.1
  have hl : lv_has ls 3 [(0, .ref (a 0)), (1, .int pr)] := hl
  refine lv_aload_n hx hb d_M_come_0 rfl (lv_at hl 0 rfl) ?_
  refine lv_iconst (v := 0) hx hb d_M_come_1 (by decide) ?_
  refine z_put (ty := .int) (ws' := wM a cI 0 nw (nI k) (nI n) (nI c) Z P U V) E hK G i_M t_M t_M_ok n_M 0 0 rfl rfl (by decide) kf_M_65 rfl rfl rfl rfl (Nat.le_of_ble_eq_true rfl) rfl d_M_come_2 (fun H locs G => ?_)
  refine lv_iload_n hx hb d_M_come_5 rfl (lv_at hl 1 rfl) ?_
  refine z_rs (As := [.int pr]) (rest := []) E hN hK hl.1 (c_M_isPerson l D [(cI, .int)] pr) kz_M_79 rfl ⟨Nat.le_of_ble_eq_true rfl, Nat.le_of_ble_eq_true rfl⟩ rfl (Nat.le_of_ble_eq_true rfl) ⟨Nat.zero_le _, Nat.zero_le _⟩ d_M_come_6 ?_
  refine lv_if_ne (tgt := 14) hx hb d_M_come_9 (by decide) (fun c_1 => ?_) (fun c_1 => ?_)
  · refine lv_aload_n hx hb d_M_come_14 rfl (lv_at hl 0 rfl) ?_
    refine lv_iload_n hx hb d_M_come_15 rfl (lv_at hl 1 rfl) ?_
    refine z_rv (As := [.int pr]) (rest := []) E hN hK G.1 hl.1 (c_M_seatOf l D cI a 0 nw k n c Z P U V pr hk hn hc) [0, 1, 2, 3, 4, 5, 6, 7, 8, 9, 10, 11, 12, 13, 14, 15, 16, 17] rfl 0 rfl rfl kz_M_83 rfl ⟨Nat.le_of_ble_eq_true rfl, Nat.le_of_ble_eq_true rfl⟩ rfl (Nat.le_of_ble_eq_true rfl) ⟨Nat.zero_le _, Nat.zero_le _⟩ d_M_come_16 ?_
    refine lv_if_ge (tgt := 30) hx hb d_M_come_19 (by decide) (fun c_2 => ?_) (fun c_2 => ?_)
    · refine lv_bipush (v := (-3)) hx hb d_M_come_30 (by decide) ?_
      have hf : f_M_come nw k n c Z P U V pr = ((-3), 0, nw, nI n, nI c, Z, P, U, V) := by unfold f_M_come; rw [if_neg c_1, if_pos c_2]
      exact zW.iret E hrt hlk G (by rw [hf]) (by rw [hf]) d_M_come_32
    · refine lv_aload_n hx hb d_M_come_22 rfl (lv_at hl 0 rfl) ?_
      refine lv_iload_n hx hb d_M_come_23 rfl (lv_at hl 1 rfl) ?_
      refine z_rv (As := [.int pr]) (rest := []) E hN hK G.1 hl.1 (c_M_waitOf l D cI a 0 nw k n c Z P U V pr hk hn hc) [0, 1, 2, 3, 4, 5, 6, 7, 8, 9, 10, 11, 12, 13, 14, 15, 16, 17] rfl 0 rfl rfl kz_M_87 rfl ⟨Nat.le_of_ble_eq_true rfl, Nat.le_of_ble_eq_true rfl⟩ rfl (Nat.le_of_ble_eq_true rfl) ⟨Nat.zero_le _, Nat.zero_le _⟩ d_M_come_24 ?_
      refine lv_if_lt (tgt := 33) hx hb d_M_come_27 (by decide) (fun c_3 => ?_) (fun c_3 => ?_)
      · refine lv_aload_n hx hb d_M_come_33 rfl (lv_at hl 0 rfl) ?_
        refine lv_iconst (v := (-1)) hx hb d_M_come_34 (by decide) ?_
        refine z_rv (As := [.int (-1)]) (rest := []) E hN hK G.1 hl.1 (c_M_seatOf l D cI a 0 nw k n c Z P U V (-1) hk hn hc) [0, 1, 2, 3, 4, 5, 6, 7, 8, 9, 10, 11, 12, 13, 14, 15, 16, 17] rfl 0 rfl rfl kz_M_83 rfl ⟨Nat.le_of_ble_eq_true rfl, Nat.le_of_ble_eq_true rfl⟩ rfl (Nat.le_of_ble_eq_true rfl) ⟨Nat.zero_le _, Nat.zero_le _⟩ d_M_come_35 ?_
        refine lv_istore_n (lv' := [(2, .int (f_M_seatOf k Z (-1))), (0, .ref (a 0)), (1, .int pr)]) hx hb d_M_come_38 rfl hl (by decide) rfl (fun ls hl => ?_)
        refine lv_iload_n hx hb d_M_come_39 rfl (lv_at hl 0 rfl) ?_
        refine lv_if_lt (tgt := 52) hx hb d_M_come_40 (by decide) (fun c_4 => ?_) (fun c_4 => ?_)
        · have h61 : n < 60 := h60 c_1 c_3
          refine lv_aload_n hx hb d_M_come_52 rfl (lv_at hl 1 rfl) ?_
          refine z_get (v := .ref (a 2)) E hK G.1 i_M 0 5 rfl rfl (by decide) kf_M_13 rfl d_M_come_53 ?_
          refine lv_aload_n hx hb d_M_come_56 rfl (lv_at hl 1 rfl) ?_
          refine z_get (v := .int (nI n)) E hK G.1 i_M 0 4 rfl rfl (by decide) kf_M_76 rfl d_M_come_57 ?_
          refine lv_iload_n hx hb d_M_come_60 rfl (lv_at hl 2 rfl) ?_
          refine z_astN (f := Z 1) (j := n) (ws' := wM a cI 0 nw (nI k) (nI n) (nI c) (up2 Z 1 n pr) P U V) E hK G 2 0 rfl rfl rfl (by omega) (by decide) rfl d_M_come_61 (fun H locs G => ?_)
          refine lv_aload_n hx hb d_M_come_62 rfl (lv_at hl 1 rfl) ?_
          refine lv_dup hx hb d_M_come_63 rfl ?_
          refine z_get (v := .int (nI n)) E hK G.1 i_M 0 4 rfl rfl (by decide) kf_M_76 rfl d_M_come_64 ?_
          refine lv_iconst (v := 1) hx hb d_M_come_67 (by decide) ?_
          refine lv_iadd hx hb d_M_come_68 ?_
          refine z_put (ty := .int) (ws' := wM a cI 0 nw (nI k) ((nI n) + 1) (nI c) (up2 Z 1 n pr) P U V) E hK G i_M t_M t_M_ok n_M 0 4 rfl rfl (by decide) kf_M_76 rfl rfl rfl rfl (Nat.le_of_ble_eq_true rfl) rfl d_M_come_69 (fun H locs G => ?_)
          refine lv_bipush (v := (-10)) hx hb d_M_come_72 (by decide) ?_
          refine lv_aload_n hx hb d_M_come_74 rfl (lv_at hl 1 rfl) ?_
          refine z_get (v := .int ((nI n) + 1)) E hK G.1 i_M 0 4 rfl rfl (by decide) kf_M_76 rfl d_M_come_75 ?_
          refine lv_iconst (v := 1) hx hb d_M_come_78 (by decide) ?_
          refine lv_isub hx hb d_M_come_79 ?_
          refine lv_isub hx hb d_M_come_80 ?_
          have hf : f_M_come nw k n c Z P U V pr = ((-10) - (((nI n) + 1) - 1), 0, nw, (nI n) + 1, nI c, up2 Z 1 n pr, P, U, V) := by unfold f_M_come; rw [if_neg c_1, if_neg c_2, if_pos c_3, if_pos c_4]
          exact zW.iret E hrt hlk G (by rw [hf]) (by rw [hf]) d_M_come_81
        · refine lv_aload_n hx hb d_M_come_43 rfl (lv_at hl 1 rfl) ?_
          refine z_get (v := .ref (a 1)) E hK G.1 i_M 0 3 rfl rfl (by decide) kf_M_7 rfl d_M_come_44 ?_
          refine lv_iload_n hx hb d_M_come_47 rfl (lv_at hl 0 rfl) ?_
          refine lv_iload_n hx hb d_M_come_48 rfl (lv_at hl 2 rfl) ?_
          refine z_ast (f := Z 0) (ws' := wM a cI 0 nw (nI k) (nI n) (nI c) (up2 Z 0 (f_M_seatOf k Z (-1)).toNatClampNeg pr) P U V) E hK G 1 0 rfl rfl (ms_in hk c_4) rfl d_M_come_49 (fun H locs G => ?_)
          refine lv_iload_n hx hb d_M_come_50 rfl (lv_at hl 0 rfl) ?_
          have hf : f_M_come nw k n c Z P U V pr = (f_M_seatOf k Z (-1), 0, nw, nI n, nI c, up2 Z 0 (f_M_seatOf k Z (-1)).toNatClampNeg pr, P, U, V) := by unfold f_M_come; rw [if_neg c_1, if_neg c_2, if_pos c_3, if_neg c_4]
          exact zW.iret E hrt hlk G (by rw [hf]) (by rw [hf]) d_M_come_51
      · refine lv_bipush (v := (-3)) hx hb d_M_come_30 (by decide) ?_
        have hf : f_M_come nw k n c Z P U V pr = ((-3), 0, nw, nI n, nI c, Z, P, U, V) := by unfold f_M_come; rw [if_neg c_1, if_neg c_2, if_neg c_3]
        exact zW.iret E hrt hlk G (by rw [hf]) (by rw [hf]) d_M_come_32
  · refine lv_iconst (v := (-1)) hx hb d_M_come_12 (by decide) ?_
    have hf : f_M_come nw k n c Z P U V pr = ((-1), 0, nw, nI n, nI c, Z, P, U, V) := by unfold f_M_come; rw [if_pos c_1]
    exact zW.iret E hrt hlk G (by rw [hf]) (by rw [hf]) d_M_come_13
def f_M_leaveRow_L (n : Nat) (w : Int32) : Nat → Nat → (Nat → Nat → Int32) → Int32 × (Nat → Nat → Int32)
  | 0, k0, Z => (nI (n - 1), Z)
  | d + 1, k0, Z => (f_M_leaveRow_L n w d (k0 + 1) (up2 Z 1 k0 (Z 1 (k0 + 1))))
theorem f_M_leaveRow_L_0 (n : Nat) (w : Int32) (k0 : Nat) (Z : Nat → Nat → Int32) : f_M_leaveRow_L n w 0 k0 Z = (nI (n - 1), Z) := rfl
theorem f_M_leaveRow_L_s (n : Nat) (w : Int32) (d k0 : Nat) (Z : Nat → Nat → Int32) : f_M_leaveRow_L n w (d + 1) k0 Z = (f_M_leaveRow_L n w d (k0 + 1) (up2 Z 1 k0 (Z 1 (k0 + 1)))) := rfl
def f_M_leaveRow (n : Nat) (Z : Nat → Nat → Int32) (w : Int32) : Int32 × (Nat → Nat → Int32) := (f_M_leaveRow_L n w ((n - 1) - w.toNatClampNeg) w.toNatClampNeg Z)
set_option maxHeartbeats 4000000 in
set_option maxRecDepth 100000 in
theorem lp_M_leaveRow (l : Launch) (D : va_G) (cI : ClassId) (a : Nat → Nat) (th : Int32) (nw : Int32) (k : Nat) (n : Nat) (c : Nat) (P : Nat → Nat → Int32) (U : Nat → Nat → Int32) (V : Nat → Nat → Int32) (w : Int32) (hk : k ≤ 20) (hn : n ≤ 60) (hc : c ≤ 300) (hw0 : w = nI w.toNatClampNeg) (hwn : w.toNatClampNeg < n) {p : Program} {e : Env} {s : State} {m : MethodId} {below : List Frame} {meth : Method} {c0 : Code} {A : Nat → Prop} (E : CallFix p m c0 b_M_leaveRow 3 s ([.ref (a 0), .int w] : List Value).toArray zB y_M_leaveRow.cls) (hrt : meth.sig.returnType = none) (hlk : meth.locks = false) (hN : zN s) (hK : va_K D vwCl [(cI, .int)] s) (hA : ∀ q, s.heap.size ≤ q → A q) :
    ∀ (d k0 : Nat) (Z : Nat → Nat → Int32), k0 + d = (n - 1) → ∀ X : Int32 × (Nat → Nat → Int32), f_M_leaveRow_L n w d k0 Z = X → ∀ (H : Heap) (locs : List Loc), zG D A s H locs (wM a cI th nw (nI k) (nI (n - 1)) (nI c) Z P U V) → ∀ ls : Array Slot, lv_has ls 3 [(2, .int (nI k0)), (0, .ref (a 0)), (1, .int w)] → W p l e { frames := 0, cells := 0, slots := 0, locals := 0 } s m ([.ref (a 0), .int w] : List Value).toArray below meth c0 H locs 0 0 (MQ below (zQ D A (wM a cI th nw (nI k) X.1 (nI c) X.2 P U V) none) ([.ref (a 0), .int w] : List Value).toArray s 0 0 A) (F0 m 12 ls []) := by
  have hx := E.1
  have hb := E.2.1
  intro d
  induction d with
  | zero =>
    intro k0 Z hkd X hr H locs G ls hl
    refine lv_iload_n hx hb d_M_leaveRow_12 rfl (lv_at hl 0 rfl) ?_
    refine lv_aload_n hx hb d_M_leaveRow_13 rfl (lv_at hl 1 rfl) ?_
    refine z_get (v := .int (nI (n - 1))) E hK G.1 i_M 0 4 rfl rfl (by decide) kf_M_76 rfl d_M_leaveRow_14 ?_
    refine lv_icmp_ge (tgt := 40) hx hb d_M_leaveRow_17 (by decide) (fun c_1 => ?_) (fun c_1 => absurd (nI_le (by omega) (by omega)) c_1)
    have hf : X = (nI (n - 1), Z) := by rw [← hr, f_M_leaveRow_L_0]
    exact zW.vret E hrt hlk G (by rw [hf]) (by rfl) d_M_leaveRow_40
  | succ d ih =>
    intro k0 Z hkd X hr H locs G ls hl
    refine lv_iload_n hx hb d_M_leaveRow_12 rfl (lv_at hl 0 rfl) ?_
    refine lv_aload_n hx hb d_M_leaveRow_13 rfl (lv_at hl 1 rfl) ?_
    refine z_get (v := .int (nI (n - 1))) E hK G.1 i_M 0 4 rfl rfl (by decide) kf_M_76 rfl d_M_leaveRow_14 ?_
    refine lv_icmp_ge (tgt := 40) hx hb d_M_leaveRow_17 (by decide) (fun c_2 => absurd c_2 (nI_ge (by omega) (by omega))) (fun c_2 => ?_)
    refine lv_aload_n hx hb d_M_leaveRow_20 rfl (lv_at hl 1 rfl) ?_
    refine z_get (v := .ref (a 2)) E hK G.1 i_M 0 5 rfl rfl (by decide) kf_M_13 rfl d_M_leaveRow_21 ?_
    refine lv_iload_n hx hb d_M_leaveRow_24 rfl (lv_at hl 0 rfl) ?_
    refine lv_aload_n hx hb d_M_leaveRow_25 rfl (lv_at hl 1 rfl) ?_
    refine z_get (v := .ref (a 2)) E hK G.1 i_M 0 5 rfl rfl (by decide) kf_M_13 rfl d_M_leaveRow_26 ?_
    refine lv_iload_n hx hb d_M_leaveRow_29 rfl (lv_at hl 0 rfl) ?_
    refine lv_iconst (v := 1) hx hb d_M_leaveRow_30 (by decide) ?_
    refine lv_iadd hx hb d_M_leaveRow_31 ?_
    refine W.eq (g2 := F0 m 32 ls [.int (nI (k0 + 1)), .ref (a 2), .int (nI k0), .ref (a 2)]) (by rw [nI_1]) ?_
    refine z_aldN (f := Z 1) (j := (k0 + 1)) E hK G.1 2 0 rfl rfl rfl (by omega) (by decide) d_M_leaveRow_32 ?_
    refine z_astN (f := Z 1) (j := k0) (ws' := wM a cI th nw (nI k) (nI (n - 1)) (nI c) (up2 Z 1 k0 (Z 1 (k0 + 1))) P U V) E hK G 2 0 rfl rfl rfl (by omega) (by decide) rfl d_M_leaveRow_33 (fun H locs G => ?_)
    refine lv_iinc (v := nI (k0 + 1)) (lv' := [(2, .int (nI (k0 + 1))), (0, .ref (a 0)), (1, .int w)]) hx hb d_M_leaveRow_34 hl (k := 0) rfl (nI_1 _) (by decide) rfl (fun ls hl => ?_)
    refine lv_goto (tgt := 12) hx hb d_M_leaveRow_37 (by decide) ?_
    exact ih (k0 + 1) (up2 Z 1 k0 (Z 1 (k0 + 1))) (by omega) X (by rw [← hr, f_M_leaveRow_L_s]) H locs G ls (lv_sub hl [0, 1, 2] rfl)
set_option maxHeartbeats 4000000 in
set_option maxRecDepth 100000 in
theorem c_M_leaveRow (l : Launch) (D : va_G) (cI : ClassId) (a : Nat → Nat) (th : Int32) (nw : Int32) (k : Nat) (n : Nat) (c : Nat) (Z : Nat → Nat → Int32) (P : Nat → Nat → Int32) (U : Nat → Nat → Int32) (V : Nat → Nat → Int32) (w : Int32) (hk : k ≤ 20) (hn : n ≤ 60) (hc : c ≤ 300) (hw0 : w = nI w.toNatClampNeg) (hwn : w.toNatClampNeg < n) : zW l D [(cI, .int)] y_M_leaveRow b_M_leaveRow 3 none 0 0 [.ref (a 0), .int w] (wM a cI th nw (nI k) (nI n) (nI c) Z P U V) (wM a cI th nw (nI k) ((f_M_leaveRow n Z w).1) (nI c) ((f_M_leaveRow n Z w).2) P U V) none := by
  refine zW.of (by decide) (Nat.le_of_ble_eq_true rfl) ?_
  intro p e s m below meth c0 ls A E hrt hlk hN hK hA G hl
  have hx := E.1
  have hb := E.2.1
  have hl : lv_has ls 3 [(0, .ref (a 0)), (1, .int w)] := hl
  refine lv_aload_n hx hb d_M_leaveRow_0 rfl (lv_at hl 0 rfl) ?_
  refine lv_dup hx hb d_M_leaveRow_1 rfl ?_
  refine z_get (v := .int (nI n)) E hK G.1 i_M 0 4 rfl rfl (by decide) kf_M_76 rfl d_M_leaveRow_2 ?_
  refine lv_iconst (v := 1) hx hb d_M_leaveRow_5 (by decide) ?_
  refine lv_isub hx hb d_M_leaveRow_6 ?_
  refine W.eq (g2 := F0 m 7 ls [.int (nI (n - 1)), .ref (a 0)]) (by rw [nI_m1 (n := n) (by omega)]) ?_
  refine z_put (ty := .int) (ws' := wM a cI th nw (nI k) (nI (n - 1)) (nI c) Z P U V) E hK G i_M t_M t_M_ok n_M 0 4 rfl rfl (by decide) kf_M_76 rfl rfl rfl rfl (Nat.le_of_ble_eq_true rfl) rfl d_M_leaveRow_7 (fun H locs G => ?_)
  refine lv_iload_n hx hb d_M_leaveRow_10 rfl (lv_at hl 1 rfl) ?_
  refine lv_istore_n (lv' := [(2, .int w), (0, .ref (a 0)), (1, .int w)]) hx hb d_M_leaveRow_11 rfl hl (by decide) rfl (fun ls hl => ?_)
  exact lp_M_leaveRow l D cI a th nw k n c P U V w hk hn hc hw0 hwn E hrt hlk hN hK hA ((n - 1) - w.toNatClampNeg) w.toNatClampNeg Z (by omega) _ (by rfl) _ _ G ls (by rw [← hw0]; exact lv_sub hl [0, 1, 2] rfl)
def f_M_leave (nw : Int32) (k : Nat) (n : Nat) (c : Nat) (Z : Nat → Nat → Int32) (P : Nat → Nat → Int32) (U : Nat → Nat → Int32) (V : Nat → Nat → Int32) (pr : Int32) : Int32 × Int32 × Int32 × Int32 × Int32 × (Nat → Nat → Int32) × (Nat → Nat → Int32) × (Nat → Nat → Int32) × (Nat → Nat → Int32) := (if (f_M_isPerson pr) = 0 then ((-1), 0, nw, nI n, nI c, Z, P, U, V) else (if 0 ≤ (f_M_seatOf k Z pr) then (if (f_M_has U V pr) ≤ 0 then (if (f_M_waitOf n Z pr) < 0 then (if (nI n) ≤ 0 then (if 0 ≤ ((up2 Z 0 (f_M_seatOf k Z pr).toNatClampNeg (-1)) 0 (f_M_seatOf k Z pr).toNatClampNeg) then ((up2 Z 0 (f_M_seatOf k Z pr).toNatClampNeg (-1)) 0 (f_M_seatOf k Z pr).toNatClampNeg, 0, nw, nI n, nI c, up2 Z 0 (f_M_seatOf k Z pr).toNatClampNeg (-1), P, U, V) else (100, 0, nw, nI n, nI c, up2 Z 0 (f_M_seatOf k Z pr).toNatClampNeg (-1), P, U, V)) else (if 0 ≤ (((f_M_leaveRow n (up2 Z 0 (f_M_seatOf k Z pr).toNatClampNeg (Z 1 0)) 0).2) 0 (f_M_seatOf k Z pr).toNatClampNeg) then (((f_M_leaveRow n (up2 Z 0 (f_M_seatOf k Z pr).toNatClampNeg (Z 1 0)) 0).2) 0 (f_M_seatOf k Z pr).toNatClampNeg, 0, nw, (f_M_leaveRow n (up2 Z 0 (f_M_seatOf k Z pr).toNatClampNeg (Z 1 0)) 0).1, nI c, (f_M_leaveRow n (up2 Z 0 (f_M_seatOf k Z pr).toNatClampNeg (Z 1 0)) 0).2, P, U, V) else (100, 0, nw, (f_M_leaveRow n (up2 Z 0 (f_M_seatOf k Z pr).toNatClampNeg (Z 1 0)) 0).1, nI c, (f_M_leaveRow n (up2 Z 0 (f_M_seatOf k Z pr).toNatClampNeg (Z 1 0)) 0).2, P, U, V))) else (100, 0, nw, (f_M_leaveRow n Z (f_M_waitOf n Z pr)).1, nI c, (f_M_leaveRow n Z (f_M_waitOf n Z pr)).2, P, U, V)) else ((-3), 0, nw, nI n, nI c, Z, P, U, V)) else (if (f_M_waitOf n Z pr) < 0 then ((-3), 0, nw, nI n, nI c, Z, P, U, V) else (if (f_M_has U V pr) ≤ 0 then (100, 0, nw, (f_M_leaveRow n Z (f_M_waitOf n Z pr)).1, nI c, (f_M_leaveRow n Z (f_M_waitOf n Z pr)).2, P, U, V) else ((-3), 0, nw, nI n, nI c, Z, P, U, V)))))
set_option maxHeartbeats 4000000 in
set_option maxRecDepth 100000 in
theorem c_M_leave (l : Launch) (D : va_G) (cI : ClassId) (a : Nat → Nat) (th : Int32) (nw : Int32) (k : Nat) (n : Nat) (c : Nat) (Z : Nat → Nat → Int32) (P : Nat → Nat → Int32) (U : Nat → Nat → Int32) (V : Nat → Nat → Int32) (pr : Int32) (hk : k ≤ 20) (hn : n ≤ 60) (hc : c ≤ 300) (hU : ∀ u, u < 80 → (U 0 u = 1 ∨ U 0 u = 2) → vp_in (U 3 u) 300) : zW l D [(cI, .int)] y_M_leave b_M_leave 4 (some .int) 2 42 [.ref (a 0), .int pr] (wM a cI th nw (nI k) (nI n) (nI c) Z P U V) (wM a cI ((f_M_leave nw k n c Z P U V pr).2.1) ((f_M_leave nw k n c Z P U V pr).2.2.1) (nI k) ((f_M_leave nw k n c Z P U V pr).2.2.2.1) ((f_M_leave nw k n c Z P U V pr).2.2.2.2.1) ((f_M_leave nw k n c Z P U V pr).2.2.2.2.2.1) ((f_M_leave nw k n c Z P U V pr).2.2.2.2.2.2.1) ((f_M_leave nw k n c Z P U V pr).2.2.2.2.2.2.2.1) ((f_M_leave nw k n c Z P U V pr).2.2.2.2.2.2.2.2)) (some (.int (f_M_leave nw k n c Z P U V pr).1)) := by
  refine zW.of (by decide) (Nat.le_of_ble_eq_true rfl) ?_
  intro p e s m below meth c0 ls A E hrt hlk hN hK hA G hl
  have hx := E.1
  have hb := E.2.1
  have hl : lv_has ls 4 [(0, .ref (a 0)), (1, .int pr)] := hl
  refine lv_aload_n hx hb d_M_leave_0 rfl (lv_at hl 0 rfl) ?_
  refine lv_iconst (v := 0) hx hb d_M_leave_1 (by decide) ?_
  refine z_put (ty := .int) (ws' := wM a cI 0 nw (nI k) (nI n) (nI c) Z P U V) E hK G i_M t_M t_M_ok n_M 0 0 rfl rfl (by decide) kf_M_65 rfl rfl rfl rfl (Nat.le_of_ble_eq_true rfl) rfl d_M_leave_2 (fun H locs G => ?_)
  refine lv_iload_n hx hb d_M_leave_5 rfl (lv_at hl 1 rfl) ?_
  refine z_rs (As := [.int pr]) (rest := []) E hN hK hl.1 (c_M_isPerson l D [(cI, .int)] pr) kz_M_79 rfl ⟨Nat.le_of_ble_eq_true rfl, Nat.le_of_ble_eq_true rfl⟩ rfl (Nat.le_of_ble_eq_true rfl) ⟨Nat.zero_le _, Nat.zero_le _⟩ d_M_leave_6 ?_
  refine lv_if_ne (tgt := 14) hx hb d_M_leave_9 (by decide) (fun c_1 => ?_) (fun c_1 => ?_)
  · refine lv_aload_n hx hb d_M_leave_14 rfl (lv_at hl 0 rfl) ?_
    refine lv_iload_n hx hb d_M_leave_15 rfl (lv_at hl 1 rfl) ?_
    refine z_rv (As := [.int pr]) (rest := []) E hN hK G.1 hl.1 (c_M_seatOf l D cI a 0 nw k n c Z P U V pr hk hn hc) [0, 1, 2, 3, 4, 5, 6, 7, 8, 9, 10, 11, 12, 13, 14, 15, 16, 17] rfl 0 rfl rfl kz_M_83 rfl ⟨Nat.le_of_ble_eq_true rfl, Nat.le_of_ble_eq_true rfl⟩ rfl (Nat.le_of_ble_eq_true rfl) ⟨Nat.zero_le _, Nat.zero_le _⟩ d_M_leave_16 ?_
    refine lv_istore_n (lv' := [(2, .int (f_M_seatOf k Z pr)), (0, .ref (a 0)), (1, .int pr)]) hx hb d_M_leave_19 rfl hl (by decide) rfl (fun ls hl => ?_)
    refine lv_aload_n hx hb d_M_leave_20 rfl (lv_at hl 1 rfl) ?_
    refine lv_iload_n hx hb d_M_leave_21 rfl (lv_at hl 2 rfl) ?_
    refine z_rv (As := [.int pr]) (rest := []) E hN hK G.1 hl.1 (c_M_waitOf l D cI a 0 nw k n c Z P U V pr hk hn hc) [0, 1, 2, 3, 4, 5, 6, 7, 8, 9, 10, 11, 12, 13, 14, 15, 16, 17] rfl 0 rfl rfl kz_M_87 rfl ⟨Nat.le_of_ble_eq_true rfl, Nat.le_of_ble_eq_true rfl⟩ rfl (Nat.le_of_ble_eq_true rfl) ⟨Nat.zero_le _, Nat.zero_le _⟩ d_M_leave_22 ?_
    refine lv_istore_n (lv' := [(3, .int (f_M_waitOf n Z pr)), (2, .int (f_M_seatOf k Z pr)), (0, .ref (a 0)), (1, .int pr)]) hx hb d_M_leave_25 rfl hl (by decide) rfl (fun ls hl => ?_)
    refine lv_iload_n hx hb d_M_leave_26 rfl (lv_at hl 1 rfl) ?_
    refine lv_if_ge (tgt := 34) hx hb d_M_leave_27 (by decide) (fun c_2 => ?_) (fun c_2 => ?_)
    · refine lv_aload_n hx hb d_M_leave_34 rfl (lv_at hl 2 rfl) ?_
      refine lv_iload_n hx hb d_M_leave_35 rfl (lv_at hl 3 rfl) ?_
      refine z_rv (As := [.int pr]) (rest := []) E hN hK G.1 hl.1 (c_M_has l D cI a 0 nw k n c Z P U V pr hk hn hc hU) [0, 1, 2, 3, 4, 5, 6, 7, 8, 9, 10, 11, 12, 13, 14, 15, 16, 17] rfl 0 rfl rfl kz_M_90 rfl ⟨Nat.le_of_ble_eq_true rfl, Nat.le_of_ble_eq_true rfl⟩ rfl (Nat.le_of_ble_eq_true rfl) ⟨Nat.zero_le _, Nat.zero_le _⟩ d_M_leave_36 ?_
      refine lv_if_le (tgt := 45) hx hb d_M_leave_39 (by decide) (fun c_3 => ?_) (fun c_3 => ?_)
      · refine lv_iload_n hx hb d_M_leave_45 rfl (lv_at hl 0 rfl) ?_
        refine lv_if_lt (tgt := 57) hx hb d_M_leave_46 (by decide) (fun c_4 => ?_) (fun c_4 => ?_)
        · refine lv_aload_n hx hb d_M_leave_57 rfl (lv_at hl 2 rfl) ?_
          refine z_get (v := .ref (a 1)) E hK G.1 i_M 0 3 rfl rfl (by decide) kf_M_7 rfl d_M_leave_58 ?_
          refine lv_iload_n hx hb d_M_leave_61 rfl (lv_at hl 1 rfl) ?_
          refine lv_aload_n hx hb d_M_leave_62 rfl (lv_at hl 2 rfl) ?_
          refine z_get (v := .int (nI n)) E hK G.1 i_M 0 4 rfl rfl (by decide) kf_M_76 rfl d_M_leave_63 ?_
          refine lv_if_le (tgt := 78) hx hb d_M_leave_66 (by decide) (fun c_5 => ?_) (fun c_5 => ?_)
          · refine lv_iconst (v := (-1)) hx hb d_M_leave_78 (by decide) ?_
            refine z_ast (f := Z 0) (ws' := wM a cI 0 nw (nI k) (nI n) (nI c) (up2 Z 0 (f_M_seatOf k Z pr).toNatClampNeg (-1)) P U V) E hK G 1 0 rfl rfl (ms_in0 hk c_2) rfl d_M_leave_79 (fun H locs G => ?_)
            refine lv_aload_n hx hb d_M_leave_80 rfl (lv_at hl 2 rfl) ?_
            refine z_get (v := .int (nI n)) E hK G.1 i_M 0 4 rfl rfl (by decide) kf_M_76 rfl d_M_leave_81 ?_
            refine lv_if_le (tgt := 92) hx hb d_M_leave_84 (by decide) (fun c_6 => ?_) (fun c_6 => absurd c_5 c_6)
            refine lv_aload_n hx hb d_M_leave_92 rfl (lv_at hl 2 rfl) ?_
            refine z_get (v := .ref (a 1)) E hK G.1 i_M 0 3 rfl rfl (by decide) kf_M_7 rfl d_M_leave_93 ?_
            refine lv_iload_n hx hb d_M_leave_96 rfl (lv_at hl 1 rfl) ?_
            refine z_ald (f := (up2 Z 0 (f_M_seatOf k Z pr).toNatClampNeg (-1)) 0) E hK G.1 1 0 rfl rfl (ms_in0 hk c_2) d_M_leave_97 ?_
            refine lv_if_ge (tgt := 106) hx hb d_M_leave_98 (by decide) (fun c_7 => ?_) (fun c_7 => ?_)
            · refine lv_aload_n hx hb d_M_leave_106 rfl (lv_at hl 2 rfl) ?_
              refine z_get (v := .ref (a 1)) E hK G.1 i_M 0 3 rfl rfl (by decide) kf_M_7 rfl d_M_leave_107 ?_
              refine lv_iload_n hx hb d_M_leave_110 rfl (lv_at hl 1 rfl) ?_
              refine z_ald (f := (up2 Z 0 (f_M_seatOf k Z pr).toNatClampNeg (-1)) 0) E hK G.1 1 0 rfl rfl (ms_in0 hk c_2) d_M_leave_111 ?_
              have hf : f_M_leave nw k n c Z P U V pr = ((up2 Z 0 (f_M_seatOf k Z pr).toNatClampNeg (-1)) 0 (f_M_seatOf k Z pr).toNatClampNeg, 0, nw, nI n, nI c, up2 Z 0 (f_M_seatOf k Z pr).toNatClampNeg (-1), P, U, V) := by unfold f_M_leave; rw [if_neg c_1, if_pos c_2, if_pos c_3, if_pos c_4, if_pos c_5, if_pos c_7]
              exact zW.iret E hrt hlk G (by rw [hf]) (by rw [hf]) d_M_leave_112
            · refine lv_bipush (v := 100) hx hb d_M_leave_101 (by decide) ?_
              refine lv_goto (tgt := 112) hx hb d_M_leave_103 (by decide) ?_
              have hf : f_M_leave nw k n c Z P U V pr = (100, 0, nw, nI n, nI c, up2 Z 0 (f_M_seatOf k Z pr).toNatClampNeg (-1), P, U, V) := by unfold f_M_leave; rw [if_neg c_1, if_pos c_2, if_pos c_3, if_pos c_4, if_pos c_5, if_neg c_7]
              exact zW.iret E hrt hlk G (by rw [hf]) (by rw [hf]) d_M_leave_112
          · refine lv_aload_n hx hb d_M_leave_69 rfl (lv_at hl 2 rfl) ?_
            refine z_get (v := .ref (a 2)) E hK G.1 i_M 0 5 rfl rfl (by decide) kf_M_13 rfl d_M_leave_70 ?_
            refine lv_iconst (v := 0) hx hb d_M_leave_73 (by decide) ?_
            refine z_aldN (f := Z 1) (j := 0) E hK G.1 2 0 rfl rfl (by decide) (by omega) (by decide) d_M_leave_74 ?_
            refine lv_goto (tgt := 79) hx hb d_M_leave_75 (by decide) ?_
            refine z_ast (f := Z 0) (ws' := wM a cI 0 nw (nI k) (nI n) (nI c) (up2 Z 0 (f_M_seatOf k Z pr).toNatClampNeg (Z 1 0)) P U V) E hK G 1 0 rfl rfl (ms_in0 hk c_2) rfl d_M_leave_79 (fun H locs G => ?_)
            refine lv_aload_n hx hb d_M_leave_80 rfl (lv_at hl 2 rfl) ?_
            refine z_get (v := .int (nI n)) E hK G.1 i_M 0 4 rfl rfl (by decide) kf_M_76 rfl d_M_leave_81 ?_
            refine lv_if_le (tgt := 92) hx hb d_M_leave_84 (by decide) (fun c_8 => absurd c_8 c_5) (fun c_8 => ?_)
            refine lv_aload_n hx hb d_M_leave_87 rfl (lv_at hl 2 rfl) ?_
            refine lv_iconst (v := 0) hx hb d_M_leave_88 (by decide) ?_
            refine z_wv (As := [.int 0]) (rest := []) (wr := ([] : List Nat).filterMap (fun i => (wM a cI 0 nw (nI k) (nI n) (nI c) (up2 Z 0 (f_M_seatOf k Z pr).toNatClampNeg (Z 1 0)) P U V)[i]?)) (ws' := wM a cI 0 nw (nI k) ((f_M_leaveRow n (up2 Z 0 (f_M_seatOf k Z pr).toNatClampNeg (Z 1 0)) 0).1) (nI c) ((f_M_leaveRow n (up2 Z 0 (f_M_seatOf k Z pr).toNatClampNeg (Z 1 0)) 0).2) P U V) E hN hK hA G hl.1 (c_M_leaveRow l D cI a 0 nw k n c (up2 Z 0 (f_M_seatOf k Z pr).toNatClampNeg (Z 1 0)) P U V 0 hk hn hc (by decide) (pos_n hn c_5)) [0, 1, 2, 3, 4, 5, 6, 7, 8, 9, 10, 11, 12, 13, 14, 15, 16, 17] [] [0, 1, 2, 3, 4, 5, 6, 7, 8, 9, 10, 11, 12, 13, 14, 15, 16, 17] rfl rfl rfl rfl rfl rfl (by decide) 0 rfl rfl kz_M_93 rfl ⟨Nat.le_of_ble_eq_true rfl, Nat.le_of_ble_eq_true rfl⟩ rfl (Nat.le_of_ble_eq_true rfl) ⟨Nat.zero_le _, Nat.zero_le _⟩ d_M_leave_89 (fun H locs G => ?_)
            refine W.eq (g2 := F0 m 92 ls []) rfl ?_
            refine lv_aload_n hx hb d_M_leave_92 rfl (lv_at hl 2 rfl) ?_
            refine z_get (v := .ref (a 1)) E hK G.1 i_M 0 3 rfl rfl (by decide) kf_M_7 rfl d_M_leave_93 ?_
            refine lv_iload_n hx hb d_M_leave_96 rfl (lv_at hl 1 rfl) ?_
            refine z_ald (f := ((f_M_leaveRow n (up2 Z 0 (f_M_seatOf k Z pr).toNatClampNeg (Z 1 0)) 0).2) 0) E hK G.1 1 0 rfl rfl (ms_in0 hk c_2) d_M_leave_97 ?_
            refine lv_if_ge (tgt := 106) hx hb d_M_leave_98 (by decide) (fun c_9 => ?_) (fun c_9 => ?_)
            · refine lv_aload_n hx hb d_M_leave_106 rfl (lv_at hl 2 rfl) ?_
              refine z_get (v := .ref (a 1)) E hK G.1 i_M 0 3 rfl rfl (by decide) kf_M_7 rfl d_M_leave_107 ?_
              refine lv_iload_n hx hb d_M_leave_110 rfl (lv_at hl 1 rfl) ?_
              refine z_ald (f := ((f_M_leaveRow n (up2 Z 0 (f_M_seatOf k Z pr).toNatClampNeg (Z 1 0)) 0).2) 0) E hK G.1 1 0 rfl rfl (ms_in0 hk c_2) d_M_leave_111 ?_
              have hf : f_M_leave nw k n c Z P U V pr = (((f_M_leaveRow n (up2 Z 0 (f_M_seatOf k Z pr).toNatClampNeg (Z 1 0)) 0).2) 0 (f_M_seatOf k Z pr).toNatClampNeg, 0, nw, (f_M_leaveRow n (up2 Z 0 (f_M_seatOf k Z pr).toNatClampNeg (Z 1 0)) 0).1, nI c, (f_M_leaveRow n (up2 Z 0 (f_M_seatOf k Z pr).toNatClampNeg (Z 1 0)) 0).2, P, U, V) := by unfold f_M_leave; rw [if_neg c_1, if_pos c_2, if_pos c_3, if_pos c_4, if_neg c_5, if_pos c_9]
              exact zW.iret E hrt hlk G (by rw [hf]) (by rw [hf]) d_M_leave_112
            · refine lv_bipush (v := 100) hx hb d_M_leave_101 (by decide) ?_
              refine lv_goto (tgt := 112) hx hb d_M_leave_103 (by decide) ?_
              have hf : f_M_leave nw k n c Z P U V pr = (100, 0, nw, (f_M_leaveRow n (up2 Z 0 (f_M_seatOf k Z pr).toNatClampNeg (Z 1 0)) 0).1, nI c, (f_M_leaveRow n (up2 Z 0 (f_M_seatOf k Z pr).toNatClampNeg (Z 1 0)) 0).2, P, U, V) := by unfold f_M_leave; rw [if_neg c_1, if_pos c_2, if_pos c_3, if_pos c_4, if_neg c_5, if_neg c_9]
              exact zW.iret E hrt hlk G (by rw [hf]) (by rw [hf]) d_M_leave_112
        · refine lv_aload_n hx hb d_M_leave_49 rfl (lv_at hl 2 rfl) ?_
          refine lv_iload_n hx hb d_M_leave_50 rfl (lv_at hl 0 rfl) ?_
          refine z_wv (As := [.int (f_M_waitOf n Z pr)]) (rest := []) (wr := ([] : List Nat).filterMap (fun i => (wM a cI 0 nw (nI k) (nI n) (nI c) Z P U V)[i]?)) (ws' := wM a cI 0 nw (nI k) ((f_M_leaveRow n Z (f_M_waitOf n Z pr)).1) (nI c) ((f_M_leaveRow n Z (f_M_waitOf n Z pr)).2) P U V) E hN hK hA G hl.1 (c_M_leaveRow l D cI a 0 nw k n c Z P U V (f_M_waitOf n Z pr) hk hn hc (mw_in hn c_4).1 (mw_in hn c_4).2) [0, 1, 2, 3, 4, 5, 6, 7, 8, 9, 10, 11, 12, 13, 14, 15, 16, 17] [] [0, 1, 2, 3, 4, 5, 6, 7, 8, 9, 10, 11, 12, 13, 14, 15, 16, 17] rfl rfl rfl rfl rfl rfl (by decide) 0 rfl rfl kz_M_93 rfl ⟨Nat.le_of_ble_eq_true rfl, Nat.le_of_ble_eq_true rfl⟩ rfl (Nat.le_of_ble_eq_true rfl) ⟨Nat.zero_le _, Nat.zero_le _⟩ d_M_leave_51 (fun H locs G => ?_)
          refine W.eq (g2 := F0 m 54 ls []) rfl ?_
          refine lv_bipush (v := 100) hx hb d_M_leave_54 (by decide) ?_
          have hf : f_M_leave nw k n c Z P U V pr = (100, 0, nw, (f_M_leaveRow n Z (f_M_waitOf n Z pr)).1, nI c, (f_M_leaveRow n Z (f_M_waitOf n Z pr)).2, P, U, V) := by unfold f_M_leave; rw [if_neg c_1, if_pos c_2, if_pos c_3, if_neg c_4]
          exact zW.iret E hrt hlk G (by rw [hf]) (by rw [hf]) d_M_leave_56
      · refine lv_bipush (v := (-3)) hx hb d_M_leave_42 (by decide) ?_
        have hf : f_M_leave nw k n c Z P U V pr = ((-3), 0, nw, nI n, nI c, Z, P, U, V) := by unfold f_M_leave; rw [if_neg c_1, if_pos c_2, if_neg c_3]
        exact zW.iret E hrt hlk G (by rw [hf]) (by rw [hf]) d_M_leave_44
    · refine lv_iload_n hx hb d_M_leave_30 rfl (lv_at hl 0 rfl) ?_
      refine lv_if_lt (tgt := 42) hx hb d_M_leave_31 (by decide) (fun c_10 => ?_) (fun c_10 => ?_)
      · refine lv_bipush (v := (-3)) hx hb d_M_leave_42 (by decide) ?_
        have hf : f_M_leave nw k n c Z P U V pr = ((-3), 0, nw, nI n, nI c, Z, P, U, V) := by unfold f_M_leave; rw [if_neg c_1, if_neg c_2, if_pos c_10]
        exact zW.iret E hrt hlk G (by rw [hf]) (by rw [hf]) d_M_leave_44
      · refine lv_aload_n hx hb d_M_leave_34 rfl (lv_at hl 2 rfl) ?_
        refine lv_iload_n hx hb d_M_leave_35 rfl (lv_at hl 3 rfl) ?_
        refine z_rv (As := [.int pr]) (rest := []) E hN hK G.1 hl.1 (c_M_has l D cI a 0 nw k n c Z P U V pr hk hn hc hU) [0, 1, 2, 3, 4, 5, 6, 7, 8, 9, 10, 11, 12, 13, 14, 15, 16, 17] rfl 0 rfl rfl kz_M_90 rfl ⟨Nat.le_of_ble_eq_true rfl, Nat.le_of_ble_eq_true rfl⟩ rfl (Nat.le_of_ble_eq_true rfl) ⟨Nat.zero_le _, Nat.zero_le _⟩ d_M_leave_36 ?_
        refine lv_if_le (tgt := 45) hx hb d_M_leave_39 (by decide) (fun c_11 => ?_) (fun c_11 => ?_)
        · refine lv_iload_n hx hb d_M_leave_45 rfl (lv_at hl 0 rfl) ?_
          refine lv_if_lt (tgt := 57) hx hb d_M_leave_46 (by decide) (fun c_12 => absurd c_12 c_10) (fun c_12 => ?_)
          refine lv_aload_n hx hb d_M_leave_49 rfl (lv_at hl 2 rfl) ?_
          refine lv_iload_n hx hb d_M_leave_50 rfl (lv_at hl 0 rfl) ?_
          refine z_wv (As := [.int (f_M_waitOf n Z pr)]) (rest := []) (wr := ([] : List Nat).filterMap (fun i => (wM a cI 0 nw (nI k) (nI n) (nI c) Z P U V)[i]?)) (ws' := wM a cI 0 nw (nI k) ((f_M_leaveRow n Z (f_M_waitOf n Z pr)).1) (nI c) ((f_M_leaveRow n Z (f_M_waitOf n Z pr)).2) P U V) E hN hK hA G hl.1 (c_M_leaveRow l D cI a 0 nw k n c Z P U V (f_M_waitOf n Z pr) hk hn hc (mw_in hn c_10).1 (mw_in hn c_10).2) [0, 1, 2, 3, 4, 5, 6, 7, 8, 9, 10, 11, 12, 13, 14, 15, 16, 17] [] [0, 1, 2, 3, 4, 5, 6, 7, 8, 9, 10, 11, 12, 13, 14, 15, 16, 17] rfl rfl rfl rfl rfl rfl (by decide) 0 rfl rfl kz_M_93 rfl ⟨Nat.le_of_ble_eq_true rfl, Nat.le_of_ble_eq_true rfl⟩ rfl (Nat.le_of_ble_eq_true rfl) ⟨Nat.zero_le _, Nat.zero_le _⟩ d_M_leave_51 (fun H locs G => ?_)
          refine W.eq (g2 := F0 m 54 ls []) rfl ?_
          refine lv_bipush (v := 100) hx hb d_M_leave_54 (by decide) ?_
          have hf : f_M_leave nw k n c Z P U V pr = (100, 0, nw, (f_M_leaveRow n Z (f_M_waitOf n Z pr)).1, nI c, (f_M_leaveRow n Z (f_M_waitOf n Z pr)).2, P, U, V) := by unfold f_M_leave; rw [if_neg c_1, if_neg c_2, if_neg c_10, if_pos c_11]
          exact zW.iret E hrt hlk G (by rw [hf]) (by rw [hf]) d_M_leave_56
        · refine lv_bipush (v := (-3)) hx hb d_M_leave_42 (by decide) ?_
          have hf : f_M_leave nw k n c Z P U V pr = ((-3), 0, nw, nI n, nI c, Z, P, U, V) := by unfold f_M_leave; rw [if_neg c_1, if_neg c_2, if_neg c_10, if_neg c_11]
          exact zW.iret E hrt hlk G (by rw [hf]) (by rw [hf]) d_M_leave_44
  · refine lv_iconst (v := (-1)) hx hb d_M_leave_12 (by decide) ?_
    have hf : f_M_leave nw k n c Z P U V pr = ((-1), 0, nw, nI n, nI c, Z, P, U, V) := by unfold f_M_leave; rw [if_pos c_1]
    exact zW.iret E hrt hlk G (by rw [hf]) (by rw [hf]) d_M_leave_13
def f_M_right (nw : Int32) (n : Nat) (c : Nat) (Z : Nat → Nat → Int32) (P : Nat → Nat → Int32) (U : Nat → Nat → Int32) (V : Nat → Nat → Int32) (pr : Int32) (right : Int32) : Int32 × Int32 × Int32 × Int32 × Int32 × (Nat → Nat → Int32) × (Nat → Nat → Int32) × (Nat → Nat → Int32) × (Nat → Nat → Int32) := (if (f_M_isPerson pr) = 0 then ((-1), 0, nw, nI n, nI c, Z, P, U, V) else (if (f_M_in right 0 3) = 0 then ((-2), 0, nw, nI n, nI c, Z, P, U, V) else (1, 0, nw, nI n, nI c, Z, up2 P 0 pr.toNatClampNeg right, U, V)))
set_option maxHeartbeats 4000000 in
set_option maxRecDepth 100000 in
theorem c_M_right (l : Launch) (D : va_G) (cI : ClassId) (a : Nat → Nat) (th : Int32) (nw : Int32) (k : Nat) (n : Nat) (c : Nat) (Z : Nat → Nat → Int32) (P : Nat → Nat → Int32) (U : Nat → Nat → Int32) (V : Nat → Nat → Int32) (pr : Int32) (right : Int32) (hk : k ≤ 20) (hn : n ≤ 60) (hc : c ≤ 300) : zW l D [(cI, .int)] y_M_right b_M_right 3 (some .int) 2 42 [.ref (a 0), .int pr, .int right] (wM a cI th nw (nI k) (nI n) (nI c) Z P U V) (wM a cI ((f_M_right nw n c Z P U V pr right).2.1) ((f_M_right nw n c Z P U V pr right).2.2.1) (nI k) ((f_M_right nw n c Z P U V pr right).2.2.2.1) ((f_M_right nw n c Z P U V pr right).2.2.2.2.1) ((f_M_right nw n c Z P U V pr right).2.2.2.2.2.1) ((f_M_right nw n c Z P U V pr right).2.2.2.2.2.2.1) ((f_M_right nw n c Z P U V pr right).2.2.2.2.2.2.2.1) ((f_M_right nw n c Z P U V pr right).2.2.2.2.2.2.2.2)) (some (.int (f_M_right nw n c Z P U V pr right).1)) := by
  refine zW.of (by decide) (Nat.le_of_ble_eq_true rfl) ?_
  intro p e s m below meth c0 ls A E hrt hlk hN hK hA G hl
  have hx := E.1
  have hb := E.2.1
  have hl : lv_has ls 3 [(0, .ref (a 0)), (1, .int pr), (2, .int right)] := hl
  refine lv_aload_n hx hb d_M_right_0 rfl (lv_at hl 0 rfl) ?_
  refine lv_iconst (v := 0) hx hb d_M_right_1 (by decide) ?_
  refine z_put (ty := .int) (ws' := wM a cI 0 nw (nI k) (nI n) (nI c) Z P U V) E hK G i_M t_M t_M_ok n_M 0 0 rfl rfl (by decide) kf_M_65 rfl rfl rfl rfl (Nat.le_of_ble_eq_true rfl) rfl d_M_right_2 (fun H locs G => ?_)
  refine lv_iload_n hx hb d_M_right_5 rfl (lv_at hl 1 rfl) ?_
  refine z_rs (As := [.int pr]) (rest := []) E hN hK hl.1 (c_M_isPerson l D [(cI, .int)] pr) kz_M_79 rfl ⟨Nat.le_of_ble_eq_true rfl, Nat.le_of_ble_eq_true rfl⟩ rfl (Nat.le_of_ble_eq_true rfl) ⟨Nat.zero_le _, Nat.zero_le _⟩ d_M_right_6 ?_
  refine lv_if_ne (tgt := 14) hx hb d_M_right_9 (by decide) (fun c_1 => ?_) (fun c_1 => ?_)
  · refine lv_iload_n hx hb d_M_right_14 rfl (lv_at hl 2 rfl) ?_
    refine lv_iconst (v := 0) hx hb d_M_right_15 (by decide) ?_
    refine lv_iconst (v := 3) hx hb d_M_right_16 (by decide) ?_
    refine z_rs (As := [.int right, .int 0, .int 3]) (rest := []) E hN hK hl.1 (c_M_in l D [(cI, .int)] right 0 3) kz_M_68 rfl ⟨Nat.le_of_ble_eq_true rfl, Nat.le_of_ble_eq_true rfl⟩ rfl (Nat.le_of_ble_eq_true rfl) ⟨Nat.zero_le _, Nat.zero_le _⟩ d_M_right_17 ?_
    refine lv_if_ne (tgt := 26) hx hb d_M_right_20 (by decide) (fun c_2 => ?_) (fun c_2 => ?_)
    · refine lv_aload_n hx hb d_M_right_26 rfl (lv_at hl 0 rfl) ?_
      refine z_get (v := .ref (a 3)) E hK G.1 i_M 0 6 rfl rfl (by decide) kf_M_16 rfl d_M_right_27 ?_
      refine lv_iload_n hx hb d_M_right_30 rfl (lv_at hl 1 rfl) ?_
      refine lv_iload_n hx hb d_M_right_31 rfl (lv_at hl 2 rfl) ?_
      refine z_ast (f := P 0) (ws' := wM a cI 0 nw (nI k) (nI n) (nI c) Z (up2 P 0 pr.toNatClampNeg right) U V) E hK G 3 0 rfl rfl (in_personM c_1) rfl d_M_right_32 (fun H locs G => ?_)
      refine lv_iconst (v := 1) hx hb d_M_right_33 (by decide) ?_
      have hf : f_M_right nw n c Z P U V pr right = (1, 0, nw, nI n, nI c, Z, up2 P 0 pr.toNatClampNeg right, U, V) := by unfold f_M_right; rw [if_neg c_1, if_neg c_2]
      exact zW.iret E hrt hlk G (by rw [hf]) (by rw [hf]) d_M_right_34
    · refine lv_bipush (v := (-2)) hx hb d_M_right_23 (by decide) ?_
      have hf : f_M_right nw n c Z P U V pr right = ((-2), 0, nw, nI n, nI c, Z, P, U, V) := by unfold f_M_right; rw [if_neg c_1, if_pos c_2]
      exact zW.iret E hrt hlk G (by rw [hf]) (by rw [hf]) d_M_right_25
  · refine lv_iconst (v := (-1)) hx hb d_M_right_12 (by decide) ?_
    have hf : f_M_right nw n c Z P U V pr right = ((-1), 0, nw, nI n, nI c, Z, P, U, V) := by unfold f_M_right; rw [if_pos c_1]
    exact zW.iret E hrt hlk G (by rw [hf]) (by rw [hf]) d_M_right_13
def f_M_limit (nw : Int32) (n : Nat) (c : Nat) (Z : Nat → Nat → Int32) (P : Nat → Nat → Int32) (U : Nat → Nat → Int32) (V : Nat → Nat → Int32) (pr : Int32) (many : Int32) (pages : Int32) : Int32 × Int32 × Int32 × Int32 × Int32 × (Nat → Nat → Int32) × (Nat → Nat → Int32) × (Nat → Nat → Int32) × (Nat → Nat → Int32) := (if (f_M_isPerson pr) = 0 then ((-1), 0, nw, nI n, nI c, Z, P, U, V) else (if (f_M_in many 0 9) = 0 then ((-2), 0, nw, nI n, nI c, Z, P, U, V) else (if (f_M_in pages 0 500) = 0 then ((-2), 0, nw, nI n, nI c, Z, P, U, V) else (1, 0, nw, nI n, nI c, Z, up2 (up2 P 1 pr.toNatClampNeg many) 2 pr.toNatClampNeg pages, U, V))))
set_option maxHeartbeats 4000000 in
set_option maxRecDepth 100000 in
theorem c_M_limit (l : Launch) (D : va_G) (cI : ClassId) (a : Nat → Nat) (th : Int32) (nw : Int32) (k : Nat) (n : Nat) (c : Nat) (Z : Nat → Nat → Int32) (P : Nat → Nat → Int32) (U : Nat → Nat → Int32) (V : Nat → Nat → Int32) (pr : Int32) (many : Int32) (pages : Int32) (hk : k ≤ 20) (hn : n ≤ 60) (hc : c ≤ 300) : zW l D [(cI, .int)] y_M_limit b_M_limit 4 (some .int) 2 42 [.ref (a 0), .int pr, .int many, .int pages] (wM a cI th nw (nI k) (nI n) (nI c) Z P U V) (wM a cI ((f_M_limit nw n c Z P U V pr many pages).2.1) ((f_M_limit nw n c Z P U V pr many pages).2.2.1) (nI k) ((f_M_limit nw n c Z P U V pr many pages).2.2.2.1) ((f_M_limit nw n c Z P U V pr many pages).2.2.2.2.1) ((f_M_limit nw n c Z P U V pr many pages).2.2.2.2.2.1) ((f_M_limit nw n c Z P U V pr many pages).2.2.2.2.2.2.1) ((f_M_limit nw n c Z P U V pr many pages).2.2.2.2.2.2.2.1) ((f_M_limit nw n c Z P U V pr many pages).2.2.2.2.2.2.2.2)) (some (.int (f_M_limit nw n c Z P U V pr many pages).1)) := by
  refine zW.of (by decide) (Nat.le_of_ble_eq_true rfl) ?_
  intro p e s m below meth c0 ls A E hrt hlk hN hK hA G hl
  have hx := E.1
  have hb := E.2.1
  have hl : lv_has ls 4 [(0, .ref (a 0)), (1, .int pr), (2, .int many), (3, .int pages)] := hl
  refine lv_aload_n hx hb d_M_limit_0 rfl (lv_at hl 0 rfl) ?_
  refine lv_iconst (v := 0) hx hb d_M_limit_1 (by decide) ?_
  refine z_put (ty := .int) (ws' := wM a cI 0 nw (nI k) (nI n) (nI c) Z P U V) E hK G i_M t_M t_M_ok n_M 0 0 rfl rfl (by decide) kf_M_65 rfl rfl rfl rfl (Nat.le_of_ble_eq_true rfl) rfl d_M_limit_2 (fun H locs G => ?_)
  refine lv_iload_n hx hb d_M_limit_5 rfl (lv_at hl 1 rfl) ?_
  refine z_rs (As := [.int pr]) (rest := []) E hN hK hl.1 (c_M_isPerson l D [(cI, .int)] pr) kz_M_79 rfl ⟨Nat.le_of_ble_eq_true rfl, Nat.le_of_ble_eq_true rfl⟩ rfl (Nat.le_of_ble_eq_true rfl) ⟨Nat.zero_le _, Nat.zero_le _⟩ d_M_limit_6 ?_
  refine lv_if_ne (tgt := 14) hx hb d_M_limit_9 (by decide) (fun c_1 => ?_) (fun c_1 => ?_)
  · refine lv_iload_n hx hb d_M_limit_14 rfl (lv_at hl 2 rfl) ?_
    refine lv_iconst (v := 0) hx hb d_M_limit_15 (by decide) ?_
    refine lv_bipush (v := 9) hx hb d_M_limit_16 (by decide) ?_
    refine z_rs (As := [.int many, .int 0, .int 9]) (rest := []) E hN hK hl.1 (c_M_in l D [(cI, .int)] many 0 9) kz_M_68 rfl ⟨Nat.le_of_ble_eq_true rfl, Nat.le_of_ble_eq_true rfl⟩ rfl (Nat.le_of_ble_eq_true rfl) ⟨Nat.zero_le _, Nat.zero_le _⟩ d_M_limit_18 ?_
    refine lv_if_eq (tgt := 35) hx hb d_M_limit_21 (by decide) (fun c_2 => ?_) (fun c_2 => ?_)
    · refine lv_bipush (v := (-2)) hx hb d_M_limit_35 (by decide) ?_
      have hf : f_M_limit nw n c Z P U V pr many pages = ((-2), 0, nw, nI n, nI c, Z, P, U, V) := by unfold f_M_limit; rw [if_neg c_1, if_pos c_2]
      exact zW.iret E hrt hlk G (by rw [hf]) (by rw [hf]) d_M_limit_37
    · refine lv_iload_n hx hb d_M_limit_24 rfl (lv_at hl 3 rfl) ?_
      refine lv_iconst (v := 0) hx hb d_M_limit_25 (by decide) ?_
      refine lv_sipush (v := 500) hx hb d_M_limit_26 (by decide) ?_
      refine z_rs (As := [.int pages, .int 0, .int 500]) (rest := []) E hN hK hl.1 (c_M_in l D [(cI, .int)] pages 0 500) kz_M_68 rfl ⟨Nat.le_of_ble_eq_true rfl, Nat.le_of_ble_eq_true rfl⟩ rfl (Nat.le_of_ble_eq_true rfl) ⟨Nat.zero_le _, Nat.zero_le _⟩ d_M_limit_29 ?_
      refine lv_if_ne (tgt := 38) hx hb d_M_limit_32 (by decide) (fun c_3 => ?_) (fun c_3 => ?_)
      · refine lv_aload_n hx hb d_M_limit_38 rfl (lv_at hl 0 rfl) ?_
        refine z_get (v := .ref (a 4)) E hK G.1 i_M 0 7 rfl rfl (by decide) kf_M_19 rfl d_M_limit_39 ?_
        refine lv_iload_n hx hb d_M_limit_42 rfl (lv_at hl 1 rfl) ?_
        refine lv_iload_n hx hb d_M_limit_43 rfl (lv_at hl 2 rfl) ?_
        refine z_ast (f := P 1) (ws' := wM a cI 0 nw (nI k) (nI n) (nI c) Z (up2 P 1 pr.toNatClampNeg many) U V) E hK G 4 0 rfl rfl (in_personM c_1) rfl d_M_limit_44 (fun H locs G => ?_)
        refine lv_aload_n hx hb d_M_limit_45 rfl (lv_at hl 0 rfl) ?_
        refine z_get (v := .ref (a 5)) E hK G.1 i_M 0 8 rfl rfl (by decide) kf_M_22 rfl d_M_limit_46 ?_
        refine lv_iload_n hx hb d_M_limit_49 rfl (lv_at hl 1 rfl) ?_
        refine lv_iload_n hx hb d_M_limit_50 rfl (lv_at hl 3 rfl) ?_
        refine z_ast (f := (up2 P 1 pr.toNatClampNeg many) 2) (ws' := wM a cI 0 nw (nI k) (nI n) (nI c) Z (up2 (up2 P 1 pr.toNatClampNeg many) 2 pr.toNatClampNeg pages) U V) E hK G 5 0 rfl rfl (in_personM c_1) rfl d_M_limit_51 (fun H locs G => ?_)
        refine lv_iconst (v := 1) hx hb d_M_limit_52 (by decide) ?_
        have hf : f_M_limit nw n c Z P U V pr many pages = (1, 0, nw, nI n, nI c, Z, up2 (up2 P 1 pr.toNatClampNeg many) 2 pr.toNatClampNeg pages, U, V) := by unfold f_M_limit; rw [if_neg c_1, if_neg c_2, if_neg c_3]
        exact zW.iret E hrt hlk G (by rw [hf]) (by rw [hf]) d_M_limit_53
      · refine lv_bipush (v := (-2)) hx hb d_M_limit_35 (by decide) ?_
        have hf : f_M_limit nw n c Z P U V pr many pages = ((-2), 0, nw, nI n, nI c, Z, P, U, V) := by unfold f_M_limit; rw [if_neg c_1, if_neg c_2, if_pos c_3]
        exact zW.iret E hrt hlk G (by rw [hf]) (by rw [hf]) d_M_limit_37
  · refine lv_iconst (v := (-1)) hx hb d_M_limit_12 (by decide) ?_
    have hf : f_M_limit nw n c Z P U V pr many pages = ((-1), 0, nw, nI n, nI c, Z, P, U, V) := by unfold f_M_limit; rw [if_pos c_1]
    exact zW.iret E hrt hlk G (by rw [hf]) (by rw [hf]) d_M_limit_13
def f_M_ask_L (nw : Int32) (n : Nat) (c : Nat) (Z : Nat → Nat → Int32) (P : Nat → Nat → Int32) (U : Nat → Nat → Int32) (V : Nat → Nat → Int32) (pr : Int32) (u : Int32) (t : Int32) : Nat → Nat → Int32 → Int32 × Int32 × Int32 × Int32 × Int32 × (Nat → Nat → Int32) × (Nat → Nat → Int32) × (Nat → Nat → Int32) × (Nat → Nat → Int32)
  | 0, k0, x4 => (if x4 = 0 then (if (U 2 u.toNatClampNeg) ≤ (P 0 pr.toNatClampNeg) then (if (P 1 pr.toNatClampNeg) ≤ (f_M_living c V pr) then ((-4), 0, nw, nI n, nI c, Z, P, U, V) else (if (nI c) = 300 then ((-4), 0, nw, nI n, nI c, Z, P, U, V) else (((nI c) + 1) - 1, 0, t, nI n, (nI c) + 1, Z, P, U, up2 (up2 (up2 (up2 (up2 (up2 V 0 c pr) 1 c u) 2 c 0) 3 c t) 4 c (-1)) 5 c (-1)))) else ((-5), 0, nw, nI n, nI c, Z, P, U, V)) else ((-3), 0, nw, nI n, nI c, Z, P, U, V))
  | d + 1, k0, x4 => (if x4 = 0 then (if (V 0 k0) = pr then (if (V 1 k0) = u then (if (f_M_lives V (nI k0)) = 0 then (f_M_ask_L nw n c Z P U V pr u t d (k0 + 1) 0) else (f_M_ask_L nw n c Z P U V pr u t d (k0 + 1) 1)) else (f_M_ask_L nw n c Z P U V pr u t d (k0 + 1) 0)) else (f_M_ask_L nw n c Z P U V pr u t d (k0 + 1) 0)) else (f_M_ask_L nw n c Z P U V pr u t d (k0 + 1) 1))
theorem f_M_ask_L_0 (nw : Int32) (n : Nat) (c : Nat) (Z : Nat → Nat → Int32) (P : Nat → Nat → Int32) (U : Nat → Nat → Int32) (V : Nat → Nat → Int32) (pr : Int32) (u : Int32) (t : Int32) (k0 : Nat) (x4 : Int32) : f_M_ask_L nw n c Z P U V pr u t 0 k0 x4 = (if x4 = 0 then (if (U 2 u.toNatClampNeg) ≤ (P 0 pr.toNatClampNeg) then (if (P 1 pr.toNatClampNeg) ≤ (f_M_living c V pr) then ((-4), 0, nw, nI n, nI c, Z, P, U, V) else (if (nI c) = 300 then ((-4), 0, nw, nI n, nI c, Z, P, U, V) else (((nI c) + 1) - 1, 0, t, nI n, (nI c) + 1, Z, P, U, up2 (up2 (up2 (up2 (up2 (up2 V 0 c pr) 1 c u) 2 c 0) 3 c t) 4 c (-1)) 5 c (-1)))) else ((-5), 0, nw, nI n, nI c, Z, P, U, V)) else ((-3), 0, nw, nI n, nI c, Z, P, U, V)) := rfl
theorem f_M_ask_L_s (nw : Int32) (n : Nat) (c : Nat) (Z : Nat → Nat → Int32) (P : Nat → Nat → Int32) (U : Nat → Nat → Int32) (V : Nat → Nat → Int32) (pr : Int32) (u : Int32) (t : Int32) (d k0 : Nat) (x4 : Int32) : f_M_ask_L nw n c Z P U V pr u t (d + 1) k0 x4 = (if x4 = 0 then (if (V 0 k0) = pr then (if (V 1 k0) = u then (if (f_M_lives V (nI k0)) = 0 then (f_M_ask_L nw n c Z P U V pr u t d (k0 + 1) 0) else (f_M_ask_L nw n c Z P U V pr u t d (k0 + 1) 1)) else (f_M_ask_L nw n c Z P U V pr u t d (k0 + 1) 0)) else (f_M_ask_L nw n c Z P U V pr u t d (k0 + 1) 0)) else (f_M_ask_L nw n c Z P U V pr u t d (k0 + 1) 1)) := rfl
def f_M_ask (nw : Int32) (k : Nat) (n : Nat) (c : Nat) (Z : Nat → Nat → Int32) (P : Nat → Nat → Int32) (U : Nat → Nat → Int32) (V : Nat → Nat → Int32) (pr : Int32) (u : Int32) (t : Int32) : Int32 × Int32 × Int32 × Int32 × Int32 × (Nat → Nat → Int32) × (Nat → Nat → Int32) × (Nat → Nat → Int32) × (Nat → Nat → Int32) := (if (f_M_isPerson pr) = 0 then ((-1), 0, nw, nI n, nI c, Z, P, U, V) else (if (f_M_isUnit u) = 0 then ((-1), 0, nw, nI n, nI c, Z, P, U, V) else (if (f_M_isNow nw t) = 0 then ((-2), 0, nw, nI n, nI c, Z, P, U, V) else (if 0 ≤ (f_M_seatOf k Z pr) then (f_M_ask_L nw n c Z P U V pr u t c 0 0) else (f_M_ask_L nw n c Z P U V pr u t c 0 1)))))
set_option maxHeartbeats 4000000 in
set_option maxRecDepth 100000 in
theorem lp_M_ask (l : Launch) (D : va_G) (cI : ClassId) (a : Nat → Nat) (nw : Int32) (k : Nat) (n : Nat) (c : Nat) (Z : Nat → Nat → Int32) (P : Nat → Nat → Int32) (U : Nat → Nat → Int32) (V : Nat → Nat → Int32) (pr : Int32) (u : Int32) (t : Int32) (hk : k ≤ 20) (hn : n ≤ 60) (hc : c ≤ 300) {p : Program} {e : Env} {s : State} {m : MethodId} {below : List Frame} {meth : Method} {c0 : Code} {A : Nat → Prop} (E : CallFix p m c0 b_M_ask 6 s ([.ref (a 0), .int pr, .int u, .int t] : List Value).toArray zB y_M_ask.cls) (hrt : meth.sig.returnType = (some .int)) (hlk : meth.locks = false) (hN : zN s) (hK : va_K D vwCl [(cI, .int)] s) (hA : ∀ q, s.heap.size ≤ q → A q) :
    ∀ (d k0 : Nat) (x4 : Int32), k0 + d = c → (¬ f_M_isPerson pr = 0 ∧ ¬ f_M_isUnit u = 0) → ∀ X : Int32 × Int32 × Int32 × Int32 × Int32 × (Nat → Nat → Int32) × (Nat → Nat → Int32) × (Nat → Nat → Int32) × (Nat → Nat → Int32), f_M_ask_L nw n c Z P U V pr u t d k0 x4 = X → ∀ (H : Heap) (locs : List Loc), zG D A s H locs (wM a cI 0 nw (nI k) (nI n) (nI c) Z P U V) → ∀ ls : Array Slot, lv_has ls 6 [(5, .int (nI k0)), (4, .int x4), (0, .ref (a 0)), (1, .int pr), (2, .int u), (3, .int t)] → W p l e { frames := 2, cells := 0, slots := 0, locals := 44 } s m ([.ref (a 0), .int pr, .int u, .int t] : List Value).toArray below meth c0 H locs 0 0 (MQ below (zQ D A (wM a cI X.2.1 X.2.2.1 (nI k) X.2.2.2.1 X.2.2.2.2.1 X.2.2.2.2.2.1 X.2.2.2.2.2.2.1 X.2.2.2.2.2.2.2.1 X.2.2.2.2.2.2.2.2) (some (.int X.1))) ([.ref (a 0), .int pr, .int u, .int t] : List Value).toArray s 0 0 A) (F0 m 50 ls []) := by
  have hx := E.1
  have hb := E.2.1
  intro d
  induction d with
  | zero =>
    intro k0 x4 hkd hiv X hr H locs G ls hl
    refine lv_iload hx hb d_M_ask_50 (lv_at hl 0 rfl) ?_
    refine lv_aload_n hx hb d_M_ask_52 rfl (lv_at hl 2 rfl) ?_
    refine z_get (v := .int (nI c)) E hK G.1 i_M 0 15 rfl rfl (by decide) kf_M_97 rfl d_M_ask_53 ?_
    refine lv_icmp_ge (tgt := 108) hx hb d_M_ask_56 (by decide) (fun c_1 => ?_) (fun c_1 => absurd (nI_le (by omega) (by omega)) c_1)
    refine lv_iload hx hb d_M_ask_108 (lv_at hl 1 rfl) ?_
    refine lv_if_eq (tgt := 116) hx hb d_M_ask_110 (by decide) (fun c_2 => ?_) (fun c_2 => ?_)
    · refine lv_aload_n hx hb d_M_ask_116 rfl (lv_at hl 2 rfl) ?_
      refine z_get (v := .ref (a 3)) E hK G.1 i_M 0 6 rfl rfl (by decide) kf_M_16 rfl d_M_ask_117 ?_
      refine lv_iload_n hx hb d_M_ask_120 rfl (lv_at hl 3 rfl) ?_
      refine z_ald (f := P 0) E hK G.1 3 0 rfl rfl (in_personM hiv.1) d_M_ask_121 ?_
      refine lv_aload_n hx hb d_M_ask_122 rfl (lv_at hl 2 rfl) ?_
      refine z_get (v := .ref (a 10)) E hK G.1 i_M 0 13 rfl rfl (by decide) kf_M_37 rfl d_M_ask_123 ?_
      refine lv_iload_n hx hb d_M_ask_126 rfl (lv_at hl 4 rfl) ?_
      refine z_ald (f := U 2) E hK G.1 10 0 rfl rfl (in_unitM hiv.2) d_M_ask_127 ?_
      refine lv_icmp_ge (tgt := 134) hx hb d_M_ask_128 (by decide) (fun c_3 => ?_) (fun c_3 => ?_)
      · refine lv_aload_n hx hb d_M_ask_134 rfl (lv_at hl 2 rfl) ?_
        refine lv_iload_n hx hb d_M_ask_135 rfl (lv_at hl 3 rfl) ?_
        refine z_rv (As := [.int pr]) (rest := []) E hN hK G.1 hl.1 (c_M_living l D cI a 0 nw k n c Z P U V pr hk hn hc) [0, 1, 2, 3, 4, 5, 6, 7, 8, 9, 10, 11, 12, 13, 14, 15, 16, 17] rfl 0 rfl rfl kz_M_109 rfl ⟨Nat.le_of_ble_eq_true rfl, Nat.le_of_ble_eq_true rfl⟩ rfl (Nat.le_of_ble_eq_true rfl) ⟨Nat.zero_le _, Nat.zero_le _⟩ d_M_ask_136 ?_
        refine lv_aload_n hx hb d_M_ask_139 rfl (lv_at hl 2 rfl) ?_
        refine z_get (v := .ref (a 4)) E hK G.1 i_M 0 7 rfl rfl (by decide) kf_M_19 rfl d_M_ask_140 ?_
        refine lv_iload_n hx hb d_M_ask_143 rfl (lv_at hl 3 rfl) ?_
        refine z_ald (f := P 1) E hK G.1 4 0 rfl rfl (in_personM hiv.1) d_M_ask_144 ?_
        refine lv_icmp_ge (tgt := 158) hx hb d_M_ask_145 (by decide) (fun c_4 => ?_) (fun c_4 => ?_)
        · refine lv_bipush (v := (-4)) hx hb d_M_ask_158 (by decide) ?_
          have hf : X = ((-4), 0, nw, nI n, nI c, Z, P, U, V) := by rw [← hr, f_M_ask_L_0, if_pos c_2, if_pos c_3, if_pos c_4]
          exact zW.iret E hrt hlk G (by rw [hf]) (by rw [hf]) d_M_ask_160
        · refine lv_aload_n hx hb d_M_ask_148 rfl (lv_at hl 2 rfl) ?_
          refine z_get (v := .int (nI c)) E hK G.1 i_M 0 15 rfl rfl (by decide) kf_M_97 rfl d_M_ask_149 ?_
          refine lv_sipush (v := 300) hx hb d_M_ask_152 (by decide) ?_
          refine lv_icmp_ne (tgt := 161) hx hb d_M_ask_155 (by decide) (fun c_5 => ?_) (fun c_5 => ?_)
          · have h300 : c < 300 := ne300 hc c_5
            refine lv_aload_n hx hb d_M_ask_161 rfl (lv_at hl 2 rfl) ?_
            refine lv_iload_n hx hb d_M_ask_162 rfl (lv_at hl 5 rfl) ?_
            refine z_put (ty := .int) (ws' := wM a cI 0 t (nI k) (nI n) (nI c) Z P U V) E hK G i_M t_M t_M_ok n_M 0 1 rfl rfl (by decide) kf_M_72 rfl rfl rfl rfl (Nat.le_of_ble_eq_true rfl) rfl d_M_ask_163 (fun H locs G => ?_)
            refine lv_aload_n hx hb d_M_ask_166 rfl (lv_at hl 2 rfl) ?_
            refine z_get (v := .ref (a 12)) E hK G.1 i_M 0 16 rfl rfl (by decide) kf_M_43 rfl d_M_ask_167 ?_
            refine lv_aload_n hx hb d_M_ask_170 rfl (lv_at hl 2 rfl) ?_
            refine z_get (v := .int (nI c)) E hK G.1 i_M 0 15 rfl rfl (by decide) kf_M_97 rfl d_M_ask_171 ?_
            refine lv_iload_n hx hb d_M_ask_174 rfl (lv_at hl 3 rfl) ?_
            refine z_astN (f := V 0) (j := c) (ws' := wM a cI 0 t (nI k) (nI n) (nI c) Z P U (up2 V 0 c pr)) E hK G 12 0 rfl rfl rfl (by omega) (by decide) rfl d_M_ask_175 (fun H locs G => ?_)
            refine lv_aload_n hx hb d_M_ask_176 rfl (lv_at hl 2 rfl) ?_
            refine z_get (v := .ref (a 13)) E hK G.1 i_M 0 17 rfl rfl (by decide) kf_M_46 rfl d_M_ask_177 ?_
            refine lv_aload_n hx hb d_M_ask_180 rfl (lv_at hl 2 rfl) ?_
            refine z_get (v := .int (nI c)) E hK G.1 i_M 0 15 rfl rfl (by decide) kf_M_97 rfl d_M_ask_181 ?_
            refine lv_iload_n hx hb d_M_ask_184 rfl (lv_at hl 4 rfl) ?_
            refine z_astN (f := (up2 V 0 c pr) 1) (j := c) (ws' := wM a cI 0 t (nI k) (nI n) (nI c) Z P U (up2 (up2 V 0 c pr) 1 c u)) E hK G 13 0 rfl rfl rfl (by omega) (by decide) rfl d_M_ask_185 (fun H locs G => ?_)
            refine lv_aload_n hx hb d_M_ask_186 rfl (lv_at hl 2 rfl) ?_
            refine z_get (v := .ref (a 14)) E hK G.1 i_M 0 18 rfl rfl (by decide) kf_M_49 rfl d_M_ask_187 ?_
            refine lv_aload_n hx hb d_M_ask_190 rfl (lv_at hl 2 rfl) ?_
            refine z_get (v := .int (nI c)) E hK G.1 i_M 0 15 rfl rfl (by decide) kf_M_97 rfl d_M_ask_191 ?_
            refine lv_iconst (v := 0) hx hb d_M_ask_194 (by decide) ?_
            refine z_astN (f := (up2 (up2 V 0 c pr) 1 c u) 2) (j := c) (ws' := wM a cI 0 t (nI k) (nI n) (nI c) Z P U (up2 (up2 (up2 V 0 c pr) 1 c u) 2 c 0)) E hK G 14 0 rfl rfl rfl (by omega) (by decide) rfl d_M_ask_195 (fun H locs G => ?_)
            refine lv_aload_n hx hb d_M_ask_196 rfl (lv_at hl 2 rfl) ?_
            refine z_get (v := .ref (a 15)) E hK G.1 i_M 0 19 rfl rfl (by decide) kf_M_52 rfl d_M_ask_197 ?_
            refine lv_aload_n hx hb d_M_ask_200 rfl (lv_at hl 2 rfl) ?_
            refine z_get (v := .int (nI c)) E hK G.1 i_M 0 15 rfl rfl (by decide) kf_M_97 rfl d_M_ask_201 ?_
            refine lv_iload_n hx hb d_M_ask_204 rfl (lv_at hl 5 rfl) ?_
            refine z_astN (f := (up2 (up2 (up2 V 0 c pr) 1 c u) 2 c 0) 3) (j := c) (ws' := wM a cI 0 t (nI k) (nI n) (nI c) Z P U (up2 (up2 (up2 (up2 V 0 c pr) 1 c u) 2 c 0) 3 c t)) E hK G 15 0 rfl rfl rfl (by omega) (by decide) rfl d_M_ask_205 (fun H locs G => ?_)
            refine lv_aload_n hx hb d_M_ask_206 rfl (lv_at hl 2 rfl) ?_
            refine z_get (v := .ref (a 16)) E hK G.1 i_M 0 20 rfl rfl (by decide) kf_M_55 rfl d_M_ask_207 ?_
            refine lv_aload_n hx hb d_M_ask_210 rfl (lv_at hl 2 rfl) ?_
            refine z_get (v := .int (nI c)) E hK G.1 i_M 0 15 rfl rfl (by decide) kf_M_97 rfl d_M_ask_211 ?_
            refine lv_iconst (v := (-1)) hx hb d_M_ask_214 (by decide) ?_
            refine z_astN (f := (up2 (up2 (up2 (up2 V 0 c pr) 1 c u) 2 c 0) 3 c t) 4) (j := c) (ws' := wM a cI 0 t (nI k) (nI n) (nI c) Z P U (up2 (up2 (up2 (up2 (up2 V 0 c pr) 1 c u) 2 c 0) 3 c t) 4 c (-1))) E hK G 16 0 rfl rfl rfl (by omega) (by decide) rfl d_M_ask_215 (fun H locs G => ?_)
            refine lv_aload_n hx hb d_M_ask_216 rfl (lv_at hl 2 rfl) ?_
            refine z_get (v := .ref (a 17)) E hK G.1 i_M 0 21 rfl rfl (by decide) kf_M_58 rfl d_M_ask_217 ?_
            refine lv_aload_n hx hb d_M_ask_220 rfl (lv_at hl 2 rfl) ?_
            refine z_get (v := .int (nI c)) E hK G.1 i_M 0 15 rfl rfl (by decide) kf_M_97 rfl d_M_ask_221 ?_
            refine lv_iconst (v := (-1)) hx hb d_M_ask_224 (by decide) ?_
            refine z_astN (f := (up2 (up2 (up2 (up2 (up2 V 0 c pr) 1 c u) 2 c 0) 3 c t) 4 c (-1)) 5) (j := c) (ws' := wM a cI 0 t (nI k) (nI n) (nI c) Z P U (up2 (up2 (up2 (up2 (up2 (up2 V 0 c pr) 1 c u) 2 c 0) 3 c t) 4 c (-1)) 5 c (-1))) E hK G 17 0 rfl rfl rfl (by omega) (by decide) rfl d_M_ask_225 (fun H locs G => ?_)
            refine lv_aload_n hx hb d_M_ask_226 rfl (lv_at hl 2 rfl) ?_
            refine lv_dup hx hb d_M_ask_227 rfl ?_
            refine z_get (v := .int (nI c)) E hK G.1 i_M 0 15 rfl rfl (by decide) kf_M_97 rfl d_M_ask_228 ?_
            refine lv_iconst (v := 1) hx hb d_M_ask_231 (by decide) ?_
            refine lv_iadd hx hb d_M_ask_232 ?_
            refine z_put (ty := .int) (ws' := wM a cI 0 t (nI k) (nI n) ((nI c) + 1) Z P U (up2 (up2 (up2 (up2 (up2 (up2 V 0 c pr) 1 c u) 2 c 0) 3 c t) 4 c (-1)) 5 c (-1))) E hK G i_M t_M t_M_ok n_M 0 15 rfl rfl (by decide) kf_M_97 rfl rfl rfl rfl (Nat.le_of_ble_eq_true rfl) rfl d_M_ask_233 (fun H locs G => ?_)
            refine lv_aload_n hx hb d_M_ask_236 rfl (lv_at hl 2 rfl) ?_
            refine z_get (v := .int ((nI c) + 1)) E hK G.1 i_M 0 15 rfl rfl (by decide) kf_M_97 rfl d_M_ask_237 ?_
            refine lv_iconst (v := 1) hx hb d_M_ask_240 (by decide) ?_
            refine lv_isub hx hb d_M_ask_241 ?_
            have hf : X = (((nI c) + 1) - 1, 0, t, nI n, (nI c) + 1, Z, P, U, up2 (up2 (up2 (up2 (up2 (up2 V 0 c pr) 1 c u) 2 c 0) 3 c t) 4 c (-1)) 5 c (-1)) := by rw [← hr, f_M_ask_L_0, if_pos c_2, if_pos c_3, if_neg c_4, if_neg c_5]
            exact zW.iret E hrt hlk G (by rw [hf]) (by rw [hf]) d_M_ask_242
          · refine lv_bipush (v := (-4)) hx hb d_M_ask_158 (by decide) ?_
            have hf : X = ((-4), 0, nw, nI n, nI c, Z, P, U, V) := by rw [← hr, f_M_ask_L_0, if_pos c_2, if_pos c_3, if_neg c_4, if_pos c_5]
            exact zW.iret E hrt hlk G (by rw [hf]) (by rw [hf]) d_M_ask_160
      · refine lv_bipush (v := (-5)) hx hb d_M_ask_131 (by decide) ?_
        have hf : X = ((-5), 0, nw, nI n, nI c, Z, P, U, V) := by rw [← hr, f_M_ask_L_0, if_pos c_2, if_neg c_3]
        exact zW.iret E hrt hlk G (by rw [hf]) (by rw [hf]) d_M_ask_133
    · refine lv_bipush (v := (-3)) hx hb d_M_ask_113 (by decide) ?_
      have hf : X = ((-3), 0, nw, nI n, nI c, Z, P, U, V) := by rw [← hr, f_M_ask_L_0, if_neg c_2]
      exact zW.iret E hrt hlk G (by rw [hf]) (by rw [hf]) d_M_ask_115
  | succ d ih =>
    intro k0 x4 hkd hiv X hr H locs G ls hl
    refine lv_iload hx hb d_M_ask_50 (lv_at hl 0 rfl) ?_
    refine lv_aload_n hx hb d_M_ask_52 rfl (lv_at hl 2 rfl) ?_
    refine z_get (v := .int (nI c)) E hK G.1 i_M 0 15 rfl rfl (by decide) kf_M_97 rfl d_M_ask_53 ?_
    refine lv_icmp_ge (tgt := 108) hx hb d_M_ask_56 (by decide) (fun c_6 => absurd c_6 (nI_ge (by omega) (by omega))) (fun c_6 => ?_)
    refine lv_iload hx hb d_M_ask_59 (lv_at hl 1 rfl) ?_
    refine lv_if_ne (tgt := 95) hx hb d_M_ask_61 (by decide) (fun c_7 => ?_) (fun c_7 => ?_)
    · refine lv_iconst (v := 1) hx hb d_M_ask_95 (by decide) ?_
      refine lv_goto (tgt := 100) hx hb d_M_ask_96 (by decide) ?_
      refine lv_istore (lv' := [(4, .int 1), (5, .int (nI k0)), (0, .ref (a 0)), (1, .int pr), (2, .int u), (3, .int t)]) hx hb d_M_ask_100 hl (by decide) rfl (fun ls hl => ?_)
      refine lv_iinc (v := nI (k0 + 1)) (lv' := [(5, .int (nI (k0 + 1))), (4, .int 1), (0, .ref (a 0)), (1, .int pr), (2, .int u), (3, .int t)]) hx hb d_M_ask_102 hl (k := 1) rfl (nI_1 _) (by decide) rfl (fun ls hl => ?_)
      refine lv_goto (tgt := 50) hx hb d_M_ask_105 (by decide) ?_
      exact ih (k0 + 1) 1 (by omega) hiv X (by rw [← hr, f_M_ask_L_s, if_neg c_7]) H locs G ls (lv_sub hl [0, 1, 2, 3, 4, 5] rfl)
    · refine lv_aload_n hx hb d_M_ask_64 rfl (lv_at hl 2 rfl) ?_
      refine z_get (v := .ref (a 12)) E hK G.1 i_M 0 16 rfl rfl (by decide) kf_M_43 rfl d_M_ask_65 ?_
      refine lv_iload hx hb d_M_ask_68 (lv_at hl 0 rfl) ?_
      refine z_aldN (f := V 0) (j := k0) E hK G.1 12 0 rfl rfl rfl (by omega) (by decide) d_M_ask_70 ?_
      refine lv_iload_n hx hb d_M_ask_71 rfl (lv_at hl 3 rfl) ?_
      refine lv_icmp_ne (tgt := 99) hx hb d_M_ask_72 (by decide) (fun c_8 => ?_) (fun c_8 => ?_)
      · refine lv_iconst (v := 0) hx hb d_M_ask_99 (by decide) ?_
        refine lv_istore (lv' := [(4, .int 0), (5, .int (nI k0)), (0, .ref (a 0)), (1, .int pr), (2, .int u), (3, .int t)]) hx hb d_M_ask_100 hl (by decide) rfl (fun ls hl => ?_)
        refine lv_iinc (v := nI (k0 + 1)) (lv' := [(5, .int (nI (k0 + 1))), (4, .int 0), (0, .ref (a 0)), (1, .int pr), (2, .int u), (3, .int t)]) hx hb d_M_ask_102 hl (k := 1) rfl (nI_1 _) (by decide) rfl (fun ls hl => ?_)
        refine lv_goto (tgt := 50) hx hb d_M_ask_105 (by decide) ?_
        exact ih (k0 + 1) 0 (by omega) hiv X (by rw [← hr, f_M_ask_L_s, if_pos c_7, if_neg c_8]) H locs G ls (lv_sub hl [0, 1, 2, 3, 4, 5] rfl)
      · refine lv_aload_n hx hb d_M_ask_75 rfl (lv_at hl 2 rfl) ?_
        refine z_get (v := .ref (a 13)) E hK G.1 i_M 0 17 rfl rfl (by decide) kf_M_46 rfl d_M_ask_76 ?_
        refine lv_iload hx hb d_M_ask_79 (lv_at hl 0 rfl) ?_
        refine z_aldN (f := V 1) (j := k0) E hK G.1 13 0 rfl rfl rfl (by omega) (by decide) d_M_ask_81 ?_
        refine lv_iload_n hx hb d_M_ask_82 rfl (lv_at hl 4 rfl) ?_
        refine lv_icmp_ne (tgt := 99) hx hb d_M_ask_83 (by decide) (fun c_9 => ?_) (fun c_9 => ?_)
        · refine lv_iconst (v := 0) hx hb d_M_ask_99 (by decide) ?_
          refine lv_istore (lv' := [(4, .int 0), (5, .int (nI k0)), (0, .ref (a 0)), (1, .int pr), (2, .int u), (3, .int t)]) hx hb d_M_ask_100 hl (by decide) rfl (fun ls hl => ?_)
          refine lv_iinc (v := nI (k0 + 1)) (lv' := [(5, .int (nI (k0 + 1))), (4, .int 0), (0, .ref (a 0)), (1, .int pr), (2, .int u), (3, .int t)]) hx hb d_M_ask_102 hl (k := 1) rfl (nI_1 _) (by decide) rfl (fun ls hl => ?_)
          refine lv_goto (tgt := 50) hx hb d_M_ask_105 (by decide) ?_
          exact ih (k0 + 1) 0 (by omega) hiv X (by rw [← hr, f_M_ask_L_s, if_pos c_7, if_pos c_8, if_neg c_9]) H locs G ls (lv_sub hl [0, 1, 2, 3, 4, 5] rfl)
        · refine lv_aload_n hx hb d_M_ask_86 rfl (lv_at hl 2 rfl) ?_
          refine lv_iload hx hb d_M_ask_87 (lv_at hl 0 rfl) ?_
          refine z_rv (As := [.int (nI k0)]) (rest := []) E hN hK G.1 hl.1 (c_M_lives l D cI a 0 nw k n c Z P U V (nI k0) hk hn hc (vp_in_nI (by omega) (by decide))) [0, 1, 2, 3, 4, 5, 6, 7, 8, 9, 10, 11, 12, 13, 14, 15, 16, 17] rfl 0 rfl rfl kz_M_100 rfl ⟨Nat.le_of_ble_eq_true rfl, Nat.le_of_ble_eq_true rfl⟩ rfl (Nat.le_of_ble_eq_true rfl) ⟨Nat.zero_le _, Nat.zero_le _⟩ d_M_ask_89 ?_
          refine lv_if_eq (tgt := 99) hx hb d_M_ask_92 (by decide) (fun c_10 => ?_) (fun c_10 => ?_)
          · refine lv_iconst (v := 0) hx hb d_M_ask_99 (by decide) ?_
            refine lv_istore (lv' := [(4, .int 0), (5, .int (nI k0)), (0, .ref (a 0)), (1, .int pr), (2, .int u), (3, .int t)]) hx hb d_M_ask_100 hl (by decide) rfl (fun ls hl => ?_)
            refine lv_iinc (v := nI (k0 + 1)) (lv' := [(5, .int (nI (k0 + 1))), (4, .int 0), (0, .ref (a 0)), (1, .int pr), (2, .int u), (3, .int t)]) hx hb d_M_ask_102 hl (k := 1) rfl (nI_1 _) (by decide) rfl (fun ls hl => ?_)
            refine lv_goto (tgt := 50) hx hb d_M_ask_105 (by decide) ?_
            exact ih (k0 + 1) 0 (by omega) hiv X (by rw [← hr, f_M_ask_L_s, if_pos c_7, if_pos c_8, if_pos c_9, if_pos c_10]) H locs G ls (lv_sub hl [0, 1, 2, 3, 4, 5] rfl)
          · refine lv_iconst (v := 1) hx hb d_M_ask_95 (by decide) ?_
            refine lv_goto (tgt := 100) hx hb d_M_ask_96 (by decide) ?_
            refine lv_istore (lv' := [(4, .int 1), (5, .int (nI k0)), (0, .ref (a 0)), (1, .int pr), (2, .int u), (3, .int t)]) hx hb d_M_ask_100 hl (by decide) rfl (fun ls hl => ?_)
            refine lv_iinc (v := nI (k0 + 1)) (lv' := [(5, .int (nI (k0 + 1))), (4, .int 1), (0, .ref (a 0)), (1, .int pr), (2, .int u), (3, .int t)]) hx hb d_M_ask_102 hl (k := 1) rfl (nI_1 _) (by decide) rfl (fun ls hl => ?_)
            refine lv_goto (tgt := 50) hx hb d_M_ask_105 (by decide) ?_
            exact ih (k0 + 1) 1 (by omega) hiv X (by rw [← hr, f_M_ask_L_s, if_pos c_7, if_pos c_8, if_pos c_9, if_neg c_10]) H locs G ls (lv_sub hl [0, 1, 2, 3, 4, 5] rfl)
set_option maxHeartbeats 4000000 in
set_option maxRecDepth 100000 in
theorem c_M_ask (l : Launch) (D : va_G) (cI : ClassId) (a : Nat → Nat) (th : Int32) (nw : Int32) (k : Nat) (n : Nat) (c : Nat) (Z : Nat → Nat → Int32) (P : Nat → Nat → Int32) (U : Nat → Nat → Int32) (V : Nat → Nat → Int32) (pr : Int32) (u : Int32) (t : Int32) (hk : k ≤ 20) (hn : n ≤ 60) (hc : c ≤ 300) : zW l D [(cI, .int)] y_M_ask b_M_ask 6 (some .int) 2 44 [.ref (a 0), .int pr, .int u, .int t] (wM a cI th nw (nI k) (nI n) (nI c) Z P U V) (wM a cI ((f_M_ask nw k n c Z P U V pr u t).2.1) ((f_M_ask nw k n c Z P U V pr u t).2.2.1) (nI k) ((f_M_ask nw k n c Z P U V pr u t).2.2.2.1) ((f_M_ask nw k n c Z P U V pr u t).2.2.2.2.1) ((f_M_ask nw k n c Z P U V pr u t).2.2.2.2.2.1) ((f_M_ask nw k n c Z P U V pr u t).2.2.2.2.2.2.1) ((f_M_ask nw k n c Z P U V pr u t).2.2.2.2.2.2.2.1) ((f_M_ask nw k n c Z P U V pr u t).2.2.2.2.2.2.2.2)) (some (.int (f_M_ask nw k n c Z P U V pr u t).1)) := by
  refine zW.of (by decide) (Nat.le_of_ble_eq_true rfl) ?_
  intro p e s m below meth c0 ls A E hrt hlk hN hK hA G hl
  have hx := E.1
  have hb := E.2.1
  have hl : lv_has ls 6 [(0, .ref (a 0)), (1, .int pr), (2, .int u), (3, .int t)] := hl
  refine lv_aload_n hx hb d_M_ask_0 rfl (lv_at hl 0 rfl) ?_
  refine lv_iconst (v := 0) hx hb d_M_ask_1 (by decide) ?_
  refine z_put (ty := .int) (ws' := wM a cI 0 nw (nI k) (nI n) (nI c) Z P U V) E hK G i_M t_M t_M_ok n_M 0 0 rfl rfl (by decide) kf_M_65 rfl rfl rfl rfl (Nat.le_of_ble_eq_true rfl) rfl d_M_ask_2 (fun H locs G => ?_)
  refine lv_iload_n hx hb d_M_ask_5 rfl (lv_at hl 1 rfl) ?_
  refine z_rs (As := [.int pr]) (rest := []) E hN hK hl.1 (c_M_isPerson l D [(cI, .int)] pr) kz_M_79 rfl ⟨Nat.le_of_ble_eq_true rfl, Nat.le_of_ble_eq_true rfl⟩ rfl (Nat.le_of_ble_eq_true rfl) ⟨Nat.zero_le _, Nat.zero_le _⟩ d_M_ask_6 ?_
  refine lv_if_eq (tgt := 19) hx hb d_M_ask_9 (by decide) (fun c_1 => ?_) (fun c_1 => ?_)
  · refine lv_iconst (v := (-1)) hx hb d_M_ask_19 (by decide) ?_
    have hf : f_M_ask nw k n c Z P U V pr u t = ((-1), 0, nw, nI n, nI c, Z, P, U, V) := by unfold f_M_ask; rw [if_pos c_1]
    exact zW.iret E hrt hlk G (by rw [hf]) (by rw [hf]) d_M_ask_20
  · refine lv_iload_n hx hb d_M_ask_12 rfl (lv_at hl 2 rfl) ?_
    refine z_rs (As := [.int u]) (rest := []) E hN hK hl.1 (c_M_isUnit l D [(cI, .int)] u) kz_M_103 rfl ⟨Nat.le_of_ble_eq_true rfl, Nat.le_of_ble_eq_true rfl⟩ rfl (Nat.le_of_ble_eq_true rfl) ⟨Nat.zero_le _, Nat.zero_le _⟩ d_M_ask_13 ?_
    refine lv_if_ne (tgt := 21) hx hb d_M_ask_16 (by decide) (fun c_2 => ?_) (fun c_2 => ?_)
    · refine lv_aload_n hx hb d_M_ask_21 rfl (lv_at hl 0 rfl) ?_
      refine lv_iload_n hx hb d_M_ask_22 rfl (lv_at hl 3 rfl) ?_
      refine z_rv (As := [.int t]) (rest := []) E hN hK G.1 hl.1 (c_M_isNow l D cI a 0 nw k n c Z P U V t hk hn hc) [0, 1, 2, 3, 4, 5, 6, 7, 8, 9, 10, 11, 12, 13, 14, 15, 16, 17] rfl 0 rfl rfl kz_M_106 rfl ⟨Nat.le_of_ble_eq_true rfl, Nat.le_of_ble_eq_true rfl⟩ rfl (Nat.le_of_ble_eq_true rfl) ⟨Nat.zero_le _, Nat.zero_le _⟩ d_M_ask_23 ?_
      refine lv_if_ne (tgt := 32) hx hb d_M_ask_26 (by decide) (fun c_3 => ?_) (fun c_3 => ?_)
      · refine lv_aload_n hx hb d_M_ask_32 rfl (lv_at hl 0 rfl) ?_
        refine lv_iload_n hx hb d_M_ask_33 rfl (lv_at hl 1 rfl) ?_
        refine z_rv (As := [.int pr]) (rest := []) E hN hK G.1 hl.1 (c_M_seatOf l D cI a 0 nw k n c Z P U V pr hk hn hc) [0, 1, 2, 3, 4, 5, 6, 7, 8, 9, 10, 11, 12, 13, 14, 15, 16, 17] rfl 0 rfl rfl kz_M_83 rfl ⟨Nat.le_of_ble_eq_true rfl, Nat.le_of_ble_eq_true rfl⟩ rfl (Nat.le_of_ble_eq_true rfl) ⟨Nat.zero_le _, Nat.zero_le _⟩ d_M_ask_34 ?_
        refine lv_if_ge (tgt := 44) hx hb d_M_ask_37 (by decide) (fun c_4 => ?_) (fun c_4 => ?_)
        · refine lv_iconst (v := 0) hx hb d_M_ask_44 (by decide) ?_
          refine lv_istore (lv' := [(4, .int 0), (0, .ref (a 0)), (1, .int pr), (2, .int u), (3, .int t)]) hx hb d_M_ask_45 hl (by decide) rfl (fun ls hl => ?_)
          refine lv_iconst (v := 0) hx hb d_M_ask_47 (by decide) ?_
          refine lv_istore (lv' := [(5, .int 0), (4, .int 0), (0, .ref (a 0)), (1, .int pr), (2, .int u), (3, .int t)]) hx hb d_M_ask_48 hl (by decide) rfl (fun ls hl => ?_)
          exact lp_M_ask l D cI a nw k n c Z P U V pr u t hk hn hc E hrt hlk hN hK hA c 0 0 (by omega) ⟨c_1, c_2⟩ _ (by unfold f_M_ask; rw [if_neg c_1, if_neg c_2, if_neg c_3, if_pos c_4]) _ _ G ls (by rw [nI_0]; exact lv_sub hl [0, 1, 2, 3, 4, 5] rfl)
        · refine lv_iconst (v := 1) hx hb d_M_ask_40 (by decide) ?_
          refine lv_goto (tgt := 45) hx hb d_M_ask_41 (by decide) ?_
          refine lv_istore (lv' := [(4, .int 1), (0, .ref (a 0)), (1, .int pr), (2, .int u), (3, .int t)]) hx hb d_M_ask_45 hl (by decide) rfl (fun ls hl => ?_)
          refine lv_iconst (v := 0) hx hb d_M_ask_47 (by decide) ?_
          refine lv_istore (lv' := [(5, .int 0), (4, .int 1), (0, .ref (a 0)), (1, .int pr), (2, .int u), (3, .int t)]) hx hb d_M_ask_48 hl (by decide) rfl (fun ls hl => ?_)
          exact lp_M_ask l D cI a nw k n c Z P U V pr u t hk hn hc E hrt hlk hN hK hA c 0 1 (by omega) ⟨c_1, c_2⟩ _ (by unfold f_M_ask; rw [if_neg c_1, if_neg c_2, if_neg c_3, if_neg c_4]) _ _ G ls (by rw [nI_0]; exact lv_sub hl [0, 1, 2, 3, 4, 5] rfl)
      · refine lv_bipush (v := (-2)) hx hb d_M_ask_29 (by decide) ?_
        have hf : f_M_ask nw k n c Z P U V pr u t = ((-2), 0, nw, nI n, nI c, Z, P, U, V) := by unfold f_M_ask; rw [if_neg c_1, if_neg c_2, if_pos c_3]
        exact zW.iret E hrt hlk G (by rw [hf]) (by rw [hf]) d_M_ask_31
    · refine lv_iconst (v := (-1)) hx hb d_M_ask_19 (by decide) ?_
      have hf : f_M_ask nw k n c Z P U V pr u t = ((-1), 0, nw, nI n, nI c, Z, P, U, V) := by unfold f_M_ask; rw [if_neg c_1, if_pos c_2]
      exact zW.iret E hrt hlk G (by rw [hf]) (by rw [hf]) d_M_ask_20
