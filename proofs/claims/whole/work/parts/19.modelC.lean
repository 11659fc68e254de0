def f_M_fetchFor (U : Nat → Nat → Int32) (V : Nat → Nat → Int32) (u : Int32) (i : Int32) : Int32 × (Nat → Nat → Int32) × (Nat → Nat → Int32) := (i, up2 (up2 U 0 u.toNatClampNeg 1) 3 u.toNatClampNeg i, up2 V 2 i.toNatClampNeg 1)
set_option maxHeartbeats 4000000 in
set_option maxRecDepth 100000 in
theorem c_M_fetchFor (l : Launch) (D : va_G) (cI : ClassId) (a : Nat → Nat) (th : Int32) (nw : Int32) (k : Nat) (n : Nat) (c : Nat) (Z : Nat → Nat → Int32) (P : Nat → Nat → Int32) (U : Nat → Nat → Int32) (V : Nat → Nat → Int32) (u : Int32) (i : Int32) (hk : k ≤ 20) (hn : n ≤ 60) (hc : c ≤ 300) (hu : vp_in u 80) (hi : vp_in i 300) : zW l D [(cI, .int)] y_M_fetchFor b_M_fetchFor 3 (some .int) 0 0 [.ref (a 0), .int u, .int i] (wM a cI th nw (nI k) (nI n) (nI c) Z P U V) (wM a cI th nw (nI k) (nI n) (nI c) Z P ((f_M_fetchFor U V u i).2.1) ((f_M_fetchFor U V u i).2.2)) (some (.int (f_M_fetchFor U V u i).1)) := by
  refine zW.of (by decide) (Nat.le_of_ble_eq_true rfl) ?_
  intro p e s m below meth c0 ls A E hrt hlk hN hK hA G hl
  have hx := E.1
  have hb := E.2.1
  have hl : lv_has ls 3 [(0, .ref (a 0)), (1, .int u), (2, .int i)] := hl
  refine lv_aload_n hx hb d_M_fetchFor_0 rfl (lv_at hl 0 rfl) ?_
  refine z_get (v := .ref (a 8)) E hK G.1 i_M 0 11 rfl rfl (by decide) kf_M_31 rfl d_M_fetchFor_1 ?_
  refine lv_iload_n hx hb d_M_fetchFor_4 rfl (lv_at hl 1 rfl) ?_
  refine lv_iconst (v := 1) hx hb d_M_fetchFor_5 (by decide) ?_
  refine z_ast (f := U 0) (ws' := wM a cI th nw (nI k) (nI n) (nI c) Z P (up2 U 0 u.toNatClampNeg 1) V) E hK G 8 0 rfl rfl hu rfl d_M_fetchFor_6 (fun H locs G => ?_)
  refine lv_aload_n hx hb d_M_fetchFor_7 rfl (lv_at hl 0 rfl) ?_
  refine z_get (v := .ref (a 11)) E hK G.1 i_M 0 14 rfl rfl (by decide) kf_M_40 rfl d_M_fetchFor_8 ?_
  refine lv_iload_n hx hb d_M_fetchFor_11 rfl (lv_at hl 1 rfl) ?_
  refine lv_iload_n hx hb d_M_fetchFor_12 rfl (lv_at hl 2 rfl) ?_
  refine z_ast (f := (up2 U 0 u.toNatClampNeg 1) 3) (ws' := wM a cI th nw (nI k) (nI n) (nI c) Z P (up2 (up2 U 0 u.toNatClampNeg 1) 3 u.toNatClampNeg i) V) E hK G 11 0 rfl rfl hu rfl d_M_fetchFor_13 (fun H locs G => ?_)
  refine lv_aload_n hx hb d_M_fetchFor_14 rfl (lv_at hl 0 rfl) ?_
  refine z_get (v := .ref (a 14)) E hK G.1 i_M 0 18 rfl rfl (by decide) kf_M_49 rfl d_M_fetchFor_15 ?_
  refine lv_iload_n hx hb d_M_fetchFor_18 rfl (lv_at hl 2 rfl) ?_
  refine lv_iconst (v := 1) hx hb d_M_fetchFor_19 (by decide) ?_
  refine z_ast (f := V 2) (ws' := wM a cI th nw (nI k) (nI n) (nI c) Z P (up2 (up2 U 0 u.toNatClampNeg 1) 3 u.toNatClampNeg i) (up2 V 2 i.toNatClampNeg 1)) E hK G 14 0 rfl rfl hi rfl d_M_fetchFor_20 (fun H locs G => ?_)
  refine lv_iload_n hx hb d_M_fetchFor_21 rfl (lv_at hl 2 rfl) ?_
  have hf : f_M_fetchFor U V u i = (i, up2 (up2 U 0 u.toNatClampNeg 1) 3 u.toNatClampNeg i, up2 V 2 i.toNatClampNeg 1) := by rfl
  exact zW.iret E hrt hlk G (by rw [hf]) (by rw [hf]) d_M_fetchFor_22
def f_M_fetch (nw : Int32) (n : Nat) (c : Nat) (Z : Nat → Nat → Int32) (P : Nat → Nat → Int32) (U : Nat → Nat → Int32) (V : Nat → Nat → Int32) (u : Int32) (t : Int32) : Int32 × Int32 × Int32 × Int32 × Int32 × (Nat → Nat → Int32) × (Nat → Nat → Int32) × (Nat → Nat → Int32) × (Nat → Nat → Int32) := (if (f_M_isUnit u) = 0 then ((-1), 0, nw, nI n, nI c, Z, P, U, V) else (if (f_M_isNow nw t) = 0 then ((-2), 0, nw, nI n, nI c, Z, P, U, V) else (if (U 0 u.toNatClampNeg) = 0 then (if (f_M_ahead c V u) < 0 then ((-3), 0, nw, nI n, nI c, Z, P, U, V) else (if (U 1 u.toNatClampNeg) = 3 then ((-3), 0, nw, nI n, nI c, Z, P, U, V) else ((f_M_fetchFor U V u (f_M_ahead c V u)).1, 0, t, nI n, nI c, Z, P, (f_M_fetchFor U V u (f_M_ahead c V u)).2.1, (f_M_fetchFor U V u (f_M_ahead c V u)).2.2))) else ((-3), 0, nw, nI n, nI c, Z, P, U, V))))
set_option maxHeartbeats 4000000 in
set_option maxRecDepth 100000 in
theorem c_M_fetch (l : Launch) (D : va_G) (cI : ClassId) (a : Nat → Nat) (th : Int32) (nw : Int32) (k : Nat) (n : Nat) (c : Nat) (Z : Nat → Nat → Int32) (P : Nat → Nat → Int32) (U : Nat → Nat → Int32) (V : Nat → Nat → Int32) (u : Int32) (t : Int32) (hk : k ≤ 20) (hn : n ≤ 60) (hc : c ≤ 300) : zW l D [(cI, .int)] y_M_fetch b_M_fetch 3 (some .int) 2 43 [.ref (a 0), .int u, .int t] (wM a cI th nw (nI k) (nI n) (nI c) Z P U V) (wM a cI ((f_M_fetch nw n c Z P U V u t).2.1) ((f_M_fetch nw n c Z P U V u t).2.2.1) (nI k) ((f_M_fetch nw n c Z P U V u t).2.2.2.1) ((f_M_fetch nw n c Z P U V u t).2.2.2.2.1) ((f_M_fetch nw n c Z P U V u t).2.2.2.2.2.1) ((f_M_fetch nw n c Z P U V u t).2.2.2.2.2.2.1) ((f_M_fetch nw n c Z P U V u t).2.2.2.2.2.2.2.1) ((f_M_fetch nw n c Z P U V u t).2.2.2.2.2.2.2.2)) (some (.int (f_M_fetch nw n c Z P U V u t).1)) := by
  refine zW.of (by decide) (Nat.le_of_ble_eq_true rfl) ?_
  intro p e s m below meth c0 ls A E hrt hlk hN hK hA G hl
  have hx := E.1
  have hb := E.2.1
  have hl : lv_has ls 3 [(0, .ref (a 0)), (1, .int u), (2, .int t)] := hl
  refine lv_aload_n hx hb d_M_fetch_0 rfl (lv_at hl 0 rfl) ?_
  refine lv_iconst (v := 0) hx hb d_M_fetch_1 (by decide) ?_
  refine z_put (ty := .int) (ws' := wM a cI 0 nw (nI k) (nI n) (nI c) Z P U V) E hK G i_M t_M t_M_ok n_M 0 0 rfl rfl (by decide) kf_M_65 rfl rfl rfl rfl (Nat.le_of_ble_eq_true rfl) rfl d_M_fetch_2 (fun H locs G => ?_)
  refine lv_iload_n hx hb d_M_fetch_5 rfl (lv_at hl 1 rfl) ?_
  refine z_rs (As := [.int u]) (rest := []) E hN hK hl.1 (c_M_isUnit l D [(cI, .int)] u) kz_M_103 rfl ⟨Nat.le_of_ble_eq_true rfl, Nat.le_of_ble_eq_true rfl⟩ rfl (Nat.le_of_ble_eq_true rfl) ⟨Nat.zero_le _, Nat.zero_le _⟩ d_M_fetch_6 ?_
  refine lv_if_ne (tgt := 14) hx hb d_M_fetch_9 (by decide) (fun c_1 => ?_) (fun c_1 => ?_)
  · refine lv_aload_n hx hb d_M_fetch_14 rfl (lv_at hl 0 rfl) ?_
    refine lv_iload_n hx hb d_M_fetch_15 rfl (lv_at hl 2 rfl) ?_
    refine z_rv (As := [.int t]) (rest := []) E hN hK G.1 hl.1 (c_M_isNow l D cI a 0 nw k n c Z P U V t hk hn hc) [0, 1, 2, 3, 4, 5, 6, 7, 8, 9, 10, 11, 12, 13, 14, 15, 16, 17] rfl 0 rfl rfl kz_M_106 rfl ⟨Nat.le_of_ble_eq_true rfl, Nat.le_of_ble_eq_true rfl⟩ rfl (Nat.le_of_ble_eq_true rfl) ⟨Nat.zero_le _, Nat.zero_le _⟩ d_M_fetch_16 ?_
    refine lv_if_ne (tgt := 25) hx hb d_M_fetch_19 (by decide) (fun c_2 => ?_) (fun c_2 => ?_)
    · refine lv_aload_n hx hb d_M_fetch_25 rfl (lv_at hl 0 rfl) ?_
      refine z_get (v := .ref (a 8)) E hK G.1 i_M 0 11 rfl rfl (by decide) kf_M_31 rfl d_M_fetch_26 ?_
      refine lv_iload_n hx hb d_M_fetch_29 rfl (lv_at hl 1 rfl) ?_
      refine z_ald (f := U 0) E hK G.1 8 0 rfl rfl (in_unitM c_1) d_M_fetch_30 ?_
      refine lv_if_ne (tgt := 52) hx hb d_M_fetch_31 (by decide) (fun c_3 => ?_) (fun c_3 => ?_)
      · refine lv_bipush (v := (-3)) hx hb d_M_fetch_52 (by decide) ?_
        have hf : f_M_fetch nw n c Z P U V u t = ((-3), 0, nw, nI n, nI c, Z, P, U, V) := by unfold f_M_fetch; rw [if_neg c_1, if_neg c_2, if_neg c_3]
        exact zW.iret E hrt hlk G (by rw [hf]) (by rw [hf]) d_M_fetch_54
      · refine lv_aload_n hx hb d_M_fetch_34 rfl (lv_at hl 0 rfl) ?_
        refine lv_iload_n hx hb d_M_fetch_35 rfl (lv_at hl 1 rfl) ?_
        refine z_rv (As := [.int u]) (rest := []) E hN hK G.1 hl.1 (c_M_ahead l D cI a 0 nw k n c Z P U V u hk hn hc) [0, 1, 2, 3, 4, 5, 6, 7, 8, 9, 10, 11, 12, 13, 14, 15, 16, 17] rfl 0 rfl rfl kz_M_112 rfl ⟨Nat.le_of_ble_eq_true rfl, Nat.le_of_ble_eq_true rfl⟩ rfl (Nat.le_of_ble_eq_true rfl) ⟨Nat.zero_le _, Nat.zero_le _⟩ d_M_fetch_36 ?_
        refine lv_if_lt (tgt := 52) hx hb d_M_fetch_39 (by decide) (fun c_4 => ?_) (fun c_4 => ?_)
        · refine lv_bipush (v := (-3)) hx hb d_M_fetch_52 (by decide) ?_
          have hf : f_M_fetch nw n c Z P U V u t = ((-3), 0, nw, nI n, nI c, Z, P, U, V) := by unfold f_M_fetch; rw [if_neg c_1, if_neg c_2, if_pos c_3, if_pos c_4]
          exact zW.iret E hrt hlk G (by rw [hf]) (by rw [hf]) d_M_fetch_54
        · refine lv_aload_n hx hb d_M_fetch_42 rfl (lv_at hl 0 rfl) ?_
          refine z_get (v := .ref (a 9)) E hK G.1 i_M 0 12 rfl rfl (by decide) kf_M_34 rfl d_M_fetch_43 ?_
          refine lv_iload_n hx hb d_M_fetch_46 rfl (lv_at hl 1 rfl) ?_
          refine z_ald (f := U 1) E hK G.1 9 0 rfl rfl (in_unitM c_1) d_M_fetch_47 ?_
          refine lv_iconst (v := 3) hx hb d_M_fetch_48 (by decide) ?_
          refine lv_icmp_ne (tgt := 55) hx hb d_M_fetch_49 (by decide) (fun c_5 => ?_) (fun c_5 => ?_)
          · refine lv_aload_n hx hb d_M_fetch_55 rfl (lv_at hl 0 rfl) ?_
            refine lv_iload_n hx hb d_M_fetch_56 rfl (lv_at hl 2 rfl) ?_
            refine z_put (ty := .int) (ws' := wM a cI 0 t (nI k) (nI n) (nI c) Z P U V) E hK G i_M t_M t_M_ok n_M 0 1 rfl rfl (by decide) kf_M_72 rfl rfl rfl rfl (Nat.le_of_ble_eq_true rfl) rfl d_M_fetch_57 (fun H locs G => ?_)
            refine lv_aload_n hx hb d_M_fetch_60 rfl (lv_at hl 0 rfl) ?_
            refine lv_iload_n hx hb d_M_fetch_61 rfl (lv_at hl 1 rfl) ?_
            refine lv_aload_n hx hb d_M_fetch_62 rfl (lv_at hl 0 rfl) ?_
            refine lv_iload_n hx hb d_M_fetch_63 rfl (lv_at hl 1 rfl) ?_
            refine z_rv (As := [.int u]) (rest := [.int u, .ref (a 0)]) E hN hK G.1 hl.1 (c_M_ahead l D cI a 0 t k n c Z P U V u hk hn hc) [0, 1, 2, 3, 4, 5, 6, 7, 8, 9, 10, 11, 12, 13, 14, 15, 16, 17] rfl 0 rfl rfl kz_M_112 rfl ⟨Nat.le_of_ble_eq_true rfl, Nat.le_of_ble_eq_true rfl⟩ rfl (Nat.le_of_ble_eq_true rfl) ⟨Nat.zero_le _, Nat.zero_le _⟩ d_M_fetch_64 ?_
            refine z_wv (As := [.int u, .int (f_M_ahead c V u)]) (rest := []) (wr := ([] : List Nat).filterMap (fun i => (wM a cI 0 t (nI k) (nI n) (nI c) Z P U V)[i]?)) (ws' := wM a cI 0 t (nI k) (nI n) (nI c) Z P ((f_M_fetchFor U V u (f_M_ahead c V u)).2.1) ((f_M_fetchFor U V u (f_M_ahead c V u)).2.2)) E hN hK hA G hl.1 (c_M_fetchFor l D cI a 0 t k n c Z P U V u (f_M_ahead c V u) hk hn hc (in_unitM c_1) (ah_in hc c_4)) [0, 1, 2, 3, 4, 5, 6, 7, 8, 9, 10, 11, 12, 13, 14, 15, 16, 17] [] [0, 1, 2, 3, 4, 5, 6, 7, 8, 9, 10, 11, 12, 13, 14, 15, 16, 17] rfl rfl rfl rfl rfl rfl (by decide) 0 rfl rfl kz_M_115 rfl ⟨Nat.le_of_ble_eq_true rfl, Nat.le_of_ble_eq_true rfl⟩ rfl (Nat.le_of_ble_eq_true rfl) ⟨Nat.zero_le _, Nat.zero_le _⟩ d_M_fetch_67 (fun H locs G => ?_)
            refine W.eq (g2 := F0 m 70 ls [.int ((f_M_fetchFor U V u (f_M_ahead c V u)).1)]) rfl ?_
            have hf : f_M_fetch nw n c Z P U V u t = ((f_M_fetchFor U V u (f_M_ahead c V u)).1, 0, t, nI n, nI c, Z, P, (f_M_fetchFor U V u (f_M_ahead c V u)).2.1, (f_M_fetchFor U V u (f_M_ahead c V u)).2.2) := by unfold f_M_fetch; rw [if_neg c_1, if_neg c_2, if_pos c_3, if_neg c_4, if_neg c_5]
            exact zW.iret E hrt hlk G (by rw [hf]) (by rw [hf]) d_M_fetch_70
          · refine lv_bipush (v := (-3)) hx hb d_M_fetch_52 (by decide) ?_
            have hf : f_M_fetch nw n c Z P U V u t = ((-3), 0, nw, nI n, nI c, Z, P, U, V) := by unfold f_M_fetch; rw [if_neg c_1, if_neg c_2, if_pos c_3, if_neg c_4, if_pos c_5]
            exact zW.iret E hrt hlk G (by rw [hf]) (by rw [hf]) d_M_fetch_54
    · refine lv_bipush (v := (-2)) hx hb d_M_fetch_22 (by decide) ?_
      have hf : f_M_fetch nw n c Z P U V u t = ((-2), 0, nw, nI n, nI c, Z, P, U, V) := by unfold f_M_fetch; rw [if_neg c_1, if_pos c_2]
      exact zW.iret E hrt hlk G (by rw [hf]) (by rw [hf]) d_M_fetch_24
  · refine lv_iconst (v := (-1)) hx hb d_M_fetch_12 (by decide) ?_
    have hf : f_M_fetch nw n c Z P U V u t = ((-1), 0, nw, nI n, nI c, Z, P, U, V) := by unfold f_M_fetch; rw [if_pos c_1]
    exact zW.iret E hrt hlk G (by rw [hf]) (by rw [hf]) d_M_fetch_13
def f_M_handOut (nw : Int32) (k : Nat) (n : Nat) (c : Nat) (Z : Nat → Nat → Int32) (P : Nat → Nat → Int32) (U : Nat → Nat → Int32) (V : Nat → Nat → Int32) (u : Int32) (t : Int32) : Int32 × Int32 × Int32 × Int32 × Int32 × (Nat → Nat → Int32) × (Nat → Nat → Int32) × (Nat → Nat → Int32) × (Nat → Nat → Int32) := (if (f_M_isUnit u) = 0 then ((-1), 0, nw, nI n, nI c, Z, P, U, V) else (if (f_M_isNow nw t) = 0 then ((-2), 0, nw, nI n, nI c, Z, P, U, V) else (if (U 0 u.toNatClampNeg) = 1 then (if 0 ≤ (f_M_seatOf k Z (V 0 (U 3 u.toNatClampNeg).toNatClampNeg)) then (if (U 2 u.toNatClampNeg) ≤ (P 0 (V 0 (U 3 u.toNatClampNeg).toNatClampNeg).toNatClampNeg) then (V 0 (U 3 u.toNatClampNeg).toNatClampNeg, 0, t, nI n, nI c, Z, P, up2 U 0 u.toNatClampNeg 2, up2 (up2 V 2 (U 3 u.toNatClampNeg).toNatClampNeg 2) 4 (U 3 u.toNatClampNeg).toNatClampNeg t) else ((-5), 0, nw, nI n, nI c, Z, P, U, V)) else ((-3), 0, nw, nI n, nI c, Z, P, U, V)) else ((-3), 0, nw, nI n, nI c, Z, P, U, V))))
set_option maxHeartbeats 4000000 in
set_option maxRecDepth 100000 in
theorem c_M_handOut (l : Launch) (D : va_G) (cI : ClassId) (a : Nat → Nat) (th : Int32) (nw : Int32) (k : Nat) (n : Nat) (c : Nat) (Z : Nat → Nat → Int32) (P : Nat → Nat → Int32) (U : Nat → Nat → Int32) (V : Nat → Nat → Int32) (u : Int32) (t : Int32) (hk : k ≤ 20) (hn : n ≤ 60) (hc : c ≤ 300) (hU : ∀ u, u < 80 → (U 0 u = 1 ∨ U 0 u = 2) → vp_in (U 3 u) 300) (hV : ∀ i, vp_in (V 0 i) 60) : zW l D [(cI, .int)] y_M_handOut b_M_handOut 4 (some .int) 2 43 [.ref (a 0), .int u, .int t] (wM a cI th nw (nI k) (nI n) (nI c) Z P U V) (wM a cI ((f_M_handOut nw k n c Z P U V u t).2.1) ((f_M_handOut nw k n c Z P U V u t).2.2.1) (nI k) ((f_M_handOut nw k n c Z P U V u t).2.2.2.1) ((f_M_handOut nw k n c Z P U V u t).2.2.2.2.1) ((f_M_handOut nw k n c Z P U V u t).2.2.2.2.2.1) ((f_M_handOut nw k n c Z P U V u t).2.2.2.2.2.2.1) ((f_M_handOut nw k n c Z P U V u t).2.2.2.2.2.2.2.1) ((f_M_handOut nw k n c Z P U V u t).2.2.2.2.2.2.2.2)) (some (.int (f_M_handOut nw k n c Z P U V u t).1)) := by
  refine zW.of (by decide) (Nat.le_of_ble_eq_true rfl) ?_
  intro p e s m below meth c0 ls A E hrt hlk hN hK hA G hl
  have hx := E.1
  have hb := E.2.1
  have hl : lv_has ls 4 [(0, .ref (a 0)), (1, .int u), (2, .int t)] := hl
  refine lv_aload_n hx hb d_M_handOut_0 rfl (lv_at hl 0 rfl) ?_
  refine lv_iconst (v := 0) hx hb d_M_handOut_1 (by decide) ?_
  refine z_put (ty := .int) (ws' := wM a cI 0 nw (nI k) (nI n) (nI c) Z P U V) E hK G i_M t_M t_M_ok n_M 0 0 rfl rfl (by decide) kf_M_65 rfl rfl rfl rfl (Nat.le_of_ble_eq_true rfl) rfl d_M_handOut_2 (fun H locs G => ?_)
  refine lv_iload_n hx hb d_M_handOut_5 rfl (lv_at hl 1 rfl) ?_
  refine z_rs (As := [.int u]) (rest := []) E hN hK hl.1 (c_M_isUnit l D [(cI, .int)] u) kz_M_103 rfl ⟨Nat.le_of_ble_eq_true rfl, Nat.le_of_ble_eq_true rfl⟩ rfl (Nat.le_of_ble_eq_true rfl) ⟨Nat.zero_le _, Nat.zero_le _⟩ d_M_handOut_6 ?_
  refine lv_if_ne (tgt := 14) hx hb d_M_handOut_9 (by decide) (fun c_1 => ?_) (fun c_1 => ?_)
  · refine lv_aload_n hx hb d_M_handOut_14 rfl (lv_at hl 0 rfl) ?_
    refine lv_iload_n hx hb d_M_handOut_15 rfl (lv_at hl 2 rfl) ?_
    refine z_rv (As := [.int t]) (rest := []) E hN hK G.1 hl.1 (c_M_isNow l D cI a 0 nw k n c Z P U V t hk hn hc) [0, 1, 2, 3, 4, 5, 6, 7, 8, 9, 10, 11, 12, 13, 14, 15, 16, 17] rfl 0 rfl rfl kz_M_106 rfl ⟨Nat.le_of_ble_eq_true rfl, Nat.le_of_ble_eq_true rfl⟩ rfl (Nat.le_of_ble_eq_true rfl) ⟨Nat.zero_le _, Nat.zero_le _⟩ d_M_handOut_16 ?_
    refine lv_if_ne (tgt := 25) hx hb d_M_handOut_19 (by decide) (fun c_2 => ?_) (fun c_2 => ?_)
    · refine lv_aload_n hx hb d_M_handOut_25 rfl (lv_at hl 0 rfl) ?_
      refine z_get (v := .ref (a 8)) E hK G.1 i_M 0 11 rfl rfl (by decide) kf_M_31 rfl d_M_handOut_26 ?_
      refine lv_iload_n hx hb d_M_handOut_29 rfl (lv_at hl 1 rfl) ?_
      refine z_ald (f := U 0) E hK G.1 8 0 rfl rfl (in_unitM c_1) d_M_handOut_30 ?_
      refine lv_iconst (v := 1) hx hb d_M_handOut_31 (by decide) ?_
      refine lv_icmp_ne (tgt := 53) hx hb d_M_handOut_32 (by decide) (fun c_3 => ?_) (fun c_3 => ?_)
      · refine lv_bipush (v := (-3)) hx hb d_M_handOut_53 (by decide) ?_
        have hf : f_M_handOut nw k n c Z P U V u t = ((-3), 0, nw, nI n, nI c, Z, P, U, V) := by unfold f_M_handOut; rw [if_neg c_1, if_neg c_2, if_neg c_3]
        exact zW.iret E hrt hlk G (by rw [hf]) (by rw [hf]) d_M_handOut_55
      · refine lv_aload_n hx hb d_M_handOut_35 rfl (lv_at hl 0 rfl) ?_
        refine lv_aload_n hx hb d_M_handOut_36 rfl (lv_at hl 0 rfl) ?_
        refine z_get (v := .ref (a 12)) E hK G.1 i_M 0 16 rfl rfl (by decide) kf_M_43 rfl d_M_handOut_37 ?_
        refine lv_aload_n hx hb d_M_handOut_40 rfl (lv_at hl 0 rfl) ?_
        refine z_get (v := .ref (a 11)) E hK G.1 i_M 0 14 rfl rfl (by decide) kf_M_40 rfl d_M_handOut_41 ?_
        refine lv_iload_n hx hb d_M_handOut_44 rfl (lv_at hl 1 rfl) ?_
        refine z_ald (f := U 3) E hK G.1 11 0 rfl rfl (in_unitM c_1) d_M_handOut_45 ?_
        refine z_ald (f := V 0) E hK G.1 12 0 rfl rfl (hU _ (unit_lt c_1) (Or.inl c_3)) d_M_handOut_46 ?_
        refine z_rv (As := [.int (V 0 (U 3 u.toNatClampNeg).toNatClampNeg)]) (rest := []) E hN hK G.1 hl.1 (c_M_seatOf l D cI a 0 nw k n c Z P U V (V 0 (U 3 u.toNatClampNeg).toNatClampNeg) hk hn hc) [0, 1, 2, 3, 4, 5, 6, 7, 8, 9, 10, 11, 12, 13, 14, 15, 16, 17] rfl 0 rfl rfl kz_M_83 rfl ⟨Nat.le_of_ble_eq_true rfl, Nat.le_of_ble_eq_true rfl⟩ rfl (Nat.le_of_ble_eq_true rfl) ⟨Nat.zero_le _, Nat.zero_le _⟩ d_M_handOut_47 ?_
        refine lv_if_ge (tgt := 56) hx hb d_M_handOut_50 (by decide) (fun c_4 => ?_) (fun c_4 => ?_)
        · refine lv_aload_n hx hb d_M_handOut_56 rfl (lv_at hl 0 rfl) ?_
          refine z_get (v := .ref (a 11)) E hK G.1 i_M 0 14 rfl rfl (by decide) kf_M_40 rfl d_M_handOut_57 ?_
          refine lv_iload_n hx hb d_M_handOut_60 rfl (lv_at hl 1 rfl) ?_
          refine z_ald (f := U 3) E hK G.1 11 0 rfl rfl (in_unitM c_1) d_M_handOut_61 ?_
          refine lv_istore_n (lv' := [(3, .int (U 3 u.toNatClampNeg)), (0, .ref (a 0)), (1, .int u), (2, .int t)]) hx hb d_M_handOut_62 rfl hl (by decide) rfl (fun ls hl => ?_)
          refine lv_aload_n hx hb d_M_handOut_63 rfl (lv_at hl 1 rfl) ?_
          refine z_get (v := .ref (a 3)) E hK G.1 i_M 0 6 rfl rfl (by decide) kf_M_16 rfl d_M_handOut_64 ?_
          refine lv_aload_n hx hb d_M_handOut_67 rfl (lv_at hl 1 rfl) ?_
          refine z_get (v := .ref (a 12)) E hK G.1 i_M 0 16 rfl rfl (by decide) kf_M_43 rfl d_M_handOut_68 ?_
          refine lv_iload_n hx hb d_M_handOut_71 rfl (lv_at hl 0 rfl) ?_
          refine z_ald (f := V 0) E hK G.1 12 0 rfl rfl (hU _ (unit_lt c_1) (Or.inl c_3)) d_M_handOut_72 ?_
          refine z_ald (f := P 0) E hK G.1 3 0 rfl rfl (hV _) d_M_handOut_73 ?_
          refine lv_aload_n hx hb d_M_handOut_74 rfl (lv_at hl 1 rfl) ?_
          refine z_get (v := .ref (a 10)) E hK G.1 i_M 0 13 rfl rfl (by decide) kf_M_37 rfl d_M_handOut_75 ?_
          refine lv_iload_n hx hb d_M_handOut_78 rfl (lv_at hl 2 rfl) ?_
          refine z_ald (f := U 2) E hK G.1 10 0 rfl rfl (in_unitM c_1) d_M_handOut_79 ?_
          refine lv_icmp_ge (tgt := 86) hx hb d_M_handOut_80 (by decide) (fun c_5 => ?_) (fun c_5 => ?_)
          · refine lv_aload_n hx hb d_M_handOut_86 rfl (lv_at hl 1 rfl) ?_
            refine lv_iload_n hx hb d_M_handOut_87 rfl (lv_at hl 3 rfl) ?_
            refine z_put (ty := .int) (ws' := wM a cI 0 t (nI k) (nI n) (nI c) Z P U V) E hK G i_M t_M t_M_ok n_M 0 1 rfl rfl (by decide) kf_M_72 rfl rfl rfl rfl (Nat.le_of_ble_eq_true rfl) rfl d_M_handOut_88 (fun H locs G => ?_)
            refine lv_aload_n hx hb d_M_handOut_91 rfl (lv_at hl 1 rfl) ?_
            refine z_get (v := .ref (a 8)) E hK G.1 i_M 0 11 rfl rfl (by decide) kf_M_31 rfl d_M_handOut_92 ?_
            refine lv_iload_n hx hb d_M_handOut_95 rfl (lv_at hl 2 rfl) ?_
            refine lv_iconst (v := 2) hx hb d_M_handOut_96 (by decide) ?_
            refine z_ast (f := U 0) (ws' := wM a cI 0 t (nI k) (nI n) (nI c) Z P (up2 U 0 u.toNatClampNeg 2) V) E hK G 8 0 rfl rfl (in_unitM c_1) rfl d_M_handOut_97 (fun H locs G => ?_)
            refine lv_aload_n hx hb d_M_handOut_98 rfl (lv_at hl 1 rfl) ?_
            refine z_get (v := .ref (a 14)) E hK G.1 i_M 0 18 rfl rfl (by decide) kf_M_49 rfl d_M_handOut_99 ?_
            refine lv_iload_n hx hb d_M_handOut_102 rfl (lv_at hl 0 rfl) ?_
            refine lv_iconst (v := 2) hx hb d_M_handOut_103 (by decide) ?_
            refine z_ast (f := V 2) (ws' := wM a cI 0 t (nI k) (nI n) (nI c) Z P (up2 U 0 u.toNatClampNeg 2) (up2 V 2 (U 3 u.toNatClampNeg).toNatClampNeg 2)) E hK G 14 0 rfl rfl (hU _ (unit_lt c_1) (Or.inl c_3)) rfl d_M_handOut_104 (fun H locs G => ?_)
            refine lv_aload_n hx hb d_M_handOut_105 rfl (lv_at hl 1 rfl) ?_
            refine z_get (v := .ref (a 16)) E hK G.1 i_M 0 20 rfl rfl (by decide) kf_M_55 rfl d_M_handOut_106 ?_
            refine lv_iload_n hx hb d_M_handOut_109 rfl (lv_at hl 0 rfl) ?_
            refine lv_iload_n hx hb d_M_handOut_110 rfl (lv_at hl 3 rfl) ?_
            refine z_ast (f := (up2 V 2 (U 3 u.toNatClampNeg).toNatClampNeg 2) 4) (ws' := wM a cI 0 t (nI k) (nI n) (nI c) Z P (up2 U 0 u.toNatClampNeg 2) (up2 (up2 V 2 (U 3 u.toNatClampNeg).toNatClampNeg 2) 4 (U 3 u.toNatClampNeg).toNatClampNeg t)) E hK G 16 0 rfl rfl (hU _ (unit_lt c_1) (Or.inl c_3)) rfl d_M_handOut_111 (fun H locs G => ?_)
            refine lv_aload_n hx hb d_M_handOut_112 rfl (lv_at hl 1 rfl) ?_
            refine z_get (v := .ref (a 12)) E hK G.1 i_M 0 16 rfl rfl (by decide) kf_M_43 rfl d_M_handOut_113 ?_
            refine lv_iload_n hx hb d_M_handOut_116 rfl (lv_at hl 0 rfl) ?_
            refine z_ald (f := V 0) E hK G.1 12 0 rfl rfl (hU _ (unit_lt c_1) (Or.inl c_3)) d_M_handOut_117 ?_
            have hf : f_M_handOut nw k n c Z P U V u t = (V 0 (U 3 u.toNatClampNeg).toNatClampNeg, 0, t, nI n, nI c, Z, P, up2 U 0 u.toNatClampNeg 2, up2 (up2 V 2 (U 3 u.toNatClampNeg).toNatClampNeg 2) 4 (U 3 u.toNatClampNeg).toNatClampNeg t) := by unfold f_M_handOut; rw [if_neg c_1, if_neg c_2, if_pos c_3, if_pos c_4, if_pos c_5]
            exact zW.iret E hrt hlk G (by rw [hf]) (by rw [hf]) d_M_handOut_118
          · refine lv_bipush (v := (-5)) hx hb d_M_handOut_83 (by decide) ?_
            have hf : f_M_handOut nw k n c Z P U V u t = ((-5), 0, nw, nI n, nI c, Z, P, U, V) := by unfold f_M_handOut; rw [if_neg c_1, if_neg c_2, if_pos c_3, if_pos c_4, if_neg c_5]
            exact zW.iret E hrt hlk G (by rw [hf]) (by rw [hf]) d_M_handOut_85
        · refine lv_bipush (v := (-3)) hx hb d_M_handOut_53 (by decide) ?_
          have hf : f_M_handOut nw k n c Z P U V u t = ((-3), 0, nw, nI n, nI c, Z, P, U, V) := by unfold f_M_handOut; rw [if_neg c_1, if_neg c_2, if_pos c_3, if_neg c_4]
          exact zW.iret E hrt hlk G (by rw [hf]) (by rw [hf]) d_M_handOut_55
    · refine lv_bipush (v := (-2)) hx hb d_M_handOut_22 (by decide) ?_
      have hf : f_M_handOut nw k n c Z P U V u t = ((-2), 0, nw, nI n, nI c, Z, P, U, V) := by unfold f_M_handOut; rw [if_neg c_1, if_pos c_2]
      exact zW.iret E hrt hlk G (by rw [hf]) (by rw [hf]) d_M_handOut_24
  · refine lv_iconst (v := (-1)) hx hb d_M_handOut_12 (by decide) ?_
    have hf : f_M_handOut nw k n c Z P U V u t = ((-1), 0, nw, nI n, nI c, Z, P, U, V) := by unfold f_M_handOut; rw [if_pos c_1]
    exact zW.iret E hrt hlk G (by rw [hf]) (by rw [hf]) d_M_handOut_13
def f_M_back (nw : Int32) (n : Nat) (c : Nat) (Z : Nat → Nat → Int32) (P : Nat → Nat → Int32) (U : Nat → Nat → Int32) (V : Nat → Nat → Int32) (u : Int32) (t : Int32) : Int32 × Int32 × Int32 × Int32 × Int32 × (Nat → Nat → Int32) × (Nat → Nat → Int32) × (Nat → Nat → Int32) × (Nat → Nat → Int32) := (if (f_M_isUnit u) = 0 then ((-1), 0, nw, nI n, nI c, Z, P, U, V) else (if (f_M_isNow nw t) = 0 then ((-2), 0, nw, nI n, nI c, Z, P, U, V) else (if (U 0 u.toNatClampNeg) = 2 then (U 3 u.toNatClampNeg, 0, t, nI n, nI c, Z, P, up2 U 0 u.toNatClampNeg 3, up2 (up2 V 2 (U 3 u.toNatClampNeg).toNatClampNeg 3) 5 (U 3 u.toNatClampNeg).toNatClampNeg t) else ((-3), 0, nw, nI n, nI c, Z, P, U, V))))
set_option maxHeartbeats 4000000 in
set_option maxRecDepth 100000 in
theorem c_M_back (l : Launch) (D : va_G) (cI : ClassId) (a : Nat → Nat) (th : Int32) (nw : Int32) (k : Nat) (n : Nat) (c : Nat) (Z : Nat → Nat → Int32) (P : Nat → Nat → Int32) (U : Nat → Nat → Int32) (V : Nat → Nat → Int32) (u : Int32) (t : Int32) (hk : k ≤ 20) (hn : n ≤ 60) (hc : c ≤ 300) (hU : ∀ u, u < 80 → (U 0 u = 1 ∨ U 0 u = 2) → vp_in (U 3 u) 300) : zW l D [(cI, .int)] y_M_back b_M_back 3 (some .int) 2 43 [.ref (a 0), .int u, .int t] (wM a cI th nw (nI k) (nI n) (nI c) Z P U V) (wM a cI ((f_M_back nw n c Z P U V u t).2.1) ((f_M_back nw n c Z P U V u t).2.2.1) (nI k) ((f_M_back nw n c Z P U V u t).2.2.2.1) ((f_M_back nw n c Z P U V u t).2.2.2.2.1) ((f_M_back nw n c Z P U V u t).2.2.2.2.2.1) ((f_M_back nw n c Z P U V u t).2.2.2.2.2.2.1) ((f_M_back nw n c Z P U V u t).2.2.2.2.2.2.2.1) ((f_M_back nw n c Z P U V u t).2.2.2.2.2.2.2.2)) (some (.int (f_M_back nw n c Z P U V u t).1)) := by
  refine zW.of (by decide) (Nat.le_of_ble_eq_true rfl) ?_
  intro p e s m below meth c0 ls A E hrt hlk hN hK hA G hl
  have hx := E.1
  have hb := E.2.1
  have hl : lv_has ls 3 [(0, .ref (a 0)), (1, .int u), (2, .int t)] := hl
  refine lv_aload_n hx hb d_M_back_0 rfl (lv_at hl 0 rfl) ?_
  refine lv_iconst (v := 0) hx hb d_M_back_1 (by decide) ?_
  refine z_put (ty := .int) (ws' := wM a cI 0 nw (nI k) (nI n) (nI c) Z P U V) E hK G i_M t_M t_M_ok n_M 0 0 rfl rfl (by decide) kf_M_65 rfl rfl rfl rfl (Nat.le_of_ble_eq_true rfl) rfl d_M_back_2 (fun H locs G => ?_)
  refine lv_iload_n hx hb d_M_back_5 rfl (lv_at hl 1 rfl) ?_
  refine z_rs (As := [.int u]) (rest := []) E hN hK hl.1 (c_M_isUnit l D [(cI, .int)] u) kz_M_103 rfl ⟨Nat.le_of_ble_eq_true rfl, Nat.le_of_ble_eq_true rfl⟩ rfl (Nat.le_of_ble_eq_true rfl) ⟨Nat.zero_le _, Nat.zero_le _⟩ d_M_back_6 ?_
  refine lv_if_ne (tgt := 14) hx hb d_M_back_9 (by decide) (fun c_1 => ?_) (fun c_1 => ?_)
  · refine lv_aload_n hx hb d_M_back_14 rfl (lv_at hl 0 rfl) ?_
    refine lv_iload_n hx hb d_M_back_15 rfl (lv_at hl 2 rfl) ?_
    refine z_rv (As := [.int t]) (rest := []) E hN hK G.1 hl.1 (c_M_isNow l D cI a 0 nw k n c Z P U V t hk hn hc) [0, 1, 2, 3, 4, 5, 6, 7, 8, 9, 10, 11, 12, 13, 14, 15, 16, 17] rfl 0 rfl rfl kz_M_106 rfl ⟨Nat.le_of_ble_eq_true rfl, Nat.le_of_ble_eq_true rfl⟩ rfl (Nat.le_of_ble_eq_true rfl) ⟨Nat.zero_le _, Nat.zero_le _⟩ d_M_back_16 ?_
    refine lv_if_ne (tgt := 25) hx hb d_M_back_19 (by decide) (fun c_2 => ?_) (fun c_2 => ?_)
    · refine lv_aload_n hx hb d_M_back_25 rfl (lv_at hl 0 rfl) ?_
      refine z_get (v := .ref (a 8)) E hK G.1 i_M 0 11 rfl rfl (by decide) kf_M_31 rfl d_M_back_26 ?_
      refine lv_iload_n hx hb d_M_back_29 rfl (lv_at hl 1 rfl) ?_
      refine z_ald (f := U 0) E hK G.1 8 0 rfl rfl (in_unitM c_1) d_M_back_30 ?_
      refine lv_iconst (v := 2) hx hb d_M_back_31 (by decide) ?_
      refine lv_icmp_eq (tgt := 38) hx hb d_M_back_32 (by decide) (fun c_3 => ?_) (fun c_3 => ?_)
      · refine lv_aload_n hx hb d_M_back_38 rfl (lv_at hl 0 rfl) ?_
        refine lv_iload_n hx hb d_M_back_39 rfl (lv_at hl 2 rfl) ?_
        refine z_put (ty := .int) (ws' := wM a cI 0 t (nI k) (nI n) (nI c) Z P U V) E hK G i_M t_M t_M_ok n_M 0 1 rfl rfl (by decide) kf_M_72 rfl rfl rfl rfl (Nat.le_of_ble_eq_true rfl) rfl d_M_back_40 (fun H locs G => ?_)
        refine lv_aload_n hx hb d_M_back_43 rfl (lv_at hl 0 rfl) ?_
        refine z_get (v := .ref (a 8)) E hK G.1 i_M 0 11 rfl rfl (by decide) kf_M_31 rfl d_M_back_44 ?_
        refine lv_iload_n hx hb d_M_back_47 rfl (lv_at hl 1 rfl) ?_
        refine lv_iconst (v := 3) hx hb d_M_back_48 (by decide) ?_
        refine z_ast (f := U 0) (ws' := wM a cI 0 t (nI k) (nI n) (nI c) Z P (up2 U 0 u.toNatClampNeg 3) V) E hK G 8 0 rfl rfl (in_unitM c_1) rfl d_M_back_49 (fun H locs G => ?_)
        refine lv_aload_n hx hb d_M_back_50 rfl (lv_at hl 0 rfl) ?_
        refine z_get (v := .ref (a 14)) E hK G.1 i_M 0 18 rfl rfl (by decide) kf_M_49 rfl d_M_back_51 ?_
        refine lv_aload_n hx hb d_M_back_54 rfl (lv_at hl 0 rfl) ?_
        refine z_get (v := .ref (a 11)) E hK G.1 i_M 0 14 rfl rfl (by decide) kf_M_40 rfl d_M_back_55 ?_
        refine lv_iload_n hx hb d_M_back_58 rfl (lv_at hl 1 rfl) ?_
        refine z_ald (f := U 3) E hK G.1 11 0 rfl rfl (in_unitM c_1) d_M_back_59 ?_
        refine lv_iconst (v := 3) hx hb d_M_back_60 (by decide) ?_
        refine z_ast (f := V 2) (ws' := wM a cI 0 t (nI k) (nI n) (nI c) Z P (up2 U 0 u.toNatClampNeg 3) (up2 V 2 (U 3 u.toNatClampNeg).toNatClampNeg 3)) E hK G 14 0 rfl rfl (hU _ (unit_lt c_1) (Or.inr c_3)) rfl d_M_back_61 (fun H locs G => ?_)
        refine lv_aload_n hx hb d_M_back_62 rfl (lv_at hl 0 rfl) ?_
        refine z_get (v := .ref (a 17)) E hK G.1 i_M 0 21 rfl rfl (by decide) kf_M_58 rfl d_M_back_63 ?_
        refine lv_aload_n hx hb d_M_back_66 rfl (lv_at hl 0 rfl) ?_
        refine z_get (v := .ref (a 11)) E hK G.1 i_M 0 14 rfl rfl (by decide) kf_M_40 rfl d_M_back_67 ?_
        refine lv_iload_n hx hb d_M_back_70 rfl (lv_at hl 1 rfl) ?_
        refine z_ald (f := U 3) E hK G.1 11 0 rfl rfl (in_unitM c_1) d_M_back_71 ?_
        refine lv_iload_n hx hb d_M_back_72 rfl (lv_at hl 2 rfl) ?_
        refine z_ast (f := (up2 V 2 (U 3 u.toNatClampNeg).toNatClampNeg 3) 5) (ws' := wM a cI 0 t (nI k) (nI n) (nI c) Z P (up2 U 0 u.toNatClampNeg 3) (up2 (up2 V 2 (U 3 u.toNatClampNeg).toNatClampNeg 3) 5 (U 3 u.toNatClampNeg).toNatClampNeg t)) E hK G 17 0 rfl rfl (hU _ (unit_lt c_1) (Or.inr c_3)) rfl d_M_back_73 (fun H locs G => ?_)
        refine lv_aload_n hx hb d_M_back_74 rfl (lv_at hl 0 rfl) ?_
        refine z_get (v := .ref (a 11)) E hK G.1 i_M 0 14 rfl rfl (by decide) kf_M_40 rfl d_M_back_75 ?_
        refine lv_iload_n hx hb d_M_back_78 rfl (lv_at hl 1 rfl) ?_
        refine z_ald (f := U 3) E hK G.1 11 0 rfl rfl (in_unitM c_1) d_M_back_79 ?_
        have hf : f_M_back nw n c Z P U V u t = (U 3 u.toNatClampNeg, 0, t, nI n, nI c, Z, P, up2 U 0 u.toNatClampNeg 3, up2 (up2 V 2 (U 3 u.toNatClampNeg).toNatClampNeg 3) 5 (U 3 u.toNatClampNeg).toNatClampNeg t) := by unfold f_M_back; rw [if_neg c_1, if_neg c_2, if_pos c_3]
        exact zW.iret E hrt hlk G (by rw [hf]) (by rw [hf]) d_M_back_80
      · refine lv_bipush (v := (-3)) hx hb d_M_back_35 (by decide) ?_
        have hf : f_M_back nw n c Z P U V u t = ((-3), 0, nw, nI n, nI c, Z, P, U, V) := by unfold f_M_back; rw [if_neg c_1, if_neg c_2, if_neg c_3]
        exact zW.iret E hrt hlk G (by rw [hf]) (by rw [hf]) d_M_back_37
    · refine lv_bipush (v := (-2)) hx hb d_M_back_22 (by decide) ?_
      have hf : f_M_back nw n c Z P U V u t = ((-2), 0, nw, nI n, nI c, Z, P, U, V) := by unfold f_M_back; rw [if_neg c_1, if_pos c_2]
      exact zW.iret E hrt hlk G (by rw [hf]) (by rw [hf]) d_M_back_24
  · refine lv_iconst (v := (-1)) hx hb d_M_back_12 (by decide) ?_
    have hf : f_M_back nw n c Z P U V u t = ((-1), 0, nw, nI n, nI c, Z, P, U, V) := by unfold f_M_back; rw [if_pos c_1]
    exact zW.iret E hrt hlk G (by rw [hf]) (by rw [hf]) d_M_back_13
def f_M_look (nw : Int32) (n : Nat) (c : Nat) (Z : Nat → Nat → Int32) (P : Nat → Nat → Int32) (U : Nat → Nat → Int32) (V : Nat → Nat → Int32) (u : Int32) (to : Int32) : Int32 × Int32 × Int32 × Int32 × Int32 × (Nat → Nat → Int32) × (Nat → Nat → Int32) × (Nat → Nat → Int32) × (Nat → Nat → Int32) := (if (f_M_isUnit u) = 0 then ((-1), 0, nw, nI n, nI c, Z, P, U, V) else (if (f_M_in to (U 1 u.toNatClampNeg) 3) = 0 then ((-2), 0, nw, nI n, nI c, Z, P, U, V) else (if (U 0 u.toNatClampNeg) = 3 then (if 2 ≤ to then (1000, 0, nw, nI n, nI c, Z, P, up2 (up2 (up2 U 1 u.toNatClampNeg to) 0 u.toNatClampNeg 0) 3 u.toNatClampNeg (-1), V) else (if (f_M_ahead c V u) < 0 then (1000, 0, nw, nI n, nI c, Z, P, up2 (up2 (up2 U 1 u.toNatClampNeg to) 0 u.toNatClampNeg 0) 3 u.toNatClampNeg (-1), V) else ((f_M_fetchFor (up2 U 1 u.toNatClampNeg to) V u (f_M_ahead c V u)).1, 0, nw, nI n, nI c, Z, P, (f_M_fetchFor (up2 U 1 u.toNatClampNeg to) V u (f_M_ahead c V u)).2.1, (f_M_fetchFor (up2 U 1 u.toNatClampNeg to) V u (f_M_ahead c V u)).2.2))) else ((-3), 0, nw, nI n, nI c, Z, P, U, V))))
set_option maxHeartbeats 4000000 in
set_option maxRecDepth 100000 in
theorem c_M_look (l : Launch) (D : va_G) (cI : ClassId) (a : Nat → Nat) (th : Int32) (nw : Int32) (k : Nat) (n : Nat) (c : Nat) (Z : Nat → Nat → Int32) (P : Nat → Nat → Int32) (U : Nat → Nat → Int32) (V : Nat → Nat → Int32) (u : Int32) (to : Int32) (hk : k ≤ 20) (hn : n ≤ 60) (hc : c ≤ 300) : zW l D [(cI, .int)] y_M_look b_M_look 3 (some .int) 2 42 [.ref (a 0), .int u, .int to] (wM a cI th nw (nI k) (nI n) (nI c) Z P U V) (wM a cI ((f_M_look nw n c Z P U V u to).2.1) ((f_M_look nw n c Z P U V u to).2.2.1) (nI k) ((f_M_look nw n c Z P U V u to).2.2.2.1) ((f_M_look nw n c Z P U V u to).2.2.2.2.1) ((f_M_look nw n c Z P U V u to).2.2.2.2.2.1) ((f_M_look nw n c Z P U V u to).2.2.2.2.2.2.1) ((f_M_look nw n c Z P U V u to).2.2.2.2.2.2.2.1) ((f_M_look nw n c Z P U V u to).2.2.2.2.2.2.2.2)) (some (.int (f_M_look nw n c Z P U V u to).1)) := by
  refine zW.of (by decide) (Nat.le_of_ble_eq_true rfl) ?_
  intro p e s m below meth c0 ls A E hrt hlk hN hK hA G hl
  have hx := E.1
  have hb := E.2.1
  have hl : lv_has ls 3 [(0, .ref (a 0)), (1, .int u), (2, .int to)] := hl
  refine lv_aload_n hx hb d_M_look_0 rfl (lv_at hl 0 rfl) ?_
  refine lv_iconst (v := 0) hx hb d_M_look_1 (by decide) ?_
  refine z_put (ty := .int) (ws' := wM a cI 0 nw (nI k) (nI n) (nI c) Z P U V) E hK G i_M t_M t_M_ok n_M 0 0 rfl rfl (by decide) kf_M_65 rfl rfl rfl rfl (Nat.le_of_ble_eq_true rfl) rfl d_M_look_2 (fun H locs G => ?_)
  refine lv_iload_n hx hb d_M_look_5 rfl (lv_at hl 1 rfl) ?_
  refine z_rs (As := [.int u]) (rest := []) E hN hK hl.1 (c_M_isUnit l D [(cI, .int)] u) kz_M_103 rfl ⟨Nat.le_of_ble_eq_true rfl, Nat.le_of_ble_eq_true rfl⟩ rfl (Nat.le_of_ble_eq_true rfl) ⟨Nat.zero_le _, Nat.zero_le _⟩ d_M_look_6 ?_
  refine lv_if_ne (tgt := 14) hx hb d_M_look_9 (by decide) (fun c_1 => ?_) (fun c_1 => ?_)
  · refine lv_iload_n hx hb d_M_look_14 rfl (lv_at hl 2 rfl) ?_
    refine lv_aload_n hx hb d_M_look_15 rfl (lv_at hl 0 rfl) ?_
    refine z_get (v := .ref (a 9)) E hK G.1 i_M 0 12 rfl rfl (by decide) kf_M_34 rfl d_M_look_16 ?_
    refine lv_iload_n hx hb d_M_look_19 rfl (lv_at hl 1 rfl) ?_
    refine z_ald (f := U 1) E hK G.1 9 0 rfl rfl (in_unitM c_1) d_M_look_20 ?_
    refine lv_iconst (v := 3) hx hb d_M_look_21 (by decide) ?_
    refine z_rs (As := [.int to, .int (U 1 u.toNatClampNeg), .int 3]) (rest := []) E hN hK hl.1 (c_M_in l D [(cI, .int)] to (U 1 u.toNatClampNeg) 3) kz_M_68 rfl ⟨Nat.le_of_ble_eq_true rfl, Nat.le_of_ble_eq_true rfl⟩ rfl (Nat.le_of_ble_eq_true rfl) ⟨Nat.zero_le _, Nat.zero_le _⟩ d_M_look_22 ?_
    refine lv_if_ne (tgt := 31) hx hb d_M_look_25 (by decide) (fun c_2 => ?_) (fun c_2 => ?_)
    · refine lv_aload_n hx hb d_M_look_31 rfl (lv_at hl 0 rfl) ?_
      refine z_get (v := .ref (a 8)) E hK G.1 i_M 0 11 rfl rfl (by decide) kf_M_31 rfl d_M_look_32 ?_
      refine lv_iload_n hx hb d_M_look_35 rfl (lv_at hl 1 rfl) ?_
      refine z_ald (f := U 0) E hK G.1 8 0 rfl rfl (in_unitM c_1) d_M_look_36 ?_
      refine lv_iconst (v := 3) hx hb d_M_look_37 (by decide) ?_
      refine lv_icmp_eq (tgt := 44) hx hb d_M_look_38 (by decide) (fun c_3 => ?_) (fun c_3 => ?_)
      · refine lv_aload_n hx hb d_M_look_44 rfl (lv_at hl 0 rfl) ?_
        refine z_get (v := .ref (a 9)) E hK G.1 i_M 0 12 rfl rfl (by decide) kf_M_34 rfl d_M_look_45 ?_
        refine lv_iload_n hx hb d_M_look_48 rfl (lv_at hl 1 rfl) ?_
        refine lv_iload_n hx hb d_M_look_49 rfl (lv_at hl 2 rfl) ?_
        refine z_ast (f := U 1) (ws' := wM a cI 0 nw (nI k) (nI n) (nI c) Z P (up2 U 1 u.toNatClampNeg to) V) E hK G 9 0 rfl rfl (in_unitM c_1) rfl d_M_look_50 (fun H locs G => ?_)
        refine lv_iload_n hx hb d_M_look_51 rfl (lv_at hl 2 rfl) ?_
        refine lv_iconst (v := 2) hx hb d_M_look_52 (by decide) ?_
        refine lv_icmp_ge (tgt := 75) hx hb d_M_look_53 (by decide) (fun c_4 => ?_) (fun c_4 => ?_)
        · refine lv_aload_n hx hb d_M_look_75 rfl (lv_at hl 0 rfl) ?_
          refine z_get (v := .ref (a 8)) E hK G.1 i_M 0 11 rfl rfl (by decide) kf_M_31 rfl d_M_look_76 ?_
          refine lv_iload_n hx hb d_M_look_79 rfl (lv_at hl 1 rfl) ?_
          refine lv_iconst (v := 0) hx hb d_M_look_80 (by decide) ?_
          refine z_ast (f := (up2 U 1 u.toNatClampNeg to) 0) (ws' := wM a cI 0 nw (nI k) (nI n) (nI c) Z P (up2 (up2 U 1 u.toNatClampNeg to) 0 u.toNatClampNeg 0) V) E hK G 8 0 rfl rfl (in_unitM c_1) rfl d_M_look_81 (fun H locs G => ?_)
          refine lv_aload_n hx hb d_M_look_82 rfl (lv_at hl 0 rfl) ?_
          refine z_get (v := .ref (a 11)) E hK G.1 i_M 0 14 rfl rfl (by decide) kf_M_40 rfl d_M_look_83 ?_
          refine lv_iload_n hx hb d_M_look_86 rfl (lv_at hl 1 rfl) ?_
          refine lv_iconst (v := (-1)) hx hb d_M_look_87 (by decide) ?_
          refine z_ast (f := (up2 (up2 U 1 u.toNatClampNeg to) 0 u.toNatClampNeg 0) 3) (ws' := wM a cI 0 nw (nI k) (nI n) (nI c) Z P (up2 (up2 (up2 U 1 u.toNatClampNeg to) 0 u.toNatClampNeg 0) 3 u.toNatClampNeg (-1)) V) E hK G 11 0 rfl rfl (in_unitM c_1) rfl d_M_look_88 (fun H locs G => ?_)
          refine lv_sipush (v := 1000) hx hb d_M_look_89 (by decide) ?_
          have hf : f_M_look nw n c Z P U V u to = (1000, 0, nw, nI n, nI c, Z, P, up2 (up2 (up2 U 1 u.toNatClampNeg to) 0 u.toNatClampNeg 0) 3 u.toNatClampNeg (-1), V) := by unfold f_M_look; rw [if_neg c_1, if_neg c_2, if_pos c_3, if_pos c_4]
          exact zW.iret E hrt hlk G (by rw [hf]) (by rw [hf]) d_M_look_92
        · refine lv_aload_n hx hb d_M_look_56 rfl (lv_at hl 0 rfl) ?_
          refine lv_iload_n hx hb d_M_look_57 rfl (lv_at hl 1 rfl) ?_
          refine z_rv (As := [.int u]) (rest := []) E hN hK G.1 hl.1 (c_M_ahead l D cI a 0 nw k n c Z P (up2 U 1 u.toNatClampNeg to) V u hk hn hc) [0, 1, 2, 3, 4, 5, 6, 7, 8, 9, 10, 11, 12, 13, 14, 15, 16, 17] rfl 0 rfl rfl kz_M_112 rfl ⟨Nat.le_of_ble_eq_true rfl, Nat.le_of_ble_eq_true rfl⟩ rfl (Nat.le_of_ble_eq_true rfl) ⟨Nat.zero_le _, Nat.zero_le _⟩ d_M_look_58 ?_
          refine lv_if_lt (tgt := 75) hx hb d_M_look_61 (by decide) (fun c_5 => ?_) (fun c_5 => ?_)
          · refine lv_aload_n hx hb d_M_look_75 rfl (lv_at hl 0 rfl) ?_
            refine z_get (v := .ref (a 8)) E hK G.1 i_M 0 11 rfl rfl (by decide) kf_M_31 rfl d_M_look_76 ?_
            refine lv_iload_n hx hb d_M_look_79 rfl (lv_at hl 1 rfl) ?_
            refine lv_iconst (v := 0) hx hb d_M_look_80 (by decide) ?_
            refine z_ast (f := (up2 U 1 u.toNatClampNeg to) 0) (ws' := wM a cI 0 nw (nI k) (nI n) (nI c) Z P (up2 (up2 U 1 u.toNatClampNeg to) 0 u.toNatClampNeg 0) V) E hK G 8 0 rfl rfl (in_unitM c_1) rfl d_M_look_81 (fun H locs G => ?_)
            refine lv_aload_n hx hb d_M_look_82 rfl (lv_at hl 0 rfl) ?_
            refine z_get (v := .ref (a 11)) E hK G.1 i_M 0 14 rfl rfl (by decide) kf_M_40 rfl d_M_look_83 ?_
            refine lv_iload_n hx hb d_M_look_86 rfl (lv_at hl 1 rfl) ?_
            refine lv_iconst (v := (-1)) hx hb d_M_look_87 (by decide) ?_
            refine z_ast (f := (up2 (up2 U 1 u.toNatClampNeg to) 0 u.toNatClampNeg 0) 3) (ws' := wM a cI 0 nw (nI k) (nI n) (nI c) Z P (up2 (up2 (up2 U 1 u.toNatClampNeg to) 0 u.toNatClampNeg 0) 3 u.toNatClampNeg (-1)) V) E hK G 11 0 rfl rfl (in_unitM c_1) rfl d_M_look_88 (fun H locs G => ?_)
            refine lv_sipush (v := 1000) hx hb d_M_look_89 (by decide) ?_
            have hf : f_M_look nw n c Z P U V u to = (1000, 0, nw, nI n, nI c, Z, P, up2 (up2 (up2 U 1 u.toNatClampNeg to) 0 u.toNatClampNeg 0) 3 u.toNatClampNeg (-1), V) := by unfold f_M_look; rw [if_neg c_1, if_neg c_2, if_pos c_3, if_neg c_4, if_pos c_5]
            exact zW.iret E hrt hlk G (by rw [hf]) (by rw [hf]) d_M_look_92
          · refine lv_aload_n hx hb d_M_look_64 rfl (lv_at hl 0 rfl) ?_
            refine lv_iload_n hx hb d_M_look_65 rfl (lv_at hl 1 rfl) ?_
            refine lv_aload_n hx hb d_M_look_66 rfl (lv_at hl 0 rfl) ?_
            refine lv_iload_n hx hb d_M_look_67 rfl (lv_at hl 1 rfl) ?_
            refine z_rv (As := [.int u]) (rest := [.int u, .ref (a 0)]) E hN hK G.1 hl.1 (c_M_ahead l D cI a 0 nw k n c Z P (up2 U 1 u.toNatClampNeg to) V u hk hn hc) [0, 1, 2, 3, 4, 5, 6, 7, 8, 9, 10, 11, 12, 13, 14, 15, 16, 17] rfl 0 rfl rfl kz_M_112 rfl ⟨Nat.le_of_ble_eq_true rfl, Nat.le_of_ble_eq_true rfl⟩ rfl (Nat.le_of_ble_eq_true rfl) ⟨Nat.zero_le _, Nat.zero_le _⟩ d_M_look_68 ?_
            refine z_wv (As := [.int u, .int (f_M_ahead c V u)]) (rest := []) (wr := ([] : List Nat).filterMap (fun i => (wM a cI 0 nw (nI k) (nI n) (nI c) Z P (up2 U 1 u.toNatClampNeg to) V)[i]?)) (ws' := wM a cI 0 nw (nI k) (nI n) (nI c) Z P ((f_M_fetchFor (up2 U 1 u.toNatClampNeg to) V u (f_M_ahead c V u)).2.1) ((f_M_fetchFor (up2 U 1 u.toNatClampNeg to) V u (f_M_ahead c V u)).2.2)) E hN hK hA G hl.1 (c_M_fetchFor l D cI a 0 nw k n c Z P (up2 U 1 u.toNatClampNeg to) V u (f_M_ahead c V u) hk hn hc (in_unitM c_1) (ah_in hc c_5)) [0, 1, 2, 3, 4, 5, 6, 7, 8, 9, 10, 11, 12, 13, 14, 15, 16, 17] [] [0, 1, 2, 3, 4, 5, 6, 7, 8, 9, 10, 11, 12, 13, 14, 15, 16, 17] rfl rfl rfl rfl rfl rfl (by decide) 0 rfl rfl kz_M_115 rfl ⟨Nat.le_of_ble_eq_true rfl, Nat.le_of_ble_eq_true rfl⟩ rfl (Nat.le_of_ble_eq_true rfl) ⟨Nat.zero_le _, Nat.zero_le _⟩ d_M_look_71 (fun H locs G => ?_)
            refine W.eq (g2 := F0 m 74 ls [.int ((f_M_fetchFor (up2 U 1 u.toNatClampNeg to) V u (f_M_ahead c V u)).1)]) rfl ?_
            have hf : f_M_look nw n c Z P U V u to = ((f_M_fetchFor (up2 U 1 u.toNatClampNeg to) V u (f_M_ahead c V u)).1, 0, nw, nI n, nI c, Z, P, (f_M_fetchFor (up2 U 1 u.toNatClampNeg to) V u (f_M_ahead c V u)).2.1, (f_M_fetchFor (up2 U 1 u.toNatClampNeg to) V u (f_M_ahead c V u)).2.2) := by unfold f_M_look; rw [if_neg c_1, if_neg c_2, if_pos c_3, if_neg c_4, if_neg c_5]
            exact zW.iret E hrt hlk G (by rw [hf]) (by rw [hf]) d_M_look_74
      · refine lv_bipush (v := (-3)) hx hb d_M_look_41 (by decide) ?_
        have hf : f_M_look nw n c Z P U V u to = ((-3), 0, nw, nI n, nI c, Z, P, U, V) := by unfold f_M_look; rw [if_neg c_1, if_neg c_2, if_neg c_3]
        exact zW.iret E hrt hlk G (by rw [hf]) (by rw [hf]) d_M_look_43
    · refine lv_bipush (v := (-2)) hx hb d_M_look_28 (by decide) ?_
      have hf : f_M_look nw n c Z P U V u to = ((-2), 0, nw, nI n, nI c, Z, P, U, V) := by unfold f_M_look; rw [if_neg c_1, if_pos c_2]
      exact zW.iret E hrt hlk G (by rw [hf]) (by rw [hf]) d_M_look_30
  · refine lv_iconst (v := (-1)) hx hb d_M_look_12 (by decide) ?_
    have hf : f_M_look nw n c Z P U V u to = ((-1), 0, nw, nI n, nI c, Z, P, U, V) := by unfold f_M_look; rw [if_pos c_1]
    exact zW.iret E hrt hlk G (by rw [hf]) (by rw [hf]) d_M_look_13
def f_M_mend (nw : Int32) (n : Nat) (c : Nat) (Z : Nat → Nat → Int32) (P : Nat → Nat → Int32) (U : Nat → Nat → Int32) (V : Nat → Nat → Int32) (u : Int32) : Int32 × Int32 × Int32 × Int32 × Int32 × (Nat → Nat → Int32) × (Nat → Nat → Int32) × (Nat → Nat → Int32) × (Nat → Nat → Int32) := (if (f_M_isUnit u) = 0 then ((-1), 0, nw, nI n, nI c, Z, P, U, V) else (if (U 0 u.toNatClampNeg) = 0 then (1, 0, nw, nI n, nI c, Z, P, up2 U 1 u.toNatClampNeg 0, V) else ((-3), 0, nw, nI n, nI c, Z, P, U, V)))
set_option maxHeartbeats 4000000 in
set_option maxRecDepth 100000 in
theorem c_M_mend (l : Launch) (D : va_G) (cI : ClassId) (a : Nat → Nat) (th : Int32) (nw : Int32) (k : Nat) (n : Nat) (c : Nat) (Z : Nat → Nat → Int32) (P : Nat → Nat → Int32) (U : Nat → Nat → Int32) (V : Nat → Nat → Int32) (u : Int32) (hk : k ≤ 20) (hn : n ≤ 60) (hc : c ≤ 300) : zW l D [(cI, .int)] y_M_mend b_M_mend 2 (some .int) 2 42 [.ref (a 0), .int u] (wM a cI th nw (nI k) (nI n) (nI c) Z P U V) (wM a cI ((f_M_mend nw n c Z P U V u).2.1) ((f_M_mend nw n c Z P U V u).2.2.1) (nI k) ((f_M_mend nw n c Z P U V u).2.2.2.1) ((f_M_mend nw n c Z P U V u).2.2.2.2.1) ((f_M_mend nw n c Z P U V u).2.2.2.2.2.1) ((f_M_mend nw n c Z P U V u).2.2.2.2.2.2.1) ((f_M_mend nw n c Z P U V u).2.2.2.2.2.2.2.1) ((f_M_mend nw n c Z P U V u).2.2.2.2.2.2.2.2)) (some (.int (f_M_mend nw n c Z P U V u).1)) := by
  refine zW.of (by decide) (Nat.le_of_ble_eq_true rfl) ?_
  intro p e s m below meth c0 ls A E hrt hlk hN hK hA G hl
  have hx := E.1
  have hb := E.2.1
  have hl : lv_has ls 2 [(0, .ref (a 0)), (1, .int u)] := hl
  refine lv_aload_n hx hb d_M_mend_0 rfl (lv_at hl 0 rfl) ?_
  refine lv_iconst (v := 0) hx hb d_M_mend_1 (by decide) ?_
  refine z_put (ty := .int) (ws' := wM a cI 0 nw (nI k) (nI n) (nI c) Z P U V) E hK G i_M t_M t_M_ok n_M 0 0 rfl rfl (by decide) kf_M_65 rfl rfl rfl rfl (Nat.le_of_ble_eq_true rfl) rfl d_M_mend_2 (fun H locs G => ?_)
  refine lv_iload_n hx hb d_M_mend_5 rfl (lv_at hl 1 rfl) ?_
  refine z_rs (As := [.int u]) (rest := []) E hN hK hl.1 (c_M_isUnit l D [(cI, .int)] u) kz_M_103 rfl ⟨Nat.le_of_ble_eq_true rfl, Nat.le_of_ble_eq_true rfl⟩ rfl (Nat.le_of_ble_eq_true rfl) ⟨Nat.zero_le _, Nat.zero_le _⟩ d_M_mend_6 ?_
  refine lv_if_ne (tgt := 14) hx hb d_M_mend_9 (by decide) (fun c_1 => ?_) (fun c_1 => ?_)
  · refine lv_aload_n hx hb d_M_mend_14 rfl (lv_at hl 0 rfl) ?_
    refine z_get (v := .ref (a 8)) E hK G.1 i_M 0 11 rfl rfl (by decide) kf_M_31 rfl d_M_mend_15 ?_
    refine lv_iload_n hx hb d_M_mend_18 rfl (lv_at hl 1 rfl) ?_
    refine z_ald (f := U 0) E hK G.1 8 0 rfl rfl (in_unitM c_1) d_M_mend_19 ?_
    refine lv_if_eq (tgt := 26) hx hb d_M_mend_20 (by decide) (fun c_2 => ?_) (fun c_2 => ?_)
    · refine lv_aload_n hx hb d_M_mend_26 rfl (lv_at hl 0 rfl) ?_
      refine z_get (v := .ref (a 9)) E hK G.1 i_M 0 12 rfl rfl (by decide) kf_M_34 rfl d_M_mend_27 ?_
      refine lv_iload_n hx hb d_M_mend_30 rfl (lv_at hl 1 rfl) ?_
      refine lv_iconst (v := 0) hx hb d_M_mend_31 (by decide) ?_
      refine z_ast (f := U 1) (ws' := wM a cI 0 nw (nI k) (nI n) (nI c) Z P (up2 U 1 u.toNatClampNeg 0) V) E hK G 9 0 rfl rfl (in_unitM c_1) rfl d_M_mend_32 (fun H locs G => ?_)
      refine lv_iconst (v := 1) hx hb d_M_mend_33 (by decide) ?_
      have hf : f_M_mend nw n c Z P U V u = (1, 0, nw, nI n, nI c, Z, P, up2 U 1 u.toNatClampNeg 0, V) := by unfold f_M_mend; rw [if_neg c_1, if_pos c_2]
      exact zW.iret E hrt hlk G (by rw [hf]) (by rw [hf]) d_M_mend_34
    · refine lv_bipush (v := (-3)) hx hb d_M_mend_23 (by decide) ?_
      have hf : f_M_mend nw n c Z P U V u = ((-3), 0, nw, nI n, nI c, Z, P, U, V) := by unfold f_M_mend; rw [if_neg c_1, if_neg c_2]
      exact zW.iret E hrt hlk G (by rw [hf]) (by rw [hf]) d_M_mend_25
  · refine lv_iconst (v := (-1)) hx hb d_M_mend_12 (by decide) ?_
    have hf : f_M_mend nw n c Z P U V u = ((-1), 0, nw, nI n, nI c, Z, P, U, V) := by unfold f_M_mend; rw [if_pos c_1]
    exact zW.iret E hrt hlk G (by rw [hf]) (by rw [hf]) d_M_mend_13
def f_M_restrict_L (nw : Int32) (n : Nat) (c : Nat) (Z : Nat → Nat → Int32) (P : Nat → Nat → Int32) (u : Int32) (to : Int32) : Nat → Nat → Int32 → (Nat → Nat → Int32) → (Nat → Nat → Int32) → Int32 × Int32 × Int32 × Int32 × Int32 × (Nat → Nat → Int32) × (Nat → Nat → Int32) × (Nat → Nat → Int32) × (Nat → Nat → Int32)
  | 0, k0, x3, U, V => (x3, 0, nw, nI n, nI c, Z, P, U, V)
  | d + 1, k0, x3, U, V => (if (V 1 k0) = u then (if (V 2 k0) = 0 then (if (P 0 (V 0 k0).toNatClampNeg) < to then (f_M_restrict_L nw n c Z P u to d (k0 + 1) (x3 + 1) U (up2 V 2 k0 4)) else (f_M_restrict_L nw n c Z P u to d (k0 + 1) x3 U V)) else (f_M_restrict_L nw n c Z P u to d (k0 + 1) x3 U V)) else (f_M_restrict_L nw n c Z P u to d (k0 + 1) x3 U V))
theorem f_M_restrict_L_0 (nw : Int32) (n : Nat) (c : Nat) (Z : Nat → Nat → Int32) (P : Nat → Nat → Int32) (u : Int32) (to : Int32) (k0 : Nat) (x3 : Int32) (U : Nat → Nat → Int32) (V : Nat → Nat → Int32) : f_M_restrict_L nw n c Z P u to 0 k0 x3 U V = (x3, 0, nw, nI n, nI c, Z, P, U, V) := rfl
theorem f_M_restrict_L_s (nw : Int32) (n : Nat) (c : Nat) (Z : Nat → Nat → Int32) (P : Nat → Nat → Int32) (u : Int32) (to : Int32) (d k0 : Nat) (x3 : Int32) (U : Nat → Nat → Int32) (V : Nat → Nat → Int32) : f_M_restrict_L nw n c Z P u to (d + 1) k0 x3 U V = (if (V 1 k0) = u then (if (V 2 k0) = 0 then (if (P 0 (V 0 k0).toNatClampNeg) < to then (f_M_restrict_L nw n c Z P u to d (k0 + 1) (x3 + 1) U (up2 V 2 k0 4)) else (f_M_restrict_L nw n c Z P u to d (k0 + 1) x3 U V)) else (f_M_restrict_L nw n c Z P u to d (k0 + 1) x3 U V)) else (f_M_restrict_L nw n c Z P u to d (k0 + 1) x3 U V)) := rfl
def f_M_restrict (nw : Int32) (n : Nat) (c : Nat) (Z : Nat → Nat → Int32) (P : Nat → Nat → Int32) (U : Nat → Nat → Int32) (V : Nat → Nat → Int32) (u : Int32) (to : Int32) : Int32 × Int32 × Int32 × Int32 × Int32 × (Nat → Nat → Int32) × (Nat → Nat → Int32) × (Nat → Nat → Int32) × (Nat → Nat → Int32) := (if (f_M_isUnit u) = 0 then ((-1), 0, nw, nI n, nI c, Z, P, U, V) else (if (f_M_in to 0 3) = 0 then ((-2), 0, nw, nI n, nI c, Z, P, U, V) else (f_M_restrict_L nw n c Z P u to c 0 0 (up2 U 2 u.toNatClampNeg to) V)))
set_option maxHeartbeats 4000000 in
set_option maxRecDepth 100000 in
theorem lp_M_restrict (l : Launch) (D : va_G) (cI : ClassId) (a : Nat → Nat) (nw : Int32) (k : Nat) (n : Nat) (c : Nat) (Z : Nat → Nat → Int32) (P : Nat → Nat → Int32) (u : Int32) (to : Int32) (hk : k ≤ 20) (hn : n ≤ 60) (hc : c ≤ 300) {p : Program} {e : Env} {s : State} {m : MethodId} {below : List Frame} {meth : Method} {c0 : Code} {A : Nat → Prop} (E : CallFix p m c0 b_M_restrict 5 s ([.ref (a 0), .int u, .int to] : List Value).toArray zB y_M_restrict.cls) (hrt : meth.sig.returnType = (some .int)) (hlk : meth.locks = false) (hN : zN s) (hK : va_K D vwCl [(cI, .int)] s) (hA : ∀ q, s.heap.size ≤ q → A q) :
    ∀ (d k0 : Nat) (x3 : Int32) (U : Nat → Nat → Int32) (V : Nat → Nat → Int32), k0 + d = c → (∀ i, vp_in (V 0 i) 60) → ∀ X : Int32 × Int32 × Int32 × Int32 × Int32 × (Nat → Nat → Int32) × (Nat → Nat → Int32) × (Nat → Nat → Int32) × (Nat → Nat → Int32), f_M_restrict_L nw n c Z P u to d k0 x3 U V = X → ∀ (H : Heap) (locs : List Loc), zG D A s H locs (wM a cI 0 nw (nI k) (nI n) (nI c) Z P U V) → ∀ ls : Array Slot, lv_has ls 5 [(4, .int (nI k0)), (3, .int x3), (0, .ref (a 0)), (1, .int u), (2, .int to)] → W p l e { frames := 2, cells := 0, slots := 0, locals := 42 } s m ([.ref (a 0), .int u, .int to] : List Value).toArray below meth c0 H locs 0 0 (MQ below (zQ D A (wM a cI X.2.1 X.2.2.1 (nI k) X.2.2.2.1 X.2.2.2.2.1 X.2.2.2.2.2.1 X.2.2.2.2.2.2.1 X.2.2.2.2.2.2.2.1 X.2.2.2.2.2.2.2.2) (some (.int X.1))) ([.ref (a 0), .int u, .int to] : List Value).toArray s 0 0 A) (F0 m 38 ls []) := by
  have hx := E.1
  have hb := E.2.1
  intro d
  induction d with
  | zero =>
    intro k0 x3 U V hkd hiv X hr H locs G ls hl
    refine lv_iload hx hb d_M_restrict_38 (lv_at hl 0 rfl) ?_
    refine lv_aload_n hx hb d_M_restrict_40 rfl (lv_at hl 2 rfl) ?_
    refine z_get (v := .int (nI c)) E hK G.1 i_M 0 15 rfl rfl (by decide) kf_M_97 rfl d_M_restrict_41 ?_
    refine lv_icmp_ge (tgt := 104) hx hb d_M_restrict_44 (by decide) (fun c_1 => ?_) (fun c_1 => absurd (nI_le (by omega) (by omega)) c_1)
    refine lv_iload_n hx hb d_M_restrict_104 rfl (lv_at hl 1 rfl) ?_
    have hf : X = (x3, 0, nw, nI n, nI c, Z, P, U, V) := by rw [← hr, f_M_restrict_L_0]
    exact zW.iret E hrt hlk G (by rw [hf]) (by rw [hf]) d_M_restrict_105
  | succ d ih =>
    intro k0 x3 U V hkd hiv X hr H locs G ls hl
    refine lv_iload hx hb d_M_restrict_38 (lv_at hl 0 rfl) ?_
    refine lv_aload_n hx hb d_M_restrict_40 rfl (lv_at hl 2 rfl) ?_
    refine z_get (v := .int (nI c)) E hK G.1 i_M 0 15 rfl rfl (by decide) kf_M_97 rfl d_M_restrict_41 ?_
    refine lv_icmp_ge (tgt := 104) hx hb d_M_restrict_44 (by decide) (fun c_2 => absurd c_2 (nI_ge (by omega) (by omega))) (fun c_2 => ?_)
    refine lv_aload_n hx hb d_M_restrict_47 rfl (lv_at hl 2 rfl) ?_
    refine z_get (v := .ref (a 13)) E hK G.1 i_M 0 17 rfl rfl (by decide) kf_M_46 rfl d_M_restrict_48 ?_
    refine lv_iload hx hb d_M_restrict_51 (lv_at hl 0 rfl) ?_
    refine z_aldN (f := V 1) (j := k0) E hK G.1 13 0 rfl rfl rfl (by omega) (by decide) d_M_restrict_53 ?_
    refine lv_iload_n hx hb d_M_restrict_54 rfl (lv_at hl 3 rfl) ?_
    refine lv_icmp_ne (tgt := 98) hx hb d_M_restrict_55 (by decide) (fun c_3 => ?_) (fun c_3 => ?_)
    · refine lv_iinc (v := nI (k0 + 1)) (lv' := [(4, .int (nI (k0 + 1))), (3, .int x3), (0, .ref (a 0)), (1, .int u), (2, .int to)]) hx hb d_M_restrict_98 hl (k := 0) rfl (nI_1 _) (by decide) rfl (fun ls hl => ?_)
      refine lv_goto (tgt := 38) hx hb d_M_restrict_101 (by decide) ?_
      exact ih (k0 + 1) x3 U V (by omega) hiv X (by rw [← hr, f_M_restrict_L_s, if_neg c_3]) H locs G ls (lv_sub hl [0, 1, 2, 3, 4] rfl)
    · refine lv_aload_n hx hb d_M_restrict_58 rfl (lv_at hl 2 rfl) ?_
      refine z_get (v := .ref (a 14)) E hK G.1 i_M 0 18 rfl rfl (by decide) kf_M_49 rfl d_M_restrict_59 ?_
      refine lv_iload hx hb d_M_restrict_62 (lv_at hl 0 rfl) ?_
      refine z_aldN (f := V 2) (j := k0) E hK G.1 14 0 rfl rfl rfl (by omega) (by decide) d_M_restrict_64 ?_
      refine lv_if_ne (tgt := 98) hx hb d_M_restrict_65 (by decide) (fun c_4 => ?_) (fun c_4 => ?_)
      · refine lv_iinc (v := nI (k0 + 1)) (lv' := [(4, .int (nI (k0 + 1))), (3, .int x3), (0, .ref (a 0)), (1, .int u), (2, .int to)]) hx hb d_M_restrict_98 hl (k := 0) rfl (nI_1 _) (by decide) rfl (fun ls hl => ?_)
        refine lv_goto (tgt := 38) hx hb d_M_restrict_101 (by decide) ?_
        exact ih (k0 + 1) x3 U V (by omega) hiv X (by rw [← hr, f_M_restrict_L_s, if_pos c_3, if_neg c_4]) H locs G ls (lv_sub hl [0, 1, 2, 3, 4] rfl)
      · refine lv_aload_n hx hb d_M_restrict_68 rfl (lv_at hl 2 rfl) ?_
        refine z_get (v := .ref (a 3)) E hK G.1 i_M 0 6 rfl rfl (by decide) kf_M_16 rfl d_M_restrict_69 ?_
        refine lv_aload_n hx hb d_M_restrict_72 rfl (lv_at hl 2 rfl) ?_
        refine z_get (v := .ref (a 12)) E hK G.1 i_M 0 16 rfl rfl (by decide) kf_M_43 rfl d_M_restrict_73 ?_
        refine lv_iload hx hb d_M_restrict_76 (lv_at hl 0 rfl) ?_
        refine z_aldN (f := V 0) (j := k0) E hK G.1 12 0 rfl rfl rfl (by omega) (by decide) d_M_restrict_78 ?_
        refine z_ald (f := P 0) E hK G.1 3 0 rfl rfl (hiv _) d_M_restrict_79 ?_
        refine lv_iload_n hx hb d_M_restrict_80 rfl (lv_at hl 4 rfl) ?_
        refine lv_icmp_lt (tgt := 87) hx hb d_M_restrict_81 (by decide) (fun c_5 => ?_) (fun c_5 => ?_)
        · refine lv_aload_n hx hb d_M_restrict_87 rfl (lv_at hl 2 rfl) ?_
          refine z_get (v := .ref (a 14)) E hK G.1 i_M 0 18 rfl rfl (by decide) kf_M_49 rfl d_M_restrict_88 ?_
          refine lv_iload hx hb d_M_restrict_91 (lv_at hl 0 rfl) ?_
          refine lv_iconst (v := 4) hx hb d_M_restrict_93 (by decide) ?_
          refine z_astN (f := V 2) (j := k0) (ws' := wM a cI 0 nw (nI k) (nI n) (nI c) Z P U (up2 V 2 k0 4)) E hK G 14 0 rfl rfl rfl (by omega) (by decide) rfl d_M_restrict_94 (fun H locs G => ?_)
          refine lv_iinc (v := x3 + 1) (lv' := [(3, .int (x3 + 1)), (4, .int (nI k0)), (0, .ref (a 0)), (1, .int u), (2, .int to)]) hx hb d_M_restrict_95 hl (k := 1) rfl rfl (by decide) rfl (fun ls hl => ?_)
          refine lv_iinc (v := nI (k0 + 1)) (lv' := [(4, .int (nI (k0 + 1))), (3, .int (x3 + 1)), (0, .ref (a 0)), (1, .int u), (2, .int to)]) hx hb d_M_restrict_98 hl (k := 1) rfl (nI_1 _) (by decide) rfl (fun ls hl => ?_)
          refine lv_goto (tgt := 38) hx hb d_M_restrict_101 (by decide) ?_
          exact ih (k0 + 1) (x3 + 1) U (up2 V 2 k0 4) (by omega) hiv X (by rw [← hr, f_M_restrict_L_s, if_pos c_3, if_pos c_4, if_pos c_5]) H locs G ls (lv_sub hl [0, 1, 2, 3, 4] rfl)
        · refine lv_goto (tgt := 98) hx hb d_M_restrict_84 (by decide) ?_
          refine lv_iinc (v := nI (k0 + 1)) (lv' := [(4, .int (nI (k0 + 1))), (3, .int x3), (0, .ref (a 0)), (1, .int u), (2, .int to)]) hx hb d_M_restrict_98 hl (k := 0) rfl (nI_1 _) (by decide) rfl (fun ls hl => ?_)
          refine lv_goto (tgt := 38) hx hb d_M_restrict_101 (by decide) ?_
          exact ih (k0 + 1) x3 U V (by omega) hiv X (by rw [← hr, f_M_restrict_L_s, if_pos c_3, if_pos c_4, if_neg c_5]) H locs G ls (lv_sub hl [0, 1, 2, 3, 4] rfl)
set_option maxHeartbeats 4000000 in
set_option maxRecDepth 100000 in
theorem c_M_restrict (l : Launch) (D : va_G) (cI : ClassId) (a : Nat → Nat) (th : Int32) (nw : Int32) (k : Nat) (n : Nat) (c : Nat) (Z : Nat → Nat → Int32) (P : Nat → Nat → Int32) (U : Nat → Nat → Int32) (V : Nat → Nat → Int32) (u : Int32) (to : Int32) (hk : k ≤ 20) (hn : n ≤ 60) (hc : c ≤ 300) (hV : ∀ i, vp_in (V 0 i) 60) : zW l D [(cI, .int)] y_M_restrict b_M_restrict 5 (some .int) 2 42 [.ref (a 0), .int u, .int to] (wM a cI th nw (nI k) (nI n) (nI c) Z P U V) (wM a cI ((f_M_restrict nw n c Z P U V u to).2.1) ((f_M_restrict nw n c Z P U V u to).2.2.1) (nI k) ((f_M_restrict nw n c Z P U V u to).2.2.2.1) ((f_M_restrict nw n c Z P U V u to).2.2.2.2.1) ((f_M_restrict nw n c Z P U V u to).2.2.2.2.2.1) ((f_M_restrict nw n c Z P U V u to).2.2.2.2.2.2.1) ((f_M_restrict nw n c Z P U V u to).2.2.2.2.2.2.2.1) ((f_M_restrict nw n c Z P U V u to).2.2.2.2.2.2.2.2)) (some (.int (f_M_restrict nw n c Z P U V u to).1)) := by
  refine zW.of (by decide) (Nat.le_of_ble_eq_true rfl) ?_
  intro p e s m below meth c0 ls A E hrt hlk hN hK hA G hl
  have hx := E.1
  have hb := E.2.1
  have hl : lv_has ls 5 [(0, .ref (a 0)), (1, .int u), (2, .int to)] := hl
  refine lv_aload_n hx hb d_M_restrict_0 rfl (lv_at hl 0 rfl) ?_
  refine lv_iconst (v := 0) hx hb d_M_restrict_1 (by decide) ?_
  refine z_put (ty := .int) (ws' := wM a cI 0 nw (nI k) (nI n) (nI c) Z P U V) E hK G i_M t_M t_M_ok n_M 0 0 rfl rfl (by decide) kf_M_65 rfl rfl rfl rfl (Nat.le_of_ble_eq_true rfl) rfl d_M_restrict_2 (fun H locs G => ?_)
  refine lv_iload_n hx hb d_M_restrict_5 rfl (lv_at hl 1 rfl) ?_
  refine z_rs (As := [.int u]) (rest := []) E hN hK hl.1 (c_M_isUnit l D [(cI, .int)] u) kz_M_103 rfl ⟨Nat.le_of_ble_eq_true rfl, Nat.le_of_ble_eq_true rfl⟩ rfl (Nat.le_of_ble_eq_true rfl) ⟨Nat.zero_le _, Nat.zero_le _⟩ d_M_restrict_6 ?_
  refine lv_if_ne (tgt := 14) hx hb d_M_restrict_9 (by decide) (fun c_1 => ?_) (fun c_1 => ?_)
  · refine lv_iload_n hx hb d_M_restrict_14 rfl (lv_at hl 2 rfl) ?_
    refine lv_iconst (v := 0) hx hb d_M_restrict_15 (by decide) ?_
    refine lv_iconst (v := 3) hx hb d_M_restrict_16 (by decide) ?_
    refine z_rs (As := [.int to, .int 0, .int 3]) (rest := []) E hN hK hl.1 (c_M_in l D [(cI, .int)] to 0 3) kz_M_68 rfl ⟨Nat.le_of_ble_eq_true rfl, Nat.le_of_ble_eq_true rfl⟩ rfl (Nat.le_of_ble_eq_true rfl) ⟨Nat.zero_le _, Nat.zero_le _⟩ d_M_restrict_17 ?_
    refine lv_if_ne (tgt := 26) hx hb d_M_restrict_20 (by decide) (fun c_2 => ?_) (fun c_2 => ?_)
    · refine lv_aload_n hx hb d_M_restrict_26 rfl (lv_at hl 0 rfl) ?_
      refine z_get (v := .ref (a 10)) E hK G.1 i_M 0 13 rfl rfl (by decide) kf_M_37 rfl d_M_restrict_27 ?_
      refine lv_iload_n hx hb d_M_restrict_30 rfl (lv_at hl 1 rfl) ?_
      refine lv_iload_n hx hb d_M_restrict_31 rfl (lv_at hl 2 rfl) ?_
      refine z_ast (f := U 2) (ws' := wM a cI 0 nw (nI k) (nI n) (nI c) Z P (up2 U 2 u.toNatClampNeg to) V) E hK G 10 0 rfl rfl (in_unitM c_1) rfl d_M_restrict_32 (fun H locs G => ?_)
      refine lv_iconst (v := 0) hx hb d_M_restrict_33 (by decide) ?_
      refine lv_istore_n (lv' := [(3, .int 0), (0, .ref (a 0)), (1, .int u), (2, .int to)]) hx hb d_M_restrict_34 rfl hl (by decide) rfl (fun ls hl => ?_)
      refine lv_iconst (v := 0) hx hb d_M_restrict_35 (by decide) ?_
      refine lv_istore (lv' := [(4, .int 0), (3, .int 0), (0, .ref (a 0)), (1, .int u), (2, .int to)]) hx hb d_M_restrict_36 hl (by decide) rfl (fun ls hl => ?_)
      exact lp_M_restrict l D cI a nw k n c Z P u to hk hn hc E hrt hlk hN hK hA c 0 0 (up2 U 2 u.toNatClampNeg to) V (by omega) hV _ (by unfold f_M_restrict; rw [if_neg c_1, if_neg c_2]) _ _ G ls (by rw [nI_0]; exact lv_sub hl [0, 1, 2, 3, 4] rfl)
    · refine lv_bipush (v := (-2)) hx hb d_M_restrict_23 (by decide) ?_
      have hf : f_M_restrict nw n c Z P U V u to = ((-2), 0, nw, nI n, nI c, Z, P, U, V) := by unfold f_M_restrict; rw [if_neg c_1, if_pos c_2]
      exact zW.iret E hrt hlk G (by rw [hf]) (by rw [hf]) d_M_restrict_25
  · refine lv_iconst (v := (-1)) hx hb d_M_restrict_12 (by decide) ?_
    have hf : f_M_restrict nw n c Z P U V u to = ((-1), 0, nw, nI n, nI c, Z, P, U, V) := by unfold f_M_restrict; rw [if_pos c_1]
    exact zW.iret E hrt hlk G (by rw [hf]) (by rw [hf]) d_M_restrict_13
def f_M_copy (nw : Int32) (n : Nat) (c : Nat) (Z : Nat → Nat → Int32) (P : Nat → Nat → Int32) (U : Nat → Nat → Int32) (V : Nat → Nat → Int32) (u : Int32) (pages : Int32) (t : Int32) : Int32 × Int32 × Int32 × Int32 × Int32 × (Nat → Nat → Int32) × (Nat → Nat → Int32) × (Nat → Nat → Int32) × (Nat → Nat → Int32) := (if (f_M_isUnit u) = 0 then ((-1), 0, nw, nI n, nI c, Z, P, U, V) else (if (f_M_in pages 1 500) = 0 then ((-2), 0, nw, nI n, nI c, Z, P, U, V) else (if (f_M_isNow nw t) = 0 then ((-2), 0, nw, nI n, nI c, Z, P, U, V) else (if (U 0 u.toNatClampNeg) = 2 then (if (U 1 u.toNatClampNeg) ≤ 1 then (if (P 3 (V 0 (U 3 u.toNatClampNeg).toNatClampNeg).toNatClampNeg) = (t / 86400) then (if ((P 4 (V 0 (U 3 u.toNatClampNeg).toNatClampNeg).toNatClampNeg) + pages) ≤ (P 2 (V 0 (U 3 u.toNatClampNeg).toNatClampNeg).toNatClampNeg) then ((P 2 (V 0 (U 3 u.toNatClampNeg).toNatClampNeg).toNatClampNeg) - ((up2 P 4 (V 0 (U 3 u.toNatClampNeg).toNatClampNeg).toNatClampNeg ((P 4 (V 0 (U 3 u.toNatClampNeg).toNatClampNeg).toNatClampNeg) + pages)) 4 (V 0 (U 3 u.toNatClampNeg).toNatClampNeg).toNatClampNeg), 0, t, nI n, nI c, Z, up2 (up2 P 4 (V 0 (U 3 u.toNatClampNeg).toNatClampNeg).toNatClampNeg ((P 4 (V 0 (U 3 u.toNatClampNeg).toNatClampNeg).toNatClampNeg) + pages)) 3 (V 0 (U 3 u.toNatClampNeg).toNatClampNeg).toNatClampNeg (t / 86400), U, V) else ((-4), 0, nw, nI n, nI c, Z, P, U, V)) else (if (0 + pages) ≤ (P 2 (V 0 (U 3 u.toNatClampNeg).toNatClampNeg).toNatClampNeg) then ((P 2 (V 0 (U 3 u.toNatClampNeg).toNatClampNeg).toNatClampNeg) - ((up2 P 4 (V 0 (U 3 u.toNatClampNeg).toNatClampNeg).toNatClampNeg (0 + pages)) 4 (V 0 (U 3 u.toNatClampNeg).toNatClampNeg).toNatClampNeg), 0, t, nI n, nI c, Z, up2 (up2 P 4 (V 0 (U 3 u.toNatClampNeg).toNatClampNeg).toNatClampNeg (0 + pages)) 3 (V 0 (U 3 u.toNatClampNeg).toNatClampNeg).toNatClampNeg (t / 86400), U, V) else ((-4), 0, nw, nI n, nI c, Z, P, U, V))) else ((-3), 0, nw, nI n, nI c, Z, P, U, V)) else ((-3), 0, nw, nI n, nI c, Z, P, U, V)))))
set_option maxHeartbeats 4000000 in
set_option maxRecDepth 100000 in
theorem c_M_copy (l : Launch) (D : va_G) (cI : ClassId) (a : Nat → Nat) (th : Int32) (nw : Int32) (k : Nat) (n : Nat) (c : Nat) (Z : Nat → Nat → Int32) (P : Nat → Nat → Int32) (U : Nat → Nat → Int32) (V : Nat → Nat → Int32) (u : Int32) (pages : Int32) (t : Int32) (hk : k ≤ 20) (hn : n ≤ 60) (hc : c ≤ 300) (hU : ∀ u, u < 80 → (U 0 u = 1 ∨ U 0 u = 2) → vp_in (U 3 u) 300) (hV : ∀ i, vp_in (V 0 i) 60) : zW l D [(cI, .int)] y_M_copy b_M_copy 6 (some .int) 2 43 [.ref (a 0), .int u, .int pages, .int t] (wM a cI th nw (nI k) (nI n) (nI c) Z P U V) (wM a cI ((f_M_copy nw n c Z P U V u pages t).2.1) ((f_M_copy nw n c Z P U V u pages t).2.2.1) (nI k) ((f_M_copy nw n c Z P U V u pages t).2.2.2.1) ((f_M_copy nw n c Z P U V u pages t).2.2.2.2.1) ((f_M_copy nw n c Z P U V u pages t).2.2.2.2.2.1) ((f_M_copy nw n c Z P U V u pages t).2.2.2.2.2.2.1) ((f_M_copy nw n c Z P U V u pages t).2.2.2.2.2.2.2.1) ((f_M_copy nw n c Z P U V u pages t).2.2.2.2.2.2.2.2)) (some (.int (f_M_copy nw n c Z P U V u pages t).1)) := by
  refine zW.of (by decide) (Nat.le_of_ble_eq_true rfl) ?_
  intro p e s m below meth c0 ls A E hrt hlk hN hK hA G hl
  have hx := E.1
  have hb := E.2.1
  have hl : lv_has ls 6 [(0, .ref (a 0)), (1, .int u), (2, .int pages), (3, .int t)] := hl
  refine lv_aload_n hx hb d_M_copy_0 rfl (lv_at hl 0 rfl) ?_
  refine lv_iconst (v := 0) hx hb d_M_copy_1 (by decide) ?_
  refine z_put (ty := .int) (ws' := wM a cI 0 nw (nI k) (nI n) (nI c) Z P U V) E hK G i_M t_M t_M_ok n_M 0 0 rfl rfl (by decide) kf_M_65 rfl rfl rfl rfl (Nat.le_of_ble_eq_true rfl) rfl d_M_copy_2 (fun H locs G => ?_)
  refine lv_iload_n hx hb d_M_copy_5 rfl (lv_at hl 1 rfl) ?_
  refine z_rs (As := [.int u]) (rest := []) E hN hK hl.1 (c_M_isUnit l D [(cI, .int)] u) kz_M_103 rfl ⟨Nat.le_of_ble_eq_true rfl, Nat.le_of_ble_eq_true rfl⟩ rfl (Nat.le_of_ble_eq_true rfl) ⟨Nat.zero_le _, Nat.zero_le _⟩ d_M_copy_6 ?_
  refine lv_if_ne (tgt := 14) hx hb d_M_copy_9 (by decide) (fun c_1 => ?_) (fun c_1 => ?_)
  · refine lv_iload_n hx hb d_M_copy_14 rfl (lv_at hl 2 rfl) ?_
    refine lv_iconst (v := 1) hx hb d_M_copy_15 (by decide) ?_
    refine lv_sipush (v := 500) hx hb d_M_copy_16 (by decide) ?_
    refine z_rs (As := [.int pages, .int 1, .int 500]) (rest := []) E hN hK hl.1 (c_M_in l D [(cI, .int)] pages 1 500) kz_M_68 rfl ⟨Nat.le_of_ble_eq_true rfl, Nat.le_of_ble_eq_true rfl⟩ rfl (Nat.le_of_ble_eq_true rfl) ⟨Nat.zero_le _, Nat.zero_le _⟩ d_M_copy_19 ?_
    refine lv_if_eq (tgt := 33) hx hb d_M_copy_22 (by decide) (fun c_2 => ?_) (fun c_2 => ?_)
    · refine lv_bipush (v := (-2)) hx hb d_M_copy_33 (by decide) ?_
      have hf : f_M_copy nw n c Z P U V u pages t = ((-2), 0, nw, nI n, nI c, Z, P, U, V) := by unfold f_M_copy; rw [if_neg c_1, if_pos c_2]
      exact zW.iret E hrt hlk G (by rw [hf]) (by rw [hf]) d_M_copy_35
    · refine lv_aload_n hx hb d_M_copy_25 rfl (lv_at hl 0 rfl) ?_
      refine lv_iload_n hx hb d_M_copy_26 rfl (lv_at hl 3 rfl) ?_
      refine z_rv (As := [.int t]) (rest := []) E hN hK G.1 hl.1 (c_M_isNow l D cI a 0 nw k n c Z P U V t hk hn hc) [0, 1, 2, 3, 4, 5, 6, 7, 8, 9, 10, 11, 12, 13, 14, 15, 16, 17] rfl 0 rfl rfl kz_M_106 rfl ⟨Nat.le_of_ble_eq_true rfl, Nat.le_of_ble_eq_true rfl⟩ rfl (Nat.le_of_ble_eq_true rfl) ⟨Nat.zero_le _, Nat.zero_le _⟩ d_M_copy_27 ?_
      refine lv_if_ne (tgt := 36) hx hb d_M_copy_30 (by decide) (fun c_3 => ?_) (fun c_3 => ?_)
      · refine lv_aload_n hx hb d_M_copy_36 rfl (lv_at hl 0 rfl) ?_
        refine z_get (v := .ref (a 8)) E hK G.1 i_M 0 11 rfl rfl (by decide) kf_M_31 rfl d_M_copy_37 ?_
        refine lv_iload_n hx hb d_M_copy_40 rfl (lv_at hl 1 rfl) ?_
        refine z_ald (f := U 0) E hK G.1 8 0 rfl rfl (in_unitM c_1) d_M_copy_41 ?_
        refine lv_iconst (v := 2) hx hb d_M_copy_42 (by decide) ?_
        refine lv_icmp_ne (tgt := 56) hx hb d_M_copy_43 (by decide) (fun c_4 => ?_) (fun c_4 => ?_)
        · refine lv_bipush (v := (-3)) hx hb d_M_copy_56 (by decide) ?_
          have hf : f_M_copy nw n c Z P U V u pages t = ((-3), 0, nw, nI n, nI c, Z, P, U, V) := by unfold f_M_copy; rw [if_neg c_1, if_neg c_2, if_neg c_3, if_neg c_4]
          exact zW.iret E hrt hlk G (by rw [hf]) (by rw [hf]) d_M_copy_58
        · refine lv_aload_n hx hb d_M_copy_46 rfl (lv_at hl 0 rfl) ?_
          refine z_get (v := .ref (a 9)) E hK G.1 i_M 0 12 rfl rfl (by decide) kf_M_34 rfl d_M_copy_47 ?_
          refine lv_iload_n hx hb d_M_copy_50 rfl (lv_at hl 1 rfl) ?_
          refine z_ald (f := U 1) E hK G.1 9 0 rfl rfl (in_unitM c_1) d_M_copy_51 ?_
          refine lv_iconst (v := 1) hx hb d_M_copy_52 (by decide) ?_
          refine lv_icmp_le (tgt := 59) hx hb d_M_copy_53 (by decide) (fun c_5 => ?_) (fun c_5 => ?_)
          · refine lv_aload_n hx hb d_M_copy_59 rfl (lv_at hl 0 rfl) ?_
            refine z_get (v := .ref (a 12)) E hK G.1 i_M 0 16 rfl rfl (by decide) kf_M_43 rfl d_M_copy_60 ?_
            refine lv_aload_n hx hb d_M_copy_63 rfl (lv_at hl 0 rfl) ?_
            refine z_get (v := .ref (a 11)) E hK G.1 i_M 0 14 rfl rfl (by decide) kf_M_40 rfl d_M_copy_64 ?_
            refine lv_iload_n hx hb d_M_copy_67 rfl (lv_at hl 1 rfl) ?_
            refine z_ald (f := U 3) E hK G.1 11 0 rfl rfl (in_unitM c_1) d_M_copy_68 ?_
            refine z_ald (f := V 0) E hK G.1 12 0 rfl rfl (hU _ (unit_lt c_1) (Or.inr c_4)) d_M_copy_69 ?_
            refine lv_istore (lv' := [(4, .int (V 0 (U 3 u.toNatClampNeg).toNatClampNeg)), (0, .ref (a 0)), (1, .int u), (2, .int pages), (3, .int t)]) hx hb d_M_copy_70 hl (by decide) rfl (fun ls hl => ?_)
            refine lv_aload_n hx hb d_M_copy_72 rfl (lv_at hl 1 rfl) ?_
            refine z_get (v := .ref (a 7)) E hK G.1 i_M 0 10 rfl rfl (by decide) kf_M_28 rfl d_M_copy_73 ?_
            refine lv_iload hx hb d_M_copy_76 (lv_at hl 0 rfl) ?_
            refine z_ald (f := P 3) E hK G.1 7 0 rfl rfl (hV _) d_M_copy_78 ?_
            refine lv_iload_n hx hb d_M_copy_79 rfl (lv_at hl 4 rfl) ?_
            refine lv_ldc (v := 86400) hx hb E.2.2.2.1 (E.2.2.2.2 _ kc_M_119) d_M_copy_80 ?_
            refine lv_idiv hx hb d_M_copy_82 (by decide) ?_
            refine lv_icmp_ne (tgt := 96) hx hb d_M_copy_83 (by decide) (fun c_6 => ?_) (fun c_6 => ?_)
            · refine lv_iconst (v := 0) hx hb d_M_copy_96 (by decide) ?_
              refine lv_istore (lv' := [(5, .int 0), (4, .int (V 0 (U 3 u.toNatClampNeg).toNatClampNeg)), (0, .ref (a 0)), (1, .int u), (2, .int pages), (3, .int t)]) hx hb d_M_copy_97 hl (by decide) rfl (fun ls hl => ?_)
              refine lv_iload hx hb d_M_copy_99 (lv_at hl 0 rfl) ?_
              refine lv_iload_n hx hb d_M_copy_101 rfl (lv_at hl 4 rfl) ?_
              refine lv_iadd hx hb d_M_copy_102 ?_
              refine lv_aload_n hx hb d_M_copy_103 rfl (lv_at hl 2 rfl) ?_
              refine z_get (v := .ref (a 5)) E hK G.1 i_M 0 8 rfl rfl (by decide) kf_M_22 rfl d_M_copy_104 ?_
              refine lv_iload hx hb d_M_copy_107 (lv_at hl 1 rfl) ?_
              refine z_ald (f := P 2) E hK G.1 5 0 rfl rfl (hV _) d_M_copy_109 ?_
              refine lv_icmp_le (tgt := 116) hx hb d_M_copy_110 (by decide) (fun c_7 => ?_) (fun c_7 => ?_)
              · refine lv_aload_n hx hb d_M_copy_116 rfl (lv_at hl 2 rfl) ?_
                refine lv_iload_n hx hb d_M_copy_117 rfl (lv_at hl 5 rfl) ?_
                refine z_put (ty := .int) (ws' := wM a cI 0 t (nI k) (nI n) (nI c) Z P U V) E hK G i_M t_M t_M_ok n_M 0 1 rfl rfl (by decide) kf_M_72 rfl rfl rfl rfl (Nat.le_of_ble_eq_true rfl) rfl d_M_copy_118 (fun H locs G => ?_)
                refine lv_aload_n hx hb d_M_copy_121 rfl (lv_at hl 2 rfl) ?_
                refine z_get (v := .ref (a 6)) E hK G.1 i_M 0 9 rfl rfl (by decide) kf_M_25 rfl d_M_copy_122 ?_
                refine lv_iload hx hb d_M_copy_125 (lv_at hl 1 rfl) ?_
                refine lv_iload hx hb d_M_copy_127 (lv_at hl 0 rfl) ?_
                refine lv_iload_n hx hb d_M_copy_129 rfl (lv_at hl 4 rfl) ?_
                refine lv_iadd hx hb d_M_copy_130 ?_
                refine z_ast (f := P 4) (ws' := wM a cI 0 t (nI k) (nI n) (nI c) Z (up2 P 4 (V 0 (U 3 u.toNatClampNeg).toNatClampNeg).toNatClampNeg (0 + pages)) U V) E hK G 6 0 rfl rfl (hV _) rfl d_M_copy_131 (fun H locs G => ?_)
                refine lv_aload_n hx hb d_M_copy_132 rfl (lv_at hl 2 rfl) ?_
                refine z_get (v := .ref (a 7)) E hK G.1 i_M 0 10 rfl rfl (by decide) kf_M_28 rfl d_M_copy_133 ?_
                refine lv_iload hx hb d_M_copy_136 (lv_at hl 1 rfl) ?_
                refine lv_iload_n hx hb d_M_copy_138 rfl (lv_at hl 5 rfl) ?_
                refine lv_ldc (v := 86400) hx hb E.2.2.2.1 (E.2.2.2.2 _ kc_M_119) d_M_copy_139 ?_
                refine lv_idiv hx hb d_M_copy_141 (by decide) ?_
                refine z_ast (f := (up2 P 4 (V 0 (U 3 u.toNatClampNeg).toNatClampNeg).toNatClampNeg (0 + pages)) 3) (ws' := wM a cI 0 t (nI k) (nI n) (nI c) Z (up2 (up2 P 4 (V 0 (U 3 u.toNatClampNeg).toNatClampNeg).toNatClampNeg (0 + pages)) 3 (V 0 (U 3 u.toNatClampNeg).toNatClampNeg).toNatClampNeg (t / 86400)) U V) E hK G 7 0 rfl rfl (hV _) rfl d_M_copy_142 (fun H locs G => ?_)
                refine lv_aload_n hx hb d_M_copy_143 rfl (lv_at hl 2 rfl) ?_
                refine z_get (v := .ref (a 5)) E hK G.1 i_M 0 8 rfl rfl (by decide) kf_M_22 rfl d_M_copy_144 ?_
                refine lv_iload hx hb d_M_copy_147 (lv_at hl 1 rfl) ?_
                refine z_ald (f := P 2) E hK G.1 5 0 rfl rfl (hV _) d_M_copy_149 ?_
                refine lv_aload_n hx hb d_M_copy_150 rfl (lv_at hl 2 rfl) ?_
                refine z_get (v := .ref (a 6)) E hK G.1 i_M 0 9 rfl rfl (by decide) kf_M_25 rfl d_M_copy_151 ?_
                refine lv_iload hx hb d_M_copy_154 (lv_at hl 1 rfl) ?_
                refine z_ald (f := (up2 P 4 (V 0 (U 3 u.toNatClampNeg).toNatClampNeg).toNatClampNeg (0 + pages)) 4) E hK G.1 6 0 rfl rfl (hV _) d_M_copy_156 ?_
                refine lv_isub hx hb d_M_copy_157 ?_
                have hf : f_M_copy nw n c Z P U V u pages t = ((P 2 (V 0 (U 3 u.toNatClampNeg).toNatClampNeg).toNatClampNeg) - ((up2 P 4 (V 0 (U 3 u.toNatClampNeg).toNatClampNeg).toNatClampNeg (0 + pages)) 4 (V 0 (U 3 u.toNatClampNeg).toNatClampNeg).toNatClampNeg), 0, t, nI n, nI c, Z, up2 (up2 P 4 (V 0 (U 3 u.toNatClampNeg).toNatClampNeg).toNatClampNeg (0 + pages)) 3 (V 0 (U 3 u.toNatClampNeg).toNatClampNeg).toNatClampNeg (t / 86400), U, V) := by unfold f_M_copy; rw [if_neg c_1, if_neg c_2, if_neg c_3, if_pos c_4, if_pos c_5, if_neg c_6, if_pos c_7]
                exact zW.iret E hrt hlk G (by rw [hf]) (by rw [hf]) d_M_copy_158
              · refine lv_bipush (v := (-4)) hx hb d_M_copy_113 (by decide) ?_
                have hf : f_M_copy nw n c Z P U V u pages t = ((-4), 0, nw, nI n, nI c, Z, P, U, V) := by unfold f_M_copy; rw [if_neg c_1, if_neg c_2, if_neg c_3, if_pos c_4, if_pos c_5, if_neg c_6, if_neg c_7]
                exact zW.iret E hrt hlk G (by rw [hf]) (by rw [hf]) d_M_copy_115
            · refine lv_aload_n hx hb d_M_copy_86 rfl (lv_at hl 1 rfl) ?_
              refine z_get (v := .ref (a 6)) E hK G.1 i_M 0 9 rfl rfl (by decide) kf_M_25 rfl d_M_copy_87 ?_
              refine lv_iload hx hb d_M_copy_90 (lv_at hl 0 rfl) ?_
              refine z_ald (f := P 4) E hK G.1 6 0 rfl rfl (hV _) d_M_copy_92 ?_
              refine lv_goto (tgt := 97) hx hb d_M_copy_93 (by decide) ?_
              refine lv_istore (lv' := [(5, .int (P 4 (V 0 (U 3 u.toNatClampNeg).toNatClampNeg).toNatClampNeg)), (4, .int (V 0 (U 3 u.toNatClampNeg).toNatClampNeg)), (0, .ref (a 0)), (1, .int u), (2, .int pages), (3, .int t)]) hx hb d_M_copy_97 hl (by decide) rfl (fun ls hl => ?_)
              refine lv_iload hx hb d_M_copy_99 (lv_at hl 0 rfl) ?_
              refine lv_iload_n hx hb d_M_copy_101 rfl (lv_at hl 4 rfl) ?_
              refine lv_iadd hx hb d_M_copy_102 ?_
              refine lv_aload_n hx hb d_M_copy_103 rfl (lv_at hl 2 rfl) ?_
              refine z_get (v := .ref (a 5)) E hK G.1 i_M 0 8 rfl rfl (by decide) kf_M_22 rfl d_M_copy_104 ?_
              refine lv_iload hx hb d_M_copy_107 (lv_at hl 1 rfl) ?_
              refine z_ald (f := P 2) E hK G.1 5 0 rfl rfl (hV _) d_M_copy_109 ?_
              refine lv_icmp_le (tgt := 116) hx hb d_M_copy_110 (by decide) (fun c_8 => ?_) (fun c_8 => ?_)
              · refine lv_aload_n hx hb d_M_copy_116 rfl (lv_at hl 2 rfl) ?_
                refine lv_iload_n hx hb d_M_copy_117 rfl (lv_at hl 5 rfl) ?_
                refine z_put (ty := .int) (ws' := wM a cI 0 t (nI k) (nI n) (nI c) Z P U V) E hK G i_M t_M t_M_ok n_M 0 1 rfl rfl (by decide) kf_M_72 rfl rfl rfl rfl (Nat.le_of_ble_eq_true rfl) rfl d_M_copy_118 (fun H locs G => ?_)
                refine lv_aload_n hx hb d_M_copy_121 rfl (lv_at hl 2 rfl) ?_
                refine z_get (v := .ref (a 6)) E hK G.1 i_M 0 9 rfl rfl (by decide) kf_M_25 rfl d_M_copy_122 ?_
                refine lv_iload hx hb d_M_copy_125 (lv_at hl 1 rfl) ?_
                refine lv_iload hx hb d_M_copy_127 (lv_at hl 0 rfl) ?_
                refine lv_iload_n hx hb d_M_copy_129 rfl (lv_at hl 4 rfl) ?_
                refine lv_iadd hx hb d_M_copy_130 ?_
                refine z_ast (f := P 4) (ws' := wM a cI 0 t (nI k) (nI n) (nI c) Z (up2 P 4 (V 0 (U 3 u.toNatClampNeg).toNatClampNeg).toNatClampNeg ((P 4 (V 0 (U 3 u.toNatClampNeg).toNatClampNeg).toNatClampNeg) + pages)) U V) E hK G 6 0 rfl rfl (hV _) rfl d_M_copy_131 (fun H locs G => ?_)
                refine lv_aload_n hx hb d_M_copy_132 rfl (lv_at hl 2 rfl) ?_
                refine z_get (v := .ref (a 7)) E hK G.1 i_M 0 10 rfl rfl (by decide) kf_M_28 rfl d_M_copy_133 ?_
                refine lv_iload hx hb d_M_copy_136 (lv_at hl 1 rfl) ?_
                refine lv_iload_n hx hb d_M_copy_138 rfl (lv_at hl 5 rfl) ?_
                refine lv_ldc (v := 86400) hx hb E.2.2.2.1 (E.2.2.2.2 _ kc_M_119) d_M_copy_139 ?_
                refine lv_idiv hx hb d_M_copy_141 (by decide) ?_
                refine z_ast (f := (up2 P 4 (V 0 (U 3 u.toNatClampNeg).toNatClampNeg).toNatClampNeg ((P 4 (V 0 (U 3 u.toNatClampNeg).toNatClampNeg).toNatClampNeg) + pages)) 3) (ws' := wM a cI 0 t (nI k) (nI n) (nI c) Z (up2 (up2 P 4 (V 0 (U 3 u.toNatClampNeg).toNatClampNeg).toNatClampNeg ((P 4 (V 0 (U 3 u.toNatClampNeg).toNatClampNeg).toNatClampNeg) + pages)) 3 (V 0 (U 3 u.toNatClampNeg).toNatClampNeg).toNatClampNeg (t / 86400)) U V) E hK G 7 0 rfl rfl (hV _) rfl d_M_copy_142 (fun H locs G => ?_)
                refine lv_aload_n hx hb d_M_copy_143 rfl (lv_at hl 2 rfl) ?_
                refine z_get (v := .ref (a 5)) E hK G.1 i_M 0 8 rfl rfl (by decide) kf_M_22 rfl d_M_copy_144 ?_
                refine lv_iload hx hb d_M_copy_147 (lv_at hl 1 rfl) ?_
                refine z_ald (f := P 2) E hK G.1 5 0 rfl rfl (hV _) d_M_copy_149 ?_
                refine lv_aload_n hx hb d_M_copy_150 rfl (lv_at hl 2 rfl) ?_
                refine z_get (v := .ref (a 6)) E hK G.1 i_M 0 9 rfl rfl (by decide) kf_M_25 rfl d_M_copy_151 ?_
                refine lv_iload hx hb d_M_copy_154 (lv_at hl 1 rfl) ?_
                refine z_ald (f := (up2 P 4 (V 0 (U 3 u.toNatClampNeg).toNatClampNeg).toNatClampNeg ((P 4 (V 0 (U 3 u.toNatClampNeg).toNatClampNeg).toNatClampNeg) + pages)) 4) E hK G.1 6 0 rfl rfl (hV _) d_M_copy_156 ?_
                refine lv_isub hx hb d_M_copy_157 ?_
                have hf : f_M_copy nw n c Z P U V u pages t = ((P 2 (V 0 (U 3 u.toNatClampNeg).toNatClampNeg).toNatClampNeg) - ((up2 P 4 (V 0 (U 3 u.toNatClampNeg).toNatClampNeg).toNatClampNeg ((P 4 (V 0 (U 3 u.toNatClampNeg).toNatClampNeg).toNatClampNeg) + pages)) 4 (V 0 (U 3 u.toNatClampNeg).toNatClampNeg).toNatClampNeg), 0, t, nI n, nI c, Z, up2 (up2 P 4 (V 0 (U 3 u.toNatClampNeg).toNatClampNeg).toNatClampNeg ((P 4 (V 0 (U 3 u.toNatClampNeg).toNatClampNeg).toNatClampNeg) + pages)) 3 (V 0 (U 3 u.toNatClampNeg).toNatClampNeg).toNatClampNeg (t / 86400), U, V) := by unfold f_M_copy; rw [if_neg c_1, if_neg c_2, if_neg c_3, if_pos c_4, if_pos c_5, if_pos c_6, if_pos c_8]
                exact zW.iret E hrt hlk G (by rw [hf]) (by rw [hf]) d_M_copy_158
              · refine lv_bipush (v := (-4)) hx hb d_M_copy_113 (by decide) ?_
                have hf : f_M_copy nw n c Z P U V u pages t = ((-4), 0, nw, nI n, nI c, Z, P, U, V) := by unfold f_M_copy; rw [if_neg c_1, if_neg c_2, if_neg c_3, if_pos c_4, if_pos c_5, if_pos c_6, if_neg c_8]
                exact zW.iret E hrt hlk G (by rw [hf]) (by rw [hf]) d_M_copy_115
          · refine lv_bipush (v := (-3)) hx hb d_M_copy_56 (by decide) ?_
            have hf : f_M_copy nw n c Z P U V u pages t = ((-3), 0, nw, nI n, nI c, Z, P, U, V) := by unfold f_M_copy; rw [if_neg c_1, if_neg c_2, if_neg c_3, if_pos c_4, if_neg c_5]
            exact zW.iret E hrt hlk G (by rw [hf]) (by rw [hf]) d_M_copy_58
      · refine lv_bipush (v := (-2)) hx hb d_M_copy_33 (by decide) ?_
        have hf : f_M_copy nw n c Z P U V u pages t = ((-2), 0, nw, nI n, nI c, Z, P, U, V) := by unfold f_M_copy; rw [if_neg c_1, if_neg c_2, if_pos c_3]
        exact zW.iret E hrt hlk G (by rw [hf]) (by rw [hf]) d_M_copy_35
  · refine lv_iconst (v := (-1)) hx hb d_M_copy_12 (by decide) ?_
    have hf : f_M_copy nw n c Z P U V u pages t = ((-1), 0, nw, nI n, nI c, Z, P, U, V) := by unfold f_M_copy; rw [if_pos c_1]
    exact zW.iret E hrt hlk G (by rw [hf]) (by rw [hf]) d_M_copy_13
