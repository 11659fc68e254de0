section LA
variable {p : Program} {l : Launch} {e : Env} {s : State} {m : MethodId} {below : List Frame} {meth : Method} {c0 : Code} {D : va_G} {cI cJ : ClassId} {a bb : Nat → Nat} {o b L : Nat} {xs : Nat → Int32} {nw th : Int32} {k n c : Nat} {Z P U V PM : N2} {g : Nat → Int64} {A : Nat → Prop} {i : Int32} {ls : Array Slot} {H : Heap} {locs : List Loc} {cells slots : Nat}
set_option maxHeartbeats 4000000 in
set_option maxRecDepth 100000 in
theorem lw_come (E : CallFix p m c0 b_L_law 7 s #[Value.ref b] zB R_L) (hN : zN s) (hK : va_K D vwCl [(cI, .int), (cJ, .long)] s) (hA : ∀ q, s.heap.size ≤ q → A q) (hAq : ∀ q, q < s.heap.size → ¬ A q) (hX : va_X b L xs s s.heap) (hbl : b < s.heap.size) (h1 : vp_in (i + 1) L) (h2 : vp_in (i + 2) L) (h3 : vp_in (i + 3) L) (hcs : cells + 1 ≤ room_1.cells ∧ slots + 6 ≤ room_1.slots) (hR : Rel nw k n c Z P U V PM) (G : zG D A s H locs (wL a bb o cI cJ nw (nI k) (nI n) (nI c) Z P U V th nw (nI k) (nI n) (nI c) Z PM U V g)) (hl : lv_has ls 7 [(0, .ref b), (1, .ref (a 0)), (2, .ref (bb 0)), (3, .ref o), (4, .int i)]) (kk : lwNext p l e s m below meth c0 D cI cJ a bb o b A k i (cells + 1) (slots + 6)) : W p l e room_1 s m #[Value.ref b] below meth c0 H locs cells slots (lw_Z below #[Value.ref b] s) (F0 m 132 ls []) := by
  have hx := E.1
  have hb := E.2.1
  have hK1 : va_K D vwCl [(cI, .int)] s := hK.sub [0] rfl
  have hk := hR.1.1
  have hn := hR.1.2.1
  have hc := hR.1.2.2.1
  have hcs0 : cells ≤ room_1.cells ∧ slots ≤ room_1.slots := ⟨by omega, by omega⟩
  obtain ⟨r, nw1, th1, n1, c1, Z1, P1, U1, V1, PM1, eX, eM, hR1⟩ := ok_come hR (xs (i + 1).toNatClampNeg)
  have cX : zW l D [(cI, .int)] y_X_come b_X_come 2 (some .int) 5 105 (.ref (a 0) :: [.int (xs (i + 1).toNatClampNeg)]) (wX a cI nw (nI k) (nI n) (nI c) Z P U V) (wX a cI nw1 (nI k) (nI n1) (nI c1) Z1 P1 U1 V1) (some (.int r)) := by
    have h := c_X_come l D cI a nw k n c Z P U V (xs (i + 1).toNatClampNeg) hk hn hc
    rw [eX] at h
    exact h
  have cM : zW l D [(cI, .int)] y_M_come b_M_come 3 (some .int) 2 42 (.ref (bb 0) :: [.int (xs (i + 1).toNatClampNeg)]) (wM bb cI th nw (nI k) (nI n) (nI c) Z PM U V) (wM bb cI th1 nw1 (nI k) (nI n1) (nI c1) Z1 PM1 U1 V1) (some (.int r)) := by
    have h := c_M_come l D cI bb th nw k n c Z PM U V (xs (i + 1).toNatClampNeg) hk hn hc (hR.h60 (xs (i + 1).toNatClampNeg))
    rw [eM] at h
    exact h
  refine lv_aload_n hx hb d_L_law_132 rfl (lv_at hl 1 rfl) ?_
  refine lv_aload_n hx hb d_L_law_133 rfl (lv_at hl 0 rfl) ?_
  refine lv_iload hx hb d_L_law_134 (lv_at hl 4 rfl) ?_
  refine lv_iconst (v := 1) hx hb d_L_law_136 (by decide) ?_
  refine lv_iadd hx hb d_L_law_137 ?_
  refine va_sld hx hb hX hbl (hAq b hbl) G.2.2 h1 d_L_law_138 ?_
  refine z_wv (As := [.int (xs (i + 1).toNatClampNeg)]) (rest := []) (wr := ([22, 23, 24, 25, 26, 27, 28, 29, 30, 31, 32, 33, 34, 35, 36, 37, 38, 39, 40] : List Nat).filterMap (fun j => (wL a bb o cI cJ nw (nI k) (nI n) (nI c) Z P U V th nw (nI k) (nI n) (nI c) Z PM U V g)[j]?)) (ws' := wL a bb o cI cJ nw1 (nI k) (nI n1) (nI c1) Z1 P1 U1 V1 th nw (nI k) (nI n) (nI c) Z PM U V g) E hN hK1 hA G hl.1 cX [0, 1, 2, 3, 4, 5, 6, 7, 8, 9, 10, 11, 12, 13, 14, 15, 16, 17, 18, 19, 20, 21] [22, 23, 24, 25, 26, 27, 28, 29, 30, 31, 32, 33, 34, 35, 36, 37, 38, 39, 40] [19, 20, 21, 22, 23, 24, 25, 26, 27, 28, 29, 30, 31, 32, 33, 34, 35, 36, 37, 38, 39, 40, 0, 1, 2, 3, 4, 5, 6, 7, 8, 9, 10, 11, 12, 13, 14, 15, 16, 17, 18] rfl rfl rfl rfl rfl rfl (by decide) 0 rfl rfl kl_X_come rfl ⟨Nat.le_of_ble_eq_true rfl, Nat.le_of_ble_eq_true rfl⟩ rfl (Nat.le_of_ble_eq_true rfl) hcs0 d_L_law_139 (fun H locs G => ?_)
  refine lv_aload_n hx hb d_L_law_142 rfl (lv_at hl 2 rfl) ?_
  refine lv_aload_n hx hb d_L_law_143 rfl (lv_at hl 0 rfl) ?_
  refine lv_iload hx hb d_L_law_144 (lv_at hl 4 rfl) ?_
  refine lv_iconst (v := 1) hx hb d_L_law_146 (by decide) ?_
  refine lv_iadd hx hb d_L_law_147 ?_
  refine va_sld hx hb hX hbl (hAq b hbl) G.2.2 h1 d_L_law_148 ?_
  refine z_wv (As := [.int (xs (i + 1).toNatClampNeg)]) (rest := [.int r]) (wr := ([0, 1, 2, 3, 4, 5, 6, 7, 8, 9, 10, 11, 12, 13, 14, 15, 16, 17, 18, 19, 20, 21, 40] : List Nat).filterMap (fun j => (wL a bb o cI cJ nw1 (nI k) (nI n1) (nI c1) Z1 P1 U1 V1 th nw (nI k) (nI n) (nI c) Z PM U V g)[j]?)) (ws' := wL a bb o cI cJ nw1 (nI k) (nI n1) (nI c1) Z1 P1 U1 V1 th1 nw1 (nI k) (nI n1) (nI c1) Z1 PM1 U1 V1 g) E hN hK1 hA G hl.1 cM [22, 23, 24, 25, 26, 27, 28, 29, 30, 31, 32, 33, 34, 35, 36, 37, 38, 39] [0, 1, 2, 3, 4, 5, 6, 7, 8, 9, 10, 11, 12, 13, 14, 15, 16, 17, 18, 19, 20, 21, 40] [0, 1, 2, 3, 4, 5, 6, 7, 8, 9, 10, 11, 12, 13, 14, 15, 16, 17, 18, 19, 20, 21, 23, 24, 25, 26, 27, 28, 29, 30, 31, 32, 33, 34, 35, 36, 37, 38, 39, 40, 22] rfl rfl rfl rfl rfl rfl (by decide) 0 rfl rfl kl_M_come rfl ⟨Nat.le_of_ble_eq_true rfl, Nat.le_of_ble_eq_true rfl⟩ rfl (Nat.le_of_ble_eq_true rfl) hcs0 d_L_law_149 (fun H locs G => ?_)
  refine lv_icmp_eq (tgt := 811) hx hb d_L_law_152 (by decide) (fun _ => ?_) (fun z => absurd rfl z)
  exact kk.up nw1 th1 n1 c1 Z1 P1 U1 V1 PM1 g H locs ls hR1 G hl
set_option maxHeartbeats 4000000 in
set_option maxRecDepth 100000 in
theorem lw_leave (E : CallFix p m c0 b_L_law 7 s #[Value.ref b] zB R_L) (hN : zN s) (hK : va_K D vwCl [(cI, .int), (cJ, .long)] s) (hA : ∀ q, s.heap.size ≤ q → A q) (hAq : ∀ q, q < s.heap.size → ¬ A q) (hX : va_X b L xs s s.heap) (hbl : b < s.heap.size) (h1 : vp_in (i + 1) L) (h2 : vp_in (i + 2) L) (h3 : vp_in (i + 3) L) (hcs : cells + 1 ≤ room_1.cells ∧ slots + 6 ≤ room_1.slots) (hR : Rel nw k n c Z P U V PM) (G : zG D A s H locs (wL a bb o cI cJ nw (nI k) (nI n) (nI c) Z P U V th nw (nI k) (nI n) (nI c) Z PM U V g)) (hl : lv_has ls 7 [(0, .ref b), (1, .ref (a 0)), (2, .ref (bb 0)), (3, .ref o), (4, .int i)]) (kk : lwNext p l e s m below meth c0 D cI cJ a bb o b A k i (cells + 1) (slots + 6)) : W p l e room_1 s m #[Value.ref b] below meth c0 H locs cells slots (lw_Z below #[Value.ref b] s) (F0 m 157 ls []) := by
  have hx := E.1
  have hb := E.2.1
  have hK1 : va_K D vwCl [(cI, .int)] s := hK.sub [0] rfl
  have hk := hR.1.1
  have hn := hR.1.2.1
  have hc := hR.1.2.2.1
  have hcs0 : cells ≤ room_1.cells ∧ slots ≤ room_1.slots := ⟨by omega, by omega⟩
  obtain ⟨r, nw1, th1, n1, c1, Z1, P1, U1, V1, PM1, eX, eM, hR1⟩ := ok_leave hR (xs (i + 1).toNatClampNeg)
  have cX : zW l D [(cI, .int)] y_X_leave b_X_leave 2 (some .int) 5 105 (.ref (a 0) :: [.int (xs (i + 1).toNatClampNeg)]) (wX a cI nw (nI k) (nI n) (nI c) Z P U V) (wX a cI nw1 (nI k) (nI n1) (nI c1) Z1 P1 U1 V1) (some (.int r)) := by
    have h := c_X_leave l D cI a nw k n c Z P U V (xs (i + 1).toNatClampNeg) hk hn hc
    rw [eX] at h
    exact h
  have cM : zW l D [(cI, .int)] y_M_leave b_M_leave 4 (some .int) 2 42 (.ref (bb 0) :: [.int (xs (i + 1).toNatClampNeg)]) (wM bb cI th nw (nI k) (nI n) (nI c) Z PM U V) (wM bb cI th1 nw1 (nI k) (nI n1) (nI c1) Z1 PM1 U1 V1) (some (.int r)) := by
    have h := c_M_leave l D cI bb th nw k n c Z PM U V (xs (i + 1).toNatClampNeg) hk hn hc hR.hU
    rw [eM] at h
    exact h
  refine lv_aload_n hx hb d_L_law_157 rfl (lv_at hl 1 rfl) ?_
  refine lv_aload_n hx hb d_L_law_158 rfl (lv_at hl 0 rfl) ?_
  refine lv_iload hx hb d_L_law_159 (lv_at hl 4 rfl) ?_
  refine lv_iconst (v := 1) hx hb d_L_law_161 (by decide) ?_
  refine lv_iadd hx hb d_L_law_162 ?_
  refine va_sld hx hb hX hbl (hAq b hbl) G.2.2 h1 d_L_law_163 ?_
  refine z_wv (As := [.int (xs (i + 1).toNatClampNeg)]) (rest := []) (wr := ([22, 23, 24, 25, 26, 27, 28, 29, 30, 31, 32, 33, 34, 35, 36, 37, 38, 39, 40] : List Nat).filterMap (fun j => (wL a bb o cI cJ nw (nI k) (nI n) (nI c) Z P U V th nw (nI k) (nI n) (nI c) Z PM U V g)[j]?)) (ws' := wL a bb o cI cJ nw1 (nI k) (nI n1) (nI c1) Z1 P1 U1 V1 th nw (nI k) (nI n) (nI c) Z PM U V g) E hN hK1 hA G hl.1 cX [0, 1, 2, 3, 4, 5, 6, 7, 8, 9, 10, 11, 12, 13, 14, 15, 16, 17, 18, 19, 20, 21] [22, 23, 24, 25, 26, 27, 28, 29, 30, 31, 32, 33, 34, 35, 36, 37, 38, 39, 40] [19, 20, 21, 22, 23, 24, 25, 26, 27, 28, 29, 30, 31, 32, 33, 34, 35, 36, 37, 38, 39, 40, 0, 1, 2, 3, 4, 5, 6, 7, 8, 9, 10, 11, 12, 13, 14, 15, 16, 17, 18] rfl rfl rfl rfl rfl rfl (by decide) 0 rfl rfl kl_X_leave rfl ⟨Nat.le_of_ble_eq_true rfl, Nat.le_of_ble_eq_true rfl⟩ rfl (Nat.le_of_ble_eq_true rfl) hcs0 d_L_law_164 (fun H locs G => ?_)
  refine lv_aload_n hx hb d_L_law_167 rfl (lv_at hl 2 rfl) ?_
  refine lv_aload_n hx hb d_L_law_168 rfl (lv_at hl 0 rfl) ?_
  refine lv_iload hx hb d_L_law_169 (lv_at hl 4 rfl) ?_
  refine lv_iconst (v := 1) hx hb d_L_law_171 (by decide) ?_
  refine lv_iadd hx hb d_L_law_172 ?_
  refine va_sld hx hb hX hbl (hAq b hbl) G.2.2 h1 d_L_law_173 ?_
  refine z_wv (As := [.int (xs (i + 1).toNatClampNeg)]) (rest := [.int r]) (wr := ([0, 1, 2, 3, 4, 5, 6, 7, 8, 9, 10, 11, 12, 13, 14, 15, 16, 17, 18, 19, 20, 21, 40] : List Nat).filterMap (fun j => (wL a bb o cI cJ nw1 (nI k) (nI n1) (nI c1) Z1 P1 U1 V1 th nw (nI k) (nI n) (nI c) Z PM U V g)[j]?)) (ws' := wL a bb o cI cJ nw1 (nI k) (nI n1) (nI c1) Z1 P1 U1 V1 th1 nw1 (nI k) (nI n1) (nI c1) Z1 PM1 U1 V1 g) E hN hK1 hA G hl.1 cM [22, 23, 24, 25, 26, 27, 28, 29, 30, 31, 32, 33, 34, 35, 36, 37, 38, 39] [0, 1, 2, 3, 4, 5, 6, 7, 8, 9, 10, 11, 12, 13, 14, 15, 16, 17, 18, 19, 20, 21, 40] [0, 1, 2, 3, 4, 5, 6, 7, 8, 9, 10, 11, 12, 13, 14, 15, 16, 17, 18, 19, 20, 21, 23, 24, 25, 26, 27, 28, 29, 30, 31, 32, 33, 34, 35, 36, 37, 38, 39, 40, 22] rfl rfl rfl rfl rfl rfl (by decide) 0 rfl rfl kl_M_leave rfl ⟨Nat.le_of_ble_eq_true rfl, Nat.le_of_ble_eq_true rfl⟩ rfl (Nat.le_of_ble_eq_true rfl) hcs0 d_L_law_174 (fun H locs G => ?_)
  refine lv_icmp_eq (tgt := 811) hx hb d_L_law_177 (by decide) (fun _ => ?_) (fun z => absurd rfl z)
  exact kk.up nw1 th1 n1 c1 Z1 P1 U1 V1 PM1 g H locs ls hR1 G hl
set_option maxHeartbeats 4000000 in
set_option maxRecDepth 100000 in
theorem lw_ask (E : CallFix p m c0 b_L_law 7 s #[Value.ref b] zB R_L) (hN : zN s) (hK : va_K D vwCl [(cI, .int), (cJ, .long)] s) (hA : ∀ q, s.heap.size ≤ q → A q) (hAq : ∀ q, q < s.heap.size → ¬ A q) (hX : va_X b L xs s s.heap) (hbl : b < s.heap.size) (h1 : vp_in (i + 1) L) (h2 : vp_in (i + 2) L) (h3 : vp_in (i + 3) L) (hcs : cells + 1 ≤ room_1.cells ∧ slots + 6 ≤ room_1.slots) (hR : Rel nw k n c Z P U V PM) (G : zG D A s H locs (wL a bb o cI cJ nw (nI k) (nI n) (nI c) Z P U V th nw (nI k) (nI n) (nI c) Z PM U V g)) (hl : lv_has ls 7 [(0, .ref b), (1, .ref (a 0)), (2, .ref (bb 0)), (3, .ref o), (4, .int i)]) (kk : lwNext p l e s m below meth c0 D cI cJ a bb o b A k i (cells + 1) (slots + 6)) : W p l e room_1 s m #[Value.ref b] below meth c0 H locs cells slots (lw_Z below #[Value.ref b] s) (F0 m 182 ls []) := by
  have hx := E.1
  have hb := E.2.1
  have hK1 : va_K D vwCl [(cI, .int)] s := hK.sub [0] rfl
  have hk := hR.1.1
  have hn := hR.1.2.1
  have hc := hR.1.2.2.1
  have hcs0 : cells ≤ room_1.cells ∧ slots ≤ room_1.slots := ⟨by omega, by omega⟩
  obtain ⟨r, nw1, th1, n1, c1, Z1, P1, U1, V1, PM1, eX, eM, hR1⟩ := ok_ask hR (xs (i + 1).toNatClampNeg) (xs (i + 2).toNatClampNeg) (xs (i + 3).toNatClampNeg)
  have cX : zW l D [(cI, .int)] y_X_ask b_X_ask 4 (some .int) 4 88 (.ref (a 0) :: [.int (xs (i + 1).toNatClampNeg), .int (xs (i + 2).toNatClampNeg), .int (xs (i + 3).toNatClampNeg)]) (wX a cI nw (nI k) (nI n) (nI c) Z P U V) (wX a cI nw1 (nI k) (nI n1) (nI c1) Z1 P1 U1 V1) (some (.int r)) := by
    have h := c_X_ask l D cI a nw k n c Z P U V (xs (i + 1).toNatClampNeg) (xs (i + 2).toNatClampNeg) (xs (i + 3).toNatClampNeg) hk hn hc
    rw [eX] at h
    exact h
  have cM : zW l D [(cI, .int)] y_M_ask b_M_ask 6 (some .int) 2 44 (.ref (bb 0) :: [.int (xs (i + 1).toNatClampNeg), .int (xs (i + 2).toNatClampNeg), .int (xs (i + 3).toNatClampNeg)]) (wM bb cI th nw (nI k) (nI n) (nI c) Z PM U V) (wM bb cI th1 nw1 (nI k) (nI n1) (nI c1) Z1 PM1 U1 V1) (some (.int r)) := by
    have h := c_M_ask l D cI bb th nw k n c Z PM U V (xs (i + 1).toNatClampNeg) (xs (i + 2).toNatClampNeg) (xs (i + 3).toNatClampNeg) hk hn hc 
    rw [eM] at h
    exact h
  refine lv_aload_n hx hb d_L_law_182 rfl (lv_at hl 1 rfl) ?_
  refine lv_aload_n hx hb d_L_law_183 rfl (lv_at hl 0 rfl) ?_
  refine lv_iload hx hb d_L_law_184 (lv_at hl 4 rfl) ?_
  refine lv_iconst (v := 1) hx hb d_L_law_186 (by decide) ?_
  refine lv_iadd hx hb d_L_law_187 ?_
  refine va_sld hx hb hX hbl (hAq b hbl) G.2.2 h1 d_L_law_188 ?_
  refine lv_aload_n hx hb d_L_law_189 rfl (lv_at hl 0 rfl) ?_
  refine lv_iload hx hb d_L_law_190 (lv_at hl 4 rfl) ?_
  refine lv_iconst (v := 2) hx hb d_L_law_192 (by decide) ?_
  refine lv_iadd hx hb d_L_law_193 ?_
  refine va_sld hx hb hX hbl (hAq b hbl) G.2.2 h2 d_L_law_194 ?_
  refine lv_aload_n hx hb d_L_law_195 rfl (lv_at hl 0 rfl) ?_
  refine lv_iload hx hb d_L_law_196 (lv_at hl 4 rfl) ?_
  refine lv_iconst (v := 3) hx hb d_L_law_198 (by decide) ?_
  refine lv_iadd hx hb d_L_law_199 ?_
  refine va_sld hx hb hX hbl (hAq b hbl) G.2.2 h3 d_L_law_200 ?_
  refine z_wv (As := [.int (xs (i + 1).toNatClampNeg), .int (xs (i + 2).toNatClampNeg), .int (xs (i + 3).toNatClampNeg)]) (rest := []) (wr := ([22, 23, 24, 25, 26, 27, 28, 29, 30, 31, 32, 33, 34, 35, 36, 37, 38, 39, 40] : List Nat).filterMap (fun j => (wL a bb o cI cJ nw (nI k) (nI n) (nI c) Z P U V th nw (nI k) (nI n) (nI c) Z PM U V g)[j]?)) (ws' := wL a bb o cI cJ nw1 (nI k) (nI n1) (nI c1) Z1 P1 U1 V1 th nw (nI k) (nI n) (nI c) Z PM U V g) E hN hK1 hA G hl.1 cX [0, 1, 2, 3, 4, 5, 6, 7, 8, 9, 10, 11, 12, 13, 14, 15, 16, 17, 18, 19, 20, 21] [22, 23, 24, 25, 26, 27, 28, 29, 30, 31, 32, 33, 34, 35, 36, 37, 38, 39, 40] [19, 20, 21, 22, 23, 24, 25, 26, 27, 28, 29, 30, 31, 32, 33, 34, 35, 36, 37, 38, 39, 40, 0, 1, 2, 3, 4, 5, 6, 7, 8, 9, 10, 11, 12, 13, 14, 15, 16, 17, 18] rfl rfl rfl rfl rfl rfl (by decide) 0 rfl rfl kl_X_ask rfl ⟨Nat.le_of_ble_eq_true rfl, Nat.le_of_ble_eq_true rfl⟩ rfl (Nat.le_of_ble_eq_true rfl) hcs0 d_L_law_201 (fun H locs G => ?_)
  refine lv_aload_n hx hb d_L_law_204 rfl (lv_at hl 2 rfl) ?_
  refine lv_aload_n hx hb d_L_law_205 rfl (lv_at hl 0 rfl) ?_
  refine lv_iload hx hb d_L_law_206 (lv_at hl 4 rfl) ?_
  refine lv_iconst (v := 1) hx hb d_L_law_208 (by decide) ?_
  refine lv_iadd hx hb d_L_law_209 ?_
  refine va_sld hx hb hX hbl (hAq b hbl) G.2.2 h1 d_L_law_210 ?_
  refine lv_aload_n hx hb d_L_law_211 rfl (lv_at hl 0 rfl) ?_
  refine lv_iload hx hb d_L_law_212 (lv_at hl 4 rfl) ?_
  refine lv_iconst (v := 2) hx hb d_L_law_214 (by decide) ?_
  refine lv_iadd hx hb d_L_law_215 ?_
  refine va_sld hx hb hX hbl (hAq b hbl) G.2.2 h2 d_L_law_216 ?_
  refine lv_aload_n hx hb d_L_law_217 rfl (lv_at hl 0 rfl) ?_
  refine lv_iload hx hb d_L_law_218 (lv_at hl 4 rfl) ?_
  refine lv_iconst (v := 3) hx hb d_L_law_220 (by decide) ?_
  refine lv_iadd hx hb d_L_law_221 ?_
  refine va_sld hx hb hX hbl (hAq b hbl) G.2.2 h3 d_L_law_222 ?_
  refine z_wv (As := [.int (xs (i + 1).toNatClampNeg), .int (xs (i + 2).toNatClampNeg), .int (xs (i + 3).toNatClampNeg)]) (rest := [.int r]) (wr := ([0, 1, 2, 3, 4, 5, 6, 7, 8, 9, 10, 11, 12, 13, 14, 15, 16, 17, 18, 19, 20, 21, 40] : List Nat).filterMap (fun j => (wL a bb o cI cJ nw1 (nI k) (nI n1) (nI c1) Z1 P1 U1 V1 th nw (nI k) (nI n) (nI c) Z PM U V g)[j]?)) (ws' := wL a bb o cI cJ nw1 (nI k) (nI n1) (nI c1) Z1 P1 U1 V1 th1 nw1 (nI k) (nI n1) (nI c1) Z1 PM1 U1 V1 g) E hN hK1 hA G hl.1 cM [22, 23, 24, 25, 26, 27, 28, 29, 30, 31, 32, 33, 34, 35, 36, 37, 38, 39] [0, 1, 2, 3, 4, 5, 6, 7, 8, 9, 10, 11, 12, 13, 14, 15, 16, 17, 18, 19, 20, 21, 40] [0, 1, 2, 3, 4, 5, 6, 7, 8, 9, 10, 11, 12, 13, 14, 15, 16, 17, 18, 19, 20, 21, 23, 24, 25, 26, 27, 28, 29, 30, 31, 32, 33, 34, 35, 36, 37, 38, 39, 40, 22] rfl rfl rfl rfl rfl rfl (by decide) 0 rfl rfl kl_M_ask rfl ⟨Nat.le_of_ble_eq_true rfl, Nat.le_of_ble_eq_true rfl⟩ rfl (Nat.le_of_ble_eq_true rfl) hcs0 d_L_law_223 (fun H locs G => ?_)
  refine lv_icmp_eq (tgt := 811) hx hb d_L_law_226 (by decide) (fun _ => ?_) (fun z => absurd rfl z)
  exact kk.up nw1 th1 n1 c1 Z1 P1 U1 V1 PM1 g H locs ls hR1 G hl
set_option maxHeartbeats 4000000 in
set_option maxRecDepth 100000 in
theorem lw_fetch (E : CallFix p m c0 b_L_law 7 s #[Value.ref b] zB R_L) (hN : zN s) (hK : va_K D vwCl [(cI, .int), (cJ, .long)] s) (hA : ∀ q, s.heap.size ≤ q → A q) (hAq : ∀ q, q < s.heap.size → ¬ A q) (hX : va_X b L xs s s.heap) (hbl : b < s.heap.size) (h1 : vp_in (i + 1) L) (h2 : vp_in (i + 2) L) (h3 : vp_in (i + 3) L) (hcs : cells + 1 ≤ room_1.cells ∧ slots + 6 ≤ room_1.slots) (hR : Rel nw k n c Z P U V PM) (G : zG D A s H locs (wL a bb o cI cJ nw (nI k) (nI n) (nI c) Z P U V th nw (nI k) (nI n) (nI c) Z PM U V g)) (hl : lv_has ls 7 [(0, .ref b), (1, .ref (a 0)), (2, .ref (bb 0)), (3, .ref o), (4, .int i)]) (kk : lwNext p l e s m below meth c0 D cI cJ a bb o b A k i (cells + 1) (slots + 6)) : W p l e room_1 s m #[Value.ref b] below meth c0 H locs cells slots (lw_Z below #[Value.ref b] s) (F0 m 231 ls []) := by
  have hx := E.1
  have hb := E.2.1
  have hK1 : va_K D vwCl [(cI, .int)] s := hK.sub [0] rfl
  have hk := hR.1.1
  have hn := hR.1.2.1
  have hc := hR.1.2.2.1
  have hcs0 : cells ≤ room_1.cells ∧ slots ≤ room_1.slots := ⟨by omega, by omega⟩
  obtain ⟨r, nw1, th1, n1, c1, Z1, P1, U1, V1, PM1, eX, eM, hR1⟩ := ok_fetch hR (xs (i + 1).toNatClampNeg) (xs (i + 2).toNatClampNeg)
  have cX : zW l D [(cI, .int)] y_X_fetch b_X_fetch 4 (some .int) 4 89 (.ref (a 0) :: [.int (xs (i + 1).toNatClampNeg), .int (xs (i + 2).toNatClampNeg)]) (wX a cI nw (nI k) (nI n) (nI c) Z P U V) (wX a cI nw1 (nI k) (nI n1) (nI c1) Z1 P1 U1 V1) (some (.int r)) := by
    have h := c_X_fetch l D cI a nw k n c Z P U V (xs (i + 1).toNatClampNeg) (xs (i + 2).toNatClampNeg) hk hn hc
    rw [eX] at h
    exact h
  have cM : zW l D [(cI, .int)] y_M_fetch b_M_fetch 3 (some .int) 2 43 (.ref (bb 0) :: [.int (xs (i + 1).toNatClampNeg), .int (xs (i + 2).toNatClampNeg)]) (wM bb cI th nw (nI k) (nI n) (nI c) Z PM U V) (wM bb cI th1 nw1 (nI k) (nI n1) (nI c1) Z1 PM1 U1 V1) (some (.int r)) := by
    have h := c_M_fetch l D cI bb th nw k n c Z PM U V (xs (i + 1).toNatClampNeg) (xs (i + 2).toNatClampNeg) hk hn hc 
    rw [eM] at h
    exact h
  refine lv_aload_n hx hb d_L_law_231 rfl (lv_at hl 1 rfl) ?_
  refine lv_aload_n hx hb d_L_law_232 rfl (lv_at hl 0 rfl) ?_
  refine lv_iload hx hb d_L_law_233 (lv_at hl 4 rfl) ?_
  refine lv_iconst (v := 1) hx hb d_L_law_235 (by decide) ?_
  refine lv_iadd hx hb d_L_law_236 ?_
  refine va_sld hx hb hX hbl (hAq b hbl) G.2.2 h1 d_L_law_237 ?_
  refine lv_aload_n hx hb d_L_law_238 rfl (lv_at hl 0 rfl) ?_
  refine lv_iload hx hb d_L_law_239 (lv_at hl 4 rfl) ?_
  refine lv_iconst (v := 2) hx hb d_L_law_241 (by decide) ?_
  refine lv_iadd hx hb d_L_law_242 ?_
  refine va_sld hx hb hX hbl (hAq b hbl) G.2.2 h2 d_L_law_243 ?_
  refine z_wv (As := [.int (xs (i + 1).toNatClampNeg), .int (xs (i + 2).toNatClampNeg)]) (rest := []) (wr := ([22, 23, 24, 25, 26, 27, 28, 29, 30, 31, 32, 33, 34, 35, 36, 37, 38, 39, 40] : List Nat).filterMap (fun j => (wL a bb o cI cJ nw (nI k) (nI n) (nI c) Z P U V th nw (nI k) (nI n) (nI c) Z PM U V g)[j]?)) (ws' := wL a bb o cI cJ nw1 (nI k) (nI n1) (nI c1) Z1 P1 U1 V1 th nw (nI k) (nI n) (nI c) Z PM U V g) E hN hK1 hA G hl.1 cX [0, 1, 2, 3, 4, 5, 6, 7, 8, 9, 10, 11, 12, 13, 14, 15, 16, 17, 18, 19, 20, 21] [22, 23, 24, 25, 26, 27, 28, 29, 30, 31, 32, 33, 34, 35, 36, 37, 38, 39, 40] [19, 20, 21, 22, 23, 24, 25, 26, 27, 28, 29, 30, 31, 32, 33, 34, 35, 36, 37, 38, 39, 40, 0, 1, 2, 3, 4, 5, 6, 7, 8, 9, 10, 11, 12, 13, 14, 15, 16, 17, 18] rfl rfl rfl rfl rfl rfl (by decide) 0 rfl rfl kl_X_fetch rfl ⟨Nat.le_of_ble_eq_true rfl, Nat.le_of_ble_eq_true rfl⟩ rfl (Nat.le_of_ble_eq_true rfl) hcs0 d_L_law_244 (fun H locs G => ?_)
  refine lv_aload_n hx hb d_L_law_247 rfl (lv_at hl 2 rfl) ?_
  refine lv_aload_n hx hb d_L_law_248 rfl (lv_at hl 0 rfl) ?_
  refine lv_iload hx hb d_L_law_249 (lv_at hl 4 rfl) ?_
  refine lv_iconst (v := 1) hx hb d_L_law_251 (by decide) ?_
  refine lv_iadd hx hb d_L_law_252 ?_
  refine va_sld hx hb hX hbl (hAq b hbl) G.2.2 h1 d_L_law_253 ?_
  refine lv_aload_n hx hb d_L_law_254 rfl (lv_at hl 0 rfl) ?_
  refine lv_iload hx hb d_L_law_255 (lv_at hl 4 rfl) ?_
  refine lv_iconst (v := 2) hx hb d_L_law_257 (by decide) ?_
  refine lv_iadd hx hb d_L_law_258 ?_
  refine va_sld hx hb hX hbl (hAq b hbl) G.2.2 h2 d_L_law_259 ?_
  refine z_wv (As := [.int (xs (i + 1).toNatClampNeg), .int (xs (i + 2).toNatClampNeg)]) (rest := [.int r]) (wr := ([0, 1, 2, 3, 4, 5, 6, 7, 8, 9, 10, 11, 12, 13, 14, 15, 16, 17, 18, 19, 20, 21, 40] : List Nat).filterMap (fun j => (wL a bb o cI cJ nw1 (nI k) (nI n1) (nI c1) Z1 P1 U1 V1 th nw (nI k) (nI n) (nI c) Z PM U V g)[j]?)) (ws' := wL a bb o cI cJ nw1 (nI k) (nI n1) (nI c1) Z1 P1 U1 V1 th1 nw1 (nI k) (nI n1) (nI c1) Z1 PM1 U1 V1 g) E hN hK1 hA G hl.1 cM [22, 23, 24, 25, 26, 27, 28, 29, 30, 31, 32, 33, 34, 35, 36, 37, 38, 39] [0, 1, 2, 3, 4, 5, 6, 7, 8, 9, 10, 11, 12, 13, 14, 15, 16, 17, 18, 19, 20, 21, 40] [0, 1, 2, 3, 4, 5, 6, 7, 8, 9, 10, 11, 12, 13, 14, 15, 16, 17, 18, 19, 20, 21, 23, 24, 25, 26, 27, 28, 29, 30, 31, 32, 33, 34, 35, 36, 37, 38, 39, 40, 22] rfl rfl rfl rfl rfl rfl (by decide) 0 rfl rfl kl_M_fetch rfl ⟨Nat.le_of_ble_eq_true rfl, Nat.le_of_ble_eq_true rfl⟩ rfl (Nat.le_of_ble_eq_true rfl) hcs0 d_L_law_260 (fun H locs G => ?_)
  refine lv_icmp_eq (tgt := 811) hx hb d_L_law_263 (by decide) (fun _ => ?_) (fun z => absurd rfl z)
  exact kk.up nw1 th1 n1 c1 Z1 P1 U1 V1 PM1 g H locs ls hR1 G hl
set_option maxHeartbeats 4000000 in
set_option maxRecDepth 100000 in
theorem lw_handOut (E : CallFix p m c0 b_L_law 7 s #[Value.ref b] zB R_L) (hN : zN s) (hK : va_K D vwCl [(cI, .int), (cJ, .long)] s) (hA : ∀ q, s.heap.size ≤ q → A q) (hAq : ∀ q, q < s.heap.size → ¬ A q) (hX : va_X b L xs s s.heap) (hbl : b < s.heap.size) (h1 : vp_in (i + 1) L) (h2 : vp_in (i + 2) L) (h3 : vp_in (i + 3) L) (hcs : cells + 1 ≤ room_1.cells ∧ slots + 6 ≤ room_1.slots) (hR : Rel nw k n c Z P U V PM) (G : zG D A s H locs (wL a bb o cI cJ nw (nI k) (nI n) (nI c) Z P U V th nw (nI k) (nI n) (nI c) Z PM U V g)) (hl : lv_has ls 7 [(0, .ref b), (1, .ref (a 0)), (2, .ref (bb 0)), (3, .ref o), (4, .int i)]) (kk : lwNext p l e s m below meth c0 D cI cJ a bb o b A k i (cells + 1) (slots + 6)) : W p l e room_1 s m #[Value.ref b] below meth c0 H locs cells slots (lw_Z below #[Value.ref b] s) (F0 m 268 ls []) := by
  have hx := E.1
  have hb := E.2.1
  have hK1 : va_K D vwCl [(cI, .int)] s := hK.sub [0] rfl
  have hk := hR.1.1
  have hn := hR.1.2.1
  have hc := hR.1.2.2.1
  have hcs0 : cells ≤ room_1.cells ∧ slots ≤ room_1.slots := ⟨by omega, by omega⟩
  obtain ⟨r, nw1, th1, n1, c1, Z1, P1, U1, V1, PM1, eX, eM, hR1⟩ := ok_handOut hR (xs (i + 1).toNatClampNeg) (xs (i + 2).toNatClampNeg)
  have cX : zW l D [(cI, .int)] y_X_handOut b_X_handOut 5 (some .int) 4 85 (.ref (a 0) :: [.int (xs (i + 1).toNatClampNeg), .int (xs (i + 2).toNatClampNeg)]) (wX a cI nw (nI k) (nI n) (nI c) Z P U V) (wX a cI nw1 (nI k) (nI n1) (nI c1) Z1 P1 U1 V1) (some (.int r)) := by
    have h := c_X_handOut l D cI a nw k n c Z P U V (xs (i + 1).toNatClampNeg) (xs (i + 2).toNatClampNeg) hk hn hc
    rw [eX] at h
    exact h
  have cM : zW l D [(cI, .int)] y_M_handOut b_M_handOut 4 (some .int) 2 43 (.ref (bb 0) :: [.int (xs (i + 1).toNatClampNeg), .int (xs (i + 2).toNatClampNeg)]) (wM bb cI th nw (nI k) (nI n) (nI c) Z PM U V) (wM bb cI th1 nw1 (nI k) (nI n1) (nI c1) Z1 PM1 U1 V1) (some (.int r)) := by
    have h := c_M_handOut l D cI bb th nw k n c Z PM U V (xs (i + 1).toNatClampNeg) (xs (i + 2).toNatClampNeg) hk hn hc hR.hU hR.hV
    rw [eM] at h
    exact h
  refine lv_aload_n hx hb d_L_law_268 rfl (lv_at hl 1 rfl) ?_
  refine lv_aload_n hx hb d_L_law_269 rfl (lv_at hl 0 rfl) ?_
  refine lv_iload hx hb d_L_law_270 (lv_at hl 4 rfl) ?_
  refine lv_iconst (v := 1) hx hb d_L_law_272 (by decide) ?_
  refine lv_iadd hx hb d_L_law_273 ?_
  refine va_sld hx hb hX hbl (hAq b hbl) G.2.2 h1 d_L_law_274 ?_
  refine lv_aload_n hx hb d_L_law_275 rfl (lv_at hl 0 rfl) ?_
  refine lv_iload hx hb d_L_law_276 (lv_at hl 4 rfl) ?_
  refine lv_iconst (v := 2) hx hb d_L_law_278 (by decide) ?_
  refine lv_iadd hx hb d_L_law_279 ?_
  refine va_sld hx hb hX hbl (hAq b hbl) G.2.2 h2 d_L_law_280 ?_
  refine z_wv (As := [.int (xs (i + 1).toNatClampNeg), .int (xs (i + 2).toNatClampNeg)]) (rest := []) (wr := ([22, 23, 24, 25, 26, 27, 28, 29, 30, 31, 32, 33, 34, 35, 36, 37, 38, 39, 40] : List Nat).filterMap (fun j => (wL a bb o cI cJ nw (nI k) (nI n) (nI c) Z P U V th nw (nI k) (nI n) (nI c) Z PM U V g)[j]?)) (ws' := wL a bb o cI cJ nw1 (nI k) (nI n1) (nI c1) Z1 P1 U1 V1 th nw (nI k) (nI n) (nI c) Z PM U V g) E hN hK1 hA G hl.1 cX [0, 1, 2, 3, 4, 5, 6, 7, 8, 9, 10, 11, 12, 13, 14, 15, 16, 17, 18, 19, 20, 21] [22, 23, 24, 25, 26, 27, 28, 29, 30, 31, 32, 33, 34, 35, 36, 37, 38, 39, 40] [19, 20, 21, 22, 23, 24, 25, 26, 27, 28, 29, 30, 31, 32, 33, 34, 35, 36, 37, 38, 39, 40, 0, 1, 2, 3, 4, 5, 6, 7, 8, 9, 10, 11, 12, 13, 14, 15, 16, 17, 18] rfl rfl rfl rfl rfl rfl (by decide) 0 rfl rfl kl_X_handOut rfl ⟨Nat.le_of_ble_eq_true rfl, Nat.le_of_ble_eq_true rfl⟩ rfl (Nat.le_of_ble_eq_true rfl) hcs0 d_L_law_281 (fun H locs G => ?_)
  refine lv_aload_n hx hb d_L_law_284 rfl (lv_at hl 2 rfl) ?_
  refine lv_aload_n hx hb d_L_law_285 rfl (lv_at hl 0 rfl) ?_
  refine lv_iload hx hb d_L_law_286 (lv_at hl 4 rfl) ?_
  refine lv_iconst (v := 1) hx hb d_L_law_288 (by decide) ?_
  refine lv_iadd hx hb d_L_law_289 ?_
  refine va_sld hx hb hX hbl (hAq b hbl) G.2.2 h1 d_L_law_290 ?_
  refine lv_aload_n hx hb d_L_law_291 rfl (lv_at hl 0 rfl) ?_
  refine lv_iload hx hb d_L_law_292 (lv_at hl 4 rfl) ?_
  refine lv_iconst (v := 2) hx hb d_L_law_294 (by decide) ?_
  refine lv_iadd hx hb d_L_law_295 ?_
  refine va_sld hx hb hX hbl (hAq b hbl) G.2.2 h2 d_L_law_296 ?_
  refine z_wv (As := [.int (xs (i + 1).toNatClampNeg), .int (xs (i + 2).toNatClampNeg)]) (rest := [.int r]) (wr := ([0, 1, 2, 3, 4, 5, 6, 7, 8, 9, 10, 11, 12, 13, 14, 15, 16, 17, 18, 19, 20, 21, 40] : List Nat).filterMap (fun j => (wL a bb o cI cJ nw1 (nI k) (nI n1) (nI c1) Z1 P1 U1 V1 th nw (nI k) (nI n) (nI c) Z PM U V g)[j]?)) (ws' := wL a bb o cI cJ nw1 (nI k) (nI n1) (nI c1) Z1 P1 U1 V1 th1 nw1 (nI k) (nI n1) (nI c1) Z1 PM1 U1 V1 g) E hN hK1 hA G hl.1 cM [22, 23, 24, 25, 26, 27, 28, 29, 30, 31, 32, 33, 34, 35, 36, 37, 38, 39] [0, 1, 2, 3, 4, 5, 6, 7, 8, 9, 10, 11, 12, 13, 14, 15, 16, 17, 18, 19, 20, 21, 40] [0, 1, 2, 3, 4, 5, 6, 7, 8, 9, 10, 11, 12, 13, 14, 15, 16, 17, 18, 19, 20, 21, 23, 24, 25, 26, 27, 28, 29, 30, 31, 32, 33, 34, 35, 36, 37, 38, 39, 40, 22] rfl rfl rfl rfl rfl rfl (by decide) 0 rfl rfl kl_M_handOut rfl ⟨Nat.le_of_ble_eq_true rfl, Nat.le_of_ble_eq_true rfl⟩ rfl (Nat.le_of_ble_eq_true rfl) hcs0 d_L_law_297 (fun H locs G => ?_)
  refine lv_icmp_eq (tgt := 811) hx hb d_L_law_300 (by decide) (fun _ => ?_) (fun z => absurd rfl z)
  exact kk.up nw1 th1 n1 c1 Z1 P1 U1 V1 PM1 g H locs ls hR1 G hl
set_option maxHeartbeats 4000000 in
set_option maxRecDepth 100000 in
theorem lw_back (E : CallFix p m c0 b_L_law 7 s #[Value.ref b] zB R_L) (hN : zN s) (hK : va_K D vwCl [(cI, .int), (cJ, .long)] s) (hA : ∀ q, s.heap.size ≤ q → A q) (hAq : ∀ q, q < s.heap.size → ¬ A q) (hX : va_X b L xs s s.heap) (hbl : b < s.heap.size) (h1 : vp_in (i + 1) L) (h2 : vp_in (i + 2) L) (h3 : vp_in (i + 3) L) (hcs : cells + 1 ≤ room_1.cells ∧ slots + 6 ≤ room_1.slots) (hR : Rel nw k n c Z P U V PM) (G : zG D A s H locs (wL a bb o cI cJ nw (nI k) (nI n) (nI c) Z P U V th nw (nI k) (nI n) (nI c) Z PM U V g)) (hl : lv_has ls 7 [(0, .ref b), (1, .ref (a 0)), (2, .ref (bb 0)), (3, .ref o), (4, .int i)]) (kk : lwNext p l e s m below meth c0 D cI cJ a bb o b A k i (cells + 1) (slots + 6)) : W p l e room_1 s m #[Value.ref b] below meth c0 H locs cells slots (lw_Z below #[Value.ref b] s) (F0 m 305 ls []) := by
  have hx := E.1
  have hb := E.2.1
  have hK1 : va_K D vwCl [(cI, .int)] s := hK.sub [0] rfl
  have hk := hR.1.1
  have hn := hR.1.2.1
  have hc := hR.1.2.2.1
  have hcs0 : cells ≤ room_1.cells ∧ slots ≤ room_1.slots := ⟨by omega, by omega⟩
  obtain ⟨r, nw1, th1, n1, c1, Z1, P1, U1, V1, PM1, eX, eM, hR1⟩ := ok_back hR (xs (i + 1).toNatClampNeg) (xs (i + 2).toNatClampNeg)
  have cX : zW l D [(cI, .int)] y_X_back b_X_back 4 (some .int) 3 65 (.ref (a 0) :: [.int (xs (i + 1).toNatClampNeg), .int (xs (i + 2).toNatClampNeg)]) (wX a cI nw (nI k) (nI n) (nI c) Z P U V) (wX a cI nw1 (nI k) (nI n1) (nI c1) Z1 P1 U1 V1) (some (.int r)) := by
    have h := c_X_back l D cI a nw k n c Z P U V (xs (i + 1).toNatClampNeg) (xs (i + 2).toNatClampNeg) hk hn hc
    rw [eX] at h
    exact h
  have cM : zW l D [(cI, .int)] y_M_back b_M_back 3 (some .int) 2 43 (.ref (bb 0) :: [.int (xs (i + 1).toNatClampNeg), .int (xs (i + 2).toNatClampNeg)]) (wM bb cI th nw (nI k) (nI n) (nI c) Z PM U V) (wM bb cI th1 nw1 (nI k) (nI n1) (nI c1) Z1 PM1 U1 V1) (some (.int r)) := by
    have h := c_M_back l D cI bb th nw k n c Z PM U V (xs (i + 1).toNatClampNeg) (xs (i + 2).toNatClampNeg) hk hn hc hR.hU
    rw [eM] at h
    exact h
  refine lv_aload_n hx hb d_L_law_305 rfl (lv_at hl 1 rfl) ?_
  refine lv_aload_n hx hb d_L_law_306 rfl (lv_at hl 0 rfl) ?_
  refine lv_iload hx hb d_L_law_307 (lv_at hl 4 rfl) ?_
  refine lv_iconst (v := 1) hx hb d_L_law_309 (by decide) ?_
  refine lv_iadd hx hb d_L_law_310 ?_
  refine va_sld hx hb hX hbl (hAq b hbl) G.2.2 h1 d_L_law_311 ?_
  refine lv_aload_n hx hb d_L_law_312 rfl (lv_at hl 0 rfl) ?_
  refine lv_iload hx hb d_L_law_313 (lv_at hl 4 rfl) ?_
  refine lv_iconst (v := 2) hx hb d_L_law_315 (by decide) ?_
  refine lv_iadd hx hb d_L_law_316 ?_
  refine va_sld hx hb hX hbl (hAq b hbl) G.2.2 h2 d_L_law_317 ?_
  refine z_wv (As := [.int (xs (i + 1).toNatClampNeg), .int (xs (i + 2).toNatClampNeg)]) (rest := []) (wr := ([22, 23, 24, 25, 26, 27, 28, 29, 30, 31, 32, 33, 34, 35, 36, 37, 38, 39, 40] : List Nat).filterMap (fun j => (wL a bb o cI cJ nw (nI k) (nI n) (nI c) Z P U V th nw (nI k) (nI n) (nI c) Z PM U V g)[j]?)) (ws' := wL a bb o cI cJ nw1 (nI k) (nI n1) (nI c1) Z1 P1 U1 V1 th nw (nI k) (nI n) (nI c) Z PM U V g) E hN hK1 hA G hl.1 cX [0, 1, 2, 3, 4, 5, 6, 7, 8, 9, 10, 11, 12, 13, 14, 15, 16, 17, 18, 19, 20, 21] [22, 23, 24, 25, 26, 27, 28, 29, 30, 31, 32, 33, 34, 35, 36, 37, 38, 39, 40] [19, 20, 21, 22, 23, 24, 25, 26, 27, 28, 29, 30, 31, 32, 33, 34, 35, 36, 37, 38, 39, 40, 0, 1, 2, 3, 4, 5, 6, 7, 8, 9, 10, 11, 12, 13, 14, 15, 16, 17, 18] rfl rfl rfl rfl rfl rfl (by decide) 0 rfl rfl kl_X_back rfl ⟨Nat.le_of_ble_eq_true rfl, Nat.le_of_ble_eq_true rfl⟩ rfl (Nat.le_of_ble_eq_true rfl) hcs0 d_L_law_318 (fun H locs G => ?_)
  refine lv_aload_n hx hb d_L_law_321 rfl (lv_at hl 2 rfl) ?_
  refine lv_aload_n hx hb d_L_law_322 rfl (lv_at hl 0 rfl) ?_
  refine lv_iload hx hb d_L_law_323 (lv_at hl 4 rfl) ?_
  refine lv_iconst (v := 1) hx hb d_L_law_325 (by decide) ?_
  refine lv_iadd hx hb d_L_law_326 ?_
  refine va_sld hx hb hX hbl (hAq b hbl) G.2.2 h1 d_L_law_327 ?_
  refine lv_aload_n hx hb d_L_law_328 rfl (lv_at hl 0 rfl) ?_
  refine lv_iload hx hb d_L_law_329 (lv_at hl 4 rfl) ?_
  refine lv_iconst (v := 2) hx hb d_L_law_331 (by decide) ?_
  refine lv_iadd hx hb d_L_law_332 ?_
  refine va_sld hx hb hX hbl (hAq b hbl) G.2.2 h2 d_L_law_333 ?_
  refine z_wv (As := [.int (xs (i + 1).toNatClampNeg), .int (xs (i + 2).toNatClampNeg)]) (rest := [.int r]) (wr := ([0, 1, 2, 3, 4, 5, 6, 7, 8, 9, 10, 11, 12, 13, 14, 15, 16, 17, 18, 19, 20, 21, 40] : List Nat).filterMap (fun j => (wL a bb o cI cJ nw1 (nI k) (nI n1) (nI c1) Z1 P1 U1 V1 th nw (nI k) (nI n) (nI c) Z PM U V g)[j]?)) (ws' := wL a bb o cI cJ nw1 (nI k) (nI n1) (nI c1) Z1 P1 U1 V1 th1 nw1 (nI k) (nI n1) (nI c1) Z1 PM1 U1 V1 g) E hN hK1 hA G hl.1 cM [22, 23, 24, 25, 26, 27, 28, 29, 30, 31, 32, 33, 34, 35, 36, 37, 38, 39] [0, 1, 2, 3, 4, 5, 6, 7, 8, 9, 10, 11, 12, 13, 14, 15, 16, 17, 18, 19, 20, 21, 40] [0, 1, 2, 3, 4, 5, 6, 7, 8, 9, 10, 11, 12, 13, 14, 15, 16, 17, 18, 19, 20, 21, 23, 24, 25, 26, 27, 28, 29, 30, 31, 32, 33, 34, 35, 36, 37, 38, 39, 40, 22] rfl rfl rfl rfl rfl rfl (by decide) 0 rfl rfl kl_M_back rfl ⟨Nat.le_of_ble_eq_true rfl, Nat.le_of_ble_eq_true rfl⟩ rfl (Nat.le_of_ble_eq_true rfl) hcs0 d_L_law_334 (fun H locs G => ?_)
  refine lv_icmp_eq (tgt := 811) hx hb d_L_law_337 (by decide) (fun _ => ?_) (fun z => absurd rfl z)
  exact kk.up nw1 th1 n1 c1 Z1 P1 U1 V1 PM1 g H locs ls hR1 G hl
set_option maxHeartbeats 4000000 in
set_option maxRecDepth 100000 in
theorem lw_look (E : CallFix p m c0 b_L_law 7 s #[Value.ref b] zB R_L) (hN : zN s) (hK : va_K D vwCl [(cI, .int), (cJ, .long)] s) (hA : ∀ q, s.heap.size ≤ q → A q) (hAq : ∀ q, q < s.heap.size → ¬ A q) (hX : va_X b L xs s s.heap) (hbl : b < s.heap.size) (h1 : vp_in (i + 1) L) (h2 : vp_in (i + 2) L) (h3 : vp_in (i + 3) L) (hcs : cells + 1 ≤ room_1.cells ∧ slots + 6 ≤ room_1.slots) (hR : Rel nw k n c Z P U V PM) (G : zG D A s H locs (wL a bb o cI cJ nw (nI k) (nI n) (nI c) Z P U V th nw (nI k) (nI n) (nI c) Z PM U V g)) (hl : lv_has ls 7 [(0, .ref b), (1, .ref (a 0)), (2, .ref (bb 0)), (3, .ref o), (4, .int i)]) (kk : lwNext p l e s m below meth c0 D cI cJ a bb o b A k i (cells + 1) (slots + 6)) : W p l e room_1 s m #[Value.ref b] below meth c0 H locs cells slots (lw_Z below #[Value.ref b] s) (F0 m 342 ls []) := by
  have hx := E.1
  have hb := E.2.1
  have hK1 : va_K D vwCl [(cI, .int)] s := hK.sub [0] rfl
  have hk := hR.1.1
  have hn := hR.1.2.1
  have hc := hR.1.2.2.1
  have hcs0 : cells ≤ room_1.cells ∧ slots ≤ room_1.slots := ⟨by omega, by omega⟩
  obtain ⟨r, nw1, th1, n1, c1, Z1, P1, U1, V1, PM1, eX, eM, hR1⟩ := ok_look hR (xs (i + 1).toNatClampNeg) (xs (i + 2).toNatClampNeg)
  have cX : zW l D [(cI, .int)] y_X_look b_X_look 4 (some .int) 4 89 (.ref (a 0) :: [.int (xs (i + 1).toNatClampNeg), .int (xs (i + 2).toNatClampNeg)]) (wX a cI nw (nI k) (nI n) (nI c) Z P U V) (wX a cI nw1 (nI k) (nI n1) (nI c1) Z1 P1 U1 V1) (some (.int r)) := by
    have h := c_X_look l D cI a nw k n c Z P U V (xs (i + 1).toNatClampNeg) (xs (i + 2).toNatClampNeg) hk hn hc
    rw [eX] at h
    exact h
  have cM : zW l D [(cI, .int)] y_M_look b_M_look 3 (some .int) 2 42 (.ref (bb 0) :: [.int (xs (i + 1).toNatClampNeg), .int (xs (i + 2).toNatClampNeg)]) (wM bb cI th nw (nI k) (nI n) (nI c) Z PM U V) (wM bb cI th1 nw1 (nI k) (nI n1) (nI c1) Z1 PM1 U1 V1) (some (.int r)) := by
    have h := c_M_look l D cI bb th nw k n c Z PM U V (xs (i + 1).toNatClampNeg) (xs (i + 2).toNatClampNeg) hk hn hc 
    rw [eM] at h
    exact h
  refine lv_aload_n hx hb d_L_law_342 rfl (lv_at hl 1 rfl) ?_
  refine lv_aload_n hx hb d_L_law_343 rfl (lv_at hl 0 rfl) ?_
  refine lv_iload hx hb d_L_law_344 (lv_at hl 4 rfl) ?_
  refine lv_iconst (v := 1) hx hb d_L_law_346 (by decide) ?_
  refine lv_iadd hx hb d_L_law_347 ?_
  refine va_sld hx hb hX hbl (hAq b hbl) G.2.2 h1 d_L_law_348 ?_
  refine lv_aload_n hx hb d_L_law_349 rfl (lv_at hl 0 rfl) ?_
  refine lv_iload hx hb d_L_law_350 (lv_at hl 4 rfl) ?_
  refine lv_iconst (v := 2) hx hb d_L_law_352 (by decide) ?_
  refine lv_iadd hx hb d_L_law_353 ?_
  refine va_sld hx hb hX hbl (hAq b hbl) G.2.2 h2 d_L_law_354 ?_
  refine z_wv (As := [.int (xs (i + 1).toNatClampNeg), .int (xs (i + 2).toNatClampNeg)]) (rest := []) (wr := ([22, 23, 24, 25, 26, 27, 28, 29, 30, 31, 32, 33, 34, 35, 36, 37, 38, 39, 40] : List Nat).filterMap (fun j => (wL a bb o cI cJ nw (nI k) (nI n) (nI c) Z P U V th nw (nI k) (nI n) (nI c) Z PM U V g)[j]?)) (ws' := wL a bb o cI cJ nw1 (nI k) (nI n1) (nI c1) Z1 P1 U1 V1 th nw (nI k) (nI n) (nI c) Z PM U V g) E hN hK1 hA G hl.1 cX [0, 1, 2, 3, 4, 5, 6, 7, 8, 9, 10, 11, 12, 13, 14, 15, 16, 17, 18, 19, 20, 21] [22, 23, 24, 25, 26, 27, 28, 29, 30, 31, 32, 33, 34, 35, 36, 37, 38, 39, 40] [19, 20, 21, 22, 23, 24, 25, 26, 27, 28, 29, 30, 31, 32, 33, 34, 35, 36, 37, 38, 39, 40, 0, 1, 2, 3, 4, 5, 6, 7, 8, 9, 10, 11, 12, 13, 14, 15, 16, 17, 18] rfl rfl rfl rfl rfl rfl (by decide) 0 rfl rfl kl_X_look rfl ⟨Nat.le_of_ble_eq_true rfl, Nat.le_of_ble_eq_true rfl⟩ rfl (Nat.le_of_ble_eq_true rfl) hcs0 d_L_law_355 (fun H locs G => ?_)
  refine lv_aload_n hx hb d_L_law_358 rfl (lv_at hl 2 rfl) ?_
  refine lv_aload_n hx hb d_L_law_359 rfl (lv_at hl 0 rfl) ?_
  refine lv_iload hx hb d_L_law_360 (lv_at hl 4 rfl) ?_
  refine lv_iconst (v := 1) hx hb d_L_law_362 (by decide) ?_
  refine lv_iadd hx hb d_L_law_363 ?_
  refine va_sld hx hb hX hbl (hAq b hbl) G.2.2 h1 d_L_law_364 ?_
  refine lv_aload_n hx hb d_L_law_365 rfl (lv_at hl 0 rfl) ?_
  refine lv_iload hx hb d_L_law_366 (lv_at hl 4 rfl) ?_
  refine lv_iconst (v := 2) hx hb d_L_law_368 (by decide) ?_
  refine lv_iadd hx hb d_L_law_369 ?_
  refine va_sld hx hb hX hbl (hAq b hbl) G.2.2 h2 d_L_law_370 ?_
  refine z_wv (As := [.int (xs (i + 1).toNatClampNeg), .int (xs (i + 2).toNatClampNeg)]) (rest := [.int r]) (wr := ([0, 1, 2, 3, 4, 5, 6, 7, 8, 9, 10, 11, 12, 13, 14, 15, 16, 17, 18, 19, 20, 21, 40] : List Nat).filterMap (fun j => (wL a bb o cI cJ nw1 (nI k) (nI n1) (nI c1) Z1 P1 U1 V1 th nw (nI k) (nI n) (nI c) Z PM U V g)[j]?)) (ws' := wL a bb o cI cJ nw1 (nI k) (nI n1) (nI c1) Z1 P1 U1 V1 th1 nw1 (nI k) (nI n1) (nI c1) Z1 PM1 U1 V1 g) E hN hK1 hA G hl.1 cM [22, 23, 24, 25, 26, 27, 28, 29, 30, 31, 32, 33, 34, 35, 36, 37, 38, 39] [0, 1, 2, 3, 4, 5, 6, 7, 8, 9, 10, 11, 12, 13, 14, 15, 16, 17, 18, 19, 20, 21, 40] [0, 1, 2, 3, 4, 5, 6, 7, 8, 9, 10, 11, 12, 13, 14, 15, 16, 17, 18, 19, 20, 21, 23, 24, 25, 26, 27, 28, 29, 30, 31, 32, 33, 34, 35, 36, 37, 38, 39, 40, 22] rfl rfl rfl rfl rfl rfl (by decide) 0 rfl rfl kl_M_look rfl ⟨Nat.le_of_ble_eq_true rfl, Nat.le_of_ble_eq_true rfl⟩ rfl (Nat.le_of_ble_eq_true rfl) hcs0 d_L_law_371 (fun H locs G => ?_)
  refine lv_icmp_eq (tgt := 811) hx hb d_L_law_374 (by decide) (fun _ => ?_) (fun z => absurd rfl z)
  exact kk.up nw1 th1 n1 c1 Z1 P1 U1 V1 PM1 g H locs ls hR1 G hl
end LA
