def f_S_firstSeatWith_L (Z : Nat → Nat → Int32) (sitter : Int32) : Nat → Nat → Int32
  | 0, k0 => (-1)
  | d + 1, k0 => (if (Z 0 k0) = sitter then (nI k0) else (f_S_firstSeatWith_L Z sitter d (k0 + 1)))
theorem f_S_firstSeatWith_L_0 (Z : Nat → Nat → Int32) (sitter : Int32) (k0 : Nat)  : f_S_firstSeatWith_L Z sitter 0 k0  = (-1) := rfl
theorem f_S_firstSeatWith_L_s (Z : Nat → Nat → Int32) (sitter : Int32) (d k0 : Nat)  : f_S_firstSeatWith_L Z sitter (d + 1) k0  = (if (Z 0 k0) = sitter then (nI k0) else (f_S_firstSeatWith_L Z sitter d (k0 + 1))) := rfl
def f_S_firstSeatWith (k : Nat) (Z : Nat → Nat → Int32) (sitter : Int32) : Int32 := (f_S_firstSeatWith_L Z sitter k 0)
set_option maxHeartbeats 4000000 in
set_option maxRecDepth 100000 in
theorem lp_S_firstSeatWith (l : Launch) (D : va_G) (cI : ClassId) (a : Nat → Nat) (k : Nat) (n : Nat) (Z : Nat → Nat → Int32) (sitter : Int32) (hk : k ≤ 20) (hn : n ≤ 60) {p : Program} {e : Env} {s : State} {m : MethodId} {below : List Frame} {meth : Method} {c0 : Code} (E : CallFix p m c0 b_S_firstSeatWith 3 s ([.ref (a 0), .int sitter] : List Value).toArray zB y_S_firstSeatWith.cls) (hrt : meth.sig.returnType = (some .int)) (hlk : meth.locks = false) (hN : zN s) (hK : va_K D vwCl [(cI, .int)] s) (hP : va_P D vwCl (wS a cI (nI k) (nI n) Z) s.heap) :
    ∀ (d k0 : Nat) , k0 + d = k → ∀ r : Int32, f_S_firstSeatWith_L Z sitter d k0  = r → ∀ ls : Array Slot, lv_has ls 3 [(2, .int (nI k0)), (0, .ref (a 0)), (1, .int sitter)] → W p l e { frames := 0, cells := 0, slots := 0, locals := 0 } s m ([.ref (a 0), .int sitter] : List Value).toArray below meth c0 s.heap [] 0 0 (MQ below (QcRead r) ([.ref (a 0), .int sitter] : List Value).toArray s 0 0 (fun _ => False)) (F0 m 2 ls []) := by
  have hx := E.1
  have hb := E.2.1
  intro d
  induction d with
  | zero =>
    intro k0  hkd r hr ls hl
    refine lv_iload_n hx hb d_S_firstSeatWith_2 rfl (lv_at hl 0 rfl) ?_
    refine lv_aload_n hx hb d_S_firstSeatWith_3 rfl (lv_at hl 1 rfl) ?_
    refine z_get (v := .int (nI k)) E hK hP i_S 0 0 rfl rfl (by decide) kf_S_27 rfl d_S_firstSeatWith_4 ?_
    refine lv_icmp_ge (tgt := 28) hx hb d_S_firstSeatWith_7 (by decide) (fun c_1 => ?_) (fun c_1 => absurd (nI_le (by omega) (by omega)) c_1)
    refine lv_iconst (v := (-1)) hx hb d_S_firstSeatWith_28 (by decide) ?_
    exact zR.iret E hrt hlk (by rw [← hr, f_S_firstSeatWith_L_0]) d_S_firstSeatWith_29
  | succ d ih =>
    intro k0  hkd r hr ls hl
    refine lv_iload_n hx hb d_S_firstSeatWith_2 rfl (lv_at hl 0 rfl) ?_
    refine lv_aload_n hx hb d_S_firstSeatWith_3 rfl (lv_at hl 1 rfl) ?_
    refine z_get (v := .int (nI k)) E hK hP i_S 0 0 rfl rfl (by decide) kf_S_27 rfl d_S_firstSeatWith_4 ?_
    refine lv_icmp_ge (tgt := 28) hx hb d_S_firstSeatWith_7 (by decide) (fun c_2 => absurd c_2 (nI_ge (by omega) (by omega))) (fun c_2 => ?_)
    refine lv_aload_n hx hb d_S_firstSeatWith_10 rfl (lv_at hl 1 rfl) ?_
    refine z_get (v := .ref (a 1)) E hK hP i_S 0 1 rfl rfl (by decide) kf_S_9 rfl d_S_firstSeatWith_11 ?_
    refine lv_iload_n hx hb d_S_firstSeatWith_14 rfl (lv_at hl 0 rfl) ?_
    refine z_aldN (f := Z 0) (j := k0) E hK hP 1 0 rfl rfl rfl (by omega) (by decide) d_S_firstSeatWith_15 ?_
    refine lv_iload_n hx hb d_S_firstSeatWith_16 rfl (lv_at hl 2 rfl) ?_
    refine lv_icmp_ne (tgt := 22) hx hb d_S_firstSeatWith_17 (by decide) (fun c_3 => ?_) (fun c_3 => ?_)
    · refine lv_iinc (v := nI (k0 + 1)) (lv' := [(2, .int (nI (k0 + 1))), (0, .ref (a 0)), (1, .int sitter)]) hx hb d_S_firstSeatWith_22 hl (k := 0) rfl (nI_1 _) (by decide) rfl (fun ls hl => ?_)
      refine lv_goto (tgt := 2) hx hb d_S_firstSeatWith_25 (by decide) ?_
      exact ih (k0 + 1)  (by omega) r (by rw [← hr, f_S_firstSeatWith_L_s, if_neg c_3]) ls (lv_sub hl [0, 1, 2] rfl)
    · refine lv_iload_n hx hb d_S_firstSeatWith_20 rfl (lv_at hl 0 rfl) ?_
      exact zR.iret E hrt hlk (by rw [← hr, f_S_firstSeatWith_L_s, if_pos c_3]) d_S_firstSeatWith_21
set_option maxHeartbeats 4000000 in
set_option maxRecDepth 100000 in
theorem c_S_firstSeatWith (l : Launch) (D : va_G) (cI : ClassId) (a : Nat → Nat) (k : Nat) (n : Nat) (Z : Nat → Nat → Int32) (sitter : Int32) (hk : k ≤ 20) (hn : n ≤ 60) : zR l D [(cI, .int)] y_S_firstSeatWith b_S_firstSeatWith 3 (some .int) 0 0 [.ref (a 0), .int sitter] (wS a cI (nI k) (nI n) Z) (f_S_firstSeatWith k Z sitter) := by
  refine zR.of (by decide) (Nat.le_of_ble_eq_true rfl) ?_
  intro p e s m below meth c0 ls E hrt hlk hN hK hP hl
  have hx := E.1
  have hb := E.2.1
  have hl : lv_has ls 3 [(0, .ref (a 0)), (1, .int sitter)] := hl
  refine lv_iconst (v := 0) hx hb d_S_firstSeatWith_0 (by decide) ?_
  refine lv_istore_n (lv' := [(2, .int 0), (0, .ref (a 0)), (1, .int sitter)]) hx hb d_S_firstSeatWith_1 rfl hl (by decide) rfl (fun ls hl => ?_)
  exact lp_S_firstSeatWith l D cI a k n Z sitter hk hn E hrt hlk hN hK hP k 0  (by omega) _ (by rfl) ls (by rw [nI_0]; exact lv_sub hl [0, 1, 2] rfl)
def f_S_placeInRow_L (Z : Nat → Nat → Int32) (person : Int32) : Nat → Nat → Int32
  | 0, k0 => (-1)
  | d + 1, k0 => (if (Z 1 k0) = person then (nI k0) else (f_S_placeInRow_L Z person d (k0 + 1)))
theorem f_S_placeInRow_L_0 (Z : Nat → Nat → Int32) (person : Int32) (k0 : Nat)  : f_S_placeInRow_L Z person 0 k0  = (-1) := rfl
theorem f_S_placeInRow_L_s (Z : Nat → Nat → Int32) (person : Int32) (d k0 : Nat)  : f_S_placeInRow_L Z person (d + 1) k0  = (if (Z 1 k0) = person then (nI k0) else (f_S_placeInRow_L Z person d (k0 + 1))) := rfl
def f_S_placeInRow (n : Nat) (Z : Nat → Nat → Int32) (person : Int32) : Int32 := (f_S_placeInRow_L Z person n 0)
set_option maxHeartbeats 4000000 in
set_option maxRecDepth 100000 in
theorem lp_S_placeInRow (l : Launch) (D : va_G) (cI : ClassId) (a : Nat → Nat) (k : Nat) (n : Nat) (Z : Nat → Nat → Int32) (person : Int32) (hk : k ≤ 20) (hn : n ≤ 60) {p : Program} {e : Env} {s : State} {m : MethodId} {below : List Frame} {meth : Method} {c0 : Code} (E : CallFix p m c0 b_S_placeInRow 3 s ([.ref (a 0), .int person] : List Value).toArray zB y_S_placeInRow.cls) (hrt : meth.sig.returnType = (some .int)) (hlk : meth.locks = false) (hN : zN s) (hK : va_K D vwCl [(cI, .int)] s) (hP : va_P D vwCl (wS a cI (nI k) (nI n) Z) s.heap) :
    ∀ (d k0 : Nat) , k0 + d = n → ∀ r : Int32, f_S_placeInRow_L Z person d k0  = r → ∀ ls : Array Slot, lv_has ls 3 [(2, .int (nI k0)), (0, .ref (a 0)), (1, .int person)] → W p l e { frames := 0, cells := 0, slots := 0, locals := 0 } s m ([.ref (a 0), .int person] : List Value).toArray below meth c0 s.heap [] 0 0 (MQ below (QcRead r) ([.ref (a 0), .int person] : List Value).toArray s 0 0 (fun _ => False)) (F0 m 2 ls []) := by
  have hx := E.1
  have hb := E.2.1
  intro d
  induction d with
  | zero =>
    intro k0  hkd r hr ls hl
    refine lv_iload_n hx hb d_S_placeInRow_2 rfl (lv_at hl 0 rfl) ?_
    refine lv_aload_n hx hb d_S_placeInRow_3 rfl (lv_at hl 1 rfl) ?_
    refine z_get (v := .int (nI n)) E hK hP i_S 0 3 rfl rfl (by decide) kf_S_54 rfl d_S_placeInRow_4 ?_
    refine lv_icmp_ge (tgt := 28) hx hb d_S_placeInRow_7 (by decide) (fun c_1 => ?_) (fun c_1 => absurd (nI_le (by omega) (by omega)) c_1)
    refine lv_iconst (v := (-1)) hx hb d_S_placeInRow_28 (by decide) ?_
    exact zR.iret E hrt hlk (by rw [← hr, f_S_placeInRow_L_0]) d_S_placeInRow_29
  | succ d ih =>
    intro k0  hkd r hr ls hl
    refine lv_iload_n hx hb d_S_placeInRow_2 rfl (lv_at hl 0 rfl) ?_
    refine lv_aload_n hx hb d_S_placeInRow_3 rfl (lv_at hl 1 rfl) ?_
    refine z_get (v := .int (nI n)) E hK hP i_S 0 3 rfl rfl (by decide) kf_S_54 rfl d_S_placeInRow_4 ?_
    refine lv_icmp_ge (tgt := 28) hx hb d_S_placeInRow_7 (by decide) (fun c_2 => absurd c_2 (nI_ge (by omega) (by omega))) (fun c_2 => ?_)
    refine lv_aload_n hx hb d_S_placeInRow_10 rfl (lv_at hl 1 rfl) ?_
    refine z_get (v := .ref (a 2)) E hK hP i_S 0 2 rfl rfl (by decide) kf_S_15 rfl d_S_placeInRow_11 ?_
    refine lv_iload_n hx hb d_S_placeInRow_14 rfl (lv_at hl 0 rfl) ?_
    refine z_aldN (f := Z 1) (j := k0) E hK hP 2 0 rfl rfl rfl (by omega) (by decide) d_S_placeInRow_15 ?_
    refine lv_iload_n hx hb d_S_placeInRow_16 rfl (lv_at hl 2 rfl) ?_
    refine lv_icmp_ne (tgt := 22) hx hb d_S_placeInRow_17 (by decide) (fun c_3 => ?_) (fun c_3 => ?_)
    · refine lv_iinc (v := nI (k0 + 1)) (lv' := [(2, .int (nI (k0 + 1))), (0, .ref (a 0)), (1, .int person)]) hx hb d_S_placeInRow_22 hl (k := 0) rfl (nI_1 _) (by decide) rfl (fun ls hl => ?_)
      refine lv_goto (tgt := 2) hx hb d_S_placeInRow_25 (by decide) ?_
      exact ih (k0 + 1)  (by omega) r (by rw [← hr, f_S_placeInRow_L_s, if_neg c_3]) ls (lv_sub hl [0, 1, 2] rfl)
    · refine lv_iload_n hx hb d_S_placeInRow_20 rfl (lv_at hl 0 rfl) ?_
      exact zR.iret E hrt hlk (by rw [← hr, f_S_placeInRow_L_s, if_pos c_3]) d_S_placeInRow_21
set_option maxHeartbeats 4000000 in
set_option maxRecDepth 100000 in
theorem c_S_placeInRow (l : Launch) (D : va_G) (cI : ClassId) (a : Nat → Nat) (k : Nat) (n : Nat) (Z : Nat → Nat → Int32) (person : Int32) (hk : k ≤ 20) (hn : n ≤ 60) : zR l D [(cI, .int)] y_S_placeInRow b_S_placeInRow 3 (some .int) 0 0 [.ref (a 0), .int person] (wS a cI (nI k) (nI n) Z) (f_S_placeInRow n Z person) := by
  refine zR.of (by decide) (Nat.le_of_ble_eq_true rfl) ?_
  intro p e s m below meth c0 ls E hrt hlk hN hK hP hl
  have hx := E.1
  have hb := E.2.1
  have hl : lv_has ls 3 [(0, .ref (a 0)), (1, .int person)] := hl
  refine lv_iconst (v := 0) hx hb d_S_placeInRow_0 (by decide) ?_
  refine lv_istore_n (lv' := [(2, .int 0), (0, .ref (a 0)), (1, .int person)]) hx hb d_S_placeInRow_1 rfl hl (by decide) rfl (fun ls hl => ?_)
  exact lp_S_placeInRow l D cI a k n Z person hk hn E hrt hlk hN hK hP n 0  (by omega) _ (by rfl) ls (by rw [nI_0]; exact lv_sub hl [0, 1, 2] rfl)
theorem fs_L {Z : Nat → Nat → Int32} {x : Int32} : ∀ (d k0 : Nat), f_S_firstSeatWith_L Z x d k0 = -1 ∨ ∃ j, j < k0 + d ∧ f_S_firstSeatWith_L Z x d k0 = nI j := by
  intro d
  induction d with
  | zero => intro k0; exact Or.inl rfl
  | succ d ih =>
    intro k0
    rw [f_S_firstSeatWith_L_s]
    split
    · exact Or.inr ⟨k0, by omega, rfl⟩
    · rcases ih (k0 + 1) with h | ⟨j, h1, h2⟩
      · exact Or.inl h
      · exact Or.inr ⟨j, by omega, h2⟩
theorem fs_in {k : Nat} {Z : Nat → Nat → Int32} {x : Int32} (hk : k ≤ 20) (h : ¬ f_S_firstSeatWith k Z x = -1) : vp_in (f_S_firstSeatWith k Z x) 20 := by
  rcases fs_L (Z := Z) (x := x) k 0 with h1 | ⟨j, h1, h2⟩
  · exact absurd h1 h
  · rw [show f_S_firstSeatWith k Z x = nI j from h2]
    exact vp_in_nI (by omega) (by decide)
def f_S_seatOf (k : Nat) (Z : Nat → Nat → Int32) (person : Int32) : Int32 := (if (f_isPerson person) = 0 then (-1) else (f_S_firstSeatWith k Z person))
set_option maxHeartbeats 4000000 in
set_option maxRecDepth 100000 in
theorem c_S_seatOf (l : Launch) (D : va_G) (cI : ClassId) (a : Nat → Nat) (k : Nat) (n : Nat) (Z : Nat → Nat → Int32) (person : Int32) (hk : k ≤ 20) (hn : n ≤ 60) : zR l D [(cI, .int)] y_S_seatOf b_S_seatOf 2 (some .int) 2 42 [.ref (a 0), .int person] (wS a cI (nI k) (nI n) Z) (f_S_seatOf k Z person) := by
  refine zR.of (by decide) (Nat.le_of_ble_eq_true rfl) ?_
  intro p e s m below meth c0 ls E hrt hlk hN hK hP hl
  have hx := E.1
  have hb := E.2.1
  have hl : lv_has ls 2 [(0, .ref (a 0)), (1, .int person)] := hl
  refine lv_iload_n hx hb d_S_seatOf_0 rfl (lv_at hl 1 rfl) ?_
  refine z_rn (As := [.int person]) (rest := []) E hN hK hl.1 (c_isPerson l D [(cI, .int)] person) kz_S_48 rfl ⟨Nat.le_of_ble_eq_true rfl, Nat.le_of_ble_eq_true rfl⟩ rfl (Nat.le_of_ble_eq_true rfl) ⟨Nat.zero_le _, Nat.zero_le _⟩ d_S_seatOf_1 ?_
  refine lv_if_eq (tgt := 15) hx hb d_S_seatOf_4 (by decide) (fun c_1 => ?_) (fun c_1 => ?_)
  · refine lv_iconst (v := (-1)) hx hb d_S_seatOf_15 (by decide) ?_
    exact zR.iret E hrt hlk (by unfold f_S_seatOf; rw [if_pos c_1]) d_S_seatOf_16
  · refine lv_aload_n hx hb d_S_seatOf_7 rfl (lv_at hl 0 rfl) ?_
    refine lv_iload_n hx hb d_S_seatOf_8 rfl (lv_at hl 1 rfl) ?_
    refine z_rv (As := [.int person]) (rest := []) E hN hK hP hl.1 (c_S_firstSeatWith l D cI a k n Z person hk hn) [0, 1, 2] rfl 0 rfl rfl kz_S_51 rfl ⟨Nat.le_of_ble_eq_true rfl, Nat.le_of_ble_eq_true rfl⟩ rfl (Nat.le_of_ble_eq_true rfl) ⟨Nat.zero_le _, Nat.zero_le _⟩ d_S_seatOf_9 ?_
    refine lv_goto (tgt := 16) hx hb d_S_seatOf_12 (by decide) ?_
    exact zR.iret E hrt hlk (by unfold f_S_seatOf; rw [if_neg c_1]) d_S_seatOf_16
theorem so_in {k : Nat} {Z : Nat → Nat → Int32} {x : Int32} (hk : k ≤ 20) (h : ¬ f_S_seatOf k Z x = -1) : vp_in (f_S_seatOf k Z x) 20 := by
  unfold f_S_seatOf at h ⊢
  split at h
  · exact absurd rfl h
  · rename_i h1
    rw [if_neg h1]
    exact fs_in hk h
def f_S_isSeated (k : Nat) (Z : Nat → Nat → Int32) (person : Int32) : Int32 := (if (f_S_seatOf k Z person) = (-1) then 0 else 1)
set_option maxHeartbeats 4000000 in
set_option maxRecDepth 100000 in
theorem c_S_isSeated (l : Launch) (D : va_G) (cI : ClassId) (a : Nat → Nat) (k : Nat) (n : Nat) (Z : Nat → Nat → Int32) (person : Int32) (hk : k ≤ 20) (hn : n ≤ 60) : zR l D [(cI, .int)] y_S_isSeated b_S_isSeated 2 (some .boolean) 3 63 [.ref (a 0), .int person] (wS a cI (nI k) (nI n) Z) (f_S_isSeated k Z person) := by
  refine zR.of (by decide) (Nat.le_of_ble_eq_true rfl) ?_
  intro p e s m below meth c0 ls E hrt hlk hN hK hP hl
  have hx := E.1
  have hb := E.2.1
  have hl : lv_has ls 2 [(0, .ref (a 0)), (1, .int person)] := hl
  refine lv_aload_n hx hb d_S_isSeated_0 rfl (lv_at hl 0 rfl) ?_
  refine lv_iload_n hx hb d_S_isSeated_1 rfl (lv_at hl 1 rfl) ?_
  refine z_rv (As := [.int person]) (rest := []) E hN hK hP hl.1 (c_S_seatOf l D cI a k n Z person hk hn) [0, 1, 2] rfl 0 rfl rfl kz_S_37 rfl ⟨Nat.le_of_ble_eq_true rfl, Nat.le_of_ble_eq_true rfl⟩ rfl (Nat.le_of_ble_eq_true rfl) ⟨Nat.zero_le _, Nat.zero_le _⟩ d_S_isSeated_2 ?_
  refine lv_iconst (v := (-1)) hx hb d_S_isSeated_5 (by decide) ?_
  refine lv_icmp_eq (tgt := 13) hx hb d_S_isSeated_6 (by decide) (fun c_1 => ?_) (fun c_1 => ?_)
  · refine lv_iconst (v := 0) hx hb d_S_isSeated_13 (by decide) ?_
    exact zR.zret E hrt hlk rfl (by unfold f_S_isSeated; rw [if_pos c_1]) d_S_isSeated_14
  · refine lv_iconst (v := 1) hx hb d_S_isSeated_9 (by decide) ?_
    refine lv_goto (tgt := 14) hx hb d_S_isSeated_10 (by decide) ?_
    exact zR.zret E hrt hlk rfl (by unfold f_S_isSeated; rw [if_neg c_1]) d_S_isSeated_14
def f_S_isPresent (k : Nat) (n : Nat) (Z : Nat → Nat → Int32) (person : Int32) : Int32 := (if (f_S_isSeated k Z person) = 0 then (if (f_S_placeInRow n Z person) = (-1) then 0 else 1) else 1)
set_option maxHeartbeats 4000000 in
set_option maxRecDepth 100000 in
theorem c_S_isPresent (l : Launch) (D : va_G) (cI : ClassId) (a : Nat → Nat) (k : Nat) (n : Nat) (Z : Nat → Nat → Int32) (person : Int32) (hk : k ≤ 20) (hn : n ≤ 60) : zR l D [(cI, .int)] y_S_isPresent b_S_isPresent 2 (some .boolean) 4 84 [.ref (a 0), .int person] (wS a cI (nI k) (nI n) Z) (f_S_isPresent k n Z person) := by
  refine zR.of (by decide) (Nat.le_of_ble_eq_true rfl) ?_
  intro p e s m below meth c0 ls E hrt hlk hN hK hP hl
  have hx := E.1
  have hb := E.2.1
  have hl : lv_has ls 2 [(0, .ref (a 0)), (1, .int person)] := hl
  refine lv_aload_n hx hb d_S_isPresent_0 rfl (lv_at hl 0 rfl) ?_
  refine lv_iload_n hx hb d_S_isPresent_1 rfl (lv_at hl 1 rfl) ?_
  refine z_rv (As := [.int person]) (rest := []) E hN hK hP hl.1 (c_S_isSeated l D cI a k n Z person hk hn) [0, 1, 2] rfl 0 rfl rfl kz_S_41 rfl ⟨Nat.le_of_ble_eq_true rfl, Nat.le_of_ble_eq_true rfl⟩ rfl (Nat.le_of_ble_eq_true rfl) ⟨Nat.zero_le _, Nat.zero_le _⟩ d_S_isPresent_2 ?_
  refine lv_if_ne (tgt := 17) hx hb d_S_isPresent_5 (by decide) (fun c_1 => ?_) (fun c_1 => ?_)
  · refine lv_iconst (v := 1) hx hb d_S_isPresent_17 (by decide) ?_
    refine lv_goto (tgt := 22) hx hb d_S_isPresent_18 (by decide) ?_
    exact zR.zret E hrt hlk rfl (by unfold f_S_isPresent; rw [if_neg c_1]) d_S_isPresent_22
  · refine lv_aload_n hx hb d_S_isPresent_8 rfl (lv_at hl 0 rfl) ?_
    refine lv_iload_n hx hb d_S_isPresent_9 rfl (lv_at hl 1 rfl) ?_
    refine z_rv (As := [.int person]) (rest := []) E hN hK hP hl.1 (c_S_placeInRow l D cI a k n Z person hk hn) [0, 1, 2] rfl 0 rfl rfl kz_S_45 rfl ⟨Nat.le_of_ble_eq_true rfl, Nat.le_of_ble_eq_true rfl⟩ rfl (Nat.le_of_ble_eq_true rfl) ⟨Nat.zero_le _, Nat.zero_le _⟩ d_S_isPresent_10 ?_
    refine lv_iconst (v := (-1)) hx hb d_S_isPresent_13 (by decide) ?_
    refine lv_icmp_eq (tgt := 21) hx hb d_S_isPresent_14 (by decide) (fun c_2 => ?_) (fun c_2 => ?_)
    · refine lv_iconst (v := 0) hx hb d_S_isPresent_21 (by decide) ?_
      exact zR.zret E hrt hlk rfl (by unfold f_S_isPresent; rw [if_pos c_1, if_pos c_2]) d_S_isPresent_22
    · refine lv_iconst (v := 1) hx hb d_S_isPresent_17 (by decide) ?_
      refine lv_goto (tgt := 22) hx hb d_S_isPresent_18 (by decide) ?_
      exact zR.zret E hrt hlk rfl (by unfold f_S_isPresent; rw [if_pos c_1, if_neg c_2]) d_S_isPresent_22
def f_S_dropFromRow_L (n : Nat) (place : Int32) : Nat → Nat → (Nat → Nat → Int32) → Int32 × (Nat → Nat → Int32)
  | 0, k0, Z => ((nI n) - 1, Z)
  | d + 1, k0, Z => (f_S_dropFromRow_L n place d (k0 + 1) (up2 Z 1 (k0 - 1) (Z 1 k0)))
theorem f_S_dropFromRow_L_0 (n : Nat) (place : Int32) (k0 : Nat) (Z : Nat → Nat → Int32) : f_S_dropFromRow_L n place 0 k0 Z = ((nI n) - 1, Z) := rfl
theorem f_S_dropFromRow_L_s (n : Nat) (place : Int32) (d k0 : Nat) (Z : Nat → Nat → Int32) : f_S_dropFromRow_L n place (d + 1) k0 Z = (f_S_dropFromRow_L n place d (k0 + 1) (up2 Z 1 (k0 - 1) (Z 1 k0))) := rfl
def f_S_dropFromRow (n : Nat) (Z : Nat → Nat → Int32) (place : Int32) : Int32 × (Nat → Nat → Int32) := (if (f_isWithin place 0 ((nI n) - 1)) = 0 then (nI n, Z) else (f_S_dropFromRow_L n place (n - (place.toNatClampNeg + 1)) (place.toNatClampNeg + 1) Z))
set_option maxHeartbeats 4000000 in
set_option maxRecDepth 100000 in
theorem lp_S_dropFromRow (l : Launch) (D : va_G) (cI : ClassId) (a : Nat → Nat) (k : Nat) (n : Nat) (place : Int32) (hk : k ≤ 20) (hn : n ≤ 60) {p : Program} {e : Env} {s : State} {m : MethodId} {below : List Frame} {meth : Method} {c0 : Code} {A : Nat → Prop} (E : CallFix p m c0 b_S_dropFromRow 3 s ([.ref (a 0), .int place] : List Value).toArray zB y_S_dropFromRow.cls) (hrt : meth.sig.returnType = none) (hlk : meth.locks = false) (hN : zN s) (hK : va_K D vwCl [(cI, .int)] s) (hA : ∀ q, s.heap.size ≤ q → A q) :
    ∀ (d k0 : Nat) (Z : Nat → Nat → Int32), k0 + d = n → 1 ≤ k0 → ∀ X : Int32 × (Nat → Nat → Int32), f_S_dropFromRow_L n place d k0 Z = X → ∀ (H : Heap) (locs : List Loc), zG D A s H locs (wS a cI (nI k) (nI n) Z) → ∀ ls : Array Slot, lv_has ls 3 [(2, .int (nI k0)), (0, .ref (a 0)), (1, .int place)] → W p l e { frames := 1, cells := 0, slots := 0, locals := 22 } s m ([.ref (a 0), .int place] : List Value).toArray below meth c0 H locs 0 0 (MQ below (zQ D A (wS a cI (nI k) X.1 X.2) none) ([.ref (a 0), .int place] : List Value).toArray s 0 0 A) (F0 m 19 ls []) := by
  have hx := E.1
  have hb := E.2.1
  intro d
  induction d with
  | zero =>
    intro k0 Z hkd hiv X hr H locs G ls hl
    refine lv_iload_n hx hb d_S_dropFromRow_19 rfl (lv_at hl 0 rfl) ?_
    refine lv_aload_n hx hb d_S_dropFromRow_20 rfl (lv_at hl 1 rfl) ?_
    refine z_get (v := .int (nI n)) E hK G.1 i_S 0 3 rfl rfl (by decide) kf_S_54 rfl d_S_dropFromRow_21 ?_
    refine lv_icmp_ge (tgt := 47) hx hb d_S_dropFromRow_24 (by decide) (fun c_1 => ?_) (fun c_1 => absurd (nI_le (by omega) (by omega)) c_1)
    refine lv_aload_n hx hb d_S_dropFromRow_47 rfl (lv_at hl 1 rfl) ?_
    refine lv_dup hx hb d_S_dropFromRow_48 rfl ?_
    refine z_get (v := .int (nI n)) E hK G.1 i_S 0 3 rfl rfl (by decide) kf_S_54 rfl d_S_dropFromRow_49 ?_
    refine lv_iconst (v := 1) hx hb d_S_dropFromRow_52 (by decide) ?_
    refine lv_isub hx hb d_S_dropFromRow_53 ?_
    refine z_put (ty := .int) (ws' := wS a cI (nI k) ((nI n) - 1) Z) E hK G i_S t_S t_S_ok n_S 0 3 rfl rfl (by decide) kf_S_54 rfl rfl rfl rfl (Nat.le_of_ble_eq_true rfl) rfl d_S_dropFromRow_54 (fun H locs G => ?_)
    have hf : X = ((nI n) - 1, Z) := by rw [← hr, f_S_dropFromRow_L_0]
    exact zW.vret E hrt hlk G (by rw [hf]) (by rfl) d_S_dropFromRow_57
  | succ d ih =>
    intro k0 Z hkd hiv X hr H locs G ls hl
    refine lv_iload_n hx hb d_S_dropFromRow_19 rfl (lv_at hl 0 rfl) ?_
    refine lv_aload_n hx hb d_S_dropFromRow_20 rfl (lv_at hl 1 rfl) ?_
    refine z_get (v := .int (nI n)) E hK G.1 i_S 0 3 rfl rfl (by decide) kf_S_54 rfl d_S_dropFromRow_21 ?_
    refine lv_icmp_ge (tgt := 47) hx hb d_S_dropFromRow_24 (by decide) (fun c_2 => absurd c_2 (nI_ge (by omega) (by omega))) (fun c_2 => ?_)
    refine lv_aload_n hx hb d_S_dropFromRow_27 rfl (lv_at hl 1 rfl) ?_
    refine z_get (v := .ref (a 2)) E hK G.1 i_S 0 2 rfl rfl (by decide) kf_S_15 rfl d_S_dropFromRow_28 ?_
    refine lv_iload_n hx hb d_S_dropFromRow_31 rfl (lv_at hl 0 rfl) ?_
    refine lv_iconst (v := 1) hx hb d_S_dropFromRow_32 (by decide) ?_
    refine lv_isub hx hb d_S_dropFromRow_33 ?_
    refine lv_aload_n hx hb d_S_dropFromRow_34 rfl (lv_at hl 1 rfl) ?_
    refine z_get (v := .ref (a 2)) E hK G.1 i_S 0 2 rfl rfl (by decide) kf_S_15 rfl d_S_dropFromRow_35 ?_
    refine lv_iload_n hx hb d_S_dropFromRow_38 rfl (lv_at hl 0 rfl) ?_
    refine z_aldN (f := Z 1) (j := k0) E hK G.1 2 0 rfl rfl rfl (by omega) (by decide) d_S_dropFromRow_39 ?_
    refine z_astN (f := Z 1) (j := (k0 - 1)) (ws' := wS a cI (nI k) (nI n) (up2 Z 1 (k0 - 1) (Z 1 k0))) E hK G 2 0 rfl rfl (nI_m1 (by omega)) (by omega) (by decide) rfl d_S_dropFromRow_40 (fun H locs G => ?_)
    refine lv_iinc (v := nI (k0 + 1)) (lv' := [(2, .int (nI (k0 + 1))), (0, .ref (a 0)), (1, .int place)]) hx hb d_S_dropFromRow_41 hl (k := 0) rfl (nI_1 _) (by decide) rfl (fun ls hl => ?_)
    refine lv_goto (tgt := 19) hx hb d_S_dropFromRow_44 (by decide) ?_
    exact ih (k0 + 1) (up2 Z 1 (k0 - 1) (Z 1 k0)) (by omega) (by omega) X (by rw [← hr, f_S_dropFromRow_L_s]) H locs G ls (lv_sub hl [0, 1, 2] rfl)
set_option maxHeartbeats 4000000 in
set_option maxRecDepth 100000 in
theorem c_S_dropFromRow (l : Launch) (D : va_G) (cI : ClassId) (a : Nat → Nat) (k : Nat) (n : Nat) (Z : Nat → Nat → Int32) (place : Int32) (hk : k ≤ 20) (hn : n ≤ 60) : zW l D [(cI, .int)] y_S_dropFromRow b_S_dropFromRow 3 none 1 22 [.ref (a 0), .int place] (wS a cI (nI k) (nI n) Z) (wS a cI (nI k) ((f_S_dropFromRow n Z place).1) ((f_S_dropFromRow n Z place).2)) none := by
  refine zW.of (by decide) (Nat.le_of_ble_eq_true rfl) ?_
  intro p e s m below meth c0 ls A E hrt hlk hN hK hA G hl
  have hx := E.1
  have hb := E.2.1
  have hl : lv_has ls 3 [(0, .ref (a 0)), (1, .int place)] := hl
  refine lv_iload_n hx hb d_S_dropFromRow_0 rfl (lv_at hl 1 rfl) ?_
  refine lv_iconst (v := 0) hx hb d_S_dropFromRow_1 (by decide) ?_
  refine lv_aload_n hx hb d_S_dropFromRow_2 rfl (lv_at hl 0 rfl) ?_
  refine z_get (v := .int (nI n)) E hK G.1 i_S 0 3 rfl rfl (by decide) kf_S_54 rfl d_S_dropFromRow_3 ?_
  refine lv_iconst (v := 1) hx hb d_S_dropFromRow_6 (by decide) ?_
  refine lv_isub hx hb d_S_dropFromRow_7 ?_
  refine z_rn (As := [.int place, .int 0, .int ((nI n) - 1)]) (rest := []) E hN hK hl.1 (c_isWithin l D [(cI, .int)] place 0 ((nI n) - 1)) kz_S_61 rfl ⟨Nat.le_of_ble_eq_true rfl, Nat.le_of_ble_eq_true rfl⟩ rfl (Nat.le_of_ble_eq_true rfl) ⟨Nat.zero_le _, Nat.zero_le _⟩ d_S_dropFromRow_8 ?_
  refine lv_if_ne (tgt := 15) hx hb d_S_dropFromRow_11 (by decide) (fun c_1 => ?_) (fun c_1 => ?_)
  · refine lv_iload_n hx hb d_S_dropFromRow_15 rfl (lv_at hl 1 rfl) ?_
    refine lv_iconst (v := 1) hx hb d_S_dropFromRow_16 (by decide) ?_
    refine lv_iadd hx hb d_S_dropFromRow_17 ?_
    refine lv_istore_n (lv' := [(2, .int (place + 1)), (0, .ref (a 0)), (1, .int place)]) hx hb d_S_dropFromRow_18 rfl hl (by decide) rfl (fun ls hl => ?_)
    have hdr := drop_in hn c_1
    exact lp_S_dropFromRow l D cI a k n place hk hn E hrt hlk hN hK hA (n - (place.toNatClampNeg + 1)) (place.toNatClampNeg + 1) Z (by omega) (by omega) _ (by unfold f_S_dropFromRow; rw [if_neg c_1]) _ _ G ls (by rw [← hdr.2]; exact lv_sub hl [0, 1, 2] rfl)
  · have hf : f_S_dropFromRow n Z place = (nI n, Z) := by unfold f_S_dropFromRow; rw [if_pos c_1]
    exact zW.vret E hrt hlk G (by rw [hf]) (by rfl) d_S_dropFromRow_14
def f_S_admit (k : Nat) (n : Nat) (Z : Nat → Nat → Int32) (person : Int32) : Int32 × Int32 × (Nat → Nat → Int32) := (if (f_S_firstSeatWith k Z (-1)) = (-1) then (if 60 ≤ (nI n) then ((-10) - (nI n), nI n, Z) else ((-10) - (nI n), (nI n) + 1, up2 Z 1 n person)) else (f_S_firstSeatWith k Z (-1), nI n, up2 Z 0 (f_S_firstSeatWith k Z (-1)).toNatClampNeg person))
set_option maxHeartbeats 4000000 in
set_option maxRecDepth 100000 in
theorem c_S_admit (l : Launch) (D : va_G) (cI : ClassId) (a : Nat → Nat) (k : Nat) (n : Nat) (Z : Nat → Nat → Int32) (person : Int32) (hk : k ≤ 20) (hn : n ≤ 60) : zW l D [(cI, .int)] y_S_admit b_S_admit 4 (some .int) 1 22 [.ref (a 0), .int person] (wS a cI (nI k) (nI n) Z) (wS a cI (nI k) ((f_S_admit k n Z person).2.1) ((f_S_admit k n Z person).2.2)) (some (.int (f_S_admit k n Z person).1)) := by
  refine zW.of (by decide) (Nat.le_of_ble_eq_true rfl) ?_
  intro p e s m below meth c0 ls A E hrt hlk hN hK hA G hl
  have hx := E.1
  have hb := E.2.1
  have hl : lv_has ls 4 [(0, .ref (a 0)), (1, .int person)] := hl
  refine lv_aload_n hx hb d_S_admit_0 rfl (lv_at hl 0 rfl) ?_
  refine lv_iconst (v := (-1)) hx hb d_S_admit_1 (by decide) ?_
  refine z_rv (As := [.int (-1)]) (rest := []) E hN hK G.1 hl.1 (c_S_firstSeatWith l D cI a k n Z (-1) hk hn) [0, 1, 2] rfl 0 rfl rfl kz_S_51 rfl ⟨Nat.le_of_ble_eq_true rfl, Nat.le_of_ble_eq_true rfl⟩ rfl (Nat.le_of_ble_eq_true rfl) ⟨Nat.zero_le _, Nat.zero_le _⟩ d_S_admit_2 ?_
  refine lv_istore_n (lv' := [(2, .int (f_S_firstSeatWith k Z (-1))), (0, .ref (a 0)), (1, .int person)]) hx hb d_S_admit_5 rfl hl (by decide) rfl (fun ls hl => ?_)
  refine lv_iload_n hx hb d_S_admit_6 rfl (lv_at hl 0 rfl) ?_
  refine lv_iconst (v := (-1)) hx hb d_S_admit_7 (by decide) ?_
  refine lv_icmp_eq (tgt := 20) hx hb d_S_admit_8 (by decide) (fun c_1 => ?_) (fun c_1 => ?_)
  · refine lv_aload_n hx hb d_S_admit_20 rfl (lv_at hl 1 rfl) ?_
    refine z_get (v := .int (nI n)) E hK G.1 i_S 0 3 rfl rfl (by decide) kf_S_54 rfl d_S_admit_21 ?_
    refine lv_istore_n (lv' := [(3, .int (nI n)), (2, .int (f_S_firstSeatWith k Z (-1))), (0, .ref (a 0)), (1, .int person)]) hx hb d_S_admit_24 rfl hl (by decide) rfl (fun ls hl => ?_)
    refine lv_iload_n hx hb d_S_admit_25 rfl (lv_at hl 0 rfl) ?_
    refine lv_bipush (v := 60) hx hb d_S_admit_26 (by decide) ?_
    refine lv_icmp_ge (tgt := 48) hx hb d_S_admit_28 (by decide) (fun c_2 => ?_) (fun c_2 => ?_)
    · refine lv_bipush (v := (-10)) hx hb d_S_admit_48 (by decide) ?_
      refine lv_iload_n hx hb d_S_admit_50 rfl (lv_at hl 0 rfl) ?_
      refine lv_isub hx hb d_S_admit_51 ?_
      have hf : f_S_admit k n Z person = ((-10) - (nI n), nI n, Z) := by unfold f_S_admit; rw [if_pos c_1, if_pos c_2]
      exact zW.iret E hrt hlk G (by rw [hf]) (by rw [hf]) d_S_admit_52
    · have h60 : n < 60 := nI_nle_lt (by omega) (by decide) c_2
      refine lv_aload_n hx hb d_S_admit_31 rfl (lv_at hl 2 rfl) ?_
      refine z_get (v := .ref (a 2)) E hK G.1 i_S 0 2 rfl rfl (by decide) kf_S_15 rfl d_S_admit_32 ?_
      refine lv_iload_n hx hb d_S_admit_35 rfl (lv_at hl 0 rfl) ?_
      refine lv_iload_n hx hb d_S_admit_36 rfl (lv_at hl 3 rfl) ?_
      refine z_astN (f := Z 1) (j := n) (ws' := wS a cI (nI k) (nI n) (up2 Z 1 n person)) E hK G 2 0 rfl rfl rfl (by omega) (by decide) rfl d_S_admit_37 (fun H locs G => ?_)
      refine lv_aload_n hx hb d_S_admit_38 rfl (lv_at hl 2 rfl) ?_
      refine lv_dup hx hb d_S_admit_39 rfl ?_
      refine z_get (v := .int (nI n)) E hK G.1 i_S 0 3 rfl rfl (by decide) kf_S_54 rfl d_S_admit_40 ?_
      refine lv_iconst (v := 1) hx hb d_S_admit_43 (by decide) ?_
      refine lv_iadd hx hb d_S_admit_44 ?_
      refine z_put (ty := .int) (ws' := wS a cI (nI k) ((nI n) + 1) (up2 Z 1 n person)) E hK G i_S t_S t_S_ok n_S 0 3 rfl rfl (by decide) kf_S_54 rfl rfl rfl rfl (Nat.le_of_ble_eq_true rfl) rfl d_S_admit_45 (fun H locs G => ?_)
      refine lv_bipush (v := (-10)) hx hb d_S_admit_48 (by decide) ?_
      refine lv_iload_n hx hb d_S_admit_50 rfl (lv_at hl 0 rfl) ?_
      refine lv_isub hx hb d_S_admit_51 ?_
      have hf : f_S_admit k n Z person = ((-10) - (nI n), (nI n) + 1, up2 Z 1 n person) := by unfold f_S_admit; rw [if_pos c_1, if_neg c_2]
      exact zW.iret E hrt hlk G (by rw [hf]) (by rw [hf]) d_S_admit_52
  · refine lv_aload_n hx hb d_S_admit_11 rfl (lv_at hl 1 rfl) ?_
    refine z_get (v := .ref (a 1)) E hK G.1 i_S 0 1 rfl rfl (by decide) kf_S_9 rfl d_S_admit_12 ?_
    refine lv_iload_n hx hb d_S_admit_15 rfl (lv_at hl 0 rfl) ?_
    refine lv_iload_n hx hb d_S_admit_16 rfl (lv_at hl 2 rfl) ?_
    refine z_ast (f := Z 0) (ws' := wS a cI (nI k) (nI n) (up2 Z 0 (f_S_firstSeatWith k Z (-1)).toNatClampNeg person)) E hK G 1 0 rfl rfl (fs_in hk c_1) rfl d_S_admit_17 (fun H locs G => ?_)
    refine lv_iload_n hx hb d_S_admit_18 rfl (lv_at hl 0 rfl) ?_
    have hf : f_S_admit k n Z person = (f_S_firstSeatWith k Z (-1), nI n, up2 Z 0 (f_S_firstSeatWith k Z (-1)).toNatClampNeg person) := by unfold f_S_admit; rw [if_neg c_1]
    exact zW.iret E hrt hlk G (by rw [hf]) (by rw [hf]) d_S_admit_19
def f_S_release (k : Nat) (n : Nat) (Z : Nat → Nat → Int32) (person : Int32) : Int32 × Int32 × (Nat → Nat → Int32) := (if (f_S_seatOf k Z person) = (-1) then (100, (f_S_dropFromRow n Z (f_S_placeInRow n Z person)).1, (f_S_dropFromRow n Z (f_S_placeInRow n Z person)).2) else (if (nI n) = 0 then (100, nI n, up2 Z 0 (f_S_seatOf k Z person).toNatClampNeg (-1)) else (((f_S_dropFromRow n (up2 Z 0 (f_S_seatOf k Z person).toNatClampNeg (Z 1 0)) 0).2) 0 (f_S_seatOf k Z person).toNatClampNeg, (f_S_dropFromRow n (up2 Z 0 (f_S_seatOf k Z person).toNatClampNeg (Z 1 0)) 0).1, (f_S_dropFromRow n (up2 Z 0 (f_S_seatOf k Z person).toNatClampNeg (Z 1 0)) 0).2)))
set_option maxHeartbeats 4000000 in
set_option maxRecDepth 100000 in
theorem c_S_release (l : Launch) (D : va_G) (cI : ClassId) (a : Nat → Nat) (k : Nat) (n : Nat) (Z : Nat → Nat → Int32) (person : Int32) (hk : k ≤ 20) (hn : n ≤ 60) : zW l D [(cI, .int)] y_S_release b_S_release 3 (some .int) 3 63 [.ref (a 0), .int person] (wS a cI (nI k) (nI n) Z) (wS a cI (nI k) ((f_S_release k n Z person).2.1) ((f_S_release k n Z person).2.2)) (some (.int (f_S_release k n Z person).1)) := by
  refine zW.of (by decide) (Nat.le_of_ble_eq_true rfl) ?_
  intro p e s m below meth c0 ls A E hrt hlk hN hK hA G hl
  have hx := E.1
  have hb := E.2.1
  have hl : lv_has ls 3 [(0, .ref (a 0)), (1, .int person)] := hl
  refine lv_aload_n hx hb d_S_release_0 rfl (lv_at hl 0 rfl) ?_
  refine lv_iload_n hx hb d_S_release_1 rfl (lv_at hl 1 rfl) ?_
  refine z_rv (As := [.int person]) (rest := []) E hN hK G.1 hl.1 (c_S_seatOf l D cI a k n Z person hk hn) [0, 1, 2] rfl 0 rfl rfl kz_S_37 rfl ⟨Nat.le_of_ble_eq_true rfl, Nat.le_of_ble_eq_true rfl⟩ rfl (Nat.le_of_ble_eq_true rfl) ⟨Nat.zero_le _, Nat.zero_le _⟩ d_S_release_2 ?_
  refine lv_istore_n (lv' := [(2, .int (f_S_seatOf k Z person)), (0, .ref (a 0)), (1, .int person)]) hx hb d_S_release_5 rfl hl (by decide) rfl (fun ls hl => ?_)
  refine lv_iload_n hx hb d_S_release_6 rfl (lv_at hl 0 rfl) ?_
  refine lv_iconst (v := (-1)) hx hb d_S_release_7 (by decide) ?_
  refine lv_icmp_ne (tgt := 23) hx hb d_S_release_8 (by decide) (fun c_1 => ?_) (fun c_1 => ?_)
  · refine lv_aload_n hx hb d_S_release_23 rfl (lv_at hl 1 rfl) ?_
    refine z_get (v := .int (nI n)) E hK G.1 i_S 0 3 rfl rfl (by decide) kf_S_54 rfl d_S_release_24 ?_
    refine lv_if_ne (tgt := 40) hx hb d_S_release_27 (by decide) (fun c_2 => ?_) (fun c_2 => ?_)
    · refine lv_aload_n hx hb d_S_release_40 rfl (lv_at hl 1 rfl) ?_
      refine z_get (v := .ref (a 1)) E hK G.1 i_S 0 1 rfl rfl (by decide) kf_S_9 rfl d_S_release_41 ?_
      refine lv_iload_n hx hb d_S_release_44 rfl (lv_at hl 0 rfl) ?_
      refine lv_aload_n hx hb d_S_release_45 rfl (lv_at hl 1 rfl) ?_
      refine z_get (v := .ref (a 2)) E hK G.1 i_S 0 2 rfl rfl (by decide) kf_S_15 rfl d_S_release_46 ?_
      refine lv_iconst (v := 0) hx hb d_S_release_49 (by decide) ?_
      refine z_aldN (f := Z 1) (j := 0) E hK G.1 2 0 rfl rfl (by decide) (by omega) (by decide) d_S_release_50 ?_
      refine z_ast (f := Z 0) (ws' := wS a cI (nI k) (nI n) (up2 Z 0 (f_S_seatOf k Z person).toNatClampNeg (Z 1 0))) E hK G 1 0 rfl rfl (so_in hk c_1) rfl d_S_release_51 (fun H locs G => ?_)
      refine lv_aload_n hx hb d_S_release_52 rfl (lv_at hl 1 rfl) ?_
      refine lv_iconst (v := 0) hx hb d_S_release_53 (by decide) ?_
      refine z_wv (As := [.int 0]) (rest := []) (wr := ([] : List Nat).filterMap (fun i => (wS a cI (nI k) (nI n) (up2 Z 0 (f_S_seatOf k Z person).toNatClampNeg (Z 1 0)))[i]?)) (ws' := wS a cI (nI k) ((f_S_dropFromRow n (up2 Z 0 (f_S_seatOf k Z person).toNatClampNeg (Z 1 0)) 0).1) ((f_S_dropFromRow n (up2 Z 0 (f_S_seatOf k Z person).toNatClampNeg (Z 1 0)) 0).2)) E hN hK hA G hl.1 (c_S_dropFromRow l D cI a k n (up2 Z 0 (f_S_seatOf k Z person).toNatClampNeg (Z 1 0)) 0 hk hn) [0, 1, 2] [] [0, 1, 2] rfl rfl rfl rfl rfl rfl (by decide) 0 rfl rfl kz_S_57 rfl ⟨Nat.le_of_ble_eq_true rfl, Nat.le_of_ble_eq_true rfl⟩ rfl (Nat.le_of_ble_eq_true rfl) ⟨Nat.zero_le _, Nat.zero_le _⟩ d_S_release_54 (fun H locs G => ?_)
      refine W.eq (g2 := F0 m 57 ls []) rfl ?_
      refine lv_aload_n hx hb d_S_release_57 rfl (lv_at hl 1 rfl) ?_
      refine z_get (v := .ref (a 1)) E hK G.1 i_S 0 1 rfl rfl (by decide) kf_S_9 rfl d_S_release_58 ?_
      refine lv_iload_n hx hb d_S_release_61 rfl (lv_at hl 0 rfl) ?_
      refine z_ald (f := ((f_S_dropFromRow n (up2 Z 0 (f_S_seatOf k Z person).toNatClampNeg (Z 1 0)) 0).2) 0) E hK G.1 1 0 rfl rfl (so_in hk c_1) d_S_release_62 ?_
      have hf : f_S_release k n Z person = (((f_S_dropFromRow n (up2 Z 0 (f_S_seatOf k Z person).toNatClampNeg (Z 1 0)) 0).2) 0 (f_S_seatOf k Z person).toNatClampNeg, (f_S_dropFromRow n (up2 Z 0 (f_S_seatOf k Z person).toNatClampNeg (Z 1 0)) 0).1, (f_S_dropFromRow n (up2 Z 0 (f_S_seatOf k Z person).toNatClampNeg (Z 1 0)) 0).2) := by unfold f_S_release; rw [if_neg c_1, if_neg c_2]
      exact zW.iret E hrt hlk G (by rw [hf]) (by rw [hf]) d_S_release_63
    · refine lv_aload_n hx hb d_S_release_30 rfl (lv_at hl 1 rfl) ?_
      refine z_get (v := .ref (a 1)) E hK G.1 i_S 0 1 rfl rfl (by decide) kf_S_9 rfl d_S_release_31 ?_
      refine lv_iload_n hx hb d_S_release_34 rfl (lv_at hl 0 rfl) ?_
      refine lv_iconst (v := (-1)) hx hb d_S_release_35 (by decide) ?_
      refine z_ast (f := Z 0) (ws' := wS a cI (nI k) (nI n) (up2 Z 0 (f_S_seatOf k Z person).toNatClampNeg (-1))) E hK G 1 0 rfl rfl (so_in hk c_1) rfl d_S_release_36 (fun H locs G => ?_)
      refine lv_bipush (v := 100) hx hb d_S_release_37 (by decide) ?_
      have hf : f_S_release k n Z person = (100, nI n, up2 Z 0 (f_S_seatOf k Z person).toNatClampNeg (-1)) := by unfold f_S_release; rw [if_neg c_1, if_pos c_2]
      exact zW.iret E hrt hlk G (by rw [hf]) (by rw [hf]) d_S_release_39
  · refine lv_aload_n hx hb d_S_release_11 rfl (lv_at hl 1 rfl) ?_
    refine lv_aload_n hx hb d_S_release_12 rfl (lv_at hl 1 rfl) ?_
    refine lv_iload_n hx hb d_S_release_13 rfl (lv_at hl 2 rfl) ?_
    refine z_rv (As := [.int person]) (rest := [.ref (a 0)]) E hN hK G.1 hl.1 (c_S_placeInRow l D cI a k n Z person hk hn) [0, 1, 2] rfl 0 rfl rfl kz_S_45 rfl ⟨Nat.le_of_ble_eq_true rfl, Nat.le_of_ble_eq_true rfl⟩ rfl (Nat.le_of_ble_eq_true rfl) ⟨Nat.zero_le _, Nat.zero_le _⟩ d_S_release_14 ?_
    refine z_wv (As := [.int (f_S_placeInRow n Z person)]) (rest := []) (wr := ([] : List Nat).filterMap (fun i => (wS a cI (nI k) (nI n) Z)[i]?)) (ws' := wS a cI (nI k) ((f_S_dropFromRow n Z (f_S_placeInRow n Z person)).1) ((f_S_dropFromRow n Z (f_S_placeInRow n Z person)).2)) E hN hK hA G hl.1 (c_S_dropFromRow l D cI a k n Z (f_S_placeInRow n Z person) hk hn) [0, 1, 2] [] [0, 1, 2] rfl rfl rfl rfl rfl rfl (by decide) 0 rfl rfl kz_S_57 rfl ⟨Nat.le_of_ble_eq_true rfl, Nat.le_of_ble_eq_true rfl⟩ rfl (Nat.le_of_ble_eq_true rfl) ⟨Nat.zero_le _, Nat.zero_le _⟩ d_S_release_17 (fun H locs G => ?_)
    refine W.eq (g2 := F0 m 20 ls []) rfl ?_
    refine lv_bipush (v := 100) hx hb d_S_release_20 (by decide) ?_
    have hf : f_S_release k n Z person = (100, (f_S_dropFromRow n Z (f_S_placeInRow n Z person)).1, (f_S_dropFromRow n Z (f_S_placeInRow n Z person)).2) := by unfold f_S_release; rw [if_pos c_1]
    exact zW.iret E hrt hlk G (by rw [hf]) (by rw [hf]) d_S_release_22
def f_S_clear (Z : Nat → Nat → Int32)  : Int32 × (Nat → Nat → Int32) := (0, fill2 Z 0 20 (-1))
set_option maxHeartbeats 4000000 in
set_option maxRecDepth 100000 in
theorem c_S_clear (l : Launch) (D : va_G) (cI : ClassId) (a : Nat → Nat) (k : Nat) (n : Nat) (Z : Nat → Nat → Int32)  (hk : k ≤ 20) (hn : n ≤ 60) : zW l D [(cI, .int)] y_S_clear b_S_clear 1 none 1 23 [.ref (a 0)] (wS a cI (nI k) (nI n) Z) (wS a cI (nI k) ((f_S_clear Z).1) ((f_S_clear Z).2)) none := by
  refine zW.of (by decide) (Nat.le_of_ble_eq_true rfl) ?_
  intro p e s m below meth c0 ls A E hrt hlk hN hK hA G hl
  have hx := E.1
  have hb := E.2.1
  have hl : lv_has ls 1 [(0, .ref (a 0))] := hl
  refine lv_aload_n hx hb d_S_clear_0 rfl (lv_at hl 0 rfl) ?_
  refine z_get (v := .ref (a 1)) E hK G.1 i_S 0 1 rfl rfl (by decide) kf_S_9 rfl d_S_clear_1 ?_
  refine lv_iconst (v := (-1)) hx hb d_S_clear_4 (by decide) ?_
  refine z_ws (As := [.ref (a 1), .int (-1)]) (rest := []) (wr := ([0, 2] : List Nat).filterMap (fun i => (wS a cI (nI k) (nI n) Z)[i]?)) (ws' := wS a cI (nI k) (nI n) (fill2 Z 0 20 (-1))) E hN hK hA G hl.1 (c_fill l D cI (a 1) 20 (Z 0) (-1) (by decide)) [1] [0, 2] [0, 2, 1] rfl rfl rfl rfl rfl rfl (by decide) kz_S_31 rfl ⟨Nat.le_of_ble_eq_true rfl, Nat.le_of_ble_eq_true rfl⟩ rfl (Nat.le_of_ble_eq_true rfl) ⟨Nat.zero_le _, Nat.zero_le _⟩ d_S_clear_5 (fun H locs G => ?_)
  have G : zG D A s H locs (wS a cI (nI k) (nI n) (fill2 Z 0 20 (-1))) := G
  refine lv_aload_n hx hb d_S_clear_8 rfl (lv_at hl 0 rfl) ?_
  refine lv_iconst (v := 0) hx hb d_S_clear_9 (by decide) ?_
  refine z_put (ty := .int) (ws' := wS a cI (nI k) 0 (fill2 Z 0 20 (-1))) E hK G i_S t_S t_S_ok n_S 0 3 rfl rfl (by decide) kf_S_54 rfl rfl rfl rfl (Nat.le_of_ble_eq_true rfl) rfl d_S_clear_10 (fun H locs G => ?_)
  have hf : f_S_clear Z = (0, fill2 Z 0 20 (-1)) := by rfl
  exact zW.vret E hrt hlk G (by rw [hf]) (by rfl) d_S_clear_13
