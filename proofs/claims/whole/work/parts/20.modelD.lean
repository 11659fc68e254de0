def f_M_close_L3 (c : Nat) (P : Nat → Nat → Int32) (t : Int32) : Nat → Nat → Int32 → (Nat → Nat → Int32) → (Nat → Nat → Int32) → (Nat → Nat → Int32) → Int32 × Int32 × Int32 × Int32 × Int32 × (Nat → Nat → Int32) × (Nat → Nat → Int32) × (Nat → Nat → Int32) × (Nat → Nat → Int32)
  | 0, k0, x2, Z, U, V => (x2, 0, t, 0, nI c, Z, P, U, V)
  | d + 1, k0, x2, Z, U, V => (f_M_close_L3 c P t d (k0 + 1) x2 (up2 Z 0 k0 (-1)) U V)
theorem f_M_close_L3_0 (c : Nat) (P : Nat → Nat → Int32) (t : Int32) (k0 : Nat) (x2 : Int32) (Z : Nat → Nat → Int32) (U : Nat → Nat → Int32) (V : Nat → Nat → Int32) : f_M_close_L3 c P t 0 k0 x2 Z U V = (x2, 0, t, 0, nI c, Z, P, U, V) := rfl
theorem f_M_close_L3_s (c : Nat) (P : Nat → Nat → Int32) (t : Int32) (d k0 : Nat) (x2 : Int32) (Z : Nat → Nat → Int32) (U : Nat → Nat → Int32) (V : Nat → Nat → Int32) : f_M_close_L3 c P t (d + 1) k0 x2 Z U V = (f_M_close_L3 c P t d (k0 + 1) x2 (up2 Z 0 k0 (-1)) U V) := rfl
def f_M_close_L2 (k : Nat) (c : Nat) (Z : Nat → Nat → Int32) (P : Nat → Nat → Int32) (t : Int32) : Nat → Nat → Int32 → (Nat → Nat → Int32) → (Nat → Nat → Int32) → Int32 × Int32 × Int32 × Int32 × Int32 × (Nat → Nat → Int32) × (Nat → Nat → Int32) × (Nat → Nat → Int32) × (Nat → Nat → Int32)
  | 0, k0, x2, U, V => (f_M_close_L3 c P t k 0 x2 Z U V)
  | d + 1, k0, x2, U, V => (if (V 2 k0) = 2 then (if (V 2 k0) = 0 then (f_M_close_L2 k c Z P t d (k0 + 1) x2 U (up2 (up2 V 5 k0 t) 2 k0 4)) else (if 3 ≤ (V 2 k0) then (f_M_close_L2 k c Z P t d (k0 + 1) x2 U (up2 (up2 V 5 k0 t) 2 k0 (V 2 k0))) else (f_M_close_L2 k c Z P t d (k0 + 1) x2 U (up2 (up2 V 5 k0 t) 2 k0 3)))) else (if (V 2 k0) = 0 then (f_M_close_L2 k c Z P t d (k0 + 1) x2 U (up2 V 2 k0 4)) else (if 3 ≤ (V 2 k0) then (f_M_close_L2 k c Z P t d (k0 + 1) x2 U (up2 V 2 k0 (V 2 k0))) else (f_M_close_L2 k c Z P t d (k0 + 1) x2 U (up2 V 2 k0 3)))))
theorem f_M_close_L2_0 (k : Nat) (c : Nat) (Z : Nat → Nat → Int32) (P : Nat → Nat → Int32) (t : Int32) (k0 : Nat) (x2 : Int32) (U : Nat → Nat → Int32) (V : Nat → Nat → Int32) : f_M_close_L2 k c Z P t 0 k0 x2 U V = (f_M_close_L3 c P t k 0 x2 Z U V) := rfl
theorem f_M_close_L2_s (k : Nat) (c : Nat) (Z : Nat → Nat → Int32) (P : Nat → Nat → Int32) (t : Int32) (d k0 : Nat) (x2 : Int32) (U : Nat → Nat → Int32) (V : Nat → Nat → Int32) : f_M_close_L2 k c Z P t (d + 1) k0 x2 U V = (if (V 2 k0) = 2 then (if (V 2 k0) = 0 then (f_M_close_L2 k c Z P t d (k0 + 1) x2 U (up2 (up2 V 5 k0 t) 2 k0 4)) else (if 3 ≤ (V 2 k0) then (f_M_close_L2 k c Z P t d (k0 + 1) x2 U (up2 (up2 V 5 k0 t) 2 k0 (V 2 k0))) else (f_M_close_L2 k c Z P t d (k0 + 1) x2 U (up2 (up2 V 5 k0 t) 2 k0 3)))) else (if (V 2 k0) = 0 then (f_M_close_L2 k c Z P t d (k0 + 1) x2 U (up2 V 2 k0 4)) else (if 3 ≤ (V 2 k0) then (f_M_close_L2 k c Z P t d (k0 + 1) x2 U (up2 V 2 k0 (V 2 k0))) else (f_M_close_L2 k c Z P t d (k0 + 1) x2 U (up2 V 2 k0 3))))) := rfl
def f_M_close_L1 (k : Nat) (c : Nat) (Z : Nat → Nat → Int32) (P : Nat → Nat → Int32) (V : Nat → Nat → Int32) (t : Int32) : Nat → Nat → Int32 → (Nat → Nat → Int32) → Int32 × Int32 × Int32 × Int32 × Int32 × (Nat → Nat → Int32) × (Nat → Nat → Int32) × (Nat → Nat → Int32) × (Nat → Nat → Int32)
  | 0, k0, x2, U => (f_M_close_L2 k c Z P t c 0 x2 U V)
  | d + 1, k0, x2, U => (if (U 0 k0) = 0 then (f_M_close_L1 k c Z P V t d (k0 + 1) (x2 + 0) (up2 (up2 U 0 k0 0) 3 k0 (-1))) else (f_M_close_L1 k c Z P V t d (k0 + 1) (x2 + 1) (up2 (up2 U 0 k0 0) 3 k0 (-1))))
theorem f_M_close_L1_0 (k : Nat) (c : Nat) (Z : Nat → Nat → Int32) (P : Nat → Nat → Int32) (V : Nat → Nat → Int32) (t : Int32) (k0 : Nat) (x2 : Int32) (U : Nat → Nat → Int32) : f_M_close_L1 k c Z P V t 0 k0 x2 U = (f_M_close_L2 k c Z P t c 0 x2 U V) := rfl
theorem f_M_close_L1_s (k : Nat) (c : Nat) (Z : Nat → Nat → Int32) (P : Nat → Nat → Int32) (V : Nat → Nat → Int32) (t : Int32) (d k0 : Nat) (x2 : Int32) (U : Nat → Nat → Int32) : f_M_close_L1 k c Z P V t (d + 1) k0 x2 U = (if (U 0 k0) = 0 then (f_M_close_L1 k c Z P V t d (k0 + 1) (x2 + 0) (up2 (up2 U 0 k0 0) 3 k0 (-1))) else (f_M_close_L1 k c Z P V t d (k0 + 1) (x2 + 1) (up2 (up2 U 0 k0 0) 3 k0 (-1)))) := rfl
def f_M_close (nw : Int32) (k : Nat) (n : Nat) (c : Nat) (Z : Nat → Nat → Int32) (P : Nat → Nat → Int32) (U : Nat → Nat → Int32) (V : Nat → Nat → Int32) (t : Int32) : Int32 × Int32 × Int32 × Int32 × Int32 × (Nat → Nat → Int32) × (Nat → Nat → Int32) × (Nat → Nat → Int32) × (Nat → Nat → Int32) := (if (f_M_isNow nw t) = 0 then ((-2), 0, nw, nI n, nI c, Z, P, U, V) else (f_M_close_L1 k c Z P V t 80 0 0 U))
set_option maxHeartbeats 4000000 in
set_option maxRecDepth 100000 in
theorem lp_M_close3 (l : Launch) (D : va_G) (cI : ClassId) (a : Nat → Nat) (k : Nat) (n : Nat) (c : Nat) (P : Nat → Nat → Int32) (t : Int32) (hk : k ≤ 20) (hn : n ≤ 60) (hc : c ≤ 300) {p : Program} {e : Env} {s : State} {m : MethodId} {below : List Frame} {meth : Method} {c0 : Code} {A : Nat → Prop} (E : CallFix p m c0 b_M_close 4 s ([.ref (a 0), .int t] : List Value).toArray zB y_M_close.cls) (hrt : meth.sig.returnType = (some .int)) (hlk : meth.locks = false) (hN : zN s) (hK : va_K D vwCl [(cI, .int)] s) (hA : ∀ q, s.heap.size ≤ q → A q) :
    ∀ (d k0 : Nat) (x2 : Int32) (Z : Nat → Nat → Int32) (U : Nat → Nat → Int32) (V : Nat → Nat → Int32), k0 + d = k → ∀ X : Int32 × Int32 × Int32 × Int32 × Int32 × (Nat → Nat → Int32) × (Nat → Nat → Int32) × (Nat → Nat → Int32) × (Nat → Nat → Int32), f_M_close_L3 c P t d k0 x2 Z U V = X → ∀ (H : Heap) (locs : List Loc), zG D A s H locs (wM a cI 0 t (nI k) (nI n) (nI c) Z P U V) → ∀ ls : Array Slot, lv_has ls 4 [(3, .int (nI k0)), (2, .int x2), (0, .ref (a 0)), (1, .int t)] → W p l e { frames := 2, cells := 0, slots := 0, locals := 43 } s m ([.ref (a 0), .int t] : List Value).toArray below meth c0 H locs 0 0 (MQ below (zQ D A (wM a cI X.2.1 X.2.2.1 (nI k) X.2.2.2.1 X.2.2.2.2.1 X.2.2.2.2.2.1 X.2.2.2.2.2.2.1 X.2.2.2.2.2.2.2.1 X.2.2.2.2.2.2.2.2) (some (.int X.1))) ([.ref (a 0), .int t] : List Value).toArray s 0 0 A) (F0 m 142 ls []) := by
  have hx := E.1
  have hb := E.2.1
  intro d
  induction d with
  | zero =>
    intro k0 x2 Z U V hkd X hr H locs G ls hl
    refine lv_iload_n hx hb d_M_close_142 rfl (lv_at hl 0 rfl) ?_
    refine lv_aload_n hx hb d_M_close_143 rfl (lv_at hl 2 rfl) ?_
    refine z_get (v := .int (nI k)) E hK G.1 i_M 0 2 rfl rfl (by decide) kf_M_61 rfl d_M_close_144 ?_
    refine lv_icmp_ge (tgt := 163) hx hb d_M_close_147 (by decide) (fun c_1 => ?_) (fun c_1 => absurd (nI_le (by omega) (by omega)) c_1)
    refine lv_aload_n hx hb d_M_close_163 rfl (lv_at hl 2 rfl) ?_
    refine lv_iconst (v := 0) hx hb d_M_close_164 (by decide) ?_
    refine z_put (ty := .int) (ws' := wM a cI 0 t (nI k) 0 (nI c) Z P U V) E hK G i_M t_M t_M_ok n_M 0 4 rfl rfl (by decide) kf_M_76 rfl rfl rfl rfl (Nat.le_of_ble_eq_true rfl) rfl d_M_close_165 (fun H locs G => ?_)
    refine lv_iload_n hx hb d_M_close_168 rfl (lv_at hl 1 rfl) ?_
    have hf : X = (x2, 0, t, 0, nI c, Z, P, U, V) := by rw [← hr, f_M_close_L3_0]
    exact zW.iret E hrt hlk G (by rw [hf]) (by rw [hf]) d_M_close_169
  | succ d ih =>
    intro k0 x2 Z U V hkd X hr H locs G ls hl
    refine lv_iload_n hx hb d_M_close_142 rfl (lv_at hl 0 rfl) ?_
    refine lv_aload_n hx hb d_M_close_143 rfl (lv_at hl 2 rfl) ?_
    refine z_get (v := .int (nI k)) E hK G.1 i_M 0 2 rfl rfl (by decide) kf_M_61 rfl d_M_close_144 ?_
    refine lv_icmp_ge (tgt := 163) hx hb d_M_close_147 (by decide) (fun c_2 => absurd c_2 (nI_ge (by omega) (by omega))) (fun c_2 => ?_)
    refine lv_aload_n hx hb d_M_close_150 rfl (lv_at hl 2 rfl) ?_
    refine z_get (v := .ref (a 1)) E hK G.1 i_M 0 3 rfl rfl (by decide) kf_M_7 rfl d_M_close_151 ?_
    refine lv_iload_n hx hb d_M_close_154 rfl (lv_at hl 0 rfl) ?_
    refine lv_iconst (v := (-1)) hx hb d_M_close_155 (by decide) ?_
    refine z_astN (f := Z 0) (j := k0) (ws' := wM a cI 0 t (nI k) (nI n) (nI c) (up2 Z 0 k0 (-1)) P U V) E hK G 1 0 rfl rfl rfl (by omega) (by decide) rfl d_M_close_156 (fun H locs G => ?_)
    refine lv_iinc (v := nI (k0 + 1)) (lv' := [(3, .int (nI (k0 + 1))), (2, .int x2), (0, .ref (a 0)), (1, .int t)]) hx hb d_M_close_157 hl (k := 0) rfl (nI_1 _) (by decide) rfl (fun ls hl => ?_)
    refine lv_goto (tgt := 142) hx hb d_M_close_160 (by decide) ?_
    exact ih (k0 + 1) x2 (up2 Z 0 k0 (-1)) U V (by omega) X (by rw [← hr, f_M_close_L3_s]) H locs G ls (lv_sub hl [0, 1, 2, 3] rfl)
set_option maxHeartbeats 4000000 in
set_option maxRecDepth 100000 in
theorem lp_M_close2 (l : Launch) (D : va_G) (cI : ClassId) (a : Nat → Nat) (k : Nat) (n : Nat) (c : Nat) (Z : Nat → Nat → Int32) (P : Nat → Nat → Int32) (t : Int32) (hk : k ≤ 20) (hn : n ≤ 60) (hc : c ≤ 300) {p : Program} {e : Env} {s : State} {m : MethodId} {below : List Frame} {meth : Method} {c0 : Code} {A : Nat → Prop} (E : CallFix p m c0 b_M_close 4 s ([.ref (a 0), .int t] : List Value).toArray zB y_M_close.cls) (hrt : meth.sig.returnType = (some .int)) (hlk : meth.locks = false) (hN : zN s) (hK : va_K D vwCl [(cI, .int)] s) (hA : ∀ q, s.heap.size ≤ q → A q) :
    ∀ (d k0 : Nat) (x2 : Int32) (U : Nat → Nat → Int32) (V : Nat → Nat → Int32), k0 + d = c → ∀ X : Int32 × Int32 × Int32 × Int32 × Int32 × (Nat → Nat → Int32) × (Nat → Nat → Int32) × (Nat → Nat → Int32) × (Nat → Nat → Int32), f_M_close_L2 k c Z P t d k0 x2 U V = X → ∀ (H : Heap) (locs : List Loc), zG D A s H locs (wM a cI 0 t (nI k) (nI n) (nI c) Z P U V) → ∀ ls : Array Slot, lv_has ls 4 [(3, .int (nI k0)), (2, .int x2), (0, .ref (a 0)), (1, .int t)] → W p l e { frames := 2, cells := 0, slots := 0, locals := 43 } s m ([.ref (a 0), .int t] : List Value).toArray below meth c0 H locs 0 0 (MQ below (zQ D A (wM a cI X.2.1 X.2.2.1 (nI k) X.2.2.2.1 X.2.2.2.2.1 X.2.2.2.2.2.1 X.2.2.2.2.2.2.1 X.2.2.2.2.2.2.2.1 X.2.2.2.2.2.2.2.2) (some (.int X.1))) ([.ref (a 0), .int t] : List Value).toArray s 0 0 A) (F0 m 70 ls []) := by
  have hx := E.1
  have hb := E.2.1
  intro d
  induction d with
  | zero =>
    intro k0 x2 U V hkd X hr H locs G ls hl
    refine lv_iload_n hx hb d_M_close_70 rfl (lv_at hl 0 rfl) ?_
    refine lv_aload_n hx hb d_M_close_71 rfl (lv_at hl 2 rfl) ?_
    refine z_get (v := .int (nI c)) E hK G.1 i_M 0 15 rfl rfl (by decide) kf_M_97 rfl d_M_close_72 ?_
    refine lv_icmp_ge (tgt := 140) hx hb d_M_close_75 (by decide) (fun c_3 => ?_) (fun c_3 => absurd (nI_le (by omega) (by omega)) c_3)
    refine lv_iconst (v := 0) hx hb d_M_close_140 (by decide) ?_
    refine lv_istore_n (lv' := [(3, .int 0), (2, .int x2), (0, .ref (a 0)), (1, .int t)]) hx hb d_M_close_141 rfl hl (by decide) rfl (fun ls hl => ?_)
    exact lp_M_close3 l D cI a k n c P t hk hn hc E hrt hlk hN hK hA k 0 x2 Z U V (by omega) _ (by rw [← hr, f_M_close_L2_0]) _ _ G ls (by rw [nI_0]; exact lv_sub hl [0, 1, 2, 3] rfl)
  | succ d ih =>
    intro k0 x2 U V hkd X hr H locs G ls hl
    refine lv_iload_n hx hb d_M_close_70 rfl (lv_at hl 0 rfl) ?_
    refine lv_aload_n hx hb d_M_close_71 rfl (lv_at hl 2 rfl) ?_
    refine z_get (v := .int (nI c)) E hK G.1 i_M 0 15 rfl rfl (by decide) kf_M_97 rfl d_M_close_72 ?_
    refine lv_icmp_ge (tgt := 140) hx hb d_M_close_75 (by decide) (fun c_4 => absurd c_4 (nI_ge (by omega) (by omega))) (fun c_4 => ?_)
    refine lv_aload_n hx hb d_M_close_78 rfl (lv_at hl 2 rfl) ?_
    refine z_get (v := .ref (a 14)) E hK G.1 i_M 0 18 rfl rfl (by decide) kf_M_49 rfl d_M_close_79 ?_
    refine lv_iload_n hx hb d_M_close_82 rfl (lv_at hl 0 rfl) ?_
    refine z_aldN (f := V 2) (j := k0) E hK G.1 14 0 rfl rfl rfl (by omega) (by decide) d_M_close_83 ?_
    refine lv_iconst (v := 2) hx hb d_M_close_84 (by decide) ?_
    refine lv_icmp_ne (tgt := 95) hx hb d_M_close_85 (by decide) (fun c_5 => ?_) (fun c_5 => ?_)
    · refine lv_aload_n hx hb d_M_close_95 rfl (lv_at hl 2 rfl) ?_
      refine z_get (v := .ref (a 14)) E hK G.1 i_M 0 18 rfl rfl (by decide) kf_M_49 rfl d_M_close_96 ?_
      refine lv_iload_n hx hb d_M_close_99 rfl (lv_at hl 0 rfl) ?_
      refine lv_aload_n hx hb d_M_close_100 rfl (lv_at hl 2 rfl) ?_
      refine z_get (v := .ref (a 14)) E hK G.1 i_M 0 18 rfl rfl (by decide) kf_M_49 rfl d_M_close_101 ?_
      refine lv_iload_n hx hb d_M_close_104 rfl (lv_at hl 0 rfl) ?_
      refine z_aldN (f := V 2) (j := k0) E hK G.1 14 0 rfl rfl rfl (by omega) (by decide) d_M_close_105 ?_
      refine lv_if_ne (tgt := 113) hx hb d_M_close_106 (by decide) (fun c_6 => ?_) (fun c_6 => ?_)
      · refine lv_aload_n hx hb d_M_close_113 rfl (lv_at hl 2 rfl) ?_
        refine z_get (v := .ref (a 14)) E hK G.1 i_M 0 18 rfl rfl (by decide) kf_M_49 rfl d_M_close_114 ?_
        refine lv_iload_n hx hb d_M_close_117 rfl (lv_at hl 0 rfl) ?_
        refine z_aldN (f := V 2) (j := k0) E hK G.1 14 0 rfl rfl rfl (by omega) (by decide) d_M_close_118 ?_
        refine lv_iconst (v := 3) hx hb d_M_close_119 (by decide) ?_
        refine lv_icmp_ge (tgt := 127) hx hb d_M_close_120 (by decide) (fun c_7 => ?_) (fun c_7 => ?_)
        · refine lv_aload_n hx hb d_M_close_127 rfl (lv_at hl 2 rfl) ?_
          refine z_get (v := .ref (a 14)) E hK G.1 i_M 0 18 rfl rfl (by decide) kf_M_49 rfl d_M_close_128 ?_
          refine lv_iload_n hx hb d_M_close_131 rfl (lv_at hl 0 rfl) ?_
          refine z_aldN (f := V 2) (j := k0) E hK G.1 14 0 rfl rfl rfl (by omega) (by decide) d_M_close_132 ?_
          refine z_astN (f := V 2) (j := k0) (ws' := wM a cI 0 t (nI k) (nI n) (nI c) Z P U (up2 V 2 k0 (V 2 k0))) E hK G 14 0 rfl rfl rfl (by omega) (by decide) rfl d_M_close_133 (fun H locs G => ?_)
          refine lv_iinc (v := nI (k0 + 1)) (lv' := [(3, .int (nI (k0 + 1))), (2, .int x2), (0, .ref (a 0)), (1, .int t)]) hx hb d_M_close_134 hl (k := 0) rfl (nI_1 _) (by decide) rfl (fun ls hl => ?_)
          refine lv_goto (tgt := 70) hx hb d_M_close_137 (by decide) ?_
          exact ih (k0 + 1) x2 U (up2 V 2 k0 (V 2 k0)) (by omega) X (by rw [← hr, f_M_close_L2_s, if_neg c_5, if_neg c_6, if_pos c_7]) H locs G ls (lv_sub hl [0, 1, 2, 3] rfl)
        · refine lv_iconst (v := 3) hx hb d_M_close_123 (by decide) ?_
          refine lv_goto (tgt := 133) hx hb d_M_close_124 (by decide) ?_
          refine z_astN (f := V 2) (j := k0) (ws' := wM a cI 0 t (nI k) (nI n) (nI c) Z P U (up2 V 2 k0 3)) E hK G 14 0 rfl rfl rfl (by omega) (by decide) rfl d_M_close_133 (fun H locs G => ?_)
          refine lv_iinc (v := nI (k0 + 1)) (lv' := [(3, .int (nI (k0 + 1))), (2, .int x2), (0, .ref (a 0)), (1, .int t)]) hx hb d_M_close_134 hl (k := 0) rfl (nI_1 _) (by decide) rfl (fun ls hl => ?_)
          refine lv_goto (tgt := 70) hx hb d_M_close_137 (by decide) ?_
          exact ih (k0 + 1) x2 U (up2 V 2 k0 3) (by omega) X (by rw [← hr, f_M_close_L2_s, if_neg c_5, if_neg c_6, if_neg c_7]) H locs G ls (lv_sub hl [0, 1, 2, 3] rfl)
      · refine lv_iconst (v := 4) hx hb d_M_close_109 (by decide) ?_
        refine lv_goto (tgt := 133) hx hb d_M_close_110 (by decide) ?_
        refine z_astN (f := V 2) (j := k0) (ws' := wM a cI 0 t (nI k) (nI n) (nI c) Z P U (up2 V 2 k0 4)) E hK G 14 0 rfl rfl rfl (by omega) (by decide) rfl d_M_close_133 (fun H locs G => ?_)
        refine lv_iinc (v := nI (k0 + 1)) (lv' := [(3, .int (nI (k0 + 1))), (2, .int x2), (0, .ref (a 0)), (1, .int t)]) hx hb d_M_close_134 hl (k := 0) rfl (nI_1 _) (by decide) rfl (fun ls hl => ?_)
        refine lv_goto (tgt := 70) hx hb d_M_close_137 (by decide) ?_
        exact ih (k0 + 1) x2 U (up2 V 2 k0 4) (by omega) X (by rw [← hr, f_M_close_L2_s, if_neg c_5, if_pos c_6]) H locs G ls (lv_sub hl [0, 1, 2, 3] rfl)
    · refine lv_aload_n hx hb d_M_close_88 rfl (lv_at hl 2 rfl) ?_
      refine z_get (v := .ref (a 17)) E hK G.1 i_M 0 21 rfl rfl (by decide) kf_M_58 rfl d_M_close_89 ?_
      refine lv_iload_n hx hb d_M_close_92 rfl (lv_at hl 0 rfl) ?_
      refine lv_iload_n hx hb d_M_close_93 rfl (lv_at hl 3 rfl) ?_
      refine z_astN (f := V 5) (j := k0) (ws' := wM a cI 0 t (nI k) (nI n) (nI c) Z P U (up2 V 5 k0 t)) E hK G 17 0 rfl rfl rfl (by omega) (by decide) rfl d_M_close_94 (fun H locs G => ?_)
      refine lv_aload_n hx hb d_M_close_95 rfl (lv_at hl 2 rfl) ?_
      refine z_get (v := .ref (a 14)) E hK G.1 i_M 0 18 rfl rfl (by decide) kf_M_49 rfl d_M_close_96 ?_
      refine lv_iload_n hx hb d_M_close_99 rfl (lv_at hl 0 rfl) ?_
      refine lv_aload_n hx hb d_M_close_100 rfl (lv_at hl 2 rfl) ?_
      refine z_get (v := .ref (a 14)) E hK G.1 i_M 0 18 rfl rfl (by decide) kf_M_49 rfl d_M_close_101 ?_
      refine lv_iload_n hx hb d_M_close_104 rfl (lv_at hl 0 rfl) ?_
      refine z_aldN (f := V 2) (j := k0) E hK G.1 14 0 rfl rfl rfl (by omega) (by decide) d_M_close_105 ?_
      refine lv_if_ne (tgt := 113) hx hb d_M_close_106 (by decide) (fun c_8 => ?_) (fun c_8 => ?_)
      · refine lv_aload_n hx hb d_M_close_113 rfl (lv_at hl 2 rfl) ?_
        refine z_get (v := .ref (a 14)) E hK G.1 i_M 0 18 rfl rfl (by decide) kf_M_49 rfl d_M_close_114 ?_
        refine lv_iload_n hx hb d_M_close_117 rfl (lv_at hl 0 rfl) ?_
        refine z_aldN (f := V 2) (j := k0) E hK G.1 14 0 rfl rfl rfl (by omega) (by decide) d_M_close_118 ?_
        refine lv_iconst (v := 3) hx hb d_M_close_119 (by decide) ?_
        refine lv_icmp_ge (tgt := 127) hx hb d_M_close_120 (by decide) (fun c_9 => ?_) (fun c_9 => ?_)
        · refine lv_aload_n hx hb d_M_close_127 rfl (lv_at hl 2 rfl) ?_
          refine z_get (v := .ref (a 14)) E hK G.1 i_M 0 18 rfl rfl (by decide) kf_M_49 rfl d_M_close_128 ?_
          refine lv_iload_n hx hb d_M_close_131 rfl (lv_at hl 0 rfl) ?_
          refine z_aldN (f := V 2) (j := k0) E hK G.1 14 0 rfl rfl rfl (by omega) (by decide) d_M_close_132 ?_
          refine z_astN (f := (up2 V 5 k0 t) 2) (j := k0) (ws' := wM a cI 0 t (nI k) (nI n) (nI c) Z P U (up2 (up2 V 5 k0 t) 2 k0 (V 2 k0))) E hK G 14 0 rfl rfl rfl (by omega) (by decide) rfl d_M_close_133 (fun H locs G => ?_)
          refine lv_iinc (v := nI (k0 + 1)) (lv' := [(3, .int (nI (k0 + 1))), (2, .int x2), (0, .ref (a 0)), (1, .int t)]) hx hb d_M_close_134 hl (k := 0) rfl (nI_1 _) (by decide) rfl (fun ls hl => ?_)
          refine lv_goto (tgt := 70) hx hb d_M_close_137 (by decide) ?_
          exact ih (k0 + 1) x2 U (up2 (up2 V 5 k0 t) 2 k0 (V 2 k0)) (by omega) X (by rw [← hr, f_M_close_L2_s, if_pos c_5, if_neg c_8, if_pos c_9]) H locs G ls (lv_sub hl [0, 1, 2, 3] rfl)
        · refine lv_iconst (v := 3) hx hb d_M_close_123 (by decide) ?_
          refine lv_goto (tgt := 133) hx hb d_M_close_124 (by decide) ?_
          refine z_astN (f := (up2 V 5 k0 t) 2) (j := k0) (ws' := wM a cI 0 t (nI k) (nI n) (nI c) Z P U (up2 (up2 V 5 k0 t) 2 k0 3)) E hK G 14 0 rfl rfl rfl (by omega) (by decide) rfl d_M_close_133 (fun H locs G => ?_)
          refine lv_iinc (v := nI (k0 + 1)) (lv' := [(3, .int (nI (k0 + 1))), (2, .int x2), (0, .ref (a 0)), (1, .int t)]) hx hb d_M_close_134 hl (k := 0) rfl (nI_1 _) (by decide) rfl (fun ls hl => ?_)
          refine lv_goto (tgt := 70) hx hb d_M_close_137 (by decide) ?_
          exact ih (k0 + 1) x2 U (up2 (up2 V 5 k0 t) 2 k0 3) (by omega) X (by rw [← hr, f_M_close_L2_s, if_pos c_5, if_neg c_8, if_neg c_9]) H locs G ls (lv_sub hl [0, 1, 2, 3] rfl)
      · refine lv_iconst (v := 4) hx hb d_M_close_109 (by decide) ?_
        refine lv_goto (tgt := 133) hx hb d_M_close_110 (by decide) ?_
        refine z_astN (f := (up2 V 5 k0 t) 2) (j := k0) (ws' := wM a cI 0 t (nI k) (nI n) (nI c) Z P U (up2 (up2 V 5 k0 t) 2 k0 4)) E hK G 14 0 rfl rfl rfl (by omega) (by decide) rfl d_M_close_133 (fun H locs G => ?_)
        refine lv_iinc (v := nI (k0 + 1)) (lv' := [(3, .int (nI (k0 + 1))), (2, .int x2), (0, .ref (a 0)), (1, .int t)]) hx hb d_M_close_134 hl (k := 0) rfl (nI_1 _) (by decide) rfl (fun ls hl => ?_)
        refine lv_goto (tgt := 70) hx hb d_M_close_137 (by decide) ?_
        exact ih (k0 + 1) x2 U (up2 (up2 V 5 k0 t) 2 k0 4) (by omega) X (by rw [← hr, f_M_close_L2_s, if_pos c_5, if_pos c_8]) H locs G ls (lv_sub hl [0, 1, 2, 3] rfl)
set_option maxHeartbeats 4000000 in
set_option maxRecDepth 100000 in
theorem lp_M_close1 (l : Launch) (D : va_G) (cI : ClassId) (a : Nat → Nat) (k : Nat) (n : Nat) (c : Nat) (Z : Nat → Nat → Int32) (P : Nat → Nat → Int32) (V : Nat → Nat → Int32) (t : Int32) (hk : k ≤ 20) (hn : n ≤ 60) (hc : c ≤ 300) {p : Program} {e : Env} {s : State} {m : MethodId} {below : List Frame} {meth : Method} {c0 : Code} {A : Nat → Prop} (E : CallFix p m c0 b_M_close 4 s ([.ref (a 0), .int t] : List Value).toArray zB y_M_close.cls) (hrt : meth.sig.returnType = (some .int)) (hlk : meth.locks = false) (hN : zN s) (hK : va_K D vwCl [(cI, .int)] s) (hA : ∀ q, s.heap.size ≤ q → A q) :
    ∀ (d k0 : Nat) (x2 : Int32) (U : Nat → Nat → Int32), k0 + d = 80 → ∀ X : Int32 × Int32 × Int32 × Int32 × Int32 × (Nat → Nat → Int32) × (Nat → Nat → Int32) × (Nat → Nat → Int32) × (Nat → Nat → Int32), f_M_close_L1 k c Z P V t d k0 x2 U = X → ∀ (H : Heap) (locs : List Loc), zG D A s H locs (wM a cI 0 t (nI k) (nI n) (nI c) Z P U V) → ∀ ls : Array Slot, lv_has ls 4 [(3, .int (nI k0)), (2, .int x2), (0, .ref (a 0)), (1, .int t)] → W p l e { frames := 2, cells := 0, slots := 0, locals := 43 } s m ([.ref (a 0), .int t] : List Value).toArray below meth c0 H locs 0 0 (MQ below (zQ D A (wM a cI X.2.1 X.2.2.1 (nI k) X.2.2.2.1 X.2.2.2.2.1 X.2.2.2.2.2.1 X.2.2.2.2.2.2.1 X.2.2.2.2.2.2.2.1 X.2.2.2.2.2.2.2.2) (some (.int X.1))) ([.ref (a 0), .int t] : List Value).toArray s 0 0 A) (F0 m 25 ls []) := by
  have hx := E.1
  have hb := E.2.1
  intro d
  induction d with
  | zero =>
    intro k0 x2 U hkd X hr H locs G ls hl
    refine lv_iload_n hx hb d_M_close_25 rfl (lv_at hl 0 rfl) ?_
    refine lv_bipush (v := (nI 80)) hx hb d_M_close_26 (by decide) ?_
    refine lv_icmp_ge (tgt := 68) hx hb d_M_close_28 (by decide) (fun c_10 => ?_) (fun c_10 => absurd (nI_le (by omega) (by omega)) c_10)
    refine lv_iconst (v := 0) hx hb d_M_close_68 (by decide) ?_
    refine lv_istore_n (lv' := [(3, .int 0), (2, .int x2), (0, .ref (a 0)), (1, .int t)]) hx hb d_M_close_69 rfl hl (by decide) rfl (fun ls hl => ?_)
    exact lp_M_close2 l D cI a k n c Z P t hk hn hc E hrt hlk hN hK hA c 0 x2 U V (by omega) _ (by rw [← hr, f_M_close_L1_0]) _ _ G ls (by rw [nI_0]; exact lv_sub hl [0, 1, 2, 3] rfl)
  | succ d ih =>
    intro k0 x2 U hkd X hr H locs G ls hl
    refine lv_iload_n hx hb d_M_close_25 rfl (lv_at hl 0 rfl) ?_
    refine lv_bipush (v := (nI 80)) hx hb d_M_close_26 (by decide) ?_
    refine lv_icmp_ge (tgt := 68) hx hb d_M_close_28 (by decide) (fun c_11 => absurd c_11 (nI_ge (by omega) (by omega))) (fun c_11 => ?_)
    refine lv_iload_n hx hb d_M_close_31 rfl (lv_at hl 1 rfl) ?_
    refine lv_aload_n hx hb d_M_close_32 rfl (lv_at hl 2 rfl) ?_
    refine z_get (v := .ref (a 8)) E hK G.1 i_M 0 11 rfl rfl (by decide) kf_M_31 rfl d_M_close_33 ?_
    refine lv_iload_n hx hb d_M_close_36 rfl (lv_at hl 0 rfl) ?_
    refine z_aldN (f := U 0) (j := k0) E hK G.1 8 0 rfl rfl rfl (by omega) (by decide) d_M_close_37 ?_
    refine lv_if_eq (tgt := 45) hx hb d_M_close_38 (by decide) (fun c_12 => ?_) (fun c_12 => ?_)
    · refine lv_iconst (v := 0) hx hb d_M_close_45 (by decide) ?_
      refine lv_iadd hx hb d_M_close_46 ?_
      refine lv_istore_n (lv' := [(2, .int (x2 + 0)), (3, .int (nI k0)), (0, .ref (a 0)), (1, .int t)]) hx hb d_M_close_47 rfl hl (by decide) rfl (fun ls hl => ?_)
      refine lv_aload_n hx hb d_M_close_48 rfl (lv_at hl 2 rfl) ?_
      refine z_get (v := .ref (a 8)) E hK G.1 i_M 0 11 rfl rfl (by decide) kf_M_31 rfl d_M_close_49 ?_
      refine lv_iload_n hx hb d_M_close_52 rfl (lv_at hl 1 rfl) ?_
      refine lv_iconst (v := 0) hx hb d_M_close_53 (by decide) ?_
      refine z_astN (f := U 0) (j := k0) (ws' := wM a cI 0 t (nI k) (nI n) (nI c) Z P (up2 U 0 k0 0) V) E hK G 8 0 rfl rfl rfl (by omega) (by decide) rfl d_M_close_54 (fun H locs G => ?_)
      refine lv_aload_n hx hb d_M_close_55 rfl (lv_at hl 2 rfl) ?_
      refine z_get (v := .ref (a 11)) E hK G.1 i_M 0 14 rfl rfl (by decide) kf_M_40 rfl d_M_close_56 ?_
      refine lv_iload_n hx hb d_M_close_59 rfl (lv_at hl 1 rfl) ?_
      refine lv_iconst (v := (-1)) hx hb d_M_close_60 (by decide) ?_
      refine z_astN (f := (up2 U 0 k0 0) 3) (j := k0) (ws' := wM a cI 0 t (nI k) (nI n) (nI c) Z P (up2 (up2 U 0 k0 0) 3 k0 (-1)) V) E hK G 11 0 rfl rfl rfl (by omega) (by decide) rfl d_M_close_61 (fun H locs G => ?_)
      refine lv_iinc (v := nI (k0 + 1)) (lv' := [(3, .int (nI (k0 + 1))), (2, .int (x2 + 0)), (0, .ref (a 0)), (1, .int t)]) hx hb d_M_close_62 hl (k := 1) rfl (nI_1 _) (by decide) rfl (fun ls hl => ?_)
      refine lv_goto (tgt := 25) hx hb d_M_close_65 (by decide) ?_
      exact ih (k0 + 1) (x2 + 0) (up2 (up2 U 0 k0 0) 3 k0 (-1)) (by omega) X (by rw [← hr, f_M_close_L1_s, if_pos c_12]) H locs G ls (lv_sub hl [0, 1, 2, 3] rfl)
    · refine lv_iconst (v := 1) hx hb d_M_close_41 (by decide) ?_
      refine lv_goto (tgt := 46) hx hb d_M_close_42 (by decide) ?_
      refine lv_iadd hx hb d_M_close_46 ?_
      refine lv_istore_n (lv' := [(2, .int (x2 + 1)), (3, .int (nI k0)), (0, .ref (a 0)), (1, .int t)]) hx hb d_M_close_47 rfl hl (by decide) rfl (fun ls hl => ?_)
      refine lv_aload_n hx hb d_M_close_48 rfl (lv_at hl 2 rfl) ?_
      refine z_get (v := .ref (a 8)) E hK G.1 i_M 0 11 rfl rfl (by decide) kf_M_31 rfl d_M_close_49 ?_
      refine lv_iload_n hx hb d_M_close_52 rfl (lv_at hl 1 rfl) ?_
      refine lv_iconst (v := 0) hx hb d_M_close_53 (by decide) ?_
      refine z_astN (f := U 0) (j := k0) (ws' := wM a cI 0 t (nI k) (nI n) (nI c) Z P (up2 U 0 k0 0) V) E hK G 8 0 rfl rfl rfl (by omega) (by decide) rfl d_M_close_54 (fun H locs G => ?_)
      refine lv_aload_n hx hb d_M_close_55 rfl (lv_at hl 2 rfl) ?_
      refine z_get (v := .ref (a 11)) E hK G.1 i_M 0 14 rfl rfl (by decide) kf_M_40 rfl d_M_close_56 ?_
      refine lv_iload_n hx hb d_M_close_59 rfl (lv_at hl 1 rfl) ?_
      refine lv_iconst (v := (-1)) hx hb d_M_close_60 (by decide) ?_
      refine z_astN (f := (up2 U 0 k0 0) 3) (j := k0) (ws' := wM a cI 0 t (nI k) (nI n) (nI c) Z P (up2 (up2 U 0 k0 0) 3 k0 (-1)) V) E hK G 11 0 rfl rfl rfl (by omega) (by decide) rfl d_M_close_61 (fun H locs G => ?_)
      refine lv_iinc (v := nI (k0 + 1)) (lv' := [(3, .int (nI (k0 + 1))), (2, .int (x2 + 1)), (0, .ref (a 0)), (1, .int t)]) hx hb d_M_close_62 hl (k := 1) rfl (nI_1 _) (by decide) rfl (fun ls hl => ?_)
      refine lv_goto (tgt := 25) hx hb d_M_close_65 (by decide) ?_
      exact ih (k0 + 1) (x2 + 1) (up2 (up2 U 0 k0 0) 3 k0 (-1)) (by omega) X (by rw [← hr, f_M_close_L1_s, if_neg c_12]) H locs G ls (lv_sub hl [0, 1, 2, 3] rfl)
set_option maxHeartbeats 4000000 in
set_option maxRecDepth 100000 in
theorem c_M_close (l : Launch) (D : va_G) (cI : ClassId) (a : Nat → Nat) (th : Int32) (nw : Int32) (k : Nat) (n : Nat) (c : Nat) (Z : Nat → Nat → Int32) (P : Nat → Nat → Int32) (U : Nat → Nat → Int32) (V : Nat → Nat → Int32) (t : Int32) (hk : k ≤ 20) (hn : n ≤ 60) (hc : c ≤ 300) : zW l D [(cI, .int)] y_M_close b_M_close 4 (some .int) 2 43 [.ref (a 0), .int t] (wM a cI th nw (nI k) (nI n) (nI c) Z P U V) (wM a cI ((f_M_close nw k n c Z P U V t).2.1) ((f_M_close nw k n c Z P U V t).2.2.1) (nI k) ((f_M_close nw k n c Z P U V t).2.2.2.1) ((f_M_close nw k n c Z P U V t).2.2.2.2.1) ((f_M_close nw k n c Z P U V t).2.2.2.2.2.1) ((f_M_close nw k n c Z P U V t).2.2.2.2.2.2.1) ((f_M_close nw k n c Z P U V t).2.2.2.2.2.2.2.1) ((f_M_close nw k n c Z P U V t).2.2.2.2.2.2.2.2)) (some (.int (f_M_close nw k n c Z P U V t).1)) := by
  refine zW.of (by decide) (Nat.le_of_ble_eq_true rfl) ?_
  intro p e s m below meth c0 ls A E hrt hlk hN hK hA G hl
  have hx := E.1
  have hb := E.2.1
  have hl : lv_has ls 4 [(0, .ref (a 0)), (1, .int t)] := hl
  refine lv_aload_n hx hb d_M_close_0 rfl (lv_at hl 0 rfl) ?_
  refine lv_iconst (v := 0) hx hb d_M_close_1 (by decide) ?_
  refine z_put (ty := .int) (ws' := wM a cI 0 nw (nI k) (nI n) (nI c) Z P U V) E hK G i_M t_M t_M_ok n_M 0 0 rfl rfl (by decide) kf_M_65 rfl rfl rfl rfl (Nat.le_of_ble_eq_true rfl) rfl d_M_close_2 (fun H locs G => ?_)
  refine lv_aload_n hx hb d_M_close_5 rfl (lv_at hl 0 rfl) ?_
  refine lv_iload_n hx hb d_M_close_6 rfl (lv_at hl 1 rfl) ?_
  refine z_rv (As := [.int t]) (rest := []) E hN hK G.1 hl.1 (c_M_isNow l D cI a 0 nw k n c Z P U V t hk hn hc) [0, 1, 2, 3, 4, 5, 6, 7, 8, 9, 10, 11, 12, 13, 14, 15, 16, 17] rfl 0 rfl rfl kz_M_106 rfl ⟨Nat.le_of_ble_eq_true rfl, Nat.le_of_ble_eq_true rfl⟩ rfl (Nat.le_of_ble_eq_true rfl) ⟨Nat.zero_le _, Nat.zero_le _⟩ d_M_close_7 ?_
  refine lv_if_ne (tgt := 16) hx hb d_M_close_10 (by decide) (fun c_1 => ?_) (fun c_1 => ?_)
  · refine lv_aload_n hx hb d_M_close_16 rfl (lv_at hl 0 rfl) ?_
    refine lv_iload_n hx hb d_M_close_17 rfl (lv_at hl 1 rfl) ?_
    refine z_put (ty := .int) (ws' := wM a cI 0 t (nI k) (nI n) (nI c) Z P U V) E hK G i_M t_M t_M_ok n_M 0 1 rfl rfl (by decide) kf_M_72 rfl rfl rfl rfl (Nat.le_of_ble_eq_true rfl) rfl d_M_close_18 (fun H locs G => ?_)
    refine lv_iconst (v := 0) hx hb d_M_close_21 (by decide) ?_
    refine lv_istore_n (lv' := [(2, .int 0), (0, .ref (a 0)), (1, .int t)]) hx hb d_M_close_22 rfl hl (by decide) rfl (fun ls hl => ?_)
    refine lv_iconst (v := 0) hx hb d_M_close_23 (by decide) ?_
    refine lv_istore_n (lv' := [(3, .int 0), (2, .int 0), (0, .ref (a 0)), (1, .int t)]) hx hb d_M_close_24 rfl hl (by decide) rfl (fun ls hl => ?_)
    exact lp_M_close1 l D cI a k n c Z P V t hk hn hc E hrt hlk hN hK hA 80 0 0 U (by omega) _ (by unfold f_M_close; rw [if_neg c_1]) _ _ G ls (by rw [nI_0]; exact lv_sub hl [0, 1, 2, 3] rfl)
  · refine lv_bipush (v := (-2)) hx hb d_M_close_13 (by decide) ?_
    have hf : f_M_close nw k n c Z P U V t = ((-2), 0, nw, nI n, nI c, Z, P, U, V) := by unfold f_M_close; rw [if_pos c_1]
    exact zW.iret E hrt hlk G (by rw [hf]) (by rw [hf]) d_M_close_15
def f_M_unit_L (nw : Int32) (n : Nat) (c : Nat) (Z : Nat → Nat → Int32) (P : Nat → Nat → Int32) (U : Nat → Nat → Int32) (V : Nat → Nat → Int32) (u : Int32) (what : Int32) : Nat → Nat → Int32 → Int32 × Int32 × Int32 × Int32 × Int32 × (Nat → Nat → Int32) × (Nat → Nat → Int32) × (Nat → Nat → Int32) × (Nat → Nat → Int32)
  | 0, k0, x3 => (x3, 0, nw, nI n, nI c, Z, P, U, V)
  | d + 1, k0, x3 => (if (V 1 k0) = u then (if (V 2 k0) = 0 then (f_M_unit_L nw n c Z P U V u what d (k0 + 1) (x3 + 1)) else (f_M_unit_L nw n c Z P U V u what d (k0 + 1) (x3 + 0))) else (f_M_unit_L nw n c Z P U V u what d (k0 + 1) (x3 + 0)))
theorem f_M_unit_L_0 (nw : Int32) (n : Nat) (c : Nat) (Z : Nat → Nat → Int32) (P : Nat → Nat → Int32) (U : Nat → Nat → Int32) (V : Nat → Nat → Int32) (u : Int32) (what : Int32) (k0 : Nat) (x3 : Int32) : f_M_unit_L nw n c Z P U V u what 0 k0 x3 = (x3, 0, nw, nI n, nI c, Z, P, U, V) := rfl
theorem f_M_unit_L_s (nw : Int32) (n : Nat) (c : Nat) (Z : Nat → Nat → Int32) (P : Nat → Nat → Int32) (U : Nat → Nat → Int32) (V : Nat → Nat → Int32) (u : Int32) (what : Int32) (d k0 : Nat) (x3 : Int32) : f_M_unit_L nw n c Z P U V u what (d + 1) k0 x3 = (if (V 1 k0) = u then (if (V 2 k0) = 0 then (f_M_unit_L nw n c Z P U V u what d (k0 + 1) (x3 + 1)) else (f_M_unit_L nw n c Z P U V u what d (k0 + 1) (x3 + 0))) else (f_M_unit_L nw n c Z P U V u what d (k0 + 1) (x3 + 0))) := rfl
def f_M_unit (nw : Int32) (n : Nat) (c : Nat) (Z : Nat → Nat → Int32) (P : Nat → Nat → Int32) (U : Nat → Nat → Int32) (V : Nat → Nat → Int32) (u : Int32) (what : Int32) : Int32 × Int32 × Int32 × Int32 × Int32 × (Nat → Nat → Int32) × (Nat → Nat → Int32) × (Nat → Nat → Int32) × (Nat → Nat → Int32) := (if (f_M_isUnit u) = 0 then ((-1), 0, nw, nI n, nI c, Z, P, U, V) else (if (f_M_in what 0 4) = 0 then ((-1), 0, nw, nI n, nI c, Z, P, U, V) else (if 4 ≤ what then (f_M_unit_L nw n c Z P U V u what c 0 0) else (if what = 0 then (U 0 u.toNatClampNeg, 0, nw, nI n, nI c, Z, P, U, V) else (if what = 1 then (U 1 u.toNatClampNeg, 0, nw, nI n, nI c, Z, P, U, V) else (if what = 2 then (U 2 u.toNatClampNeg, 0, nw, nI n, nI c, Z, P, U, V) else (U 3 u.toNatClampNeg, 0, nw, nI n, nI c, Z, P, U, V)))))))
set_option maxHeartbeats 4000000 in
set_option maxRecDepth 100000 in
theorem lp_M_unit (l : Launch) (D : va_G) (cI : ClassId) (a : Nat → Nat) (nw : Int32) (k : Nat) (n : Nat) (c : Nat) (Z : Nat → Nat → Int32) (P : Nat → Nat → Int32) (U : Nat → Nat → Int32) (V : Nat → Nat → Int32) (u : Int32) (what : Int32) (hk : k ≤ 20) (hn : n ≤ 60) (hc : c ≤ 300) {p : Program} {e : Env} {s : State} {m : MethodId} {below : List Frame} {meth : Method} {c0 : Code} {A : Nat → Prop} (E : CallFix p m c0 b_M_unit 5 s ([.ref (a 0), .int u, .int what] : List Value).toArray zB y_M_unit.cls) (hrt : meth.sig.returnType = (some .int)) (hlk : meth.locks = false) (hN : zN s) (hK : va_K D vwCl [(cI, .int)] s) (hA : ∀ q, s.heap.size ≤ q → A q) :
    ∀ (d k0 : Nat) (x3 : Int32), k0 + d = c → ∀ X : Int32 × Int32 × Int32 × Int32 × Int32 × (Nat → Nat → Int32) × (Nat → Nat → Int32) × (Nat → Nat → Int32) × (Nat → Nat → Int32), f_M_unit_L nw n c Z P U V u what d k0 x3 = X → ∀ (H : Heap) (locs : List Loc), zG D A s H locs (wM a cI 0 nw (nI k) (nI n) (nI c) Z P U V) → ∀ ls : Array Slot, lv_has ls 5 [(4, .int (nI k0)), (3, .int x3), (0, .ref (a 0)), (1, .int u), (2, .int what)] → W p l e { frames := 2, cells := 0, slots := 0, locals := 42 } s m ([.ref (a 0), .int u, .int what] : List Value).toArray below meth c0 H locs 0 0 (MQ below (zQ D A (wM a cI X.2.1 X.2.2.1 (nI k) X.2.2.2.1 X.2.2.2.2.1 X.2.2.2.2.2.1 X.2.2.2.2.2.2.1 X.2.2.2.2.2.2.2.1 X.2.2.2.2.2.2.2.2) (some (.int X.1))) ([.ref (a 0), .int u, .int what] : List Value).toArray s 0 0 A) (F0 m 81 ls []) := by
  have hx := E.1
  have hb := E.2.1
  intro d
  induction d with
  | zero =>
    intro k0 x3 hkd X hr H locs G ls hl
    refine lv_iload hx hb d_M_unit_81 (lv_at hl 0 rfl) ?_
    refine lv_aload_n hx hb d_M_unit_83 rfl (lv_at hl 2 rfl) ?_
    refine z_get (v := .int (nI c)) E hK G.1 i_M 0 15 rfl rfl (by decide) kf_M_97 rfl d_M_unit_84 ?_
    refine lv_icmp_ge (tgt := 125) hx hb d_M_unit_87 (by decide) (fun c_1 => ?_) (fun c_1 => absurd (nI_le (by omega) (by omega)) c_1)
    refine lv_iload_n hx hb d_M_unit_125 rfl (lv_at hl 1 rfl) ?_
    have hf : X = (x3, 0, nw, nI n, nI c, Z, P, U, V) := by rw [← hr, f_M_unit_L_0]
    exact zW.iret E hrt hlk G (by rw [hf]) (by rw [hf]) d_M_unit_126
  | succ d ih =>
    intro k0 x3 hkd X hr H locs G ls hl
    refine lv_iload hx hb d_M_unit_81 (lv_at hl 0 rfl) ?_
    refine lv_aload_n hx hb d_M_unit_83 rfl (lv_at hl 2 rfl) ?_
    refine z_get (v := .int (nI c)) E hK G.1 i_M 0 15 rfl rfl (by decide) kf_M_97 rfl d_M_unit_84 ?_
    refine lv_icmp_ge (tgt := 125) hx hb d_M_unit_87 (by decide) (fun c_2 => absurd c_2 (nI_ge (by omega) (by omega))) (fun c_2 => ?_)
    refine lv_iload_n hx hb d_M_unit_90 rfl (lv_at hl 1 rfl) ?_
    refine lv_aload_n hx hb d_M_unit_91 rfl (lv_at hl 2 rfl) ?_
    refine z_get (v := .ref (a 13)) E hK G.1 i_M 0 17 rfl rfl (by decide) kf_M_46 rfl d_M_unit_92 ?_
    refine lv_iload hx hb d_M_unit_95 (lv_at hl 0 rfl) ?_
    refine z_aldN (f := V 1) (j := k0) E hK G.1 13 0 rfl rfl rfl (by omega) (by decide) d_M_unit_97 ?_
    refine lv_iload_n hx hb d_M_unit_98 rfl (lv_at hl 3 rfl) ?_
    refine lv_icmp_ne (tgt := 116) hx hb d_M_unit_99 (by decide) (fun c_3 => ?_) (fun c_3 => ?_)
    · refine lv_iconst (v := 0) hx hb d_M_unit_116 (by decide) ?_
      refine lv_iadd hx hb d_M_unit_117 ?_
      refine lv_istore_n (lv' := [(3, .int (x3 + 0)), (4, .int (nI k0)), (0, .ref (a 0)), (1, .int u), (2, .int what)]) hx hb d_M_unit_118 rfl hl (by decide) rfl (fun ls hl => ?_)
      refine lv_iinc (v := nI (k0 + 1)) (lv' := [(4, .int (nI (k0 + 1))), (3, .int (x3 + 0)), (0, .ref (a 0)), (1, .int u), (2, .int what)]) hx hb d_M_unit_119 hl (k := 1) rfl (nI_1 _) (by decide) rfl (fun ls hl => ?_)
      refine lv_goto (tgt := 81) hx hb d_M_unit_122 (by decide) ?_
      exact ih (k0 + 1) (x3 + 0) (by omega) X (by rw [← hr, f_M_unit_L_s, if_neg c_3]) H locs G ls (lv_sub hl [0, 1, 2, 3, 4] rfl)
    · refine lv_aload_n hx hb d_M_unit_102 rfl (lv_at hl 2 rfl) ?_
      refine z_get (v := .ref (a 14)) E hK G.1 i_M 0 18 rfl rfl (by decide) kf_M_49 rfl d_M_unit_103 ?_
      refine lv_iload hx hb d_M_unit_106 (lv_at hl 0 rfl) ?_
      refine z_aldN (f := V 2) (j := k0) E hK G.1 14 0 rfl rfl rfl (by omega) (by decide) d_M_unit_108 ?_
      refine lv_if_ne (tgt := 116) hx hb d_M_unit_109 (by decide) (fun c_4 => ?_) (fun c_4 => ?_)
      · refine lv_iconst (v := 0) hx hb d_M_unit_116 (by decide) ?_
        refine lv_iadd hx hb d_M_unit_117 ?_
        refine lv_istore_n (lv' := [(3, .int (x3 + 0)), (4, .int (nI k0)), (0, .ref (a 0)), (1, .int u), (2, .int what)]) hx hb d_M_unit_118 rfl hl (by decide) rfl (fun ls hl => ?_)
        refine lv_iinc (v := nI (k0 + 1)) (lv' := [(4, .int (nI (k0 + 1))), (3, .int (x3 + 0)), (0, .ref (a 0)), (1, .int u), (2, .int what)]) hx hb d_M_unit_119 hl (k := 1) rfl (nI_1 _) (by decide) rfl (fun ls hl => ?_)
        refine lv_goto (tgt := 81) hx hb d_M_unit_122 (by decide) ?_
        exact ih (k0 + 1) (x3 + 0) (by omega) X (by rw [← hr, f_M_unit_L_s, if_pos c_3, if_neg c_4]) H locs G ls (lv_sub hl [0, 1, 2, 3, 4] rfl)
      · refine lv_iconst (v := 1) hx hb d_M_unit_112 (by decide) ?_
        refine lv_goto (tgt := 117) hx hb d_M_unit_113 (by decide) ?_
        refine lv_iadd hx hb d_M_unit_117 ?_
        refine lv_istore_n (lv' := [(3, .int (x3 + 1)), (4, .int (nI k0)), (0, .ref (a 0)), (1, .int u), (2, .int what)]) hx hb d_M_unit_118 rfl hl (by decide) rfl (fun ls hl => ?_)
        refine lv_iinc (v := nI (k0 + 1)) (lv' := [(4, .int (nI (k0 + 1))), (3, .int (x3 + 1)), (0, .ref (a 0)), (1, .int u), (2, .int what)]) hx hb d_M_unit_119 hl (k := 1) rfl (nI_1 _) (by decide) rfl (fun ls hl => ?_)
        refine lv_goto (tgt := 81) hx hb d_M_unit_122 (by decide) ?_
        exact ih (k0 + 1) (x3 + 1) (by omega) X (by rw [← hr, f_M_unit_L_s, if_pos c_3, if_pos c_4]) H locs G ls (lv_sub hl [0, 1, 2, 3, 4] rfl)
set_option maxHeartbeats 4000000 in
set_option maxRecDepth 100000 in
theorem c_M_unit (l : Launch) (D : va_G) (cI : ClassId) (a : Nat → Nat) (th : Int32) (nw : Int32) (k : Nat) (n : Nat) (c : Nat) (Z : Nat → Nat → Int32) (P : Nat → Nat → Int32) (U : Nat → Nat → Int32) (V : Nat → Nat → Int32) (u : Int32) (what : Int32) (hk : k ≤ 20) (hn : n ≤ 60) (hc : c ≤ 300) : zW l D [(cI, .int)] y_M_unit b_M_unit 5 (some .int) 2 42 [.ref (a 0), .int u, .int what] (wM a cI th nw (nI k) (nI n) (nI c) Z P U V) (wM a cI ((f_M_unit nw n c Z P U V u what).2.1) ((f_M_unit nw n c Z P U V u what).2.2.1) (nI k) ((f_M_unit nw n c Z P U V u what).2.2.2.1) ((f_M_unit nw n c Z P U V u what).2.2.2.2.1) ((f_M_unit nw n c Z P U V u what).2.2.2.2.2.1) ((f_M_unit nw n c Z P U V u what).2.2.2.2.2.2.1) ((f_M_unit nw n c Z P U V u what).2.2.2.2.2.2.2.1) ((f_M_unit nw n c Z P U V u what).2.2.2.2.2.2.2.2)) (some (.int (f_M_unit nw n c Z P U V u what).1)) := by
  refine zW.of (by decide) (Nat.le_of_ble_eq_true rfl) ?_
  intro p e s m below meth c0 ls A E hrt hlk hN hK hA G hl
  have hx := E.1
  have hb := E.2.1
  have hl : lv_has ls 5 [(0, .ref (a 0)), (1, .int u), (2, .int what)] := hl
  refine lv_aload_n hx hb d_M_unit_0 rfl (lv_at hl 0 rfl) ?_
  refine lv_iconst (v := 0) hx hb d_M_unit_1 (by decide) ?_
  refine z_put (ty := .int) (ws' := wM a cI 0 nw (nI k) (nI n) (nI c) Z P U V) E hK G i_M t_M t_M_ok n_M 0 0 rfl rfl (by decide) kf_M_65 rfl rfl rfl rfl (Nat.le_of_ble_eq_true rfl) rfl d_M_unit_2 (fun H locs G => ?_)
  refine lv_iload_n hx hb d_M_unit_5 rfl (lv_at hl 1 rfl) ?_
  refine z_rs (As := [.int u]) (rest := []) E hN hK hl.1 (c_M_isUnit l D [(cI, .int)] u) kz_M_103 rfl ⟨Nat.le_of_ble_eq_true rfl, Nat.le_of_ble_eq_true rfl⟩ rfl (Nat.le_of_ble_eq_true rfl) ⟨Nat.zero_le _, Nat.zero_le _⟩ d_M_unit_6 ?_
  refine lv_if_eq (tgt := 21) hx hb d_M_unit_9 (by decide) (fun c_1 => ?_) (fun c_1 => ?_)
  · refine lv_iconst (v := (-1)) hx hb d_M_unit_21 (by decide) ?_
    have hf : f_M_unit nw n c Z P U V u what = ((-1), 0, nw, nI n, nI c, Z, P, U, V) := by unfold f_M_unit; rw [if_pos c_1]
    exact zW.iret E hrt hlk G (by rw [hf]) (by rw [hf]) d_M_unit_22
  · refine lv_iload_n hx hb d_M_unit_12 rfl (lv_at hl 2 rfl) ?_
    refine lv_iconst (v := 0) hx hb d_M_unit_13 (by decide) ?_
    refine lv_iconst (v := 4) hx hb d_M_unit_14 (by decide) ?_
    refine z_rs (As := [.int what, .int 0, .int 4]) (rest := []) E hN hK hl.1 (c_M_in l D [(cI, .int)] what 0 4) kz_M_68 rfl ⟨Nat.le_of_ble_eq_true rfl, Nat.le_of_ble_eq_true rfl⟩ rfl (Nat.le_of_ble_eq_true rfl) ⟨Nat.zero_le _, Nat.zero_le _⟩ d_M_unit_15 ?_
    refine lv_if_ne (tgt := 23) hx hb d_M_unit_18 (by decide) (fun c_2 => ?_) (fun c_2 => ?_)
    · refine lv_iload_n hx hb d_M_unit_23 rfl (lv_at hl 2 rfl) ?_
      refine lv_iconst (v := 4) hx hb d_M_unit_24 (by decide) ?_
      refine lv_icmp_ge (tgt := 76) hx hb d_M_unit_25 (by decide) (fun c_3 => ?_) (fun c_3 => ?_)
      · refine lv_iconst (v := 0) hx hb d_M_unit_76 (by decide) ?_
        refine lv_istore_n (lv' := [(3, .int 0), (0, .ref (a 0)), (1, .int u), (2, .int what)]) hx hb d_M_unit_77 rfl hl (by decide) rfl (fun ls hl => ?_)
        refine lv_iconst (v := 0) hx hb d_M_unit_78 (by decide) ?_
        refine lv_istore (lv' := [(4, .int 0), (3, .int 0), (0, .ref (a 0)), (1, .int u), (2, .int what)]) hx hb d_M_unit_79 hl (by decide) rfl (fun ls hl => ?_)
        exact lp_M_unit l D cI a nw k n c Z P U V u what hk hn hc E hrt hlk hN hK hA c 0 0 (by omega) _ (by unfold f_M_unit; rw [if_neg c_1, if_neg c_2, if_pos c_3]) _ _ G ls (by rw [nI_0]; exact lv_sub hl [0, 1, 2, 3, 4] rfl)
      · refine lv_iload_n hx hb d_M_unit_28 rfl (lv_at hl 2 rfl) ?_
        refine lv_if_ne (tgt := 41) hx hb d_M_unit_29 (by decide) (fun c_4 => ?_) (fun c_4 => ?_)
        · refine lv_iload_n hx hb d_M_unit_41 rfl (lv_at hl 2 rfl) ?_
          refine lv_iconst (v := 1) hx hb d_M_unit_42 (by decide) ?_
          refine lv_icmp_ne (tgt := 55) hx hb d_M_unit_43 (by decide) (fun c_5 => ?_) (fun c_5 => ?_)
          · refine lv_iload_n hx hb d_M_unit_55 rfl (lv_at hl 2 rfl) ?_
            refine lv_iconst (v := 2) hx hb d_M_unit_56 (by decide) ?_
            refine lv_icmp_ne (tgt := 69) hx hb d_M_unit_57 (by decide) (fun c_6 => ?_) (fun c_6 => ?_)
            · refine lv_aload_n hx hb d_M_unit_69 rfl (lv_at hl 0 rfl) ?_
              refine z_get (v := .ref (a 11)) E hK G.1 i_M 0 14 rfl rfl (by decide) kf_M_40 rfl d_M_unit_70 ?_
              refine lv_iload_n hx hb d_M_unit_73 rfl (lv_at hl 1 rfl) ?_
              refine z_ald (f := U 3) E hK G.1 11 0 rfl rfl (in_unitM c_1) d_M_unit_74 ?_
              have hf : f_M_unit nw n c Z P U V u what = (U 3 u.toNatClampNeg, 0, nw, nI n, nI c, Z, P, U, V) := by unfold f_M_unit; rw [if_neg c_1, if_neg c_2, if_neg c_3, if_neg c_4, if_neg c_5, if_neg c_6]
              exact zW.iret E hrt hlk G (by rw [hf]) (by rw [hf]) d_M_unit_75
            · refine lv_aload_n hx hb d_M_unit_60 rfl (lv_at hl 0 rfl) ?_
              refine z_get (v := .ref (a 10)) E hK G.1 i_M 0 13 rfl rfl (by decide) kf_M_37 rfl d_M_unit_61 ?_
              refine lv_iload_n hx hb d_M_unit_64 rfl (lv_at hl 1 rfl) ?_
              refine z_ald (f := U 2) E hK G.1 10 0 rfl rfl (in_unitM c_1) d_M_unit_65 ?_
              refine lv_goto (tgt := 75) hx hb d_M_unit_66 (by decide) ?_
              have hf : f_M_unit nw n c Z P U V u what = (U 2 u.toNatClampNeg, 0, nw, nI n, nI c, Z, P, U, V) := by unfold f_M_unit; rw [if_neg c_1, if_neg c_2, if_neg c_3, if_neg c_4, if_neg c_5, if_pos c_6]
              exact zW.iret E hrt hlk G (by rw [hf]) (by rw [hf]) d_M_unit_75
          · refine lv_aload_n hx hb d_M_unit_46 rfl (lv_at hl 0 rfl) ?_
            refine z_get (v := .ref (a 9)) E hK G.1 i_M 0 12 rfl rfl (by decide) kf_M_34 rfl d_M_unit_47 ?_
            refine lv_iload_n hx hb d_M_unit_50 rfl (lv_at hl 1 rfl) ?_
            refine z_ald (f := U 1) E hK G.1 9 0 rfl rfl (in_unitM c_1) d_M_unit_51 ?_
            refine lv_goto (tgt := 75) hx hb d_M_unit_52 (by decide) ?_
            have hf : f_M_unit nw n c Z P U V u what = (U 1 u.toNatClampNeg, 0, nw, nI n, nI c, Z, P, U, V) := by unfold f_M_unit; rw [if_neg c_1, if_neg c_2, if_neg c_3, if_neg c_4, if_pos c_5]
            exact zW.iret E hrt hlk G (by rw [hf]) (by rw [hf]) d_M_unit_75
        · refine lv_aload_n hx hb d_M_unit_32 rfl (lv_at hl 0 rfl) ?_
          refine z_get (v := .ref (a 8)) E hK G.1 i_M 0 11 rfl rfl (by decide) kf_M_31 rfl d_M_unit_33 ?_
          refine lv_iload_n hx hb d_M_unit_36 rfl (lv_at hl 1 rfl) ?_
          refine z_ald (f := U 0) E hK G.1 8 0 rfl rfl (in_unitM c_1) d_M_unit_37 ?_
          refine lv_goto (tgt := 75) hx hb d_M_unit_38 (by decide) ?_
          have hf : f_M_unit nw n c Z P U V u what = (U 0 u.toNatClampNeg, 0, nw, nI n, nI c, Z, P, U, V) := by unfold f_M_unit; rw [if_neg c_1, if_neg c_2, if_neg c_3, if_pos c_4]
          exact zW.iret E hrt hlk G (by rw [hf]) (by rw [hf]) d_M_unit_75
    · refine lv_iconst (v := (-1)) hx hb d_M_unit_21 (by decide) ?_
      have hf : f_M_unit nw n c Z P U V u what = ((-1), 0, nw, nI n, nI c, Z, P, U, V) := by unfold f_M_unit; rw [if_neg c_1, if_pos c_2]
      exact zW.iret E hrt hlk G (by rw [hf]) (by rw [hf]) d_M_unit_22
def f_M_person (nw : Int32) (k : Nat) (n : Nat) (c : Nat) (Z : Nat → Nat → Int32) (P : Nat → Nat → Int32) (U : Nat → Nat → Int32) (V : Nat → Nat → Int32) (pr : Int32) (what : Int32) : Int32 × Int32 × Int32 × Int32 × Int32 × (Nat → Nat → Int32) × (Nat → Nat → Int32) × (Nat → Nat → Int32) × (Nat → Nat → Int32) := (if (f_M_isPerson pr) = 0 then ((-1), 0, nw, nI n, nI c, Z, P, U, V) else (if what = 0 then (f_M_seatOf k Z pr, 0, nw, nI n, nI c, Z, P, U, V) else (if what = 1 then (f_M_waitOf n Z pr, 0, nw, nI n, nI c, Z, P, U, V) else (if what = 2 then (f_M_living c V pr, 0, nw, nI n, nI c, Z, P, U, V) else (if what = 3 then (f_M_has U V pr, 0, nw, nI n, nI c, Z, P, U, V) else (if what = 4 then (P 4 pr.toNatClampNeg, 0, nw, nI n, nI c, Z, P, U, V) else ((-1), 0, nw, nI n, nI c, Z, P, U, V)))))))
set_option maxHeartbeats 4000000 in
set_option maxRecDepth 100000 in
theorem c_M_person (l : Launch) (D : va_G) (cI : ClassId) (a : Nat → Nat) (th : Int32) (nw : Int32) (k : Nat) (n : Nat) (c : Nat) (Z : Nat → Nat → Int32) (P : Nat → Nat → Int32) (U : Nat → Nat → Int32) (V : Nat → Nat → Int32) (pr : Int32) (what : Int32) (hk : k ≤ 20) (hn : n ≤ 60) (hc : c ≤ 300) (hU : ∀ u, u < 80 → (U 0 u = 1 ∨ U 0 u = 2) → vp_in (U 3 u) 300) : zW l D [(cI, .int)] y_M_person b_M_person 3 (some .int) 2 44 [.ref (a 0), .int pr, .int what] (wM a cI th nw (nI k) (nI n) (nI c) Z P U V) (wM a cI ((f_M_person nw k n c Z P U V pr what).2.1) ((f_M_person nw k n c Z P U V pr what).2.2.1) (nI k) ((f_M_person nw k n c Z P U V pr what).2.2.2.1) ((f_M_person nw k n c Z P U V pr what).2.2.2.2.1) ((f_M_person nw k n c Z P U V pr what).2.2.2.2.2.1) ((f_M_person nw k n c Z P U V pr what).2.2.2.2.2.2.1) ((f_M_person nw k n c Z P U V pr what).2.2.2.2.2.2.2.1) ((f_M_person nw k n c Z P U V pr what).2.2.2.2.2.2.2.2)) (some (.int (f_M_person nw k n c Z P U V pr what).1)) := by
  refine zW.of (by decide) (Nat.le_of_ble_eq_true rfl) ?_
  intro p e s m below meth c0 ls A E hrt hlk hN hK hA G hl
  have hx := E.1
  have hb := E.2.1
  have hl : lv_has ls 3 [(0, .ref (a 0)), (1, .int pr), (2, .int what)] := hl
  refine lv_aload_n hx hb d_M_person_0 rfl (lv_at hl 0 rfl) ?_
  refine lv_iconst (v := 0) hx hb d_M_person_1 (by decide) ?_
  refine z_put (ty := .int) (ws' := wM a cI 0 nw (nI k) (nI n) (nI c) Z P U V) E hK G i_M t_M t_M_ok n_M 0 0 rfl rfl (by decide) kf_M_65 rfl rfl rfl rfl (Nat.le_of_ble_eq_true rfl) rfl d_M_person_2 (fun H locs G => ?_)
  refine lv_iload_n hx hb d_M_person_5 rfl (lv_at hl 1 rfl) ?_
  refine z_rs (As := [.int pr]) (rest := []) E hN hK hl.1 (c_M_isPerson l D [(cI, .int)] pr) kz_M_79 rfl ⟨Nat.le_of_ble_eq_true rfl, Nat.le_of_ble_eq_true rfl⟩ rfl (Nat.le_of_ble_eq_true rfl) ⟨Nat.zero_le _, Nat.zero_le _⟩ d_M_person_6 ?_
  refine lv_if_ne (tgt := 14) hx hb d_M_person_9 (by decide) (fun c_1 => ?_) (fun c_1 => ?_)
  · refine lv_iload_n hx hb d_M_person_14 rfl (lv_at hl 2 rfl) ?_
    rcases Classical.em (what = 0) with c_2 | c_2
    · refine lv_tableIn (tgt := 48) (off := 33) hx hb d_M_person_15 (by rw [c_2]; decide) (by rw [c_2]; decide) (by rw [c_2]; decide) (by decide) ?_
      refine lv_aload_n hx hb d_M_person_48 rfl (lv_at hl 0 rfl) ?_
      refine lv_iload_n hx hb d_M_person_49 rfl (lv_at hl 1 rfl) ?_
      refine z_rv (As := [.int pr]) (rest := []) E hN hK G.1 hl.1 (c_M_seatOf l D cI a 0 nw k n c Z P U V pr hk hn hc) [0, 1, 2, 3, 4, 5, 6, 7, 8, 9, 10, 11, 12, 13, 14, 15, 16, 17] rfl 0 rfl rfl kz_M_83 rfl ⟨Nat.le_of_ble_eq_true rfl, Nat.le_of_ble_eq_true rfl⟩ rfl (Nat.le_of_ble_eq_true rfl) ⟨Nat.zero_le _, Nat.zero_le _⟩ d_M_person_50 ?_
      have hf : f_M_person nw k n c Z P U V pr what = (f_M_seatOf k Z pr, 0, nw, nI n, nI c, Z, P, U, V) := by unfold f_M_person; rw [if_neg c_1, if_pos c_2]
      exact zW.iret E hrt hlk G (by rw [hf]) (by rw [hf]) d_M_person_53
    · rcases Classical.em (what = 1) with c_3 | c_3
      · refine lv_tableIn (tgt := 54) (off := 39) hx hb d_M_person_15 (by rw [c_3]; decide) (by rw [c_3]; decide) (by rw [c_3]; decide) (by decide) ?_
        refine lv_aload_n hx hb d_M_person_54 rfl (lv_at hl 0 rfl) ?_
        refine lv_iload_n hx hb d_M_person_55 rfl (lv_at hl 1 rfl) ?_
        refine z_rv (As := [.int pr]) (rest := []) E hN hK G.1 hl.1 (c_M_waitOf l D cI a 0 nw k n c Z P U V pr hk hn hc) [0, 1, 2, 3, 4, 5, 6, 7, 8, 9, 10, 11, 12, 13, 14, 15, 16, 17] rfl 0 rfl rfl kz_M_87 rfl ⟨Nat.le_of_ble_eq_true rfl, Nat.le_of_ble_eq_true rfl⟩ rfl (Nat.le_of_ble_eq_true rfl) ⟨Nat.zero_le _, Nat.zero_le _⟩ d_M_person_56 ?_
        have hf : f_M_person nw k n c Z P U V pr what = (f_M_waitOf n Z pr, 0, nw, nI n, nI c, Z, P, U, V) := by unfold f_M_person; rw [if_neg c_1, if_neg c_2, if_pos c_3]
        exact zW.iret E hrt hlk G (by rw [hf]) (by rw [hf]) d_M_person_59
      · rcases Classical.em (what = 2) with c_4 | c_4
        · refine lv_tableIn (tgt := 60) (off := 45) hx hb d_M_person_15 (by rw [c_4]; decide) (by rw [c_4]; decide) (by rw [c_4]; decide) (by decide) ?_
          refine lv_aload_n hx hb d_M_person_60 rfl (lv_at hl 0 rfl) ?_
          refine lv_iload_n hx hb d_M_person_61 rfl (lv_at hl 1 rfl) ?_
          refine z_rv (As := [.int pr]) (rest := []) E hN hK G.1 hl.1 (c_M_living l D cI a 0 nw k n c Z P U V pr hk hn hc) [0, 1, 2, 3, 4, 5, 6, 7, 8, 9, 10, 11, 12, 13, 14, 15, 16, 17] rfl 0 rfl rfl kz_M_109 rfl ⟨Nat.le_of_ble_eq_true rfl, Nat.le_of_ble_eq_true rfl⟩ rfl (Nat.le_of_ble_eq_true rfl) ⟨Nat.zero_le _, Nat.zero_le _⟩ d_M_person_62 ?_
          have hf : f_M_person nw k n c Z P U V pr what = (f_M_living c V pr, 0, nw, nI n, nI c, Z, P, U, V) := by unfold f_M_person; rw [if_neg c_1, if_neg c_2, if_neg c_3, if_pos c_4]
          exact zW.iret E hrt hlk G (by rw [hf]) (by rw [hf]) d_M_person_65
        · rcases Classical.em (what = 3) with c_5 | c_5
          · refine lv_tableIn (tgt := 66) (off := 51) hx hb d_M_person_15 (by rw [c_5]; decide) (by rw [c_5]; decide) (by rw [c_5]; decide) (by decide) ?_
            refine lv_aload_n hx hb d_M_person_66 rfl (lv_at hl 0 rfl) ?_
            refine lv_iload_n hx hb d_M_person_67 rfl (lv_at hl 1 rfl) ?_
            refine z_rv (As := [.int pr]) (rest := []) E hN hK G.1 hl.1 (c_M_has l D cI a 0 nw k n c Z P U V pr hk hn hc hU) [0, 1, 2, 3, 4, 5, 6, 7, 8, 9, 10, 11, 12, 13, 14, 15, 16, 17] rfl 0 rfl rfl kz_M_90 rfl ⟨Nat.le_of_ble_eq_true rfl, Nat.le_of_ble_eq_true rfl⟩ rfl (Nat.le_of_ble_eq_true rfl) ⟨Nat.zero_le _, Nat.zero_le _⟩ d_M_person_68 ?_
            have hf : f_M_person nw k n c Z P U V pr what = (f_M_has U V pr, 0, nw, nI n, nI c, Z, P, U, V) := by unfold f_M_person; rw [if_neg c_1, if_neg c_2, if_neg c_3, if_neg c_4, if_pos c_5]
            exact zW.iret E hrt hlk G (by rw [hf]) (by rw [hf]) d_M_person_71
          · rcases Classical.em (what = 4) with c_6 | c_6
            · refine lv_tableIn (tgt := 72) (off := 57) hx hb d_M_person_15 (by rw [c_6]; decide) (by rw [c_6]; decide) (by rw [c_6]; decide) (by decide) ?_
              refine lv_aload_n hx hb d_M_person_72 rfl (lv_at hl 0 rfl) ?_
              refine z_get (v := .ref (a 6)) E hK G.1 i_M 0 9 rfl rfl (by decide) kf_M_25 rfl d_M_person_73 ?_
              refine lv_iload_n hx hb d_M_person_76 rfl (lv_at hl 1 rfl) ?_
              refine z_ald (f := P 4) E hK G.1 6 0 rfl rfl (in_personM c_1) d_M_person_77 ?_
              have hf : f_M_person nw k n c Z P U V pr what = (P 4 pr.toNatClampNeg, 0, nw, nI n, nI c, Z, P, U, V) := by unfold f_M_person; rw [if_neg c_1, if_neg c_2, if_neg c_3, if_neg c_4, if_neg c_5, if_pos c_6]
              exact zW.iret E hrt hlk G (by rw [hf]) (by rw [hf]) d_M_person_78
            · refine lv_tableOut (tgt := 79) hx hb d_M_person_15 (sw_out5 c_2 c_3 c_4 c_5 c_6) (by decide) ?_
              refine lv_iconst (v := (-1)) hx hb d_M_person_79 (by decide) ?_
              have hf : f_M_person nw k n c Z P U V pr what = ((-1), 0, nw, nI n, nI c, Z, P, U, V) := by unfold f_M_person; rw [if_neg c_1, if_neg c_2, if_neg c_3, if_neg c_4, if_neg c_5, if_neg c_6]
              exact zW.iret E hrt hlk G (by rw [hf]) (by rw [hf]) d_M_person_80
  · refine lv_iconst (v := (-1)) hx hb d_M_person_12 (by decide) ?_
    have hf : f_M_person nw k n c Z P U V pr what = ((-1), 0, nw, nI n, nI c, Z, P, U, V) := by unfold f_M_person; rw [if_pos c_1]
    exact zW.iret E hrt hlk G (by rw [hf]) (by rw [hf]) d_M_person_13
def f_M_request (nw : Int32) (n : Nat) (c : Nat) (Z : Nat → Nat → Int32) (P : Nat → Nat → Int32) (U : Nat → Nat → Int32) (V : Nat → Nat → Int32) (i : Int32) (what : Int32) : Int32 × Int32 × Int32 × Int32 × Int32 × (Nat → Nat → Int32) × (Nat → Nat → Int32) × (Nat → Nat → Int32) × (Nat → Nat → Int32) := (if (f_M_in i 0 ((nI c) - 1)) = 0 then (0, 1, nw, nI n, nI c, Z, P, U, V) else (if (f_M_in what 0 5) = 0 then (0, 1, nw, nI n, nI c, Z, P, U, V) else (if what = 0 then (V 0 i.toNatClampNeg, 0, nw, nI n, nI c, Z, P, U, V) else (if what = 1 then (V 1 i.toNatClampNeg, 0, nw, nI n, nI c, Z, P, U, V) else (if what = 2 then (V 2 i.toNatClampNeg, 0, nw, nI n, nI c, Z, P, U, V) else (if what = 3 then (V 3 i.toNatClampNeg, 0, nw, nI n, nI c, Z, P, U, V) else (if what = 4 then (V 4 i.toNatClampNeg, 0, nw, nI n, nI c, Z, P, U, V) else (V 5 i.toNatClampNeg, 0, nw, nI n, nI c, Z, P, U, V))))))))
set_option maxHeartbeats 4000000 in
set_option maxRecDepth 100000 in
theorem c_M_request (l : Launch) (D : va_G) (cI : ClassId) (a : Nat → Nat) (th : Int32) (nw : Int32) (k : Nat) (n : Nat) (c : Nat) (Z : Nat → Nat → Int32) (P : Nat → Nat → Int32) (U : Nat → Nat → Int32) (V : Nat → Nat → Int32) (i : Int32) (what : Int32) (hk : k ≤ 20) (hn : n ≤ 60) (hc : c ≤ 300) : zW l D [(cI, .int)] y_M_request b_M_request 3 (some .int) 1 22 [.ref (a 0), .int i, .int what] (wM a cI th nw (nI k) (nI n) (nI c) Z P U V) (wM a cI ((f_M_request nw n c Z P U V i what).2.1) ((f_M_request nw n c Z P U V i what).2.2.1) (nI k) ((f_M_request nw n c Z P U V i what).2.2.2.1) ((f_M_request nw n c Z P U V i what).2.2.2.2.1) ((f_M_request nw n c Z P U V i what).2.2.2.2.2.1) ((f_M_request nw n c Z P U V i what).2.2.2.2.2.2.1) ((f_M_request nw n c Z P U V i what).2.2.2.2.2.2.2.1) ((f_M_request nw n c Z P U V i what).2.2.2.2.2.2.2.2)) (some (.int (f_M_request nw n c Z P U V i what).1)) := by
  refine zW.of (by decide) (Nat.le_of_ble_eq_true rfl) ?_
  intro p e s m below meth c0 ls A E hrt hlk hN hK hA G hl
  have hx := E.1
  have hb := E.2.1
  have hl : lv_has ls 3 [(0, .ref (a 0)), (1, .int i), (2, .int what)] := hl
  refine lv_aload_n hx hb d_M_request_0 rfl (lv_at hl 0 rfl) ?_
  refine lv_iload_n hx hb d_M_request_1 rfl (lv_at hl 1 rfl) ?_
  refine lv_iconst (v := 0) hx hb d_M_request_2 (by decide) ?_
  refine lv_aload_n hx hb d_M_request_3 rfl (lv_at hl 0 rfl) ?_
  refine z_get (v := .int (nI c)) E hK G.1 i_M 0 15 rfl rfl (by decide) kf_M_97 rfl d_M_request_4 ?_
  refine lv_iconst (v := 1) hx hb d_M_request_7 (by decide) ?_
  refine lv_isub hx hb d_M_request_8 ?_
  refine z_rs (As := [.int i, .int 0, .int ((nI c) - 1)]) (rest := [.ref (a 0)]) E hN hK hl.1 (c_M_in l D [(cI, .int)] i 0 ((nI c) - 1)) kz_M_68 rfl ⟨Nat.le_of_ble_eq_true rfl, Nat.le_of_ble_eq_true rfl⟩ rfl (Nat.le_of_ble_eq_true rfl) ⟨Nat.zero_le _, Nat.zero_le _⟩ d_M_request_9 ?_
  refine lv_if_eq (tgt := 24) hx hb d_M_request_12 (by decide) (fun c_1 => ?_) (fun c_1 => ?_)
  · refine lv_iconst (v := 1) hx hb d_M_request_24 (by decide) ?_
    refine lv_goto (tgt := 29) hx hb d_M_request_25 (by decide) ?_
    refine z_put (ty := .int) (ws' := wM a cI 1 nw (nI k) (nI n) (nI c) Z P U V) E hK G i_M t_M t_M_ok n_M 0 0 rfl rfl (by decide) kf_M_65 rfl rfl rfl rfl (Nat.le_of_ble_eq_true rfl) rfl d_M_request_29 (fun H locs G => ?_)
    refine lv_aload_n hx hb d_M_request_32 rfl (lv_at hl 0 rfl) ?_
    refine z_get (v := .int 1) E hK G.1 i_M 0 0 rfl rfl (by decide) kf_M_65 rfl d_M_request_33 ?_
    refine lv_if_le (tgt := 41) hx hb d_M_request_36 (by decide) (fun c_2 => absurd c_2 (by decide)) (fun c_2 => ?_)
    refine lv_iconst (v := 0) hx hb d_M_request_39 (by decide) ?_
    have hf : f_M_request nw n c Z P U V i what = (0, 1, nw, nI n, nI c, Z, P, U, V) := by unfold f_M_request; rw [if_pos c_1]
    exact zW.iret E hrt hlk G (by rw [hf]) (by rw [hf]) d_M_request_40
  · refine lv_iload_n hx hb d_M_request_15 rfl (lv_at hl 2 rfl) ?_
    refine lv_iconst (v := 0) hx hb d_M_request_16 (by decide) ?_
    refine lv_iconst (v := 5) hx hb d_M_request_17 (by decide) ?_
    refine z_rs (As := [.int what, .int 0, .int 5]) (rest := [.ref (a 0)]) E hN hK hl.1 (c_M_in l D [(cI, .int)] what 0 5) kz_M_68 rfl ⟨Nat.le_of_ble_eq_true rfl, Nat.le_of_ble_eq_true rfl⟩ rfl (Nat.le_of_ble_eq_true rfl) ⟨Nat.zero_le _, Nat.zero_le _⟩ d_M_request_18 ?_
    refine lv_if_ne (tgt := 28) hx hb d_M_request_21 (by decide) (fun c_3 => ?_) (fun c_3 => ?_)
    · refine lv_iconst (v := 0) hx hb d_M_request_28 (by decide) ?_
      refine z_put (ty := .int) (ws' := wM a cI 0 nw (nI k) (nI n) (nI c) Z P U V) E hK G i_M t_M t_M_ok n_M 0 0 rfl rfl (by decide) kf_M_65 rfl rfl rfl rfl (Nat.le_of_ble_eq_true rfl) rfl d_M_request_29 (fun H locs G => ?_)
      refine lv_aload_n hx hb d_M_request_32 rfl (lv_at hl 0 rfl) ?_
      refine z_get (v := .int 0) E hK G.1 i_M 0 0 rfl rfl (by decide) kf_M_65 rfl d_M_request_33 ?_
      refine lv_if_le (tgt := 41) hx hb d_M_request_36 (by decide) (fun c_4 => ?_) (fun c_4 => absurd (by decide) c_4)
      refine lv_iload_n hx hb d_M_request_41 rfl (lv_at hl 2 rfl) ?_
      refine lv_if_ne (tgt := 54) hx hb d_M_request_42 (by decide) (fun c_5 => ?_) (fun c_5 => ?_)
      · refine lv_iload_n hx hb d_M_request_54 rfl (lv_at hl 2 rfl) ?_
        refine lv_iconst (v := 1) hx hb d_M_request_55 (by decide) ?_
        refine lv_icmp_ne (tgt := 68) hx hb d_M_request_56 (by decide) (fun c_6 => ?_) (fun c_6 => ?_)
        · refine lv_iload_n hx hb d_M_request_68 rfl (lv_at hl 2 rfl) ?_
          refine lv_iconst (v := 2) hx hb d_M_request_69 (by decide) ?_
          refine lv_icmp_ne (tgt := 82) hx hb d_M_request_70 (by decide) (fun c_7 => ?_) (fun c_7 => ?_)
          · refine lv_iload_n hx hb d_M_request_82 rfl (lv_at hl 2 rfl) ?_
            refine lv_iconst (v := 3) hx hb d_M_request_83 (by decide) ?_
            refine lv_icmp_ne (tgt := 96) hx hb d_M_request_84 (by decide) (fun c_8 => ?_) (fun c_8 => ?_)
            · refine lv_iload_n hx hb d_M_request_96 rfl (lv_at hl 2 rfl) ?_
              refine lv_iconst (v := 4) hx hb d_M_request_97 (by decide) ?_
              refine lv_icmp_ne (tgt := 110) hx hb d_M_request_98 (by decide) (fun c_9 => ?_) (fun c_9 => ?_)
              · refine lv_aload_n hx hb d_M_request_110 rfl (lv_at hl 0 rfl) ?_
                refine z_get (v := .ref (a 17)) E hK G.1 i_M 0 21 rfl rfl (by decide) kf_M_58 rfl d_M_request_111 ?_
                refine lv_iload_n hx hb d_M_request_114 rfl (lv_at hl 1 rfl) ?_
                refine z_ald (f := V 5) E hK G.1 17 0 rfl rfl (in_hasM hc c_1) d_M_request_115 ?_
                have hf : f_M_request nw n c Z P U V i what = (V 5 i.toNatClampNeg, 0, nw, nI n, nI c, Z, P, U, V) := by unfold f_M_request; rw [if_neg c_1, if_neg c_3, if_neg c_5, if_neg c_6, if_neg c_7, if_neg c_8, if_neg c_9]
                exact zW.iret E hrt hlk G (by rw [hf]) (by rw [hf]) d_M_request_116
              · refine lv_aload_n hx hb d_M_request_101 rfl (lv_at hl 0 rfl) ?_
                refine z_get (v := .ref (a 16)) E hK G.1 i_M 0 20 rfl rfl (by decide) kf_M_55 rfl d_M_request_102 ?_
                refine lv_iload_n hx hb d_M_request_105 rfl (lv_at hl 1 rfl) ?_
                refine z_ald (f := V 4) E hK G.1 16 0 rfl rfl (in_hasM hc c_1) d_M_request_106 ?_
                refine lv_goto (tgt := 116) hx hb d_M_request_107 (by decide) ?_
                have hf : f_M_request nw n c Z P U V i what = (V 4 i.toNatClampNeg, 0, nw, nI n, nI c, Z, P, U, V) := by unfold f_M_request; rw [if_neg c_1, if_neg c_3, if_neg c_5, if_neg c_6, if_neg c_7, if_neg c_8, if_pos c_9]
                exact zW.iret E hrt hlk G (by rw [hf]) (by rw [hf]) d_M_request_116
            · refine lv_aload_n hx hb d_M_request_87 rfl (lv_at hl 0 rfl) ?_
              refine z_get (v := .ref (a 15)) E hK G.1 i_M 0 19 rfl rfl (by decide) kf_M_52 rfl d_M_request_88 ?_
              refine lv_iload_n hx hb d_M_request_91 rfl (lv_at hl 1 rfl) ?_
              refine z_ald (f := V 3) E hK G.1 15 0 rfl rfl (in_hasM hc c_1) d_M_request_92 ?_
              refine lv_goto (tgt := 116) hx hb d_M_request_93 (by decide) ?_
              have hf : f_M_request nw n c Z P U V i what = (V 3 i.toNatClampNeg, 0, nw, nI n, nI c, Z, P, U, V) := by unfold f_M_request; rw [if_neg c_1, if_neg c_3, if_neg c_5, if_neg c_6, if_neg c_7, if_pos c_8]
              exact zW.iret E hrt hlk G (by rw [hf]) (by rw [hf]) d_M_request_116
          · refine lv_aload_n hx hb d_M_request_73 rfl (lv_at hl 0 rfl) ?_
            refine z_get (v := .ref (a 14)) E hK G.1 i_M 0 18 rfl rfl (by decide) kf_M_49 rfl d_M_request_74 ?_
            refine lv_iload_n hx hb d_M_request_77 rfl (lv_at hl 1 rfl) ?_
            refine z_ald (f := V 2) E hK G.1 14 0 rfl rfl (in_hasM hc c_1) d_M_request_78 ?_
            refine lv_goto (tgt := 116) hx hb d_M_request_79 (by decide) ?_
            have hf : f_M_request nw n c Z P U V i what = (V 2 i.toNatClampNeg, 0, nw, nI n, nI c, Z, P, U, V) := by unfold f_M_request; rw [if_neg c_1, if_neg c_3, if_neg c_5, if_neg c_6, if_pos c_7]
            exact zW.iret E hrt hlk G (by rw [hf]) (by rw [hf]) d_M_request_116
        · refine lv_aload_n hx hb d_M_request_59 rfl (lv_at hl 0 rfl) ?_
          refine z_get (v := .ref (a 13)) E hK G.1 i_M 0 17 rfl rfl (by decide) kf_M_46 rfl d_M_request_60 ?_
          refine lv_iload_n hx hb d_M_request_63 rfl (lv_at hl 1 rfl) ?_
          refine z_ald (f := V 1) E hK G.1 13 0 rfl rfl (in_hasM hc c_1) d_M_request_64 ?_
          refine lv_goto (tgt := 116) hx hb d_M_request_65 (by decide) ?_
          have hf : f_M_request nw n c Z P U V i what = (V 1 i.toNatClampNeg, 0, nw, nI n, nI c, Z, P, U, V) := by unfold f_M_request; rw [if_neg c_1, if_neg c_3, if_neg c_5, if_pos c_6]
          exact zW.iret E hrt hlk G (by rw [hf]) (by rw [hf]) d_M_request_116
      · refine lv_aload_n hx hb d_M_request_45 rfl (lv_at hl 0 rfl) ?_
        refine z_get (v := .ref (a 12)) E hK G.1 i_M 0 16 rfl rfl (by decide) kf_M_43 rfl d_M_request_46 ?_
        refine lv_iload_n hx hb d_M_request_49 rfl (lv_at hl 1 rfl) ?_
        refine z_ald (f := V 0) E hK G.1 12 0 rfl rfl (in_hasM hc c_1) d_M_request_50 ?_
        refine lv_goto (tgt := 116) hx hb d_M_request_51 (by decide) ?_
        have hf : f_M_request nw n c Z P U V i what = (V 0 i.toNatClampNeg, 0, nw, nI n, nI c, Z, P, U, V) := by unfold f_M_request; rw [if_neg c_1, if_neg c_3, if_pos c_5]
        exact zW.iret E hrt hlk G (by rw [hf]) (by rw [hf]) d_M_request_116
    · refine lv_iconst (v := 1) hx hb d_M_request_24 (by decide) ?_
      refine lv_goto (tgt := 29) hx hb d_M_request_25 (by decide) ?_
      refine z_put (ty := .int) (ws' := wM a cI 1 nw (nI k) (nI n) (nI c) Z P U V) E hK G i_M t_M t_M_ok n_M 0 0 rfl rfl (by decide) kf_M_65 rfl rfl rfl rfl (Nat.le_of_ble_eq_true rfl) rfl d_M_request_29 (fun H locs G => ?_)
      refine lv_aload_n hx hb d_M_request_32 rfl (lv_at hl 0 rfl) ?_
      refine z_get (v := .int 1) E hK G.1 i_M 0 0 rfl rfl (by decide) kf_M_65 rfl d_M_request_33 ?_
      refine lv_if_le (tgt := 41) hx hb d_M_request_36 (by decide) (fun c_10 => absurd c_10 (by decide)) (fun c_10 => ?_)
      refine lv_iconst (v := 0) hx hb d_M_request_39 (by decide) ?_
      have hf : f_M_request nw n c Z P U V i what = (0, 1, nw, nI n, nI c, Z, P, U, V) := by unfold f_M_request; rw [if_neg c_1, if_pos c_3]
      exact zW.iret E hrt hlk G (by rw [hf]) (by rw [hf]) d_M_request_40
def f_M_waits_L (nw : Int32) (n : Nat) (c : Nat) (Z : Nat → Nat → Int32) (P : Nat → Nat → Int32) (U : Nat → Nat → Int32) (V : Nat → Nat → Int32) (u : Int32) (i : Int32) : Nat → Nat → Int32 → Int32 × Int32 × Int32 × Int32 × Int32 × (Nat → Nat → Int32) × (Nat → Nat → Int32) × (Nat → Nat → Int32) × (Nat → Nat → Int32)
  | 0, k0, x3 => (0, 1, nw, nI n, nI c, Z, P, U, V)
  | d + 1, k0, x3 => (if (V 1 k0) = u then (if (V 2 k0) = 0 then (if x3 = 0 then (nI k0, 0, nw, nI n, nI c, Z, P, U, V) else (f_M_waits_L nw n c Z P U V u i d (k0 + 1) (x3 + (-1)))) else (f_M_waits_L nw n c Z P U V u i d (k0 + 1) x3)) else (f_M_waits_L nw n c Z P U V u i d (k0 + 1) x3))
theorem f_M_waits_L_0 (nw : Int32) (n : Nat) (c : Nat) (Z : Nat → Nat → Int32) (P : Nat → Nat → Int32) (U : Nat → Nat → Int32) (V : Nat → Nat → Int32) (u : Int32) (i : Int32) (k0 : Nat) (x3 : Int32) : f_M_waits_L nw n c Z P U V u i 0 k0 x3 = (0, 1, nw, nI n, nI c, Z, P, U, V) := rfl
theorem f_M_waits_L_s (nw : Int32) (n : Nat) (c : Nat) (Z : Nat → Nat → Int32) (P : Nat → Nat → Int32) (U : Nat → Nat → Int32) (V : Nat → Nat → Int32) (u : Int32) (i : Int32) (d k0 : Nat) (x3 : Int32) : f_M_waits_L nw n c Z P U V u i (d + 1) k0 x3 = (if (V 1 k0) = u then (if (V 2 k0) = 0 then (if x3 = 0 then (nI k0, 0, nw, nI n, nI c, Z, P, U, V) else (f_M_waits_L nw n c Z P U V u i d (k0 + 1) (x3 + (-1)))) else (f_M_waits_L nw n c Z P U V u i d (k0 + 1) x3)) else (f_M_waits_L nw n c Z P U V u i d (k0 + 1) x3)) := rfl
def f_M_waits (nw : Int32) (n : Nat) (c : Nat) (Z : Nat → Nat → Int32) (P : Nat → Nat → Int32) (U : Nat → Nat → Int32) (V : Nat → Nat → Int32) (u : Int32) (i : Int32) : Int32 × Int32 × Int32 × Int32 × Int32 × (Nat → Nat → Int32) × (Nat → Nat → Int32) × (Nat → Nat → Int32) × (Nat → Nat → Int32) := (f_M_waits_L nw n c Z P U V u i c 0 i)
set_option maxHeartbeats 4000000 in
set_option maxRecDepth 100000 in
theorem lp_M_waits (l : Launch) (D : va_G) (cI : ClassId) (a : Nat → Nat) (th : Int32) (nw : Int32) (k : Nat) (n : Nat) (c : Nat) (Z : Nat → Nat → Int32) (P : Nat → Nat → Int32) (U : Nat → Nat → Int32) (V : Nat → Nat → Int32) (u : Int32) (i : Int32) (hk : k ≤ 20) (hn : n ≤ 60) (hc : c ≤ 300) {p : Program} {e : Env} {s : State} {m : MethodId} {below : List Frame} {meth : Method} {c0 : Code} {A : Nat → Prop} (E : CallFix p m c0 b_M_waits 5 s ([.ref (a 0), .int u, .int i] : List Value).toArray zB y_M_waits.cls) (hrt : meth.sig.returnType = (some .int)) (hlk : meth.locks = false) (hN : zN s) (hK : va_K D vwCl [(cI, .int)] s) (hA : ∀ q, s.heap.size ≤ q → A q) :
    ∀ (d k0 : Nat) (x3 : Int32), k0 + d = c → ∀ X : Int32 × Int32 × Int32 × Int32 × Int32 × (Nat → Nat → Int32) × (Nat → Nat → Int32) × (Nat → Nat → Int32) × (Nat → Nat → Int32), f_M_waits_L nw n c Z P U V u i d k0 x3 = X → ∀ (H : Heap) (locs : List Loc), zG D A s H locs (wM a cI th nw (nI k) (nI n) (nI c) Z P U V) → ∀ ls : Array Slot, lv_has ls 5 [(4, .int (nI k0)), (3, .int x3), (0, .ref (a 0)), (1, .int u), (2, .int i)] → W p l e { frames := 0, cells := 0, slots := 0, locals := 0 } s m ([.ref (a 0), .int u, .int i] : List Value).toArray below meth c0 H locs 0 0 (MQ below (zQ D A (wM a cI X.2.1 X.2.2.1 (nI k) X.2.2.2.1 X.2.2.2.2.1 X.2.2.2.2.2.1 X.2.2.2.2.2.2.1 X.2.2.2.2.2.2.2.1 X.2.2.2.2.2.2.2.2) (some (.int X.1))) ([.ref (a 0), .int u, .int i] : List Value).toArray s 0 0 A) (F0 m 5 ls []) := by
  have hx := E.1
  have hb := E.2.1
  intro d
  induction d with
  | zero =>
    intro k0 x3 hkd X hr H locs G ls hl
    refine lv_iload hx hb d_M_waits_5 (lv_at hl 0 rfl) ?_
    refine lv_aload_n hx hb d_M_waits_7 rfl (lv_at hl 2 rfl) ?_
    refine z_get (v := .int (nI c)) E hK G.1 i_M 0 15 rfl rfl (by decide) kf_M_97 rfl d_M_waits_8 ?_
    refine lv_icmp_ge (tgt := 59) hx hb d_M_waits_11 (by decide) (fun c_1 => ?_) (fun c_1 => absurd (nI_le (by omega) (by omega)) c_1)
    refine lv_aload_n hx hb d_M_waits_59 rfl (lv_at hl 2 rfl) ?_
    refine lv_iconst (v := 1) hx hb d_M_waits_60 (by decide) ?_
    refine z_put (ty := .int) (ws' := wM a cI 1 nw (nI k) (nI n) (nI c) Z P U V) E hK G i_M t_M t_M_ok n_M 0 0 rfl rfl (by decide) kf_M_65 rfl rfl rfl rfl (Nat.le_of_ble_eq_true rfl) rfl d_M_waits_61 (fun H locs G => ?_)
    refine lv_iconst (v := 0) hx hb d_M_waits_64 (by decide) ?_
    have hf : X = (0, 1, nw, nI n, nI c, Z, P, U, V) := by rw [← hr, f_M_waits_L_0]
    exact zW.iret E hrt hlk G (by rw [hf]) (by rw [hf]) d_M_waits_65
  | succ d ih =>
    intro k0 x3 hkd X hr H locs G ls hl
    refine lv_iload hx hb d_M_waits_5 (lv_at hl 0 rfl) ?_
    refine lv_aload_n hx hb d_M_waits_7 rfl (lv_at hl 2 rfl) ?_
    refine z_get (v := .int (nI c)) E hK G.1 i_M 0 15 rfl rfl (by decide) kf_M_97 rfl d_M_waits_8 ?_
    refine lv_icmp_ge (tgt := 59) hx hb d_M_waits_11 (by decide) (fun c_2 => absurd c_2 (nI_ge (by omega) (by omega))) (fun c_2 => ?_)
    refine lv_aload_n hx hb d_M_waits_14 rfl (lv_at hl 2 rfl) ?_
    refine z_get (v := .ref (a 13)) E hK G.1 i_M 0 17 rfl rfl (by decide) kf_M_46 rfl d_M_waits_15 ?_
    refine lv_iload hx hb d_M_waits_18 (lv_at hl 0 rfl) ?_
    refine z_aldN (f := V 1) (j := k0) E hK G.1 13 0 rfl rfl rfl (by omega) (by decide) d_M_waits_20 ?_
    refine lv_iload_n hx hb d_M_waits_21 rfl (lv_at hl 3 rfl) ?_
    refine lv_icmp_ne (tgt := 53) hx hb d_M_waits_22 (by decide) (fun c_3 => ?_) (fun c_3 => ?_)
    · refine lv_iinc (v := nI (k0 + 1)) (lv' := [(4, .int (nI (k0 + 1))), (3, .int x3), (0, .ref (a 0)), (1, .int u), (2, .int i)]) hx hb d_M_waits_53 hl (k := 0) rfl (nI_1 _) (by decide) rfl (fun ls hl => ?_)
      refine lv_goto (tgt := 5) hx hb d_M_waits_56 (by decide) ?_
      exact ih (k0 + 1) x3 (by omega) X (by rw [← hr, f_M_waits_L_s, if_neg c_3]) H locs G ls (lv_sub hl [0, 1, 2, 3, 4] rfl)
    · refine lv_aload_n hx hb d_M_waits_25 rfl (lv_at hl 2 rfl) ?_
      refine z_get (v := .ref (a 14)) E hK G.1 i_M 0 18 rfl rfl (by decide) kf_M_49 rfl d_M_waits_26 ?_
      refine lv_iload hx hb d_M_waits_29 (lv_at hl 0 rfl) ?_
      refine z_aldN (f := V 2) (j := k0) E hK G.1 14 0 rfl rfl rfl (by omega) (by decide) d_M_waits_31 ?_
      refine lv_if_eq (tgt := 38) hx hb d_M_waits_32 (by decide) (fun c_4 => ?_) (fun c_4 => ?_)
      · refine lv_iload_n hx hb d_M_waits_38 rfl (lv_at hl 1 rfl) ?_
        refine lv_if_ne (tgt := 50) hx hb d_M_waits_39 (by decide) (fun c_5 => ?_) (fun c_5 => ?_)
        · refine lv_iinc (v := x3 + (-1)) (lv' := [(3, .int (x3 + (-1))), (4, .int (nI k0)), (0, .ref (a 0)), (1, .int u), (2, .int i)]) hx hb d_M_waits_50 hl (k := 1) rfl rfl (by decide) rfl (fun ls hl => ?_)
          refine lv_iinc (v := nI (k0 + 1)) (lv' := [(4, .int (nI (k0 + 1))), (3, .int (x3 + (-1))), (0, .ref (a 0)), (1, .int u), (2, .int i)]) hx hb d_M_waits_53 hl (k := 1) rfl (nI_1 _) (by decide) rfl (fun ls hl => ?_)
          refine lv_goto (tgt := 5) hx hb d_M_waits_56 (by decide) ?_
          exact ih (k0 + 1) (x3 + (-1)) (by omega) X (by rw [← hr, f_M_waits_L_s, if_pos c_3, if_pos c_4, if_neg c_5]) H locs G ls (lv_sub hl [0, 1, 2, 3, 4] rfl)
        · refine lv_aload_n hx hb d_M_waits_42 rfl (lv_at hl 2 rfl) ?_
          refine lv_iconst (v := 0) hx hb d_M_waits_43 (by decide) ?_
          refine z_put (ty := .int) (ws' := wM a cI 0 nw (nI k) (nI n) (nI c) Z P U V) E hK G i_M t_M t_M_ok n_M 0 0 rfl rfl (by decide) kf_M_65 rfl rfl rfl rfl (Nat.le_of_ble_eq_true rfl) rfl d_M_waits_44 (fun H locs G => ?_)
          refine lv_iload hx hb d_M_waits_47 (lv_at hl 0 rfl) ?_
          have hf : X = (nI k0, 0, nw, nI n, nI c, Z, P, U, V) := by rw [← hr, f_M_waits_L_s, if_pos c_3, if_pos c_4, if_pos c_5]
          exact zW.iret E hrt hlk G (by rw [hf]) (by rw [hf]) d_M_waits_49
      · refine lv_goto (tgt := 53) hx hb d_M_waits_35 (by decide) ?_
        refine lv_iinc (v := nI (k0 + 1)) (lv' := [(4, .int (nI (k0 + 1))), (3, .int x3), (0, .ref (a 0)), (1, .int u), (2, .int i)]) hx hb d_M_waits_53 hl (k := 0) rfl (nI_1 _) (by decide) rfl (fun ls hl => ?_)
        refine lv_goto (tgt := 5) hx hb d_M_waits_56 (by decide) ?_
        exact ih (k0 + 1) x3 (by omega) X (by rw [← hr, f_M_waits_L_s, if_pos c_3, if_neg c_4]) H locs G ls (lv_sub hl [0, 1, 2, 3, 4] rfl)
set_option maxHeartbeats 4000000 in
set_option maxRecDepth 100000 in
theorem c_M_waits (l : Launch) (D : va_G) (cI : ClassId) (a : Nat → Nat) (th : Int32) (nw : Int32) (k : Nat) (n : Nat) (c : Nat) (Z : Nat → Nat → Int32) (P : Nat → Nat → Int32) (U : Nat → Nat → Int32) (V : Nat → Nat → Int32) (u : Int32) (i : Int32) (hk : k ≤ 20) (hn : n ≤ 60) (hc : c ≤ 300) : zW l D [(cI, .int)] y_M_waits b_M_waits 5 (some .int) 0 0 [.ref (a 0), .int u, .int i] (wM a cI th nw (nI k) (nI n) (nI c) Z P U V) (wM a cI ((f_M_waits nw n c Z P U V u i).2.1) ((f_M_waits nw n c Z P U V u i).2.2.1) (nI k) ((f_M_waits nw n c Z P U V u i).2.2.2.1) ((f_M_waits nw n c Z P U V u i).2.2.2.2.1) ((f_M_waits nw n c Z P U V u i).2.2.2.2.2.1) ((f_M_waits nw n c Z P U V u i).2.2.2.2.2.2.1) ((f_M_waits nw n c Z P U V u i).2.2.2.2.2.2.2.1) ((f_M_waits nw n c Z P U V u i).2.2.2.2.2.2.2.2)) (some (.int (f_M_waits nw n c Z P U V u i).1)) := by
  refine zW.of (by decide) (Nat.le_of_ble_eq_true rfl) ?_
  intro p e s m below meth c0 ls A E hrt hlk hN hK hA G hl
  have hx := E.1
  have hb := E.2.1
  have hl : lv_has ls 5 [(0, .ref (a 0)), (1, .int u), (2, .int i)] := hl
  refine lv_iload_n hx hb d_M_waits_0 rfl (lv_at hl 2 rfl) ?_
  refine lv_istore_n (lv' := [(3, .int i), (0, .ref (a 0)), (1, .int u), (2, .int i)]) hx hb d_M_waits_1 rfl hl (by decide) rfl (fun ls hl => ?_)
  refine lv_iconst (v := 0) hx hb d_M_waits_2 (by decide) ?_
  refine lv_istore (lv' := [(4, .int 0), (3, .int i), (0, .ref (a 0)), (1, .int u), (2, .int i)]) hx hb d_M_waits_3 hl (by decide) rfl (fun ls hl => ?_)
  exact lp_M_waits l D cI a th nw k n c Z P U V u i hk hn hc E hrt hlk hN hK hA c 0 i (by omega) _ (by rfl) _ _ G ls (by rw [nI_0]; exact lv_sub hl [0, 1, 2, 3, 4] rfl)
