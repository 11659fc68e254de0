theorem fill2_0 (Z : Nat → Nat → Int32) (j : Nat) (v : Int32) : fill2 Z j 0 v = Z := by
  funext b
  show (match Nat.beq b j with | true => fillF (Z b) 0 v | false => Z b) = Z b
  split
  · exact fillF_0 _ _
  · rfl
theorem fill2_s (Z : Nat → Nat → Int32) (j i : Nat) (v : Int32) : up2 (fill2 Z j i v) j i v = fill2 Z j (i + 1) v := by
  funext b
  show (match Nat.beq b j with | true => upd (fill2 Z j i v b) i v | false => fill2 Z j i v b) = (match Nat.beq b j with | true => fillF (Z b) (i + 1) v | false => Z b)
  cases h : Nat.beq b j with
  | true =>
    show upd (fill2 Z j i v b) i v = fillF (Z b) (i + 1) v
    rw [show fill2 Z j i v b = fillF (Z b) i v by unfold fill2; rw [h]]
    exact fillF_s _ _ _
  | false =>
    show fill2 Z j i v b = Z b
    unfold fill2
    rw [h]
theorem up2_fill2 {Z : Nat → Nat → Int32} {j j' n i : Nat} {v w : Int32} (h : j ≠ j') : up2 (fill2 Z j n v) j' i w = fill2 (up2 Z j' i w) j n v := by
  funext b
  cases h1 : Nat.beq b j' with
  | true =>
    have e1 : b = j' := Nat.eq_of_beq_eq_true h1
    have h2 : Nat.beq b j = false := by
      cases h3 : Nat.beq b j with
      | true => exact absurd ((Nat.eq_of_beq_eq_true h3).symm.trans e1) h
      | false => rfl
    simp only [up2, fill2, h1, h2]
  | false => simp only [up2, fill2, h1]
def mSeats (x : Int32) : Int32 := if 0 ≤ x then (if x ≤ 20 then x else 20) else 0
def zero2 : Nat → Nat → Int32 := fun _ _ => 0
/-- what the arrays of a fresh model hold -/
def Zi : Nat → Nat → Int32 := fill2 zero2 0 20 (-1)
def Pm : Nat → Nat → Int32 := fill2 (fill2 (fill2 zero2 1 60 3) 2 60 20) 3 60 (-1)
def Ui : Nat → Nat → Int32 := fill2 zero2 3 80 (-1)
def mP (i : Nat) : Nat → Nat → Int32 := fill2 (fill2 (fill2 zero2 1 i 3) 2 i 20) 3 i (-1)
theorem mP_0 : mP 0 = zero2 := by unfold mP; rw [fill2_0, fill2_0, fill2_0]
theorem mP_s (i : Nat) : up2 (up2 (up2 (mP i) 1 i 3) 2 i 20) 3 i (-1) = mP (i + 1) := by
  unfold mP
  rw [up2_fill2 (j := 3) (j' := 1) (by decide), up2_fill2 (j := 2) (j' := 1) (by decide), fill2_s, up2_fill2 (j := 3) (j' := 2) (by decide), fill2_s, fill2_s]
section MC
variable {l : Launch} {D : va_G} {cI : ClassId} {p : Program} {e : Env} {s : State} {m : MethodId} {below : List Frame} {meth : Method} {c0 : Code} {A : Nat → Prop} {h0 : Nat} {many : Int32} {a : Nat → Nat} {B : va_W → Prop} {R : Room}
set_option maxHeartbeats 4000000 in
set_option maxRecDepth 100000 in
theorem mk_M3 (E : CallFix p m c0 b_M_init 3 s ([.ref h0, .int many] : List Value).toArray zB y_M_init.cls) (hrt : meth.sig.returnType = none) (hlk : meth.locks = false) (hN : zN s) (hK : va_K D vwCl [(cI, .int)] s) (hA : ∀ q, s.heap.size ≤ q → A q) {sv : Int32}
    (hB : B (wM a cI 0 0 sv 0 0 Zi Pm Ui zero2)) : ∀ (d i : Nat), i + d = 80 → ∀ (H : Heap) (locs : List Loc), zG D A s H locs (wM a cI 0 0 sv 0 0 Zi Pm (fill2 zero2 3 i (-1)) zero2) → ∀ ls : Array Slot, lv_has ls 3 [(2, .int (nI i)), (0, .ref (a 0)), (1, .int many)] → W p l e R s m ([.ref h0, .int many] : List Value).toArray below meth c0 H locs 17 2500 (MQ below (zQK D A B) ([.ref h0, .int many] : List Value).toArray s 17 2500 A) (F0 m 229 ls []) := by
  have hx := E.1
  have hb := E.2.1
  intro d
  induction d with
  | zero =>
    intro i hi H locs G ls hl
    refine lv_iload_n hx hb d_M_init_229 rfl (lv_at hl 0 rfl) ?_
    refine lv_bipush (v := nI 80) hx hb d_M_init_230 (by decide) ?_
    refine lv_icmp_ge (tgt := 248) hx hb d_M_init_232 (by decide) (fun c_1 => ?_) (fun c_1 => absurd (nI_le (by omega) (by omega)) c_1)
    have hi : i = 80 := by omega
    subst hi
    exact zK.vret E hrt hlk G hB (Nat.le_refl _) (Nat.le_refl _) d_M_init_248
  | succ d ih =>
    intro i hi H locs G ls hl
    refine lv_iload_n hx hb d_M_init_229 rfl (lv_at hl 0 rfl) ?_
    refine lv_bipush (v := nI 80) hx hb d_M_init_230 (by decide) ?_
    refine lv_icmp_ge (tgt := 248) hx hb d_M_init_232 (by decide) (fun c_1 => absurd c_1 (nI_ge (by omega) (by omega))) (fun c_1 => ?_)
    refine lv_aload_n hx hb d_M_init_235 rfl (lv_at hl 1 rfl) ?_
    refine z_get (v := .ref (a 11)) E hK G.1 i_M 0 14 rfl rfl (by decide) kf_M_40 rfl d_M_init_236 ?_
    refine lv_iload_n hx hb d_M_init_239 rfl (lv_at hl 0 rfl) ?_
    refine lv_iconst (v := (-1)) hx hb d_M_init_240 (by decide) ?_
    refine z_astN (f := fill2 zero2 3 i (-1) 3) (j := i) (ws' := wM a cI 0 0 sv 0 0 Zi Pm (up2 (fill2 zero2 3 i (-1)) 3 i (-1)) zero2) E hK G 11 0 rfl rfl rfl (by omega) (by decide) rfl d_M_init_241 (fun H locs G => ?_)
    rw [fill2_s] at G
    refine lv_iinc (v := nI (i + 1)) (lv' := [(2, .int (nI (i + 1))), (0, .ref (a 0)), (1, .int many)]) hx hb d_M_init_242 hl (k := 0) rfl (nI_1 _) (by decide) rfl (fun ls hl => ?_)
    refine lv_goto (tgt := 229) hx hb d_M_init_245 (by decide) ?_
    exact ih (i + 1) (by omega) H locs G ls hl
set_option maxHeartbeats 4000000 in
set_option maxRecDepth 100000 in
theorem mk_M2 (E : CallFix p m c0 b_M_init 3 s ([.ref h0, .int many] : List Value).toArray zB y_M_init.cls) (hrt : meth.sig.returnType = none) (hlk : meth.locks = false) (hN : zN s) (hK : va_K D vwCl [(cI, .int)] s) (hA : ∀ q, s.heap.size ≤ q → A q) {sv : Int32}
    (hB : B (wM a cI 0 0 sv 0 0 Zi Pm Ui zero2)) : ∀ (d i : Nat), i + d = 60 → ∀ (H : Heap) (locs : List Loc), zG D A s H locs (wM a cI 0 0 sv 0 0 Zi (mP i) zero2 zero2) → ∀ ls : Array Slot, lv_has ls 3 [(2, .int (nI i)), (0, .ref (a 0)), (1, .int many)] → W p l e R s m ([.ref h0, .int many] : List Value).toArray below meth c0 H locs 17 2500 (MQ below (zQK D A B) ([.ref h0, .int many] : List Value).toArray s 17 2500 A) (F0 m 193 ls []) := by
  have hx := E.1
  have hb := E.2.1
  intro d
  induction d with
  | zero =>
    intro i hi H locs G ls hl
    refine lv_iload_n hx hb d_M_init_193 rfl (lv_at hl 0 rfl) ?_
    refine lv_bipush (v := nI 60) hx hb d_M_init_194 (by decide) ?_
    refine lv_icmp_ge (tgt := 227) hx hb d_M_init_196 (by decide) (fun c_1 => ?_) (fun c_1 => absurd (nI_le (by omega) (by omega)) c_1)
    have hi : i = 60 := by omega
    subst hi
    refine lv_iconst (v := nI 0) hx hb d_M_init_227 (by decide) ?_
    refine lv_istore_n (lv' := [(2, .int (nI 0)), (0, .ref (a 0)), (1, .int many)]) hx hb d_M_init_228 rfl hl (by decide) rfl (fun ls hl => ?_)
    exact mk_M3 E hrt hlk hN hK hA hB 80 0 (by omega) H locs (by rw [fill2_0]; exact G) ls hl
  | succ d ih =>
    intro i hi H locs G ls hl
    refine lv_iload_n hx hb d_M_init_193 rfl (lv_at hl 0 rfl) ?_
    refine lv_bipush (v := nI 60) hx hb d_M_init_194 (by decide) ?_
    refine lv_icmp_ge (tgt := 227) hx hb d_M_init_196 (by decide) (fun c_1 => absurd c_1 (nI_ge (by omega) (by omega))) (fun c_1 => ?_)
    refine lv_aload_n hx hb d_M_init_199 rfl (lv_at hl 1 rfl) ?_
    refine z_get (v := .ref (a 4)) E hK G.1 i_M 0 7 rfl rfl (by decide) kf_M_19 rfl d_M_init_200 ?_
    refine lv_iload_n hx hb d_M_init_203 rfl (lv_at hl 0 rfl) ?_
    refine lv_iconst (v := 3) hx hb d_M_init_204 (by decide) ?_
    refine z_astN (f := mP i 1) (j := i) (ws' := wM a cI 0 0 sv 0 0 Zi (up2 (mP i) 1 i 3) zero2 zero2) E hK G 4 0 rfl rfl rfl (by omega) (by decide) rfl d_M_init_205 (fun H locs G => ?_)
    refine lv_aload_n hx hb d_M_init_206 rfl (lv_at hl 1 rfl) ?_
    refine z_get (v := .ref (a 5)) E hK G.1 i_M 0 8 rfl rfl (by decide) kf_M_22 rfl d_M_init_207 ?_
    refine lv_iload_n hx hb d_M_init_210 rfl (lv_at hl 0 rfl) ?_
    refine lv_bipush (v := 20) hx hb d_M_init_211 (by decide) ?_
    refine z_astN (f := up2 (mP i) 1 i 3 2) (j := i) (ws' := wM a cI 0 0 sv 0 0 Zi (up2 (up2 (mP i) 1 i 3) 2 i 20) zero2 zero2) E hK G 5 0 rfl rfl rfl (by omega) (by decide) rfl d_M_init_213 (fun H locs G => ?_)
    refine lv_aload_n hx hb d_M_init_214 rfl (lv_at hl 1 rfl) ?_
    refine z_get (v := .ref (a 7)) E hK G.1 i_M 0 10 rfl rfl (by decide) kf_M_28 rfl d_M_init_215 ?_
    refine lv_iload_n hx hb d_M_init_218 rfl (lv_at hl 0 rfl) ?_
    refine lv_iconst (v := (-1)) hx hb d_M_init_219 (by decide) ?_
    refine z_astN (f := up2 (up2 (mP i) 1 i 3) 2 i 20 3) (j := i) (ws' := wM a cI 0 0 sv 0 0 Zi (up2 (up2 (up2 (mP i) 1 i 3) 2 i 20) 3 i (-1)) zero2 zero2) E hK G 7 0 rfl rfl rfl (by omega) (by decide) rfl d_M_init_220 (fun H locs G => ?_)
    rw [mP_s] at G
    refine lv_iinc (v := nI (i + 1)) (lv' := [(2, .int (nI (i + 1))), (0, .ref (a 0)), (1, .int many)]) hx hb d_M_init_221 hl (k := 0) rfl (nI_1 _) (by decide) rfl (fun ls hl => ?_)
    refine lv_goto (tgt := 193) hx hb d_M_init_224 (by decide) ?_
    exact ih (i + 1) (by omega) H locs G ls hl
set_option maxHeartbeats 4000000 in
set_option maxRecDepth 100000 in
theorem mk_M1 (E : CallFix p m c0 b_M_init 3 s ([.ref h0, .int many] : List Value).toArray zB y_M_init.cls) (hrt : meth.sig.returnType = none) (hlk : meth.locks = false) (hN : zN s) (hK : va_K D vwCl [(cI, .int)] s) (hA : ∀ q, s.heap.size ≤ q → A q) {sv : Int32}
    (hB : B (wM a cI 0 0 sv 0 0 Zi Pm Ui zero2)) : ∀ (d i : Nat), i + d = 20 → ∀ (H : Heap) (locs : List Loc), zG D A s H locs (wM a cI 0 0 sv 0 0 (fill2 zero2 0 i (-1)) zero2 zero2 zero2) → ∀ ls : Array Slot, lv_has ls 3 [(2, .int (nI i)), (0, .ref (a 0)), (1, .int many)] → W p l e R s m ([.ref h0, .int many] : List Value).toArray below meth c0 H locs 17 2500 (MQ below (zQK D A B) ([.ref h0, .int many] : List Value).toArray s 17 2500 A) (F0 m 172 ls []) := by
  have hx := E.1
  have hb := E.2.1
  intro d
  induction d with
  | zero =>
    intro i hi H locs G ls hl
    refine lv_iload_n hx hb d_M_init_172 rfl (lv_at hl 0 rfl) ?_
    refine lv_bipush (v := nI 20) hx hb d_M_init_173 (by decide) ?_
    refine lv_icmp_ge (tgt := 191) hx hb d_M_init_175 (by decide) (fun c_1 => ?_) (fun c_1 => absurd (nI_le (by omega) (by omega)) c_1)
    have hi : i = 20 := by omega
    subst hi
    refine lv_iconst (v := nI 0) hx hb d_M_init_191 (by decide) ?_
    refine lv_istore_n (lv' := [(2, .int (nI 0)), (0, .ref (a 0)), (1, .int many)]) hx hb d_M_init_192 rfl hl (by decide) rfl (fun ls hl => ?_)
    exact mk_M2 E hrt hlk hN hK hA hB 60 0 (by omega) H locs (by rw [mP_0]; exact G) ls hl
  | succ d ih =>
    intro i hi H locs G ls hl
    refine lv_iload_n hx hb d_M_init_172 rfl (lv_at hl 0 rfl) ?_
    refine lv_bipush (v := nI 20) hx hb d_M_init_173 (by decide) ?_
    refine lv_icmp_ge (tgt := 191) hx hb d_M_init_175 (by decide) (fun c_1 => absurd c_1 (nI_ge (by omega) (by omega))) (fun c_1 => ?_)
    refine lv_aload_n hx hb d_M_init_178 rfl (lv_at hl 1 rfl) ?_
    refine z_get (v := .ref (a 1)) E hK G.1 i_M 0 3 rfl rfl (by decide) kf_M_7 rfl d_M_init_179 ?_
    refine lv_iload_n hx hb d_M_init_182 rfl (lv_at hl 0 rfl) ?_
    refine lv_iconst (v := (-1)) hx hb d_M_init_183 (by decide) ?_
    refine z_astN (f := fill2 zero2 0 i (-1) 0) (j := i) (ws' := wM a cI 0 0 sv 0 0 (up2 (fill2 zero2 0 i (-1)) 0 i (-1)) zero2 zero2 zero2) E hK G 1 0 rfl rfl rfl (by omega) (by decide) rfl d_M_init_184 (fun H locs G => ?_)
    rw [fill2_s] at G
    refine lv_iinc (v := nI (i + 1)) (lv' := [(2, .int (nI (i + 1))), (0, .ref (a 0)), (1, .int many)]) hx hb d_M_init_185 hl (k := 0) rfl (nI_1 _) (by decide) rfl (fun ls hl => ?_)
    refine lv_goto (tgt := 172) hx hb d_M_init_188 (by decide) ?_
    exact ih (i + 1) (by omega) H locs G ls hl
set_option maxHeartbeats 4000000 in
set_option maxRecDepth 100000 in
theorem mk_M0 (E : CallFix p m c0 b_M_init 3 s ([.ref h0, .int many] : List Value).toArray zB y_M_init.cls) (hrt : meth.sig.returnType = none) (hlk : meth.locks = false) (hmn : meth.name = "<init>") (hN : zN s) (hK : va_K D vwCl [(cI, .int)] s) (hA : ∀ q, s.heap.size ≤ q → A q)
    (hB : B (wM a cI 0 0 (mSeats many) 0 0 Zi Pm Ui zero2)) : ∀ (H : Heap) (locs : List Loc), zG D A s H locs (wM a cI 0 0 0 0 0 zero2 zero2 zero2 zero2) → ∀ ls : Array Slot, lv_has ls 3 [(0, .ref (a 0)), (1, .int many)] → W p l e R s m ([.ref h0, .int many] : List Value).toArray below meth c0 H locs 17 2500 (MQ below (zQK D A B) ([.ref h0, .int many] : List Value).toArray s 17 2500 A) (F0 m 146 ls []) := by
  have hx := E.1
  have hb := E.2.1
  intro H locs G ls hl
  have fin : ∀ sv : Int32, sv = mSeats many → W p l e R s m ([.ref h0, .int many] : List Value).toArray below meth c0 H locs 17 2500 (MQ below (zQK D A B) ([.ref h0, .int many] : List Value).toArray s 17 2500 A) (F0 m 167 ls [.int sv, .ref (a 0)]) := by
    intro sv hsv
    subst hsv
    refine z_putF (ty := .int) (ws' := wM a cI 0 0 (mSeats many) 0 0 zero2 zero2 zero2 zero2) E hK G i_M t_M t_M_ok n_M hmn 0 2 rfl rfl (by decide) kf_M_61 rfl rfl rfl rfl rfl (Nat.le_of_ble_eq_true rfl) rfl d_M_init_167 (fun H locs G => ?_)
    refine lv_iconst (v := nI 0) hx hb d_M_init_170 (by decide) ?_
    refine lv_istore_n (lv' := [(2, .int (nI 0)), (0, .ref (a 0)), (1, .int many)]) hx hb d_M_init_171 rfl hl (by decide) rfl (fun ls hl => ?_)
    exact mk_M1 E hrt hlk hN hK hA hB 20 0 (by omega) H locs (by rw [fill2_0]; exact G) ls hl
  refine lv_aload_n hx hb d_M_init_146 rfl (lv_at hl 0 rfl) ?_
  refine lv_iload_n hx hb d_M_init_147 rfl (lv_at hl 1 rfl) ?_
  refine lv_if_ge (tgt := 155) hx hb d_M_init_148 (by decide) (fun c_1 => ?_) (fun c_1 => ?_)
  · refine lv_iload_n hx hb d_M_init_155 rfl (lv_at hl 1 rfl) ?_
    refine lv_bipush (v := 20) hx hb d_M_init_156 (by decide) ?_
    refine lv_icmp_le (tgt := 166) hx hb d_M_init_158 (by decide) (fun c_2 => ?_) (fun c_2 => ?_)
    · refine lv_iload_n hx hb d_M_init_166 rfl (lv_at hl 1 rfl) ?_
      exact fin _ (by unfold mSeats; rw [if_pos c_1, if_pos c_2])
    · refine lv_bipush (v := 20) hx hb d_M_init_161 (by decide) ?_
      refine lv_goto (tgt := 167) hx hb d_M_init_163 (by decide) ?_
      exact fin _ (by unfold mSeats; rw [if_pos c_1, if_neg c_2])
  · refine lv_iconst (v := 0) hx hb d_M_init_151 (by decide) ?_
    refine lv_goto (tgt := 167) hx hb d_M_init_152 (by decide) ?_
    exact fin _ (by unfold mSeats; rw [if_neg c_1])
end MC
def Zc : Nat → Nat → Int32 := fun b => match b with
  | 0 => fillF (fun _ => 0) 20 (-1)
  | _ => fun _ => 0
def Pc0 : Nat → Nat → Int32 := fun b => match b with
  | 1 => fillF (fun _ => 0) 60 3
  | 2 => fillF (fun _ => 0) 60 20
  | _ => fun _ => 0
def Uc : Nat → Nat → Int32 := fun b => match b with
  | 3 => fillF (fun _ => 0) 80 (-1)
  | _ => fun _ => 0
def cSeats (x : Int32) : Int32 := if 0 < (if x < 20 then x else 20) then (if x < 20 then x else 20) else 0
set_option maxHeartbeats 4000000 in
set_option maxRecDepth 100000 in
theorem c_S_init (l : Launch) (D : va_G) (cI : ClassId) (h0 : Nat) (wanted : Int32) : zK l D [(cI, .int)] y_S_init b_S_init 2 1 23 2 80 [.ref h0, .int wanted] [(h0, .inr (3, [.int 0, .null, .null, .int 0]))] (fun w' => ∃ a : Nat → Nat, a 0 = h0 ∧ w' = wS a cI (cSeats wanted) 0 Zc) := by
  refine zK.of (by decide) (Nat.le_of_ble_eq_true rfl) rfl ?_
  intro p e s m below meth c0 ls A E hrt hlk hmn hN hK hA G hl
  have hx := E.1
  have hb := E.2.1
  have hl : lv_has ls 2 [(0, .ref h0), (1, .int wanted)] := hl
  refine lv_aload_n hx hb d_S_init_0 rfl (lv_at hl 0 rfl) ?_
  refine z_obj E hl.1 ko_S_3.1 ko_S_3.2.1 ko_S_3.2.2 d_S_init_1 (Nat.le_of_ble_eq_true rfl) (Nat.le_of_ble_eq_true rfl) (Nat.le_of_ble_eq_true rfl) ?_
  refine lv_aload_n hx hb d_S_init_4 rfl (lv_at hl 0 rfl) ?_
  refine lv_bipush (v := 20) hx hb d_S_init_5 (by decide) ?_
  refine z_newi (t0 := 0) (N := 20) E hK hA G ka_int rfl (by decide) (by decide) (by decide) (Nat.le_of_ble_eq_true rfl) (Nat.le_of_ble_eq_true rfl) d_S_init_7 (fun q1 H G => ?_)
  refine W.widen (k := 1) (n := 20) (Nat.le_of_ble_eq_true rfl) (Nat.le_of_ble_eq_true rfl) ?_
  have G : zG D A s H _ [(h0, .inr (3, [.int 0, .null, .null, .int 0])), (q1, .inl (cI, 20, .inl (fun _ => 0)))] := G
  refine z_putF (ws' := [(h0, .inr (3, [.int 0, .ref q1, .null, .int 0])), (q1, .inl (cI, 20, .inl (fun _ => 0)))]) E hK G i_S t_S t_S_ok n_S hmn 0 1 rfl rfl (by decide) kf_S_9 rfl rfl rfl rfl rfl (Nat.le_of_ble_eq_true rfl) rfl d_S_init_9 (fun H locs G => ?_)
  refine lv_aload_n hx hb d_S_init_12 rfl (lv_at hl 0 rfl) ?_
  refine lv_bipush (v := 60) hx hb d_S_init_13 (by decide) ?_
  refine z_newi (t0 := 0) (N := 60) E hK hA G ka_int rfl (by decide) (by decide) (by decide) (Nat.le_of_ble_eq_true rfl) (Nat.le_of_ble_eq_true rfl) d_S_init_15 (fun q2 H G => ?_)
  refine W.widen (k := 2) (n := 80) (Nat.le_of_ble_eq_true rfl) (Nat.le_of_ble_eq_true rfl) ?_
  have G : zG D A s H _ [(h0, .inr (3, [.int 0, .ref q1, .null, .int 0])), (q1, .inl (cI, 20, .inl (fun _ => 0))), (q2, .inl (cI, 60, .inl (fun _ => 0)))] := G
  refine z_putF (ws' := [(h0, .inr (3, [.int 0, .ref q1, .ref q2, .int 0])), (q1, .inl (cI, 20, .inl (fun _ => 0))), (q2, .inl (cI, 60, .inl (fun _ => 0)))]) E hK G i_S t_S t_S_ok n_S hmn 0 2 rfl rfl (by decide) kf_S_15 rfl rfl rfl rfl rfl (Nat.le_of_ble_eq_true rfl) rfl d_S_init_17 (fun H locs G => ?_)
  refine lv_aload_n hx hb d_S_init_20 rfl (lv_at hl 0 rfl) ?_
  refine lv_iconst (v := 0) hx hb d_S_init_21 (by decide) ?_
  refine lv_bipush (v := 20) hx hb d_S_init_22 (by decide) ?_
  refine lv_iload_n hx hb d_S_init_24 rfl (lv_at hl 1 rfl) ?_
  refine va_mmin hx hb (E.2.2.1.trans hl.1.symm) E.2.2.2.1 (E.2.2.2.2 _ km_S_18.1) (E.2.2.2.2 _ km_S_18.2.1) (E.2.2.2.2 _ km_S_18.2.2.1) (E.2.2.2.2 _ km_S_18.2.2.2) (Nat.le_of_ble_eq_true rfl) (Nat.le_of_ble_eq_true rfl) (Nat.le_of_ble_eq_true rfl) (Nat.le_of_ble_eq_true rfl) d_S_init_25 ?_
  refine va_mmax hx hb (E.2.2.1.trans hl.1.symm) E.2.2.2.1 (E.2.2.2.2 _ km_S_24.1) (E.2.2.2.2 _ km_S_24.2.1) (E.2.2.2.2 _ km_S_24.2.2.1) (E.2.2.2.2 _ km_S_24.2.2.2) (Nat.le_of_ble_eq_true rfl) (Nat.le_of_ble_eq_true rfl) (Nat.le_of_ble_eq_true rfl) (Nat.le_of_ble_eq_true rfl) d_S_init_28 ?_
  refine z_putF (ws' := [(h0, .inr (3, [.int (if 0 < (if wanted < 20 then wanted else 20) then (if wanted < 20 then wanted else 20) else 0), .ref q1, .ref q2, .int 0])), (q1, .inl (cI, 20, .inl (fun _ => 0))), (q2, .inl (cI, 60, .inl (fun _ => 0)))]) E hK G i_S t_S t_S_ok n_S hmn 0 0 rfl rfl (by decide) kf_S_27 rfl rfl rfl rfl rfl (Nat.le_of_ble_eq_true rfl) rfl d_S_init_31 (fun H locs G => ?_)
  refine lv_aload_n hx hb d_S_init_34 rfl (lv_at hl 0 rfl) ?_
  refine z_get (v := .ref q1) E hK G.1 i_S 0 1 rfl rfl (by decide) kf_S_9 rfl d_S_init_35 ?_
  refine lv_iconst (v := (-1)) hx hb d_S_init_38 (by decide) ?_
  refine z_ws (As := [.ref q1, .int (-1)]) (rest := []) (wr := [(h0, .inr (3, [.int (if 0 < (if wanted < 20 then wanted else 20) then (if wanted < 20 then wanted else 20) else 0), .ref q1, .ref q2, .int 0])), (q2, .inl (cI, 60, .inl (fun _ => 0)))]) (ws' := [(h0, .inr (3, [.int (if 0 < (if wanted < 20 then wanted else 20) then (if wanted < 20 then wanted else 20) else 0), .ref q1, .ref q2, .int 0])), (q1, .inl (cI, 20, .inl (fillF (fun _ => 0) 20 (-1)))), (q2, .inl (cI, 60, .inl (fun _ => 0)))]) E hN hK hA G hl.1 (c_fill l D cI q1 20 (fun _ => 0) (-1) (by decide)) [1] [0, 2] [0, 2, 1] rfl rfl rfl rfl rfl rfl (by decide) kz_S_31 rfl ⟨Nat.le_of_ble_eq_true rfl, Nat.le_of_ble_eq_true rfl⟩ rfl (Nat.le_of_ble_eq_true rfl) ⟨Nat.le_of_ble_eq_true rfl, Nat.le_of_ble_eq_true rfl⟩ d_S_init_39 (fun H locs G => ?_)
  refine W.eq (g2 := F0 m 42 ls []) rfl ?_
  exact zK.vret E hrt hlk G ⟨fun j => ([h0, q1, q2] : List Nat).getD j 0, rfl, rfl⟩ (Nat.le_of_ble_eq_true rfl) (Nat.le_of_ble_eq_true rfl) d_S_init_42
set_option maxHeartbeats 4000000 in
set_option maxRecDepth 100000 in
theorem c_R_init (l : Launch) (D : va_G) (cI : ClassId) (h0 : Nat)  : zK l D [(cI, .int)] y_R_init b_R_init 1 1 23 5 300 [.ref h0] [(h0, .inr (1, [.null, .null, .null, .null, .null]))] (fun w' => ∃ a : Nat → Nat, a 0 = h0 ∧ w' = wR a cI Pc0) := by
  refine zK.of (by decide) (Nat.le_of_ble_eq_true rfl) rfl ?_
  intro p e s m below meth c0 ls A E hrt hlk hmn hN hK hA G hl
  have hx := E.1
  have hb := E.2.1
  have hl : lv_has ls 1 [(0, .ref h0)] := hl
  refine lv_aload_n hx hb d_R_init_0 rfl (lv_at hl 0 rfl) ?_
  refine z_obj E hl.1 ko_R_3.1 ko_R_3.2.1 ko_R_3.2.2 d_R_init_1 (Nat.le_of_ble_eq_true rfl) (Nat.le_of_ble_eq_true rfl) (Nat.le_of_ble_eq_true rfl) ?_
  refine lv_aload_n hx hb d_R_init_4 rfl (lv_at hl 0 rfl) ?_
  refine lv_bipush (v := 60) hx hb d_R_init_5 (by decide) ?_
  refine z_newi (t0 := 0) (N := 60) E hK hA G ka_int rfl (by decide) (by decide) (by decide) (Nat.le_of_ble_eq_true rfl) (Nat.le_of_ble_eq_true rfl) d_R_init_7 (fun q1 H G => ?_)
  refine W.widen (k := 1) (n := 60) (Nat.le_of_ble_eq_true rfl) (Nat.le_of_ble_eq_true rfl) ?_
  have G : zG D A s H _ [(h0, .inr (1, [.null, .null, .null, .null, .null])), (q1, .inl (cI, 60, .inl (fun _ => 0)))] := G
  refine z_putF (ws' := [(h0, .inr (1, [.ref q1, .null, .null, .null, .null])), (q1, .inl (cI, 60, .inl (fun _ => 0)))]) E hK G i_R t_R t_R_ok n_R hmn 0 0 rfl rfl (by decide) kf_R_9 rfl rfl rfl rfl rfl (Nat.le_of_ble_eq_true rfl) rfl d_R_init_9 (fun H locs G => ?_)
  refine lv_aload_n hx hb d_R_init_12 rfl (lv_at hl 0 rfl) ?_
  refine lv_bipush (v := 60) hx hb d_R_init_13 (by decide) ?_
  refine z_newi (t0 := 0) (N := 60) E hK hA G ka_int rfl (by decide) (by decide) (by decide) (Nat.le_of_ble_eq_true rfl) (Nat.le_of_ble_eq_true rfl) d_R_init_15 (fun q2 H G => ?_)
  refine W.widen (k := 2) (n := 120) (Nat.le_of_ble_eq_true rfl) (Nat.le_of_ble_eq_true rfl) ?_
  have G : zG D A s H _ [(h0, .inr (1, [.ref q1, .null, .null, .null, .null])), (q1, .inl (cI, 60, .inl (fun _ => 0))), (q2, .inl (cI, 60, .inl (fun _ => 0)))] := G
  refine z_putF (ws' := [(h0, .inr (1, [.ref q1, .ref q2, .null, .null, .null])), (q1, .inl (cI, 60, .inl (fun _ => 0))), (q2, .inl (cI, 60, .inl (fun _ => 0)))]) E hK G i_R t_R t_R_ok n_R hmn 0 1 rfl rfl (by decide) kf_R_15 rfl rfl rfl rfl rfl (Nat.le_of_ble_eq_true rfl) rfl d_R_init_17 (fun H locs G => ?_)
  refine lv_aload_n hx hb d_R_init_20 rfl (lv_at hl 0 rfl) ?_
  refine lv_bipush (v := 60) hx hb d_R_init_21 (by decide) ?_
  refine z_newi (t0 := 0) (N := 60) E hK hA G ka_int rfl (by decide) (by decide) (by decide) (Nat.le_of_ble_eq_true rfl) (Nat.le_of_ble_eq_true rfl) d_R_init_23 (fun q3 H G => ?_)
  refine W.widen (k := 3) (n := 180) (Nat.le_of_ble_eq_true rfl) (Nat.le_of_ble_eq_true rfl) ?_
  have G : zG D A s H _ [(h0, .inr (1, [.ref q1, .ref q2, .null, .null, .null])), (q1, .inl (cI, 60, .inl (fun _ => 0))), (q2, .inl (cI, 60, .inl (fun _ => 0))), (q3, .inl (cI, 60, .inl (fun _ => 0)))] := G
  refine z_putF (ws' := [(h0, .inr (1, [.ref q1, .ref q2, .ref q3, .null, .null])), (q1, .inl (cI, 60, .inl (fun _ => 0))), (q2, .inl (cI, 60, .inl (fun _ => 0))), (q3, .inl (cI, 60, .inl (fun _ => 0)))]) E hK G i_R t_R t_R_ok n_R hmn 0 2 rfl rfl (by decide) kf_R_18 rfl rfl rfl rfl rfl (Nat.le_of_ble_eq_true rfl) rfl d_R_init_25 (fun H locs G => ?_)
  refine lv_aload_n hx hb d_R_init_28 rfl (lv_at hl 0 rfl) ?_
  refine lv_bipush (v := 60) hx hb d_R_init_29 (by decide) ?_
  refine z_newi (t0 := 0) (N := 60) E hK hA G ka_int rfl (by decide) (by decide) (by decide) (Nat.le_of_ble_eq_true rfl) (Nat.le_of_ble_eq_true rfl) d_R_init_31 (fun q4 H G => ?_)
  refine W.widen (k := 4) (n := 240) (Nat.le_of_ble_eq_true rfl) (Nat.le_of_ble_eq_true rfl) ?_
  have G : zG D A s H _ [(h0, .inr (1, [.ref q1, .ref q2, .ref q3, .null, .null])), (q1, .inl (cI, 60, .inl (fun _ => 0))), (q2, .inl (cI, 60, .inl (fun _ => 0))), (q3, .inl (cI, 60, .inl (fun _ => 0))), (q4, .inl (cI, 60, .inl (fun _ => 0)))] := G
  refine z_putF (ws' := [(h0, .inr (1, [.ref q1, .ref q2, .ref q3, .ref q4, .null])), (q1, .inl (cI, 60, .inl (fun _ => 0))), (q2, .inl (cI, 60, .inl (fun _ => 0))), (q3, .inl (cI, 60, .inl (fun _ => 0))), (q4, .inl (cI, 60, .inl (fun _ => 0)))]) E hK G i_R t_R t_R_ok n_R hmn 0 3 rfl rfl (by decide) kf_R_21 rfl rfl rfl rfl rfl (Nat.le_of_ble_eq_true rfl) rfl d_R_init_33 (fun H locs G => ?_)
  refine lv_aload_n hx hb d_R_init_36 rfl (lv_at hl 0 rfl) ?_
  refine lv_bipush (v := 60) hx hb d_R_init_37 (by decide) ?_
  refine z_newi (t0 := 0) (N := 60) E hK hA G ka_int rfl (by decide) (by decide) (by decide) (Nat.le_of_ble_eq_true rfl) (Nat.le_of_ble_eq_true rfl) d_R_init_39 (fun q5 H G => ?_)
  refine W.widen (k := 5) (n := 300) (Nat.le_of_ble_eq_true rfl) (Nat.le_of_ble_eq_true rfl) ?_
  have G : zG D A s H _ [(h0, .inr (1, [.ref q1, .ref q2, .ref q3, .ref q4, .null])), (q1, .inl (cI, 60, .inl (fun _ => 0))), (q2, .inl (cI, 60, .inl (fun _ => 0))), (q3, .inl (cI, 60, .inl (fun _ => 0))), (q4, .inl (cI, 60, .inl (fun _ => 0))), (q5, .inl (cI, 60, .inl (fun _ => 0)))] := G
  refine z_putF (ws' := [(h0, .inr (1, [.ref q1, .ref q2, .ref q3, .ref q4, .ref q5])), (q1, .inl (cI, 60, .inl (fun _ => 0))), (q2, .inl (cI, 60, .inl (fun _ => 0))), (q3, .inl (cI, 60, .inl (fun _ => 0))), (q4, .inl (cI, 60, .inl (fun _ => 0))), (q5, .inl (cI, 60, .inl (fun _ => 0)))]) E hK G i_R t_R t_R_ok n_R hmn 0 4 rfl rfl (by decide) kf_R_24 rfl rfl rfl rfl rfl (Nat.le_of_ble_eq_true rfl) rfl d_R_init_41 (fun H locs G => ?_)
  refine lv_aload_n hx hb d_R_init_44 rfl (lv_at hl 0 rfl) ?_
  refine z_get (v := .ref q2) E hK G.1 i_R 0 1 rfl rfl (by decide) kf_R_15 rfl d_R_init_45 ?_
  refine lv_iconst (v := 3) hx hb d_R_init_48 (by decide) ?_
  refine z_ws (As := [.ref q2, .int 3]) (rest := []) (wr := [(h0, .inr (1, [.ref q1, .ref q2, .ref q3, .ref q4, .ref q5])), (q1, .inl (cI, 60, .inl (fun _ => 0))), (q3, .inl (cI, 60, .inl (fun _ => 0))), (q4, .inl (cI, 60, .inl (fun _ => 0))), (q5, .inl (cI, 60, .inl (fun _ => 0)))]) (ws' := [(h0, .inr (1, [.ref q1, .ref q2, .ref q3, .ref q4, .ref q5])), (q1, .inl (cI, 60, .inl (fun _ => 0))), (q2, .inl (cI, 60, .inl (fillF (fun _ => 0) 60 3))), (q3, .inl (cI, 60, .inl (fun _ => 0))), (q4, .inl (cI, 60, .inl (fun _ => 0))), (q5, .inl (cI, 60, .inl (fun _ => 0)))]) E hN hK hA G hl.1 (c_fill l D cI q2 60 (fun _ => 0) 3 (by decide)) [2] [0, 1, 3, 4, 5] [0, 1, 5, 2, 3, 4] rfl rfl rfl rfl rfl rfl (by decide) kz_R_27 rfl ⟨Nat.le_of_ble_eq_true rfl, Nat.le_of_ble_eq_true rfl⟩ rfl (Nat.le_of_ble_eq_true rfl) ⟨Nat.le_of_ble_eq_true rfl, Nat.le_of_ble_eq_true rfl⟩ d_R_init_49 (fun H locs G => ?_)
  refine W.eq (g2 := F0 m 52 ls []) rfl ?_
  refine lv_aload_n hx hb d_R_init_52 rfl (lv_at hl 0 rfl) ?_
  refine z_get (v := .ref q3) E hK G.1 i_R 0 2 rfl rfl (by decide) kf_R_18 rfl d_R_init_53 ?_
  refine lv_bipush (v := 20) hx hb d_R_init_56 (by decide) ?_
  refine z_ws (As := [.ref q3, .int 20]) (rest := []) (wr := [(h0, .inr (1, [.ref q1, .ref q2, .ref q3, .ref q4, .ref q5])), (q1, .inl (cI, 60, .inl (fun _ => 0))), (q2, .inl (cI, 60, .inl (fillF (fun _ => 0) 60 3))), (q4, .inl (cI, 60, .inl (fun _ => 0))), (q5, .inl (cI, 60, .inl (fun _ => 0)))]) (ws' := [(h0, .inr (1, [.ref q1, .ref q2, .ref q3, .ref q4, .ref q5])), (q1, .inl (cI, 60, .inl (fun _ => 0))), (q2, .inl (cI, 60, .inl (fillF (fun _ => 0) 60 3))), (q3, .inl (cI, 60, .inl (fillF (fun _ => 0) 60 20))), (q4, .inl (cI, 60, .inl (fun _ => 0))), (q5, .inl (cI, 60, .inl (fun _ => 0)))]) E hN hK hA G hl.1 (c_fill l D cI q3 60 (fun _ => 0) 20 (by decide)) [3] [0, 1, 2, 4, 5] [0, 1, 2, 5, 3, 4] rfl rfl rfl rfl rfl rfl (by decide) kz_R_27 rfl ⟨Nat.le_of_ble_eq_true rfl, Nat.le_of_ble_eq_true rfl⟩ rfl (Nat.le_of_ble_eq_true rfl) ⟨Nat.le_of_ble_eq_true rfl, Nat.le_of_ble_eq_true rfl⟩ d_R_init_58 (fun H locs G => ?_)
  refine W.eq (g2 := F0 m 61 ls []) rfl ?_
  exact zK.vret E hrt hlk G ⟨fun j => ([h0, q1, q2, q3, q4, q5] : List Nat).getD j 0, rfl, rfl⟩ (Nat.le_of_ble_eq_true rfl) (Nat.le_of_ble_eq_true rfl) d_R_init_61
set_option maxHeartbeats 4000000 in
set_option maxRecDepth 100000 in
theorem c_H_init (l : Launch) (D : va_G) (cI : ClassId) (h0 : Nat)  : zK l D [(cI, .int)] y_H_init b_H_init 1 1 23 4 320 [.ref h0] [(h0, .inr (0, [.null, .null, .null, .null]))] (fun w' => ∃ a : Nat → Nat, a 0 = h0 ∧ w' = wH a cI Uc) := by
  refine zK.of (by decide) (Nat.le_of_ble_eq_true rfl) rfl ?_
  intro p e s m below meth c0 ls A E hrt hlk hmn hN hK hA G hl
  have hx := E.1
  have hb := E.2.1
  have hl : lv_has ls 1 [(0, .ref h0)] := hl
  refine lv_aload_n hx hb d_H_init_0 rfl (lv_at hl 0 rfl) ?_
  refine z_obj E hl.1 ko_H_3.1 ko_H_3.2.1 ko_H_3.2.2 d_H_init_1 (Nat.le_of_ble_eq_true rfl) (Nat.le_of_ble_eq_true rfl) (Nat.le_of_ble_eq_true rfl) ?_
  refine lv_aload_n hx hb d_H_init_4 rfl (lv_at hl 0 rfl) ?_
  refine lv_bipush (v := 80) hx hb d_H_init_5 (by decide) ?_
  refine z_newi (t0 := 0) (N := 80) E hK hA G ka_int rfl (by decide) (by decide) (by decide) (Nat.le_of_ble_eq_true rfl) (Nat.le_of_ble_eq_true rfl) d_H_init_7 (fun q1 H G => ?_)
  refine W.widen (k := 1) (n := 80) (Nat.le_of_ble_eq_true rfl) (Nat.le_of_ble_eq_true rfl) ?_
  have G : zG D A s H _ [(h0, .inr (0, [.null, .null, .null, .null])), (q1, .inl (cI, 80, .inl (fun _ => 0)))] := G
  refine z_putF (ws' := [(h0, .inr (0, [.ref q1, .null, .null, .null])), (q1, .inl (cI, 80, .inl (fun _ => 0)))]) E hK G i_H t_H t_H_ok n_H hmn 0 0 rfl rfl (by decide) kf_H_9 rfl rfl rfl rfl rfl (Nat.le_of_ble_eq_true rfl) rfl d_H_init_9 (fun H locs G => ?_)
  refine lv_aload_n hx hb d_H_init_12 rfl (lv_at hl 0 rfl) ?_
  refine lv_bipush (v := 80) hx hb d_H_init_13 (by decide) ?_
  refine z_newi (t0 := 0) (N := 80) E hK hA G ka_int rfl (by decide) (by decide) (by decide) (Nat.le_of_ble_eq_true rfl) (Nat.le_of_ble_eq_true rfl) d_H_init_15 (fun q2 H G => ?_)
  refine W.widen (k := 2) (n := 160) (Nat.le_of_ble_eq_true rfl) (Nat.le_of_ble_eq_true rfl) ?_
  have G : zG D A s H _ [(h0, .inr (0, [.ref q1, .null, .null, .null])), (q1, .inl (cI, 80, .inl (fun _ => 0))), (q2, .inl (cI, 80, .inl (fun _ => 0)))] := G
  refine z_putF (ws' := [(h0, .inr (0, [.ref q1, .ref q2, .null, .null])), (q1, .inl (cI, 80, .inl (fun _ => 0))), (q2, .inl (cI, 80, .inl (fun _ => 0)))]) E hK G i_H t_H t_H_ok n_H hmn 0 1 rfl rfl (by decide) kf_H_15 rfl rfl rfl rfl rfl (Nat.le_of_ble_eq_true rfl) rfl d_H_init_17 (fun H locs G => ?_)
  refine lv_aload_n hx hb d_H_init_20 rfl (lv_at hl 0 rfl) ?_
  refine lv_bipush (v := 80) hx hb d_H_init_21 (by decide) ?_
  refine z_newi (t0 := 0) (N := 80) E hK hA G ka_int rfl (by decide) (by decide) (by decide) (Nat.le_of_ble_eq_true rfl) (Nat.le_of_ble_eq_true rfl) d_H_init_23 (fun q3 H G => ?_)
  refine W.widen (k := 3) (n := 240) (Nat.le_of_ble_eq_true rfl) (Nat.le_of_ble_eq_true rfl) ?_
  have G : zG D A s H _ [(h0, .inr (0, [.ref q1, .ref q2, .null, .null])), (q1, .inl (cI, 80, .inl (fun _ => 0))), (q2, .inl (cI, 80, .inl (fun _ => 0))), (q3, .inl (cI, 80, .inl (fun _ => 0)))] := G
  refine z_putF (ws' := [(h0, .inr (0, [.ref q1, .ref q2, .ref q3, .null])), (q1, .inl (cI, 80, .inl (fun _ => 0))), (q2, .inl (cI, 80, .inl (fun _ => 0))), (q3, .inl (cI, 80, .inl (fun _ => 0)))]) E hK G i_H t_H t_H_ok n_H hmn 0 2 rfl rfl (by decide) kf_H_18 rfl rfl rfl rfl rfl (Nat.le_of_ble_eq_true rfl) rfl d_H_init_25 (fun H locs G => ?_)
  refine lv_aload_n hx hb d_H_init_28 rfl (lv_at hl 0 rfl) ?_
  refine lv_bipush (v := 80) hx hb d_H_init_29 (by decide) ?_
  refine z_newi (t0 := 0) (N := 80) E hK hA G ka_int rfl (by decide) (by decide) (by decide) (Nat.le_of_ble_eq_true rfl) (Nat.le_of_ble_eq_true rfl) d_H_init_31 (fun q4 H G => ?_)
  refine W.widen (k := 4) (n := 320) (Nat.le_of_ble_eq_true rfl) (Nat.le_of_ble_eq_true rfl) ?_
  have G : zG D A s H _ [(h0, .inr (0, [.ref q1, .ref q2, .ref q3, .null])), (q1, .inl (cI, 80, .inl (fun _ => 0))), (q2, .inl (cI, 80, .inl (fun _ => 0))), (q3, .inl (cI, 80, .inl (fun _ => 0))), (q4, .inl (cI, 80, .inl (fun _ => 0)))] := G
  refine z_putF (ws' := [(h0, .inr (0, [.ref q1, .ref q2, .ref q3, .ref q4])), (q1, .inl (cI, 80, .inl (fun _ => 0))), (q2, .inl (cI, 80, .inl (fun _ => 0))), (q3, .inl (cI, 80, .inl (fun _ => 0))), (q4, .inl (cI, 80, .inl (fun _ => 0)))]) E hK G i_H t_H t_H_ok n_H hmn 0 3 rfl rfl (by decide) kf_H_21 rfl rfl rfl rfl rfl (Nat.le_of_ble_eq_true rfl) rfl d_H_init_33 (fun H locs G => ?_)
  refine lv_aload_n hx hb d_H_init_36 rfl (lv_at hl 0 rfl) ?_
  refine z_get (v := .ref q4) E hK G.1 i_H 0 3 rfl rfl (by decide) kf_H_21 rfl d_H_init_37 ?_
  refine lv_iconst (v := (-1)) hx hb d_H_init_40 (by decide) ?_
  refine z_ws (As := [.ref q4, .int (-1)]) (rest := []) (wr := [(h0, .inr (0, [.ref q1, .ref q2, .ref q3, .ref q4])), (q1, .inl (cI, 80, .inl (fun _ => 0))), (q2, .inl (cI, 80, .inl (fun _ => 0))), (q3, .inl (cI, 80, .inl (fun _ => 0)))]) (ws' := [(h0, .inr (0, [.ref q1, .ref q2, .ref q3, .ref q4])), (q1, .inl (cI, 80, .inl (fun _ => 0))), (q2, .inl (cI, 80, .inl (fun _ => 0))), (q3, .inl (cI, 80, .inl (fun _ => 0))), (q4, .inl (cI, 80, .inl (fillF (fun _ => 0) 80 (-1))))]) E hN hK hA G hl.1 (c_fill l D cI q4 80 (fun _ => 0) (-1) (by decide)) [4] [0, 1, 2, 3] [0, 1, 2, 3, 4] rfl rfl rfl rfl rfl rfl (by decide) kz_H_24 rfl ⟨Nat.le_of_ble_eq_true rfl, Nat.le_of_ble_eq_true rfl⟩ rfl (Nat.le_of_ble_eq_true rfl) ⟨Nat.le_of_ble_eq_true rfl, Nat.le_of_ble_eq_true rfl⟩ d_H_init_41 (fun H locs G => ?_)
  refine W.eq (g2 := F0 m 44 ls []) rfl ?_
  exact zK.vret E hrt hlk G ⟨fun j => ([h0, q1, q2, q3, q4] : List Nat).getD j 0, rfl, rfl⟩ (Nat.le_of_ble_eq_true rfl) (Nat.le_of_ble_eq_true rfl) d_H_init_44
set_option maxHeartbeats 4000000 in
set_option maxRecDepth 100000 in
theorem c_Q_init (l : Launch) (D : va_G) (cI : ClassId) (h0 : Nat)  : zK l D [(cI, .int)] y_Q_init b_Q_init 1 1 23 6 1800 [.ref h0] [(h0, .inr (2, [.null, .null, .null, .null, .null, .null, .int 0]))] (fun w' => ∃ a : Nat → Nat, a 0 = h0 ∧ w' = wQ a cI 0 zero2) := by
  refine zK.of (by decide) (Nat.le_of_ble_eq_true rfl) rfl ?_
  intro p e s m below meth c0 ls A E hrt hlk hmn hN hK hA G hl
  have hx := E.1
  have hb := E.2.1
  have hl : lv_has ls 1 [(0, .ref h0)] := hl
  refine lv_aload_n hx hb d_Q_init_0 rfl (lv_at hl 0 rfl) ?_
  refine z_obj E hl.1 ko_Q_3.1 ko_Q_3.2.1 ko_Q_3.2.2 d_Q_init_1 (Nat.le_of_ble_eq_true rfl) (Nat.le_of_ble_eq_true rfl) (Nat.le_of_ble_eq_true rfl) ?_
  refine lv_aload_n hx hb d_Q_init_4 rfl (lv_at hl 0 rfl) ?_
  refine lv_sipush (v := 300) hx hb d_Q_init_5 (by decide) ?_
  refine z_newi (t0 := 0) (N := 300) E hK hA G ka_int rfl (by decide) (by decide) (by decide) (Nat.le_of_ble_eq_true rfl) (Nat.le_of_ble_eq_true rfl) d_Q_init_8 (fun q1 H G => ?_)
  refine W.widen (k := 1) (n := 300) (Nat.le_of_ble_eq_true rfl) (Nat.le_of_ble_eq_true rfl) ?_
  have G : zG D A s H _ [(h0, .inr (2, [.null, .null, .null, .null, .null, .null, .int 0])), (q1, .inl (cI, 300, .inl (fun _ => 0)))] := G
  refine z_putF (ws' := [(h0, .inr (2, [.ref q1, .null, .null, .null, .null, .null, .int 0])), (q1, .inl (cI, 300, .inl (fun _ => 0)))]) E hK G i_Q t_Q t_Q_ok n_Q hmn 0 0 rfl rfl (by decide) kf_Q_9 rfl rfl rfl rfl rfl (Nat.le_of_ble_eq_true rfl) rfl d_Q_init_10 (fun H locs G => ?_)
  refine lv_aload_n hx hb d_Q_init_13 rfl (lv_at hl 0 rfl) ?_
  refine lv_sipush (v := 300) hx hb d_Q_init_14 (by decide) ?_
  refine z_newi (t0 := 0) (N := 300) E hK hA G ka_int rfl (by decide) (by decide) (by decide) (Nat.le_of_ble_eq_true rfl) (Nat.le_of_ble_eq_true rfl) d_Q_init_17 (fun q2 H G => ?_)
  refine W.widen (k := 2) (n := 600) (Nat.le_of_ble_eq_true rfl) (Nat.le_of_ble_eq_true rfl) ?_
  have G : zG D A s H _ [(h0, .inr (2, [.ref q1, .null, .null, .null, .null, .null, .int 0])), (q1, .inl (cI, 300, .inl (fun _ => 0))), (q2, .inl (cI, 300, .inl (fun _ => 0)))] := G
  refine z_putF (ws' := [(h0, .inr (2, [.ref q1, .ref q2, .null, .null, .null, .null, .int 0])), (q1, .inl (cI, 300, .inl (fun _ => 0))), (q2, .inl (cI, 300, .inl (fun _ => 0)))]) E hK G i_Q t_Q t_Q_ok n_Q hmn 0 1 rfl rfl (by decide) kf_Q_15 rfl rfl rfl rfl rfl (Nat.le_of_ble_eq_true rfl) rfl d_Q_init_19 (fun H locs G => ?_)
  refine lv_aload_n hx hb d_Q_init_22 rfl (lv_at hl 0 rfl) ?_
  refine lv_sipush (v := 300) hx hb d_Q_init_23 (by decide) ?_
  refine z_newi (t0 := 0) (N := 300) E hK hA G ka_int rfl (by decide) (by decide) (by decide) (Nat.le_of_ble_eq_true rfl) (Nat.le_of_ble_eq_true rfl) d_Q_init_26 (fun q3 H G => ?_)
  refine W.widen (k := 3) (n := 900) (Nat.le_of_ble_eq_true rfl) (Nat.le_of_ble_eq_true rfl) ?_
  have G : zG D A s H _ [(h0, .inr (2, [.ref q1, .ref q2, .null, .null, .null, .null, .int 0])), (q1, .inl (cI, 300, .inl (fun _ => 0))), (q2, .inl (cI, 300, .inl (fun _ => 0))), (q3, .inl (cI, 300, .inl (fun _ => 0)))] := G
  refine z_putF (ws' := [(h0, .inr (2, [.ref q1, .ref q2, .ref q3, .null, .null, .null, .int 0])), (q1, .inl (cI, 300, .inl (fun _ => 0))), (q2, .inl (cI, 300, .inl (fun _ => 0))), (q3, .inl (cI, 300, .inl (fun _ => 0)))]) E hK G i_Q t_Q t_Q_ok n_Q hmn 0 2 rfl rfl (by decide) kf_Q_18 rfl rfl rfl rfl rfl (Nat.le_of_ble_eq_true rfl) rfl d_Q_init_28 (fun H locs G => ?_)
  refine lv_aload_n hx hb d_Q_init_31 rfl (lv_at hl 0 rfl) ?_
  refine lv_sipush (v := 300) hx hb d_Q_init_32 (by decide) ?_
  refine z_newi (t0 := 0) (N := 300) E hK hA G ka_int rfl (by decide) (by decide) (by decide) (Nat.le_of_ble_eq_true rfl) (Nat.le_of_ble_eq_true rfl) d_Q_init_35 (fun q4 H G => ?_)
  refine W.widen (k := 4) (n := 1200) (Nat.le_of_ble_eq_true rfl) (Nat.le_of_ble_eq_true rfl) ?_
  have G : zG D A s H _ [(h0, .inr (2, [.ref q1, .ref q2, .ref q3, .null, .null, .null, .int 0])), (q1, .inl (cI, 300, .inl (fun _ => 0))), (q2, .inl (cI, 300, .inl (fun _ => 0))), (q3, .inl (cI, 300, .inl (fun _ => 0))), (q4, .inl (cI, 300, .inl (fun _ => 0)))] := G
  refine z_putF (ws' := [(h0, .inr (2, [.ref q1, .ref q2, .ref q3, .ref q4, .null, .null, .int 0])), (q1, .inl (cI, 300, .inl (fun _ => 0))), (q2, .inl (cI, 300, .inl (fun _ => 0))), (q3, .inl (cI, 300, .inl (fun _ => 0))), (q4, .inl (cI, 300, .inl (fun _ => 0)))]) E hK G i_Q t_Q t_Q_ok n_Q hmn 0 3 rfl rfl (by decide) kf_Q_21 rfl rfl rfl rfl rfl (Nat.le_of_ble_eq_true rfl) rfl d_Q_init_37 (fun H locs G => ?_)
  refine lv_aload_n hx hb d_Q_init_40 rfl (lv_at hl 0 rfl) ?_
  refine lv_sipush (v := 300) hx hb d_Q_init_41 (by decide) ?_
  refine z_newi (t0 := 0) (N := 300) E hK hA G ka_int rfl (by decide) (by decide) (by decide) (Nat.le_of_ble_eq_true rfl) (Nat.le_of_ble_eq_true rfl) d_Q_init_44 (fun q5 H G => ?_)
  refine W.widen (k := 5) (n := 1500) (Nat.le_of_ble_eq_true rfl) (Nat.le_of_ble_eq_true rfl) ?_
  have G : zG D A s H _ [(h0, .inr (2, [.ref q1, .ref q2, .ref q3, .ref q4, .null, .null, .int 0])), (q1, .inl (cI, 300, .inl (fun _ => 0))), (q2, .inl (cI, 300, .inl (fun _ => 0))), (q3, .inl (cI, 300, .inl (fun _ => 0))), (q4, .inl (cI, 300, .inl (fun _ => 0))), (q5, .inl (cI, 300, .inl (fun _ => 0)))] := G
  refine z_putF (ws' := [(h0, .inr (2, [.ref q1, .ref q2, .ref q3, .ref q4, .ref q5, .null, .int 0])), (q1, .inl (cI, 300, .inl (fun _ => 0))), (q2, .inl (cI, 300, .inl (fun _ => 0))), (q3, .inl (cI, 300, .inl (fun _ => 0))), (q4, .inl (cI, 300, .inl (fun _ => 0))), (q5, .inl (cI, 300, .inl (fun _ => 0)))]) E hK G i_Q t_Q t_Q_ok n_Q hmn 0 4 rfl rfl (by decide) kf_Q_24 rfl rfl rfl rfl rfl (Nat.le_of_ble_eq_true rfl) rfl d_Q_init_46 (fun H locs G => ?_)
  refine lv_aload_n hx hb d_Q_init_49 rfl (lv_at hl 0 rfl) ?_
  refine lv_sipush (v := 300) hx hb d_Q_init_50 (by decide) ?_
  refine z_newi (t0 := 0) (N := 300) E hK hA G ka_int rfl (by decide) (by decide) (by decide) (Nat.le_of_ble_eq_true rfl) (Nat.le_of_ble_eq_true rfl) d_Q_init_53 (fun q6 H G => ?_)
  refine W.widen (k := 6) (n := 1800) (Nat.le_of_ble_eq_true rfl) (Nat.le_of_ble_eq_true rfl) ?_
  have G : zG D A s H _ [(h0, .inr (2, [.ref q1, .ref q2, .ref q3, .ref q4, .ref q5, .null, .int 0])), (q1, .inl (cI, 300, .inl (fun _ => 0))), (q2, .inl (cI, 300, .inl (fun _ => 0))), (q3, .inl (cI, 300, .inl (fun _ => 0))), (q4, .inl (cI, 300, .inl (fun _ => 0))), (q5, .inl (cI, 300, .inl (fun _ => 0))), (q6, .inl (cI, 300, .inl (fun _ => 0)))] := G
  refine z_putF (ws' := [(h0, .inr (2, [.ref q1, .ref q2, .ref q3, .ref q4, .ref q5, .ref q6, .int 0])), (q1, .inl (cI, 300, .inl (fun _ => 0))), (q2, .inl (cI, 300, .inl (fun _ => 0))), (q3, .inl (cI, 300, .inl (fun _ => 0))), (q4, .inl (cI, 300, .inl (fun _ => 0))), (q5, .inl (cI, 300, .inl (fun _ => 0))), (q6, .inl (cI, 300, .inl (fun _ => 0)))]) E hK G i_Q t_Q t_Q_ok n_Q hmn 0 5 rfl rfl (by decide) kf_Q_27 rfl rfl rfl rfl rfl (Nat.le_of_ble_eq_true rfl) rfl d_Q_init_55 (fun H locs G => ?_)
  exact zK.vret E hrt hlk G ⟨fun j => ([h0, q1, q2, q3, q4, q5, q6] : List Nat).getD j 0, rfl, rfl⟩ (Nat.le_of_ble_eq_true rfl) (Nat.le_of_ble_eq_true rfl) d_Q_init_58
set_option maxHeartbeats 4000000 in
set_option maxRecDepth 100000 in
theorem c_X_init (l : Launch) (D : va_G) (cI : ClassId) (h0 : Nat) (seats : Int32) : zK l D [(cI, .int)] y_X_init b_X_init 2 2 44 21 2520 [.ref h0, .int seats] [(h0, .inr (4, [.null, .null, .null, .null, .int 0]))] (fun w' => ∃ a : Nat → Nat, a 0 = h0 ∧ w' = wX a cI 0 (cSeats seats) 0 0 Zc Pc0 Uc zero2) := by
  refine zK.of (by decide) (Nat.le_of_ble_eq_true rfl) rfl ?_
  intro p e s m below meth c0 ls A E hrt hlk hmn hN hK hA G hl
  have hx := E.1
  have hb := E.2.1
  have hl : lv_has ls 2 [(0, .ref h0), (1, .int seats)] := hl
  refine lv_aload_n hx hb d_X_init_0 rfl (lv_at hl 0 rfl) ?_
  refine z_obj E hl.1 ko_X_1.1 ko_X_1.2.1 ko_X_1.2.2 d_X_init_1 (Nat.le_of_ble_eq_true rfl) (Nat.le_of_ble_eq_true rfl) (Nat.le_of_ble_eq_true rfl) ?_
  refine lv_aload_n hx hb d_X_init_4 rfl (lv_at hl 0 rfl) ?_
  refine z_new (ci := 3) (fs := [.int 0, .null, .null, .int 0]) E hK hA G i_S t_S t_S_ok kn_X_7.1 kn_X_7.2.1 kn_X_7.2.2 rfl (fun j hj => by rcases (show j = 0 ∨ j = 1 ∨ j = 2 ∨ j = 3 by omega) with rfl | rfl | rfl | rfl <;> rfl) (Nat.le_of_ble_eq_true rfl) (Nat.le_of_ble_eq_true rfl) d_X_init_5 (fun q1 H G => ?_)
  refine W.widen (k := 1) (n := 4) (Nat.le_of_ble_eq_true rfl) (Nat.le_of_ble_eq_true rfl) ?_
  have G : zG D A s H _ [(h0, .inr (4, [.null, .null, .null, .null, .int 0])), (q1, .inr (3, [.int 0, .null, .null, .int 0]))] := G
  refine lv_dup hx hb d_X_init_8 rfl ?_
  refine lv_iload_n hx hb d_X_init_9 rfl (lv_at hl 1 rfl) ?_
  refine z_ki (As := [.int seats]) (rest := [.ref q1, .ref h0]) (wr := [(h0, .inr (4, [.null, .null, .null, .null, .int 0]))]) E hN hK hA G hl.1 (c_S_init l D cI q1 seats) [1] [0] rfl rfl rfl rfl (by decide) ki_X_9 rfl rfl ⟨Nat.le_of_ble_eq_true rfl, Nat.le_of_ble_eq_true rfl⟩ rfl (Nat.le_of_ble_eq_true rfl) ⟨Nat.le_of_ble_eq_true rfl, Nat.le_of_ble_eq_true rfl⟩ d_X_init_10 (fun H locs w9 hB G9 => ?_)
  obtain ⟨bS, hbS, rfl⟩ := hB
  subst hbS
  refine W.widen (k := 3) (n := 84) (Nat.le_of_ble_eq_true rfl) (Nat.le_of_ble_eq_true rfl) ?_
  have G : zG D A s H locs [(h0, .inr (4, [.null, .null, .null, .null, .int 0])), ((bS 0), .inr (3, [.int (cSeats seats), .ref (bS 1), .ref (bS 2), .int 0])), ((bS 1), .inl (cI, 20, .inl (Zc 0))), ((bS 2), .inl (cI, 60, .inl (Zc 1)))] := G9
  refine z_putF (ws' := [(h0, .inr (4, [.ref (bS 0), .null, .null, .null, .int 0])), ((bS 0), .inr (3, [.int (cSeats seats), .ref (bS 1), .ref (bS 2), .int 0])), ((bS 1), .inl (cI, 20, .inl (Zc 0))), ((bS 2), .inl (cI, 60, .inl (Zc 1)))]) E hK G i_X t_X t_X_ok n_X hmn 0 0 rfl rfl (by decide) kf_X_12 rfl rfl rfl rfl rfl (Nat.le_of_ble_eq_true rfl) rfl d_X_init_13 (fun H locs G => ?_)
  refine lv_aload_n hx hb d_X_init_16 rfl (lv_at hl 0 rfl) ?_
  refine z_new (ci := 1) (fs := [.null, .null, .null, .null, .null]) E hK hA G i_R t_R t_R_ok kn_X_18.1 kn_X_18.2.1 kn_X_18.2.2 rfl (fun j hj => by rcases (show j = 0 ∨ j = 1 ∨ j = 2 ∨ j = 3 ∨ j = 4 by omega) with rfl | rfl | rfl | rfl | rfl <;> rfl) (Nat.le_of_ble_eq_true rfl) (Nat.le_of_ble_eq_true rfl) d_X_init_17 (fun q2 H G => ?_)
  refine W.widen (k := 4) (n := 89) (Nat.le_of_ble_eq_true rfl) (Nat.le_of_ble_eq_true rfl) ?_
  have G : zG D A s H _ [(h0, .inr (4, [.ref (bS 0), .null, .null, .null, .int 0])), ((bS 0), .inr (3, [.int (cSeats seats), .ref (bS 1), .ref (bS 2), .int 0])), ((bS 1), .inl (cI, 20, .inl (Zc 0))), ((bS 2), .inl (cI, 60, .inl (Zc 1))), (q2, .inr (1, [.null, .null, .null, .null, .null]))] := G
  refine lv_dup hx hb d_X_init_20 rfl ?_
  refine z_ki (As := []) (rest := [.ref q2, .ref h0]) (wr := [(h0, .inr (4, [.ref (bS 0), .null, .null, .null, .int 0])), ((bS 0), .inr (3, [.int (cSeats seats), .ref (bS 1), .ref (bS 2), .int 0])), ((bS 1), .inl (cI, 20, .inl (Zc 0))), ((bS 2), .inl (cI, 60, .inl (Zc 1)))]) E hN hK hA G hl.1 (c_R_init l D cI q2 ) [4] [0, 1, 2, 3] rfl rfl rfl rfl (by decide) ki_X_20 rfl rfl ⟨Nat.le_of_ble_eq_true rfl, Nat.le_of_ble_eq_true rfl⟩ rfl (Nat.le_of_ble_eq_true rfl) ⟨Nat.le_of_ble_eq_true rfl, Nat.le_of_ble_eq_true rfl⟩ d_X_init_21 (fun H locs w9 hB G9 => ?_)
  obtain ⟨bR, hbR, rfl⟩ := hB
  subst hbR
  refine W.widen (k := 9) (n := 389) (Nat.le_of_ble_eq_true rfl) (Nat.le_of_ble_eq_true rfl) ?_
  have G : zG D A s H locs [(h0, .inr (4, [.ref (bS 0), .null, .null, .null, .int 0])), ((bS 0), .inr (3, [.int (cSeats seats), .ref (bS 1), .ref (bS 2), .int 0])), ((bS 1), .inl (cI, 20, .inl (Zc 0))), ((bS 2), .inl (cI, 60, .inl (Zc 1))), ((bR 0), .inr (1, [.ref (bR 1), .ref (bR 2), .ref (bR 3), .ref (bR 4), .ref (bR 5)])), ((bR 1), .inl (cI, 60, .inl (Pc0 0))), ((bR 2), .inl (cI, 60, .inl (Pc0 1))), ((bR 3), .inl (cI, 60, .inl (Pc0 2))), ((bR 4), .inl (cI, 60, .inl (Pc0 3))), ((bR 5), .inl (cI, 60, .inl (Pc0 4)))] := G9
  refine z_putF (ws' := [(h0, .inr (4, [.ref (bS 0), .ref (bR 0), .null, .null, .int 0])), ((bS 0), .inr (3, [.int (cSeats seats), .ref (bS 1), .ref (bS 2), .int 0])), ((bS 1), .inl (cI, 20, .inl (Zc 0))), ((bS 2), .inl (cI, 60, .inl (Zc 1))), ((bR 0), .inr (1, [.ref (bR 1), .ref (bR 2), .ref (bR 3), .ref (bR 4), .ref (bR 5)])), ((bR 1), .inl (cI, 60, .inl (Pc0 0))), ((bR 2), .inl (cI, 60, .inl (Pc0 1))), ((bR 3), .inl (cI, 60, .inl (Pc0 2))), ((bR 4), .inl (cI, 60, .inl (Pc0 3))), ((bR 5), .inl (cI, 60, .inl (Pc0 4)))]) E hK G i_X t_X t_X_ok n_X hmn 0 1 rfl rfl (by decide) kf_X_21 rfl rfl rfl rfl rfl (Nat.le_of_ble_eq_true rfl) rfl d_X_init_24 (fun H locs G => ?_)
  refine lv_aload_n hx hb d_X_init_27 rfl (lv_at hl 0 rfl) ?_
  refine z_new (ci := 0) (fs := [.null, .null, .null, .null]) E hK hA G i_H t_H t_H_ok kn_X_25.1 kn_X_25.2.1 kn_X_25.2.2 rfl (fun j hj => by rcases (show j = 0 ∨ j = 1 ∨ j = 2 ∨ j = 3 by omega) with rfl | rfl | rfl | rfl <;> rfl) (Nat.le_of_ble_eq_true rfl) (Nat.le_of_ble_eq_true rfl) d_X_init_28 (fun q3 H G => ?_)
  refine W.widen (k := 10) (n := 393) (Nat.le_of_ble_eq_true rfl) (Nat.le_of_ble_eq_true rfl) ?_
  have G : zG D A s H _ [(h0, .inr (4, [.ref (bS 0), .ref (bR 0), .null, .null, .int 0])), ((bS 0), .inr (3, [.int (cSeats seats), .ref (bS 1), .ref (bS 2), .int 0])), ((bS 1), .inl (cI, 20, .inl (Zc 0))), ((bS 2), .inl (cI, 60, .inl (Zc 1))), ((bR 0), .inr (1, [.ref (bR 1), .ref (bR 2), .ref (bR 3), .ref (bR 4), .ref (bR 5)])), ((bR 1), .inl (cI, 60, .inl (Pc0 0))), ((bR 2), .inl (cI, 60, .inl (Pc0 1))), ((bR 3), .inl (cI, 60, .inl (Pc0 2))), ((bR 4), .inl (cI, 60, .inl (Pc0 3))), ((bR 5), .inl (cI, 60, .inl (Pc0 4))), (q3, .inr (0, [.null, .null, .null, .null]))] := G
  refine lv_dup hx hb d_X_init_31 rfl ?_
  refine z_ki (As := []) (rest := [.ref q3, .ref h0]) (wr := [(h0, .inr (4, [.ref (bS 0), .ref (bR 0), .null, .null, .int 0])), ((bS 0), .inr (3, [.int (cSeats seats), .ref (bS 1), .ref (bS 2), .int 0])), ((bS 1), .inl (cI, 20, .inl (Zc 0))), ((bS 2), .inl (cI, 60, .inl (Zc 1))), ((bR 0), .inr (1, [.ref (bR 1), .ref (bR 2), .ref (bR 3), .ref (bR 4), .ref (bR 5)])), ((bR 1), .inl (cI, 60, .inl (Pc0 0))), ((bR 2), .inl (cI, 60, .inl (Pc0 1))), ((bR 3), .inl (cI, 60, .inl (Pc0 2))), ((bR 4), .inl (cI, 60, .inl (Pc0 3))), ((bR 5), .inl (cI, 60, .inl (Pc0 4)))]) E hN hK hA G hl.1 (c_H_init l D cI q3 ) [10] [0, 1, 2, 3, 4, 5, 6, 7, 8, 9] rfl rfl rfl rfl (by decide) ki_X_27 rfl rfl ⟨Nat.le_of_ble_eq_true rfl, Nat.le_of_ble_eq_true rfl⟩ rfl (Nat.le_of_ble_eq_true rfl) ⟨Nat.le_of_ble_eq_true rfl, Nat.le_of_ble_eq_true rfl⟩ d_X_init_32 (fun H locs w9 hB G9 => ?_)
  obtain ⟨bH, hbH, rfl⟩ := hB
  subst hbH
  refine W.widen (k := 14) (n := 713) (Nat.le_of_ble_eq_true rfl) (Nat.le_of_ble_eq_true rfl) ?_
  have G : zG D A s H locs [(h0, .inr (4, [.ref (bS 0), .ref (bR 0), .null, .null, .int 0])), ((bS 0), .inr (3, [.int (cSeats seats), .ref (bS 1), .ref (bS 2), .int 0])), ((bS 1), .inl (cI, 20, .inl (Zc 0))), ((bS 2), .inl (cI, 60, .inl (Zc 1))), ((bR 0), .inr (1, [.ref (bR 1), .ref (bR 2), .ref (bR 3), .ref (bR 4), .ref (bR 5)])), ((bR 1), .inl (cI, 60, .inl (Pc0 0))), ((bR 2), .inl (cI, 60, .inl (Pc0 1))), ((bR 3), .inl (cI, 60, .inl (Pc0 2))), ((bR 4), .inl (cI, 60, .inl (Pc0 3))), ((bR 5), .inl (cI, 60, .inl (Pc0 4))), ((bH 0), .inr (0, [.ref (bH 1), .ref (bH 2), .ref (bH 3), .ref (bH 4)])), ((bH 1), .inl (cI, 80, .inl (Uc 0))), ((bH 2), .inl (cI, 80, .inl (Uc 1))), ((bH 3), .inl (cI, 80, .inl (Uc 2))), ((bH 4), .inl (cI, 80, .inl (Uc 3)))] := G9
  refine z_putF (ws' := [(h0, .inr (4, [.ref (bS 0), .ref (bR 0), .ref (bH 0), .null, .int 0])), ((bS 0), .inr (3, [.int (cSeats seats), .ref (bS 1), .ref (bS 2), .int 0])), ((bS 1), .inl (cI, 20, .inl (Zc 0))), ((bS 2), .inl (cI, 60, .inl (Zc 1))), ((bR 0), .inr (1, [.ref (bR 1), .ref (bR 2), .ref (bR 3), .ref (bR 4), .ref (bR 5)])), ((bR 1), .inl (cI, 60, .inl (Pc0 0))), ((bR 2), .inl (cI, 60, .inl (Pc0 1))), ((bR 3), .inl (cI, 60, .inl (Pc0 2))), ((bR 4), .inl (cI, 60, .inl (Pc0 3))), ((bR 5), .inl (cI, 60, .inl (Pc0 4))), ((bH 0), .inr (0, [.ref (bH 1), .ref (bH 2), .ref (bH 3), .ref (bH 4)])), ((bH 1), .inl (cI, 80, .inl (Uc 0))), ((bH 2), .inl (cI, 80, .inl (Uc 1))), ((bH 3), .inl (cI, 80, .inl (Uc 2))), ((bH 4), .inl (cI, 80, .inl (Uc 3)))]) E hK G i_X t_X t_X_ok n_X hmn 0 2 rfl rfl (by decide) kf_X_28 rfl rfl rfl rfl rfl (Nat.le_of_ble_eq_true rfl) rfl d_X_init_35 (fun H locs G => ?_)
  refine lv_aload_n hx hb d_X_init_38 rfl (lv_at hl 0 rfl) ?_
  refine z_new (ci := 2) (fs := [.null, .null, .null, .null, .null, .null, .int 0]) E hK hA G i_Q t_Q t_Q_ok kn_X_32.1 kn_X_32.2.1 kn_X_32.2.2 rfl (fun j hj => by rcases (show j = 0 ∨ j = 1 ∨ j = 2 ∨ j = 3 ∨ j = 4 ∨ j = 5 ∨ j = 6 by omega) with rfl | rfl | rfl | rfl | rfl | rfl | rfl <;> rfl) (Nat.le_of_ble_eq_true rfl) (Nat.le_of_ble_eq_true rfl) d_X_init_39 (fun q4 H G => ?_)
  refine W.widen (k := 15) (n := 720) (Nat.le_of_ble_eq_true rfl) (Nat.le_of_ble_eq_true rfl) ?_
  have G : zG D A s H _ [(h0, .inr (4, [.ref (bS 0), .ref (bR 0), .ref (bH 0), .null, .int 0])), ((bS 0), .inr (3, [.int (cSeats seats), .ref (bS 1), .ref (bS 2), .int 0])), ((bS 1), .inl (cI, 20, .inl (Zc 0))), ((bS 2), .inl (cI, 60, .inl (Zc 1))), ((bR 0), .inr (1, [.ref (bR 1), .ref (bR 2), .ref (bR 3), .ref (bR 4), .ref (bR 5)])), ((bR 1), .inl (cI, 60, .inl (Pc0 0))), ((bR 2), .inl (cI, 60, .inl (Pc0 1))), ((bR 3), .inl (cI, 60, .inl (Pc0 2))), ((bR 4), .inl (cI, 60, .inl (Pc0 3))), ((bR 5), .inl (cI, 60, .inl (Pc0 4))), ((bH 0), .inr (0, [.ref (bH 1), .ref (bH 2), .ref (bH 3), .ref (bH 4)])), ((bH 1), .inl (cI, 80, .inl (Uc 0))), ((bH 2), .inl (cI, 80, .inl (Uc 1))), ((bH 3), .inl (cI, 80, .inl (Uc 2))), ((bH 4), .inl (cI, 80, .inl (Uc 3))), (q4, .inr (2, [.null, .null, .null, .null, .null, .null, .int 0]))] := G
  refine lv_dup hx hb d_X_init_42 rfl ?_
  refine z_kin (As := []) (rest := [.ref q4, .ref h0]) (wr := [(h0, .inr (4, [.ref (bS 0), .ref (bR 0), .ref (bH 0), .null, .int 0])), ((bS 0), .inr (3, [.int (cSeats seats), .ref (bS 1), .ref (bS 2), .int 0])), ((bS 1), .inl (cI, 20, .inl (Zc 0))), ((bS 2), .inl (cI, 60, .inl (Zc 1))), ((bR 0), .inr (1, [.ref (bR 1), .ref (bR 2), .ref (bR 3), .ref (bR 4), .ref (bR 5)])), ((bR 1), .inl (cI, 60, .inl (Pc0 0))), ((bR 2), .inl (cI, 60, .inl (Pc0 1))), ((bR 3), .inl (cI, 60, .inl (Pc0 2))), ((bR 4), .inl (cI, 60, .inl (Pc0 3))), ((bR 5), .inl (cI, 60, .inl (Pc0 4))), ((bH 0), .inr (0, [.ref (bH 1), .ref (bH 2), .ref (bH 3), .ref (bH 4)])), ((bH 1), .inl (cI, 80, .inl (Uc 0))), ((bH 2), .inl (cI, 80, .inl (Uc 1))), ((bH 3), .inl (cI, 80, .inl (Uc 2))), ((bH 4), .inl (cI, 80, .inl (Uc 3)))]) E hN hK hA G hl.1 (c_Q_init l D cI q4 ) [15] [0, 1, 2, 3, 4, 5, 6, 7, 8, 9, 10, 11, 12, 13, 14] rfl rfl rfl rfl (by decide) ki_X_34 rfl rfl ⟨Nat.le_of_ble_eq_true rfl, Nat.le_of_ble_eq_true rfl⟩ rfl (Nat.le_of_ble_eq_true rfl) ⟨Nat.le_of_ble_eq_true rfl, Nat.le_of_ble_eq_true rfl⟩ d_X_init_43 (fun H locs w9 hB G9 => ?_)
  obtain ⟨bQ, hbQ, rfl⟩ := hB
  subst hbQ
  refine W.widen (k := 21) (n := 2520) (Nat.le_of_ble_eq_true rfl) (Nat.le_of_ble_eq_true rfl) ?_
  have G : zG D A s H locs [(h0, .inr (4, [.ref (bS 0), .ref (bR 0), .ref (bH 0), .null, .int 0])), ((bS 0), .inr (3, [.int (cSeats seats), .ref (bS 1), .ref (bS 2), .int 0])), ((bS 1), .inl (cI, 20, .inl (Zc 0))), ((bS 2), .inl (cI, 60, .inl (Zc 1))), ((bR 0), .inr (1, [.ref (bR 1), .ref (bR 2), .ref (bR 3), .ref (bR 4), .ref (bR 5)])), ((bR 1), .inl (cI, 60, .inl (Pc0 0))), ((bR 2), .inl (cI, 60, .inl (Pc0 1))), ((bR 3), .inl (cI, 60, .inl (Pc0 2))), ((bR 4), .inl (cI, 60, .inl (Pc0 3))), ((bR 5), .inl (cI, 60, .inl (Pc0 4))), ((bH 0), .inr (0, [.ref (bH 1), .ref (bH 2), .ref (bH 3), .ref (bH 4)])), ((bH 1), .inl (cI, 80, .inl (Uc 0))), ((bH 2), .inl (cI, 80, .inl (Uc 1))), ((bH 3), .inl (cI, 80, .inl (Uc 2))), ((bH 4), .inl (cI, 80, .inl (Uc 3))), ((bQ 0), .inr (2, [.ref (bQ 1), .ref (bQ 2), .ref (bQ 3), .ref (bQ 4), .ref (bQ 5), .ref (bQ 6), .int 0])), ((bQ 1), .inl (cI, 300, .inl (zero2 0))), ((bQ 2), .inl (cI, 300, .inl (zero2 1))), ((bQ 3), .inl (cI, 300, .inl (zero2 2))), ((bQ 4), .inl (cI, 300, .inl (zero2 3))), ((bQ 5), .inl (cI, 300, .inl (zero2 4))), ((bQ 6), .inl (cI, 300, .inl (zero2 5)))] := G9
  refine z_putF (ws' := [(h0, .inr (4, [.ref (bS 0), .ref (bR 0), .ref (bH 0), .ref (bQ 0), .int 0])), ((bS 0), .inr (3, [.int (cSeats seats), .ref (bS 1), .ref (bS 2), .int 0])), ((bS 1), .inl (cI, 20, .inl (Zc 0))), ((bS 2), .inl (cI, 60, .inl (Zc 1))), ((bR 0), .inr (1, [.ref (bR 1), .ref (bR 2), .ref (bR 3), .ref (bR 4), .ref (bR 5)])), ((bR 1), .inl (cI, 60, .inl (Pc0 0))), ((bR 2), .inl (cI, 60, .inl (Pc0 1))), ((bR 3), .inl (cI, 60, .inl (Pc0 2))), ((bR 4), .inl (cI, 60, .inl (Pc0 3))), ((bR 5), .inl (cI, 60, .inl (Pc0 4))), ((bH 0), .inr (0, [.ref (bH 1), .ref (bH 2), .ref (bH 3), .ref (bH 4)])), ((bH 1), .inl (cI, 80, .inl (Uc 0))), ((bH 2), .inl (cI, 80, .inl (Uc 1))), ((bH 3), .inl (cI, 80, .inl (Uc 2))), ((bH 4), .inl (cI, 80, .inl (Uc 3))), ((bQ 0), .inr (2, [.ref (bQ 1), .ref (bQ 2), .ref (bQ 3), .ref (bQ 4), .ref (bQ 5), .ref (bQ 6), .int 0])), ((bQ 1), .inl (cI, 300, .inl (zero2 0))), ((bQ 2), .inl (cI, 300, .inl (zero2 1))), ((bQ 3), .inl (cI, 300, .inl (zero2 2))), ((bQ 4), .inl (cI, 300, .inl (zero2 3))), ((bQ 5), .inl (cI, 300, .inl (zero2 4))), ((bQ 6), .inl (cI, 300, .inl (zero2 5)))]) E hK G i_X t_X t_X_ok n_X hmn 0 3 rfl rfl (by decide) kf_X_35 rfl rfl rfl rfl rfl (Nat.le_of_ble_eq_true rfl) rfl d_X_init_46 (fun H locs G => ?_)
  refine lv_aload_n hx hb d_X_init_49 rfl (lv_at hl 0 rfl) ?_
  refine lv_iconst (v := 0) hx hb d_X_init_50 (by decide) ?_
  refine z_put (ws' := [(h0, .inr (4, [.ref (bS 0), .ref (bR 0), .ref (bH 0), .ref (bQ 0), .int 0])), ((bS 0), .inr (3, [.int (cSeats seats), .ref (bS 1), .ref (bS 2), .int 0])), ((bS 1), .inl (cI, 20, .inl (Zc 0))), ((bS 2), .inl (cI, 60, .inl (Zc 1))), ((bR 0), .inr (1, [.ref (bR 1), .ref (bR 2), .ref (bR 3), .ref (bR 4), .ref (bR 5)])), ((bR 1), .inl (cI, 60, .inl (Pc0 0))), ((bR 2), .inl (cI, 60, .inl (Pc0 1))), ((bR 3), .inl (cI, 60, .inl (Pc0 2))), ((bR 4), .inl (cI, 60, .inl (Pc0 3))), ((bR 5), .inl (cI, 60, .inl (Pc0 4))), ((bH 0), .inr (0, [.ref (bH 1), .ref (bH 2), .ref (bH 3), .ref (bH 4)])), ((bH 1), .inl (cI, 80, .inl (Uc 0))), ((bH 2), .inl (cI, 80, .inl (Uc 1))), ((bH 3), .inl (cI, 80, .inl (Uc 2))), ((bH 4), .inl (cI, 80, .inl (Uc 3))), ((bQ 0), .inr (2, [.ref (bQ 1), .ref (bQ 2), .ref (bQ 3), .ref (bQ 4), .ref (bQ 5), .ref (bQ 6), .int 0])), ((bQ 1), .inl (cI, 300, .inl (zero2 0))), ((bQ 2), .inl (cI, 300, .inl (zero2 1))), ((bQ 3), .inl (cI, 300, .inl (zero2 2))), ((bQ 4), .inl (cI, 300, .inl (zero2 3))), ((bQ 5), .inl (cI, 300, .inl (zero2 4))), ((bQ 6), .inl (cI, 300, .inl (zero2 5)))]) E hK G i_X t_X t_X_ok n_X 0 4 rfl rfl (by decide) kf_X_39 rfl rfl rfl rfl (Nat.le_of_ble_eq_true rfl) rfl d_X_init_51 (fun H locs G => ?_)
  exact zK.vret E hrt hlk G ⟨fun j => ([h0, (bS 0), (bS 1), (bS 2), (bR 0), (bR 1), (bR 2), (bR 3), (bR 4), (bR 5), (bH 0), (bH 1), (bH 2), (bH 3), (bH 4), (bQ 0), (bQ 1), (bQ 2), (bQ 3), (bQ 4), (bQ 5), (bQ 6)] : List Nat).getD j 0, rfl, rfl⟩ (Nat.le_of_ble_eq_true rfl) (Nat.le_of_ble_eq_true rfl) d_X_init_54
set_option maxHeartbeats 4000000 in
set_option maxRecDepth 100000 in
theorem c_M_init (l : Launch) (D : va_G) (cI : ClassId) (h0 : Nat) (many : Int32) : zK l D [(cI, .int)] y_M_init b_M_init 3 1 23 17 2500 [.ref h0, .int many] [(h0, .inr (5, [.int 0, .int 0, .int 0, .null, .int 0, .null, .null, .null, .null, .null, .null, .null, .null, .null, .null, .int 0, .null, .null, .null, .null, .null, .null]))] (fun w' => ∃ a : Nat → Nat, a 0 = h0 ∧ w' = wM a cI 0 0 (mSeats many) 0 0 Zi Pm Ui zero2) := by
  refine zK.of (by decide) (Nat.le_of_ble_eq_true rfl) rfl ?_
  intro p e s m below meth c0 ls A E hrt hlk hmn hN hK hA G hl
  have hx := E.1
  have hb := E.2.1
  have hl : lv_has ls 3 [(0, .ref h0), (1, .int many)] := hl
  refine lv_aload_n hx hb d_M_init_0 rfl (lv_at hl 0 rfl) ?_
  refine z_obj E hl.1 ko_M_1.1 ko_M_1.2.1 ko_M_1.2.2 d_M_init_1 (Nat.le_of_ble_eq_true rfl) (Nat.le_of_ble_eq_true rfl) (Nat.le_of_ble_eq_true rfl) ?_
  refine lv_aload_n hx hb d_M_init_4 rfl (lv_at hl 0 rfl) ?_
  refine lv_bipush (v := 20) hx hb d_M_init_5 (by decide) ?_
  refine z_newi (t0 := 0) (N := 20) E hK hA G ka_int rfl (by decide) (by decide) (by decide) (Nat.le_of_ble_eq_true rfl) (Nat.le_of_ble_eq_true rfl) d_M_init_7 (fun q1 H G => ?_)
  refine W.widen (k := 1) (n := 20) (Nat.le_of_ble_eq_true rfl) (Nat.le_of_ble_eq_true rfl) ?_
  have G : zG D A s H _ [(h0, .inr (5, [.int 0, .int 0, .int 0, .null, .int 0, .null, .null, .null, .null, .null, .null, .null, .null, .null, .null, .int 0, .null, .null, .null, .null, .null, .null])), (q1, .inl (cI, 20, .inl (fun _ => 0)))] := G
  refine z_putF (ws' := [(h0, .inr (5, [.int 0, .int 0, .int 0, .ref q1, .int 0, .null, .null, .null, .null, .null, .null, .null, .null, .null, .null, .int 0, .null, .null, .null, .null, .null, .null])), (q1, .inl (cI, 20, .inl (fun _ => 0)))]) E hK G i_M t_M t_M_ok n_M hmn 0 3 rfl rfl (by decide) kf_M_7 rfl rfl rfl rfl rfl (Nat.le_of_ble_eq_true rfl) rfl d_M_init_9 (fun H locs G => ?_)
  refine lv_aload_n hx hb d_M_init_12 rfl (lv_at hl 0 rfl) ?_
  refine lv_bipush (v := 60) hx hb d_M_init_13 (by decide) ?_
  refine z_newi (t0 := 0) (N := 60) E hK hA G ka_int rfl (by decide) (by decide) (by decide) (Nat.le_of_ble_eq_true rfl) (Nat.le_of_ble_eq_true rfl) d_M_init_15 (fun q2 H G => ?_)
  refine W.widen (k := 2) (n := 80) (Nat.le_of_ble_eq_true rfl) (Nat.le_of_ble_eq_true rfl) ?_
  have G : zG D A s H _ [(h0, .inr (5, [.int 0, .int 0, .int 0, .ref q1, .int 0, .null, .null, .null, .null, .null, .null, .null, .null, .null, .null, .int 0, .null, .null, .null, .null, .null, .null])), (q1, .inl (cI, 20, .inl (fun _ => 0))), (q2, .inl (cI, 60, .inl (fun _ => 0)))] := G
  refine z_putF (ws' := [(h0, .inr (5, [.int 0, .int 0, .int 0, .ref q1, .int 0, .ref q2, .null, .null, .null, .null, .null, .null, .null, .null, .null, .int 0, .null, .null, .null, .null, .null, .null])), (q1, .inl (cI, 20, .inl (fun _ => 0))), (q2, .inl (cI, 60, .inl (fun _ => 0)))]) E hK G i_M t_M t_M_ok n_M hmn 0 5 rfl rfl (by decide) kf_M_13 rfl rfl rfl rfl rfl (Nat.le_of_ble_eq_true rfl) rfl d_M_init_17 (fun H locs G => ?_)
  refine lv_aload_n hx hb d_M_init_20 rfl (lv_at hl 0 rfl) ?_
  refine lv_bipush (v := 60) hx hb d_M_init_21 (by decide) ?_
  refine z_newi (t0 := 0) (N := 60) E hK hA G ka_int rfl (by decide) (by decide) (by decide) (Nat.le_of_ble_eq_true rfl) (Nat.le_of_ble_eq_true rfl) d_M_init_23 (fun q3 H G => ?_)
  refine W.widen (k := 3) (n := 140) (Nat.le_of_ble_eq_true rfl) (Nat.le_of_ble_eq_true rfl) ?_
  have G : zG D A s H _ [(h0, .inr (5, [.int 0, .int 0, .int 0, .ref q1, .int 0, .ref q2, .null, .null, .null, .null, .null, .null, .null, .null, .null, .int 0, .null, .null, .null, .null, .null, .null])), (q1, .inl (cI, 20, .inl (fun _ => 0))), (q2, .inl (cI, 60, .inl (fun _ => 0))), (q3, .inl (cI, 60, .inl (fun _ => 0)))] := G
  refine z_putF (ws' := [(h0, .inr (5, [.int 0, .int 0, .int 0, .ref q1, .int 0, .ref q2, .ref q3, .null, .null, .null, .null, .null, .null, .null, .null, .int 0, .null, .null, .null, .null, .null, .null])), (q1, .inl (cI, 20, .inl (fun _ => 0))), (q2, .inl (cI, 60, .inl (fun _ => 0))), (q3, .inl (cI, 60, .inl (fun _ => 0)))]) E hK G i_M t_M t_M_ok n_M hmn 0 6 rfl rfl (by decide) kf_M_16 rfl rfl rfl rfl rfl (Nat.le_of_ble_eq_true rfl) rfl d_M_init_25 (fun H locs G => ?_)
  refine lv_aload_n hx hb d_M_init_28 rfl (lv_at hl 0 rfl) ?_
  refine lv_bipush (v := 60) hx hb d_M_init_29 (by decide) ?_
  refine z_newi (t0 := 0) (N := 60) E hK hA G ka_int rfl (by decide) (by decide) (by decide) (Nat.le_of_ble_eq_true rfl) (Nat.le_of_ble_eq_true rfl) d_M_init_31 (fun q4 H G => ?_)
  refine W.widen (k := 4) (n := 200) (Nat.le_of_ble_eq_true rfl) (Nat.le_of_ble_eq_true rfl) ?_
  have G : zG D A s H _ [(h0, .inr (5, [.int 0, .int 0, .int 0, .ref q1, .int 0, .ref q2, .ref q3, .null, .null, .null, .null, .null, .null, .null, .null, .int 0, .null, .null, .null, .null, .null, .null])), (q1, .inl (cI, 20, .inl (fun _ => 0))), (q2, .inl (cI, 60, .inl (fun _ => 0))), (q3, .inl (cI, 60, .inl (fun _ => 0))), (q4, .inl (cI, 60, .inl (fun _ => 0)))] := G
  refine z_putF (ws' := [(h0, .inr (5, [.int 0, .int 0, .int 0, .ref q1, .int 0, .ref q2, .ref q3, .ref q4, .null, .null, .null, .null, .null, .null, .null, .int 0, .null, .null, .null, .null, .null, .null])), (q1, .inl (cI, 20, .inl (fun _ => 0))), (q2, .inl (cI, 60, .inl (fun _ => 0))), (q3, .inl (cI, 60, .inl (fun _ => 0))), (q4, .inl (cI, 60, .inl (fun _ => 0)))]) E hK G i_M t_M t_M_ok n_M hmn 0 7 rfl rfl (by decide) kf_M_19 rfl rfl rfl rfl rfl (Nat.le_of_ble_eq_true rfl) rfl d_M_init_33 (fun H locs G => ?_)
  refine lv_aload_n hx hb d_M_init_36 rfl (lv_at hl 0 rfl) ?_
  refine lv_bipush (v := 60) hx hb d_M_init_37 (by decide) ?_
  refine z_newi (t0 := 0) (N := 60) E hK hA G ka_int rfl (by decide) (by decide) (by decide) (Nat.le_of_ble_eq_true rfl) (Nat.le_of_ble_eq_true rfl) d_M_init_39 (fun q5 H G => ?_)
  refine W.widen (k := 5) (n := 260) (Nat.le_of_ble_eq_true rfl) (Nat.le_of_ble_eq_true rfl) ?_
  have G : zG D A s H _ [(h0, .inr (5, [.int 0, .int 0, .int 0, .ref q1, .int 0, .ref q2, .ref q3, .ref q4, .null, .null, .null, .null, .null, .null, .null, .int 0, .null, .null, .null, .null, .null, .null])), (q1, .inl (cI, 20, .inl (fun _ => 0))), (q2, .inl (cI, 60, .inl (fun _ => 0))), (q3, .inl (cI, 60, .inl (fun _ => 0))), (q4, .inl (cI, 60, .inl (fun _ => 0))), (q5, .inl (cI, 60, .inl (fun _ => 0)))] := G
  refine z_putF (ws' := [(h0, .inr (5, [.int 0, .int 0, .int 0, .ref q1, .int 0, .ref q2, .ref q3, .ref q4, .ref q5, .null, .null, .null, .null, .null, .null, .int 0, .null, .null, .null, .null, .null, .null])), (q1, .inl (cI, 20, .inl (fun _ => 0))), (q2, .inl (cI, 60, .inl (fun _ => 0))), (q3, .inl (cI, 60, .inl (fun _ => 0))), (q4, .inl (cI, 60, .inl (fun _ => 0))), (q5, .inl (cI, 60, .inl (fun _ => 0)))]) E hK G i_M t_M t_M_ok n_M hmn 0 8 rfl rfl (by decide) kf_M_22 rfl rfl rfl rfl rfl (Nat.le_of_ble_eq_true rfl) rfl d_M_init_41 (fun H locs G => ?_)
  refine lv_aload_n hx hb d_M_init_44 rfl (lv_at hl 0 rfl) ?_
  refine lv_bipush (v := 60) hx hb d_M_init_45 (by decide) ?_
  refine z_newi (t0 := 0) (N := 60) E hK hA G ka_int rfl (by decide) (by decide) (by decide) (Nat.le_of_ble_eq_true rfl) (Nat.le_of_ble_eq_true rfl) d_M_init_47 (fun q6 H G => ?_)
  refine W.widen (k := 6) (n := 320) (Nat.le_of_ble_eq_true rfl) (Nat.le_of_ble_eq_true rfl) ?_
  have G : zG D A s H _ [(h0, .inr (5, [.int 0, .int 0, .int 0, .ref q1, .int 0, .ref q2, .ref q3, .ref q4, .ref q5, .null, .null, .null, .null, .null, .null, .int 0, .null, .null, .null, .null, .null, .null])), (q1, .inl (cI, 20, .inl (fun _ => 0))), (q2, .inl (cI, 60, .inl (fun _ => 0))), (q3, .inl (cI, 60, .inl (fun _ => 0))), (q4, .inl (cI, 60, .inl (fun _ => 0))), (q5, .inl (cI, 60, .inl (fun _ => 0))), (q6, .inl (cI, 60, .inl (fun _ => 0)))] := G
  refine z_putF (ws' := [(h0, .inr (5, [.int 0, .int 0, .int 0, .ref q1, .int 0, .ref q2, .ref q3, .ref q4, .ref q5, .ref q6, .null, .null, .null, .null, .null, .int 0, .null, .null, .null, .null, .null, .null])), (q1, .inl (cI, 20, .inl (fun _ => 0))), (q2, .inl (cI, 60, .inl (fun _ => 0))), (q3, .inl (cI, 60, .inl (fun _ => 0))), (q4, .inl (cI, 60, .inl (fun _ => 0))), (q5, .inl (cI, 60, .inl (fun _ => 0))), (q6, .inl (cI, 60, .inl (fun _ => 0)))]) E hK G i_M t_M t_M_ok n_M hmn 0 9 rfl rfl (by decide) kf_M_25 rfl rfl rfl rfl rfl (Nat.le_of_ble_eq_true rfl) rfl d_M_init_49 (fun H locs G => ?_)
  refine lv_aload_n hx hb d_M_init_52 rfl (lv_at hl 0 rfl) ?_
  refine lv_bipush (v := 60) hx hb d_M_init_53 (by decide) ?_
  refine z_newi (t0 := 0) (N := 60) E hK hA G ka_int rfl (by decide) (by decide) (by decide) (Nat.le_of_ble_eq_true rfl) (Nat.le_of_ble_eq_true rfl) d_M_init_55 (fun q7 H G => ?_)
  refine W.widen (k := 7) (n := 380) (Nat.le_of_ble_eq_true rfl) (Nat.le_of_ble_eq_true rfl) ?_
  have G : zG D A s H _ [(h0, .inr (5, [.int 0, .int 0, .int 0, .ref q1, .int 0, .ref q2, .ref q3, .ref q4, .ref q5, .ref q6, .null, .null, .null, .null, .null, .int 0, .null, .null, .null, .null, .null, .null])), (q1, .inl (cI, 20, .inl (fun _ => 0))), (q2, .inl (cI, 60, .inl (fun _ => 0))), (q3, .inl (cI, 60, .inl (fun _ => 0))), (q4, .inl (cI, 60, .inl (fun _ => 0))), (q5, .inl (cI, 60, .inl (fun _ => 0))), (q6, .inl (cI, 60, .inl (fun _ => 0))), (q7, .inl (cI, 60, .inl (fun _ => 0)))] := G
  refine z_putF (ws' := [(h0, .inr (5, [.int 0, .int 0, .int 0, .ref q1, .int 0, .ref q2, .ref q3, .ref q4, .ref q5, .ref q6, .ref q7, .null, .null, .null, .null, .int 0, .null, .null, .null, .null, .null, .null])), (q1, .inl (cI, 20, .inl (fun _ => 0))), (q2, .inl (cI, 60, .inl (fun _ => 0))), (q3, .inl (cI, 60, .inl (fun _ => 0))), (q4, .inl (cI, 60, .inl (fun _ => 0))), (q5, .inl (cI, 60, .inl (fun _ => 0))), (q6, .inl (cI, 60, .inl (fun _ => 0))), (q7, .inl (cI, 60, .inl (fun _ => 0)))]) E hK G i_M t_M t_M_ok n_M hmn 0 10 rfl rfl (by decide) kf_M_28 rfl rfl rfl rfl rfl (Nat.le_of_ble_eq_true rfl) rfl d_M_init_57 (fun H locs G => ?_)
  refine lv_aload_n hx hb d_M_init_60 rfl (lv_at hl 0 rfl) ?_
  refine lv_bipush (v := 80) hx hb d_M_init_61 (by decide) ?_
  refine z_newi (t0 := 0) (N := 80) E hK hA G ka_int rfl (by decide) (by decide) (by decide) (Nat.le_of_ble_eq_true rfl) (Nat.le_of_ble_eq_true rfl) d_M_init_63 (fun q8 H G => ?_)
  refine W.widen (k := 8) (n := 460) (Nat.le_of_ble_eq_true rfl) (Nat.le_of_ble_eq_true rfl) ?_
  have G : zG D A s H _ [(h0, .inr (5, [.int 0, .int 0, .int 0, .ref q1, .int 0, .ref q2, .ref q3, .ref q4, .ref q5, .ref q6, .ref q7, .null, .null, .null, .null, .int 0, .null, .null, .null, .null, .null, .null])), (q1, .inl (cI, 20, .inl (fun _ => 0))), (q2, .inl (cI, 60, .inl (fun _ => 0))), (q3, .inl (cI, 60, .inl (fun _ => 0))), (q4, .inl (cI, 60, .inl (fun _ => 0))), (q5, .inl (cI, 60, .inl (fun _ => 0))), (q6, .inl (cI, 60, .inl (fun _ => 0))), (q7, .inl (cI, 60, .inl (fun _ => 0))), (q8, .inl (cI, 80, .inl (fun _ => 0)))] := G
  refine z_putF (ws' := [(h0, .inr (5, [.int 0, .int 0, .int 0, .ref q1, .int 0, .ref q2, .ref q3, .ref q4, .ref q5, .ref q6, .ref q7, .ref q8, .null, .null, .null, .int 0, .null, .null, .null, .null, .null, .null])), (q1, .inl (cI, 20, .inl (fun _ => 0))), (q2, .inl (cI, 60, .inl (fun _ => 0))), (q3, .inl (cI, 60, .inl (fun _ => 0))), (q4, .inl (cI, 60, .inl (fun _ => 0))), (q5, .inl (cI, 60, .inl (fun _ => 0))), (q6, .inl (cI, 60, .inl (fun _ => 0))), (q7, .inl (cI, 60, .inl (fun _ => 0))), (q8, .inl (cI, 80, .inl (fun _ => 0)))]) E hK G i_M t_M t_M_ok n_M hmn 0 11 rfl rfl (by decide) kf_M_31 rfl rfl rfl rfl rfl (Nat.le_of_ble_eq_true rfl) rfl d_M_init_65 (fun H locs G => ?_)
  refine lv_aload_n hx hb d_M_init_68 rfl (lv_at hl 0 rfl) ?_
  refine lv_bipush (v := 80) hx hb d_M_init_69 (by decide) ?_
  refine z_newi (t0 := 0) (N := 80) E hK hA G ka_int rfl (by decide) (by decide) (by decide) (Nat.le_of_ble_eq_true rfl) (Nat.le_of_ble_eq_true rfl) d_M_init_71 (fun q9 H G => ?_)
  refine W.widen (k := 9) (n := 540) (Nat.le_of_ble_eq_true rfl) (Nat.le_of_ble_eq_true rfl) ?_
  have G : zG D A s H _ [(h0, .inr (5, [.int 0, .int 0, .int 0, .ref q1, .int 0, .ref q2, .ref q3, .ref q4, .ref q5, .ref q6, .ref q7, .ref q8, .null, .null, .null, .int 0, .null, .null, .null, .null, .null, .null])), (q1, .inl (cI, 20, .inl (fun _ => 0))), (q2, .inl (cI, 60, .inl (fun _ => 0))), (q3, .inl (cI, 60, .inl (fun _ => 0))), (q4, .inl (cI, 60, .inl (fun _ => 0))), (q5, .inl (cI, 60, .inl (fun _ => 0))), (q6, .inl (cI, 60, .inl (fun _ => 0))), (q7, .inl (cI, 60, .inl (fun _ => 0))), (q8, .inl (cI, 80, .inl (fun _ => 0))), (q9, .inl (cI, 80, .inl (fun _ => 0)))] := G
  refine z_putF (ws' := [(h0, .inr (5, [.int 0, .int 0, .int 0, .ref q1, .int 0, .ref q2, .ref q3, .ref q4, .ref q5, .ref q6, .ref q7, .ref q8, .ref q9, .null, .null, .int 0, .null, .null, .null, .null, .null, .null])), (q1, .inl (cI, 20, .inl (fun _ => 0))), (q2, .inl (cI, 60, .inl (fun _ => 0))), (q3, .inl (cI, 60, .inl (fun _ => 0))), (q4, .inl (cI, 60, .inl (fun _ => 0))), (q5, .inl (cI, 60, .inl (fun _ => 0))), (q6, .inl (cI, 60, .inl (fun _ => 0))), (q7, .inl (cI, 60, .inl (fun _ => 0))), (q8, .inl (cI, 80, .inl (fun _ => 0))), (q9, .inl (cI, 80, .inl (fun _ => 0)))]) E hK G i_M t_M t_M_ok n_M hmn 0 12 rfl rfl (by decide) kf_M_34 rfl rfl rfl rfl rfl (Nat.le_of_ble_eq_true rfl) rfl d_M_init_73 (fun H locs G => ?_)
  refine lv_aload_n hx hb d_M_init_76 rfl (lv_at hl 0 rfl) ?_
  refine lv_bipush (v := 80) hx hb d_M_init_77 (by decide) ?_
  refine z_newi (t0 := 0) (N := 80) E hK hA G ka_int rfl (by decide) (by decide) (by decide) (Nat.le_of_ble_eq_true rfl) (Nat.le_of_ble_eq_true rfl) d_M_init_79 (fun q10 H G => ?_)
  refine W.widen (k := 10) (n := 620) (Nat.le_of_ble_eq_true rfl) (Nat.le_of_ble_eq_true rfl) ?_
  have G : zG D A s H _ [(h0, .inr (5, [.int 0, .int 0, .int 0, .ref q1, .int 0, .ref q2, .ref q3, .ref q4, .ref q5, .ref q6, .ref q7, .ref q8, .ref q9, .null, .null, .int 0, .null, .null, .null, .null, .null, .null])), (q1, .inl (cI, 20, .inl (fun _ => 0))), (q2, .inl (cI, 60, .inl (fun _ => 0))), (q3, .inl (cI, 60, .inl (fun _ => 0))), (q4, .inl (cI, 60, .inl (fun _ => 0))), (q5, .inl (cI, 60, .inl (fun _ => 0))), (q6, .inl (cI, 60, .inl (fun _ => 0))), (q7, .inl (cI, 60, .inl (fun _ => 0))), (q8, .inl (cI, 80, .inl (fun _ => 0))), (q9, .inl (cI, 80, .inl (fun _ => 0))), (q10, .inl (cI, 80, .inl (fun _ => 0)))] := G
  refine z_putF (ws' := [(h0, .inr (5, [.int 0, .int 0, .int 0, .ref q1, .int 0, .ref q2, .ref q3, .ref q4, .ref q5, .ref q6, .ref q7, .ref q8, .ref q9, .ref q10, .null, .int 0, .null, .null, .null, .null, .null, .null])), (q1, .inl (cI, 20, .inl (fun _ => 0))), (q2, .inl (cI, 60, .inl (fun _ => 0))), (q3, .inl (cI, 60, .inl (fun _ => 0))), (q4, .inl (cI, 60, .inl (fun _ => 0))), (q5, .inl (cI, 60, .inl (fun _ => 0))), (q6, .inl (cI, 60, .inl (fun _ => 0))), (q7, .inl (cI, 60, .inl (fun _ => 0))), (q8, .inl (cI, 80, .inl (fun _ => 0))), (q9, .inl (cI, 80, .inl (fun _ => 0))), (q10, .inl (cI, 80, .inl (fun _ => 0)))]) E hK G i_M t_M t_M_ok n_M hmn 0 13 rfl rfl (by decide) kf_M_37 rfl rfl rfl rfl rfl (Nat.le_of_ble_eq_true rfl) rfl d_M_init_81 (fun H locs G => ?_)
  refine lv_aload_n hx hb d_M_init_84 rfl (lv_at hl 0 rfl) ?_
  refine lv_bipush (v := 80) hx hb d_M_init_85 (by decide) ?_
  refine z_newi (t0 := 0) (N := 80) E hK hA G ka_int rfl (by decide) (by decide) (by decide) (Nat.le_of_ble_eq_true rfl) (Nat.le_of_ble_eq_true rfl) d_M_init_87 (fun q11 H G => ?_)
  refine W.widen (k := 11) (n := 700) (Nat.le_of_ble_eq_true rfl) (Nat.le_of_ble_eq_true rfl) ?_
  have G : zG D A s H _ [(h0, .inr (5, [.int 0, .int 0, .int 0, .ref q1, .int 0, .ref q2, .ref q3, .ref q4, .ref q5, .ref q6, .ref q7, .ref q8, .ref q9, .ref q10, .null, .int 0, .null, .null, .null, .null, .null, .null])), (q1, .inl (cI, 20, .inl (fun _ => 0))), (q2, .inl (cI, 60, .inl (fun _ => 0))), (q3, .inl (cI, 60, .inl (fun _ => 0))), (q4, .inl (cI, 60, .inl (fun _ => 0))), (q5, .inl (cI, 60, .inl (fun _ => 0))), (q6, .inl (cI, 60, .inl (fun _ => 0))), (q7, .inl (cI, 60, .inl (fun _ => 0))), (q8, .inl (cI, 80, .inl (fun _ => 0))), (q9, .inl (cI, 80, .inl (fun _ => 0))), (q10, .inl (cI, 80, .inl (fun _ => 0))), (q11, .inl (cI, 80, .inl (fun _ => 0)))] := G
  refine z_putF (ws' := [(h0, .inr (5, [.int 0, .int 0, .int 0, .ref q1, .int 0, .ref q2, .ref q3, .ref q4, .ref q5, .ref q6, .ref q7, .ref q8, .ref q9, .ref q10, .ref q11, .int 0, .null, .null, .null, .null, .null, .null])), (q1, .inl (cI, 20, .inl (fun _ => 0))), (q2, .inl (cI, 60, .inl (fun _ => 0))), (q3, .inl (cI, 60, .inl (fun _ => 0))), (q4, .inl (cI, 60, .inl (fun _ => 0))), (q5, .inl (cI, 60, .inl (fun _ => 0))), (q6, .inl (cI, 60, .inl (fun _ => 0))), (q7, .inl (cI, 60, .inl (fun _ => 0))), (q8, .inl (cI, 80, .inl (fun _ => 0))), (q9, .inl (cI, 80, .inl (fun _ => 0))), (q10, .inl (cI, 80, .inl (fun _ => 0))), (q11, .inl (cI, 80, .inl (fun _ => 0)))]) E hK G i_M t_M t_M_ok n_M hmn 0 14 rfl rfl (by decide) kf_M_40 rfl rfl rfl rfl rfl (Nat.le_of_ble_eq_true rfl) rfl d_M_init_89 (fun H locs G => ?_)
  refine lv_aload_n hx hb d_M_init_92 rfl (lv_at hl 0 rfl) ?_
  refine lv_sipush (v := 300) hx hb d_M_init_93 (by decide) ?_
  refine z_newi (t0 := 0) (N := 300) E hK hA G ka_int rfl (by decide) (by decide) (by decide) (Nat.le_of_ble_eq_true rfl) (Nat.le_of_ble_eq_true rfl) d_M_init_96 (fun q12 H G => ?_)
  refine W.widen (k := 12) (n := 1000) (Nat.le_of_ble_eq_true rfl) (Nat.le_of_ble_eq_true rfl) ?_
  have G : zG D A s H _ [(h0, .inr (5, [.int 0, .int 0, .int 0, .ref q1, .int 0, .ref q2, .ref q3, .ref q4, .ref q5, .ref q6, .ref q7, .ref q8, .ref q9, .ref q10, .ref q11, .int 0, .null, .null, .null, .null, .null, .null])), (q1, .inl (cI, 20, .inl (fun _ => 0))), (q2, .inl (cI, 60, .inl (fun _ => 0))), (q3, .inl (cI, 60, .inl (fun _ => 0))), (q4, .inl (cI, 60, .inl (fun _ => 0))), (q5, .inl (cI, 60, .inl (fun _ => 0))), (q6, .inl (cI, 60, .inl (fun _ => 0))), (q7, .inl (cI, 60, .inl (fun _ => 0))), (q8, .inl (cI, 80, .inl (fun _ => 0))), (q9, .inl (cI, 80, .inl (fun _ => 0))), (q10, .inl (cI, 80, .inl (fun _ => 0))), (q11, .inl (cI, 80, .inl (fun _ => 0))), (q12, .inl (cI, 300, .inl (fun _ => 0)))] := G
  refine z_putF (ws' := [(h0, .inr (5, [.int 0, .int 0, .int 0, .ref q1, .int 0, .ref q2, .ref q3, .ref q4, .ref q5, .ref q6, .ref q7, .ref q8, .ref q9, .ref q10, .ref q11, .int 0, .ref q12, .null, .null, .null, .null, .null])), (q1, .inl (cI, 20, .inl (fun _ => 0))), (q2, .inl (cI, 60, .inl (fun _ => 0))), (q3, .inl (cI, 60, .inl (fun _ => 0))), (q4, .inl (cI, 60, .inl (fun _ => 0))), (q5, .inl (cI, 60, .inl (fun _ => 0))), (q6, .inl (cI, 60, .inl (fun _ => 0))), (q7, .inl (cI, 60, .inl (fun _ => 0))), (q8, .inl (cI, 80, .inl (fun _ => 0))), (q9, .inl (cI, 80, .inl (fun _ => 0))), (q10, .inl (cI, 80, .inl (fun _ => 0))), (q11, .inl (cI, 80, .inl (fun _ => 0))), (q12, .inl (cI, 300, .inl (fun _ => 0)))]) E hK G i_M t_M t_M_ok n_M hmn 0 16 rfl rfl (by decide) kf_M_43 rfl rfl rfl rfl rfl (Nat.le_of_ble_eq_true rfl) rfl d_M_init_98 (fun H locs G => ?_)
  refine lv_aload_n hx hb d_M_init_101 rfl (lv_at hl 0 rfl) ?_
  refine lv_sipush (v := 300) hx hb d_M_init_102 (by decide) ?_
  refine z_newi (t0 := 0) (N := 300) E hK hA G ka_int rfl (by decide) (by decide) (by decide) (Nat.le_of_ble_eq_true rfl) (Nat.le_of_ble_eq_true rfl) d_M_init_105 (fun q13 H G => ?_)
  refine W.widen (k := 13) (n := 1300) (Nat.le_of_ble_eq_true rfl) (Nat.le_of_ble_eq_true rfl) ?_
  have G : zG D A s H _ [(h0, .inr (5, [.int 0, .int 0, .int 0, .ref q1, .int 0, .ref q2, .ref q3, .ref q4, .ref q5, .ref q6, .ref q7, .ref q8, .ref q9, .ref q10, .ref q11, .int 0, .ref q12, .null, .null, .null, .null, .null])), (q1, .inl (cI, 20, .inl (fun _ => 0))), (q2, .inl (cI, 60, .inl (fun _ => 0))), (q3, .inl (cI, 60, .inl (fun _ => 0))), (q4, .inl (cI, 60, .inl (fun _ => 0))), (q5, .inl (cI, 60, .inl (fun _ => 0))), (q6, .inl (cI, 60, .inl (fun _ => 0))), (q7, .inl (cI, 60, .inl (fun _ => 0))), (q8, .inl (cI, 80, .inl (fun _ => 0))), (q9, .inl (cI, 80, .inl (fun _ => 0))), (q10, .inl (cI, 80, .inl (fun _ => 0))), (q11, .inl (cI, 80, .inl (fun _ => 0))), (q12, .inl (cI, 300, .inl (fun _ => 0))), (q13, .inl (cI, 300, .inl (fun _ => 0)))] := G
  refine z_putF (ws' := [(h0, .inr (5, [.int 0, .int 0, .int 0, .ref q1, .int 0, .ref q2, .ref q3, .ref q4, .ref q5, .ref q6, .ref q7, .ref q8, .ref q9, .ref q10, .ref q11, .int 0, .ref q12, .ref q13, .null, .null, .null, .null])), (q1, .inl (cI, 20, .inl (fun _ => 0))), (q2, .inl (cI, 60, .inl (fun _ => 0))), (q3, .inl (cI, 60, .inl (fun _ => 0))), (q4, .inl (cI, 60, .inl (fun _ => 0))), (q5, .inl (cI, 60, .inl (fun _ => 0))), (q6, .inl (cI, 60, .inl (fun _ => 0))), (q7, .inl (cI, 60, .inl (fun _ => 0))), (q8, .inl (cI, 80, .inl (fun _ => 0))), (q9, .inl (cI, 80, .inl (fun _ => 0))), (q10, .inl (cI, 80, .inl (fun _ => 0))), (q11, .inl (cI, 80, .inl (fun _ => 0))), (q12, .inl (cI, 300, .inl (fun _ => 0))), (q13, .inl (cI, 300, .inl (fun _ => 0)))]) E hK G i_M t_M t_M_ok n_M hmn 0 17 rfl rfl (by decide) kf_M_46 rfl rfl rfl rfl rfl (Nat.le_of_ble_eq_true rfl) rfl d_M_init_107 (fun H locs G => ?_)
  refine lv_aload_n hx hb d_M_init_110 rfl (lv_at hl 0 rfl) ?_
  refine lv_sipush (v := 300) hx hb d_M_init_111 (by decide) ?_
  refine z_newi (t0 := 0) (N := 300) E hK hA G ka_int rfl (by decide) (by decide) (by decide) (Nat.le_of_ble_eq_true rfl) (Nat.le_of_ble_eq_true rfl) d_M_init_114 (fun q14 H G => ?_)
  refine W.widen (k := 14) (n := 1600) (Nat.le_of_ble_eq_true rfl) (Nat.le_of_ble_eq_true rfl) ?_
  have G : zG D A s H _ [(h0, .inr (5, [.int 0, .int 0, .int 0, .ref q1, .int 0, .ref q2, .ref q3, .ref q4, .ref q5, .ref q6, .ref q7, .ref q8, .ref q9, .ref q10, .ref q11, .int 0, .ref q12, .ref q13, .null, .null, .null, .null])), (q1, .inl (cI, 20, .inl (fun _ => 0))), (q2, .inl (cI, 60, .inl (fun _ => 0))), (q3, .inl (cI, 60, .inl (fun _ => 0))), (q4, .inl (cI, 60, .inl (fun _ => 0))), (q5, .inl (cI, 60, .inl (fun _ => 0))), (q6, .inl (cI, 60, .inl (fun _ => 0))), (q7, .inl (cI, 60, .inl (fun _ => 0))), (q8, .inl (cI, 80, .inl (fun _ => 0))), (q9, .inl (cI, 80, .inl (fun _ => 0))), (q10, .inl (cI, 80, .inl (fun _ => 0))), (q11, .inl (cI, 80, .inl (fun _ => 0))), (q12, .inl (cI, 300, .inl (fun _ => 0))), (q13, .inl (cI, 300, .inl (fun _ => 0))), (q14, .inl (cI, 300, .inl (fun _ => 0)))] := G
  refine z_putF (ws' := [(h0, .inr (5, [.int 0, .int 0, .int 0, .ref q1, .int 0, .ref q2, .ref q3, .ref q4, .ref q5, .ref q6, .ref q7, .ref q8, .ref q9, .ref q10, .ref q11, .int 0, .ref q12, .ref q13, .ref q14, .null, .null, .null])), (q1, .inl (cI, 20, .inl (fun _ => 0))), (q2, .inl (cI, 60, .inl (fun _ => 0))), (q3, .inl (cI, 60, .inl (fun _ => 0))), (q4, .inl (cI, 60, .inl (fun _ => 0))), (q5, .inl (cI, 60, .inl (fun _ => 0))), (q6, .inl (cI, 60, .inl (fun _ => 0))), (q7, .inl (cI, 60, .inl (fun _ => 0))), (q8, .inl (cI, 80, .inl (fun _ => 0))), (q9, .inl (cI, 80, .inl (fun _ => 0))), (q10, .inl (cI, 80, .inl (fun _ => 0))), (q11, .inl (cI, 80, .inl (fun _ => 0))), (q12, .inl (cI, 300, .inl (fun _ => 0))), (q13, .inl (cI, 300, .inl (fun _ => 0))), (q14, .inl (cI, 300, .inl (fun _ => 0)))]) E hK G i_M t_M t_M_ok n_M hmn 0 18 rfl rfl (by decide) kf_M_49 rfl rfl rfl rfl rfl (Nat.le_of_ble_eq_true rfl) rfl d_M_init_116 (fun H locs G => ?_)
  refine lv_aload_n hx hb d_M_init_119 rfl (lv_at hl 0 rfl) ?_
  refine lv_sipush (v := 300) hx hb d_M_init_120 (by decide) ?_
  refine z_newi (t0 := 0) (N := 300) E hK hA G ka_int rfl (by decide) (by decide) (by decide) (Nat.le_of_ble_eq_true rfl) (Nat.le_of_ble_eq_true rfl) d_M_init_123 (fun q15 H G => ?_)
  refine W.widen (k := 15) (n := 1900) (Nat.le_of_ble_eq_true rfl) (Nat.le_of_ble_eq_true rfl) ?_
  have G : zG D A s H _ [(h0, .inr (5, [.int 0, .int 0, .int 0, .ref q1, .int 0, .ref q2, .ref q3, .ref q4, .ref q5, .ref q6, .ref q7, .ref q8, .ref q9, .ref q10, .ref q11, .int 0, .ref q12, .ref q13, .ref q14, .null, .null, .null])), (q1, .inl (cI, 20, .inl (fun _ => 0))), (q2, .inl (cI, 60, .inl (fun _ => 0))), (q3, .inl (cI, 60, .inl (fun _ => 0))), (q4, .inl (cI, 60, .inl (fun _ => 0))), (q5, .inl (cI, 60, .inl (fun _ => 0))), (q6, .inl (cI, 60, .inl (fun _ => 0))), (q7, .inl (cI, 60, .inl (fun _ => 0))), (q8, .inl (cI, 80, .inl (fun _ => 0))), (q9, .inl (cI, 80, .inl (fun _ => 0))), (q10, .inl (cI, 80, .inl (fun _ => 0))), (q11, .inl (cI, 80, .inl (fun _ => 0))), (q12, .inl (cI, 300, .inl (fun _ => 0))), (q13, .inl (cI, 300, .inl (fun _ => 0))), (q14, .inl (cI, 300, .inl (fun _ => 0))), (q15, .inl (cI, 300, .inl (fun _ => 0)))] := G
  refine z_putF (ws' := [(h0, .inr (5, [.int 0, .int 0, .int 0, .ref q1, .int 0, .ref q2, .ref q3, .ref q4, .ref q5, .ref q6, .ref q7, .ref q8, .ref q9, .ref q10, .ref q11, .int 0, .ref q12, .ref q13, .ref q14, .ref q15, .null, .null])), (q1, .inl (cI, 20, .inl (fun _ => 0))), (q2, .inl (cI, 60, .inl (fun _ => 0))), (q3, .inl (cI, 60, .inl (fun _ => 0))), (q4, .inl (cI, 60, .inl (fun _ => 0))), (q5, .inl (cI, 60, .inl (fun _ => 0))), (q6, .inl (cI, 60, .inl (fun _ => 0))), (q7, .inl (cI, 60, .inl (fun _ => 0))), (q8, .inl (cI, 80, .inl (fun _ => 0))), (q9, .inl (cI, 80, .inl (fun _ => 0))), (q10, .inl (cI, 80, .inl (fun _ => 0))), (q11, .inl (cI, 80, .inl (fun _ => 0))), (q12, .inl (cI, 300, .inl (fun _ => 0))), (q13, .inl (cI, 300, .inl (fun _ => 0))), (q14, .inl (cI, 300, .inl (fun _ => 0))), (q15, .inl (cI, 300, .inl (fun _ => 0)))]) E hK G i_M t_M t_M_ok n_M hmn 0 19 rfl rfl (by decide) kf_M_52 rfl rfl rfl rfl rfl (Nat.le_of_ble_eq_true rfl) rfl d_M_init_125 (fun H locs G => ?_)
  refine lv_aload_n hx hb d_M_init_128 rfl (lv_at hl 0 rfl) ?_
  refine lv_sipush (v := 300) hx hb d_M_init_129 (by decide) ?_
  refine z_newi (t0 := 0) (N := 300) E hK hA G ka_int rfl (by decide) (by decide) (by decide) (Nat.le_of_ble_eq_true rfl) (Nat.le_of_ble_eq_true rfl) d_M_init_132 (fun q16 H G => ?_)
  refine W.widen (k := 16) (n := 2200) (Nat.le_of_ble_eq_true rfl) (Nat.le_of_ble_eq_true rfl) ?_
  have G : zG D A s H _ [(h0, .inr (5, [.int 0, .int 0, .int 0, .ref q1, .int 0, .ref q2, .ref q3, .ref q4, .ref q5, .ref q6, .ref q7, .ref q8, .ref q9, .ref q10, .ref q11, .int 0, .ref q12, .ref q13, .ref q14, .ref q15, .null, .null])), (q1, .inl (cI, 20, .inl (fun _ => 0))), (q2, .inl (cI, 60, .inl (fun _ => 0))), (q3, .inl (cI, 60, .inl (fun _ => 0))), (q4, .inl (cI, 60, .inl (fun _ => 0))), (q5, .inl (cI, 60, .inl (fun _ => 0))), (q6, .inl (cI, 60, .inl (fun _ => 0))), (q7, .inl (cI, 60, .inl (fun _ => 0))), (q8, .inl (cI, 80, .inl (fun _ => 0))), (q9, .inl (cI, 80, .inl (fun _ => 0))), (q10, .inl (cI, 80, .inl (fun _ => 0))), (q11, .inl (cI, 80, .inl (fun _ => 0))), (q12, .inl (cI, 300, .inl (fun _ => 0))), (q13, .inl (cI, 300, .inl (fun _ => 0))), (q14, .inl (cI, 300, .inl (fun _ => 0))), (q15, .inl (cI, 300, .inl (fun _ => 0))), (q16, .inl (cI, 300, .inl (fun _ => 0)))] := G
  refine z_putF (ws' := [(h0, .inr (5, [.int 0, .int 0, .int 0, .ref q1, .int 0, .ref q2, .ref q3, .ref q4, .ref q5, .ref q6, .ref q7, .ref q8, .ref q9, .ref q10, .ref q11, .int 0, .ref q12, .ref q13, .ref q14, .ref q15, .ref q16, .null])), (q1, .inl (cI, 20, .inl (fun _ => 0))), (q2, .inl (cI, 60, .inl (fun _ => 0))), (q3, .inl (cI, 60, .inl (fun _ => 0))), (q4, .inl (cI, 60, .inl (fun _ => 0))), (q5, .inl (cI, 60, .inl (fun _ => 0))), (q6, .inl (cI, 60, .inl (fun _ => 0))), (q7, .inl (cI, 60, .inl (fun _ => 0))), (q8, .inl (cI, 80, .inl (fun _ => 0))), (q9, .inl (cI, 80, .inl (fun _ => 0))), (q10, .inl (cI, 80, .inl (fun _ => 0))), (q11, .inl (cI, 80, .inl (fun _ => 0))), (q12, .inl (cI, 300, .inl (fun _ => 0))), (q13, .inl (cI, 300, .inl (fun _ => 0))), (q14, .inl (cI, 300, .inl (fun _ => 0))), (q15, .inl (cI, 300, .inl (fun _ => 0))), (q16, .inl (cI, 300, .inl (fun _ => 0)))]) E hK G i_M t_M t_M_ok n_M hmn 0 20 rfl rfl (by decide) kf_M_55 rfl rfl rfl rfl rfl (Nat.le_of_ble_eq_true rfl) rfl d_M_init_134 (fun H locs G => ?_)
  refine lv_aload_n hx hb d_M_init_137 rfl (lv_at hl 0 rfl) ?_
  refine lv_sipush (v := 300) hx hb d_M_init_138 (by decide) ?_
  refine z_newi (t0 := 0) (N := 300) E hK hA G ka_int rfl (by decide) (by decide) (by decide) (Nat.le_of_ble_eq_true rfl) (Nat.le_of_ble_eq_true rfl) d_M_init_141 (fun q17 H G => ?_)
  refine W.widen (k := 17) (n := 2500) (Nat.le_of_ble_eq_true rfl) (Nat.le_of_ble_eq_true rfl) ?_
  have G : zG D A s H _ [(h0, .inr (5, [.int 0, .int 0, .int 0, .ref q1, .int 0, .ref q2, .ref q3, .ref q4, .ref q5, .ref q6, .ref q7, .ref q8, .ref q9, .ref q10, .ref q11, .int 0, .ref q12, .ref q13, .ref q14, .ref q15, .ref q16, .null])), (q1, .inl (cI, 20, .inl (fun _ => 0))), (q2, .inl (cI, 60, .inl (fun _ => 0))), (q3, .inl (cI, 60, .inl (fun _ => 0))), (q4, .inl (cI, 60, .inl (fun _ => 0))), (q5, .inl (cI, 60, .inl (fun _ => 0))), (q6, .inl (cI, 60, .inl (fun _ => 0))), (q7, .inl (cI, 60, .inl (fun _ => 0))), (q8, .inl (cI, 80, .inl (fun _ => 0))), (q9, .inl (cI, 80, .inl (fun _ => 0))), (q10, .inl (cI, 80, .inl (fun _ => 0))), (q11, .inl (cI, 80, .inl (fun _ => 0))), (q12, .inl (cI, 300, .inl (fun _ => 0))), (q13, .inl (cI, 300, .inl (fun _ => 0))), (q14, .inl (cI, 300, .inl (fun _ => 0))), (q15, .inl (cI, 300, .inl (fun _ => 0))), (q16, .inl (cI, 300, .inl (fun _ => 0))), (q17, .inl (cI, 300, .inl (fun _ => 0)))] := G
  refine z_putF (ws' := [(h0, .inr (5, [.int 0, .int 0, .int 0, .ref q1, .int 0, .ref q2, .ref q3, .ref q4, .ref q5, .ref q6, .ref q7, .ref q8, .ref q9, .ref q10, .ref q11, .int 0, .ref q12, .ref q13, .ref q14, .ref q15, .ref q16, .ref q17])), (q1, .inl (cI, 20, .inl (fun _ => 0))), (q2, .inl (cI, 60, .inl (fun _ => 0))), (q3, .inl (cI, 60, .inl (fun _ => 0))), (q4, .inl (cI, 60, .inl (fun _ => 0))), (q5, .inl (cI, 60, .inl (fun _ => 0))), (q6, .inl (cI, 60, .inl (fun _ => 0))), (q7, .inl (cI, 60, .inl (fun _ => 0))), (q8, .inl (cI, 80, .inl (fun _ => 0))), (q9, .inl (cI, 80, .inl (fun _ => 0))), (q10, .inl (cI, 80, .inl (fun _ => 0))), (q11, .inl (cI, 80, .inl (fun _ => 0))), (q12, .inl (cI, 300, .inl (fun _ => 0))), (q13, .inl (cI, 300, .inl (fun _ => 0))), (q14, .inl (cI, 300, .inl (fun _ => 0))), (q15, .inl (cI, 300, .inl (fun _ => 0))), (q16, .inl (cI, 300, .inl (fun _ => 0))), (q17, .inl (cI, 300, .inl (fun _ => 0)))]) E hK G i_M t_M t_M_ok n_M hmn 0 21 rfl rfl (by decide) kf_M_58 rfl rfl rfl rfl rfl (Nat.le_of_ble_eq_true rfl) rfl d_M_init_143 (fun H locs G => ?_)
  exact mk_M0 (a := (fun j => ([h0, q1, q2, q3, q4, q5, q6, q7, q8, q9, q10, q11, q12, q13, q14, q15, q16, q17] : List Nat).getD j 0)) E hrt hlk hmn hN hK hA ⟨_, rfl, rfl⟩ H locs G ls hl
