/-! the law's start: what the tables give, 'cell', the two objects and the long -/
section ZD
variable {p : Program} {l : Launch} {e : Env} {R : Room} {s : State} {m : MethodId} {args : Array Value} {below : List Frame} {meth : Method} {c : Code} {H : Heap} {locs : List Loc} {cells slots : Nat} {Q : State → Prop}
variable {cc : ByteArray} {pc nL : Nat} {ls : Array Slot} {rest : List Value} {D : va_G} {A : Nat → Prop} {tys : List (ClassId × FieldType)} {ws : va_W}
theorem z_newl {own : String} {cJ : ClassId} {n : Int32} {N t0 : Nat} (E : CallFix p m c cc nL s args zB own) (hK : va_K D vwCl tys s) (hA : ∀ q, s.heap.size ≤ q → A q) (G : zG D A s H locs ws) (harr : Cond.arrayClass .long ∈ zB) (ht : tys[t0]? = some (cJ, .long)) (hn : ¬ n < 0) (hN : n.toNatClampNeg = N) (hbytes : N * componentBytes .long ≤ 536870912) (hcells : cells + 1 ≤ R.cells) (hslots : slots + N ≤ R.slots) (hdg : decode cc pc = .ok (.newarray .long, 2))
    (kk : ∀ (q : Nat) (H1 : Heap), zG D A s H1 locs (ws ++ [(q, .inl (cJ, N, .inr (.inl (fun _ => 0))))]) → W p l e R s m args below meth c H1 locs (cells + 1) (slots + N) Q (F0 m (pc + 2) ls (.ref q :: rest))) : W p l e R s m args below meth c H locs cells slots Q (F0 m pc ls (.int n :: rest)) := by
  refine va_newa (atype := .long) (ty := .long) (a0 := (N, .inr (.inl (fun _ => 0)))) E.1 E.2.1 (E.2.2.2.2 _ harr) rfl hK G.1 G.2.1 G.2.2 hA (fun cA => rfl) hn hN hbytes hcells hslots hdg (fun q cA H1 hK1 hP1 hD1 hS1 => ?_)
  have h1 := (hK1.2 tys.length (cA, .long) (by simp [newarray.typeOf])).2
  have h2 := (hK.2 t0 _ ht).2
  have h3 : cA = cJ := Option.some.inj (h1.symm.trans h2)
  subst h3
  exact kk q H1 ⟨hP1, hD1, hS1⟩
end ZD
def lwV (L : Nat) (xs : Nat → Int32) : Int32 := if 0 < L then xs 0 else 0
theorem c_L_cell (l : Launch) (b L : Nat) (xs : Nat → Int32) (hL : L ≤ 2049) : Met l y_L_cell (Cond.code y_L_cell b_L_cell 2 (some .int) :: zB) { frames := 0, cells := 0, slots := 0, locals := 0 } (va_Pc [.ref b, .int 0] (fun U => va_X b L xs U U.heap ∧ b < U.heap.size)) (QcRead (lwV L xs)) 0 0 (fun _ => False) := by
  refine Met.ofW (cc := b_L_cell) (maxL := 2) (ret := some .int) (by decide) rfl ?_
  intro p e s m args below meth c s₁ B hml hv
  obtain ⟨rfl, hX, hbl⟩ := hv
  have hts := atoms_spec (ws := Cond.code y_L_cell b_L_cell 2 (some .int) :: zB) B.pre
  have hown : s.vm.findClass y_L_cell.cls = some m.cls := findClass_of_methodNamed B.named
  have hl := lv_entry ([.ref b, .int 0] : List Value) (n := 2) (Nat.le_of_ble_eq_true rfl)
  rw [lg_entry_eq]
  have E : CallFix p m c b_L_cell 2 s ([.ref b, .int 0] : List Value).toArray zB R_L := ⟨B.exec, B.bytes, hml, hown, fun w hw => hts w (List.mem_cons_of_mem _ hw)⟩
  generalize (lg_sl ([.ref b, .int 0] : List Value) ++ List.replicate (2 - (lg_sl ([.ref b, .int 0] : List Value)).length) Slot.unset).toArray = ls at hl ⊢
  have hl : lv_has ls 2 [(0, .ref b), (1, .int 0)] := hl
  have hx := E.1
  have hb := E.2.1
  have hbA : ¬ (fun _ : Nat => False) b := id
  refine lv_iload_n hx hb d_L_cell_0 rfl (lv_at hl 1 rfl) ?_
  refine lv_aload_n hx hb d_L_cell_1 rfl (lv_at hl 0 rfl) ?_
  refine va_slen (A := fun _ => False) hx hb hX hbl hbA va_S.rf d_L_cell_2 ?_
  refine lv_icmp_ge (tgt := 12) hx hb d_L_cell_3 (by decide) (fun c_1 => ?_) (fun c_1 => ?_)
  · have h0 : ¬ 0 < L := fun z => nI_nle z (by omega) c_1
    refine lv_iconst (v := 0) hx hb d_L_cell_12 (by decide) ?_
    exact zR.iret E B.returns B.notSynchronized (by unfold lwV; rw [if_neg h0]) d_L_cell_13
  · have h0 : 0 < L := by
      rcases Nat.eq_zero_or_pos L with z | z
      · subst z; exact absurd (by decide) c_1
      · exact z
    refine lv_aload_n hx hb d_L_cell_6 rfl (lv_at hl 0 rfl) ?_
    refine lv_iload_n hx hb d_L_cell_7 rfl (lv_at hl 1 rfl) ?_
    refine va_sld (A := fun _ => False) hx hb hX hbl hbA va_S.rf (vp_in_nI (n := 0) h0 (by omega)) d_L_cell_8 ?_
    refine lv_goto (tgt := 13) hx hb d_L_cell_9 (by decide) ?_
    exact zR.iret E B.returns B.notSynchronized (by unfold lwV; rw [if_pos h0]; rfl) d_L_cell_13
section ZE
variable {p : Program} {l : Launch} {e : Env} {R : Room} {s : State} {m : MethodId} {args : Array Value} {below : List Frame} {meth : Method} {c : Code} {H : Heap} {locs : List Loc} {cells slots : Nat} {Q : State → Prop}
variable {cc : ByteArray} {pc nL : Nat} {ls : Array Slot} {rest : List Value} {A : Nat → Prop}
theorem z_cell {b L : Nat} {xs : Nat → Int32} (hL : L ≤ 2049) (E : CallFix p m c cc nL s args zB R_L) (hX : va_X b L xs s s.heap) (hbl : b < s.heap.size) (hbA : ¬ A b) (hS : va_S A s.heap H locs) (hl : ls.size = nL) (hz : zCs R_L 18 y_L_cell b_L_cell 2 (some .int) 2) (hroom : 0 + 1 ≤ R.frames ∧ 8 + (2 + 11) + 0 ≤ R.locals) (hcat : (rest.map fun v => v.category).sum ≤ 8) (hcs : cells ≤ R.cells ∧ slots ≤ R.slots) (hdg : decode cc pc = .ok (.invokestatic 18, 3))
    (kk : W p l e R s m args below meth c H locs cells slots Q (F0 m (pc + 3) ls (.int (lwV L xs) :: rest))) : W p l e R s m args below meth c H locs cells slots Q (F0 m pc ls (.int 0 :: .ref b :: rest)) := by
  obtain ⟨k1, k2, k4, k5, k6, k7⟩ := hz
  have hts := E.2.2.2.2
  have hX1 : va_X b L xs s H := va_X.kept hX (hS.2.1 b hbl hbA)
  exact W.callR (va_Run.run (va_runS (As := [.ref b, .int 0]) (rest := rest) E (c_L_cell l b L xs hL) ⟨⟨rfl, rfl, hroom.1, hroom.2, pay_in hts (z_good k5), List.mem_cons_self, hts _ k5, hts _ k4, k6, z_len k7, hts _ k1⟩, hts _ k2⟩ ⟨fun a U g mk q => ⟨q.1, va_X.moved (u := U) (U := U.calling g mk a) (Vm.Alike.refl U.vm) q.2.1, q.2.2⟩, fun U hU hW => ⟨rfl, by rw [hU]; exact va_X.moved hW.alike hX1, by rw [hU]; exact Nat.lt_of_lt_of_le hbl hS.1⟩⟩ rfl rfl hl rfl (lv_room hcat) hdg hcs)) kk
end ZE
/-! what a throw needs, at the start -/
theorem zXw_in : ∀ w ∈ zXw, w ∈ lw_tbl ∨ w = zI1 ∨ w = zI2 := by decide +kernel
theorem zTx_start {s : State} {args : Array Value} (hts : ∀ w ∈ lw_tbl, w.before args s = true) (hgv : (Jvm.Cond.and given_1 narrow_1).before args s = true) : zTx s := by
  have hs := flat_of_before _ hgv
  have h0 : ∀ w ∈ zXw, w.before args s = true := by
    intro w hw
    rcases zXw_in w hw with h | rfl | rfl
    · exact hts w h
    · exact hs zI1 (by decide +kernel)
    · exact hs zI2 (by decide +kernel)
  obtain ⟨cur, kc, hcur, -⟩ := Cond.instantiable_spec (hts (.instantiable R_X 5) (by decide +kernel))
  have str : ∀ (k : Nat) (tx : String), Cond.stringRef R_X k tx ∈ lw_tbl → ∃ a, vk_R R_X k tx a s := by
    intro k tx h
    obtain ⟨-, -, -, a, -, -, -, -, -, hev⟩ := Cond.stringRef_spec (first := s) (o := none) (idx := []) hcur (show (Cond.stringRef R_X k tx).holds args s none s [] = true from hts _ h)
    exact ⟨a, vk_R.of (hts _ h) hev⟩
  refine ⟨fun w hw A => ?_, str 176 _ (by decide +kernel), str 196 _ (by decide +kernel), str 198 _ (by decide +kernel)⟩
  rcases zXw_kinds w hw with k | rfl | rfl | rfl | rfl
  · exact z_face (args := args) k (State.WarmedH.refl s) (h0 w hw)
  · exact z_ls (args := args) (Vm.Alike.refl s.vm) (fun q _ => rfl) (h0 _ hw)
  · exact z_ls (args := args) (Vm.Alike.refl s.vm) (fun q _ => rfl) (h0 _ hw)
  · exact z_ir (args := args) (Vm.Alike.refl s.vm) (fun q _ => rfl) (h0 _ zXw_has.1) (h0 _ zXw_has.2.2) (h0 _ hw)
  · exact z_ir (args := args) (Vm.Alike.refl s.vm) (fun q _ => rfl) (h0 _ zXw_has.2.1) (h0 _ zXw_has.2.2) (h0 _ hw)
theorem zN_start {s : State} {args : Array Value} (hts : ∀ w ∈ lw_tbl, w.before args s = true) : zN s := by
  intro w hw
  obtain ⟨h1, h2⟩ := List.mem_filter.mp hw
  cases w <;> first | exact va_Nw.of rfl (hts _ h1) | (simp [zIsN] at h2; done)
theorem arr_start {s : State} {args : Array Value} {ty : FieldType} (h : (Cond.arrayClass ty).before args s = true) : ∃ cA : ClassId, s.vm.findClass ("[" ++ ty.toString) = some cA ∧ ArrOfT s cA ty := by
  obtain ⟨cA, kA, comp, h1, h2, h3⟩ := Cond.arrayClass_spec h
  exact ⟨cA, h1, fun n z => ⟨fun k h => (by cases h), kA, h2, comp, h3⟩⟩
theorem zK_start {s : State} {args : Array Value} (hts : ∀ w ∈ zB, w.before args s = true) (k0 : Cond.instantiable R_H 4 ∈ zB) (k1 : Cond.instantiable R_R 5 ∈ zB) (k2 : Cond.instantiable R_Q 7 ∈ zB) (k3 : Cond.instantiable R_S 4 ∈ zB) (k4 : Cond.instantiable R_X 5 ∈ zB) (k5 : Cond.instantiable R_M 22 ∈ zB) (a1 : Cond.arrayClass .int ∈ zB) (a2 : Cond.arrayClass .long ∈ zB) : ∃ (D : va_G) (cI cJ : ClassId), va_K D vwCl [(cI, .int), (cJ, .long)] s := by
  obtain ⟨c0, iS0, hKn0⟩ := u_known (C := R_H) (T := F_H) (N := 4) (n := 4) hts i_H (hts _ k0)
  obtain ⟨c1, iS1, hKn1⟩ := u_known (C := R_R) (T := F_R) (N := 5) (n := 5) hts i_R (hts _ k1)
  obtain ⟨c2, iS2, hKn2⟩ := u_known (C := R_Q) (T := F_Q) (N := 7) (n := 7) hts i_Q (hts _ k2)
  obtain ⟨c3, iS3, hKn3⟩ := u_known (C := R_S) (T := F_S) (N := 4) (n := 4) hts i_S (hts _ k3)
  obtain ⟨c4, iS4, hKn4⟩ := u_known (C := R_X) (T := F_X) (N := 5) (n := 5) hts i_X (hts _ k4)
  obtain ⟨c5, iS5, hKn5⟩ := u_known (C := R_M) (T := F_M) (N := 22) (n := 22) hts i_M (hts _ k5)
  obtain ⟨cI, hI, hAI⟩ := arr_start (hts _ a1)
  obtain ⟨cJ, hJ, hAJ⟩ := arr_start (hts _ a2)
  refine ⟨(fun k => match k with
    | 0 => c0
    | 1 => c1
    | 2 => c2
    | 3 => c3
    | 4 => c4
    | _ => c5, fun k => match k with
    | 0 => iS0
    | 1 => iS1
    | 2 => iS2
    | 3 => iS3
    | 4 => iS4
    | _ => iS5), cI, cJ, ?_, ?_⟩
  · intro k q hq
    match k, hq with
    | 0, hq => cases hq; exact hKn0
    | 1, hq => cases hq; exact hKn1
    | 2, hq => cases hq; exact hKn2
    | 3, hq => cases hq; exact hKn3
    | 4, hq => cases hq; exact hKn4
    | 5, hq => cases hq; exact hKn5
    | k + 6, hq => simp [vwCl] at hq
  · intro k q hq
    match k, hq with
    | 0, hq => cases hq; exact ⟨hAI, hI⟩
    | 1, hq => cases hq; exact ⟨hAJ, hJ⟩
    | k + 2, hq => simp at hq
