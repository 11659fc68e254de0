/-! 'throw new NoSuchElementException(text)', and a call that throws, caught by the caller's one handler; calls walked in place -/
def NSE : String := "java/util/NoSuchElementException"
def nseN : List String := ["java/lang/RuntimeException", "java/lang/Exception"]
def zXw : List Cond := Bundle.ownAtoms R_X 178 NSE nseN
def zL1 : Cond := .laysStatic "java/lang/Throwable" "UNASSIGNED_STACK" "[Ljava/lang/StackTraceElement;"
def zL2 : Cond := .laysStatic "java/lang/Throwable" "SUPPRESSED_SENTINEL" "Ljava/util/List;"
def zI1 : Cond := .isRef (.static "java/lang/Throwable" "UNASSIGNED_STACK" "[Ljava/lang/StackTraceElement;")
def zI2 : Cond := .isRef (.static "java/lang/Throwable" "SUPPRESSED_SENTINEL" "Ljava/util/List;")
/-- what a throw needs of a state -/
def zTx (U : State) : Prop := (∀ w ∈ zXw, ∀ A : Array Value, w.before A U = true) ∧ (∃ a, vk_R R_X 176 "no such request" a U) ∧ (∃ a, vk_R R_X 196 "nothing such of a request" a U) ∧ ∃ a, vk_R R_X 198 "no such open request" a U
theorem z_face {w : Cond} {args A : Array Value} {s U : State} (hk : (w.onTables && w.keepsFace) = true) (hW : s.WarmedH U.vm) (h : w.before args s = true) : w.before A U = true := by
  simp only [Bool.and_eq_true] at hk
  have h1 := Cond.before_shiftedFace (State.Shifted.of_warmed hW) w hk.2 h
  exact va_tabs hk.1 (rfl : (s.setVm U.vm).vm = U.vm) h1
theorem z_ls {C n d : String} {args A : Array Value} {s U : State} (hvm : s.vm.Alike U.vm) (hh : ∀ q : Nat, q < s.heap.size → U.heap[q]? = s.heap[q]?) (h : (Cond.laysStatic C n d).before args s = true) : (Cond.laysStatic C n d).before A U = true := by
  obtain ⟨c, k, i, f, a, cell, h1, h2, h3, h4, h5, h6, h7, h8, h9⟩ := Cond.laysStatic_spec h
  obtain ⟨k', hi', he⟩ := State.fieldFound?_setVm hvm h2
  have hlt := (Array.getElem?_eq_some_iff.mp h5).1
  show (Cond.laysStatic C n d).holds A U none U [] = true
  exact Cond.laysStatic_of (by rw [hvm.findClass]; exact h1) hi' h3 (by rw [he]; exact h4) (by rw [hh a hlt]; exact h5) h6 h7 h8 (by rw [he]; exact h9)
theorem z_ir0 {C n d : String} {A : Array Value} {U : State} {v : Value} {B : Nat → Prop} (h : va_Z C n d v B U U.heap) (hv : v.isRef = true) : (Cond.isRef (.static C n d)).before A U = true := by
  obtain ⟨cf, kf, fi, f, a, cell, h1, h2, h3, h4, h5, h6, h7, -⟩ := h
  have he : (Term.static C n d).eval A U none [] U = some v := by
    simp [Term.eval, State.fieldNamed?, h1, h2, h4, h5, h6, h7]
  simp only [Cond.before, Cond.holds, Cond.value, he]
  cases v <;> simp_all [Value.isRef]
theorem z_ir {C n d : String} {args A : Array Value} {s U : State} (hvm : s.vm.Alike U.vm) (hh : ∀ q : Nat, q < s.heap.size → U.heap[q]? = s.heap[q]?) (hl : (Cond.laysStatic C n d).before args s = true) (hini : (Cond.initialized C).before args s = true) (h : (Cond.isRef (.static C n d)).before args s = true) : (Cond.isRef (.static C n d)).before A U = true := by
  have z := va_Zqof (A := fun q => s.heap.size ≤ q) hl hini h (fun a ha hq => absurd ha (Nat.not_lt.mpr hq))
  have z2 : va_Zq C n d (fun q => s.heap.size ≤ q) U U.heap := va_Zq.moved hvm (va_Zq.kept z (fun a ha _ => hh a ha))
  rcases z2 with z3 | ⟨t, z3⟩
  · exact z_ir0 z3 rfl
  · exact z_ir0 z3 rfl
theorem zXw_kinds : ∀ w ∈ zXw, (w.onTables && w.keepsFace) = true ∨ w = zL1 ∨ w = zL2 ∨ w = zI1 ∨ w = zI2 := by decide +kernel
theorem zXw_has : zL1 ∈ zXw ∧ zL2 ∈ zXw ∧ Cond.initialized "java/lang/Throwable" ∈ zXw := by decide +kernel
theorem zTx.go {s U : State} (hW : s.WarmedH U.vm) (hh : ∀ q : Nat, q < s.heap.size → U.heap[q]? = s.heap[q]?) (h : zTx s) : zTx U := by
  obtain ⟨h1, ⟨a1, r1⟩, ⟨a2, r2⟩, ⟨a3, r3⟩⟩ := h
  refine ⟨fun w hw A => ?_, ⟨a1, vk_R.warm hW r1⟩, ⟨a2, vk_R.warm hW r2⟩, ⟨a3, vk_R.warm hW r3⟩⟩
  rcases zXw_kinds w hw with k | rfl | rfl | rfl | rfl
  · exact z_face (args := A) k hW (h1 w hw A)
  · exact z_ls (args := A) hW.alike hh (h1 _ hw A)
  · exact z_ls (args := A) hW.alike hh (h1 _ hw A)
  · exact z_ir (args := A) hW.alike hh (h1 _ zXw_has.1 A) (h1 _ zXw_has.2.2 A) (h1 _ hw A)
  · exact z_ir (args := A) hW.alike hh (h1 _ zXw_has.2.1 A) (h1 _ zXw_has.2.2 A) (h1 _ hw A)
/-- the end of a method that has thrown -/
def zXQ (below : List Frame) (s : State) : State → Prop := fun t => ∃ (q : Addr) (ce : Cell), t.status = .running ∧ Ended t below (.threw q) ∧ s.WarmedH t.vm ∧ s.sameButNew ({ t with vm := s.vm } : State) [] 1 6 ∧ t.heap[q]? = some ce ∧ ce.vm = .none ∧ s.vm.findClass NSE = some ce.cls
section ZX
variable {p : Program} {l : Launch} {e : Env} {R : Room} {s : State} {m : MethodId} {args : Array Value} {below : List Frame} {meth : Method} {c : Code} {H : Heap} {locs : List Loc} {cells slots : Nat} {Q : State → Prop}
variable {cc : ByteArray} {pc nL : Nat} {ls : Array Slot} {rest : List Value} {D : va_G} {A : Nat → Prop} {tys : List (ClassId × FieldType)} {ws : va_W}
set_option maxHeartbeats 1000000 in
theorem z_throw {is : Nat} {text : String} (E : CallFix p m c cc nL s args zB R_X) (hlk : meth.locks = false) (hfl : l.flags = flags0) (hZ : zTx s) (hl : ls.size = nL) (hs : ∃ a, vk_R R_X is text a s) (k1 : Cond.classLink R_X 174 NSE ∈ zB) (k2 : Cond.initialized NSE ∈ zB) (k3 : Cond.instantiable NSE 6 ∈ zB)
    (d0 : decode cc pc = .ok (.new 174, 3)) (d3 : decode cc (pc + 3) = .ok (.dup, 1)) (d4 : decode cc (pc + 4) = .ok (.ldc is, 2)) (d6 : decode cc (pc + 6) = .ok (.invokespecial 178, 3)) (d9 : decode cc (pc + 9) = .ok (.athrow, 1)) (hex : c.exceptionTable.toList = [])
    (hfr : 5 < R.frames) (hlo : 100 ≤ R.locals) (hce : 1 ≤ R.cells) (hsl : 6 ≤ R.slots) : W p l e R s m args below meth c s.heap [] 0 0 (zXQ below s) (F0 m pc ls []) := by
  intro T hT X
  obtain ⟨hx, hb, hml, hown, hts⟩ := id E
  have htr : e.platform.stackTraces = false := Launch.traces_off hfl X.admits
  obtain ⟨sa, hsa⟩ := hs
  have hs1 : (Cond.stringRef R_X is text).before args s = true := by
    have h1 := hsa.1
    simp only [Cond.before, Cond.holds, Cond.value] at h1 ⊢
    exact h1
  have hs2 : (Term.string R_X is).eval args s none [] s = some (.ref sa) := by
    have h2 := hsa.2
    simp only [Term.eval] at h2 ⊢
    exact h2
  obtain ⟨vm₁, cX, kX, hfX, hkX, -, -, X₁, st1⟩ := X.newCold hx (own := R_X) (C := NSE) (index := 174) (n := 6) hown (hts _ k1) (hts _ k3) (hts _ k2) (g := F0 m pc ls []) rfl (by rw [hb]; exact d0) (by omega) (by omega)
  have hnew : s.heap.size ≤ T.heap.size := by rw [hT]; exact Nat.le_refl _
  have hcellA : ((T.setVm vm₁).pushCell { cls := cX, slots := kX.instanceTypes.map defaultValue, vm := .none }).heap[T.heap.size]? = some (freshCell cX kX) := State.heap_pushCell_size _ _
  generalize hT1 : (T.setVm vm₁).pushCell { cls := cX, slots := kX.instanceTypes.map defaultValue, vm := .none } = T1 at X₁ st1 hcellA
  have d3' : decode c.code (pc + 3) = .ok (.dup, 1) := by rw [hb]; exact d3
  have d4' : decode c.code (pc + 4) = .ok (.ldc is, 2) := by rw [hb]; exact d4
  have d6' : decode c.code (pc + 6) = .ok (.invokespecial 178, 3) := by rw [hb]; exact d6
  have d9' : decode c.code (pc + 6 + 3) = .ok (.athrow, 1) := by rw [hb]; exact d9
  obtain ⟨U, st, hrun, hend, hW, hsame, ce, hce9, hoc⟩ := X₁.ctorThrowS hx htr (own := R_X) (cls := NSE) (names := nseN) (ic := 178) hown (by decide +kernel) (by decide +kernel) (fun w hw => hZ.1 w hw args) (fun x hx => nomatch hx) hfX hkX hcellA hnew (msg := .ref sa) rfl
    (g := { method := m, pc := pc + 6, locals := ls, stack := .ref sa :: .ref T.heap.size :: .ref T.heap.size :: [], locked := none }) rfl (hl.trans hml.symm) rfl rfl (rest := []) rfl d6' d9' (fun x hx => by rw [hex] at hx; cases hx) (by show 2 + 3 < R.frames; omega) (by show 2 * 0 + 1 + (13 * (2 + 1) + 42) ≤ R.locals; omega) hlk
  refine ⟨U, st1 _ ?_, T.heap.size, ce, hrun, hend, hW, ?_, hce9, hoc.vm, hoc.cls⟩
  · show Steps p.tables e below (T1.setTop { method := m, pc := pc + 3, locals := ls, stack := .ref T.heap.size :: [], locked := none }) _
    jvm_step X₁.here [X₁.here.top, hx, d3', Value.category]
    exact X₁.ldcString hx (own := R_X) (text := text) (index := is) (a := sa) hown hs1 hs2 (g := { method := m, pc := pc + 4, locals := ls, stack := .ref T.heap.size :: .ref T.heap.size :: [], locked := none }) rfl d4' _ st
  · exact hsame.mono (by omega) (by omega)
end ZX
