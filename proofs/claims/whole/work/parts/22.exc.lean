/-! 'throw new NoSuchElementException(text)', and a call that throws, caught by the caller's one handler; calls walked in place -/
def NSE : String := "java/util/NoSuchElementException"
/-- this JDK's constructor of NoSuchElementException with a text: its own link has the number 13 -/
def nseB : ByteArray := ⟨#[0x2a, 0x2b, 0xb7, 0x00, 0x0d, 0xb1]⟩
theorem nseB_0 : decode nseB 0 = .ok (.aload_n 0, 1) := by decide +kernel
theorem nseB_1 : decode nseB 1 = .ok (.aload_n 1, 1) := by decide +kernel
theorem nseB_2 : decode nseB 2 = .ok (.invokespecial 13, 3) := by decide +kernel
theorem nseB_5 : decode nseB 5 = .ok (.return_, 1) := by decide +kernel
def rteN : String := "java/lang/RuntimeException"
def zXb : List Cond := [.methodLink R_X 178 (Bundle.initS NSE), .instantiable NSE 6, .castable NSE NSE, .selects NSE Bundle.tFill0 Bundle.tFill0, .selects NSE Bundle.tFill Bundle.tFill, .lays NSE Bundle.tN "cause" "Ljava/lang/Throwable;", .lays NSE Bundle.tN "stackTrace" Bundle.steD, .lays NSE Bundle.tN "suppressedExceptions" Bundle.listD, .lays NSE Bundle.tN "detailMessage" "Ljava/lang/String;", .isRef (.static Bundle.tN "UNASSIGNED_STACK" Bundle.steD), .isRef (.static Bundle.tN "SUPPRESSED_SENTINEL" Bundle.listD), .fieldLink Bundle.tN 198 Bundle.tN "backtrace" "Ljava/lang/Object;", .lays Bundle.tN Bundle.tN "backtrace" "Ljava/lang/Object;", .lays NSE Bundle.tN "backtrace" "Ljava/lang/Object;"]
def zXw : List Cond := Bundle.throwableAtoms ++ (Bundle.throwableSAtoms ++ (Bundle.passSAtoms NSE rteN 13 nseB ++ (Bundle.chainSAtoms rteN ["java/lang/Exception"] ++ zXb)))
theorem zXw_1 {w : Cond} (h : w ∈ Bundle.throwableAtoms) : w ∈ zXw := List.mem_append_left _ h
theorem zXw_2 {w : Cond} (h : w ∈ Bundle.throwableSAtoms) : w ∈ zXw := List.mem_append_right _ (List.mem_append_left _ h)
theorem zXw_3 {w : Cond} (h : w ∈ Bundle.passSAtoms NSE rteN 13 nseB) : w ∈ zXw := List.mem_append_right _ (List.mem_append_right _ (List.mem_append_left _ h))
theorem zXw_4 {w : Cond} (h : w ∈ Bundle.chainSAtoms rteN ["java/lang/Exception"]) : w ∈ zXw := List.mem_append_right _ (List.mem_append_right _ (List.mem_append_right _ (List.mem_append_left _ h)))
theorem zXw_5 (i : Nat) {w : Cond} (h : zXb[i]? = some w) : w ∈ zXw := List.mem_append_right _ (List.mem_append_right _ (List.mem_append_right _ (List.mem_append_right _ (List.mem_of_getElem? h))))
def zL1 : Cond := .laysStatic "java/lang/Throwable" "UNASSIGNED_STACK" "[Ljava/lang/StackTraceElement;"
def zL2 : Cond := .laysStatic "java/lang/Throwable" "SUPPRESSED_SENTINEL" "Ljava/util/List;"
def zI1 : Cond := .isRef (.static "java/lang/Throwable" "UNASSIGNED_STACK" "[Ljava/lang/StackTraceElement;")
def zI2 : Cond := .isRef (.static "java/lang/Throwable" "SUPPRESSED_SENTINEL" "Ljava/util/List;")
/-- what a throw needs of a state -/
def zTx (U : State) : Prop := (∀ w ∈ zXw, ∀ A : Array Value, w.before A U = true) ∧ (∃ a, vk_R R_X 176 "no such request" a U) ∧ (∃ a, vk_R R_X 196 "nothing such of a request" a U) ∧ ∃ a, vk_R R_X 198 "no such open request" a U
theorem z_face {w : Cond} {args A : Array Value} {s U : State} (hk : (w.onTables && w.keepsFace) = true) (hW : s.WarmedH U.vm) (h : w.before args s = true) : w.before A U = true := by
  simp only [Bool.and_eq_true] at hk
  have h1 := Cond.before_shiftedFace (State.Shifted.of_warmed hW) w hk.2 h
  exact va_tabs hk.1 (rfl : (s.setVm U.vm).vm = U.vm) h1
theorem z_ls {C n d : String} {args A : Array Value} {s U : State} (hvm : s.vm.Alike U.vm) (hh : ∀ q : Nat, q < s.heap.size → U.heap[q]? = s.heap[q]?) (h : (Cond.laysStatic C n d).before args s = true) : (Cond.laysStatic C n d).before A U = true := by
  obtain ⟨c, k, i, f, a, cell, h1, h2, h3, h4, h5, h6, h7, h8, h9⟩ := Cond.laysStatic_spec h
  obtain ⟨k', hi', he⟩ := State.fieldFound?_setVm hvm h2
  have hlt := (Array.getElem?_eq_some_iff.mp h5).1
  show (Cond.laysStatic C n d).holds A U none U [] = true
  exact Cond.laysStatic_of (by rw [hvm.findClass]; exact h1) hi' h3 (by rw [he]; exact h4) (by rw [hh a hlt]; exact h5) h6 h7 h8 (by rw [he]; exact h9)
theorem z_ir0 {C n d : String} {A : Array Value} {U : State} {v : Value} {B : Nat → Prop} (h : va_Z C n d v B U U.heap) (hv : v.isRef = true) : (Cond.isRef (.static C n d)).before A U = true := by
  obtain ⟨cf, kf, fi, f, a, cell, h1, h2, h3, h4, h5, h6, h7, -⟩ := h
  have he : (Term.static C n d).eval A U none [] U = some v := by
    simp [Term.eval, State.fieldNamed?, h1, h2, h4, h5, h6, h7]
  simp only [Cond.before, Cond.holds, Cond.value, he]
  cases v <;> simp_all [Value.isRef]
theorem z_ir {C n d : String} {args A : Array Value} {s U : State} (hvm : s.vm.Alike U.vm) (hh : ∀ q : Nat, q < s.heap.size → U.heap[q]? = s.heap[q]?) (hl : (Cond.laysStatic C n d).before args s = true) (hini : (Cond.initialized C).before args s = true) (h : (Cond.isRef (.static C n d)).before args s = true) : (Cond.isRef (.static C n d)).before A U = true := by
  have z := va_Zqof (A := fun q => s.heap.size ≤ q) hl hini h (fun a ha hq => absurd ha (Nat.not_lt.mpr hq))
  have z2 : va_Zq C n d (fun q => s.heap.size ≤ q) U U.heap := va_Zq.moved hvm (va_Zq.kept z (fun a ha _ => hh a ha))
  rcases z2 with z3 | ⟨t, z3⟩
  · exact z_ir0 z3 rfl
  · exact z_ir0 z3 rfl
theorem zXw_kinds : ∀ w ∈ zXw, (w.onTables && w.keepsFace) = true ∨ w = zL1 ∨ w = zL2 ∨ w = zI1 ∨ w = zI2 := by decide +kernel
theorem zXw_has : zL1 ∈ zXw ∧ zL2 ∈ zXw ∧ Cond.initialized "java/lang/Throwable" ∈ zXw := by decide +kernel
theorem zTx.go {s U : State} (hW : s.WarmedH U.vm) (hh : ∀ q : Nat, q < s.heap.size → U.heap[q]? = s.heap[q]?) (h : zTx s) : zTx U := by
  obtain ⟨h1, ⟨a1, r1⟩, ⟨a2, r2⟩, ⟨a3, r3⟩⟩ := h
  refine ⟨fun w hw A => ?_, ⟨a1, vk_R.warm hW r1⟩, ⟨a2, vk_R.warm hW r2⟩, ⟨a3, vk_R.warm hW r3⟩⟩
  rcases zXw_kinds w hw with k | rfl | rfl | rfl | rfl
  · exact z_face (args := A) k hW (h1 w hw A)
  · exact z_ls (args := A) hW.alike hh (h1 _ hw A)
  · exact z_ls (args := A) hW.alike hh (h1 _ hw A)
  · exact z_ir (args := A) hW.alike hh (h1 _ zXw_has.1 A) (h1 _ zXw_has.2.2 A) (h1 _ hw A)
  · exact z_ir (args := A) hW.alike hh (h1 _ zXw_has.2.1 A) (h1 _ zXw_has.2.2 A) (h1 _ hw A)
/-- the end of a method that has thrown -/
def zXQ (below : List Frame) (s : State) : State → Prop := fun t => ∃ (q : Addr) (ce : Cell), t.status = .running ∧ Ended t below (.threw q) ∧ s.WarmedH t.vm ∧ s.sameButNew ({ t with vm := s.vm } : State) [] 1 6 ∧ t.heap[q]? = some ce ∧ ce.vm = .none ∧ s.vm.findClass NSE = some ce.cls
section ZM
variable {p : Program} {l : Launch} {e : Env} {R : Room} {s : State} {m : MethodId} {args : Array Value} {below : List Frame} {meth : Method} {c : Code} {T0 : State} {locs : List Loc} {cells slots : Nat}
set_option maxHeartbeats 2000000 in
/-- a fresh NoSuchElementException is given its text and thrown: the library's ways of a Throwable's constructor, over this class's own chain -/
theorem z_made (X : Stand p l e R s m args below meth c T0 locs cells slots) (hx : p.tables.exec = Jvm.exec) (htr : e.platform.stackTraces = false) (hown : s.vm.findClass R_X = some m.cls) (h : ∀ w ∈ zXw, w.before args s = true)
    (hlocs : ∀ x ∈ locs, ∀ cell, s.heap[x.base]? = some cell → cell.vm.isStatics = false) {a : Addr} {cX : ClassId} {kX : Class} (hfX : s.vm.findClass NSE = some cX) (hkX : s.vm.classes[cX]? = some kX) (hcell : T0.heap[a]? = some (freshCell cX kX)) (hnew : s.heap.size ≤ a) {msg : Value} (hmsg : msg.isRef = true)
    {g : JFrame} (hg : g.method = m) (hsize : g.locals.size = c.maxLocals) (hlocked : g.locked = none) (hentered : g.entered = []) {rest : List Value} (hstack : g.stack = msg :: .ref a :: .ref a :: rest)
    (hd6 : decode c.code g.pc = .ok (.invokespecial 178, 3)) (hd9 : decode c.code (g.pc + 3) = .ok (.athrow, 1)) (hout : ∀ x ∈ c.exceptionTable.toList, covers x (g.pc + 3) = false) (hfr : 5 < R.frames) (hlo : 2 * g.monitorRoom + ((Value.ref a :: rest).map fun v => v.category).sum + 81 ≤ R.locals) (hlk : meth.locks = false) :
    ∃ U : State, Steps p.tables e below (T0.setTop g) U ∧ U.status = .running ∧ Ended U below (.threw a) ∧ s.WarmedH U.vm ∧ s.sameButNew ({ U with vm := s.vm } : State) locs cells slots ∧ ∃ ce : Cell, U.heap[a]? = some ce ∧ ce.vm = .none ∧ s.vm.findClass NSE = some ce.cls := by
  have hpl : e.platform.magicAccessors = ({} : Platform).magicAccessors := by rw [X.admits.platform]
  have q : ∀ w, w ∈ zXw → w.holds args s none s [] = true := fun w hw => h w hw
  obtain ⟨T, Z0, L, -, Y⟩ := ThrowableC.of_atoms (args := args) (pl := e.platform) (by rw [X.admits.platform]) (by rw [X.admits.platform]) hpl (fun w hw => h w (zXw_1 hw))
  obtain ⟨Z, M, LZ, LM, hnZ⟩ := Init0T.ofS_atoms (args := args) hpl L Y (fun w hw => h w (zXw_2 hw))
  obtain ⟨P1, L1, hP1m, hP1s⟩ := PassC.ofS_atoms (args := args) (s := s) hpl (X := NSE) (Y := rteN) (by decide) (by decide) nseB_0 nseB_1 nseB_2 nseB_5 (fun w hw => h w (zXw_3 hw))
  obtain ⟨P2, Ps, hlen, L2, hLs, hP2m, hs2, hps⟩ := Bundle.chainS (args := args) hpl hnZ ["java/lang/Exception"] rteN (by decide) (by decide) (fun w hw => h w (zXw_4 hw))
  have hf : s.vm.findClass NSE = some P1.m.cls := findClass_of_methodNamed hP1m
  cases Option.some.inj (hfX.symm.trans hf)
  obtain ⟨c1, kX', hc1, hk, hord, -, -, -⟩ := Cond.instantiable_spec (q (.instantiable NSE 6) (zXw_5 1 rfl))
  cases Option.some.inj (hc1.symm.trans hf)
  cases Option.some.inj (hkX.symm.trans hk)
  have sel : ∀ (y : MethodName) (f : MethodId), s.methodNamed? y = some f → Cond.selects NSE y y ∈ zXw → s.methodFound? y.cls y.name y.desc = some f → selectMethod e.platform s.vm P1.m.cls f = .method f := by
    intro y f hn hw hfd
    obtain ⟨c2, r2, m2, q1, q2, q3, q4, -⟩ := Cond.selects_spec (q _ hw)
    cases Option.some.inj (q1.symm.trans hf)
    cases Option.some.inj (q2.symm.trans hfd)
    cases Option.some.inj (q3.symm.trans hn)
    rw [Launch.admits_selectMethod X.admits]
    exact q4
  have hsel0 := sel Bundle.tFill0 T.fill0 Y.fill0 (zXw_5 3 rfl) (State.methodFound?_of_named Y.fill0 (by decide))
  have hselF := sel Bundle.tFill T.fill Y.fill (zXw_5 4 rfl) (State.methodFound?_of_named Y.fill (by decide))
  obtain ⟨cS, hcS, hiss⟩ := Y.statics
  obtain ⟨u0, hu0⟩ := Cond.staticRefV Y.unassigned L.unassignedStatic L.statics hcS hiss (q (.isRef (.static Bundle.tN "UNASSIGNED_STACK" Bundle.steD)) (zXw_5 9 rfl))
  obtain ⟨sen, hsen⟩ := Cond.staticRefV Y.sentinel L.sentinelStatic L.statics hcS hiss (q (.isRef (.static Bundle.tN "SUPPRESSED_SENTINEL" Bundle.listD)) (zXw_5 10 rfl))
  obtain ⟨ciB, iB, fB, hkB, hgB, haB, hsB, -, hnB, htB, hffB⟩ := Cond.ownField (t := .object "java/lang/Object") Y.found L.cls (by decide +kernel) (q (.fieldLink Bundle.tN 198 Bundle.tN "backtrace" "Ljava/lang/Object;") (zXw_5 11 rfl)) (q (.lays Bundle.tN Bundle.tN "backtrace" "Ljava/lang/Object;") (zXw_5 12 rfl)) e.platform hpl
  obtain ⟨cS1, hcS1, heS, -, hkeep⟩ := X.same.2.2.2.2.2 T.aS cS hcS
  have hcellS : T0.heap[T.aS]? = some cS1 := hcS1
  have houtS : ∀ i, (⟨T.aS, i⟩ : Loc) ∉ locs := fun i hi => by
    have := hlocs _ hi cS hcS
    rw [hiss] at this; cases this
  have hknS : cS1.vm ≠ .unknown := by
    rw [heS]; intro hu
    rw [show cS.vm = .unknown from hu] at hiss
    cases hiss
  have hneS : T.aS ≠ a := Nat.ne_of_lt (Nat.lt_of_lt_of_le (Array.getElem?_eq_some_iff.mp hcS).1 hnew)
  obtain ⟨iM, hffM⟩ := Y.msg
  obtain ⟨tyC, dC, hdC, hdnC⟩ := Cond.laysAt hf hk Y.cause (q (.lays NSE Bundle.tN "cause" "Ljava/lang/Throwable;") (zXw_5 5 rfl))
  obtain ⟨tyS, dS, hdS, hdnS⟩ := Cond.laysAt hf hk Y.stack (q (.lays NSE Bundle.tN "stackTrace" Bundle.steD) (zXw_5 6 rfl))
  obtain ⟨tyP, dP, hdP, hdnP⟩ := Cond.laysAt hf hk Y.supp (q (.lays NSE Bundle.tN "suppressedExceptions" Bundle.listD) (zXw_5 7 rfl))
  obtain ⟨tyM, dM, hdM, hdnM⟩ := Cond.laysAt hf hk hffM (q (.lays NSE Bundle.tN "detailMessage" "Ljava/lang/String;") (zXw_5 8 rfl))
  obtain ⟨tyB, dB, hdB, hdnB⟩ := Cond.laysAt hf hk hffB (q (.lays NSE Bundle.tN "backtrace" "Ljava/lang/Object;") (zXw_5 13 rfl))
  have bC := Cond.laysApart hdB hdC hdnB hdnC (by rw [hnB, Y.causeName]; decide)
  have bS := Cond.laysApart hdB hdS hdnB hdnS (by rw [hnB, Y.stackName]; decide)
  have bP := Cond.laysApart hdB hdP hdnB hdnP (by rw [hnB, Y.suppName]; decide)
  have hskip : SkipFacts T e.platform s (fun u => u) u0 ((preparedCellV T.toThrowableT (freshCell P1.m.cls kX) a u0 sen).withEntry T0.cur) :=
    ⟨{ ci198 := ciB, i198 := iB, fBack := fB }, ⟨hkB, hgB, haB, hsB⟩, by
      have := fresh_default (c := P1.m.cls) tyB
      rw [htB] at this
      simpa [preparedCellV, Cell.setSlot, Cell.withEntry, Array.getElem?_setIfInBounds, bC, bS, bP, bC.symm, bS.symm, bP.symm, defaultValue] using this, fun _ _ => rfl⟩
  obtain ⟨tm, -, -, -, vm1, hnC, -, -, -, -, -, -, -, hW1, st1⟩ := Steps.initColdS (tb := p.tables) (e := e) (below := below) (s := s) (U := T0) X.here hx X.warmed hpl hown (t := Bundle.initS NSE) rfl rfl (by decide) (q (.methodLink R_X 178 (Bundle.initS NSE)) (zXw_5 0 rfl)) (h (.instanceMethod (Bundle.initS NSE)) (zXw_3 List.mem_cons_self)) (bytes := nseB) (maxL := 2) (h (.code (Bundle.initS NSE) nseB 2 none) (zXw_3 (List.mem_cons_of_mem _ List.mem_cons_self))) (f := g) hg (a := a) (msg := msg) (rest := .ref a :: rest) hstack hd6
  cases Option.some.inj (hnC.symm.trans hP1m)
  have X1 := X.noted hW1
  obtain ⟨vm2, X2, st2⟩ := X1.ctorMessageOffV hx (g := { g with stack := .ref a :: rest }) hg hsize T L Z LZ M LM (P1 :: P2 :: Ps)
    (fun P hP => by
      rcases List.mem_cons.mp hP with rfl | hP
      · exact L1
      · rcases List.mem_cons.mp hP with rfl | hP
        · exact L2
        · exact hLs P hP) ⟨Option.some.inj (hP1s.symm.trans hP2m), hs2, hps⟩ (u0 := u0) (sen := sen) (self := a) hmsg (cell := freshCell P1.m.cls kX) (cellS := cS1)
    hcell (fun _ => by simp) (by simp) rfl rfl hsel0 hselF hcellS hneS hknS (by rw [hkeep _ (houtS _)]; exact hu0) (by rw [hkeep _ (houtS _)]; exact hsen)
    (Takes.of_laid hk hord tyC (by rw [Y.causeType]; rfl)) (Takes.of_laid hk hord tyS (by rw [Y.stackType]; exact fits_refV_array _ u0)) (Takes.of_laid hk hord tyP (by rw [Y.suppType]; exact fits_refV_object _ sen))
    (Takes.of_laid hk hord tyM (by rw [Y.msgType]; exact fits_refV_object _ ⟨msg, hmsg⟩)) Y.objLocals hskip htr [] hd6
    (by simp only [List.length_cons, hlen, List.length_nil]; omega) (by simp only [List.length_cons, hlen, List.length_nil]; exact hlo)
  obtain ⟨hwalk, hrun, hended, hWU, hsame⟩ := X2.athrowLeaves hx (g := { g with stack := .ref a :: rest, pc := g.pc + 3 }) hg hlocked hentered hout (a := a) (rest := rest) rfl hd9
  have hlt : a < ((T0.setVm vm1).setVm vm2).heap.size := (Array.getElem?_eq_some_iff.mp hcell).1
  have hU := heapAt_setCell_self (s := (T0.setVm vm1).setVm vm2) (plainBareV T.toThrowableT (freshCell P1.m.cls kX) a u0 sen msg) hlt
  refine ⟨_, st1 _ (fun acts => ?_), hrun, hended, hWU, hsame.weaken (fun y hy hy2 => ?_) (Nat.le_refl _) (Nat.le_refl _), _, hU, rfl, hf⟩
  · rw [doInvoke_state]
    exact st2 _ hwalk
  · rcases List.mem_append.mp hy with h1 | h1
    · exact h1
    · exfalso
      have hb : y.base = a := by
        simp only [List.mem_cons, List.not_mem_nil, or_false] at h1
        rcases h1 with rfl | rfl | rfl | rfl | rfl <;> rfl
      rw [hb] at hy2
      exact Nat.not_lt.mpr hnew hy2
end ZM
section ZX
variable {p : Program} {l : Launch} {e : Env} {R : Room} {s : State} {m : MethodId} {args : Array Value} {below : List Frame} {meth : Method} {c : Code} {H : Heap} {locs : List Loc} {cells slots : Nat} {Q : State → Prop}
variable {cc : ByteArray} {pc nL : Nat} {ls : Array Slot} {rest : List Value} {D : va_G} {A : Nat → Prop} {tys : List (ClassId × FieldType)} {ws : va_W}
set_option maxHeartbeats 1000000 in
theorem z_throw {is : Nat} {text : String} (E : CallFix p m c cc nL s args zB R_X) (hlk : meth.locks = false) (hfl : l.flags = flags0) (hZ : zTx s) (hl : ls.size = nL) (hs : ∃ a, vk_R R_X is text a s) (k1 : Cond.classLink R_X 174 NSE ∈ zB) (k2 : Cond.initialized NSE ∈ zB) (k3 : Cond.instantiable NSE 6 ∈ zB)
    (d0 : decode cc pc = .ok (.new 174, 3)) (d3 : decode cc (pc + 3) = .ok (.dup, 1)) (d4 : decode cc (pc + 4) = .ok (.ldc is, 2)) (d6 : decode cc (pc + 6) = .ok (.invokespecial 178, 3)) (d9 : decode cc (pc + 9) = .ok (.athrow, 1)) (hex : c.exceptionTable.toList = [])
    (hfr : 5 < R.frames) (hlo : 100 ≤ R.locals) (hce : 1 ≤ R.cells) (hsl : 6 ≤ R.slots) : W p l e R s m args below meth c s.heap [] 0 0 (zXQ below s) (F0 m pc ls []) := by
  intro T hT X
  obtain ⟨hx, hb, hml, hown, hts⟩ := id E
  have htr : e.platform.stackTraces = false := Launch.traces_off hfl X.admits
  obtain ⟨sa, hsa⟩ := hs
  have hs1 : (Cond.stringRef R_X is text).before args s = true := by
    have h1 := hsa.1
    simp only [Cond.before, Cond.holds, Cond.value] at h1 ⊢
    exact h1
  have hs2 : (Term.string R_X is).eval args s none [] s = some (.ref sa) := by
    have h2 := hsa.2
    simp only [Term.eval] at h2 ⊢
    exact h2
  obtain ⟨vm₁, cX, kX, hfX, hkX, -, -, X₁, st1⟩ := X.newCold hx (own := R_X) (C := NSE) (index := 174) (n := 6) hown (hts _ k1) (hts _ k3) (hts _ k2) (g := F0 m pc ls []) rfl (by rw [hb]; exact d0) (by omega) (by omega)
  have hnew : s.heap.size ≤ T.heap.size := by rw [hT]; exact Nat.le_refl _
  have hcellA : ((T.setVm vm₁).pushCell { cls := cX, slots := kX.instanceTypes.map defaultValue, vm := .none }).heap[T.heap.size]? = some (freshCell cX kX) := State.heap_pushCell_size _ _
  generalize hT1 : (T.setVm vm₁).pushCell { cls := cX, slots := kX.instanceTypes.map defaultValue, vm := .none } = T1 at X₁ st1 hcellA
  have d3' : decode c.code (pc + 3) = .ok (.dup, 1) := by rw [hb]; exact d3
  have d4' : decode c.code (pc + 4) = .ok (.ldc is, 2) := by rw [hb]; exact d4
  have d6' : decode c.code (pc + 6) = .ok (.invokespecial 178, 3) := by rw [hb]; exact d6
  have d9' : decode c.code (pc + 6 + 3) = .ok (.athrow, 1) := by rw [hb]; exact d9
  obtain ⟨U, st, hrun, hend, hW, hsame, ce, hce9, hov, hoc⟩ := z_made X₁ hx htr hown (fun w hw => hZ.1 w hw args) (fun x hx => nomatch hx) hfX hkX hcellA hnew (msg := .ref sa) rfl
    (g := { method := m, pc := pc + 6, locals := ls, stack := .ref sa :: .ref T.heap.size :: .ref T.heap.size :: [], locked := none }) rfl (hl.trans hml.symm) rfl rfl (rest := []) rfl d6' d9' (fun x hx => by rw [hex] at hx; cases hx) hfr (by show 2 * 0 + 1 + 81 ≤ R.locals; omega) hlk
  refine ⟨U, st1 _ ?_, T.heap.size, ce, hrun, hend, hW, ?_, hce9, hov, hoc⟩
  · show Steps p.tables e below (T1.setTop { method := m, pc := pc + 3, locals := ls, stack := .ref T.heap.size :: [], locked := none }) _
    jvm_step X₁.here [X₁.here.top, hx, d3', Value.category]
    exact X₁.ldcString hx (own := R_X) (text := text) (index := is) (a := sa) hown hs1 hs2 (g := { method := m, pc := pc + 4, locals := ls, stack := .ref T.heap.size :: .ref T.heap.size :: [], locked := none }) rfl d4' _ st
  · exact hsame.mono (by omega) (by omega)
end ZX
