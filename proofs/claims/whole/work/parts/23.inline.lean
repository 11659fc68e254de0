section ZY
variable {p : Program} {l : Launch} {e : Env} {R : Room} {s : State} {m : MethodId} {args : Array Value} {below : List Frame} {meth : Method} {c : Code} {H : Heap} {locs : List Loc} {cells slots : Nat} {Q : State → Prop}
variable {cc : ByteArray} {pc nL : Nat} {ls : Array Slot} {rest : List Value} {D : va_G} {A : Nat → Prop} {tys : List (ClassId × FieldType)} {ws : va_W}
/-- a callee walked in place -/
theorem z_in0 {T : State} (X : Stand p l e R s m args below meth c T locs cells slots) {g : JFrame} (hg : g.method = m) (hsize : g.locals.size = c.maxLocals) {ig : Instr} {len : Nat} (hdg : decode c.code g.pc = .ok (ig, len))
    {mk : MethodId} {methk : Method} {ck : Code} (a : Array Value) {R' : Room} (hmk : T.vm.method? mk = some methk) (hck : methk.code = some ck) (hlk : methk.locks = false) (hpk : T.plainMethod mk)
    (hframes : R'.frames + 1 ≤ R.frames) (hlocals : 2 * g.monitorRoom + (g.stack.map fun v => v.category).sum + (ck.maxLocals + 11) + R'.locals ≤ R.locals) (hcells : cells + R'.cells ≤ R.cells) (hslots : slots + R'.slots ≤ R.slots) {Qi : State → Prop}
    (inner : W p l e R' (T.calling g mk a) mk a (.java g :: below) methk ck T.heap [] 0 0 Qi (entryFrame mk a ck.maxLocals)) :
    ∃ t, (∀ acts, Steps p.tables e below (doInvoke e (T.setTop g) acts mk a).1 t) ∧ Qi t := by
  obtain ⟨Y₀, hin⟩ := X.into hg hsize hdg a (R' := R') hmk hck hlk hpk hframes hlocals hcells hslots
  obtain ⟨t, st, q⟩ := inner ((T.setTop g).pushFrame (.java (entryFrame mk a ck.maxLocals))) rfl Y₀
  exact ⟨t, fun acts => by rw [hin acts]; exact Steps.weaken (mid := [.java g]) st, q⟩
/-- the words of a call of a static method that has handlers -/
def zCw (own : String) (index : Nat) (y : MethodName) (bytes : ByteArray) (maxL : Nat) (ret : Option FieldType) (hh : List (Nat × Nat × Nat × Nat)) (n : Nat) : Prop :=
  Cond.methodLink own index y ∈ zB ∧ Cond.static y ∈ zB ∧ Cond.initialized y.cls ∈ zB ∧ Cond.codeWith y bytes maxL ret hh ∈ zB ∧ (y.cls ≠ "java/lang/invoke/MethodHandle" ∧ y.cls ≠ "java/lang/invoke/VarHandle") ∧ (parseMethodDescriptor y.desc).map (fun d => d.parameters.length) = some n
/-- a static method with handlers, walked in place over the same cells; it answers an int -/
theorem z_walkS {own : String} {n maxL index mc ms : Nat} {y : MethodName} {bytes : ByteArray} {ret : Option FieldType} {hh : List (Nat × Nat × Nat × Nat)} {As st0 : List Value} {ws' : va_W} {r : Int32} {R' : Room}
    (E : CallFix p m c cc nL s args zB own) (hN : zN s) (hK : va_K D vwCl tys s) (hA : ∀ q, s.heap.size ≤ q → A q) (G : zG D A s H locs ws) (hl : ls.size = nL)
    (hz : zCw own index y bytes maxL ret hh n) (hpl : plainFor y = true) (hn : As.length = n) (hln : (lg_sl As).length ≤ maxL) (hroom : R'.frames + 1 ≤ R.frames ∧ 8 + (maxL + 11) + R'.locals ≤ R.locals) (hmc : R'.cells = mc ∧ R'.slots = ms) (hst : st0 = As.reverse ++ rest) (hcat : (rest.map fun v => v.category).sum ≤ 8) (hcs : cells + mc ≤ R.cells ∧ slots + ms ≤ R.slots) (hdg : decode cc pc = .ok (.invokestatic index, 3))
    (inner : ∀ (s' : State) (mk : MethodId) (b' : List Frame) (methk : Method) (ck : Code) (ls' : Array Slot), s.WarmedH s'.vm → s'.heap = H → CallFix p mk ck bytes maxL s' As.toArray zB y.cls → methk.sig.returnType = ret → methk.locks = false → ck.exceptionTable.toList.map (fun h => (h.startPc, h.endPc, h.handlerPc, h.catchType)) = hh → zN s' → va_K D vwCl tys s' → (∀ q, s'.heap.size ≤ q → A q) → zG D A s' s'.heap [] ws → lv_has ls' maxL (lv_args 0 As) →
      W p l e R' s' mk As.toArray b' methk ck s'.heap [] 0 0 (MQ b' (zQ D A ws' (some (.int r))) As.toArray s' mc ms A) (F0 mk 0 ls' []))
    (kk : ∀ (H1 : Heap) (locs1 : List Loc), zG D A s H1 locs1 ws' → W p l e R s m args below meth c H1 locs1 (cells + mc) (slots + ms) Q (F0 m (pc + 3) ls (.int r :: rest))) : W p l e R s m args below meth c H locs cells slots Q (F0 m pc ls st0) := by
  obtain ⟨k1, k2, k4, k5, k6, k7⟩ := hz
  obtain ⟨hx, hb, hml, hown, hts⟩ := id E
  obtain ⟨hP, hD, hS⟩ := id G
  intro T hT X
  subst hT
  have hcw := hts _ k5
  obtain ⟨mk, methk, ck, hnamed, hmethk, hck, hbytes, hmaxL, hexc, hret, hlk, hsig⟩ := Cond.codeWith_spec (show (Cond.codeWith y bytes maxL ret hh).holds args s none s [] = true from hcw)
  have hstatic : methk.isStatic = true := Cond.static_spec hnamed hmethk (hts _ k2)
  obtain ⟨kP, hkP, -⟩ := className_of_methodNamed hnamed
  have hinitP : kP.init = .initialized := Cond.initialized_spec (findClass_of_methodNamed hnamed) hkP (hts _ k4)
  obtain ⟨vm₁, X₁, hstep₁⟩ := X.invokestatic hx hown (hts _ k1) hnamed hmethk hstatic hkP hinitP k6 (g := F0 m pc ls st0) rfl (argsL := As) (rest := rest) (hn.trans (z_len k7 _ hsig)) hst (by rw [hb]; exact hdg)
  have hnamed₁ : (T.setVm vm₁).methodNamed? y = some mk := X₁.named hnamed
  have hmk₁ : (T.setVm vm₁).vm.method? mk = some methk := by rw [X₁.warmed.alike.method?]; exact hmethk
  have hpk : (T.setVm vm₁).plainMethod mk := State.plainMethod.of_named hpl hnamed₁ hmk₁
  have hlv := lv_entry As (n := maxL) hln
  have inn := inner ((T.setVm vm₁).calling (F0 m pc ls rest) mk As.toArray) mk (.java (F0 m pc ls rest) :: below) methk ck _ X₁.warmed rfl
    ⟨hx, hbytes, hmaxL, findClass_of_methodNamed hnamed₁, fun w hw => word_at (U := (T.setVm vm₁).calling (F0 m pc ls rest) mk As.toArray) X₁.warmed (good_of_word (List.mem_filter.mp hw).2) (hts w hw)⟩ hret hlk hexc (hN.warm X₁.warmed) (va_K.moved X₁.warmed.alike hK) (fun q h => hA q (Nat.le_trans hS.1 h)) ⟨hP, hD, va_S.rf⟩ hlv
  rw [← lg_entry_eq] at inn
  obtain ⟨t, st, o, hrun, hend, ⟨ho, hp1, hd1, hz1, hk1⟩, L, ⟨-, hW2, hsame⟩, hL⟩ := z_in0 X₁ (g := F0 m pc ls rest) rfl (hl.trans hml.symm) (by rw [hb]; exact hdg) As.toArray (R' := R') hmk₁ hck hlk hpk hroom.1 (by rw [hmaxL]; have h9 := lv_room (m := m) (pc := pc) (ls := ls) (rest := rest) hcat; show 2 * (F0 m pc ls rest).monitorRoom + (rest.map fun v => v.category).sum + (maxL + 11) + R'.locals ≤ R.locals; omega) (by rw [hmc.1]; exact hcs.1) (by rw [hmc.2]; exact hcs.2) (by rw [hmaxL]; exact inn)
  subst ho
  obtain ⟨T', X', -, -, ht⟩ := X₁.outOf (g := F0 m pc ls rest) rfl (by rw [hb]; exact hdg) hend hW2 hsame
  have hth : t.heap = T'.heap := by rw [ht]; rfl
  rw [hth] at hp1 hz1 hk1
  obtain ⟨t2, a1, b1⟩ := kk T'.heap (locs ++ L) ⟨hp1, hd1, Nat.le_trans hS.1 hz1, fun q h1 h2 => by rw [hk1 q (Nat.lt_of_lt_of_le h1 hS.1) h2]; exact hS.2.1 q h1 h2, fun q hq => by
      rcases List.mem_append.mp hq with h | h
      · exact hS.2.2 q h
      · exact hL q h⟩ T' rfl X'
  refine ⟨t2, hstep₁ _ fun acts => (st acts).trans ?_, b1⟩
  rw [ht]
  exact a1
/-- the search of a method's one handler, whose class is linked -/
theorem z_find {T : State} {g : JFrame} {a : Addr} {code : Code} {x : ExceptionTableEntry} {cT : ClassId} {cell : Cell} (hm : T.vm.method? g.method = some meth) (hc : meth.code = some code) (hsplit : code.exceptionTable.toList = [x]) (hx : covers x g.pc = true) (h0 : x.catchType ≠ 0)
    (hlk : T.vm.ClassLinks e.platform g.method.cls x.catchType cT) (hcell : T.heap[a]? = some cell) (hobj : ∀ k, cell.vm ≠ .statics k) (hk : ∃ k, T.vm.classes[cell.cls]? = some k) (hk2 : ∃ k, T.vm.classes[cT]? = some k) (hfit : T.vm.assignable cell.cls cT = true)
    (q : Handler → Pre) (E9 : CtlPost) (d : Bool) (acts : List Action) : wp (findHandler g a) q E9 e d acts T ↔ q (.found x.handlerPc) d acts (T.setVm (T.vm.noted g.method.cls x.catchType (.cls cT))) := by
  rw [Jvm.W.findHandler_eq hm hc, hsplit]
  simp only [covers] at hx
  obtain ⟨ha, ht⟩ := (resolveClass_links e.toSetting hlk).op (op := VmOp.resolveClass g.method.cls x.catchType) rfl
  have hal : T.vm.Alike (T.vm.noted g.method.cls x.catchType (.cls cT)) := (Vm.Alike.refl T.vm).noted _ _ _
  obtain ⟨k1, hk1⟩ := hk
  obtain ⟨k2, hk2⟩ := hk2
  obtain ⟨k1', hk1', -⟩ := hal.2.2 _ _ hk1
  obtain ⟨k2', hk2', -⟩ := hal.2.2 _ _ hk2
  have hfit' : (T.vm.noted g.method.cls x.catchType (.cls cT)).assignable cell.cls cT = true := by rw [hal.assignable]; exact hfit
  simp [findHandler.go, hx, h0, ha, ht, hcell, hobj, hk1', hk2', hfit', VmOp.dirties, VmOp.acts]
/-- an exception that lies above a frame of ours goes to that frame's one handler -/
theorem z_catch {own name : String} {T : State} {q : Addr} {ce : Cell} {x : ExceptionTableEntry} (X : Stand p l e R s m args below meth c T locs cells slots) (hown : s.vm.findClass own = some m.cls) (hsplit : c.exceptionTable.toList = [x]) (hx : covers x pc = true) (h0 : x.catchType ≠ 0) (hlink : (Cond.classLink own x.catchType name).before args s = true) (hcast : (Cond.castable name name).before args s = true)
    (hcell : T.heap[q]? = some ce) (hv : ce.vm = .none) (hcl : s.vm.findClass name = some ce.cls) : ∃ vm', Stand p l e R s m args below meth c (T.setVm vm') locs cells slots ∧ ∀ target, Steps p.tables e below ((T.setVm vm').setTop (F0 m x.handlerPc ls [.ref q])) target → Steps p.tables e below ((T.setTop (F0 m pc ls rest)).pushFrame (.throwing q)) target := by
  have hpl : e.platform.magicAccessors = ({} : Platform).magicAccessors := by rw [X.admits.platform]
  obtain ⟨cT, hc', hlk⟩ := Cond.classLink_spec hown hlink e.platform hpl
  cases Option.some.inj (hc'.symm.trans hcl)
  obtain ⟨c3, c4, hc3, hc4, hasg⟩ := Cond.castable_spec hcast
  cases Option.some.inj (hc3.symm.trans hcl)
  cases Option.some.inj (hc4.symm.trans hcl)
  obtain ⟨dk, _, _, kt, hd, _, _, _, _, hkt, _, hopen⟩ := hlk.here
  have hlk₁ := X.warmed.classLinks hlk
  have hW' : s.WarmedH (T.vm.noted m.cls x.catchType (.cls ce.cls)) := X.warmed.noted hd hopen (State.rightAt_cls hlk)
  obtain ⟨kt', hkt', -⟩ := X.warmed.alike.2.2 _ _ hkt
  have hfit' : T.vm.assignable ce.cls ce.cls = true := by rw [X.warmed.alike.assignable]; exact hasg
  refine ⟨T.vm.noted m.cls x.catchType (.cls ce.cls), X.noted hW', fun target hrest => ?_⟩
  obtain ⟨hgo, hw⟩ := At.throwing (g := F0 m pc ls rest) X.here q
  refine Steps.head hgo hw ?_
  have hfind : ∀ (q9 : Handler → Pre) (E9 : CtlPost) (d : Bool) (acts : List Action), wp (findHandler (F0 m pc ls rest) q) q9 E9 e d acts ((T.setTop (F0 m pc ls rest)).pushFrame (.throwing q)) ↔ q9 (.found x.handlerPc) d acts (((T.setTop (F0 m pc ls rest)).pushFrame (.throwing q)).setVm (T.vm.noted m.cls x.catchType (.cls ce.cls))) :=
    z_find (T := (T.setTop (F0 m pc ls rest)).pushFrame (.throwing q)) (g := F0 m pc ls rest) (meth := meth) (code := c) X.method' X.code hsplit hx h0 hlk₁ hcell (VmData.ne_statics_of (by rw [hv]; rfl)) ⟨kt', hkt'⟩ ⟨kt', hkt'⟩ hfit'
  rw [stepThread_throwing (frames_entered X.here.top _)]
  have hstep : (stepThrowing e ((T.setTop (F0 m pc ls rest)).pushFrame (.throwing q)) q (.java (F0 m pc ls rest) :: T.frames.tail)).Is ((((T.setTop (F0 m pc ls rest)).pushFrame (.throwing q)).setVm (T.vm.noted m.cls x.catchType (.cls ce.cls))).setFrames (.java (F0 m x.handlerPc ls [.ref q]) :: T.frames.tail)) [] := by
    simp only [stepThrowing, searchFrame, vmDo]
    generalize hr : Sem.go _ e false [] ((T.setTop (F0 m pc ls rest)).pushFrame (.throwing q)) = res
    obtain ⟨as, rfl, ha⟩ := Sem.eq_ok_of hr (a := Handler.found x.handlerPc) (s' := ((T.setTop (F0 m pc ls rest)).pushFrame (.throwing q)).setVm (T.vm.noted m.cls x.catchType (.cls ce.cls))) (acts' := []) (by simp [hfind _ _ _ _])
    exact ⟨rfl, ha⟩
  rw [hstep.1]
  obtain ⟨g₀, hg⟩ := Option.isSome_iff_exists.mp X.here.top
  obtain ⟨r, hr⟩ := State.topJava?_eq_some.mp hg
  have hr' : (T.setVm (T.vm.noted m.cls x.catchType (.cls ce.cls))).frames = .java g₀ :: r := hr
  rw [State.setTop_of_frames _ hr'] at hrest
  have e1 : ∀ (u : State) (vm' : Vm) (F G : List Frame), ((u.setFrames F).setVm vm').setFrames G = (u.setVm vm').setFrames G := fun u vm' F G => by
    rw [show (u.setFrames F).setVm vm' = (u.setVm vm').setFrames F from rfl, State.setFrames_setFrames]
  rw [hr, List.tail_cons, State.pushFrame, e1, State.setTop_of_frames _ hr, e1]
  exact hrest
/-- a call that throws, and is caught by our one handler: the callee walked in place -/
theorem z_walkX {own name : String} {b ci n maxL index q0 : Nat} {q : vw_C} {fs : List Value} {y : MethodName} {bytes : ByteArray} {ret : Option FieldType} {As st0 : List Value} {R' : Room} {x : ExceptionTableEntry}
    (E : CallFix p m c cc nL s args zB own) (hN : zN s) (hK : va_K D vwCl tys s) (hA : ∀ q, s.heap.size ≤ q → A q) (G : zG D A s H locs ws) (hl : ls.size = nL) (he : ws[q0]? = some (b, .inr (ci, fs))) (hcl : vwCl[ci]? = some q)
    (hz : zC own index q.1 y bytes maxL ret n) (hpl : plainFor y = true) (hn : As.length = n) (hln : (lg_sl (.ref b :: As)).length ≤ maxL) (hroom : R'.frames + 1 ≤ R.frames ∧ 8 + (maxL + 11) + R'.locals ≤ R.locals) (hst : st0 = As.reverse ++ .ref b :: rest) (hcat : (rest.map fun v => v.category).sum ≤ 8) (hcs : cells + R'.cells ≤ R.cells ∧ slots + R'.slots ≤ R.slots) (hc1 : 1 ≤ R'.cells ∧ 6 ≤ R'.slots) (hdg : decode cc pc = .ok (.invokevirtual index, 3))
    (hsplit : c.exceptionTable.toList = [x]) (hx : covers x pc = true) (h0 : x.catchType ≠ 0) (hlink : Cond.classLink own x.catchType NSE ∈ zB) (hcast : (Cond.castable NSE NSE).before args s = true)
    (inner : ∀ (s' : State) (mk : MethodId) (b' : List Frame) (methk : Method) (ck : Code) (ls' : Array Slot), s.WarmedH s'.vm → s'.heap = H → CallFix p mk ck bytes maxL s' (Value.ref b :: As).toArray zB y.cls → methk.sig.returnType = ret → methk.locks = false → ck.exceptionTable.toList = [] → zN s' → va_K D vwCl tys s' → va_P D vwCl ws s'.heap → lv_has ls' maxL (lv_args 0 (.ref b :: As)) →
      W p l e R' s' mk (Value.ref b :: As).toArray b' methk ck s'.heap [] 0 0 (zXQ b' s') (F0 mk 0 ls' []))
    (kk : ∀ (H1 : Heap) (q9 : Nat), zG D A s H1 locs ws → W p l e R s m args below meth c H1 locs (cells + 1) (slots + 6) Q (F0 m x.handlerPc ls [.ref q9])) : W p l e R s m args below meth c H locs cells slots Q (F0 m pc ls st0) := by
  obtain ⟨k1, k2, k3, k4, k5, k6, k7⟩ := hz
  obtain ⟨hx9, hb, hml, hown, hts⟩ := id E
  obtain ⟨hP, hD, hS⟩ := id G
  obtain ⟨cellB, hcB, hoB, hclB⟩ := va_recv hK hP hcl he
  intro T hT X
  subst hT
  obtain ⟨mk, methM, hnamed, hmethM, hstM, habM⟩ := Cond.instanceMethod_spec (hts _ k2)
  obtain ⟨methk, ck, hmethk, hck, hbytes, hmaxL, hret, hlk, hexc, hsig⟩ := Cond.code_spec hnamed (hts _ k5)
  cases hmethM.symm.trans hmethk
  obtain ⟨c2, r2, m2, q1, q2, q3, q4, kP, hkP, hkPi⟩ := Cond.selects_spec (hts _ k3)
  cases hclB.symm.trans q1
  cases (State.methodFound?_of_named hnamed k6).symm.trans q2
  cases hnamed.symm.trans q3
  have hselP : selectMethod e.platform s.vm cellB.cls mk = .method mk := by rw [Launch.admits_selectMethod X.admits]; exact q4
  obtain ⟨vm₁, X₁, hstep₁⟩ := X.invokevirtual hx9 hown (hts _ k1) hnamed hmethM hstM hkP hkPi k6 (a := b) (cell := cellB) hcB
    (fun z h => by rw [h] at hoB; cases hoB) hselP hmethM habM hkP hkPi (g := F0 m pc ls st0) rfl (argsL := As) (rest := rest) (hn.trans (z_len k7 _ hsig)) hst (by rw [hb]; exact hdg)
  have hnamed₁ : (T.setVm vm₁).methodNamed? y = some mk := X₁.named hnamed
  have hmk₁ : (T.setVm vm₁).vm.method? mk = some methM := by rw [X₁.warmed.alike.method?]; exact hmethM
  have hpk : (T.setVm vm₁).plainMethod mk := State.plainMethod.of_named hpl hnamed₁ hmk₁
  have hlv := lv_entry (.ref b :: As) (n := maxL) hln
  have inn := inner ((T.setVm vm₁).calling (F0 m pc ls rest) mk (Value.ref b :: As).toArray) mk (.java (F0 m pc ls rest) :: below) methM ck _ X₁.warmed rfl
    ⟨hx9, hbytes, hmaxL, findClass_of_methodNamed hnamed₁, fun w hw => word_at (U := (T.setVm vm₁).calling (F0 m pc ls rest) mk (Value.ref b :: As).toArray) X₁.warmed (good_of_word (List.mem_filter.mp hw).2) (hts w hw)⟩ hret hlk (by simpa using hexc) (hN.warm X₁.warmed) (va_K.moved X₁.warmed.alike hK) hP hlv
  rw [← lg_entry_eq] at inn
  obtain ⟨t, st, q9, ce, hrun, hend, hW2, hsame, hce, hvm9, hcl9⟩ := z_in0 X₁ (g := F0 m pc ls rest) rfl (hl.trans hml.symm) (by rw [hb]; exact hdg) (Value.ref b :: As).toArray (R' := R') hmk₁ hck hlk hpk hroom.1 (by rw [hmaxL]; have h9 := lv_room (m := m) (pc := pc) (ls := ls) (rest := rest) hcat; show 2 * (F0 m pc ls rest).monitorRoom + (rest.map fun v => v.category).sum + (maxL + 11) + R'.locals ≤ R.locals; omega) hcs.1 hcs.2 (by rw [hmaxL]; exact inn)
  obtain ⟨T', X', -, hsm, ht⟩ := X₁.outOfThrown (g := F0 m pc ls rest) rfl hend hW2 hsame
  have hth : t.heap = T'.heap := by rw [ht]; rfl
  rw [hth] at hce
  have hcl8 : s.vm.findClass NSE = some ce.cls := by
    have h1 : (T.setVm vm₁).vm.findClass NSE = some ce.cls := hcl9
    rw [X₁.warmed.alike.findClass] at h1
    exact h1
  have X'' : Stand p l e R s m args below meth c T' locs (cells + 1) (slots + 6) := by
    have h := X'
    rw [List.append_nil] at h
    exact h
  obtain ⟨vm', X3, st3⟩ := z_catch (pc := pc) (ls := ls) (rest := rest) X'' hown hsplit hx h0 (hts _ hlink) hcast hce hvm9 hcl8
  obtain ⟨hsz, hold⟩ : T.heap.size ≤ T'.heap.size ∧ ∀ q : Nat, q < T.heap.size → T'.heap[q]? = T.heap[q]? := by
    obtain ⟨-, h2, -, -, -, h6⟩ := hsm
    refine ⟨h2, fun q hq => ?_⟩
    obtain ⟨c9, e1, e2, e3, e4⟩ := h6 q _ (Array.getElem?_eq_getElem hq)
    have hs : c9.slots = ((T.setVm vm₁).heap[q]).slots := Array.ext_getElem? fun i => e4 i (fun hm => nomatch hm)
    have h9 : c9 = (T.setVm vm₁).heap[q] := by
      rw [hs] at e2
      exact e2
    have e5 : T'.heap[q]? = some c9 := e1
    rw [e5, h9]
    exact (Array.getElem?_eq_getElem hq).symm
  have hkq : ∀ (k : Nat) (z : Nat × va_E), ws[k]? = some z → T'.heap[z.1]? = T.heap[z.1]? := fun k z hz => hold z.1 ((hP k z hz).lt)
  obtain ⟨t2, a1, b1⟩ := kk T'.heap q9 ⟨hP.kept hkq, hD, Nat.le_trans hS.1 hsz, fun q h1 h2 => by rw [hold q (Nat.lt_of_lt_of_le h1 hS.1)]; exact hS.2.1 q h1 h2, hS.2.2⟩ (T'.setVm vm') rfl X3
  refine ⟨t2, hstep₁ _ fun acts => (st acts).trans ?_, b1⟩
  rw [ht]
  exact st3 _ a1
end ZY
