/-! THE LAYER: every contract stands over ONE list of words (zB); a method that only reads leaves the heap as it is (zR); a method that writes turns the cells w into the cells w' (zW). -/
def zB : List Cond := lw_tbl.filter goodWord
def zIsN : Cond → Bool
  | .methodLinkNest .. => true
  | _ => false
def zNs : List Cond := lw_tbl.filter zIsN
/-- the links to private members of a nest mate -/
def zN (U : State) : Prop := ∀ w ∈ zNs, va_Nw w U
theorem zN.same {u U : State} (h : u.vm = U.vm) (hZ : zN u) : zN U := by
  intro w hw
  have h1 := (List.mem_filter.mp hw).2
  have h2 := hZ w hw
  cases w <;> first | exact va_Nw.same rfl h h2 | (simp [zIsN] at h1; done)
theorem zN.warm {s U : State} (hW : s.WarmedH U.vm) (hZ : zN s) : zN U := by
  intro w hw
  have h1 := (List.mem_filter.mp hw).2
  have h2 := hZ w hw
  cases w <;> first | exact va_Nw.warmM hW h2 | (simp [zIsN] at h1; done)
theorem z_good {y : MethodName} {bytes : ByteArray} {maxL : Nat} {ret : Option FieldType} (h : Cond.code y bytes maxL ret ∈ zB) : GoodIn zB (Cond.code y bytes maxL ret :: zB) := by
  intro w hw
  have h1 : w ∈ zB := by
    rcases List.mem_cons.mp hw with rfl | h2
    · exact h
    · exact h2
  exact ⟨h1, good_of_word (List.mem_filter.mp h1).2⟩
theorem z_fm {α β : Type} {f : α → Option β} : ∀ {is : List α} {w : List β}, is.map f = w.map some → is.filterMap f = w
  | [], [], _ => rfl
  | [], _ :: _, h => by simp at h
  | _ :: _, [], h => by simp at h
  | i :: is, b :: w, h => by
    simp only [List.map_cons, List.cons.injEq] at h
    rw [List.filterMap_cons, h.1]
    simp only
    rw [z_fm h.2]
/-- a contract of a method that only reads -/
def zPr (D : va_G) (tys : List (ClassId × FieldType)) (w : va_W) : State → Prop := fun U => zN U ∧ va_P D vwCl w U.heap ∧ va_K D vwCl tys U
def zR (l : Launch) (D : va_G) (tys : List (ClassId × FieldType)) (y : MethodName) (cc : ByteArray) (n : Nat) (ret : Option FieldType) (fr lo : Nat) (av : List Value) (w : va_W) (r : Int32) : Prop :=
  Met l y (Cond.code y cc n ret :: zB) { frames := fr, cells := 0, slots := 0, locals := lo } (va_Pc av (zPr D tys w)) (QcRead r) 0 0 (fun _ => False)
theorem zPr.blind {D : va_G} {tys : List (ClassId × FieldType)} {w : va_W} {av : List Value} : FrameBlind (va_Pc av (zPr D tys w)) :=
  fun a U g mk q => ⟨q.1, zN.same (u := U) (U := U.calling g mk a) rfl q.2.1, q.2.2.1, va_K.moved (u := U) (U := U.calling g mk a) (Vm.Alike.refl U.vm) q.2.2.2⟩
/-- a contract of a method that writes: the cells w become w' -/
def zP (D : va_G) (tys : List (ClassId × FieldType)) (w : va_W) (sz : Nat) : State → Prop := fun U => U.heap.size = sz ∧ zN U ∧ va_P D vwCl w U.heap ∧ va_K D vwCl tys U ∧ va_D (fun _ => True) w
def zQ (D : va_G) (A : Nat → Prop) (w' : va_W) (r : Option Value) : Array Value → State → Outcome → State → Prop := fun _ st oc t => oc = .returned r ∧ va_P D vwCl w' t.heap ∧ va_D A w' ∧ va_F A st t
def zW (l : Launch) (D : va_G) (tys : List (ClassId × FieldType)) (y : MethodName) (cc : ByteArray) (n : Nat) (ret : Option FieldType) (fr lo : Nat) (av : List Value) (w w' : va_W) (r : Option Value) : Prop :=
  ∀ sz : Nat, Met l y (Cond.code y cc n ret :: zB) { frames := fr, cells := 0, slots := 0, locals := lo } (va_Pc av (zP D tys w sz)) (zQ D (va_A w sz) w' r) 0 0 (va_A w sz)
theorem zP.blind {D : va_G} {tys : List (ClassId × FieldType)} {w : va_W} {av : List Value} {sz : Nat} : FrameBlind (va_Pc av (zP D tys w sz)) :=
  fun a U g mk q => ⟨q.1, q.2.1, zN.same (u := U) (U := U.calling g mk a) rfl q.2.2.1, q.2.2.2.1, va_K.moved (u := U) (U := U.calling g mk a) (Vm.Alike.refl U.vm) q.2.2.2.2.1, q.2.2.2.2.2⟩
/-- the cells of a walk -/
def zG (D : va_G) (A : Nat → Prop) (s : State) (H : Heap) (locs : List Loc) (ws : va_W) : Prop := va_P D vwCl ws H ∧ va_D A ws ∧ va_S A s.heap H locs
/-- a call's words -/
def zC (own : String) (index : Nat) (C : String) (y : MethodName) (bytes : ByteArray) (maxL : Nat) (ret : Option FieldType) (n : Nat) : Prop :=
  Cond.methodLink own index y ∈ zB ∧ Cond.instanceMethod y ∈ zB ∧ Cond.selects C y y ∈ zB ∧ Cond.initialized y.cls ∈ zB ∧ Cond.code y bytes maxL ret ∈ zB ∧ (y.cls ≠ "java/lang/invoke/MethodHandle" ∧ y.cls ≠ "java/lang/invoke/VarHandle") ∧ (parseMethodDescriptor y.desc).map (fun d => d.parameters.length) = some n
def zCs (own : String) (index : Nat) (y : MethodName) (bytes : ByteArray) (maxL : Nat) (ret : Option FieldType) (n : Nat) : Prop :=
  Cond.methodLink own index y ∈ zB ∧ Cond.static y ∈ zB ∧ Cond.initialized y.cls ∈ zB ∧ Cond.code y bytes maxL ret ∈ zB ∧ (y.cls ≠ "java/lang/invoke/MethodHandle" ∧ y.cls ≠ "java/lang/invoke/VarHandle") ∧ (parseMethodDescriptor y.desc).map (fun d => d.parameters.length) = some n
def zCn (own : String) (index : Nat) (host : String) (y : MethodName) (bytes : ByteArray) (maxL : Nat) (ret : Option FieldType) (n : Nat) : Prop :=
  Cond.methodLinkNest own index y host ∈ zNs ∧ Cond.static y ∈ zB ∧ Cond.initialized y.cls ∈ zB ∧ Cond.code y bytes maxL ret ∈ zB ∧ (y.cls ≠ "java/lang/invoke/MethodHandle" ∧ y.cls ≠ "java/lang/invoke/VarHandle") ∧ (parseMethodDescriptor y.desc).map (fun d => d.parameters.length) = some n
theorem z_len {y : MethodName} {n : Nat} (h : (parseMethodDescriptor y.desc).map (fun d => d.parameters.length) = some n) : ∀ sig, parseMethodDescriptor y.desc = some sig → n = sig.parameters.length := by
  intro sig h2
  rw [h2] at h
  exact (Option.some.inj h).symm
section ZL
variable {p : Program} {l : Launch} {e : Env} {R : Room} {s : State} {m : MethodId} {args : Array Value} {below : List Frame} {meth : Method} {c : Code} {H : Heap} {locs : List Loc} {cells slots : Nat} {Q : State → Prop}
variable {cc : ByteArray} {pc nL : Nat} {ls : Array Slot} {rest : List Value} {D : va_G} {A : Nat → Prop} {tys : List (ClassId × FieldType)} {ws : va_W}
theorem zR.of {y : MethodName} {n fr lo : Nat} {ret : Option FieldType} {av : List Value} {w : va_W} {r : Int32} (hy : plainName y.cls = true) (hln : (lg_sl av).length ≤ n)
    (body : ∀ (p : Program) (e : Env) (s : State) (m : MethodId) (below : List Frame) (meth : Method) (c : Code) (ls : Array Slot), CallFix p m c cc n s av.toArray zB y.cls → meth.sig.returnType = ret → meth.locks = false → zN s → va_K D vwCl tys s → va_P D vwCl w s.heap → lv_has ls n (lv_args 0 av) →
      W p l e { frames := fr, cells := 0, slots := 0, locals := lo } s m av.toArray below meth c s.heap [] 0 0 (MQ below (QcRead r) av.toArray s 0 0 (fun _ => False)) (F0 m 0 ls [])) : zR l D tys y cc n ret fr lo av w r := by
  refine Met.ofW (cc := cc) (maxL := n) (ret := ret) hy rfl ?_
  intro p e s m args below meth c s₁ B hml hv
  obtain ⟨rfl, hN, hP, hK⟩ := hv
  have hts := atoms_spec (ws := Cond.code y cc n ret :: zB) B.pre
  have hown : s.vm.findClass y.cls = some m.cls := findClass_of_methodNamed B.named
  have hl := lv_entry av (n := n) hln
  rw [lg_entry_eq]
  exact body p e s m below meth c _ ⟨B.exec, B.bytes, hml, hown, fun w hw => hts w (List.mem_cons_of_mem _ hw)⟩ B.returns B.notSynchronized hN hK hP hl
theorem zW.of {y : MethodName} {n fr lo : Nat} {ret : Option FieldType} {av : List Value} {w w' : va_W} {r : Option Value} (hy : plainName y.cls = true) (hln : (lg_sl av).length ≤ n)
    (body : ∀ (p : Program) (e : Env) (s : State) (m : MethodId) (below : List Frame) (meth : Method) (c : Code) (ls : Array Slot) (A : Nat → Prop), CallFix p m c cc n s av.toArray zB y.cls → meth.sig.returnType = ret → meth.locks = false → zN s → va_K D vwCl tys s → (∀ q, s.heap.size ≤ q → A q) → zG D A s s.heap [] w → lv_has ls n (lv_args 0 av) →
      W p l e { frames := fr, cells := 0, slots := 0, locals := lo } s m av.toArray below meth c s.heap [] 0 0 (MQ below (zQ D A w' r) av.toArray s 0 0 A) (F0 m 0 ls [])) : zW l D tys y cc n ret fr lo av w w' r := by
  intro sz
  refine Met.ofW (cc := cc) (maxL := n) (ret := ret) hy rfl ?_
  intro p e s m args below meth c s₁ B hml hv
  obtain ⟨rfl, hsz, hN, hP, hK, hD0⟩ := hv
  have hts := atoms_spec (ws := Cond.code y cc n ret :: zB) B.pre
  have hown : s.vm.findClass y.cls = some m.cls := findClass_of_methodNamed B.named
  have hl := lv_entry av (n := n) hln
  rw [lg_entry_eq]
  subst hsz
  exact body p e s m below meth c _ (va_A w s.heap.size) ⟨B.exec, B.bytes, hml, hown, fun w hw => hts w (List.mem_cons_of_mem _ hw)⟩ B.returns B.notSynchronized hN hK (fun q h => Or.inr h) ⟨hP, hD0.self, va_S.rf⟩ hl
/-- reads end -/
theorem zR.iret {own : String} {v r : Int32} (E : CallFix p m c cc nL s args zB own) (hr : meth.sig.returnType = some .int) (hlk : meth.locks = false) (hv : v = r) (d : decode cc pc = .ok (.ireturn, 1)) : W p l e R s m args below meth c s.heap [] 0 0 (MQ below (QcRead r) args s 0 0 (fun _ => False)) (F0 m pc ls [.int v]) :=
  W.iret E.1 E.2.1 hr (fun t ht _ => ⟨by rw [hv], ht⟩) (fun _ h => absurd h List.not_mem_nil) d hlk
theorem zR.zret {own : String} {v r : Int32} (E : CallFix p m c cc nL s args zB own) (hr : meth.sig.returnType = some .boolean) (hlk : meth.locks = false) (hn : narrow .boolean (.int v) = .int v) (hv : v = r) (d : decode cc pc = .ok (.ireturn, 1)) : W p l e R s m args below meth c s.heap [] 0 0 (MQ below (QcRead r) args s 0 0 (fun _ => False)) (F0 m pc ls [.int v]) :=
  W.zret E.1 E.2.1 hr hn (fun t ht _ => ⟨by rw [hv], ht⟩) (fun _ h => absurd h List.not_mem_nil) d hlk
theorem zW.iret {own : String} {v : Int32} {r : Option Value} {w' : va_W} (E : CallFix p m c cc nL s args zB own) (hr : meth.sig.returnType = some .int) (hlk : meth.locks = false) (G : zG D A s H locs ws) (hw : ws = w') (hv : some (.int v) = r) (d : decode cc pc = .ok (.ireturn, 1)) : W p l e R s m args below meth c H locs cells slots (MQ below (zQ D A w' r) args s cells slots A) (F0 m pc ls [.int v]) := by
  subst hw
  subst hv
  exact W.iret E.1 E.2.1 hr (fun t ht _ => ⟨rfl, by rw [ht]; exact G.1, G.2.1, G.2.2.F ht⟩) G.2.2.2.2 d hlk
theorem zW.vret {own : String} {r : Option Value} {w' : va_W} (E : CallFix p m c cc nL s args zB own) (hr : meth.sig.returnType = none) (hlk : meth.locks = false) (G : zG D A s H locs ws) (hw : ws = w') (hv : none = r) (d : decode cc pc = .ok (.return_, 1)) : W p l e R s m args below meth c H locs cells slots (MQ below (zQ D A w' r) args s cells slots A) (F0 m pc ls []) := by
  subst hw
  subst hv
  exact W.vret E.1 E.2.1 hr (fun t ht _ => ⟨rfl, by rw [ht]; exact G.1, G.2.1, G.2.2.F ht⟩) G.2.2.2.2 d hlk
/-- a call that only reads: of an object's method -/
theorem z_rv {own : String} {b ci n maxL fr lo index : Nat} {q : vw_C} {fs : List Value} {y : MethodName} {bytes : ByteArray} {ret : Option FieldType} {As st0 : List Value} {wc : va_W} {r : Int32}
    (E : CallFix p m c cc nL s args zB own) (hN : zN s) (hK : va_K D vwCl tys s) (hP : va_P D vwCl ws H) (hl : ls.size = nL)
    (hM : zR l D tys y bytes maxL ret fr lo (.ref b :: As) wc r) (isC : List Nat) (hC : isC.filterMap (fun i => ws[i]?) = wc) (q0 : Nat) (he : wc[q0]? = some (b, .inr (ci, fs))) (hcl : vwCl[ci]? = some q)
    (hz : zC own index q.1 y bytes maxL ret n) (hn : As.length = n) (hroom : fr + 1 ≤ R.frames ∧ 8 + (maxL + 11) + lo ≤ R.locals) (hst : st0 = As.reverse ++ .ref b :: rest) (hcat : (rest.map fun v => v.category).sum ≤ 8) (hcs : cells ≤ R.cells ∧ slots ≤ R.slots) (hdg : decode cc pc = .ok (.invokevirtual index, 3))
    (kk : W p l e R s m args below meth c H locs cells slots Q (F0 m (pc + 3) ls (.int r :: rest))) : W p l e R s m args below meth c H locs cells slots Q (F0 m pc ls st0) := by
  obtain ⟨k1, k2, k3, k4, k5, k6, k7⟩ := hz
  have hts := E.2.2.2.2
  have hPc := hP.sub isC hC
  exact W.callR (va_Run.run (va_runV (As := As) (rest := rest) E hM ⟨⟨rfl, rfl, hroom.1, hroom.2, pay_in hts (z_good k5), List.mem_cons_self, hts _ k5, hts _ k4, k6, z_len k7, hts _ k1⟩, hts _ k2, hts _ k3⟩ ⟨zPr.blind, va_recv hK hPc hcl he, fun U hU hW => ⟨rfl, hN.warm hW, by rw [hU]; exact hPc, va_K.moved hW.alike hK⟩⟩ rfl hn hl hst (lv_room hcat) hdg hcs)) kk
/-- of a static method of the same class -/
theorem z_rs {own : String} {n maxL fr lo index : Nat} {y : MethodName} {bytes : ByteArray} {ret : Option FieldType} {As st0 : List Value} {r : Int32}
    (E : CallFix p m c cc nL s args zB own) (hN : zN s) (hK : va_K D vwCl tys s) (hl : ls.size = nL)
    (hM : zR l D tys y bytes maxL ret fr lo As [] r)
    (hz : zCs own index y bytes maxL ret n) (hn : As.length = n) (hroom : fr + 1 ≤ R.frames ∧ 8 + (maxL + 11) + lo ≤ R.locals) (hst : st0 = As.reverse ++ rest) (hcat : (rest.map fun v => v.category).sum ≤ 8) (hcs : cells ≤ R.cells ∧ slots ≤ R.slots) (hdg : decode cc pc = .ok (.invokestatic index, 3))
    (kk : W p l e R s m args below meth c H locs cells slots Q (F0 m (pc + 3) ls (.int r :: rest))) : W p l e R s m args below meth c H locs cells slots Q (F0 m pc ls st0) := by
  obtain ⟨k1, k2, k4, k5, k6, k7⟩ := hz
  have hts := E.2.2.2.2
  exact W.callR (va_Run.run (va_runS (As := As) (rest := rest) E hM ⟨⟨rfl, rfl, hroom.1, hroom.2, pay_in hts (z_good k5), List.mem_cons_self, hts _ k5, hts _ k4, k6, z_len k7, hts _ k1⟩, hts _ k2⟩ ⟨zPr.blind, fun U hU hW => ⟨rfl, hN.warm hW, fun k q h => by simp at h, va_K.moved hW.alike hK⟩⟩ rfl hn hl hst (lv_room hcat) hdg hcs)) kk
/-- of a private static method of a nest mate -/
theorem z_rn {own host : String} {n maxL fr lo index : Nat} {y : MethodName} {bytes : ByteArray} {ret : Option FieldType} {As st0 : List Value} {r : Int32}
    (E : CallFix p m c cc nL s args zB own) (hN : zN s) (hK : va_K D vwCl tys s) (hl : ls.size = nL)
    (hM : zR l D tys y bytes maxL ret fr lo As [] r)
    (hz : zCn own index host y bytes maxL ret n) (hn : As.length = n) (hroom : fr + 1 ≤ R.frames ∧ 8 + (maxL + 11) + lo ≤ R.locals) (hst : st0 = As.reverse ++ rest) (hcat : (rest.map fun v => v.category).sum ≤ 8) (hcs : cells ≤ R.cells ∧ slots ≤ R.slots) (hdg : decode cc pc = .ok (.invokestatic index, 3))
    (kk : W p l e R s m args below meth c H locs cells slots Q (F0 m (pc + 3) ls (.int r :: rest))) : W p l e R s m args below meth c H locs cells slots Q (F0 m pc ls st0) := by
  obtain ⟨k1, k2, k4, k5, k6, k7⟩ := hz
  have hts := E.2.2.2.2
  exact W.callR (va_Run.run (va_runSN (host := host) (As := As) (rest := rest) E hM ⟨⟨⟨rfl, rfl, hroom.1, hroom.2, pay_in hts (z_good k5), List.mem_cons_self⟩, hts _ k5, hts _ k4, k6, z_len k7, va_Nw.use rfl (hN _ k1)⟩, hts _ k2, trivial⟩ ⟨zPr.blind, fun U hU hW => ⟨rfl, hN.warm hW, fun k q h => by simp at h, va_K.moved hW.alike hK⟩⟩ rfl hn hl hst (lv_room hcat) hdg hcs)) kk
/-- a call that writes, done: the callee's cells, beside the rest, in the order that perm says -/
theorem z_wrun {sz : Nat} {wc wc' wr ws' : va_W} {r : Option Value} {st0 : List Value} {a : Array Value} (hA : ∀ q, s.heap.size ≤ q → A q) (G : zG D A s H locs ws) (hsz : sz = H.size)
    (isC isR perm : List Nat) (hC : isC.map (fun i => ws[i]?) = wc.map some) (hR : isR.map (fun i => ws[i]?) = wr.map some) (hPm : perm.map (fun i => (wr ++ wc')[i]?) = ws'.map some) (hnR : va_nd isR = true) (hnP : va_nd perm = true) (hdis : ∀ i ∈ isR, i ∉ isC)
    (hr : va_Run p l e R s m args below meth c H locs cells slots 0 0 (F0 m pc ls st0) rest (zQ D (va_A wc sz) wc' r a) (va_A wc sz))
    (kk : ∀ (H1 : Heap) (locs1 : List Loc), zG D A s H1 locs1 ws' → W p l e R s m args below meth c H1 locs1 cells slots Q (F0 m (pc + 3) ls (r.toList ++ rest))) : W p l e R s m args below meth c H locs cells slots Q (F0 m pc ls st0) := by
  subst hsz
  obtain ⟨hP, hD, hS⟩ := G
  have hF := va_free hD hS hA isC hC
  intro T hT X
  obtain ⟨v, st₀, t, T', L, h0, X', hL, e1, e2, ⟨hv, hp1, hd1, hz, hk⟩, st⟩ := hr T hT X
  cases hv
  rw [h0] at hz hk
  obtain ⟨hPj, hDj⟩ := va_join hP hD isC isR hC hR hnR hdis hk hF hp1 hd1
  obtain ⟨t2, a1, b1⟩ := kk T'.heap (locs ++ L) ⟨by rw [e1]; exact hPj.sub perm (z_fm hPm), hDj.sub perm hnP hPm, Nat.le_trans hS.1 (by rw [e1]; exact hz), fun q h1 h2 => by rw [e1, hk q (Nat.lt_of_lt_of_le h1 hS.1) (fun z => h2 (hF q z))]; exact hS.2.1 q h1 h2, fun q hq => by
      rcases List.mem_append.mp hq with h | h
      · exact hS.2.2 q h
      · exact hF _ (hL q h)⟩ T' rfl X'
  exact ⟨t2, st t2 a1, b1⟩
theorem z_wv {own : String} {b ci n maxL fr lo index : Nat} {q : vw_C} {fs : List Value} {y : MethodName} {bytes : ByteArray} {ret : Option FieldType} {As st0 : List Value} {wc wc' wr ws' : va_W} {r : Option Value}
    (E : CallFix p m c cc nL s args zB own) (hN : zN s) (hK : va_K D vwCl tys s) (hA : ∀ q, s.heap.size ≤ q → A q) (G : zG D A s H locs ws) (hl : ls.size = nL)
    (hM : zW l D tys y bytes maxL ret fr lo (.ref b :: As) wc wc' r) (isC isR perm : List Nat) (hC : isC.map (fun i => ws[i]?) = wc.map some) (hR : isR.map (fun i => ws[i]?) = wr.map some) (hPm : perm.map (fun i => (wr ++ wc')[i]?) = ws'.map some) (hnC : va_nd isC = true) (hnR : va_nd isR = true) (hnP : va_nd perm = true) (hdis : ∀ i ∈ isR, i ∉ isC)
    (q0 : Nat) (he : wc[q0]? = some (b, .inr (ci, fs))) (hcl : vwCl[ci]? = some q)
    (hz : zC own index q.1 y bytes maxL ret n) (hn : As.length = n) (hroom : fr + 1 ≤ R.frames ∧ 8 + (maxL + 11) + lo ≤ R.locals) (hst : st0 = As.reverse ++ .ref b :: rest) (hcat : (rest.map fun v => v.category).sum ≤ 8) (hcs : cells ≤ R.cells ∧ slots ≤ R.slots) (hdg : decode cc pc = .ok (.invokevirtual index, 3))
    (kk : ∀ (H1 : Heap) (locs1 : List Loc), zG D A s H1 locs1 ws' → W p l e R s m args below meth c H1 locs1 cells slots Q (F0 m (pc + 3) ls (r.toList ++ rest))) : W p l e R s m args below meth c H locs cells slots Q (F0 m pc ls st0) := by
  obtain ⟨k1, k2, k3, k4, k5, k6, k7⟩ := hz
  have hts := E.2.2.2.2
  have hPc := G.1.sub isC (z_fm hC)
  have hDc := G.2.1.sub isC hnC hC
  exact z_wrun hA G rfl isC isR perm hC hR hPm hnR hnP hdis (va_runV (As := As) (rest := rest) E (hM H.size) ⟨⟨rfl, rfl, hroom.1, hroom.2, pay_in hts (z_good k5), List.mem_cons_self, hts _ k5, hts _ k4, k6, z_len k7, hts _ k1⟩, hts _ k2, hts _ k3⟩ ⟨zP.blind, va_recv hK hPc hcl he, fun U hU hW => ⟨rfl, by rw [hU], hN.warm hW, by rw [hU]; exact hPc, va_K.moved hW.alike hK, hDc.weaken (fun _ _ _ _ => trivial)⟩⟩ rfl hn hl hst (lv_room hcat) hdg hcs) kk
/-- of a static method of another class (not private), e.g. of the JDK -/
theorem z_ws {own : String} {n maxL fr lo index : Nat} {y : MethodName} {bytes : ByteArray} {ret : Option FieldType} {As st0 : List Value} {wc wc' wr ws' : va_W} {r : Option Value}
    (E : CallFix p m c cc nL s args zB own) (hN : zN s) (hK : va_K D vwCl tys s) (hA : ∀ q, s.heap.size ≤ q → A q) (G : zG D A s H locs ws) (hl : ls.size = nL)
    (hM : zW l D tys y bytes maxL ret fr lo As wc wc' r) (isC isR perm : List Nat) (hC : isC.map (fun i => ws[i]?) = wc.map some) (hR : isR.map (fun i => ws[i]?) = wr.map some) (hPm : perm.map (fun i => (wr ++ wc')[i]?) = ws'.map some) (hnC : va_nd isC = true) (hnR : va_nd isR = true) (hnP : va_nd perm = true) (hdis : ∀ i ∈ isR, i ∉ isC)
    (hz : zCs own index y bytes maxL ret n) (hn : As.length = n) (hroom : fr + 1 ≤ R.frames ∧ 8 + (maxL + 11) + lo ≤ R.locals) (hst : st0 = As.reverse ++ rest) (hcat : (rest.map fun v => v.category).sum ≤ 8) (hcs : cells ≤ R.cells ∧ slots ≤ R.slots) (hdg : decode cc pc = .ok (.invokestatic index, 3))
    (kk : ∀ (H1 : Heap) (locs1 : List Loc), zG D A s H1 locs1 ws' → W p l e R s m args below meth c H1 locs1 cells slots Q (F0 m (pc + 3) ls (r.toList ++ rest))) : W p l e R s m args below meth c H locs cells slots Q (F0 m pc ls st0) := by
  obtain ⟨k1, k2, k4, k5, k6, k7⟩ := hz
  have hts := E.2.2.2.2
  have hPc := G.1.sub isC (z_fm hC)
  have hDc := G.2.1.sub isC hnC hC
  exact z_wrun hA G rfl isC isR perm hC hR hPm hnR hnP hdis (va_runS (As := As) (rest := rest) E (hM H.size) ⟨⟨rfl, rfl, hroom.1, hroom.2, pay_in hts (z_good k5), List.mem_cons_self, hts _ k5, hts _ k4, k6, z_len k7, hts _ k1⟩, hts _ k2⟩ ⟨zP.blind, fun U hU hW => ⟨rfl, by rw [hU], hN.warm hW, by rw [hU]; exact hPc, va_K.moved hW.alike hK, hDc.weaken (fun _ _ _ _ => trivial)⟩⟩ rfl hn hl hst (lv_room hcat) hdg hcs) kk
/-- getfield, putfield, arrays, over the layer's words -/
theorem z_get {own C : String} {T : u_T} {N ci index a : Nat} {fs : List Value} {v : Value} (E : CallFix p m c cc nL s args zB own) (hK : va_K D vwCl tys s) (hP : va_P D vwCl ws H) (hin : ∀ w ∈ u_ws C T N, w ∈ zB) (q0 k : Nat) (he : ws[q0]? = some (a, .inr (ci, fs))) (hc : vwCl[ci]? = some (C, T, N)) (hk : k < N) (hlink : Cond.fieldLink own index (T k).1 (T k).2.1 (T k).2.2.1 ∈ zB) (hv : fs[k]? = some v) (hdg : decode cc pc = .ok (.getfield index, 3))
    (kk : W p l e R s m args below meth c H locs cells slots Q (F0 m (pc + 3) ls (v :: rest))) : W p l e R s m args below meth c H locs cells slots Q (F0 m pc ls (.ref a :: rest)) :=
  va_get E.1 E.2.1 E.2.2.2.2 hin E.2.2.2.1 hK hP q0 he hc k hk (E.2.2.2.2 _ hlink) (fun _ h9 => h9) hv hdg kk
theorem z_put {own C : String} {T : u_T} {N ci index a : Nat} {fs : List Value} {v : Value} {ty : FieldType} {ws' : va_W} (E : CallFix p m c cc nL s args zB own) (hK : va_K D vwCl tys s) (G : zG D A s H locs ws) (hin : ∀ w ∈ u_ws C T N, w ∈ zB) (ty0 : Nat → FieldType) (hty : ∀ k, k < N → parseFieldDescriptor (T k).2.2.1 = some (ty0 k)) (hnm : ∀ a, a < N → ∀ b, b < N → a ≠ b → (T a).2.1 ≠ (T b).2.1) (q0 k : Nat) (he : ws[q0]? = some (a, .inr (ci, fs))) (hc : vwCl[ci]? = some (C, T, N)) (hk : k < N) (hlink : Cond.fieldLink own index (T k).1 (T k).2.1 (T k).2.2.1 ∈ zB) (hfin : (T k).2.2.2 = false) (hd : ty0 k = ty) (hn : narrow ty v = v) (hfit : fits ty v = true) (hl : k < fs.length) (hws : ws.set q0 (a, .inr (ci, fs.set k v)) = ws') (hdg : decode cc pc = .ok (.putfield index, 3))
    (kk : ∀ (H1 : Heap) (locs1 : List Loc), zG D A s H1 locs1 ws' → W p l e R s m args below meth c H1 locs1 cells slots Q (F0 m (pc + 3) ls rest)) : W p l e R s m args below meth c H locs cells slots Q (F0 m pc ls (v :: .ref a :: rest)) := by
  subst hws
  exact va_put E.1 E.2.1 E.2.2.2.2 hin ty0 hty hnm E.2.2.2.1 hK G.1 G.2.1 G.2.2 q0 he hc k hk (E.2.2.2.2 _ hlink) (fun _ h9 => h9) hfin (ty := ty) (by rw [hty k hk, hd]) hn hfit hl hdg (fun H1 l1 a1 a2 a3 => kk H1 l1 ⟨a1, a2, a3⟩)
theorem z_ald {own : String} {a n : Nat} {cA : ClassId} {f : Nat → Int32} {i : Int32} (E : CallFix p m c cc nL s args zB own) (hK : va_K D vwCl tys s) (hP : va_P D vwCl ws H) (q0 t0 : Nat) (ha : ws[q0]? = some (a, .inl (cA, n, .inl f))) (ht : tys[t0]? = some (cA, .int)) (hin : vp_in i n) (hdg : decode cc pc = .ok (.iaload, 1))
    (kk : W p l e R s m args below meth c H locs cells slots Q (F0 m (pc + 1) ls (.int (f i.toNatClampNeg) :: rest))) : W p l e R s m args below meth c H locs cells slots Q (F0 m pc ls (.int i :: .ref a :: rest)) :=
  va_iald E.1 E.2.1 hK hP q0 t0 ha ht hin hdg kk
theorem z_ast {own : String} {a n : Nat} {cA : ClassId} {f : Nat → Int32} {i x : Int32} {ws' : va_W} (E : CallFix p m c cc nL s args zB own) (hK : va_K D vwCl tys s) (G : zG D A s H locs ws) (q0 t0 : Nat) (ha : ws[q0]? = some (a, .inl (cA, n, .inl f))) (ht : tys[t0]? = some (cA, .int)) (hin : vp_in i n) (hws : ws.set q0 (a, .inl (cA, n, .inl (upd f i.toNatClampNeg x))) = ws') (hdg : decode cc pc = .ok (.iastore, 1))
    (kk : ∀ (H1 : Heap) (locs1 : List Loc), zG D A s H1 locs1 ws' → W p l e R s m args below meth c H1 locs1 cells slots Q (F0 m (pc + 1) ls rest)) : W p l e R s m args below meth c H locs cells slots Q (F0 m pc ls (.int x :: .int i :: .ref a :: rest)) := by
  subst hws
  exact va_iast E.1 E.2.1 hK G.1 G.2.1 G.2.2 q0 t0 ha ht hin hdg (fun H1 l1 a1 a2 a3 => kk H1 l1 ⟨a1, a2, a3⟩)
end ZL
theorem z_in {w : Cond} (i : Nat) (h : tables_1[i]? = some w) (hg : goodWord w = true) : w ∈ zB := List.mem_filter.mpr ⟨List.mem_append_right _ (List.mem_of_getElem? h), hg⟩
theorem z_inS {w : Cond} (i : Nat) (h : (k2_sels lw_privs)[i]? = some w) (hg : goodWord w = true) : w ∈ zB := List.mem_filter.mpr ⟨List.mem_append_left _ (List.mem_of_getElem? h), hg⟩
theorem z_inN {w : Cond} (i : Nat) (h : tables_1[i]? = some w) (hg : zIsN w = true) : w ∈ zNs := List.mem_filter.mpr ⟨List.mem_append_right _ (List.mem_of_getElem? h), hg⟩
