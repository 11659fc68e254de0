/-! small helpers of the walks -/
def up2 (Z : Nat → Nat → Int32) (j i : Nat) (v : Int32) : Nat → Nat → Int32 := fun b => match Nat.beq b j with
  | true => upd (Z b) i v
  | false => Z b
def fillF (f : Nat → Int32) (n : Nat) (v : Int32) : Nat → Int32 := fun j => if j < n then v else f j
def fill2 (Z : Nat → Nat → Int32) (j n : Nat) (v : Int32) : Nat → Nat → Int32 := fun b => match Nat.beq b j with
  | true => fillF (Z b) n v
  | false => Z b
theorem fillF_0 (f : Nat → Int32) (v : Int32) : fillF f 0 v = f := by
  funext j
  simp [fillF]
theorem fillF_s (f : Nat → Int32) (i : Nat) (v : Int32) : upd (fillF f i v) i v = fillF f (i + 1) v := by
  funext j
  simp only [upd, fillF]
  split
  · rw [if_pos (by omega)]
  · split
    · rw [if_pos (by omega)]
    · rw [if_neg (by omega)]
theorem nar01 {v : Int32} (h : v = 0 ∨ v = 1) : narrow .boolean (.int v) = .int v := by rcases h with rfl | rfl <;> rfl
theorem sw_out3 {x : Int32} (h0 : ¬ x = 0) (h1 : ¬ x = 1) (h2 : ¬ x = 2) : x.toInt < 0 ∨ 2 < x.toInt := by
  have a0 := lv_neT (a := 0) h0 (by decide)
  have a1 := lv_neT (a := 1) h1 (by decide)
  have a2 := lv_neT (a := 2) h2 (by decide)
  omega
theorem sw_out5 {x : Int32} (h0 : ¬ x = 0) (h1 : ¬ x = 1) (h2 : ¬ x = 2) (h3 : ¬ x = 3) (h4 : ¬ x = 4) : x.toInt < 0 ∨ 4 < x.toInt := by
  have a0 := lv_neT (a := 0) h0 (by decide)
  have a1 := lv_neT (a := 1) h1 (by decide)
  have a2 := lv_neT (a := 2) h2 (by decide)
  have a3 := lv_neT (a := 3) h3 (by decide)
  have a4 := lv_neT (a := 4) h4 (by decide)
  omega
theorem sw_out6 {x : Int32} (h0 : ¬ x = 0) (h1 : ¬ x = 1) (h2 : ¬ x = 2) (h3 : ¬ x = 3) (h4 : ¬ x = 4) (h5 : ¬ x = 5) : x.toInt < 0 ∨ 5 < x.toInt := by
  have a0 := lv_neT (a := 0) h0 (by decide)
  have a1 := lv_neT (a := 1) h1 (by decide)
  have a2 := lv_neT (a := 2) h2 (by decide)
  have a3 := lv_neT (a := 3) h3 (by decide)
  have a4 := lv_neT (a := 4) h4 (by decide)
  have a5 := lv_neT (a := 5) h5 (by decide)
  omega
section ZN
variable {p : Program} {l : Launch} {e : Env} {R : Room} {s : State} {m : MethodId} {args : Array Value} {below : List Frame} {meth : Method} {c : Code} {H : Heap} {locs : List Loc} {cells slots : Nat} {Q : State → Prop}
variable {cc : ByteArray} {pc nL : Nat} {ls : Array Slot} {rest : List Value} {D : va_G} {A : Nat → Prop} {tys : List (ClassId × FieldType)} {ws : va_W}
theorem z_aldN {own : String} {a n j : Nat} {cA : ClassId} {f : Nat → Int32} {i : Int32} (E : CallFix p m c cc nL s args zB own) (hK : va_K D vwCl tys s) (hP : va_P D vwCl ws H) (q0 t0 : Nat) (ha : ws[q0]? = some (a, .inl (cA, n, .inl f))) (ht : tys[t0]? = some (cA, .int)) (hi : i = nI j) (hj : j < n) (hn : n < 2 ^ 31) (hdg : decode cc pc = .ok (.iaload, 1))
    (kk : W p l e R s m args below meth c H locs cells slots Q (F0 m (pc + 1) ls (.int (f j) :: rest))) : W p l e R s m args below meth c H locs cells slots Q (F0 m pc ls (.int i :: .ref a :: rest)) := by
  subst hi
  exact z_ald E hK hP q0 t0 ha ht (vp_in_nI hj hn) hdg (by rw [nI_clamp (by omega)]; exact kk)
theorem z_astN {own : String} {a n j : Nat} {cA : ClassId} {f : Nat → Int32} {i x : Int32} {ws' : va_W} (E : CallFix p m c cc nL s args zB own) (hK : va_K D vwCl tys s) (G : zG D A s H locs ws) (q0 t0 : Nat) (ha : ws[q0]? = some (a, .inl (cA, n, .inl f))) (ht : tys[t0]? = some (cA, .int)) (hi : i = nI j) (hj : j < n) (hn : n < 2 ^ 31) (hws : ws.set q0 (a, .inl (cA, n, .inl (upd f j x))) = ws') (hdg : decode cc pc = .ok (.iastore, 1))
    (kk : ∀ (H1 : Heap) (locs1 : List Loc), zG D A s H1 locs1 ws' → W p l e R s m args below meth c H1 locs1 cells slots Q (F0 m (pc + 1) ls rest)) : W p l e R s m args below meth c H locs cells slots Q (F0 m pc ls (.int x :: .int i :: .ref a :: rest)) := by
  subst hi
  exact z_ast E hK G q0 t0 ha ht (vp_in_nI hj hn) (by rw [nI_clamp (by omega)]; exact hws) hdg kk
end ZN
/-! constructors: the cell of the new object, and the cells that it makes -/
def zQK (D : va_G) (A : Nat → Prop) (B : va_W → Prop) : Array Value → State → Outcome → State → Prop := fun _ st oc t => oc = .returned none ∧ (∃ w', B w' ∧ va_P D vwCl w' t.heap ∧ va_D A w') ∧ va_F A st t
def zK (l : Launch) (D : va_G) (tys : List (ClassId × FieldType)) (y : MethodName) (cc : ByteArray) (n fr lo mc ms : Nat) (av : List Value) (w : va_W) (B : va_W → Prop) : Prop :=
  ∀ sz : Nat, Met l y (Cond.code y cc n none :: zB) { frames := fr, cells := mc, slots := ms, locals := lo } (va_Pc av (zP D tys w sz)) (zQK D (va_A w sz) B) mc ms (va_A w sz)
def zCi (own : String) (index : Nat) (y : MethodName) (bytes : ByteArray) (maxL : Nat) (n : Nat) : Prop :=
  Cond.methodLink own index y ∈ zB ∧ Cond.instanceMethod y ∈ zB ∧ Cond.initialized y.cls ∈ zB ∧ Cond.code y bytes maxL none ∈ zB ∧ (y.cls ≠ "java/lang/invoke/MethodHandle" ∧ y.cls ≠ "java/lang/invoke/VarHandle") ∧ (parseMethodDescriptor y.desc).map (fun d => d.parameters.length) = some n
section ZK
variable {p : Program} {l : Launch} {e : Env} {R : Room} {s : State} {m : MethodId} {args : Array Value} {below : List Frame} {meth : Method} {c : Code} {H : Heap} {locs : List Loc} {cells slots : Nat} {Q : State → Prop}
variable {cc : ByteArray} {pc nL : Nat} {ls : Array Slot} {rest : List Value} {D : va_G} {A : Nat → Prop} {tys : List (ClassId × FieldType)} {ws : va_W}
theorem zK.of {y : MethodName} {n fr lo mc ms : Nat} {av : List Value} {w : va_W} {B : va_W → Prop} (hy : plainName y.cls = true) (hln : (lg_sl av).length ≤ n) (hini : y.name = "<init>")
    (body : ∀ (p : Program) (e : Env) (s : State) (m : MethodId) (below : List Frame) (meth : Method) (c : Code) (ls : Array Slot) (A : Nat → Prop), CallFix p m c cc n s av.toArray zB y.cls → meth.sig.returnType = none → meth.locks = false → meth.name = "<init>" → zN s → va_K D vwCl tys s → (∀ q, s.heap.size ≤ q → A q) → zG D A s s.heap [] w → lv_has ls n (lv_args 0 av) →
      W p l e { frames := fr, cells := mc, slots := ms, locals := lo } s m av.toArray below meth c s.heap [] 0 0 (MQ below (zQK D A B) av.toArray s mc ms A) (F0 m 0 ls [])) : zK l D tys y cc n fr lo mc ms av w B := by
  intro sz
  refine Met.ofW (cc := cc) (maxL := n) (ret := none) hy rfl ?_
  intro p e s m args below meth c s₁ B hml hv
  obtain ⟨rfl, hsz, hN, hP, hK, hD0⟩ := hv
  have hts := atoms_spec (ws := Cond.code y cc n none :: zB) B.pre
  have hown : s.vm.findClass y.cls = some m.cls := findClass_of_methodNamed B.named
  have hin : meth.name = y.name := (name_of_methodNamed B.named B.method).1
  have hl := lv_entry av (n := n) hln
  rw [lg_entry_eq]
  subst hsz
  exact body p e s m below meth c _ (va_A w s.heap.size) ⟨B.exec, B.bytes, hml, hown, fun w hw => hts w (List.mem_cons_of_mem _ hw)⟩ B.returns B.notSynchronized (hin.trans hini) hN hK (fun q h => Or.inr h) ⟨hP, hD0.self, va_S.rf⟩ hl
theorem zK.vret {own : String} {B : va_W → Prop} {mc ms : Nat} (E : CallFix p m c cc nL s args zB own) (hr : meth.sig.returnType = none) (hlk : meth.locks = false) (G : zG D A s H locs ws) (hB : B ws) (h1 : cells ≤ mc) (h2 : slots ≤ ms) (d : decode cc pc = .ok (.return_, 1)) : W p l e R s m args below meth c H locs cells slots (MQ below (zQK D A B) args s mc ms A) (F0 m pc ls []) := by
  refine W.widen h1 h2 ?_
  exact W.vret E.1 E.2.1 hr (fun t ht _ => ⟨rfl, ⟨ws, hB, by rw [ht]; exact G.1, G.2.1⟩, G.2.2.F ht⟩) G.2.2.2.2 d hlk
theorem z_obj {own : String} {idx a : Nat} (E : CallFix p m c cc nL s args zB own) (hl : ls.size = nL) (k1 : Cond.methodLink own idx Lib.objectInit ∈ zB) (k2 : Cond.instanceMethod Lib.objectInit ∈ zB) (k3 : Cond.code Lib.objectInit ⟨#[0xb1]⟩ 1 none ∈ zB) (hd : decode cc pc = .ok (.invokespecial idx, 3)) (hfr : 1 ≤ R.frames) (hlo : 8 + 12 ≤ R.locals) (hcat : (rest.map fun v => v.category).sum ≤ 8)
    (kk : W p l e R s m args below meth c H locs cells slots Q (F0 m (pc + 3) ls rest)) : W p l e R s m args below meth c H locs cells slots Q (F0 m pc ls (.ref a :: rest)) :=
  W.objInit E.1 E.2.1 E.2.2.2.1 (E.2.2.2.2 _ k1) (E.2.2.2.2 _ k2) (E.2.2.2.2 _ k3) rfl (hl.trans E.2.2.1.symm) rfl hd hfr (by have h := lv_room (m := m) (pc := pc) (ls := ls) (rest := (.ref a :: rest)) hcat; omega) kk
theorem z_newi {own : String} {cI : ClassId} {n : Int32} {N t0 : Nat} (E : CallFix p m c cc nL s args zB own) (hK : va_K D vwCl tys s) (hA : ∀ q, s.heap.size ≤ q → A q) (G : zG D A s H locs ws) (harr : Cond.arrayClass .int ∈ zB) (ht : tys[t0]? = some (cI, .int)) (hn : ¬ n < 0) (hN : n.toNatClampNeg = N) (hbytes : N * componentBytes .int ≤ 536870912) (hcells : cells + 1 ≤ R.cells) (hslots : slots + N ≤ R.slots) (hdg : decode cc pc = .ok (.newarray .int, 2))
    (kk : ∀ (q : Nat) (H1 : Heap), zG D A s H1 locs (ws ++ [(q, .inl (cI, N, .inl (fun _ => 0)))]) → W p l e R s m args below meth c H1 locs (cells + 1) (slots + N) Q (F0 m (pc + 2) ls (.ref q :: rest))) : W p l e R s m args below meth c H locs cells slots Q (F0 m pc ls (.int n :: rest)) := by
  refine va_newa (atype := .int) (ty := .int) (a0 := (N, .inl (fun _ => 0))) E.1 E.2.1 (E.2.2.2.2 _ harr) rfl hK G.1 G.2.1 G.2.2 hA (fun cA => rfl) hn hN hbytes hcells hslots hdg (fun q cA H1 hK1 hP1 hD1 hS1 => ?_)
  have h1 := (hK1.2 tys.length (cA, .int) (by simp [newarray.typeOf])).2
  have h2 := (hK.2 t0 _ ht).2
  have h3 : cA = cI := Option.some.inj (h1.symm.trans h2)
  subst h3
  exact kk q H1 ⟨hP1, hD1, hS1⟩
theorem z_putF {own C : String} {T : u_T} {N ci index a : Nat} {fs : List Value} {v : Value} {ty : FieldType} {ws' : va_W} (E : CallFix p m c cc nL s args zB own) (hK : va_K D vwCl tys s) (G : zG D A s H locs ws) (hin : ∀ w ∈ u_ws C T N, w ∈ zB) (ty0 : Nat → FieldType) (hty : ∀ k, k < N → parseFieldDescriptor (T k).2.2.1 = some (ty0 k)) (hnm : ∀ a, a < N → ∀ b, b < N → a ≠ b → (T a).2.1 ≠ (T b).2.1) (hmn : meth.name = "<init>") (q0 k : Nat) (he : ws[q0]? = some (a, .inr (ci, fs))) (hc : vwCl[ci]? = some (C, T, N)) (hk : k < N) (hlink : Cond.fieldLink own index (T k).1 (T k).2.1 (T k).2.2.1 ∈ zB) (hfin : (T k).2.2.2 = true) (hdecl : (T k).1 = own) (hd : ty0 k = ty) (hn : narrow ty v = v) (hfit : fits ty v = true) (hl : k < fs.length) (hws : ws.set q0 (a, .inr (ci, fs.set k v)) = ws') (hdg : decode cc pc = .ok (.putfield index, 3))
    (kk : ∀ (H1 : Heap) (locs1 : List Loc), zG D A s H1 locs1 ws' → W p l e R s m args below meth c H1 locs1 cells slots Q (F0 m (pc + 3) ls rest)) : W p l e R s m args below meth c H locs cells slots Q (F0 m pc ls (v :: .ref a :: rest)) := by
  subst hws
  exact va_putF E.1 E.2.1 E.2.2.2.2 hin ty0 hty hnm E.2.2.2.1 hK G.1 G.2.1 G.2.2 q0 he hc k hk (E.2.2.2.2 _ hlink) (fun _ h9 => h9) hfin hmn hdecl (ty := ty) (by rw [hty k hk, hd]) hn hfit hl hdg (fun H1 l1 a1 a2 a3 => kk H1 l1 ⟨a1, a2, a3⟩)
theorem z_new {own C : String} {T : u_T} {N ci index : Nat} {fs : List Value} (E : CallFix p m c cc nL s args zB own) (hK : va_K D vwCl tys s) (hA : ∀ q, s.heap.size ≤ q → A q) (G : zG D A s H locs ws) (hin : ∀ w ∈ u_ws C T N, w ∈ zB) (ty0 : Nat → FieldType) (hty : ∀ k, k < N → parseFieldDescriptor (T k).2.2.1 = some (ty0 k)) (k1 : Cond.classLink own index C ∈ zB) (k2 : Cond.instantiable C N ∈ zB) (k3 : Cond.initialized C ∈ zB) (hc : vwCl[ci]? = some (C, T, N)) (hfs : ∀ j, j < N → defaultValue (ty0 j) = vp_V fs j) (hcells : cells + 1 ≤ R.cells) (hslots : slots + N ≤ R.slots) (hdg : decode cc pc = .ok (.new index, 3))
    (kk : ∀ (q : Nat) (H1 : Heap), zG D A s H1 locs (ws ++ [(q, .inr (ci, fs))]) → W p l e R s m args below meth c H1 locs (cells + 1) (slots + N) Q (F0 m (pc + 3) ls (.ref q :: rest))) : W p l e R s m args below meth c H locs cells slots Q (F0 m pc ls rest) :=
  va_new E.1 E.2.1 E.2.2.2.2 hin ty0 hty E.2.2.2.1 (E.2.2.2.2 _ k1) (E.2.2.2.2 _ k2) (E.2.2.2.2 _ k3) hK G.1 G.2.1 G.2.2 hA hc hfs hcells hslots hdg (fun q H1 a1 a2 a3 => kk q H1 ⟨a1, a2, a3⟩)
theorem z_ki {own : String} {b n maxL fr lo index mc ms : Nat} {y : MethodName} {bytes : ByteArray} {As st0 : List Value} {wc wr : va_W} {B : va_W → Prop}
    (E : CallFix p m c cc nL s args zB own) (hN : zN s) (hK : va_K D vwCl tys s) (hA : ∀ q, s.heap.size ≤ q → A q) (G : zG D A s H locs ws) (hl : ls.size = nL)
    (hM : zK l D tys y bytes maxL fr lo mc ms (.ref b :: As) wc B) (isC isR : List Nat) (hC : isC.map (fun i => ws[i]?) = wc.map some) (hR : isR.map (fun i => ws[i]?) = wr.map some) (hnC : va_nd isC = true) (hnR : va_nd isR = true) (hdis : ∀ i ∈ isR, i ∉ isC)
    (hz : zCi own index y bytes maxL n) (hini : y.name = "<init>") (hn : As.length = n) (hroom : fr + 1 ≤ R.frames ∧ 8 + (maxL + 11) + lo ≤ R.locals) (hst : st0 = As.reverse ++ .ref b :: rest) (hcat : (rest.map fun v => v.category).sum ≤ 8) (hcs : cells + mc ≤ R.cells ∧ slots + ms ≤ R.slots) (hdg : decode cc pc = .ok (.invokespecial index, 3))
    (kk : ∀ (H1 : Heap) (locs1 : List Loc) (w' : va_W), B w' → zG D A s H1 locs1 (wr ++ w') → W p l e R s m args below meth c H1 locs1 (cells + mc) (slots + ms) Q (F0 m (pc + 3) ls rest)) : W p l e R s m args below meth c H locs cells slots Q (F0 m pc ls st0) := by
  obtain ⟨k1, k2, k4, k5, k6, k7⟩ := hz
  have hts := E.2.2.2.2
  obtain ⟨hP, hD, hS⟩ := id G
  have hPc := hP.sub isC (z_fm hC)
  have hDc := hD.sub isC hnC hC
  have hF := va_free hD hS hA isC hC
  have hr := va_runI (As := As) (rest := rest) (g := F0 m pc ls st0) (H := H) (locs := locs) (cells := cells) (slots := slots) (below := below) (meth := meth) (e := e) E (hM H.size) ⟨⟨rfl, rfl, hroom.1, hroom.2, pay_in hts (z_good k5), List.mem_cons_self, hts _ k5, hts _ k4, k6, z_len k7, hts _ k1⟩, hini, hts _ k2⟩ ⟨zP.blind, fun U hU hW => ⟨rfl, by rw [hU], hN.warm hW, by rw [hU]; exact hPc, va_K.moved hW.alike hK, hDc.weaken (fun _ _ _ _ => trivial)⟩⟩ rfl hn hl hst (lv_room hcat) hdg hcs
  intro T hT X
  obtain ⟨v, st₀, t, T', L, h0, X', hL, e1, e2, ⟨hv, ⟨w', hB, hp1, hd1⟩, hz, hk⟩, st⟩ := hr T hT X
  cases hv
  rw [h0] at hz hk
  obtain ⟨hPj, hDj⟩ := va_join hP hD isC isR hC hR hnR hdis hk hF hp1 hd1
  obtain ⟨t2, a1, b1⟩ := kk T'.heap (locs ++ L) w' hB ⟨by rw [e1]; exact hPj, hDj, Nat.le_trans hS.1 (by rw [e1]; exact hz), fun q h1 h2 => by rw [e1, hk q (Nat.lt_of_lt_of_le h1 hS.1) (fun z => h2 (hF q z))]; exact hS.2.1 q h1 h2, fun q hq => by
      rcases List.mem_append.mp hq with h | h
      · exact hS.2.2 q h
      · exact hF _ (hL q h)⟩ T' rfl X'
  exact ⟨t2, st t2 a1, b1⟩
end ZK
def zCin (own : String) (index : Nat) (host : String) (y : MethodName) (bytes : ByteArray) (maxL : Nat) (n : Nat) : Prop :=
  Cond.methodLinkNest own index y host ∈ zNs ∧ Cond.instanceMethod y ∈ zB ∧ Cond.initialized y.cls ∈ zB ∧ Cond.code y bytes maxL none ∈ zB ∧ (y.cls ≠ "java/lang/invoke/MethodHandle" ∧ y.cls ≠ "java/lang/invoke/VarHandle") ∧ (parseMethodDescriptor y.desc).map (fun d => d.parameters.length) = some n
section ZK2
variable {p : Program} {l : Launch} {e : Env} {R : Room} {s : State} {m : MethodId} {args : Array Value} {below : List Frame} {meth : Method} {c : Code} {H : Heap} {locs : List Loc} {cells slots : Nat} {Q : State → Prop}
variable {cc : ByteArray} {pc nL : Nat} {ls : Array Slot} {rest : List Value} {D : va_G} {A : Nat → Prop} {tys : List (ClassId × FieldType)} {ws : va_W}
/-- the constructor is private, of a nest mate -/
theorem z_kin {own host : String} {b n maxL fr lo index mc ms : Nat} {y : MethodName} {bytes : ByteArray} {As st0 : List Value} {wc wr : va_W} {B : va_W → Prop}
    (E : CallFix p m c cc nL s args zB own) (hN : zN s) (hK : va_K D vwCl tys s) (hA : ∀ q, s.heap.size ≤ q → A q) (G : zG D A s H locs ws) (hl : ls.size = nL)
    (hM : zK l D tys y bytes maxL fr lo mc ms (.ref b :: As) wc B) (isC isR : List Nat) (hC : isC.map (fun i => ws[i]?) = wc.map some) (hR : isR.map (fun i => ws[i]?) = wr.map some) (hnC : va_nd isC = true) (hnR : va_nd isR = true) (hdis : ∀ i ∈ isR, i ∉ isC)
    (hz : zCin own index host y bytes maxL n) (hini : y.name = "<init>") (hn : As.length = n) (hroom : fr + 1 ≤ R.frames ∧ 8 + (maxL + 11) + lo ≤ R.locals) (hst : st0 = As.reverse ++ .ref b :: rest) (hcat : (rest.map fun v => v.category).sum ≤ 8) (hcs : cells + mc ≤ R.cells ∧ slots + ms ≤ R.slots) (hdg : decode cc pc = .ok (.invokespecial index, 3))
    (kk : ∀ (H1 : Heap) (locs1 : List Loc) (w' : va_W), B w' → zG D A s H1 locs1 (wr ++ w') → W p l e R s m args below meth c H1 locs1 (cells + mc) (slots + ms) Q (F0 m (pc + 3) ls rest)) : W p l e R s m args below meth c H locs cells slots Q (F0 m pc ls st0) := by
  obtain ⟨k1, k2, k4, k5, k6, k7⟩ := hz
  have hts := E.2.2.2.2
  obtain ⟨hP, hD, hS⟩ := id G
  have hPc := hP.sub isC (z_fm hC)
  have hDc := hD.sub isC hnC hC
  have hF := va_free hD hS hA isC hC
  have hr := va_runIN (host := host) (As := As) (rest := rest) (g := F0 m pc ls st0) (H := H) (locs := locs) (cells := cells) (slots := slots) (below := below) (meth := meth) (e := e) E (hM H.size) ⟨⟨⟨rfl, rfl, hroom.1, hroom.2, pay_in hts (z_good k5), List.mem_cons_self⟩, hts _ k5, hts _ k4, k6, z_len k7, va_Nw.use rfl (hN _ k1)⟩, hini, hts _ k2⟩ ⟨zP.blind, fun U hU hW => ⟨rfl, by rw [hU], hN.warm hW, by rw [hU]; exact hPc, va_K.moved hW.alike hK, hDc.weaken (fun _ _ _ _ => trivial)⟩⟩ rfl hn hl hst (lv_room hcat) hdg hcs
  intro T hT X
  obtain ⟨v, st₀, t, T', L, h0, X', hL, e1, e2, ⟨hv, ⟨w', hB, hp1, hd1⟩, hz, hk⟩, st⟩ := hr T hT X
  cases hv
  rw [h0] at hz hk
  obtain ⟨hPj, hDj⟩ := va_join hP hD isC isR hC hR hnR hdis hk hF hp1 hd1
  obtain ⟨t2, a1, b1⟩ := kk T'.heap (locs ++ L) w' hB ⟨by rw [e1]; exact hPj, hDj, Nat.le_trans hS.1 (by rw [e1]; exact hz), fun q h1 h2 => by rw [e1, hk q (Nat.lt_of_lt_of_le h1 hS.1) (fun z => h2 (hF q z))]; exact hS.2.1 q h1 h2, fun q hq => by
      rcases List.mem_append.mp hq with h | h
      · exact hS.2.2 q h
      · exact hF _ (hL q h)⟩ T' rfl X'
  exact ⟨t2, st t2 a1, b1⟩
end ZK2
