/-! Methods with an exception table: their contracts, calls of them, and the catching of what a callee throws. -/
theorem gMetW {l : Launch} {y : MethodName} {ws : List Cond} {rm : Room} {V : gV} {As : List Value} {Qc : Array Value → State → Outcome → State → Prop} {mc ms : Nat} {free : Addr → Prop} {cc : ByteArray} {maxL : Nat} {ret : Option FieldType} {hh : List (Nat × Nat × Nat × Nat)}
    (hy : plainName y.cls = true) (hw : ws = Cond.codeWith y cc maxL ret hh :: gt) (hA : (lg_sl As).length ≤ maxL) {Pc : Array Value → State → Prop} (hPc : ∀ a U, Pc a U → a = As.toArray ∧ gK V U)
    (body : ∀ (p : Program) (e : Env) (s : State) (m : MethodId) (below : List Frame) (meth : Method) (c : Code), gE p s m As.toArray c cc maxL y.cls V → c.exceptionTable.toList = tableOf hh → meth.sig.returnType = ret → meth.locks = false → Pc As.toArray s →
      gg p l e rm s m As.toArray below meth c maxL (MQ below Qc As.toArray s mc ms free) 0 0 (gR s.heap []) (lv_args 0 As) 0 []) : Met l y ws rm Pc Qc mc ms free := by
  refine va_MetW (cc := cc) (maxL := maxL) (ret := ret) (hh := hh) hy hw ?_
  intro p e s m args below meth c s₁ B hml hv
  obtain ⟨rfl, hK⟩ := hPc _ _ hv
  have hts := atoms_spec (ws := ws) B.pre
  have E : gE p s m As.toArray c cc maxL y.cls V := ⟨B.exec, B.bytes, hml, findClass_of_methodNamed B.named, fun w h => hts w (by rw [hw]; exact List.mem_cons_of_mem _ h), hK⟩
  have X := Stand.of_body B
  have htab : c.exceptionTable.toList = tableOf hh := by
    obtain ⟨m9, meth9, c9, hn9, h1, h2, -, -, h5, -, -, -⟩ := Cond.codeWith_spec (hts (Cond.codeWith y cc maxL ret hh) (by rw [hw]; exact List.mem_cons_self))
    cases B.named.symm.trans hn9
    cases B.method.symm.trans h1
    cases X.code.symm.trans h2
    rw [← h5, table_eq]
  rw [lg_entry_eq]
  exact body p e s m below meth c E htab B.returns B.notSynchronized hv s.heap [] _ ⟨rfl, rfl⟩ (lv_entry As hA)
/-- the heap has only grown -/
def gNw (H0 : Heap) (H : Heap) (locs : List Loc) : Prop := H0.size ≤ H.size ∧ (∀ q : Nat, q < H0.size → H[q]? = H0[q]?) ∧ locs = []
section CWR
variable {p : Program} {l : Launch} {e : Env} {R : Room} {s : State} {m : MethodId} {args : Array Value} {below : List Frame} {meth : Method} {c : Code} {V : gV} {A : Nat → Prop} {H0 : Heap} {nL : Nat} {Q : State → Prop} {cells slots : Nat} {lv : List (Nat × Value)} {pc : Nat} {rest : List Value} {cc : ByteArray} {own : String}
theorem runSW (E : gE p s m args c cc nL own V) {H : Heap} {locs : List Loc} {index maxL mc ms n : Nat} {y : MethodName} {bytes : ByteArray} {ret : Option FieldType} {hh : List (Nat × Nat × Nat × Nat)} {rm : Room} {Pc : Array Value → State → Prop} {Qc : Array Value → State → Outcome → State → Prop} {free : Addr → Prop}
    (hM : Met l y (Cond.codeWith y bytes maxL ret hh :: gt) rm Pc Qc mc ms free) (hcode : Cond.codeWith y bytes maxL ret hh ∈ gt) (hlink : Cond.methodLink own index y ∈ gt) (hst : Cond.static y ∈ gt) (hini : Cond.initialized y.cls ∈ gt) (hd : y.cls ≠ "java/lang/invoke/MethodHandle" ∧ y.cls ≠ "java/lang/invoke/VarHandle" ∧ (parseMethodDescriptor y.desc).map (fun d => d.parameters.length) = some n) (hrc : rm.cells = mc) (hrs : rm.slots = ms) (hR : rm.frames + 1 ≤ R.frames ∧ 8 + (maxL + 11) + rm.locals ≤ R.locals)
    {As : List Value} (hp : PreS s H Pc As) {g : JFrame} (hg : g.method = m) (hn : As.length = n) (hsize : g.locals.size = nL) (hstack : g.stack = As.reverse ++ rest) (hW : 2 * g.monitorRoom + (rest.map fun v => v.category).sum ≤ 8) (hdg : decode cc g.pc = .ok (.invokestatic index, 3)) (hf : cells + mc ≤ R.cells ∧ slots + ms ≤ R.slots) :
    va_Run p l e R s m args below meth c H locs cells slots mc ms g rest (Qc As.toArray) free := by
  have hG := gt_to hcode
  have hK : Back l R p e below s args y 3 8 (PreOf R mc ms Pc) (PostOf Qc mc ms free) := va_backW (hh := hh) (bytes := bytes) (maxL := maxL) (ret := ret) hM hp.1 hrc hrs hR.1 hR.2 (fun w hw a' U hWU => word_at hWU (hG w hw).2 (E.2.2.2.2.1 _ (hG w hw).1)) List.mem_cons_self (fun a' U hWU => word_at hWU (Or.inl (by first | rfl | simp [Cond.onTables, Cond.keeps, Cond.steady])) (E.2.2.2.2.1 _ hini))
  obtain ⟨mk, methM, cM, hnamed, hmethM, -, -, -, -, -, -, hsigM⟩ := Cond.codeWith_spec (E.2.2.2.2.1 _ hcode)
  have hstatic : methM.isStatic = true := Cond.static_spec hnamed hmethM (E.2.2.2.2.1 _ hst)
  obtain ⟨kP, hkP, -⟩ := className_of_methodNamed hnamed
  have hinitP : kP.init = .initialized := Cond.initialized_spec (findClass_of_methodNamed hnamed) hkP (E.2.2.2.2.1 _ hini)
  have hlen : As.length = methM.sig.parameters.length := by
    have h3 := hd.2.2
    rw [hsigM] at h3
    rw [hn]
    exact (Option.some.inj h3).symm
  intro T hT X
  obtain ⟨vm₁, X₁, hstep₁⟩ := X.invokestatic E.1 E.2.2.2.1 (E.2.2.2.2.1 _ hlink) hnamed hmethM hstatic hkP hinitP ⟨hd.1, hd.2.1⟩ (g := g) hg (argsL := As) (rest := rest) hlen hstack (by rw [E.2.1]; exact hdg)
  obtain ⟨v, ⟨U', l2, c2, s2⟩, X', ⟨g', mk', t, L, e1, e2, hq, h1, hL, h2, h3⟩, hsteps⟩ := hK m meth c ⟨T.setVm vm₁, locs, cells, slots⟩ { g with stack := rest } (.invokestatic index) mk As.toArray X₁ hg (hsize.trans E.2.2.1.symm) (by rw [E.2.1]; exact hdg) hW (X₁.named hnamed) ⟨hf.1, hf.2, hp.2 (T.setVm vm₁) hT X₁.warmed⟩
  dsimp only [Pt.U, Pt.locs, Pt.cells, Pt.slots] at X' e1 e2 h1 h2 h3 hsteps
  subst h1; subst h2; subst h3
  exact ⟨v, (T.setVm vm₁).calling g' mk' As.toArray, t, U', L, hT, X', hL, e1, e2, hq, fun target h => hstep₁ _ fun acts => by rw [doInvoke_state]; exact hsteps.trans h⟩
/-- the first row of the table catches -/
theorem g_catch1 (E : gE p s m args c cc nL own V) {x1 : ExceptionTableEntry} {tl : List ExceptionTableEntry} (htab : c.exceptionTable.toList = x1 :: tl) (hcov : covers x1 pc = true) (h0 : x1.catchType ≠ 0) {cls : String} (hcl : Cond.classLink own x1.catchType cls ∈ gt)
    {C : String} {index : Nat} {y : MethodName} {bytes : ByteArray} {maxL n : Nat} {ret : Option FieldType} {wy : List Cond} {rm : Room} {Pc : Array Value → State → Prop} {mc ms : Nat} (hM : MetX l y wy rm Pc cls mc ms) (cw : CallW R s args own C index y bytes maxL ret wy rm mc ms n)
    {b : Addr} {As st0 : List Value} (hn : As.length = n) (hst : st0 = As.reverse ++ .ref b :: rest) (hW : (rest.map fun v => v.category).sum ≤ 8) (hd : decode cc pc = .ok (.invokevirtual index, 3)) (hf : mc ≤ R.cells ∧ ms ≤ R.slots) (hp : PreV s s.heap C b Pc As)
    (k : ∀ x : Nat, gg p l e R s m args below meth c nL Q mc ms (gNw s.heap) lv x1.handlerPc [.ref x]) : gg p l e R s m args below meth c nL Q 0 0 (gR s.heap []) lv pc st0 := by
  intro H locs ls ho hl T hT X
  obtain ⟨h1, h2⟩ := ho
  subst h1; subst h2
  obtain ⟨x, T', X', k1, k2, k3, ⟨ce, k4, k5, k6⟩, st⟩ := gxV X E.1 hM E.2.2.2.1 cw (g := F0 m pc ls st0) rfl (by rw [E.2.2.1]; exact hl.1) hn hst (lv_room hW) (by rw [E.2.1]; exact hd) (by simpa using hf) (by rw [hT]; exact hp)
  have hpl : e.platform.magicAccessors = ({} : Platform).magicAccessors := by rw [X.admits.platform]
  obtain ⟨c', hc', hlinks⟩ := Cond.classLink_spec E.2.2.2.1 (E.2.2.2.2.1 _ hcl) e.platform hpl
  cases k6.symm.trans hc'
  obtain ⟨dk, _, _, kt, hdd, _, _, _, _, hkt, _, hopen⟩ := hlinks.here
  have hW' : s.WarmedH (T'.vm.noted m.cls x1.catchType (.cls ce.cls)) := X'.warmed.noted hdd hopen (State.rightAt_cls hlinks)
  obtain ⟨kt', hkt', -⟩ := X'.warmed.alike.2.2 _ _ hkt
  have hfind : xFT e ((T'.setTop (F0 m pc ls rest)).pushFrame (.throwing x)) (F0 m pc ls rest) x (.found x1.handlerPc) (T'.vm.noted m.cls x1.catchType (.cls ce.cls)) := by
    intro Q E d acts
    rw [_root_.Jvm.W.findHandler_eq (f := F0 m pc ls rest) (s := (T'.setTop (F0 m pc ls rest)).pushFrame (.throwing x)) (meth := meth) (code := c) X'.method' X'.code, htab]
    exact xgo_yes (s := (T'.setTop (F0 m pc ls rest)).pushFrame (.throwing x)) (f := F0 m pc ls rest) (cell := ce) hcov h0 (X'.warmed.classLinks hlinks) k4 (fun k => by rw [k5]; intro z; cases z) ⟨kt', hkt'⟩ ⟨kt', hkt'⟩ (va_asg _ _)
  have X2 := X'.noted hW'
  obtain ⟨t, a1, b1⟩ := k x (T'.setVm (T'.vm.noted m.cls x1.catchType (.cls ce.cls))).heap [] ls ⟨by rw [← hT]; exact k2, fun q hq => by rw [← hT] at hq ⊢; exact k1 q hq, rfl⟩ hl (T'.setVm (T'.vm.noted m.cls x1.catchType (.cls ce.cls))) rfl (by simpa using X2)
  exact ⟨t, st t (xcaught (g := F0 m pc ls rest) X'.here hfind a1), b1⟩
/-- the first row passes, the second one catches -/
theorem g_catch2 (E : gE p s m args c cc nL own V) {x0 x1 : ExceptionTableEntry} {tl : List ExceptionTableEntry} (htab : c.exceptionTable.toList = x0 :: x1 :: tl) (hcov0 : covers x0 pc = true) (h00 : x0.catchType ≠ 0) (hcov : covers x1 pc = true) (h0 : x1.catchType ≠ 0) (hcl0 : Cond.classLink own x0.catchType nIAE ∈ gt) (hcl : Cond.classLink own x1.catchType nISE ∈ gt) (hN : XN s)
    {C : String} {index : Nat} {y : MethodName} {bytes : ByteArray} {maxL n : Nat} {ret : Option FieldType} {wy : List Cond} {rm : Room} {Pc : Array Value → State → Prop} {mc ms : Nat} (hM : MetX l y wy rm Pc nISE mc ms) (cw : CallW R s args own C index y bytes maxL ret wy rm mc ms n)
    {b : Addr} {As st0 : List Value} (hn : As.length = n) (hst : st0 = As.reverse ++ .ref b :: rest) (hW : (rest.map fun v => v.category).sum ≤ 8) (hd : decode cc pc = .ok (.invokevirtual index, 3)) (hf : mc ≤ R.cells ∧ ms ≤ R.slots) (hp : PreV s s.heap C b Pc As)
    (k : ∀ x : Nat, gg p l e R s m args below meth c nL Q mc ms (gNw s.heap) lv x1.handlerPc [.ref x]) : gg p l e R s m args below meth c nL Q 0 0 (gR s.heap []) lv pc st0 := by
  intro H locs ls ho hl T hT X
  obtain ⟨h1, h2⟩ := ho
  subst h1; subst h2
  obtain ⟨x, T', X', k1, k2, k3, ⟨ce, k4, k5, k6⟩, st⟩ := gxV X E.1 hM E.2.2.2.1 cw (g := F0 m pc ls st0) rfl (by rw [E.2.2.1]; exact hl.1) hn hst (lv_room hW) (by rw [E.2.1]; exact hd) (by simpa using hf) (by rw [hT]; exact hp)
  have hpl : e.platform.magicAccessors = ({} : Platform).magicAccessors := by rw [X.admits.platform]
  obtain ⟨cI, hcI, hlinks0⟩ := Cond.classLink_spec E.2.2.2.1 (E.2.2.2.2.1 _ hcl0) e.platform hpl
  obtain ⟨c', hc', hlinks⟩ := Cond.classLink_spec E.2.2.2.1 (E.2.2.2.2.1 _ hcl) e.platform hpl
  cases k6.symm.trans hc'
  have hno := hN _ _ k6 hcI
  obtain ⟨dk0, _, _, kt0, hdd0, _, _, _, _, hkt0, _, hopen0⟩ := hlinks0.here
  obtain ⟨dk, _, _, kt, hdd, _, _, _, _, hkt, _, hopen⟩ := hlinks.here
  have hW1 : s.WarmedH (T'.vm.noted m.cls x0.catchType (.cls cI)) := X'.warmed.noted hdd0 hopen0 (State.rightAt_cls hlinks0)
  have hW' : s.WarmedH ((T'.vm.noted m.cls x0.catchType (.cls cI)).noted m.cls x1.catchType (.cls ce.cls)) := hW1.noted hdd hopen (State.rightAt_cls hlinks)
  obtain ⟨kt', hkt', -⟩ := X'.warmed.alike.2.2 _ _ hkt
  obtain ⟨kt0', hkt0', -⟩ := X'.warmed.alike.2.2 _ _ hkt0
  obtain ⟨kt2, hkt2, -⟩ := hW1.alike.2.2 _ _ hkt
  have hfind : xFT e ((T'.setTop (F0 m pc ls rest)).pushFrame (.throwing x)) (F0 m pc ls rest) x (.found x1.handlerPc) ((T'.vm.noted m.cls x0.catchType (.cls cI)).noted m.cls x1.catchType (.cls ce.cls)) := by
    intro Q E d acts
    rw [_root_.Jvm.W.findHandler_eq (f := F0 m pc ls rest) (s := (T'.setTop (F0 m pc ls rest)).pushFrame (.throwing x)) (meth := meth) (code := c) X'.method' X'.code, htab,
      xgo_no (s := (T'.setTop (F0 m pc ls rest)).pushFrame (.throwing x)) (f := F0 m pc ls rest) (cell := ce) hcov0 h00 (X'.warmed.classLinks hlinks0) k4 (fun k => by rw [k5]; intro z; cases z) ⟨kt', hkt'⟩ ⟨kt0', hkt0'⟩ (by rw [← hno]; exact X'.warmed.alike.assignable _ _)]
    exact xgo_yes (s := ((T'.setTop (F0 m pc ls rest)).pushFrame (.throwing x)).setVm (T'.vm.noted m.cls x0.catchType (.cls cI))) (f := F0 m pc ls rest) (cell := ce) hcov h0 (hW1.classLinks hlinks) k4 (fun k => by rw [k5]; intro z; cases z) ⟨kt2, hkt2⟩ ⟨kt2, hkt2⟩ (va_asg _ _)
  have X2 := X'.noted hW'
  obtain ⟨t, a1, b1⟩ := k x (T'.setVm ((T'.vm.noted m.cls x0.catchType (.cls cI)).noted m.cls x1.catchType (.cls ce.cls))).heap [] ls ⟨by rw [← hT]; exact k2, fun q hq => by rw [← hT] at hq ⊢; exact k1 q hq, rfl⟩ hl (T'.setVm ((T'.vm.noted m.cls x0.catchType (.cls cI)).noted m.cls x1.catchType (.cls ce.cls))) rfl (by simpa using X2)
  exact ⟨t, st t (xcaught (g := F0 m pc ls rest) X'.here hfind a1), b1⟩
end CWR
