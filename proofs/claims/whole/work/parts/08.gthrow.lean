/-! A method that throws: its contract (MetX), a call of one, and what the caller does with it: leave (gx_S, gx_V) or catch (in the part of the law's wrappers). -/
def XQ (cls : String) (s : State) (x : Addr) (t : State) (mc ms : Nat) : Prop := s.WarmedH t.vm ∧ s.sameButNew ({ t with vm := s.vm } : State) [] mc ms ∧ s.heap.size ≤ x ∧ ∃ ce : Cell, t.heap[x]? = some ce ∧ ce.vm = .none ∧ s.vm.findClass cls = some ce.cls
def MetX (l : Launch) (y : MethodName) (ws : List Cond) (rm : Room) (Pc : Array Value → State → Prop) (cls : String) (mc ms : Nat) : Prop :=
  MetFree l y (headSpec ws rm) Pc (fun _ _ _ _ _ => True) (fun _ st o t => ∃ x, o = .threw x ∧ XQ cls st x t mc ms)
def MQX (below : List Frame) (cls : String) (s : State) (mc ms : Nat) : State → Prop := fun t => ∃ x, t.status = .running ∧ Ended t below (.threw x) ∧ XQ cls s x t mc ms
theorem gMetX {l : Launch} {y : MethodName} {ws : List Cond} {rm : Room} {V : gV} {As : List Value} {cls : String} {mc ms : Nat} {cc : ByteArray} {maxL : Nat} {ret : Option FieldType}
    (hy : plainName y.cls = true) (hw : ws = Cond.code y cc maxL ret :: gt) (hA : (lg_sl As).length ≤ maxL) {Pc : Array Value → State → Prop} (hPc : ∀ a U, Pc a U → a = As.toArray ∧ gK V U)
    (body : ∀ (p : Program) (e : Env) (s : State) (m : MethodId) (below : List Frame) (meth : Method) (c : Code), gE p s m As.toArray c cc maxL y.cls V → l.admits e → c.exceptionTable.isEmpty = true → meth.locks = false → Pc As.toArray s →
      gg p l e rm s m As.toArray below meth c maxL (MQX below cls s mc ms) 0 0 (gR s.heap []) (lv_args 0 As) 0 []) : MetX l y ws rm Pc cls mc ms := by
  refine MetFree.of_bodyS (code := cc) (maxLocals := maxL) (ret := ret) hy ?_ ?_
  · intro args s m h hn
    obtain ⟨meth, c, h1, h2, h3, h4, h5, h6, -, -⟩ := Cond.code_spec hn (atoms_spec (ws := ws) h _ (by rw [hw]; exact List.mem_cons_self))
    exact ⟨meth, c, h1, h2, h3, h4, h5, h6⟩
  · intro p e s m args below meth c s₁ B hml hP _
    obtain ⟨rfl, hK⟩ := hPc _ _ hP
    have hts := atoms_spec (ws := ws) B.pre
    have E : gE p s m As.toArray c cc maxL y.cls V := ⟨B.exec, B.bytes, hml, findClass_of_methodNamed B.named, fun w h => hts w (by rw [hw]; exact List.mem_cons_of_mem _ h), hK⟩
    have hh0 : s₁.heap = s.heap := by rw [B.state]; rfl
    have hne : c.exceptionTable.isEmpty = true := B.noHandlers (hts _ (by rw [hw]; exact List.mem_cons_self))
    have K := body p e s m below meth c E B.admits hne B.notSynchronized hP s.heap [] _ ⟨rfl, rfl⟩ (lv_entry As hA)
    rw [← lg_entry_eq] at K
    obtain ⟨t, a1, x, b1, b2, b3⟩ := K s₁ hh0 (Stand.of_body B)
    exact ⟨t, .threw x, a1, b1, b2, x, rfl, b3⟩
section GX
variable {p : Program} {l : Launch} {e : Env} {R : Room} {s : State} {m : MethodId} {args : Array Value} {below : List Frame} {meth : Method} {c : Code} {locs : List Loc} {cells slots : Nat}
theorem gxBack {U : State} (X : Stand p l e R s m args below meth c U locs cells slots) {y : MethodName} {wy : List Cond} {rm : Room} {Pc : Array Value → State → Prop} {cls : String} {mc ms : Nat} (hM : MetX l y wy rm Pc cls mc ms)
    {g : JFrame} (hg : g.method = m) (hsize : g.locals.size = c.maxLocals) {ig : Instr} {len : Nat} (hdg : decode c.code g.pc = .ok (ig, len)) (hW : 2 * g.monitorRoom + (g.stack.map fun v => v.category).sum ≤ 8) {mk : MethodId} (hn : U.methodNamed? y = some mk)
    {maxL : Nat} {bytes : ByteArray} {ret : Option FieldType} (hfr : rm.frames + 1 ≤ R.frames) (hlo : 8 + (maxL + 11) + rm.locals ≤ R.locals) (hrc : rm.cells = mc) (hrs : rm.slots = ms) (hcells : cells + mc ≤ R.cells) (hslots : slots + ms ≤ R.slots)
    (hws : ∀ w ∈ wy, ∀ (a' : Array Value) (V : State), s.WarmedH V.vm → w.before a' V = true) (hcw : Cond.code y bytes maxL ret ∈ wy) (hini : ∀ (a' : Array Value) (V : State), s.WarmedH V.vm → (Cond.initialized y.cls).before a' V = true)
    {a : Array Value} (hPc : Pc a (U.calling g mk a)) :
    ∃ (x : Addr) (T' : State), Stand p l e R s m args below meth c T' locs (cells + mc) (slots + ms) ∧ (∀ q : Nat, q < U.heap.size → T'.heap[q]? = U.heap[q]?) ∧ U.heap.size ≤ T'.heap.size ∧ U.heap.size ≤ x ∧ (∃ ce : Cell, T'.heap[x]? = some ce ∧ ce.vm = .none ∧ s.vm.findClass cls = some ce.cls) ∧
      Steps p.tables e below (doInvoke e (U.setTop g) [] mk a).1 ((T'.setTop g).pushFrame (.throwing x)) := by
  obtain ⟨methY, cY, hmY, hcY, -, hlY, -, -, -, -⟩ := Cond.code_spec hn (hws _ hcw a U X.warmed)
  obtain ⟨kY, hkY, -⟩ := className_of_methodNamed hn
  have hinitY : kY.init = .initialized := Cond.initialized_spec (findClass_of_methodNamed hn) hkY (hini a U X.warmed)
  have h : At U g.method c below := by rw [hg]; exact X.here
  have happ : (headSpec wy rm).appliesLoose y e.platform (U.calling g mk a) = true :=
    Spec.appliesLoose_calling (g := g) h hdg hn hkY hinitY (X.room_calling (g := g) (R' := rm) hsize hmY hcY hfr (by rw [hlY]; omega) (by rw [hrc]; exact hcells) (by rw [hrs]; exact hslots)) (atoms_intro fun w hw => hws w hw _ _ X.warmed)
  obtain ⟨mid, hmid⟩ := h.above
  have hfrm : (U.setTop g).frames = (.java g :: mid) ++ below := by rw [State.frames_setTop' g h.top, hmid]; rfl
  obtain ⟨o, s₂, hsteps, -, hend, x, rfl, hWx, hsame, hxn, ce, hce, hcv, hcf⟩ := Steps.callFree hM p X.admits X.cas X.clock (acts := []) hfrm happ hPc trivial
  rw [State.frames_setTop' g h.top, X.tail] at hend
  obtain ⟨T', X', -, -, e2⟩ := X.outOfThrown hg hend hWx hsame
  rw [List.append_nil] at X'
  have hh : s₂.heap = T'.heap := by rw [e2]; exact Stand.throwing_heap T' g x
  refine ⟨x, T', X', fun q hq => ?_, by rw [← hh]; exact hsame.2.1, hxn, ⟨ce, by rw [← hh]; exact hce, hcv, ?_⟩, by rw [← e2]; exact hsteps⟩
  · have h1 : U.heap[q]? = some U.heap[q] := Array.getElem?_eq_getElem hq
    rw [h1, ← hh]
    exact hsame.old_cell (a := q) h1
  · have h1 : U.vm.findClass cls = some ce.cls := hcf
    rw [X.warmed.alike.findClass] at h1
    exact h1
theorem gxS {T : State} (X : Stand p l e R s m args below meth c T locs cells slots) (hexec : p.tables.exec = Jvm.exec) {own : String} {index : Nat} {y : MethodName} {bytes : ByteArray} {maxL n : Nat} {ret : Option FieldType} {wy : List Cond} {rm : Room} {Pc : Array Value → State → Prop} {cls : String} {mc ms : Nat}
    (hM : MetX l y wy rm Pc cls mc ms) (hbl : FrameBlind Pc) (hown : s.vm.findClass own = some m.cls) (cw : CallB R s args own index y bytes maxL ret wy rm mc ms n ∧ (Cond.static y).before args s = true)
    {g : JFrame} (hg : g.method = m) (hsize : g.locals.size = c.maxLocals) {As rest : List Value} (hn : As.length = n) (hstack : g.stack = As.reverse ++ rest) (hW : 2 * g.monitorRoom + (rest.map fun v => v.category).sum ≤ 8) (hdg : decode c.code g.pc = .ok (.invokestatic index, 3))
    (hf : cells + mc ≤ R.cells ∧ slots + ms ≤ R.slots) (hPc : ∀ V : State, V.heap = T.heap → s.WarmedH V.vm → Pc As.toArray V) :
    ∃ (x : Addr) (T' : State), Stand p l e R s m args below meth c T' locs (cells + mc) (slots + ms) ∧ (∀ q : Nat, q < T.heap.size → T'.heap[q]? = T.heap[q]?) ∧ T.heap.size ≤ T'.heap.size ∧ T.heap.size ≤ x ∧ (∃ ce : Cell, T'.heap[x]? = some ce ∧ ce.vm = .none ∧ s.vm.findClass cls = some ce.cls) ∧
      ∀ target, Steps p.tables e below ((T'.setTop { g with stack := rest }).pushFrame (.throwing x)) target → Steps p.tables e below (T.setTop g) target := by
  obtain ⟨⟨hrc, hrs, hfr, hlo, hws, hcw, hcode, hini, hy, hlen, hl⟩, hstt⟩ := cw
  obtain ⟨mk, hnamed⟩ := Cond.code_named hcode
  obtain ⟨methM, cM, hmethM, -, -, -, -, -, -, hsigM⟩ := Cond.code_spec hnamed hcode
  have hstatic : methM.isStatic = true := Cond.static_spec hnamed hmethM hstt
  obtain ⟨kP, hkP, -⟩ := className_of_methodNamed hnamed
  have hinitP : kP.init = .initialized := Cond.initialized_spec (findClass_of_methodNamed hnamed) hkP hini
  obtain ⟨vm₁, X₁, hstep₁⟩ := X.invokestatic hexec hown hl hnamed hmethM hstatic hkP hinitP hy (g := g) hg (argsL := As) (rest := rest) (hn.trans (hlen _ hsigM)) hstack hdg
  obtain ⟨x, T', X', h1, h2, h3, h4, hsteps⟩ := gxBack X₁ hM (g := { g with stack := rest }) hg hsize hdg hW (X₁.named hnamed) (bytes := bytes) (maxL := maxL) (ret := ret) hfr hlo hrc hrs hf.1 hf.2 hws hcw (fun a' V hWV => word_at hWV (Or.inl (by first | rfl | simp [Cond.onTables, Cond.keeps, Cond.steady])) hini) (a := As.toArray) (hbl _ _ _ _ (hPc _ rfl X₁.warmed))
  exact ⟨x, T', X', h1, h2, h3, h4, fun target h => hstep₁ _ fun acts => by rw [doInvoke_state]; exact hsteps.trans h⟩
theorem gxV {T : State} (X : Stand p l e R s m args below meth c T locs cells slots) (hexec : p.tables.exec = Jvm.exec) {own C : String} {index : Nat} {y : MethodName} {bytes : ByteArray} {maxL n : Nat} {ret : Option FieldType} {wy : List Cond} {rm : Room} {Pc : Array Value → State → Prop} {cls : String} {mc ms : Nat}
    (hM : MetX l y wy rm Pc cls mc ms) (hown : s.vm.findClass own = some m.cls) (cw : CallW R s args own C index y bytes maxL ret wy rm mc ms n)
    {b : Addr} {g : JFrame} (hg : g.method = m) (hsize : g.locals.size = c.maxLocals) {As rest : List Value} (hn : As.length = n) (hstack : g.stack = As.reverse ++ .ref b :: rest) (hW : 2 * g.monitorRoom + (rest.map fun v => v.category).sum ≤ 8) (hdg : decode c.code g.pc = .ok (.invokevirtual index, 3))
    (hf : cells + mc ≤ R.cells ∧ slots + ms ≤ R.slots) (hp : PreV s T.heap C b Pc As) :
    ∃ (x : Addr) (T' : State), Stand p l e R s m args below meth c T' locs (cells + mc) (slots + ms) ∧ (∀ q : Nat, q < T.heap.size → T'.heap[q]? = T.heap[q]?) ∧ T.heap.size ≤ T'.heap.size ∧ T.heap.size ≤ x ∧ (∃ ce : Cell, T'.heap[x]? = some ce ∧ ce.vm = .none ∧ s.vm.findClass cls = some ce.cls) ∧
      ∀ target, Steps p.tables e below ((T'.setTop { g with stack := rest }).pushFrame (.throwing x)) target → Steps p.tables e below (T.setTop g) target := by
  obtain ⟨⟨hrc, hrs, hfr, hlo, hws, hcw, hcode, hini, hy, hlen, hl⟩, hin, hsel⟩ := cw
  obtain ⟨hbl, ⟨cellB, hcell, hobj, hcls⟩, hPc⟩ := hp
  obtain ⟨mk, methM, hnamed, hmethM, hstM, habM⟩ := Cond.instanceMethod_spec hin
  obtain ⟨methM', cM, hmethM', -, -, -, -, -, -, hsigM⟩ := Cond.code_spec hnamed hcode
  cases hmethM.symm.trans hmethM'
  obtain ⟨c2, r2, m2, q1, q2, q3, q4, kP, hkP, hkPi⟩ := Cond.selects_spec hsel
  cases hcls.symm.trans q1
  cases (State.methodFound?_of_named hnamed hy).symm.trans q2
  cases hnamed.symm.trans q3
  have hselP : selectMethod e.platform s.vm cellB.cls mk = .method mk := by rw [Launch.admits_selectMethod X.admits]; exact q4
  obtain ⟨vm₁, X₁, hstep₁⟩ := X.invokevirtual hexec hown hl hnamed hmethM hstM hkP hkPi hy (a := b) (cell := cellB) hcell
    (fun z h => by rw [h] at hobj; cases hobj) hselP hmethM habM hkP hkPi (g := g) hg (argsL := As) (rest := rest) (hn.trans (hlen _ hsigM)) hstack hdg
  obtain ⟨x, T', X', h1, h2, h3, h4, hsteps⟩ := gxBack X₁ hM (g := { g with stack := rest }) hg hsize hdg hW (X₁.named hnamed) (bytes := bytes) (maxL := maxL) (ret := ret) hfr hlo hrc hrs hf.1 hf.2 hws hcw (fun a' V hWV => word_at hWV (Or.inl (by first | rfl | simp [Cond.onTables, Cond.keeps, Cond.steady])) hini) (a := (Value.ref b :: As).toArray) (hbl _ _ _ _ (hPc _ rfl X₁.warmed))
  exact ⟨x, T', X', h1, h2, h3, h4, fun target h => hstep₁ _ fun acts => by rw [doInvoke_state]; exact hsteps.trans h⟩
variable {V : gV} {nL : Nat} {lv : List (Nat × Value)} {pc : Nat} {rest : List Value} {cc : ByteArray} {own : String}
/-- a static callee throws, and this method, which has no handlers, throws on -/
theorem gx_S (E : gE p s m args c cc nL own V) (hne : c.exceptionTable.isEmpty = true) (hlk : meth.locks = false) {index : Nat} {y : MethodName} {bytes : ByteArray} {maxL n : Nat} {ret : Option FieldType} {wy : List Cond} {rm : Room} {Pc : Array Value → State → Prop} {cls : String} {mc ms : Nat}
    (hM : MetX l y wy rm Pc cls mc ms) (hbl : FrameBlind Pc) (cw : CallB R s args own index y bytes maxL ret wy rm mc ms n ∧ (Cond.static y).before args s = true) {As st0 : List Value} (hn : As.length = n) (hst : st0 = As.reverse ++ rest) (hW : (rest.map fun v => v.category).sum ≤ 8) (hd : decode cc pc = .ok (.invokestatic index, 3)) (hf : mc ≤ R.cells ∧ ms ≤ R.slots)
    (hPc : ∀ V : State, V.heap = s.heap → s.WarmedH V.vm → Pc As.toArray V) : gg p l e R s m args below meth c nL (MQX below cls s mc ms) 0 0 (gR s.heap []) lv pc st0 := by
  intro H locs ls ho hl T hT X
  obtain ⟨h1, h2⟩ := ho
  subst h1; subst h2
  obtain ⟨x, T', X', k1, k2, k3, ⟨ce, k4, k5, k6⟩, st⟩ := gxS X E.1 hM hbl E.2.2.2.1 cw (g := F0 m pc ls st0) rfl (by rw [E.2.2.1]; exact hl.1) hn hst (lv_room hW) (by rw [E.2.1]; exact hd) (by simpa using hf) (fun V hV hWV => hPc V (hV.trans hT) hWV)
  obtain ⟨a1, a2, a3, a4, a5⟩ := X'.leaveThrown x (g := F0 m pc ls rest) rfl rfl rfl (fun z hz => by
    have : c.exceptionTable = #[] := by simpa using hne
    rw [this] at hz; cases hz) hlk
  refine ⟨_, st _ a1, x, a2, a3, a4, ?_, by rw [← hT]; exact k3, ce, k4, k5, k6⟩
  simpa using a5
end GX
