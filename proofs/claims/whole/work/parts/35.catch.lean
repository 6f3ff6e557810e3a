/-! Framing of contracts; methods with an exception table; catching. -/
section FRM
variable {l : Launch} {y : MethodName} {wy : List Cond} {rm : Room} {V : gV} {w w' pre post : va_W} {As : List Value} {mc ms : Nat}
theorem fP {D : va_G} {cl : List vw_C} {H : Heap} (h : va_P D cl (pre ++ w) H) : va_P D cl w H ∧ va_P D cl pre H :=
  ⟨fun k q hk => h (pre.length + k) q (by rw [List.getElem?_append_right (by omega), show pre.length + k - pre.length = k by omega]; exact hk), fun k q hk => h k q (by rw [List.getElem?_append_left (List.getElem?_eq_some_iff.mp hk).1]; exact hk)⟩
theorem fD {A : Nat → Prop} (h : va_D A (pre ++ w)) : va_D A w ∧ va_D A pre ∧ ∀ (i j : Nat) (p q : Nat × va_E), pre[i]? = some p → w[j]? = some q → p.1 ≠ q.1 := by
  have e1 : ∀ (k : Nat) (q : Nat × va_E), w[k]? = some q → (pre ++ w)[pre.length + k]? = some q := fun k q hk => by rw [List.getElem?_append_right (by omega), show pre.length + k - pre.length = k by omega]; exact hk
  have e2 : ∀ (k : Nat) (q : Nat × va_E), pre[k]? = some q → (pre ++ w)[k]? = some q := fun k q hk => by rw [List.getElem?_append_left (List.getElem?_eq_some_iff.mp hk).1]; exact hk
  refine ⟨⟨fun i j p q hp hq hpq => ?_, fun k q hk => h.2 _ q (e1 k q hk)⟩, ⟨fun i j p q hp hq hpq => h.1 i j p q (e2 i p hp) (e2 j q hq) hpq, fun k q hk => h.2 _ q (e2 k q hk)⟩, fun i j p q hp hq hpq => ?_⟩
  · have := h.1 _ _ p q (e1 i p hp) (e1 j q hq) hpq; omega
  · have := h.1 _ _ p q (e2 i p hp) (e1 j q hq) hpq
    have := (List.getElem?_eq_some_iff.mp hp).1
    omega
theorem fA {sz q : Nat} (h : va_A w sz q) : va_A (pre ++ w) sz q := by
  rcases h with ⟨k, e, hk⟩ | h
  · exact Or.inl ⟨pre.length + k, e, by rw [List.getElem?_append_right (by omega), show pre.length + k - pre.length = k by omega]; exact hk⟩
  · exact Or.inr h
/-- what a callee that had the world w leaves of the world pre ++ w -/
theorem fB {s t : State} {sz : Nat} (hs : s.heap.size = sz) (hP : va_P V.1 clz (pre ++ w) s.heap) (hD : va_D (fun _ => True) (pre ++ w)) (h : cB V w sz (fun _ : Unit => w') () t) (hF : va_F (va_A w sz) s t) : cB V (pre ++ w) sz (fun _ : Unit => pre ++ w') () t ∧ va_F (va_A (pre ++ w) sz) s t := by
  obtain ⟨d1, d2, d3⟩ := fD hD
  have hn : ∀ (k : Nat) (q : Nat × va_E), pre[k]? = some q → ¬ va_A w sz q.1 := by
    intro k q hk hA
    rcases hA with ⟨j, e, hj⟩ | hA
    · exact d3 k j q _ hk hj rfl
    · have := ((fP hP).2 k q hk).lt; omega
  refine ⟨⟨((fP hP).2.kept (fun k q hk => hF.2 _ ((fP hP).2 k q hk).lt (hn k q hk))).app h.1, ?_⟩, hF.1, fun q h1 h2 => hF.2 q h1 (fun h3 => h2 (fA h3))⟩
  refine va_D.app ⟨d2.1, fun k q hk => Or.inl ⟨k, q.2, by rw [List.getElem?_append_left (List.getElem?_eq_some_iff.mp hk).1]; exact hk⟩⟩ (h.2.weaken (fun _ q _ hq => fA hq)) (fun i j p q hp hq hpq => hn i p hp (by rw [hpq]; exact h.2.2 j q hq))
theorem fi {v : Int32} (h : mWi l y wy rm V w As v w' mc ms) : mWi l y wy rm V (pre ++ w) As v (pre ++ w') mc ms := by
  intro sz p e ha hc hk s m args below hf happ hP hK
  obtain ⟨n, o, h1, h2, h3, ⟨⟨r, u, hr, hp, hB⟩, hF⟩, L, hL, hfr⟩ := h sz p e ha hc hk s m args below hf happ ⟨hP.1, hP.2.1, (fP hP.2.2.1).1, hP.2.2.2.1, (fD hP.2.2.2.2).1⟩ trivial
  have q := fB hP.2.1 hP.2.2.1 hP.2.2.2.2 hB hF
  exact ⟨n, o, h1, h2, h3, ⟨⟨r, u, hr, hp, q.1⟩, q.2⟩, L, hL, fun z hz => fA (hfr z hz)⟩
theorem fl {v : Int64} (h : mWl l y wy rm V w As v w' mc ms) : mWl l y wy rm V (pre ++ w) As v (pre ++ w') mc ms := by
  intro sz p e ha hc hk s m args below hf happ hP hK
  obtain ⟨n, o, h1, h2, h3, ⟨⟨r, u, hr, hp, hB⟩, hF⟩, L, hL, hfr⟩ := h sz p e ha hc hk s m args below hf happ ⟨hP.1, hP.2.1, (fP hP.2.2.1).1, hP.2.2.2.1, (fD hP.2.2.2.2).1⟩ trivial
  have q := fB hP.2.1 hP.2.2.1 hP.2.2.2.2 hB hF
  exact ⟨n, o, h1, h2, h3, ⟨⟨r, u, hr, hp, q.1⟩, q.2⟩, L, hL, fun z hz => fA (hfr z hz)⟩
theorem fv (h : mWv l y wy rm V w As w' mc ms) : mWv l y wy rm V (pre ++ w) As (pre ++ w') mc ms := by
  intro sz p e ha hc hk s m args below hf happ hP hK
  obtain ⟨n, o, h1, h2, h3, ⟨⟨u, hr, hp, hB⟩, hF⟩, L, hL, hfr⟩ := h sz p e ha hc hk s m args below hf happ ⟨hP.1, hP.2.1, (fP hP.2.2.1).1, hP.2.2.2.1, (fD hP.2.2.2.2).1⟩ trivial
  have q := fB hP.2.1 hP.2.2.1 hP.2.2.2.2 hB hF
  exact ⟨n, o, h1, h2, h3, ⟨⟨u, hr, hp, q.1⟩, q.2⟩, L, hL, fun z hz => fA (hfr z hz)⟩
theorem fPs {D : va_G} {cl : List vw_C} {H : Heap} {a b : va_W} (h : va_P D cl (a ++ b) H) : va_P D cl (b ++ a) H := va_P.swap (a := []) h
theorem fDs {A : Nat → Prop} {a b : va_W} (h : va_D A (a ++ b)) : va_D A (b ++ a) := va_D.swap (a := []) h
theorem fAs {a b : va_W} {sz q : Nat} (h : va_A (a ++ b) sz q) : va_A (b ++ a) sz q := by
  rcases h with ⟨k, e, hk⟩ | h
  · rcases List.mem_append.mp (List.mem_of_getElem? hk) with h1 | h1
    · obtain ⟨i, hi⟩ := List.getElem?_of_mem (List.mem_append_right b h1); exact Or.inl ⟨i, e, hi⟩
    · obtain ⟨i, hi⟩ := List.getElem?_of_mem (List.mem_append_left a h1); exact Or.inl ⟨i, e, hi⟩
  · exact Or.inr h
theorem fBs {a b a' b' : va_W} {s t : State} {sz : Nat} (h : cB V (a ++ b) sz (fun _ : Unit => a' ++ b') () t) (hF : va_F (va_A (a ++ b) sz) s t) : cB V (b ++ a) sz (fun _ : Unit => b' ++ a') () t ∧ va_F (va_A (b ++ a) sz) s t :=
  ⟨⟨fPs h.1, (fDs h.2).weaken (fun _ _ _ => fAs)⟩, hF.1, fun q h1 h2 => hF.2 q h1 (fun h3 => h2 (fAs h3))⟩
theorem si {a b a' b' : va_W} {v : Int32} (h : mWi l y wy rm V (a ++ b) As v (a' ++ b') mc ms) : mWi l y wy rm V (b ++ a) As v (b' ++ a') mc ms := by
  intro sz p e ha hc hk s m args below hf happ hP hK
  obtain ⟨n, o, h1, h2, h3, ⟨⟨r, u, hr, hp, hB⟩, hF⟩, L, hL, hfr⟩ := h sz p e ha hc hk s m args below hf happ ⟨hP.1, hP.2.1, fPs hP.2.2.1, hP.2.2.2.1, fDs hP.2.2.2.2⟩ trivial
  have q := fBs hB hF
  exact ⟨n, o, h1, h2, h3, ⟨⟨r, u, hr, hp, q.1⟩, q.2⟩, L, hL, fun z hz => fAs (hfr z hz)⟩
theorem sl {a b a' b' : va_W} {v : Int64} (h : mWl l y wy rm V (a ++ b) As v (a' ++ b') mc ms) : mWl l y wy rm V (b ++ a) As v (b' ++ a') mc ms := by
  intro sz p e ha hc hk s m args below hf happ hP hK
  obtain ⟨n, o, h1, h2, h3, ⟨⟨r, u, hr, hp, hB⟩, hF⟩, L, hL, hfr⟩ := h sz p e ha hc hk s m args below hf happ ⟨hP.1, hP.2.1, fPs hP.2.2.1, hP.2.2.2.1, fDs hP.2.2.2.2⟩ trivial
  have q := fBs hB hF
  exact ⟨n, o, h1, h2, h3, ⟨⟨r, u, hr, hp, q.1⟩, q.2⟩, L, hL, fun z hz => fAs (hfr z hz)⟩
theorem sv_ {a b a' b' : va_W} (h : mWv l y wy rm V (a ++ b) As (a' ++ b') mc ms) : mWv l y wy rm V (b ++ a) As (b' ++ a') mc ms := by
  intro sz p e ha hc hk s m args below hf happ hP hK
  obtain ⟨n, o, h1, h2, h3, ⟨⟨u, hr, hp, hB⟩, hF⟩, L, hL, hfr⟩ := h sz p e ha hc hk s m args below hf happ ⟨hP.1, hP.2.1, fPs hP.2.2.1, hP.2.2.2.1, fDs hP.2.2.2.2⟩ trivial
  have q := fBs hB hF
  exact ⟨n, o, h1, h2, h3, ⟨⟨u, hr, hp, q.1⟩, q.2⟩, L, hL, fun z hz => fAs (hfr z hz)⟩
/-- a method that only reads, over a part of the world -/
theorem fpi {v : Int32} (h : mPi l y wy rm V w As v) : mPi l y wy rm V (pre ++ (w ++ post)) As v :=
  fun p e ha hc hk s m args below hf happ hP hK => h p e ha hc hk s m args below hf happ ⟨hP.1, (fP (fPs (fP hP.2.1).1)).1, hP.2.2⟩ trivial
end FRM
/-- ISE is no IAE -/
def XN (U : State) : Prop := ∀ cE cI, U.vm.findClass nISE = some cE → U.vm.findClass nIAE = some cI → U.vm.assignable cE cI = false
theorem XN.move {s U : State} (hW : s.WarmedH U.vm) (h : XN s) : XN U := by
  intro cE cI h1 h2
  rw [hW.alike.findClass] at h1 h2
  rw [hW.alike.assignable]
  exact h cE cI h1 h2
def XJ (U : State) : Prop := XK U ∧ XN U
theorem XJ.move {s U : State} (hW : s.WarmedH U.vm) (hh : ∀ q : Nat, q < s.heap.size → U.heap[q]? = s.heap[q]?) (h : XJ s) : XJ U := ⟨XK.move hW hh h.1, XN.move hW h.2⟩
/-- what the search for a handler gives, and the tables that it leaves -/
def xFT (e : Env) (s : State) (f : JFrame) (a : Addr) (h : Handler) (vm' : Vm) : Prop :=
  ∀ (Q : Handler → Pre) (E : CtlPost) (d : Bool) (acts : List Action), wp (findHandler f a) Q E e d acts s ↔ Q h d acts (s.setVm vm')
theorem xgo_yes {Q : Handler → Pre} {E : CtlPost} {e : Env} {d : Bool} {acts : List Action} {s : State} {f : JFrame} {a : Addr} {x : ExceptionTableEntry} {t : List ExceptionTableEntry} {c : ClassId} {cell : Cell} (hx : covers x f.pc = true) (h0 : x.catchType ≠ 0)
    (hl : s.vm.ClassLinks e.platform f.method.cls x.catchType c) (hcell : s.heap[a]? = some cell) (hobj : ∀ k, cell.vm ≠ .statics k) (hk : ∃ k, s.vm.classes[cell.cls]? = some k) (hc : ∃ k, s.vm.classes[c]? = some k) (hfit : s.vm.assignable cell.cls c = true) :
    wp (findHandler.go f a (x :: t)) Q E e d acts s ↔ Q (.found x.handlerPc) d acts (s.setVm (s.vm.noted f.method.cls x.catchType (.cls c))) := by
  simp only [covers] at hx
  obtain ⟨ha, ht⟩ := (resolveClass_links e.toSetting hl).op (op := VmOp.resolveClass f.method.cls x.catchType) rfl
  have hal : s.vm.Alike (s.vm.noted f.method.cls x.catchType (.cls c)) := (Vm.Alike.refl s.vm).noted _ _ _
  obtain ⟨k1, hk1⟩ := hk
  obtain ⟨k2, hk2⟩ := hc
  obtain ⟨k1', hk1', -⟩ := hal.2.2 _ _ hk1
  obtain ⟨k2', hk2', -⟩ := hal.2.2 _ _ hk2
  have hfit' : (s.vm.noted f.method.cls x.catchType (.cls c)).assignable cell.cls c = true := by rw [hal.assignable]; exact hfit
  simp [findHandler.go, hx, h0, ha, ht, hcell, hobj, hk1', hk2', hfit', VmOp.dirties, VmOp.acts]
theorem xgo_no {Q : Handler → Pre} {E : CtlPost} {e : Env} {d : Bool} {acts : List Action} {s : State} {f : JFrame} {a : Addr} {x : ExceptionTableEntry} {t : List ExceptionTableEntry} {c : ClassId} {cell : Cell} (hx : covers x f.pc = true) (h0 : x.catchType ≠ 0)
    (hl : s.vm.ClassLinks e.platform f.method.cls x.catchType c) (hcell : s.heap[a]? = some cell) (hobj : ∀ k, cell.vm ≠ .statics k) (hk : ∃ k, s.vm.classes[cell.cls]? = some k) (hc : ∃ k, s.vm.classes[c]? = some k) (hno : s.vm.assignable cell.cls c = false) :
    wp (findHandler.go f a (x :: t)) Q E e d acts s ↔ wp (findHandler.go f a t) Q E e d acts (s.setVm (s.vm.noted f.method.cls x.catchType (.cls c))) := by
  simp only [covers] at hx
  obtain ⟨ha, ht⟩ := (resolveClass_links e.toSetting hl).op (op := VmOp.resolveClass f.method.cls x.catchType) rfl
  have hal : s.vm.Alike (s.vm.noted f.method.cls x.catchType (.cls c)) := (Vm.Alike.refl s.vm).noted _ _ _
  obtain ⟨k1, hk1⟩ := hk
  obtain ⟨k2, hk2⟩ := hc
  obtain ⟨k1', hk1', -⟩ := hal.2.2 _ _ hk1
  obtain ⟨k2', hk2', -⟩ := hal.2.2 _ _ hk2
  have hno' : (s.vm.noted f.method.cls x.catchType (.cls c)).assignable cell.cls c = false := by rw [hal.assignable]; exact hno
  simp [findHandler.go, hx, h0, ha, ht, hcell, hobj, hk1', hk2', hno', VmOp.dirties, VmOp.acts]
theorem xcaught {tb : Tables} {e : Env} {s target : State} {g : JFrame} {c : Code} {below : List Frame} {a : Addr} (h : At s g.method c below) {pc : Nat} {vm' : Vm}
    (hfind : xFT e ((s.setTop g).pushFrame (.throwing a)) g a (.found pc) vm') (hrest : Steps tb e below ((s.setVm vm').setTop { g with pc := pc, stack := [.ref a] }) target) :
    Steps tb e below ((s.setTop g).pushFrame (.throwing a)) target := by
  have hstep : ∀ r, (stepThrowing e ((s.setTop g).pushFrame (.throwing a)) a (.java g :: r)).Is ((((s.setTop g).pushFrame (.throwing a)).setVm vm').setFrames (.java { g with pc := pc, stack := [.ref a] } :: r)) [] := by
    intro r
    simp only [stepThrowing, searchFrame, vmDo]
    generalize hr : Sem.go _ e false [] _ = res
    obtain ⟨as, rfl, ha⟩ := Sem.eq_ok_of hr (a := Handler.found pc) (s' := ((s.setTop g).pushFrame (.throwing a)).setVm vm') (acts' := []) (by simp [hfind _ _ _ _])
    exact ⟨rfl, ha⟩
  have hsf : ∀ (u : State) (F G : List Frame), ((u.setFrames F).setVm vm').setFrames G = (u.setVm vm').setFrames G := by
    intro u F G
    have h1 : (u.setFrames F).setVm vm' = (u.setVm vm').setFrames F := rfl
    rw [h1, State.setFrames_setFrames]
  obtain ⟨hgo, hw⟩ := h.throwing a
  refine Steps.head hgo hw ?_
  rw [stepThread_throwing (frames_entered h.top _), (hstep _).1]
  obtain ⟨g₀, hg⟩ := Option.isSome_iff_exists.mp h.top
  obtain ⟨r, hr⟩ := State.topJava?_eq_some.mp hg
  have hr' : (s.setVm vm').frames = .java g₀ :: r := hr
  rw [State.setTop_of_frames _ hr'] at hrest
  rw [hr, List.tail_cons, State.pushFrame, hsf, State.setTop_of_frames _ hr, hsf]
  exact hrest
