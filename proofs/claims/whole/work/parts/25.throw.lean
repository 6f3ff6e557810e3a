/-! What the throwing of an exception asks of the tables and of Throwable's two statics (XK), how it is carried, and the two methods that throw. -/
def nIAE : String := "java/lang/IllegalArgumentException"
def nISE : String := "java/lang/IllegalStateException"
def nUp : List String := ["java/lang/RuntimeException", "java/lang/Exception"]
/-- the two statics of Throwable that the start alone speaks of -/
def xS1 : Cond := .isRef (.static "java/lang/Throwable" "UNASSIGNED_STACK" "[Ljava/lang/StackTraceElement;")
def xS2 : Cond := .isRef (.static "java/lang/Throwable" "SUPPRESSED_SENTINEL" "Ljava/util/List;")
def xL1 : Cond := .laysStatic "java/lang/Throwable" "UNASSIGNED_STACK" "[Ljava/lang/StackTraceElement;"
def xL2 : Cond := .laysStatic "java/lang/Throwable" "SUPPRESSED_SENTINEL" "Ljava/util/List;"
def xI : Cond := .initialized "java/lang/Throwable"
def xT1 : String := "out of bounds, or there is no such thing"
def xT2 : String := "there is no room for one more"
def xl : List Cond := Bundle.ownAtoms R_CY 187 nIAE nUp ++ Bundle.ownAtoms R_CY 194 nISE nUp ++ [.castable nIAE nIAE, .castable nISE nISE, .initialized nIAE, .initialized nISE]
set_option maxRecDepth 100000 in
theorem xA_1 : xl.all (fun a => decide (a ∈ xS1 :: xS2 :: lw_tbl)) = true := by decide +kernel
set_option maxRecDepth 100000 in
theorem xA_2 : xl.all (fun a => decide (a ∈ [xS1, xS2, xL1, xL2]) || (a.onTables && a.keepsFace)) = true := by decide +kernel
set_option maxRecDepth 100000 in
theorem xA_3 : decide (xL1 ∈ xl) && decide (xL2 ∈ xl) && decide (xS1 ∈ xl) && decide (xS2 ∈ xl) = true := by decide +kernel
set_option maxRecDepth 100000 in
theorem xA_4 : decide (Cond.stringRef R_CY 185 xT1 ∈ lw_tbl) && decide (Cond.stringRef R_CY 192 xT2 ∈ lw_tbl) = true := by decide +kernel
theorem xmT {a : Cond} (h1 : a.onTables = true) (h2 : a.keepsFace = true) {A A' : Array Value} {s U : State} (hW : s.WarmedH U.vm) (h : a.before A s = true) : a.before A' U = true := by
  have q := Cond.before_shiftedFace (args := A) (State.Shifted.of_warmed hW) a h2 h
  rw [Cond.onTables_vm (A' := A') (U' := U) U.vm a h1] at q
  exact q
theorem xmL {o n d : String} {A A' : Array Value} {s U : State} (hW : s.WarmedH U.vm) (hh : ∀ q : Nat, q < s.heap.size → U.heap[q]? = s.heap[q]?) (h : (Cond.laysStatic o n d).before A s = true) : (Cond.laysStatic o n d).before A' U = true := by
  obtain ⟨c, k, i, f, a, cell, h1, h2, h3, h4, h5, h6, h7, h8, h9⟩ := Cond.laysStatic_spec h
  obtain ⟨k', h2', he⟩ := State.fieldFound?_setVm hW.alike h2
  have h2'' : U.fieldFound? o n d = some (c, k', i, f) := by simpa only [State.fieldFound?, State.vm_setVm] using h2'
  have e1 : k'.statics = some a := by rw [he]; exact h4
  have e2 : k'.staticTypes[f.slot]? = some f.type := by rw [he]; exact h9
  have e3 : U.heap[a]? = some cell := by rw [hh a (Array.getElem?_eq_some_iff.mp h5).1]; exact h5
  have e4 : U.vm.findClass o = some c := by rw [hW.alike.findClass]; exact h1
  simp [Cond.before, Cond.holds, Cond.value, e4, h2'', e1, e3, h3, h6, h7, h8, e2]
theorem xmR {o n d : String} {A A' : Array Value} {s U : State} (hW : s.WarmedH U.vm) (hh : ∀ q : Nat, q < s.heap.size → U.heap[q]? = s.heap[q]?) (hl : (Cond.laysStatic o n d).before A s = true) (h : (Cond.isRef (.static o n d)).before A s = true) : (Cond.isRef (.static o n d)).before A' U = true := by
  obtain ⟨c, k, i, f, a, cell, h1, h2, h3, h4, h5, h6, h7, h8, h9⟩ := Cond.laysStatic_spec hl
  obtain ⟨k', h2', he⟩ := State.fieldFound?_setVm hW.alike h2
  have h2'' : U.fieldFound? o n d = some (c, k', i, f) := by simpa only [State.fieldFound?, State.vm_setVm] using h2'
  have e1 : k'.statics = some a := by rw [he]; exact h4
  have e3 : U.heap[a]? = some cell := by rw [hh a (Array.getElem?_eq_some_iff.mp h5).1]; exact h5
  have v1 : (Term.static o n d).eval A s none [] s = cell.slots[f.slot]? := by simp [Term.eval, State.fieldNamed?, h2, h3, h4, h5, h6]
  have v2 : (Term.static o n d).eval A' U none [] U = cell.slots[f.slot]? := by simp [Term.eval, State.fieldNamed?, h2'', h3, e1, e3, h6]
  simp only [Cond.before, Cond.holds, Cond.value, v1, v2] at h ⊢
  exact h
/-- what a throw asks for, of any state on the way -/
def XK (U : State) : Prop := (∀ a ∈ xl, a.before #[] U = true) ∧ (∃ q, vk_R R_CY 185 xT1 q U) ∧ (∃ q, vk_R R_CY 192 xT2 q U)
theorem XK.move {s U : State} (hW : s.WarmedH U.vm) (hh : ∀ q : Nat, q < s.heap.size → U.heap[q]? = s.heap[q]?) (h : XK s) : XK U := by
  refine ⟨fun a ha => ?_, ?_, ?_⟩
  · have h3 := xA_3
    simp only [Bool.and_eq_true, decide_eq_true_eq] at h3
    have h1 := List.all_eq_true.mp xA_2 a ha
    rw [Bool.or_eq_true, Bool.and_eq_true, decide_eq_true_eq] at h1
    rcases h1 with h1 | h1
    · simp only [List.mem_cons, List.not_mem_nil, or_false] at h1
      rcases h1 with e | e | e | e
      · subst e; exact xmR hW hh (h.1 xL1 h3.1.1.1) (h.1 _ ha)
      · subst e; exact xmR hW hh (h.1 xL2 h3.1.1.2) (h.1 _ ha)
      · subst e; exact xmL hW hh (h.1 _ ha)
      · subst e; exact xmL hW hh (h.1 _ ha)
    · exact xmT h1.1 h1.2 hW (h.1 a ha)
  · obtain ⟨q, hq⟩ := h.2.1
    exact ⟨q, vk_R.warm hW hq⟩
  · obtain ⟨q, hq⟩ := h.2.2
    exact ⟨q, vk_R.warm hW hq⟩
/-- a throwing method's pre: the world, the tables, the throw's own -/
def cX (V : gV) (w : va_W) (As : List Value) : Array Value → State → Prop := va_Pc As (fun U => va_P V.1 clz w U.heap ∧ gK V U ∧ XK U)
theorem cX.blind {V : gV} {w : va_W} {As : List Value} : FrameBlind (cX V w As) := fun _ U g mk q => ⟨q.1, q.2.1, gK.vm (s := U) rfl q.2.2.1, XK.move (s := U) (State.WarmedH.refl U) (fun _ _ => rfl) q.2.2.2⟩
abbrev mX (l : Launch) (y : MethodName) (ws : List Cond) (rm : Room) (V : gV) (w : va_W) (As : List Value) (cls : String) : Prop := MetX l y ws rm (cX V w As) cls 1 6
section GX2
variable {p : Program} {l : Launch} {e : Env} {R : Room} {s : State} {m : MethodId} {args : Array Value} {below : List Frame} {meth : Method} {c : Code} {V : gV} {nL : Nat} {lv : List (Nat × Value)} {pc : Nat} {cc : ByteArray}
/-- new, dup, ldc, <init>, athrow -/
theorem g_raise (E : gE p s m args c cc nL R_CY V) (htr : e.platform.stackTraces = false) (hne : c.exceptionTable.isEmpty = true) (hlk : meth.locks = false) (hx : XK s) {cls : String} {tx : String} {i1 i2 i3 q : Nat} (hcls : Bundle.fit cls = true) (hlink : Cond.classLink R_CY i1 cls ∈ gt) (hini : (Cond.initialized cls) ∈ xl) (hat : ∀ a ∈ Bundle.ownAtoms R_CY i3 cls nUp, a ∈ xl) (hs : vk_R R_CY i2 tx q s)
    (h0 : decode cc pc = .ok (.new i1, 3)) (h1 : decode cc (pc + 3) = .ok (.dup, 1)) (h2 : decode cc (pc + 4) = .ok (.ldc i2, 2)) (h3 : decode cc (pc + 6) = .ok (.invokespecial i3, 3)) (h4 : decode cc (pc + 9) = .ok (.athrow, 1)) (hR : 5 < R.frames ∧ 82 ≤ R.locals ∧ 1 ≤ R.cells ∧ 6 ≤ R.slots) :
    gg p l e R s m args below meth c nL (MQX below cls s 1 6) 0 0 (gR s.heap []) lv pc [] := by
  have hX : ∀ a ∈ xl, ∀ A : Array Value, a.before A s = true := by
    intro a ha A
    have h3 := xA_3
    simp only [Bool.and_eq_true, decide_eq_true_eq] at h3
    have h1 := List.all_eq_true.mp xA_2 a ha
    rw [Bool.or_eq_true, Bool.and_eq_true, decide_eq_true_eq] at h1
    rcases h1 with h1 | h1
    · simp only [List.mem_cons, List.not_mem_nil, or_false] at h1
      rcases h1 with e | e | e | e
      · subst e; exact xmR (State.WarmedH.refl s) (fun _ _ => rfl) (hx.1 xL1 h3.1.1.1) (hx.1 _ ha)
      · subst e; exact xmR (State.WarmedH.refl s) (fun _ _ => rfl) (hx.1 xL2 h3.1.1.2) (hx.1 _ ha)
      · subst e; exact xmL (State.WarmedH.refl s) (fun _ _ => rfl) (hx.1 _ ha)
      · subst e; exact xmL (State.WarmedH.refl s) (fun _ _ => rfl) (hx.1 _ ha)
    · exact xmT h1.1 h1.2 (State.WarmedH.refl s) (hx.1 a ha)
  intro H locs ls ho hl T hT X
  obtain ⟨e1, e2⟩ := ho
  subst e1; subst e2
  obtain ⟨vm₁, cX, kX, hfX, hkX, -, -, X₁, st1⟩ := X.newCold E.1 (own := R_CY) (C := cls) (index := i1) (n := 6) E.2.2.2.1 (E.2.2.2.2.1 _ hlink) (hX _ (hat (.instantiable cls 6) (by simp [Bundle.ownAtoms])) _) (hX _ hini _) (g := F0 m pc ls []) rfl (by rw [E.2.1]; exact h0) (by omega) (by omega)
  generalize hT1 : (T.setVm vm₁).pushCell { cls := cX, slots := kX.instanceTypes.map defaultValue, vm := .none } = T1 at X₁ st1
  have hcellA : T1.heap[T.heap.size]? = some (freshCell cX kX) := by rw [← hT1]; exact State.heap_pushCell_size _ _
  have K : W p l e R s m args below meth c T1.heap [] (0 + 1) (0 + 6) (MQX below cls s 1 6) (F0 m (pc + 3) ls [.ref T.heap.size]) := by
    refine lv_dup E.1 E.2.1 h1 rfl (va_ldcS E.1 E.2.1 E.2.2.2.1 hs h2 ?_)
    intro T2 hT2 X2
    obtain ⟨U, hsteps, hrun, hend, hW, hsame, ce, hce, KK⟩ := X2.ctorThrowS E.1 htr (own := R_CY) (cls := cls) (names := nUp) (ic := i3) E.2.2.2.1 hcls (by decide +kernel)
      (fun y hy => hX y (hat y hy) _) (fun y hy => by cases hy) hfX hkX (a := T.heap.size) (by rw [hT2]; exact hcellA) (by rw [hT]; exact Nat.le_refl _) (msg := .ref q) rfl
      (g := F0 m (pc + 4 + 2) ls [.ref q, .ref T.heap.size, .ref T.heap.size]) rfl (by rw [E.2.2.1]; exact hl.1) rfl rfl (rest := []) rfl
      (by rw [E.2.1]; exact h3) (by rw [E.2.1]; exact h4) (covers_of_empty hne _) (by simp [nUp]; omega) (by simp [nUp, Value.category, F0, JFrame.monitorRoom]; omega) hlk
    exact ⟨U, hsteps, T.heap.size, hrun, hend, hW, by simpa using hsame, by rw [hT]; exact Nat.le_refl _, ce, hce, KK.vm, KK.cls⟩
  obtain ⟨t, a1, b1⟩ := K T1 rfl X₁
  exact ⟨t, st1 t a1, b1⟩
end GX2
