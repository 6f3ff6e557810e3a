/-! Contracts in two shapes: a method that only reads (cP, its answer vp_Si, vp_Sl, va_Sv), a method that writes its world (cW, va_Qi ..); how a walk gives a contract, how a call uses one. -/
def cP (V : gV) (w : va_W) (As : List Value) : Array Value → State → Prop := va_Pc As (fun U => va_P V.1 clz w U.heap ∧ gK V U)
theorem cP.blind {V : gV} {w : va_W} {As : List Value} : FrameBlind (cP V w As) := fun _ U g mk q => ⟨q.1, q.2.1, gK.vm (s := U) rfl q.2.2⟩
def cW (V : gV) (w : va_W) (sz : Nat) (As : List Value) : Array Value → State → Prop := va_Pc As (fun U => U.heap.size = sz ∧ va_P V.1 clz w U.heap ∧ gK V U ∧ va_D (fun _ => True) w)
theorem cW.blind {V : gV} {w : va_W} {sz : Nat} {As : List Value} : FrameBlind (cW V w sz As) := fun _ U g mk q => ⟨q.1, q.2.1, q.2.2.1, gK.vm (s := U) rfl q.2.2.2.1, q.2.2.2.2⟩
/-- the world behind a method that had w -/
def cB (V : gV) (w : va_W) (sz : Nat) {S : Type} (w1 : S → va_W) (u : S) (t : State) : Prop := va_P V.1 clz (w1 u) t.heap ∧ va_D (va_A w sz) (w1 u)
section GM
variable {l : Launch} {y : MethodName} {ws : List Cond} {rm : Room} {V : gV} {w : va_W} {As : List Value} {Qc : Array Value → State → Outcome → State → Prop} {mc ms : Nat} {free : Addr → Prop} {cc : ByteArray} {maxL : Nat} {ret : Option FieldType} {sz : Nat}
theorem gMet (hy : plainName y.cls = true) (hw : ws = Cond.code y cc maxL ret :: gt) (hA : (lg_sl As).length ≤ maxL) {Pc : Array Value → State → Prop} (hPc : ∀ a U, Pc a U → a = As.toArray ∧ gK V U)
    (body : ∀ (p : Program) (e : Env) (s : State) (m : MethodId) (below : List Frame) (meth : Method) (c : Code), gE p s m As.toArray c cc maxL y.cls V → meth.sig.returnType = ret → meth.locks = false → meth.name = y.name → Pc As.toArray s →
      gg p l e rm s m As.toArray below meth c maxL (MQ below Qc As.toArray s mc ms free) 0 0 (gR s.heap []) (lv_args 0 As) 0 []) : Met l y ws rm Pc Qc mc ms free := by
  refine Met.ofW (cc := cc) (maxL := maxL) (ret := ret) hy hw ?_
  intro p e s m args below meth c s₁ B hml hv
  obtain ⟨rfl, hK⟩ := hPc _ _ hv
  have hts := atoms_spec (ws := ws) B.pre
  have E : gE p s m As.toArray c cc maxL y.cls V := ⟨B.exec, B.bytes, hml, findClass_of_methodNamed B.named, fun w h => hts w (by rw [hw]; exact List.mem_cons_of_mem _ h), hK⟩
  rw [lg_entry_eq]
  exact body p e s m below meth c E B.returns B.notSynchronized (name_of_methodNamed B.named B.method).1 hv s.heap [] _ ⟨rfl, rfl⟩ (lv_entry As hA)
end GM
section GC
variable {p : Program} {l : Launch} {e : Env} {R : Room} {s : State} {m : MethodId} {args : Array Value} {below : List Frame} {meth : Method} {c : Code} {V : gV} {A : Nat → Prop} {H0 : Heap} {nL : Nat} {Q : State → Prop} {cells slots : Nat} {om : Heap → List Loc → Prop} {lv : List (Nat × Value)} {pc : Nat} {rest : List Value} {cc : ByteArray} {own : String}
/-- the answers -/
theorem g_iret {Qc : Array Value → State → Outcome → State → Prop} {free : Addr → Prop} {v : Int32} (E : gE p s m args c cc nL own V) (hr : meth.sig.returnType = some .int) (hlk : meth.locks = false) (hd : decode cc pc = .ok (.ireturn, 1)) (hq : ∀ H locs, om H locs → (∀ t : State, t.heap = H → s.WarmedH t.vm → Qc args s (.returned (some (.int v))) t) ∧ ∀ q ∈ locs, free q.base) : gg p l e R s m args below meth c nL (MQ below Qc args s cells slots free) cells slots om lv pc [.int v] := fun H locs _ ho _ => W.iret E.1 E.2.1 hr (hq H locs ho).1 (hq H locs ho).2 hd hlk
theorem g_zret {Qc : Array Value → State → Outcome → State → Prop} {free : Addr → Prop} {v : Int32} (E : gE p s m args c cc nL own V) (hr : meth.sig.returnType = some .boolean) (hlk : meth.locks = false) (hd : decode cc pc = .ok (.ireturn, 1)) (hv : v = 0 ∨ v = 1) (hq : ∀ H locs, om H locs → (∀ t : State, t.heap = H → s.WarmedH t.vm → Qc args s (.returned (some (.int v))) t) ∧ ∀ q ∈ locs, free q.base) : gg p l e R s m args below meth c nL (MQ below Qc args s cells slots free) cells slots om lv pc [.int v] := fun H locs _ ho _ => W.zret E.1 E.2.1 hr (by rcases hv with rfl | rfl <;> rfl) (hq H locs ho).1 (hq H locs ho).2 hd hlk
theorem g_lret {Qc : Array Value → State → Outcome → State → Prop} {free : Addr → Prop} {v : Int64} (E : gE p s m args c cc nL own V) (hr : meth.sig.returnType = some .long) (hlk : meth.locks = false) (hd : decode cc pc = .ok (.lreturn, 1)) (hq : ∀ H locs, om H locs → (∀ t : State, t.heap = H → s.WarmedH t.vm → Qc args s (.returned (some (.long v))) t) ∧ ∀ q ∈ locs, free q.base) : gg p l e R s m args below meth c nL (MQ below Qc args s cells slots free) cells slots om lv pc [.long v] := fun H locs _ ho _ => W.lret E.1 E.2.1 hr (hq H locs ho).1 (hq H locs ho).2 hd hlk
theorem g_vret {Qc : Array Value → State → Outcome → State → Prop} {free : Addr → Prop} (E : gE p s m args c cc nL own V) (hr : meth.sig.returnType = none) (hlk : meth.locks = false) (hd : decode cc pc = .ok (.return_, 1)) (hq : ∀ H locs, om H locs → (∀ t : State, t.heap = H → s.WarmedH t.vm → Qc args s (.returned none) t) ∧ ∀ q ∈ locs, free q.base) : gg p l e R s m args below meth c nL (MQ below Qc args s cells slots free) cells slots om lv pc [] := fun H locs _ ho _ => W.vret E.1 E.2.1 hr (hq H locs ho).1 (hq H locs ho).2 hd hlk
/-- what a reading method's end asks -/
theorem gq_i {post : Int32 → Prop} {v : Int32} (h : post v) : ∀ H locs, gR s.heap [] H locs → (∀ t : State, t.heap = H → s.WarmedH t.vm → vp_Si post args s (.returned (some (.int v))) t) ∧ ∀ q ∈ locs, (fun _ : Addr => False) q.base := fun _ _ ho => ⟨fun _ ht _ => ⟨v, rfl, h, ht.trans ho.1⟩, fun q hq => by rw [ho.2] at hq; cases hq⟩
theorem gq_l {post : Int64 → Prop} {v : Int64} (h : post v) : ∀ H locs, gR s.heap [] H locs → (∀ t : State, t.heap = H → s.WarmedH t.vm → vp_Sl post args s (.returned (some (.long v))) t) ∧ ∀ q ∈ locs, (fun _ : Addr => False) q.base := fun _ _ ho => ⟨fun _ ht _ => ⟨v, rfl, h, ht.trans ho.1⟩, fun q hq => by rw [ho.2] at hq; cases hq⟩
theorem gq_v {post : Unit → Prop} (h : post ()) : ∀ H locs, gR s.heap [] H locs → (∀ t : State, t.heap = H → s.WarmedH t.vm → va_Sv post args s (.returned none) t) ∧ ∀ q ∈ locs, (fun _ : Addr => False) q.base := fun _ _ ho => ⟨fun _ ht _ => ⟨rfl, h, ht.trans ho.1⟩, fun q hq => by rw [ho.2] at hq; cases hq⟩
/-- what a writing method's end asks -/
theorem gq_wi {S : Type} {post : Int32 → S → Prop} {w : va_W} {sz : Nat} {w1 : S → va_W} {v : Int32} (u : S) (h : post v u) : ∀ H locs, gW V (va_A w sz) s.heap (w1 u) H locs → (∀ t : State, t.heap = H → s.WarmedH t.vm → va_Qi post (cB V w sz w1) (va_A w sz) args s (.returned (some (.int v))) t) ∧ ∀ q ∈ locs, va_A w sz q.base := fun _ _ ho => ⟨fun _ ht _ => ⟨⟨v, u, rfl, h, ht ▸ ho.1, ho.2.1⟩, ho.2.2.F ht⟩, ho.2.2.2.2⟩
theorem gq_wl {S : Type} {post : Int64 → S → Prop} {w : va_W} {sz : Nat} {w1 : S → va_W} {v : Int64} (u : S) (h : post v u) : ∀ H locs, gW V (va_A w sz) s.heap (w1 u) H locs → (∀ t : State, t.heap = H → s.WarmedH t.vm → va_Ql post (cB V w sz w1) (va_A w sz) args s (.returned (some (.long v))) t) ∧ ∀ q ∈ locs, va_A w sz q.base := fun _ _ ho => ⟨fun _ ht _ => ⟨⟨v, u, rfl, h, ht ▸ ho.1, ho.2.1⟩, ho.2.2.F ht⟩, ho.2.2.2.2⟩
theorem gq_wv {S : Type} {post : S → Prop} {w : va_W} {sz : Nat} {w1 : S → va_W} (u : S) (h : post u) : ∀ H locs, gW V (va_A w sz) s.heap (w1 u) H locs → (∀ t : State, t.heap = H → s.WarmedH t.vm → va_Qv post (cB V w sz w1) (va_A w sz) args s (.returned none) t) ∧ ∀ q ∈ locs, va_A w sz q.base := fun _ _ ho => ⟨fun _ ht _ => ⟨⟨u, rfl, h, ht ▸ ho.1, ho.2.1⟩, ho.2.2.F ht⟩, ho.2.2.2.2⟩
/-- a reading walk becomes a writing one -/
theorem g_toW {w : va_W} {sz : Nat} (hP : va_P V.1 clz w s.heap) (hD : va_D (fun _ => True) w) (k : gg p l e R s m args below meth c nL Q cells slots (gW V (va_A w sz) s.heap w) lv pc rest) : gg p l e R s m args below meth c nL Q cells slots (gR s.heap []) lv pc rest := fun H locs ls ho hl => k H locs ls ⟨ho.1 ▸ hP, hD.self, by rw [ho.1, ho.2]; exact va_S.rf⟩ hl
/-- a call that only reads: the heap stays -/
theorem gr_i {post : Int32 → Prop} {a : Array Value} {st0 : List Value} (hr : ∀ (H : Heap) (locs : List Loc) (ls : Array Slot), om H locs → lv_has ls nL lv → va_Run p l e R s m args below meth c H locs cells slots 0 0 (F0 m pc ls st0) rest (vp_Si post a) (fun _ => False)) (k : ∀ r : Int32, post r → gg p l e R s m args below meth c nL Q cells slots om lv (pc + 3) (.int r :: rest)) : gg p l e R s m args below meth c nL Q cells slots om lv pc st0 := by
  intro H locs ls ho hl T hT X
  obtain ⟨v, st₀, t, T', L, h0, X', hL, e1, e2, ⟨r, hv, hp, hh⟩, st⟩ := hr H locs ls ho hl T hT X
  cases hv
  have hL0 : L = [] := by
    cases L with
    | nil => rfl
    | cons q L => exact absurd (hL q List.mem_cons_self) (fun h => h)
  subst hL0
  rw [List.append_nil] at X'
  obtain ⟨t2, a1, b1⟩ := k r hp H locs ls ho hl T' (by rw [e1, hh, h0]) X'
  exact ⟨t2, st t2 a1, b1⟩
theorem gr_l {post : Int64 → Prop} {a : Array Value} {st0 : List Value} (hr : ∀ (H : Heap) (locs : List Loc) (ls : Array Slot), om H locs → lv_has ls nL lv → va_Run p l e R s m args below meth c H locs cells slots 0 0 (F0 m pc ls st0) rest (vp_Sl post a) (fun _ => False)) (k : ∀ r : Int64, post r → gg p l e R s m args below meth c nL Q cells slots om lv (pc + 3) (.long r :: rest)) : gg p l e R s m args below meth c nL Q cells slots om lv pc st0 := by
  intro H locs ls ho hl T hT X
  obtain ⟨v, st₀, t, T', L, h0, X', hL, e1, e2, ⟨r, hv, hp, hh⟩, st⟩ := hr H locs ls ho hl T hT X
  cases hv
  have hL0 : L = [] := by
    cases L with
    | nil => rfl
    | cons q L => exact absurd (hL q List.mem_cons_self) (fun h => h)
  subst hL0
  rw [List.append_nil] at X'
  obtain ⟨t2, a1, b1⟩ := k r hp H locs ls ho hl T' (by rw [e1, hh, h0]) X'
  exact ⟨t2, st t2 a1, b1⟩
theorem gr_v {post : Unit → Prop} {a : Array Value} {st0 : List Value} (hr : ∀ (H : Heap) (locs : List Loc) (ls : Array Slot), om H locs → lv_has ls nL lv → va_Run p l e R s m args below meth c H locs cells slots 0 0 (F0 m pc ls st0) rest (va_Sv post a) (fun _ => False)) (k : post () → gg p l e R s m args below meth c nL Q cells slots om lv (pc + 3) rest) : gg p l e R s m args below meth c nL Q cells slots om lv pc st0 := by
  intro H locs ls ho hl T hT X
  obtain ⟨v, st₀, t, T', L, h0, X', hL, e1, e2, ⟨hv, hp, hh⟩, st⟩ := hr H locs ls ho hl T hT X
  cases hv
  have hL0 : L = [] := by
    cases L with
    | nil => rfl
    | cons q L => exact absurd (hL q List.mem_cons_self) (fun h => h)
  subst hL0
  rw [List.append_nil] at X'
  obtain ⟨t2, a1, b1⟩ := k hp H locs ls ho hl T' (by rw [e1, hh, h0]) X'
  exact ⟨t2, st t2 a1, b1⟩
/-- what is free for a callee that has the whole world is free for the caller -/
theorem gfree {w : va_W} {H : Heap} {locs : List Loc} (hA0 : ∀ q : Nat, H0.size ≤ q → A q) (ho : gW V A H0 w H locs) : ∀ q, va_A w H.size q → A q := by
  intro q h
  rcases h with ⟨k, e0, hk⟩ | h
  · exact ho.2.1.2 k _ hk
  · exact hA0 q (Nat.le_trans ho.2.2.1 h)
/-- a call that has the whole world and writes it -/
theorem gw_i {S : Type} {post : Int32 → S → Prop} {w : va_W} {w1 : S → va_W} {mc ms : Nat} {a : Array Value} {st0 : List Value} (hA0 : ∀ q : Nat, H0.size ≤ q → A q) (hr : ∀ (H : Heap) (locs : List Loc) (ls : Array Slot), gW V A H0 w H locs → lv_has ls nL lv → va_Run p l e R s m args below meth c H locs cells slots mc ms (F0 m pc ls st0) rest (va_Qi post (cB V w H.size w1) (va_A w H.size) a) (va_A w H.size)) (k : ∀ (r : Int32) (u : S), post r u → gg p l e R s m args below meth c nL Q (cells + mc) (slots + ms) (gW V A H0 (w1 u)) lv (pc + 3) (.int r :: rest)) : gg p l e R s m args below meth c nL Q cells slots (gW V A H0 w) lv pc st0 := by
  intro H locs ls ho hl
  have hF := gfree hA0 ho
  exact va_calli (hr H locs ls ho hl) ho.2.2 (fun q _ h => hF q h) hF (fun r u t H1 locs1 ht hvm hp hB hz hk hS => k r u hp H1 locs1 ls ⟨ht ▸ hB.1, hB.2.weaken (fun _ q _ h => hF q.1 h), hS⟩ hl)
theorem gw_l {S : Type} {post : Int64 → S → Prop} {w : va_W} {w1 : S → va_W} {mc ms : Nat} {a : Array Value} {st0 : List Value} (hA0 : ∀ q : Nat, H0.size ≤ q → A q) (hr : ∀ (H : Heap) (locs : List Loc) (ls : Array Slot), gW V A H0 w H locs → lv_has ls nL lv → va_Run p l e R s m args below meth c H locs cells slots mc ms (F0 m pc ls st0) rest (va_Ql post (cB V w H.size w1) (va_A w H.size) a) (va_A w H.size)) (k : ∀ (r : Int64) (u : S), post r u → gg p l e R s m args below meth c nL Q (cells + mc) (slots + ms) (gW V A H0 (w1 u)) lv (pc + 3) (.long r :: rest)) : gg p l e R s m args below meth c nL Q cells slots (gW V A H0 w) lv pc st0 := by
  intro H locs ls ho hl
  have hF := gfree hA0 ho
  exact va_calll (hr H locs ls ho hl) ho.2.2 (fun q _ h => hF q h) hF (fun r u t H1 locs1 ht hvm hp hB hz hk hS => k r u hp H1 locs1 ls ⟨ht ▸ hB.1, hB.2.weaken (fun _ q _ h => hF q.1 h), hS⟩ hl)
theorem gw_v {S : Type} {post : S → Prop} {w : va_W} {w1 : S → va_W} {mc ms : Nat} {a : Array Value} {st0 : List Value} (hA0 : ∀ q : Nat, H0.size ≤ q → A q) (hr : ∀ (H : Heap) (locs : List Loc) (ls : Array Slot), gW V A H0 w H locs → lv_has ls nL lv → va_Run p l e R s m args below meth c H locs cells slots mc ms (F0 m pc ls st0) rest (va_Qv post (cB V w H.size w1) (va_A w H.size) a) (va_A w H.size)) (k : ∀ (u : S), post u → gg p l e R s m args below meth c nL Q (cells + mc) (slots + ms) (gW V A H0 (w1 u)) lv (pc + 3) rest) : gg p l e R s m args below meth c nL Q cells slots (gW V A H0 w) lv pc st0 := by
  intro H locs ls ho hl
  have hF := gfree hA0 ho
  exact va_callv (hr H locs ls ho hl) ho.2.2 (fun q _ h => hF q h) hF (fun u t H1 locs1 ht hvm hp hB hz hk hS => k u hp H1 locs1 ls ⟨ht ▸ hB.1, hB.2.weaken (fun _ q _ h => hF q.1 h), hS⟩ hl)
end GC
