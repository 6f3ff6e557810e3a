/-! The law: its end, its entry (the skeleton's rows, with the flags), rows that it needs. -/
def R_law : String := "CostYearsLaw"
def lw_P (b : Addr) (xs : List Int32) (args : Array Value) (s : State) : Prop := args = #[.ref b] ∧ s.IntsAt b xs ∧ xs.length ≤ 2561 ∧ (Jvm.Cond.and given_1 narrow_1).before args s = true
def lw_Q (_ : Array Value) (s : State) (o : Outcome) (t : State) : Prop := o = .returned (some (.int 1)) ∧ Framed s o t [] 601024 7293000
def lw_Z (below : List Frame) (a : Array Value) (s : State) : State → Prop := fun t => ∃ o, t.status = .running ∧ Ended t below o ∧ lw_Q a s o t
/-- the law's own end, with 1 on the stack, nothing written that was there before, its room as the claim has it -/
theorem lw_ret {p : Program} {l : Launch} {e : Env} {s : State} {m : MethodId} {below : List Frame} {meth : Method} {c : Code} {b : Nat} (hx : p.tables.exec = Jvm.exec) (hb : c.code = code) (hr : meth.sig.returnType = ret) (hlocks : meth.locks = false) {pc : Nat} {H : Heap} {ls : Array Slot} (hdg : decode code pc = .ok (.ireturn, 1)) : W p l e room_1 s m #[Value.ref b] below meth c H [] 601024 7293000 (lw_Z below #[Value.ref b] s) (F0 m pc ls [.int 1]) := by
  intro T hT X
  obtain ⟨fs, hret, hrun, hended, hW, hframe⟩ := X.leave (v := some (.int 1)) (hlocks := hlocks) (fun h => by rw [hr] at h; cases h)
  have hmeth' : T.vm.method? m = some meth := X.method'
  refine ⟨T.setFrames fs, ?_, .returned (some (.int 1)), hrun, hended, rfl, ⟨_, rfl⟩, hW, hframe⟩
  jvm_step X.here [X.here.top, hx, hb, hdg, hmeth', hr, ret, narrow_b1]
  (try refine ⟨rfl, ?_⟩); (try refine ⟨rfl, ?_⟩)
  first | (intro acts; rw [hret _ acts rfl rfl rfl]) | rw [hret _ _ rfl rfl rfl]
  exact Steps.refl _
/-- what holds at the law's entry: the machine, the code, the tables' words (any of lw_tbl by 'hts w (by decide +kernel)'), the script of L ints xs at the cell b, what the Statement gives of the start (any of its parts by flat_of_before) -/
def lw_At (p : Program) (s : State) (m : MethodId) (meth : Method) (c : Code) (b L : Nat) (xs : Nat → Int32) : Prop :=
  p.tables.exec = Jvm.exec ∧ c.code = code ∧ meth.sig.returnType = ret ∧ c.maxLocals = 8 ∧ s.vm.findClass R_law = some m.cls ∧ (∀ w ∈ lw_tbl, w.before #[Value.ref b] s = true) ∧ va_X b L xs s s.heap ∧ b < s.heap.size ∧ meth.locks = false ∧ (Jvm.Cond.and given_1 narrow_1).before #[Value.ref b] s = true

theorem kn_Law : Cond.initialized y_La_index.cls ∈ gt := kn_La
section LAW
variable {p : Program} {l : Launch} {e : Env} {R : Room} {s : State} {m : MethodId} {args : Array Value} {below : List Frame} {meth : Method} {c : Code} {V : gV} {A : Nat → Prop} {H0 : Heap} {nL : Nat} {Q : State → Prop} {cells slots : Nat} {om : Heap → List Loc → Prop} {ws : va_W} {lv : List (Nat × Value)} {pc : Nat} {rest : List Value} {cc : ByteArray} {own : String}
theorem g_scr (E : gE p s m args c cc nL own V) {b L : Nat} {xs : Nat → Int32} (hX : va_X b L xs s s.heap) (hbl : b < s.heap.size) {i : Nat} (hi : i < L) (hL : L < 2 ^ 31) (hd : decode cc pc = .ok (.iaload, 1)) (k : gg p l e R s m args below meth c nL Q cells slots (gW V (fun q => s.heap.size ≤ q) s.heap ws) lv (pc + 1) (.int (xs i) :: rest)) : gg p l e R s m args below meth c nL Q cells slots (gW V (fun q => s.heap.size ≤ q) s.heap ws) lv pc (.int (nI i) :: .ref b :: rest) :=
  fun H locs ls ho hl => va_sld E.1 E.2.1 hX hbl (Nat.not_le.mpr hbl) ho.2.2 (vp_in_nI hi hL) hd (by rw [nI_clamp (by omega)]; exact k H locs ls ho hl)
theorem g_slen (E : gE p s m args c cc nL own V) {b L : Nat} {xs : Nat → Int32} (hX : va_X b L xs s s.heap) (hbl : b < s.heap.size) (hd : decode cc pc = .ok (.arraylength, 1)) (k : gg p l e R s m args below meth c nL Q cells slots (gW V (fun q => s.heap.size ≤ q) s.heap ws) lv (pc + 1) (.int (nI L) :: rest)) : gg p l e R s m args below meth c nL Q cells slots (gW V (fun q => s.heap.size ≤ q) s.heap ws) lv pc (.ref b :: rest) :=
  fun H locs ls ho hl => va_slen E.1 E.2.1 hX hbl (Nat.not_le.mpr hbl) ho.2.2 hd (k H locs ls ho hl)
theorem g_tabOut (E : gE p s m args c cc nL own V) {dflt lo hi : Int} {offs : Array Int} {len : Nat} {x : Int32} {tgt : Nat} (hd : decode cc pc = .ok (.tableswitch dflt lo hi offs, len)) (h : x.toInt < lo ∨ hi < x.toInt) (ht : (pc : Int) + dflt = (tgt : Int)) (k : gg p l e R s m args below meth c nL Q cells slots om lv tgt rest) : gg p l e R s m args below meth c nL Q cells slots om lv pc (.int x :: rest) :=
  fun H locs ls ho hl => lv_tableOut E.1 E.2.1 hd h ht (k H locs ls ho hl)
theorem g_tabIn (E : gE p s m args c cc nL own V) {dflt lo hi : Int} {offs : Array Int} {len : Nat} {x : Int32} {off : Int} {tgt : Nat} (hd : decode cc pc = .ok (.tableswitch dflt lo hi offs, len)) (h1 : ¬ x.toInt < lo) (h2 : ¬ hi < x.toInt) (ho : offs[(x.toInt - lo).toNat]? = some off) (ht : (pc : Int) + off = (tgt : Int)) (k : gg p l e R s m args below meth c nL Q cells slots om lv tgt rest) : gg p l e R s m args below meth c nL Q cells slots om lv pc (.int x :: rest) :=
  fun H locs ls hO hl => lv_tableIn E.1 E.2.1 hd h1 h2 ho ht (k H locs ls hO hl)
theorem g_wid {cells' slots' : Nat} (h1 : cells ≤ cells') (h2 : slots ≤ slots') (k : gg p l e R s m args below meth c nL Q cells' slots' om lv pc rest) : gg p l e R s m args below meth c nL Q cells slots om lv pc rest :=
  fun H locs ls ho hl => W.widen h1 h2 (k H locs ls ho hl)
theorem gwLi (E : gE p s m args c cc nL own V) (hA0 : ∀ q : Nat, H0.size ≤ q → A q) {index maxL n : Nat} {y : MethodName} {bytes : ByteArray} {hh : List (Nat × Nat × Nat × Nat)} {rm : Room} {w w' : va_W} {As st0 : List Value} {v : Int32} {mc ms : Nat} (hM : mWi l y (Cond.codeWith y bytes maxL (some .int) hh :: gt) rm V w As v w' mc ms) (hcode : Cond.codeWith y bytes maxL (some .int) hh ∈ gt) (hlink : Cond.methodLink own index y ∈ gt) (hst : Cond.static y ∈ gt) (hini : Cond.initialized y.cls ∈ gt) (hdd : y.cls ≠ "java/lang/invoke/MethodHandle" ∧ y.cls ≠ "java/lang/invoke/VarHandle" ∧ (parseMethodDescriptor y.desc).map (fun d => d.parameters.length) = some n) (hrc : rm.cells = mc) (hrs : rm.slots = ms) (hR : rm.frames + 1 ≤ R.frames ∧ 8 + (maxL + 11) + rm.locals ≤ R.locals)
    (hn : As.length = n) (hst0 : st0 = As.reverse ++ rest) (hW : (rest.map fun v => v.category).sum ≤ 8) (hf : cells + mc ≤ R.cells ∧ slots + ms ≤ R.slots) (hd : decode cc pc = .ok (.invokestatic index, 3)) (k : gg p l e R s m args below meth c nL Q (cells + mc) (slots + ms) (gW V A H0 w') lv (pc + 3) (.int v :: rest)) : gg p l e R s m args below meth c nL Q cells slots (gW V A H0 w) lv pc st0 :=
  gw_i (a := As.toArray) hA0 (fun H locs ls ho hl => runSW E (hM H.size) hcode hlink hst hini hdd hrc hrs hR ⟨cW.blind, fun U hU hWU => ⟨rfl, by rw [hU], by rw [hU]; exact ho.1, E.2.2.2.2.2.warm hWU, ho.2.1.weaken (fun _ _ _ _ => trivial)⟩⟩ rfl hn hl.1 hst0 (lv_room hW) hd hf) (fun r _ hr => hr ▸ k)
theorem gbLi (E : gE p s m args c cc nL own V) (hXJ : XJ s) {index maxL n : Nat} {y : MethodName} {bytes : ByteArray} {hh : List (Nat × Nat × Nat × Nat)} {rm : Room} {w : va_W} {As st0 : List Value} {v : Int32} (hM : mB l y (Cond.codeWith y bytes maxL (some .int) hh :: gt) rm V w As v) (hcode : Cond.codeWith y bytes maxL (some .int) hh ∈ gt) (hlink : Cond.methodLink own index y ∈ gt) (hst : Cond.static y ∈ gt) (hini : Cond.initialized y.cls ∈ gt) (hdd : y.cls ≠ "java/lang/invoke/MethodHandle" ∧ y.cls ≠ "java/lang/invoke/VarHandle" ∧ (parseMethodDescriptor y.desc).map (fun d => d.parameters.length) = some n) (hrc : rm.cells = 1) (hrs : rm.slots = 6) (hR : rm.frames + 1 ≤ R.frames ∧ 8 + (maxL + 11) + rm.locals ≤ R.locals)
    (hn : As.length = n) (hst0 : st0 = As.reverse ++ rest) (hW : (rest.map fun v => v.category).sum ≤ 8) (hf : cells + 1 ≤ R.cells ∧ slots + 6 ≤ R.slots) (hd : decode cc pc = .ok (.invokestatic index, 3)) (k : gg p l e R s m args below meth c nL Q (cells + 1) (slots + 6) (gW V (fun q => s.heap.size ≤ q) s.heap w) lv (pc + 3) (.int v :: rest)) : gg p l e R s m args below meth c nL Q cells slots (gW V (fun q => s.heap.size ≤ q) s.heap w) lv pc st0 :=
  gw_i (a := As.toArray) (fun _ h => h) (fun H locs ls ho hl => runSW E (hM H.size) hcode hlink hst hini hdd hrc hrs hR ⟨cWX.blind, fun U hU hWU => ⟨rfl, by rw [hU], by rw [hU]; exact ho.1, E.2.2.2.2.2.warm hWU, ho.2.1.weaken (fun _ _ _ _ => trivial), XJ.move hWU (fun q hq => by rw [hU]; exact ho.2.2.2.1 q hq (Nat.not_le.mpr hq)) hXJ⟩⟩ rfl hn hl.1 hst0 (lv_room hW) hd hf) (fun r _ hr => hr ▸ k)
/-- the law's end -/
theorem g_true {b : Nat} (E : gE p s m #[Value.ref b] c code nL own V) (hr : meth.sig.returnType = ret) (hlk : meth.locks = false) (h1 : cells ≤ 601024) (h2 : slots ≤ 7293000) (hd : decode code pc = .ok (.ireturn, 1)) : gg p l e room_1 s m #[Value.ref b] below meth c nL (lw_Z below #[Value.ref b] s) cells slots (gW V (fun q => s.heap.size ≤ q) s.heap ws) lv pc [.int (nI 1)] :=
  fun H locs ls ho hl => W.widen h1 h2 (va_forget ho.2.2.2.2 (lw_ret E.1 E.2.1 hr hlk hd))
end LAW
theorem gloopC {p : Program} {l : Launch} {e : Env} {R : Room} {s : State} {m : MethodId} {args : Array Value} {below : List Frame} {meth : Method} {c : Code} {nL : Nat} {Q : State → Prop} {pc : Nat} {st : List Value} {α : Type} (cells slots : α → Nat) (om : α → Heap → List Loc → Prop) (lv : α → List (Nat × Value)) (I : α → Prop) (μ : α → Nat) (a0 : α) (h0 : I a0)
    (step : ∀ a, I a → (∀ b, I b → μ b < μ a → gg p l e R s m args below meth c nL Q (cells b) (slots b) (om b) (lv b) pc st) → gg p l e R s m args below meth c nL Q (cells a) (slots a) (om a) (lv a) pc st) : gg p l e R s m args below meth c nL Q (cells a0) (slots a0) (om a0) (lv a0) pc st := by
  have key : ∀ (n : Nat) (a : α), I a → μ a < n → gg p l e R s m args below meth c nL Q (cells a) (slots a) (om a) (lv a) pc st := by
    intro n
    induction n with
    | zero => intro a _ h; exact absurd h (Nat.not_lt_zero _)
    | succ n ih => intro a ha h; exact step a ha (fun b hb hlt => ih b hb (by omega))
  exact key (μ a0 + 1) a0 h0 (Nat.lt_succ_self _)
theorem fbi {l : Launch} {y : MethodName} {wy : List Cond} {rm : Room} {V : gV} {w post : va_W} {As : List Value} {v : Int32} (h : mB l y wy rm V w As v) : mB l y wy rm V (w ++ post) As v := by
  intro sz p e ha hc hk s m args below hf happ hP hK
  have hP' := fPs hP.2.2.1
  have hD' := fDs hP.2.2.2.2.1
  obtain ⟨n, o, h1, h2, h3, ⟨⟨r, u, hr, hp, hB⟩, hF⟩, L, hL, hfr⟩ := h sz p e ha hc hk s m args below hf happ ⟨hP.1, hP.2.1, (fP hP').1, hP.2.2.2.1, (fD hD').1, hP.2.2.2.2.2⟩ trivial
  have q := fB (w' := w) hP.2.1 hP' hD' hB hF
  have q2 := fBs q.1 q.2
  exact ⟨n, o, h1, h2, h3, ⟨⟨r, u, hr, hp, q2.1⟩, q2.2⟩, L, hL, fun z hz => fAs (fA (hfr z hz))⟩
/-- the tables of the run -/
theorem exV {s : State} {args : Array Value} (hts : ∀ w ∈ lw_tbl, w.before args s = true) : ∃ V : gV, gK V s := by
  have hg : ∀ w ∈ gt, w.before args s = true := fun w h => hts w (gt_in w h)
  obtain ⟨c0, i0, k0⟩ := u_known hg in_CY (hg _ kb_CY)
  obtain ⟨c1, i1, k1⟩ := u_known hg in_Ye (hg _ kb_Ye)
  obtain ⟨c2, i2, k2⟩ := u_known hg in_Pa (hg _ kb_Pa)
  obtain ⟨c3, i3, k3⟩ := u_known hg in_Wo (hg _ kb_Wo)
  obtain ⟨c4, i4, k4⟩ := u_known hg in_Mo (hg _ kb_Mo)
  obtain ⟨a0, ka0, p0, a1, a2, a3⟩ := Cond.arrayClass_spec (hg _ ka_int)
  obtain ⟨b0, kb0, q0, b1, b2, b3⟩ := Cond.arrayClass_spec (hg _ ka_long)
  obtain ⟨z0, kz0, r0, z1, z2, z3⟩ := Cond.arrayClass_spec (hg _ ka_boolean)
  obtain ⟨o0, o1, ko, o2, o3, o4, o5⟩ := Cond.arrayOver_specA (hts (Cond.arrayOver (.array .int)) (List.mem_of_getElem? (i := 84) (by decide +kernel)))
  refine ⟨((fun c => [c0, c1, c2, c3, c4].getD c 0, fun c => [i0, i1, i2, i3, i4].getD c (fun _ => 0)), a0, b0, z0, o1), ⟨fun c q hq => ?_, fun k q hq => ?_⟩, fun q hq => va_tabs rfl rfl (hts _ (nlz_in q hq))⟩
  · match c, hq with
    | 0, hq => cases hq; exact k0
    | 1, hq => cases hq; exact k1
    | 2, hq => cases hq; exact k2
    | 3, hq => cases hq; exact k3
    | 4, hq => cases hq; exact k4
    | (c + 5), hq => cases hq
  · match k, hq with
    | 0, hq => cases hq; exact ⟨fun _ _ => ⟨fun _ h => (by cases h), ka0, a2, p0, a3⟩, a1⟩
    | 1, hq => cases hq; exact ⟨fun _ _ => ⟨fun _ h => (by cases h), kb0, b2, q0, b3⟩, b1⟩
    | 2, hq => cases hq; exact ⟨fun _ _ => ⟨fun _ h => (by cases h), kz0, z2, r0, z3⟩, z1⟩
    | 3, hq => cases hq; exact ⟨fun _ _ => ⟨fun _ h => (by cases h), ko, o3, o0, o4⟩, o5⟩
    | (k + 4), hq => cases hq
/-- what the throws ask, at the law's entry -/
theorem exXJ {s : State} {b : Nat} (hts : ∀ w ∈ lw_tbl, w.before #[Value.ref b] s = true) (hgv : (Jvm.Cond.and given_1 narrow_1).before #[Value.ref b] s = true) : XJ s := by
  have hs := flat_of_before _ hgv
  have s1 : xS1.before #[Value.ref b] s = true := hs _ (by decide +kernel)
  have s2 : xS2.before #[Value.ref b] s = true := hs _ (by decide +kernel)
  have hno : (Cond.not (.castable nISE nIAE)).before #[Value.ref b] s = true := hs _ (by decide +kernel)
  have hall : ∀ a ∈ xl, a.before #[Value.ref b] s = true := by
    intro a ha
    have h1 := List.all_eq_true.mp xA_1 a ha
    rw [decide_eq_true_eq] at h1
    rcases List.mem_cons.mp h1 with e | h1
    · rw [e]; exact s1
    · rcases List.mem_cons.mp h1 with e | h1
      · rw [e]; exact s2
      · exact hts a h1
  have h3 := xA_3
  simp only [Bool.and_eq_true, decide_eq_true_eq] at h3
  have h4 := xA_4
  simp only [Bool.and_eq_true, decide_eq_true_eq] at h4
  obtain ⟨c0, i0, k0⟩ := u_known (fun w h => hts w (gt_in w h)) in_CY (hts _ (gt_in _ kb_CY))
  refine ⟨⟨fun a ha => ?_, ?_, ?_⟩, ?_⟩
  · have h1 := List.all_eq_true.mp xA_2 a ha
    rw [Bool.or_eq_true, Bool.and_eq_true, decide_eq_true_eq] at h1
    rcases h1 with h1 | h1
    · simp only [List.mem_cons, List.not_mem_nil, or_false] at h1
      rcases h1 with e | e | e | e
      · subst e; exact xmR (State.WarmedH.refl s) (fun _ _ => rfl) (hall xL1 h3.1.1.1) (hall _ ha)
      · subst e; exact xmR (State.WarmedH.refl s) (fun _ _ => rfl) (hall xL2 h3.1.1.2) (hall _ ha)
      · subst e; exact xmL (State.WarmedH.refl s) (fun _ _ => rfl) (hall _ ha)
      · subst e; exact xmL (State.WarmedH.refl s) (fun _ _ => rfl) (hall _ ha)
    · exact xmT h1.1 h1.2 (State.WarmedH.refl s) (hall a ha)
  · obtain ⟨-, -, -, sa, -, -, -, -, -, hev⟩ := Cond.stringRef_spec k0.2.1 (hts _ h4.1)
    exact ⟨sa, vk_R.of (hts _ h4.1) hev⟩
  · obtain ⟨-, -, -, sa, -, -, -, -, -, hev⟩ := Cond.stringRef_spec k0.2.1 (hts _ h4.2)
    exact ⟨sa, vk_R.of (hts _ h4.2) hev⟩
  · intro cE cI hE hI
    have hv := Cond.holds_not_iff.mp hno
    simp only [Cond.value, hE, hI] at hv
    exact Option.some.inj hv
