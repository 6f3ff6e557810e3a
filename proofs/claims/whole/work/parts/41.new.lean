/-! Rows of constructors: Object's own, final fields, new objects and arrays, calls of constructors. (new int[n][m] stands on the library's multianewarray2F, as the claim's own printed names do.) -/
theorem ka_int : Cond.arrayClass .int ∈ gt := gt_at 76 (by decide +kernel) (by decide +kernel)
theorem ka_long : Cond.arrayClass .long ∈ gt := gt_at 117 (by decide +kernel) (by decide +kernel)
theorem ka_boolean : Cond.arrayClass .boolean ∈ gt := gt_at 651 (by decide +kernel) (by decide +kernel)
/-- the class of int[][] is there -/
def AOv (U : State) : Prop := (Cond.arrayOver (.array .int)).before #[] U = true
theorem AOv.move {s U : State} (hW : s.WarmedH U.vm) {a a' : Array Value} (h : (Cond.arrayOver (.array .int)).before a s = true) : (Cond.arrayOver (.array .int)).before a' U = true := by
  have hal := hW.alike
  simp only [Cond.before, Cond.holds, Cond.value] at h ⊢
  rw [hal.findClass]
  cases hf : s.vm.findClass (FieldType.array .int).toString with
  | none => rw [hf] at h; simp at h
  | some comp =>
    rw [hf] at h
    simp only [Option.bind_some] at h ⊢
    rw [hal.findIdx_congr _ (fun _ _ _ _ => rfl)]
    generalize hF : (s.vm.classes.findIdx? fun (x : Class) => match x.kind with | .array component _ => component == comp | _ => false) = fi at h ⊢
    cases fi with
    | none => simp at h
    | some c =>
      simp only [Option.bind_some] at h ⊢
      cases hk : s.vm.classes[c]? with
      | none => rw [hk] at h; simp at h
      | some k =>
        obtain ⟨k', hk', ek⟩ := hal.2.2 _ _ hk
        rw [hk] at h
        rw [hk', hal.findClass]
        have ekind : k'.kind = k.kind := by rw [ek]
        simp only [Option.map_some] at h ⊢
        rw [ekind]
        exact h
/-- a constructor's contract: the object is there; S tells where its arrays lie -/
def cWA (V : gV) (w : va_W) (sz : Nat) (As : List Value) : Array Value → State → Prop := va_Pc As (fun U => U.heap.size = sz ∧ va_P V.1 clz w U.heap ∧ gK V U ∧ va_D (fun _ => True) w ∧ AOv U)
theorem cWA.blind {V : gV} {w : va_W} {sz : Nat} {As : List Value} : FrameBlind (cWA V w sz As) := fun _ U g mk q => ⟨q.1, q.2.1, q.2.2.1, gK.vm (s := U) rfl q.2.2.2.1, q.2.2.2.2.1, AOv.move (s := U) (a := #[]) (a' := #[]) (State.WarmedH.refl U) q.2.2.2.2.2⟩
abbrev mI (l : Launch) (y : MethodName) (wy : List Cond) (rm : Room) (V : gV) (w : va_W) (As : List Value) {S : Type} (w1 : S → va_W) (mc ms : Nat) : Prop := ∀ sz, Met l y wy rm (cWA V w sz As) (va_Qv (fun (_ : S) => True) (cB V w sz w1) (va_A w sz)) mc ms (va_A w sz)
theorem fvS {l : Launch} {y : MethodName} {wy : List Cond} {rm : Room} {V : gV} {w pre : va_W} {As : List Value} {mc ms : Nat} {S : Type} {w1 : S → va_W} (h : mI l y wy rm V w As w1 mc ms) : mI l y wy rm V (pre ++ w) As (fun u => pre ++ w1 u) mc ms := by
  intro sz p e ha hc hk s m args below hf happ hP hK
  obtain ⟨n, o, h1, h2, h3, ⟨⟨u, hr, hp, hB⟩, hF⟩, L, hL, hfr⟩ := h sz p e ha hc hk s m args below hf happ ⟨hP.1, hP.2.1, (fP hP.2.2.1).1, hP.2.2.2.1, (fD hP.2.2.2.2.1).1, hP.2.2.2.2.2⟩ trivial
  have q := fB (w' := w1 u) hP.2.1 hP.2.2.1 hP.2.2.2.2.1 hB hF
  exact ⟨n, o, h1, h2, h3, ⟨⟨u, hr, hp, q.1⟩, q.2⟩, L, hL, fun z hz => fA (hfr z hz)⟩
theorem gpm {A : Nat → Prop} {w w' : va_W} (hp : List.Perm w w') (h : va_D A w) : va_D A w' := by
  have nd : ∀ v : va_W, (∀ (i j : Nat) (p q : Nat × va_E), v[i]? = some p → v[j]? = some q → p.1 = q.1 → i = j) ↔ (v.map (·.1)).Nodup := by
    intro v
    unfold List.Nodup
    rw [List.pairwise_iff_getElem]
    constructor
    · intro H i j hi hj hij he
      rw [List.getElem_map, List.getElem_map] at he
      rw [List.length_map] at hi hj
      have := H i j _ _ (List.getElem?_eq_getElem hi) (List.getElem?_eq_getElem hj) he
      omega
    · intro H i j p q hi hj he
      obtain ⟨hi1, hi2⟩ := List.getElem?_eq_some_iff.mp hi
      obtain ⟨hj1, hj2⟩ := List.getElem?_eq_some_iff.mp hj
      rcases Nat.lt_trichotomy i j with h1 | h1 | h1
      · exact absurd (by rw [List.getElem_map, List.getElem_map, hi2, hj2]; exact he) (H i j (by rw [List.length_map]; exact hi1) (by rw [List.length_map]; exact hj1) h1)
      · exact h1
      · exact absurd (by rw [List.getElem_map, List.getElem_map, hi2, hj2]; exact he.symm) (H j i (by rw [List.length_map]; exact hj1) (by rw [List.length_map]; exact hi1) h1)
  refine ⟨(nd w').mpr ((hp.map _).nodup_iff.mp ((nd w).mp h.1)), fun k q hk => ?_⟩
  obtain ⟨i, hi⟩ := List.getElem?_of_mem (hp.mem_iff.mpr (List.mem_of_getElem? hk))
  exact h.2 i q hi
theorem gpmP {D : va_G} {cl : List vw_C} {H : Heap} {w w' : va_W} (hp : List.Perm w w') (h : va_P D cl w H) : va_P D cl w' H := fun k q hk => by
  obtain ⟨i, hi⟩ := List.getElem?_of_mem (hp.mem_iff.mpr (List.mem_of_getElem? hk))
  exact h i q hi
section GNW
variable {p : Program} {l : Launch} {e : Env} {R : Room} {s : State} {m : MethodId} {args : Array Value} {below : List Frame} {meth : Method} {c : Code} {V : gV} {A : Nat → Prop} {H0 : Heap} {nL : Nat} {Q : State → Prop} {cells slots : Nat} {om : Heap → List Loc → Prop} {ws : va_W} {lv : List (Nat × Value)} {pc : Nat} {rest : List Value} {cc : ByteArray} {own : String}
theorem g_perm {ws' : va_W} (hp : List.Perm ws ws') (k : gg p l e R s m args below meth c nL Q cells slots (gW V A H0 ws') lv pc rest) : gg p l e R s m args below meth c nL Q cells slots (gW V A H0 ws) lv pc rest :=
  fun H locs ls ho hl => k H locs ls ⟨gpmP hp ho.1, gpm hp ho.2.1, ho.2.2⟩ hl
theorem g_obj (E : gE p s m args c cc nL own V) {idx : Nat} (hlink : Cond.methodLink own idx Lib.objectInit ∈ gt) {a : Nat} (hR : 1 ≤ R.frames ∧ 20 ≤ R.locals) (hW : (rest.map fun v => v.category).sum ≤ 8) (hd : decode cc pc = .ok (.invokespecial idx, 3)) (k : gg p l e R s m args below meth c nL Q cells slots om lv (pc + 3) rest) : gg p l e R s m args below meth c nL Q cells slots om lv pc (.ref a :: rest) :=
  fun H locs ls ho hl => W.objInit E.1 E.2.1 E.2.2.2.1 (E.2.2.2.2.1 _ hlink) (E.2.2.2.2.1 _ k_obji) (E.2.2.2.2.1 _ k_obj) (g := F0 m pc ls (.ref a :: rest)) rfl (by rw [E.2.2.1]; exact hl.1) rfl hd hR.1 (by have := lv_room (m := m) (pc := pc) (ls := ls) (rest := rest) hW; simp only [F0, JFrame.monitorRoom] at this ⊢; omega) (k H locs ls ho hl)
theorem g_putF (E : gE p s m args c cc nL own V) {ref C : String} {T : u_T} {N ci index : Nat} {a : Nat} (hin : ∀ w ∈ u_ws C T N, w ∈ gt) (ty0 : Nat → FieldType) (hty : ∀ k, k < N → parseFieldDescriptor (T k).2.2.1 = some (ty0 k)) (hnm : ∀ a, a < N → ∀ b, b < N → a ≠ b → (T a).2.1 ≠ (T b).2.1) (q0 : Nat) {fs : List Value} (he : ws[q0]? = some (a, .inr (ci, fs))) (hc : clz[ci]? = some (C, T, N)) (k0 : Nat) (hk : k0 < N) (hlink : Cond.fieldLink own index ref (T k0).2.1 (T k0).2.2.1 ∈ gt) (hsame : (T k0).1 = ref) (hfin : (T k0).2.2.2 = true) (hin2 : meth.name = "<init>") (hdecl : (T k0).1 = own) {ty : FieldType} {v : Value} (hdn : parseFieldDescriptor (T k0).2.2.1 = some ty) (hn : narrow ty v = v) (hfit : fits ty v = true) (hl0 : k0 < fs.length) {ws' : va_W} (hw : ws.set q0 (a, .inr (ci, fs.set k0 v)) = ws') (hd : decode cc pc = .ok (.putfield index, 3)) (k : gg p l e R s m args below meth c nL Q cells slots (gW V A H0 ws') lv (pc + 3) rest) : gg p l e R s m args below meth c nL Q cells slots (gW V A H0 ws) lv pc (v :: .ref a :: rest) := fun H locs ls ho hl => va_putF E.1 E.2.1 E.2.2.2.2.1 hin ty0 hty hnm E.2.2.2.1 E.2.2.2.2.2.1 ho.1 ho.2.1 ho.2.2 q0 he hc k0 hk (E.2.2.2.2.1 _ hlink) (fun x h => hsame ▸ h) hfin hin2 hdecl hdn hn hfit hl0 hd (fun H1 locs1 hP1 hD1 hS1 => k H1 locs1 ls ⟨hw ▸ hP1, hw ▸ hD1, hS1⟩ hl)
theorem g_new (E : gE p s m args c cc nL own V) (hA0 : ∀ q : Nat, H0.size ≤ q → A q) {C : String} {T : u_T} {N ci index : Nat} (hin : ∀ w ∈ u_ws C T N, w ∈ gt) (ty0 : Nat → FieldType) (hty : ∀ k, k < N → parseFieldDescriptor (T k).2.2.1 = some (ty0 k)) (hcl : Cond.classLink own index C ∈ gt) (hins : Cond.instantiable C N ∈ gt) (hini : Cond.initialized C ∈ gt) (hc : clz[ci]? = some (C, T, N)) {fs : List Value} (hfs : ∀ j, j < N → defaultValue (ty0 j) = vp_V fs j) (hf : cells + 1 ≤ R.cells ∧ slots + N ≤ R.slots) (hd : decode cc pc = .ok (.new index, 3))
    (k : ∀ q : Nat, gg p l e R s m args below meth c nL Q (cells + 1) (slots + N) (gW V A H0 (ws ++ [(q, .inr (ci, fs))])) lv (pc + 3) (.ref q :: rest)) : gg p l e R s m args below meth c nL Q cells slots (gW V A H0 ws) lv pc rest :=
  fun H locs ls ho hl => va_new E.1 E.2.1 E.2.2.2.2.1 hin ty0 hty E.2.2.2.1 (E.2.2.2.2.1 _ hcl) (E.2.2.2.2.1 _ hins) (E.2.2.2.2.1 _ hini) E.2.2.2.2.2.1 ho.1 ho.2.1 ho.2.2 hA0 hc hfs hf.1 hf.2 hd (fun q H1 hP1 hD1 hS1 => k q H1 locs ls ⟨hP1, hD1, hS1⟩ hl)
theorem g_newa (E : gE p s m args c cc nL own V) (hA0 : ∀ q : Nat, H0.size ≤ q → A q) {atype : ArrayType} {ty : FieldType} (hty : newarray.typeOf atype = ty) (harr : Cond.arrayClass ty ∈ gt) (t0 : Nat) {cT : ClassId} (ht : (tz V)[t0]? = some (cT, ty)) (hRA : ∀ cA, va_RA s cA ty → s.vm.findClass ("[" ++ ty.toString) = some cA) {N : Nat} {a0 : vp_A} (ha : ∀ cA : ClassId, vp_cell cA a0 = arrV cA N (fun _ => defaultValue ty)) (hN : N < 2 ^ 20) (hb : componentBytes ty ≤ 8) (hf : cells + 1 ≤ R.cells ∧ slots + N ≤ R.slots) (hd : decode cc pc = .ok (.newarray atype, 2))
    (k : ∀ q : Nat, gg p l e R s m args below meth c nL Q (cells + 1) (slots + N) (gW V A H0 (ws ++ [(q, .inl (cT, a0))])) lv (pc + 2) (.ref q :: rest)) : gg p l e R s m args below meth c nL Q cells slots (gW V A H0 ws) lv pc (.int (nI N) :: rest) := by
  intro H locs ls ho hl
  subst hty
  refine va_newa E.1 E.2.1 (E.2.2.2.2.1 _ harr) rfl E.2.2.2.2.2.1 ho.1 ho.2.1 ho.2.2 hA0 ha (nI_pos (by omega)) (nI_clamp (by omega)) (Nat.le_trans (Nat.mul_le_mul (Nat.le_of_lt hN) hb) (by decide)) hf.1 hf.2 hd (fun q cA H1 hK1 hP1 hD1 hS1 => ?_)
  have h1 := hRA _ (E.2.2.2.2.2.1.2 t0 _ ht).2
  have h2 := hRA _ (hK1.2 (tz V).length (cA, newarray.typeOf atype) (by rw [List.getElem?_append_right (Nat.le_refl _), Nat.sub_self]; rfl)).2
  cases h1.symm.trans h2
  exact k q H1 locs ls ⟨hP1, hD1, hS1⟩ hl
theorem g_newI (E : gE p s m args c cc nL own V) (hA0 : ∀ q : Nat, H0.size ≤ q → A q) {N : Nat} (hN : N < 2 ^ 20) (hf : cells + 1 ≤ R.cells ∧ slots + N ≤ R.slots) (hd : decode cc pc = .ok (.newarray .int, 2)) (k : ∀ q : Nat, gg p l e R s m args below meth c nL Q (cells + 1) (slots + N) (gW V A H0 (ws ++ [(q, aN V N (fun _ => 0))])) lv (pc + 2) (.ref q :: rest)) : gg p l e R s m args below meth c nL Q cells slots (gW V A H0 ws) lv pc (.int (nI N) :: rest) :=
  g_newa E hA0 (ty := .int) rfl ka_int 0 rfl (fun _ h => h) (fun _ => rfl) hN (by decide) hf hd k
theorem g_newL (E : gE p s m args c cc nL own V) (hA0 : ∀ q : Nat, H0.size ≤ q → A q) {N : Nat} (hN : N < 2 ^ 20) (hf : cells + 1 ≤ R.cells ∧ slots + N ≤ R.slots) (hd : decode cc pc = .ok (.newarray .long, 2)) (k : ∀ q : Nat, gg p l e R s m args below meth c nL Q (cells + 1) (slots + N) (gW V A H0 (ws ++ [(q, aL V N (fun _ => 0))])) lv (pc + 2) (.ref q :: rest)) : gg p l e R s m args below meth c nL Q cells slots (gW V A H0 ws) lv pc (.int (nI N) :: rest) :=
  g_newa E hA0 (ty := .long) rfl ka_long 1 rfl (fun _ h => h) (fun _ => rfl) hN (by decide) hf hd k
theorem g_newZ (E : gE p s m args c cc nL own V) (hA0 : ∀ q : Nat, H0.size ≤ q → A q) {N : Nat} (hN : N < 2 ^ 20) (hf : cells + 1 ≤ R.cells ∧ slots + N ≤ R.slots) (hd : decode cc pc = .ok (.newarray .boolean, 2)) (k : ∀ q : Nat, gg p l e R s m args below meth c nL Q (cells + 1) (slots + N) (gW V A H0 (ws ++ [(q, aB V N (fun _ => false))])) lv (pc + 2) (.ref q :: rest)) : gg p l e R s m args below meth c nL Q cells slots (gW V A H0 ws) lv pc (.int (nI N) :: rest) :=
  g_newa E hA0 (ty := .boolean) rfl ka_boolean 2 rfl (fun _ h => h) (fun _ => rfl) hN (by decide) hf hd k
theorem gout (cA : ClassId) (N h0 : Nat) : ∀ i : Nat, Jvm.Free.Multi.outerC cA N h0 i = arrV cA N (fun j => va_rf (if j < i then some (h0 + 1 + j) else none))
  | 0 => by
    show ({ cls := cA, slots := Array.replicate N .null, vm := .none } : Cell) = _
    rw [arrV_new]
    refine congrArg (arrV cA N) (funext fun j => ?_)
    simp [va_rf]
  | i + 1 => by
    show (Jvm.Free.Multi.outerC cA N h0 i).setSlot i (.ref (h0 + 1 + i)) = _
    rw [gout cA N h0 i, arrV_store]
    refine congrArg (arrV cA N) (funext fun j => ?_)
    by_cases e : j = i
    · subst e
      simp [updV, va_rf]
    · by_cases h : j < i
      · simp [updV, e, h, Nat.lt_succ_of_lt h]
      · simp [updV, e, h, show ¬ j < i + 1 by omega]
/-- new int[N][K]: the outer array, and a pool of N rows behind it -/
theorem g_mna (E : gE p s m args c cc nL own V) (hA0 : ∀ q : Nat, H0.size ≤ q → A q) {index : Nat} (hcl : Cond.classLink own index "[[I" ∈ gt) (hov : (Cond.arrayOver (.array .int)).before args s = true) {N K : Nat} (hN : N < 2 ^ 20) (hK : K < 2 ^ 20) (hf : cells + (1 + N) ≤ R.cells ∧ slots + (N + N * K) ≤ R.slots) (hd : decode cc pc = .ok (.multianewarray index 2, 4))
    (k : ∀ q : Nat, gg p l e R s m args below meth c nL Q (cells + 1 + N) (slots + N + N * K) (gW V A H0 (ws ++ ((q, aR V N (fun i => q + 1 + i)) :: gpool N (fun i => q + 1 + i) (fun _ => aN V K (fun _ => 0))))) lv (pc + 4) (.ref q :: rest)) : gg p l e R s m args below meth c nL Q cells slots (gW V A H0 ws) lv pc (.int (nI K) :: .int (nI N) :: rest) := by
  intro H locs ls ho hl T hT X
  have eN : (nI N).toNatClampNeg = N := nI_clamp (by omega)
  have eK : (nI K).toNatClampNeg = K := nI_clamp (by omega)
  obtain ⟨vm₁, cA, comp, -, fA, fC, -, -, X', step⟩ := X.multianewarray2F E.1 E.2.2.2.1 (ty := .int) (index := index) (E.2.2.2.2.1 _ hcl) hov (E.2.2.2.2.1 _ ka_int) (g := F0 m pc ls (.int (nI K) :: .int (nI N) :: rest)) rfl (by rw [E.2.1]; exact hd) rfl (nI_pos (by omega)) (nI_pos (by omega)) (by rw [eN]; omega) (by rw [eK]; exact Nat.le_trans (Nat.mul_le_mul (Nat.le_of_lt hK) (show componentBytes .int ≤ 8 by decide)) (by decide)) (by rw [eK]; omega) rfl rfl (by rw [eN]; exact hf.1) (by rw [eN, eK]; exact hf.2)
  rw [eN, eK] at X' step
  have h1 : s.vm.findClass "[I" = some V.2.1 := (E.2.2.2.2.2.1.2 0 _ rfl).2
  have h2 : s.vm.findClass "[[I" = some V.2.2.2.2 := (E.2.2.2.2.2.1.2 3 _ rfl).2
  cases h1.symm.trans fC
  cases h2.symm.trans fA
  generalize hF : Jvm.Free.Multi.fill (T.setVm vm₁) V.2.2.2.2 V.2.1 N K (defaultValue .int) N = F at X' step
  have hTh : (T.setVm vm₁).heap = H := hT
  obtain ⟨f1, f2, -, -⟩ := Jvm.Free.Multi.fill_facts (T.setVm vm₁) V.2.2.2.2 V.2.1 N K (defaultValue .int) N
  rw [hF, hTh] at f1 f2
  have hold : ∀ x : Nat, x < H.size → F.heap[x]? = H[x]? := fun x hx => by
    have := Jvm.Free.Multi.fill_old (T.setVm vm₁) V.2.2.2.2 V.2.1 N K (defaultValue .int) (a := x) (by rw [hTh]; exact hx) N
    rw [hF, hTh] at this
    exact this
  have hrow : ∀ j : Nat, j < N → F.heap[H.size + 1 + j]? = some (arrV V.2.1 K (fun _ => .int (nI 0))) := fun j hj => by
    have := Jvm.Free.Multi.fill_inner (T.setVm vm₁) V.2.2.2.2 V.2.1 N K (defaultValue .int) N j hj
    rw [hF, hTh] at this
    rw [this]
    show some ({ cls := V.2.1, slots := Array.replicate K (.int 0), vm := .none } : Cell) = _
    rw [arrV_new]
    rfl
  have hout : F.heap[H.size]? = some (arrV V.2.2.2.2 N (fun j => va_rf (some (H.size + 1 + j)))) := by
    rw [f2, gout, arrV_same (g := fun j => va_rf (some (H.size + 1 + j))) (fun j hj => by rw [if_pos hj])]
  have hmem : ∀ x : Nat × va_E, x ∈ ((H.size, aR V N (fun i => H.size + 1 + i)) :: gpool N (fun i => H.size + 1 + i) (fun _ => aN V K (fun _ => 0)) : va_W) → va_at V.1 clz x F.heap ∧ H.size ≤ x.1 := by
    intro x hx
    rcases List.mem_cons.mp hx with e | hx
    · subst e
      exact ⟨hout, Nat.le_refl _⟩
    · obtain ⟨i, hi, rfl⟩ := List.mem_map.mp hx
      exact ⟨hrow i (List.mem_range.mp hi), by show H.size ≤ H.size + 1 + i; omega⟩
  have hP1 : va_P V.1 clz (ws ++ ((H.size, aR V N (fun i => H.size + 1 + i)) :: gpool N (fun i => H.size + 1 + i) (fun _ => aN V K (fun _ => 0)))) F.heap := (ho.1.kept (fun k9 x hx => hold x.1 ((ho.1 k9 x hx).lt))).app (fun k9 x hx => (hmem x (List.mem_of_getElem? hx)).1)
  have hge : ∀ q, H.size ≤ q → A q := fun q hq => hA0 q (Nat.le_trans ho.2.2.1 hq)
  have hDn : va_D A ((H.size, aR V N (fun i => H.size + 1 + i)) :: gpool N (fun i => H.size + 1 + i) (fun _ => aN V K (fun _ => 0)) : va_W) := by
    have key : ∀ (i : Nat) (x : Nat × va_E), ((H.size, aR V N (fun i => H.size + 1 + i)) :: gpool N (fun i => H.size + 1 + i) (fun _ => aN V K (fun _ => 0)) : va_W)[i]? = some x → x.1 = H.size + i := by
      intro i x hx
      cases i with
      | zero => cases hx; rfl
      | succ i =>
        rw [List.getElem?_cons_succ] at hx
        have hi : i < N := by
          have := (List.getElem?_eq_some_iff.mp hx).1
          rw [gpool_len] at this; exact this
        rw [gpool_get hi] at hx
        cases hx
        show H.size + 1 + i = H.size + (i + 1); omega
    refine ⟨fun i j x y hx hy hxy => ?_, fun i x hx => hge _ (by rw [key i x hx]; omega)⟩
    rw [key i x hx, key j y hy] at hxy; omega
  have hD1 : va_D A (ws ++ ((H.size, aR V N (fun i => H.size + 1 + i)) :: gpool N (fun i => H.size + 1 + i) (fun _ => aN V K (fun _ => 0)))) := va_D.app ho.2.1 hDn (fun i j x y hx hy hxy => by
    have q1 := (ho.1 i x hx).lt
    have q2 := (hmem y (List.mem_of_getElem? hy)).2
    omega)
  have hS1 : va_S A H0 F.heap locs := ⟨Nat.le_trans ho.2.2.1 (by rw [f1]; omega), fun x q1 q2 => (hold x (Nat.lt_of_lt_of_le q1 ho.2.2.1)).trans (ho.2.2.2.1 x q1 q2), ho.2.2.2.2⟩
  obtain ⟨t, a1, b1⟩ := k H.size F.heap locs ls ⟨hP1, hD1, hS1⟩ hl F rfl X'
  exact ⟨t, step t (by rw [hT]; exact a1), b1⟩
/-- a constructor's call, the whole world its own -/
theorem gI (E : gE p s m args c cc nL own V) (hA0 : ∀ q : Nat, H0.size ≤ q → A q) (hov : (Cond.arrayOver (.array .int)).before args s = true) {index maxL n : Nat} {y : MethodName} {bytes : ByteArray} {rm : Room} {w : va_W} {b : Nat} {As st0 : List Value} {S : Type} {w1 : S → va_W} {mc ms : Nat} (hM : mI l y (Cond.code y bytes maxL none :: gt) rm V w (.ref b :: As) w1 mc ms) (hcode : Cond.code y bytes maxL none ∈ gt) (hlink : Cond.methodLink own index y ∈ gt) (hin : Cond.instanceMethod y ∈ gt) (hini : Cond.initialized y.cls ∈ gt) (hnm : y.name = "<init>") (hdd : y.cls ≠ "java/lang/invoke/MethodHandle" ∧ y.cls ≠ "java/lang/invoke/VarHandle" ∧ (parseMethodDescriptor y.desc).map (fun d => d.parameters.length) = some n) (hrc : rm.cells = mc) (hrs : rm.slots = ms) (hR : rm.frames + 1 ≤ R.frames ∧ 8 + (maxL + 11) + rm.locals ≤ R.locals)
    (hn : As.length = n) (hst : st0 = As.reverse ++ .ref b :: rest) (hW : (rest.map fun v => v.category).sum ≤ 8) (hf : cells + mc ≤ R.cells ∧ slots + ms ≤ R.slots) (hd : decode cc pc = .ok (.invokespecial index, 3)) (k : ∀ u : S, gg p l e R s m args below meth c nL Q (cells + mc) (slots + ms) (gW V A H0 (w1 u)) lv (pc + 3) rest) : gg p l e R s m args below meth c nL Q cells slots (gW V A H0 w) lv pc st0 :=
  gw_v (a := (.ref b :: As).toArray) hA0 (fun H locs ls ho hl => va_runI (As := As) ⟨E.1, E.2.1, E.2.2.1, E.2.2.2.1, E.2.2.2.2.1⟩ (hM H.size) ⟨callB_of n E.2.2.2.2.1 (gt_to hcode) rfl hrc hrs (E.2.2.2.2.1 _ hini) (E.2.2.2.2.1 _ hlink) hdd hR, hnm, E.2.2.2.2.1 _ hin⟩ ⟨cWA.blind, fun U hU hWU => ⟨rfl, by rw [hU], by rw [hU]; exact ho.1, E.2.2.2.2.2.warm hWU, ho.2.1.weaken (fun _ _ _ _ => trivial), AOv.move hWU hov⟩⟩ rfl hn hl.1 hst (lv_room hW) hd hf) (fun u _ => k u)
theorem gIN (E : gE p s m args c cc nL own V) (hA0 : ∀ q : Nat, H0.size ≤ q → A q) (hov : (Cond.arrayOver (.array .int)).before args s = true) {index maxL n : Nat} {y : MethodName} {host : String} {bytes : ByteArray} {rm : Room} {w : va_W} {b : Nat} {As st0 : List Value} {S : Type} {w1 : S → va_W} {mc ms : Nat} (hM : mI l y (Cond.code y bytes maxL none :: gt) rm V w (.ref b :: As) w1 mc ms) (hcode : Cond.code y bytes maxL none ∈ gt) (hlink : (own, index, y, host) ∈ nlz) (hin : Cond.instanceMethod y ∈ gt) (hini : Cond.initialized y.cls ∈ gt) (hnm : y.name = "<init>") (hdd : y.cls ≠ "java/lang/invoke/MethodHandle" ∧ y.cls ≠ "java/lang/invoke/VarHandle" ∧ (parseMethodDescriptor y.desc).map (fun d => d.parameters.length) = some n) (hrc : rm.cells = mc) (hrs : rm.slots = ms) (hR : rm.frames + 1 ≤ R.frames ∧ 8 + (maxL + 11) + rm.locals ≤ R.locals)
    (hn : As.length = n) (hst : st0 = As.reverse ++ .ref b :: rest) (hW : (rest.map fun v => v.category).sum ≤ 8) (hf : cells + mc ≤ R.cells ∧ slots + ms ≤ R.slots) (hd : decode cc pc = .ok (.invokespecial index, 3)) (k : ∀ u : S, gg p l e R s m args below meth c nL Q (cells + mc) (slots + ms) (gW V A H0 (w1 u)) lv (pc + 3) rest) : gg p l e R s m args below meth c nL Q cells slots (gW V A H0 w) lv pc st0 :=
  gw_v (a := (.ref b :: As).toArray) hA0 (fun H locs ls ho hl => va_runIN (As := As) ⟨E.1, E.2.1, E.2.2.1, E.2.2.2.1, E.2.2.2.2.1⟩ (hM H.size) ⟨va_cnB n E.2.2.2.2.1 (gt_to hcode) rfl hrc hrs (E.2.2.2.2.2.2 _ hlink) (E.2.2.2.2.1 _ hini) hdd hR, hnm, E.2.2.2.2.1 _ hin⟩ ⟨cWA.blind, fun U hU hWU => ⟨rfl, by rw [hU], by rw [hU]; exact ho.1, E.2.2.2.2.2.warm hWU, ho.2.1.weaken (fun _ _ _ _ => trivial), AOv.move hWU hov⟩⟩ rfl hn hl.1 hst (lv_room hW) hd hf) (fun u _ => k u)
end GNW
