/-! The law's wrappers. -/
/-- a long[1] that holds v -/
abbrev aX (V : gV) (v : Int64) : va_E := .inl (V.2.2.1, 1, .inr (.inl (fun _ => v)))
/-- the class's world, and the place for the answer -/
def wW (V : gV) (q : Nat) (ad r1 r2 r3 : Nat → Nat) (ou : Int64) (nY : Nat) (ix bu : Nat → Nat) (np : Nat) (st sr : Nat → Nat) (sx tk : Nat → Nat → Nat) (rn sh sn : Nat → Nat) (yw nw : Nat) (yo ce wo : Nat → Nat) (po ne : Nat → Option Nat) (cs : Nat → Nat) (sv : Nat → Nat → Nat) (mk : Nat) (sp rs : Nat → Int) (bg dp : Nat) : va_W :=
  (q, aX V ou) :: wC V ad r1 r2 r3 nY ix bu np st sr sx tk rn sh sn yw nw yo ce wo po ne cs sv mk sp rs bg dp
theorem fpi0 {l : Launch} {y : MethodName} {wy : List Cond} {rm : Room} {V : gV} {w pre : va_W} {As : List Value} {v : Int32} (h : mPi l y wy rm V w As v) : mPi l y wy rm V (pre ++ w) As v :=
  fun p e ha hc hk s m args below hf happ hP hK => h p e ha hc hk s m args below hf happ ⟨hP.1, (fP hP.2.1).1, hP.2.2⟩ trivial
def cWX (V : gV) (w : va_W) (sz : Nat) (As : List Value) : Array Value → State → Prop := va_Pc As (fun U => U.heap.size = sz ∧ va_P V.1 clz w U.heap ∧ gK V U ∧ va_D (fun _ => True) w ∧ XJ U)
theorem cWX.blind {V : gV} {w : va_W} {sz : Nat} {As : List Value} : FrameBlind (cWX V w sz As) := fun _ U g mk q => ⟨q.1, q.2.1, q.2.2.1, gK.vm (s := U) rfl q.2.2.2.1, q.2.2.2.2.1, XJ.move (s := U) (State.WarmedH.refl U) (fun _ _ => rfl) q.2.2.2.2.2⟩
/-- a wrapper of a call that is refused: it answers v, the world stays, an exception has been made -/
abbrev mB (l : Launch) (y : MethodName) (wy : List Cond) (rm : Room) (V : gV) (w : va_W) (As : List Value) (v : Int32) : Prop := ∀ sz, Met l y wy rm (cWX V w sz As) (va_Qi (fun (r : Int32) (_ : Unit) => r = v) (cB V w sz (fun _ => w)) (va_A w sz)) 1 6 (va_A w sz)
theorem gq_n {V : gV} {s : State} {w : va_W} {sz : Nat} {args : Array Value} {v : Int32} (hs : s.heap.size = sz) (hP : va_P V.1 clz w s.heap) (hD : va_D (fun _ => True) w) : ∀ H locs, gNw s.heap H locs → (∀ t : State, t.heap = H → s.WarmedH t.vm → va_Qi (fun (r : Int32) (_ : Unit) => r = v) (cB V w sz (fun _ => w)) (va_A w sz) args s (.returned (some (.int v))) t) ∧ ∀ q ∈ locs, va_A w sz q.base := by
  intro H locs ho
  refine ⟨fun t ht _ => ⟨⟨v, (), rfl, rfl, ?_, hD.self⟩, ?_, ?_⟩, fun q hq => by rw [ho.2.2] at hq; cases hq⟩
  · rw [ht]; exact hP.kept (fun k q hk => ho.2.1 _ (hP k q hk).lt)
  · rw [ht]; exact ho.1
  · intro q h1 _; rw [ht]; exact ho.2.1 q h1
section GXX
variable {p : Program} {l : Launch} {e : Env} {R : Room} {s : State} {m : MethodId} {args : Array Value} {below : List Frame} {meth : Method} {c : Code} {V : gV} {A : Nat → Prop} {H0 : Heap} {nL : Nat} {Q : State → Prop} {cells slots : Nat} {om : Heap → List Loc → Prop} {ws : va_W} {lv : List (Nat × Value)} {pc : Nat} {rest : List Value} {cc : ByteArray} {own : String}
theorem g_ldX (E : gE p s m args c cc nL own V) (hO : gO om V ws) (q0 : Nat) {a : Nat} {v : Int64} (ha : ws[q0]? = some (a, aX V v)) (hd : decode cc pc = .ok (.laload, 1)) (k : gg p l e R s m args below meth c nL Q cells slots om lv (pc + 1) (.long v :: rest)) : gg p l e R s m args below meth c nL Q cells slots om lv pc (.int (nI 0) :: .ref a :: rest) := g_laload E hO q0 1 ha rfl (i := 0) (by decide) (by decide) hd k
theorem g_stX (E : gE p s m args c cc nL own V) (q0 : Nat) {a : Nat} {v0 v : Int64} (ha : ws[q0]? = some (a, aX V v0)) {ws' : va_W} (hw : ws.set q0 (a, aX V v) = ws') (hd : decode cc pc = .ok (.lastore, 1)) (k : gg p l e R s m args below meth c nL Q cells slots (gW V A H0 ws') lv (pc + 1) rest) : gg p l e R s m args below meth c nL Q cells slots (gW V A H0 ws) lv pc (.long v :: .int (nI 0) :: .ref a :: rest) :=
  g_lastore E q0 1 ha rfl (i := 0) (by decide) (by decide) rfl hd (g_swap q0 (get_set ha) (at_l (fun j hj => by unfold vp_updL; rw [if_pos (by omega)])) (by rw [List.set_set]; exact hw) k)
end GXX

set_option maxHeartbeats 4000000 in
set_option maxRecDepth 100000 in
theorem L_CY_index (l : Launch) {V : gV} {oa : Nat} {ad r1 r2 r3 : Nat → Nat} {ou : Int64} {nY : Nat} {ix bu : Nat → Nat} {np : Nat} {st sr : Nat → Nat} {sx tk : Nat → Nat → Nat} {rn sh sn : Nat → Nat} {yw nw : Nat} {yo ce wo : Nat → Nat} {po ne : Nat → Option Nat} {cs : Nat → Nat} {sv : Nat → Nat → Nat} {mk : Nat} {sp rs : Nat → Int} {bg dp : Nat} (y v : Nat) (hy : y < nY) (hY : nY ≤ 12) (h1 : 500 ≤ v) (h2 : v ≤ 2000) : mWi l y_La_index (w_La_index :: gt) rm_La_index V (wW V oa ad r1 r2 r3 ou nY ix bu np st sr sx tk rn sh sn yw nw yo ce wo po ne cs sv mk sp rs bg dp) [.ref (ad 0), .int (nI y), .int (nI v), .ref oa] (nI 0) (wW V oa ad r1 r2 r3 ((nI (ix y)).toInt64) nY (va_up ix y v) bu np st sr sx tk rn sh sn yw nw yo ce wo po ne cs sv mk sp rs bg dp) 0 0 := by
  intro sz
  refine gMetW (V := V) (As := [.ref (ad 0), .int (nI y), .int (nI v), .ref oa]) (cc := c_La_index) (maxL := 5) (ret := (some .int)) (hh := [(0, 10, 13, 13)]) (by decide) rfl (Nat.le_of_ble_eq_true rfl) (fun a U h => ⟨h.1, h.2.2.2.1⟩) ?_
  intro p e s m below meth c E htab hr_ hlk_ hv_
  refine g_toW (sz := sz) (w := wW V oa ad r1 r2 r3 ou nY ix bu np st sr sx tk rn sh sn yw nw yo ce wo po ne cs sv mk sp rs bg dp) hv_.2.2.1 hv_.2.2.2.2 ?_
  have hA0 : ∀ q : Nat, s.heap.size ≤ q → va_A (wW V oa ad r1 r2 r3 ou nY ix bu np st sr sx tk rn sh sn yw nw yo ce wo po ne cs sv mk sp rs bg dp) sz q := fun q h => Or.inr (by rw [← hv_.2.1]; exact h)
  refine g_aload_n E d_La_index_0 rfl 3 rfl ?_
  refine g_iconst (v := nI 0) E d_La_index_1 (by decide) ?_
  refine g_aload_n E d_La_index_2 rfl 0 rfl ?_
  refine g_iload_n E d_La_index_3 rfl 1 rfl ?_
  refine g_iload_n E d_La_index_4 rfl 2 rfl ?_
  refine gwVi (As := [.int (nI y), .int (nI v)]) (rest := [.int (nI 0), .ref oa]) (w' := wW V oa ad r1 r2 r3 ou nY (va_up ix y v) bu np st sr sx tk rn sh sn yw nw yo ce wo po ne cs sv mk sp rs bg dp) (mc := 0) (ms := 0) E hA0 1 rfl rfl (fi (pre := [(oa, aX V ou)]) (C_CY_index l y v hy hY h1 h2)) (cs_La_7 E rfl rfl ⟨Nat.le_of_ble_eq_true rfl, Nat.le_of_ble_eq_true rfl⟩) rfl rfl (Nat.le_of_ble_eq_true rfl) ⟨Nat.zero_le _, Nat.zero_le _⟩ d_La_index_5 ?_
  refine g_i2l E d_La_index_8 ?_
  refine g_topl rfl ?_
  refine g_stX (ws' := wW V oa ad r1 r2 r3 ((nI (ix y)).toInt64) nY (va_up ix y v) bu np st sr sx tk rn sh sn yw nw yo ce wo po ne cs sv mk sp rs bg dp) E 0 rfl rfl d_La_index_9 ?_
  refine g_goto E 17 d_La_index_10 (by decide) ?_
  refine g_iconst (v := nI 0) E d_La_index_17 (by decide) ?_
  exact g_iret E hr_ hlk_ d_La_index_18 (gq_wi (w1 := fun _ => wW V oa ad r1 r2 r3 ((nI (ix y)).toInt64) nY (va_up ix y v) bu np st sr sx tk rn sh sn yw nw yo ce wo po ne cs sv mk sp rs bg dp) () rfl)

set_option maxHeartbeats 4000000 in
set_option maxRecDepth 100000 in
theorem L_CY_budget (l : Launch) {V : gV} {oa : Nat} {ad r1 r2 r3 : Nat → Nat} {ou : Int64} {nY : Nat} {ix bu : Nat → Nat} {np : Nat} {st sr : Nat → Nat} {sx tk : Nat → Nat → Nat} {rn sh sn : Nat → Nat} {yw nw : Nat} {yo ce wo : Nat → Nat} {po ne : Nat → Option Nat} {cs : Nat → Nat} {sv : Nat → Nat → Nat} {mk : Nat} {sp rs : Nat → Int} {bg dp : Nat} (y v : Nat) (hy : y < nY) (hY : nY ≤ 12) (h2 : v ≤ 1000000000) : mWi l y_La_budget (w_La_budget :: gt) rm_La_budget V (wW V oa ad r1 r2 r3 ou nY ix bu np st sr sx tk rn sh sn yw nw yo ce wo po ne cs sv mk sp rs bg dp) [.ref (ad 0), .int (nI y), .int (nI v), .ref oa] (nI 0) (wW V oa ad r1 r2 r3 ((nI (bu y)).toInt64) nY ix (va_up bu y v) np st sr sx tk rn sh sn yw nw yo ce wo po ne cs sv mk sp rs bg dp) 0 0 := by
  intro sz
  refine gMetW (V := V) (As := [.ref (ad 0), .int (nI y), .int (nI v), .ref oa]) (cc := c_La_budget) (maxL := 5) (ret := (some .int)) (hh := [(0, 10, 13, 13)]) (by decide) rfl (Nat.le_of_ble_eq_true rfl) (fun a U h => ⟨h.1, h.2.2.2.1⟩) ?_
  intro p e s m below meth c E htab hr_ hlk_ hv_
  refine g_toW (sz := sz) (w := wW V oa ad r1 r2 r3 ou nY ix bu np st sr sx tk rn sh sn yw nw yo ce wo po ne cs sv mk sp rs bg dp) hv_.2.2.1 hv_.2.2.2.2 ?_
  have hA0 : ∀ q : Nat, s.heap.size ≤ q → va_A (wW V oa ad r1 r2 r3 ou nY ix bu np st sr sx tk rn sh sn yw nw yo ce wo po ne cs sv mk sp rs bg dp) sz q := fun q h => Or.inr (by rw [← hv_.2.1]; exact h)
  refine g_aload_n E d_La_budget_0 rfl 3 rfl ?_
  refine g_iconst (v := nI 0) E d_La_budget_1 (by decide) ?_
  refine g_aload_n E d_La_budget_2 rfl 0 rfl ?_
  refine g_iload_n E d_La_budget_3 rfl 1 rfl ?_
  refine g_iload_n E d_La_budget_4 rfl 2 rfl ?_
  refine gwVi (As := [.int (nI y), .int (nI v)]) (rest := [.int (nI 0), .ref oa]) (w' := wW V oa ad r1 r2 r3 ou nY ix (va_up bu y v) np st sr sx tk rn sh sn yw nw yo ce wo po ne cs sv mk sp rs bg dp) (mc := 0) (ms := 0) E hA0 1 rfl rfl (fi (pre := [(oa, aX V ou)]) (C_CY_budget l y v hy hY h2)) (cs_La_15 E rfl rfl ⟨Nat.le_of_ble_eq_true rfl, Nat.le_of_ble_eq_true rfl⟩) rfl rfl (Nat.le_of_ble_eq_true rfl) ⟨Nat.zero_le _, Nat.zero_le _⟩ d_La_budget_5 ?_
  refine g_i2l E d_La_budget_8 ?_
  refine g_topl rfl ?_
  refine g_stX (ws' := wW V oa ad r1 r2 r3 ((nI (bu y)).toInt64) nY ix (va_up bu y v) np st sr sx tk rn sh sn yw nw yo ce wo po ne cs sv mk sp rs bg dp) E 0 rfl rfl d_La_budget_9 ?_
  refine g_goto E 17 d_La_budget_10 (by decide) ?_
  refine g_iconst (v := nI 0) E d_La_budget_17 (by decide) ?_
  exact g_iret E hr_ hlk_ d_La_budget_18 (gq_wi (w1 := fun _ => wW V oa ad r1 r2 r3 ((nI (bu y)).toInt64) nY ix (va_up bu y v) np st sr sx tk rn sh sn yw nw yo ce wo po ne cs sv mk sp rs bg dp) () rfl)

set_option maxHeartbeats 4000000 in
set_option maxRecDepth 100000 in
theorem L_CY_part (l : Launch) {V : gV} {oa : Nat} {ad r1 r2 r3 : Nat → Nat} {ou : Int64} {nY : Nat} {ix bu : Nat → Nat} {np : Nat} {st sr : Nat → Nat} {sx tk : Nat → Nat → Nat} {rn sh sn : Nat → Nat} {yw nw : Nat} {yo ce wo : Nat → Nat} {po ne : Nat → Option Nat} {cs : Nat → Nat} {sv : Nat → Nat → Nat} {mk : Nat} {sp rs : Nat → Int} {bg dp : Nat} (k r : Nat) (h1 : 2 ≤ k) (h2 : k ≤ 4) (h3 : r < k) (hnp : np < 12) : mWi l y_La_part (w_La_part :: gt) rm_La_part V (wW V oa ad r1 r2 r3 ou nY ix bu np st sr sx tk rn sh sn yw nw yo ce wo po ne cs sv mk sp rs bg dp) [.ref (ad 0), .int (nI k), .int (nI r), .ref oa] (nI 0) (wW V oa ad r1 r2 r3 ((nI np).toInt64) nY ix bu (np + 1) (va_up st np k) (va_up sr np r) (va_up sx np (dgN (sx np) k)) tk rn sh sn yw nw yo ce wo po ne cs sv mk sp rs bg dp) 0 0 := by
  intro sz
  refine gMetW (V := V) (As := [.ref (ad 0), .int (nI k), .int (nI r), .ref oa]) (cc := c_La_part) (maxL := 5) (ret := (some .int)) (hh := [(0, 10, 13, 13), (0, 10, 17, 21)]) (by decide) rfl (Nat.le_of_ble_eq_true rfl) (fun a U h => ⟨h.1, h.2.2.2.1⟩) ?_
  intro p e s m below meth c E htab hr_ hlk_ hv_
  refine g_toW (sz := sz) (w := wW V oa ad r1 r2 r3 ou nY ix bu np st sr sx tk rn sh sn yw nw yo ce wo po ne cs sv mk sp rs bg dp) hv_.2.2.1 hv_.2.2.2.2 ?_
  have hA0 : ∀ q : Nat, s.heap.size ≤ q → va_A (wW V oa ad r1 r2 r3 ou nY ix bu np st sr sx tk rn sh sn yw nw yo ce wo po ne cs sv mk sp rs bg dp) sz q := fun q h => Or.inr (by rw [← hv_.2.1]; exact h)
  refine g_aload_n E d_La_part_0 rfl 3 rfl ?_
  refine g_iconst (v := nI 0) E d_La_part_1 (by decide) ?_
  refine g_aload_n E d_La_part_2 rfl 0 rfl ?_
  refine g_iload_n E d_La_part_3 rfl 1 rfl ?_
  refine g_iload_n E d_La_part_4 rfl 2 rfl ?_
  refine gwVi (As := [.int (nI k), .int (nI r)]) (rest := [.int (nI 0), .ref oa]) (w' := wW V oa ad r1 r2 r3 ou nY ix bu (np + 1) (va_up st np k) (va_up sr np r) (va_up sx np (dgN (sx np) k)) tk rn sh sn yw nw yo ce wo po ne cs sv mk sp rs bg dp) (mc := 0) (ms := 0) E hA0 1 rfl rfl (fi (pre := [(oa, aX V ou)]) (C_CY_part l k r h1 h2 h3 hnp)) (cs_La_18 E rfl rfl ⟨Nat.le_of_ble_eq_true rfl, Nat.le_of_ble_eq_true rfl⟩) rfl rfl (Nat.le_of_ble_eq_true rfl) ⟨Nat.zero_le _, Nat.zero_le _⟩ d_La_part_5 ?_
  refine g_i2l E d_La_part_8 ?_
  refine g_topl rfl ?_
  refine g_stX (ws' := wW V oa ad r1 r2 r3 ((nI np).toInt64) nY ix bu (np + 1) (va_up st np k) (va_up sr np r) (va_up sx np (dgN (sx np) k)) tk rn sh sn yw nw yo ce wo po ne cs sv mk sp rs bg dp) E 0 rfl rfl d_La_part_9 ?_
  refine g_goto E 21 d_La_part_10 (by decide) ?_
  refine g_iconst (v := nI 0) E d_La_part_21 (by decide) ?_
  exact g_iret E hr_ hlk_ d_La_part_22 (gq_wi (w1 := fun _ => wW V oa ad r1 r2 r3 ((nI np).toInt64) nY ix bu (np + 1) (va_up st np k) (va_up sr np r) (va_up sx np (dgN (sx np) k)) tk rn sh sn yw nw yo ce wo po ne cs sv mk sp rs bg dp) () rfl)

set_option maxHeartbeats 4000000 in
set_option maxRecDepth 100000 in
theorem L_CY_moves (l : Launch) {V : gV} {oa : Nat} {ad r1 r2 r3 : Nat → Nat} {ou : Int64} {nY : Nat} {ix bu : Nat → Nat} {np : Nat} {st sr : Nat → Nat} {sx tk : Nat → Nat → Nat} {rn sh sn : Nat → Nat} {yw nw : Nat} {yo ce wo : Nat → Nat} {po ne : Nat → Option Nat} {cs : Nat → Nat} {sv : Nat → Nat → Nat} {mk : Nat} {sp rs : Nat → Int} {bg dp : Nat} (i a b v : Nat) (hi : i < np) (hnp : np ≤ 12) (hs : st i ≤ 4) (ha : a < st i) (hb : b < st i) (hab : a ≠ b) (hv16 : v ≤ 16) (hsx : v ≤ sx i (a * 4 + a) + sx i (a * 4 + b)) (hx : ∀ i j, sx i j ≤ 16) : mWi l y_La_moves (w_La_moves :: gt) rm_La_moves V (wW V oa ad r1 r2 r3 ou nY ix bu np st sr sx tk rn sh sn yw nw yo ce wo po ne cs sv mk sp rs bg dp) [.ref (ad 0), .int (nI i), .int (nI a), .int (nI b), .int (nI v), .ref oa] (nI 0) (wW V oa ad r1 r2 r3 ((nI (sx i (a * 4 + b))).toInt64) nY ix bu np st sr (mUp (mUp sx i (a * 4 + b) v) i (a * 4 + a) (sx i (a * 4 + a) + sx i (a * 4 + b) - v)) tk rn sh sn yw nw yo ce wo po ne cs sv mk sp rs bg dp) 0 0 := by
  intro sz
  refine gMetW (V := V) (As := [.ref (ad 0), .int (nI i), .int (nI a), .int (nI b), .int (nI v), .ref oa]) (cc := c_La_moves) (maxL := 7) (ret := (some .int)) (hh := [(0, 14, 17, 13)]) (by decide) rfl (Nat.le_of_ble_eq_true rfl) (fun a U h => ⟨h.1, h.2.2.2.1⟩) ?_
  intro p e s m below meth c E htab hr_ hlk_ hv_
  refine g_toW (sz := sz) (w := wW V oa ad r1 r2 r3 ou nY ix bu np st sr sx tk rn sh sn yw nw yo ce wo po ne cs sv mk sp rs bg dp) hv_.2.2.1 hv_.2.2.2.2 ?_
  have hA0 : ∀ q : Nat, s.heap.size ≤ q → va_A (wW V oa ad r1 r2 r3 ou nY ix bu np st sr sx tk rn sh sn yw nw yo ce wo po ne cs sv mk sp rs bg dp) sz q := fun q h => Or.inr (by rw [← hv_.2.1]; exact h)
  refine g_aload E d_La_moves_0 5 rfl ?_
  refine g_iconst (v := nI 0) E d_La_moves_2 (by decide) ?_
  refine g_aload_n E d_La_moves_3 rfl 0 rfl ?_
  refine g_iload_n E d_La_moves_4 rfl 1 rfl ?_
  refine g_iload_n E d_La_moves_5 rfl 2 rfl ?_
  refine g_iload_n E d_La_moves_6 rfl 3 rfl ?_
  refine g_iload E d_La_moves_7 4 rfl ?_
  refine gwVi (As := [.int (nI i), .int (nI a), .int (nI b), .int (nI v)]) (rest := [.int (nI 0), .ref oa]) (w' := wW V oa ad r1 r2 r3 ou nY ix bu np st sr (mUp (mUp sx i (a * 4 + b) v) i (a * 4 + a) (sx i (a * 4 + a) + sx i (a * 4 + b) - v)) tk rn sh sn yw nw yo ce wo po ne cs sv mk sp rs bg dp) (mc := 0) (ms := 0) E hA0 1 rfl rfl (fi (pre := [(oa, aX V ou)]) (C_CY_moves l i a b v hi hnp hs ha hb hab hv16 hsx hx)) (cs_La_23 E rfl rfl ⟨Nat.le_of_ble_eq_true rfl, Nat.le_of_ble_eq_true rfl⟩) rfl rfl (Nat.le_of_ble_eq_true rfl) ⟨Nat.zero_le _, Nat.zero_le _⟩ d_La_moves_9 ?_
  refine g_i2l E d_La_moves_12 ?_
  refine g_topl rfl ?_
  refine g_stX (ws' := wW V oa ad r1 r2 r3 ((nI (sx i (a * 4 + b))).toInt64) nY ix bu np st sr (mUp (mUp sx i (a * 4 + b) v) i (a * 4 + a) (sx i (a * 4 + a) + sx i (a * 4 + b) - v)) tk rn sh sn yw nw yo ce wo po ne cs sv mk sp rs bg dp) E 0 rfl rfl d_La_moves_13 ?_
  refine g_goto E 21 d_La_moves_14 (by decide) ?_
  refine g_iconst (v := nI 0) E d_La_moves_21 (by decide) ?_
  exact g_iret E hr_ hlk_ d_La_moves_22 (gq_wi (w1 := fun _ => wW V oa ad r1 r2 r3 ((nI (sx i (a * 4 + b))).toInt64) nY ix bu np st sr (mUp (mUp sx i (a * 4 + b) v) i (a * 4 + a) (sx i (a * 4 + a) + sx i (a * 4 + b) - v)) tk rn sh sn yw nw yo ce wo po ne cs sv mk sp rs bg dp) () rfl)

set_option maxHeartbeats 4000000 in
set_option maxRecDepth 100000 in
theorem L_CY_care (l : Launch) {V : gV} {oa : Nat} {ad r1 r2 r3 : Nat → Nat} {ou : Int64} {nY : Nat} {ix bu : Nat → Nat} {np : Nat} {st sr : Nat → Nat} {sx tk : Nat → Nat → Nat} {rn sh sn : Nat → Nat} {yw nw : Nat} {yo ce wo : Nat → Nat} {po ne : Nat → Option Nat} {cs : Nat → Nat} {sv : Nat → Nat → Nat} {mk : Nat} {sp rs : Nat → Int} {bg dp : Nat} (i a v : Nat) (hi : i < np) (hnp : np ≤ 12) (hs : st i ≤ 4) (ha : a < st i) (h2 : v ≤ 1000) : mWi l y_La_care (w_La_care :: gt) rm_La_care V (wW V oa ad r1 r2 r3 ou nY ix bu np st sr sx tk rn sh sn yw nw yo ce wo po ne cs sv mk sp rs bg dp) [.ref (ad 0), .int (nI i), .int (nI a), .int (nI v), .ref oa] (nI 0) (wW V oa ad r1 r2 r3 ((nI (tk i a)).toInt64) nY ix bu np st sr sx (mUp tk i a v) rn sh sn yw nw yo ce wo po ne cs sv mk sp rs bg dp) 0 0 := by
  intro sz
  refine gMetW (V := V) (As := [.ref (ad 0), .int (nI i), .int (nI a), .int (nI v), .ref oa]) (cc := c_La_care) (maxL := 6) (ret := (some .int)) (hh := [(0, 12, 15, 13)]) (by decide) rfl (Nat.le_of_ble_eq_true rfl) (fun a U h => ⟨h.1, h.2.2.2.1⟩) ?_
  intro p e s m below meth c E htab hr_ hlk_ hv_
  refine g_toW (sz := sz) (w := wW V oa ad r1 r2 r3 ou nY ix bu np st sr sx tk rn sh sn yw nw yo ce wo po ne cs sv mk sp rs bg dp) hv_.2.2.1 hv_.2.2.2.2 ?_
  have hA0 : ∀ q : Nat, s.heap.size ≤ q → va_A (wW V oa ad r1 r2 r3 ou nY ix bu np st sr sx tk rn sh sn yw nw yo ce wo po ne cs sv mk sp rs bg dp) sz q := fun q h => Or.inr (by rw [← hv_.2.1]; exact h)
  refine g_aload E d_La_care_0 4 rfl ?_
  refine g_iconst (v := nI 0) E d_La_care_2 (by decide) ?_
  refine g_aload_n E d_La_care_3 rfl 0 rfl ?_
  refine g_iload_n E d_La_care_4 rfl 1 rfl ?_
  refine g_iload_n E d_La_care_5 rfl 2 rfl ?_
  refine g_iload_n E d_La_care_6 rfl 3 rfl ?_
  refine gwVi (As := [.int (nI i), .int (nI a), .int (nI v)]) (rest := [.int (nI 0), .ref oa]) (w' := wW V oa ad r1 r2 r3 ou nY ix bu np st sr sx (mUp tk i a v) rn sh sn yw nw yo ce wo po ne cs sv mk sp rs bg dp) (mc := 0) (ms := 0) E hA0 1 rfl rfl (fi (pre := [(oa, aX V ou)]) (C_CY_care l i a v hi hnp hs ha h2)) (cs_La_27 E rfl rfl ⟨Nat.le_of_ble_eq_true rfl, Nat.le_of_ble_eq_true rfl⟩) rfl rfl (Nat.le_of_ble_eq_true rfl) ⟨Nat.zero_le _, Nat.zero_le _⟩ d_La_care_7 ?_
  refine g_i2l E d_La_care_10 ?_
  refine g_topl rfl ?_
  refine g_stX (ws' := wW V oa ad r1 r2 r3 ((nI (tk i a)).toInt64) nY ix bu np st sr sx (mUp tk i a v) rn sh sn yw nw yo ce wo po ne cs sv mk sp rs bg dp) E 0 rfl rfl d_La_care_11 ?_
  refine g_goto E 19 d_La_care_12 (by decide) ?_
  refine g_iconst (v := nI 0) E d_La_care_19 (by decide) ?_
  exact g_iret E hr_ hlk_ d_La_care_20 (gq_wi (w1 := fun _ => wW V oa ad r1 r2 r3 ((nI (tk i a)).toInt64) nY ix bu np st sr sx (mUp tk i a v) rn sh sn yw nw yo ce wo po ne cs sv mk sp rs bg dp) () rfl)

set_option maxHeartbeats 4000000 in
set_option maxRecDepth 100000 in
theorem L_CY_share (l : Launch) {V : gV} {oa : Nat} {ad r1 r2 r3 : Nat → Nat} {ou : Int64} {nY : Nat} {ix bu : Nat → Nat} {np : Nat} {st sr : Nat → Nat} {sx tk : Nat → Nat → Nat} {rn sh sn : Nat → Nat} {yw nw : Nat} {yo ce wo : Nat → Nat} {po ne : Nat → Option Nat} {cs : Nat → Nat} {sv : Nat → Nat → Nat} {mk : Nat} {sp rs : Nat → Int} {bg dp : Nat} (i a y : Nat) (hi : i < np) (hnp : np ≤ 12) (hs : st i ≤ 4) (ha : a < st i) (hy : y < nY) (hY : nY ≤ 12) (hr : sr i < 4) (hn : rn i < 4096) (hx : ∀ i j, sx i j ≤ 16) : mWi l y_La_share (w_La_share :: gt) rm_La_share V (wW V oa ad r1 r2 r3 ou nY ix bu np st sr sx tk rn sh sn yw nw yo ce wo po ne cs sv mk sp rs bg dp) [.ref (ad 0), .int (nI i), .int (nI a), .int (nI y), .ref oa] (nI 0) (wW V oa ad r1 r2 r3 (lN ((eY (sr i) (sx i) (st i) (rn i) sh sn yw (y + 1)).1 a)) nY ix bu np st sr sx tk rn ((eY (sr i) (sx i) (st i) (rn i) sh sn yw (y + 1)).1) ((eY (sr i) (sx i) (st i) (rn i) sh sn yw (y + 1)).2.2) ((eY (sr i) (sx i) (st i) (rn i) sh sn yw (y + 1)).2.1) nw yo ce wo po ne cs sv mk sp rs bg dp) 0 0 := by
  intro sz
  refine gMetW (V := V) (As := [.ref (ad 0), .int (nI i), .int (nI a), .int (nI y), .ref oa]) (cc := c_La_share) (maxL := 6) (ret := (some .int)) (hh := [(0, 11, 14, 13)]) (by decide) rfl (Nat.le_of_ble_eq_true rfl) (fun a U h => ⟨h.1, h.2.2.2.1⟩) ?_
  intro p e s m below meth c E htab hr_ hlk_ hv_
  refine g_toW (sz := sz) (w := wW V oa ad r1 r2 r3 ou nY ix bu np st sr sx tk rn sh sn yw nw yo ce wo po ne cs sv mk sp rs bg dp) hv_.2.2.1 hv_.2.2.2.2 ?_
  have hA0 : ∀ q : Nat, s.heap.size ≤ q → va_A (wW V oa ad r1 r2 r3 ou nY ix bu np st sr sx tk rn sh sn yw nw yo ce wo po ne cs sv mk sp rs bg dp) sz q := fun q h => Or.inr (by rw [← hv_.2.1]; exact h)
  refine g_aload E d_La_share_0 4 rfl ?_
  refine g_iconst (v := nI 0) E d_La_share_2 (by decide) ?_
  refine g_aload_n E d_La_share_3 rfl 0 rfl ?_
  refine g_iload_n E d_La_share_4 rfl 1 rfl ?_
  refine g_iload_n E d_La_share_5 rfl 2 rfl ?_
  refine g_iload_n E d_La_share_6 rfl 3 rfl ?_
  refine gwVl (As := [.int (nI i), .int (nI a), .int (nI y)]) (rest := [.int (nI 0), .ref oa]) (w' := wW V oa ad r1 r2 r3 ou nY ix bu np st sr sx tk rn ((eY (sr i) (sx i) (st i) (rn i) sh sn yw (y + 1)).1) ((eY (sr i) (sx i) (st i) (rn i) sh sn yw (y + 1)).2.2) ((eY (sr i) (sx i) (st i) (rn i) sh sn yw (y + 1)).2.1) nw yo ce wo po ne cs sv mk sp rs bg dp) (mc := 0) (ms := 0) E hA0 1 rfl rfl (fl (pre := [(oa, aX V ou)]) (C_CY_share l i a y hi hnp hs ha hy hY hr hn hx)) (cs_La_31 E rfl rfl ⟨Nat.le_of_ble_eq_true rfl, Nat.le_of_ble_eq_true rfl⟩) rfl rfl (Nat.le_of_ble_eq_true rfl) ⟨Nat.zero_le _, Nat.zero_le _⟩ d_La_share_7 ?_
  refine g_stX (ws' := wW V oa ad r1 r2 r3 (lN ((eY (sr i) (sx i) (st i) (rn i) sh sn yw (y + 1)).1 a)) nY ix bu np st sr sx tk rn ((eY (sr i) (sx i) (st i) (rn i) sh sn yw (y + 1)).1) ((eY (sr i) (sx i) (st i) (rn i) sh sn yw (y + 1)).2.2) ((eY (sr i) (sx i) (st i) (rn i) sh sn yw (y + 1)).2.1) nw yo ce wo po ne cs sv mk sp rs bg dp) E 0 rfl rfl d_La_share_10 ?_
  refine g_goto E 18 d_La_share_11 (by decide) ?_
  refine g_iconst (v := nI 0) E d_La_share_18 (by decide) ?_
  exact g_iret E hr_ hlk_ d_La_share_19 (gq_wi (w1 := fun _ => wW V oa ad r1 r2 r3 (lN ((eY (sr i) (sx i) (st i) (rn i) sh sn yw (y + 1)).1 a)) nY ix bu np st sr sx tk rn ((eY (sr i) (sx i) (st i) (rn i) sh sn yw (y + 1)).1) ((eY (sr i) (sx i) (st i) (rn i) sh sn yw (y + 1)).2.2) ((eY (sr i) (sx i) (st i) (rn i) sh sn yw (y + 1)).2.1) nw yo ce wo po ne cs sv mk sp rs bg dp) () rfl)

set_option maxHeartbeats 4000000 in
set_option maxRecDepth 100000 in
theorem L_CY_cares (l : Launch) {V : gV} {oa : Nat} {ad r1 r2 r3 : Nat → Nat} {ou : Int64} {nY : Nat} {ix bu : Nat → Nat} {np : Nat} {st sr : Nat → Nat} {sx tk : Nat → Nat → Nat} {rn sh sn : Nat → Nat} {yw nw : Nat} {yo ce wo : Nat → Nat} {po ne : Nat → Option Nat} {cs : Nat → Nat} {sv : Nat → Nat → Nat} {mk : Nat} {sp rs : Nat → Int} {bg dp : Nat} (i y : Nat) (hi : i < np) (hnp : np ≤ 12) (hs : st i ≤ 4) (hy : y < nY) (hY : nY ≤ 12) (hr : sr i < 4) (hn : rn i < 4096) (hx : ∀ i j, sx i j ≤ 16) (hsi : sr i < st i) (hM : ∀ a, a < st i → sumN (fun j => sx i (a * 4 + j)) (st i) = 16) (ht : ∀ i j, tk i j ≤ 1000) (hix : ∀ y, ix y ≤ 2000) : mWi l y_La_cares (w_La_cares :: gt) rm_La_cares V (wW V oa ad r1 r2 r3 ou nY ix bu np st sr sx tk rn sh sn yw nw yo ce wo po ne cs sv mk sp rs bg dp) [.ref (ad 0), .int (nI i), .int (nI y), .ref oa] (nI 0) (wW V oa ad r1 r2 r3 ((nI (cY ix st sr sx tk rn i y)).toInt64) nY ix bu np st sr sx tk rn ((eY (sr i) (sx i) (st i) (rn i) sh sn yw (y + 1)).1) ((eY (sr i) (sx i) (st i) (rn i) sh sn yw (y + 1)).2.2) ((eY (sr i) (sx i) (st i) (rn i) sh sn yw (y + 1)).2.1) nw yo ce wo po ne cs sv mk sp rs bg dp) 0 0 := by
  intro sz
  refine gMetW (V := V) (As := [.ref (ad 0), .int (nI i), .int (nI y), .ref oa]) (cc := c_La_cares) (maxL := 5) (ret := (some .int)) (hh := [(0, 10, 13, 13)]) (by decide) rfl (Nat.le_of_ble_eq_true rfl) (fun a U h => ⟨h.1, h.2.2.2.1⟩) ?_
  intro p e s m below meth c E htab hr_ hlk_ hv_
  refine g_toW (sz := sz) (w := wW V oa ad r1 r2 r3 ou nY ix bu np st sr sx tk rn sh sn yw nw yo ce wo po ne cs sv mk sp rs bg dp) hv_.2.2.1 hv_.2.2.2.2 ?_
  have hA0 : ∀ q : Nat, s.heap.size ≤ q → va_A (wW V oa ad r1 r2 r3 ou nY ix bu np st sr sx tk rn sh sn yw nw yo ce wo po ne cs sv mk sp rs bg dp) sz q := fun q h => Or.inr (by rw [← hv_.2.1]; exact h)
  refine g_aload_n E d_La_cares_0 rfl 3 rfl ?_
  refine g_iconst (v := nI 0) E d_La_cares_1 (by decide) ?_
  refine g_aload_n E d_La_cares_2 rfl 0 rfl ?_
  refine g_iload_n E d_La_cares_3 rfl 1 rfl ?_
  refine g_iload_n E d_La_cares_4 rfl 2 rfl ?_
  refine gwVi (As := [.int (nI i), .int (nI y)]) (rest := [.int (nI 0), .ref oa]) (w' := wW V oa ad r1 r2 r3 ou nY ix bu np st sr sx tk rn ((eY (sr i) (sx i) (st i) (rn i) sh sn yw (y + 1)).1) ((eY (sr i) (sx i) (st i) (rn i) sh sn yw (y + 1)).2.2) ((eY (sr i) (sx i) (st i) (rn i) sh sn yw (y + 1)).2.1) nw yo ce wo po ne cs sv mk sp rs bg dp) (mc := 0) (ms := 0) E hA0 1 rfl rfl (fi (pre := [(oa, aX V ou)]) (C_CY_cares l i y hi hnp hs hy hY hr hn hx hsi hM ht hix)) (cs_La_35 E rfl rfl ⟨Nat.le_of_ble_eq_true rfl, Nat.le_of_ble_eq_true rfl⟩) rfl rfl (Nat.le_of_ble_eq_true rfl) ⟨Nat.zero_le _, Nat.zero_le _⟩ d_La_cares_5 ?_
  refine g_i2l E d_La_cares_8 ?_
  refine g_topl rfl ?_
  refine g_stX (ws' := wW V oa ad r1 r2 r3 ((nI (cY ix st sr sx tk rn i y)).toInt64) nY ix bu np st sr sx tk rn ((eY (sr i) (sx i) (st i) (rn i) sh sn yw (y + 1)).1) ((eY (sr i) (sx i) (st i) (rn i) sh sn yw (y + 1)).2.2) ((eY (sr i) (sx i) (st i) (rn i) sh sn yw (y + 1)).2.1) nw yo ce wo po ne cs sv mk sp rs bg dp) E 0 rfl rfl d_La_cares_9 ?_
  refine g_goto E 17 d_La_cares_10 (by decide) ?_
  refine g_iconst (v := nI 0) E d_La_cares_17 (by decide) ?_
  exact g_iret E hr_ hlk_ d_La_cares_18 (gq_wi (w1 := fun _ => wW V oa ad r1 r2 r3 ((nI (cY ix st sr sx tk rn i y)).toInt64) nY ix bu np st sr sx tk rn ((eY (sr i) (sx i) (st i) (rn i) sh sn yw (y + 1)).1) ((eY (sr i) (sx i) (st i) (rn i) sh sn yw (y + 1)).2.2) ((eY (sr i) (sx i) (st i) (rn i) sh sn yw (y + 1)).2.1) nw yo ce wo po ne cs sv mk sp rs bg dp) () rfl)

set_option maxHeartbeats 4000000 in
set_option maxRecDepth 100000 in
theorem L_CY_most (l : Launch) {V : gV} {oa : Nat} {ad r1 r2 r3 : Nat → Nat} {ou : Int64} {nY : Nat} {ix bu : Nat → Nat} {np : Nat} {st sr : Nat → Nat} {sx tk : Nat → Nat → Nat} {rn sh sn : Nat → Nat} {yw nw : Nat} {yo ce wo : Nat → Nat} {po ne : Nat → Option Nat} {cs : Nat → Nat} {sv : Nat → Nat → Nat} {mk : Nat} {sp rs : Nat → Int} {bg dp : Nat} (i y : Nat) (hi : i < np) (hnp : np ≤ 12) (hs : st i ≤ 4) (hs2 : 2 ≤ st i) (hy : y < nY) (hY : nY ≤ 12) (hr : sr i < 4) (hn : rn i < 4096) (hx : ∀ i j, sx i j ≤ 16) (hb : ∀ a, a < 4 → (eY (sr i) (sx i) (st i) (rn i) sh sn yw (y + 1)).1 a < 2 ^ 62) : mWi l y_La_most (w_La_most :: gt) rm_La_most V (wW V oa ad r1 r2 r3 ou nY ix bu np st sr sx tk rn sh sn yw nw yo ce wo po ne cs sv mk sp rs bg dp) [.ref (ad 0), .int (nI i), .int (nI y), .ref oa] (nI 0) (wW V oa ad r1 r2 r3 ((nI (grS (eY (sr i) (sx i) (st i) (rn i) sh sn yw (y + 1)).1 (st i - 1))).toInt64) nY ix bu np st sr sx tk rn ((eY (sr i) (sx i) (st i) (rn i) sh sn yw (y + 1)).1) ((eY (sr i) (sx i) (st i) (rn i) sh sn yw (y + 1)).2.2) ((eY (sr i) (sx i) (st i) (rn i) sh sn yw (y + 1)).2.1) nw yo ce wo po ne cs sv mk sp rs bg dp) 0 0 := by
  intro sz
  refine gMetW (V := V) (As := [.ref (ad 0), .int (nI i), .int (nI y), .ref oa]) (cc := c_La_most) (maxL := 5) (ret := (some .int)) (hh := [(0, 10, 13, 13)]) (by decide) rfl (Nat.le_of_ble_eq_true rfl) (fun a U h => ⟨h.1, h.2.2.2.1⟩) ?_
  intro p e s m below meth c E htab hr_ hlk_ hv_
  refine g_toW (sz := sz) (w := wW V oa ad r1 r2 r3 ou nY ix bu np st sr sx tk rn sh sn yw nw yo ce wo po ne cs sv mk sp rs bg dp) hv_.2.2.1 hv_.2.2.2.2 ?_
  have hA0 : ∀ q : Nat, s.heap.size ≤ q → va_A (wW V oa ad r1 r2 r3 ou nY ix bu np st sr sx tk rn sh sn yw nw yo ce wo po ne cs sv mk sp rs bg dp) sz q := fun q h => Or.inr (by rw [← hv_.2.1]; exact h)
  refine g_aload_n E d_La_most_0 rfl 3 rfl ?_
  refine g_iconst (v := nI 0) E d_La_most_1 (by decide) ?_
  refine g_aload_n E d_La_most_2 rfl 0 rfl ?_
  refine g_iload_n E d_La_most_3 rfl 1 rfl ?_
  refine g_iload_n E d_La_most_4 rfl 2 rfl ?_
  refine gwVi (As := [.int (nI i), .int (nI y)]) (rest := [.int (nI 0), .ref oa]) (w' := wW V oa ad r1 r2 r3 ou nY ix bu np st sr sx tk rn ((eY (sr i) (sx i) (st i) (rn i) sh sn yw (y + 1)).1) ((eY (sr i) (sx i) (st i) (rn i) sh sn yw (y + 1)).2.2) ((eY (sr i) (sx i) (st i) (rn i) sh sn yw (y + 1)).2.1) nw yo ce wo po ne cs sv mk sp rs bg dp) (mc := 0) (ms := 0) E hA0 1 rfl rfl (fi (pre := [(oa, aX V ou)]) (C_CY_most l i y hi hnp hs hs2 hy hY hr hn hx hb)) (cs_La_38 E rfl rfl ⟨Nat.le_of_ble_eq_true rfl, Nat.le_of_ble_eq_true rfl⟩) rfl rfl (Nat.le_of_ble_eq_true rfl) ⟨Nat.zero_le _, Nat.zero_le _⟩ d_La_most_5 ?_
  refine g_i2l E d_La_most_8 ?_
  refine g_topl rfl ?_
  refine g_stX (ws' := wW V oa ad r1 r2 r3 ((nI (grS (eY (sr i) (sx i) (st i) (rn i) sh sn yw (y + 1)).1 (st i - 1))).toInt64) nY ix bu np st sr sx tk rn ((eY (sr i) (sx i) (st i) (rn i) sh sn yw (y + 1)).1) ((eY (sr i) (sx i) (st i) (rn i) sh sn yw (y + 1)).2.2) ((eY (sr i) (sx i) (st i) (rn i) sh sn yw (y + 1)).2.1) nw yo ce wo po ne cs sv mk sp rs bg dp) E 0 rfl rfl d_La_most_9 ?_
  refine g_goto E 17 d_La_most_10 (by decide) ?_
  refine g_iconst (v := nI 0) E d_La_most_17 (by decide) ?_
  exact g_iret E hr_ hlk_ d_La_most_18 (gq_wi (w1 := fun _ => wW V oa ad r1 r2 r3 ((nI (grS (eY (sr i) (sx i) (st i) (rn i) sh sn yw (y + 1)).1 (st i - 1))).toInt64) nY ix bu np st sr sx tk rn ((eY (sr i) (sx i) (st i) (rn i) sh sn yw (y + 1)).1) ((eY (sr i) (sx i) (st i) (rn i) sh sn yw (y + 1)).2.2) ((eY (sr i) (sx i) (st i) (rn i) sh sn yw (y + 1)).2.1) nw yo ce wo po ne cs sv mk sp rs bg dp) () rfl)

set_option maxHeartbeats 4000000 in
set_option maxRecDepth 100000 in
theorem L_CY_work_n (l : Launch) {V : gV} {oa : Nat} {ad r1 r2 r3 : Nat → Nat} {ou : Int64} {nY : Nat} {ix bu : Nat → Nat} {np : Nat} {st sr : Nat → Nat} {sx tk : Nat → Nat → Nat} {rn sh sn : Nat → Nat} {yw nw : Nat} {yo ce wo : Nat → Nat} {po ne : Nat → Option Nat} {cs : Nat → Nat} {sv : Nat → Nat → Nat} {mk : Nat} {sp rs : Nat → Int} {bg dp : Nat} (y k v : Nat)  (hy : y < nY) (hY : nY ≤ 12) (h1 : 1 ≤ k) (h2 : k ≤ 1000000) (h3 : v ≤ 1000000) (hnw : nw < 10) : mWi l y_La_work (w_La_work :: gt) rm_La_work V (wW V oa ad r1 r2 r3 ou nY ix bu np st sr sx tk rn sh sn yw nw yo ce wo po ne cs sv mk sp rs bg dp) [.ref (ad 0), .int (nI y), .int (nI k), .int (nI v), .int (oN none), .ref oa] (nI 0) (wW V oa ad r1 r2 r3 ((nI nw).toInt64) nY ix bu np st sr sx tk rn sh sn yw (nw + 1) (va_up yo nw y) (va_up ce nw k) (va_up wo nw v) (va_up po nw none) (va_up ne nw none) cs sv mk sp rs bg dp) 0 0 := by
  intro sz
  refine gMetW (V := V) (As := [.ref (ad 0), .int (nI y), .int (nI k), .int (nI v), .int (oN none), .ref oa]) (cc := c_La_work) (maxL := 7) (ret := (some .int)) (hh := [(0, 14, 17, 13), (0, 14, 21, 21)]) (by decide) rfl (Nat.le_of_ble_eq_true rfl) (fun a U h => ⟨h.1, h.2.2.2.1⟩) ?_
  intro p e s m below meth c E htab hr_ hlk_ hv_
  refine g_toW (sz := sz) (w := wW V oa ad r1 r2 r3 ou nY ix bu np st sr sx tk rn sh sn yw nw yo ce wo po ne cs sv mk sp rs bg dp) hv_.2.2.1 hv_.2.2.2.2 ?_
  have hA0 : ∀ q : Nat, s.heap.size ≤ q → va_A (wW V oa ad r1 r2 r3 ou nY ix bu np st sr sx tk rn sh sn yw nw yo ce wo po ne cs sv mk sp rs bg dp) sz q := fun q h => Or.inr (by rw [← hv_.2.1]; exact h)
  refine g_aload E d_La_work_0 5 rfl ?_
  refine g_iconst (v := nI 0) E d_La_work_2 (by decide) ?_
  refine g_aload_n E d_La_work_3 rfl 0 rfl ?_
  refine g_iload_n E d_La_work_4 rfl 1 rfl ?_
  refine g_iload_n E d_La_work_5 rfl 2 rfl ?_
  refine g_iload_n E d_La_work_6 rfl 3 rfl ?_
  refine g_iload E d_La_work_7 4 rfl ?_
  refine gwVi (As := [.int (nI y), .int (nI k), .int (nI v), .int (oN none)]) (rest := [.int (nI 0), .ref oa]) (w' := wW V oa ad r1 r2 r3 ou nY ix bu np st sr sx tk rn sh sn yw (nw + 1) (va_up yo nw y) (va_up ce nw k) (va_up wo nw v) (va_up po nw none) (va_up ne nw none) cs sv mk sp rs bg dp) (mc := 0) (ms := 0) E hA0 1 rfl rfl (fi (pre := [(oa, aX V ou)]) (C_CY_work_n l y k v hy hY h1 h2 h3 hnw)) (cs_La_41 E rfl rfl ⟨Nat.le_of_ble_eq_true rfl, Nat.le_of_ble_eq_true rfl⟩) rfl rfl (Nat.le_of_ble_eq_true rfl) ⟨Nat.zero_le _, Nat.zero_le _⟩ d_La_work_9 ?_
  refine g_i2l E d_La_work_12 ?_
  refine g_topl rfl ?_
  refine g_stX (ws' := wW V oa ad r1 r2 r3 ((nI nw).toInt64) nY ix bu np st sr sx tk rn sh sn yw (nw + 1) (va_up yo nw y) (va_up ce nw k) (va_up wo nw v) (va_up po nw none) (va_up ne nw none) cs sv mk sp rs bg dp) E 0 rfl rfl d_La_work_13 ?_
  refine g_goto E 25 d_La_work_14 (by decide) ?_
  refine g_iconst (v := nI 0) E d_La_work_25 (by decide) ?_
  exact g_iret E hr_ hlk_ d_La_work_26 (gq_wi (w1 := fun _ => wW V oa ad r1 r2 r3 ((nI nw).toInt64) nY ix bu np st sr sx tk rn sh sn yw (nw + 1) (va_up yo nw y) (va_up ce nw k) (va_up wo nw v) (va_up po nw none) (va_up ne nw none) cs sv mk sp rs bg dp) () rfl)

set_option maxHeartbeats 4000000 in
set_option maxRecDepth 100000 in
theorem L_CY_work_s (l : Launch) {V : gV} {oa : Nat} {ad r1 r2 r3 : Nat → Nat} {ou : Int64} {nY : Nat} {ix bu : Nat → Nat} {np : Nat} {st sr : Nat → Nat} {sx tk : Nat → Nat → Nat} {rn sh sn : Nat → Nat} {yw nw : Nat} {yo ce wo : Nat → Nat} {po ne : Nat → Option Nat} {cs : Nat → Nat} {sv : Nat → Nat → Nat} {mk : Nat} {sp rs : Nat → Int} {bg dp : Nat} (y k v : Nat) (q : Nat) (hq : q < np) (hnp : np ≤ 12) (hy : y < nY) (hY : nY ≤ 12) (h1 : 1 ≤ k) (h2 : k ≤ 1000000) (h3 : v ≤ 1000000) (hnw : nw < 10) : mWi l y_La_work (w_La_work :: gt) rm_La_work V (wW V oa ad r1 r2 r3 ou nY ix bu np st sr sx tk rn sh sn yw nw yo ce wo po ne cs sv mk sp rs bg dp) [.ref (ad 0), .int (nI y), .int (nI k), .int (nI v), .int (nI q), .ref oa] (nI 0) (wW V oa ad r1 r2 r3 ((nI nw).toInt64) nY ix bu np st sr sx tk rn sh sn yw (nw + 1) (va_up yo nw y) (va_up ce nw k) (va_up wo nw v) (va_up po nw (some q)) (va_up ne nw none) cs sv mk sp rs bg dp) 0 0 := by
  intro sz
  refine gMetW (V := V) (As := [.ref (ad 0), .int (nI y), .int (nI k), .int (nI v), .int (nI q), .ref oa]) (cc := c_La_work) (maxL := 7) (ret := (some .int)) (hh := [(0, 14, 17, 13), (0, 14, 21, 21)]) (by decide) rfl (Nat.le_of_ble_eq_true rfl) (fun a U h => ⟨h.1, h.2.2.2.1⟩) ?_
  intro p e s m below meth c E htab hr_ hlk_ hv_
  refine g_toW (sz := sz) (w := wW V oa ad r1 r2 r3 ou nY ix bu np st sr sx tk rn sh sn yw nw yo ce wo po ne cs sv mk sp rs bg dp) hv_.2.2.1 hv_.2.2.2.2 ?_
  have hA0 : ∀ q : Nat, s.heap.size ≤ q → va_A (wW V oa ad r1 r2 r3 ou nY ix bu np st sr sx tk rn sh sn yw nw yo ce wo po ne cs sv mk sp rs bg dp) sz q := fun q h => Or.inr (by rw [← hv_.2.1]; exact h)
  refine g_aload E d_La_work_0 5 rfl ?_
  refine g_iconst (v := nI 0) E d_La_work_2 (by decide) ?_
  refine g_aload_n E d_La_work_3 rfl 0 rfl ?_
  refine g_iload_n E d_La_work_4 rfl 1 rfl ?_
  refine g_iload_n E d_La_work_5 rfl 2 rfl ?_
  refine g_iload_n E d_La_work_6 rfl 3 rfl ?_
  refine g_iload E d_La_work_7 4 rfl ?_
  refine gwVi (As := [.int (nI y), .int (nI k), .int (nI v), .int (nI q)]) (rest := [.int (nI 0), .ref oa]) (w' := wW V oa ad r1 r2 r3 ou nY ix bu np st sr sx tk rn sh sn yw (nw + 1) (va_up yo nw y) (va_up ce nw k) (va_up wo nw v) (va_up po nw (some q)) (va_up ne nw none) cs sv mk sp rs bg dp) (mc := 0) (ms := 0) E hA0 1 rfl rfl (fi (pre := [(oa, aX V ou)]) (C_CY_work_s l y k v q hq hnp hy hY h1 h2 h3 hnw)) (cs_La_41 E rfl rfl ⟨Nat.le_of_ble_eq_true rfl, Nat.le_of_ble_eq_true rfl⟩) rfl rfl (Nat.le_of_ble_eq_true rfl) ⟨Nat.zero_le _, Nat.zero_le _⟩ d_La_work_9 ?_
  refine g_i2l E d_La_work_12 ?_
  refine g_topl rfl ?_
  refine g_stX (ws' := wW V oa ad r1 r2 r3 ((nI nw).toInt64) nY ix bu np st sr sx tk rn sh sn yw (nw + 1) (va_up yo nw y) (va_up ce nw k) (va_up wo nw v) (va_up po nw (some q)) (va_up ne nw none) cs sv mk sp rs bg dp) E 0 rfl rfl d_La_work_13 ?_
  refine g_goto E 25 d_La_work_14 (by decide) ?_
  refine g_iconst (v := nI 0) E d_La_work_25 (by decide) ?_
  exact g_iret E hr_ hlk_ d_La_work_26 (gq_wi (w1 := fun _ => wW V oa ad r1 r2 r3 ((nI nw).toInt64) nY ix bu np st sr sx tk rn sh sn yw (nw + 1) (va_up yo nw y) (va_up ce nw k) (va_up wo nw v) (va_up po nw (some q)) (va_up ne nw none) cs sv mk sp rs bg dp) () rfl)

set_option maxHeartbeats 4000000 in
set_option maxRecDepth 100000 in
theorem L_CY_join (l : Launch) {V : gV} {oa : Nat} {ad r1 r2 r3 : Nat → Nat} {ou : Int64} {nY : Nat} {ix bu : Nat → Nat} {np : Nat} {st sr : Nat → Nat} {sx tk : Nat → Nat → Nat} {rn sh sn : Nat → Nat} {yw nw : Nat} {yo ce wo : Nat → Nat} {po ne : Nat → Option Nat} {cs : Nat → Nat} {sv : Nat → Nat → Nat} {mk : Nat} {sp rs : Nat → Int} {bg dp : Nat} (a b v : Nat) (ha : a < nw) (hb : b < nw) (hab : a ≠ b) (hnw : nw ≤ 10) (h2 : v ≤ 1000000) : mWi l y_La_join (w_La_join :: gt) rm_La_join V (wW V oa ad r1 r2 r3 ou nY ix bu np st sr sx tk rn sh sn yw nw yo ce wo po ne cs sv mk sp rs bg dp) [.ref (ad 0), .int (nI a), .int (nI b), .int (nI v), .ref oa] (nI 0) (wW V oa ad r1 r2 r3 ((nI (sv a b)).toInt64) nY ix bu np st sr sx tk rn sh sn yw nw yo ce wo po ne cs (mUp (mUp sv a b v) b a v) mk sp rs bg dp) 0 0 := by
  intro sz
  refine gMetW (V := V) (As := [.ref (ad 0), .int (nI a), .int (nI b), .int (nI v), .ref oa]) (cc := c_La_join) (maxL := 6) (ret := (some .int)) (hh := [(0, 12, 15, 13)]) (by decide) rfl (Nat.le_of_ble_eq_true rfl) (fun a U h => ⟨h.1, h.2.2.2.1⟩) ?_
  intro p e s m below meth c E htab hr_ hlk_ hv_
  refine g_toW (sz := sz) (w := wW V oa ad r1 r2 r3 ou nY ix bu np st sr sx tk rn sh sn yw nw yo ce wo po ne cs sv mk sp rs bg dp) hv_.2.2.1 hv_.2.2.2.2 ?_
  have hA0 : ∀ q : Nat, s.heap.size ≤ q → va_A (wW V oa ad r1 r2 r3 ou nY ix bu np st sr sx tk rn sh sn yw nw yo ce wo po ne cs sv mk sp rs bg dp) sz q := fun q h => Or.inr (by rw [← hv_.2.1]; exact h)
  refine g_aload E d_La_join_0 4 rfl ?_
  refine g_iconst (v := nI 0) E d_La_join_2 (by decide) ?_
  refine g_aload_n E d_La_join_3 rfl 0 rfl ?_
  refine g_iload_n E d_La_join_4 rfl 1 rfl ?_
  refine g_iload_n E d_La_join_5 rfl 2 rfl ?_
  refine g_iload_n E d_La_join_6 rfl 3 rfl ?_
  refine gwVi (As := [.int (nI a), .int (nI b), .int (nI v)]) (rest := [.int (nI 0), .ref oa]) (w' := wW V oa ad r1 r2 r3 ou nY ix bu np st sr sx tk rn sh sn yw nw yo ce wo po ne cs (mUp (mUp sv a b v) b a v) mk sp rs bg dp) (mc := 0) (ms := 0) E hA0 1 rfl rfl (fi (pre := [(oa, aX V ou)]) (C_CY_join l a b v ha hb hab hnw h2)) (cs_La_44 E rfl rfl ⟨Nat.le_of_ble_eq_true rfl, Nat.le_of_ble_eq_true rfl⟩) rfl rfl (Nat.le_of_ble_eq_true rfl) ⟨Nat.zero_le _, Nat.zero_le _⟩ d_La_join_7 ?_
  refine g_i2l E d_La_join_10 ?_
  refine g_topl rfl ?_
  refine g_stX (ws' := wW V oa ad r1 r2 r3 ((nI (sv a b)).toInt64) nY ix bu np st sr sx tk rn sh sn yw nw yo ce wo po ne cs (mUp (mUp sv a b v) b a v) mk sp rs bg dp) E 0 rfl rfl d_La_join_11 ?_
  refine g_goto E 19 d_La_join_12 (by decide) ?_
  refine g_iconst (v := nI 0) E d_La_join_19 (by decide) ?_
  exact g_iret E hr_ hlk_ d_La_join_20 (gq_wi (w1 := fun _ => wW V oa ad r1 r2 r3 ((nI (sv a b)).toInt64) nY ix bu np st sr sx tk rn sh sn yw nw yo ce wo po ne cs (mUp (mUp sv a b v) b a v) mk sp rs bg dp) () rfl)

set_option maxHeartbeats 4000000 in
set_option maxRecDepth 100000 in
theorem L_CY_clash (l : Launch) {V : gV} {oa : Nat} {ad r1 r2 r3 : Nat → Nat} {ou : Int64} {nY : Nat} {ix bu : Nat → Nat} {np : Nat} {st sr : Nat → Nat} {sx tk : Nat → Nat → Nat} {rn sh sn : Nat → Nat} {yw nw : Nat} {yo ce wo : Nat → Nat} {po ne : Nat → Option Nat} {cs : Nat → Nat} {sv : Nat → Nat → Nat} {mk : Nat} {sp rs : Nat → Int} {bg dp : Nat} (a b : Nat) (q : Bool) (ha : a < nw) (hb : b < nw) (hab : a ≠ b) (hnw : nw ≤ 10) (hcs : ∀ w, cs w < 1024) : mWi l y_La_clash (w_La_clash :: gt) rm_La_clash V (wW V oa ad r1 r2 r3 ou nY ix bu np st sr sx tk rn sh sn yw nw yo ce wo po ne cs sv mk sp rs bg dp) [.ref (ad 0), .int (nI a), .int (nI b), .int (bI q), .ref oa] (nI 0) (wW V oa ad r1 r2 r3 (if (cs a).testBit b then lN 1 else lN 0) nY ix bu np st sr sx tk rn sh sn yw nw yo ce wo po ne (va_up (va_up cs a (sB (cs a) b q)) b (sB (cs b) a q)) sv mk sp rs bg dp) 0 0 := by
  intro sz
  refine gMetW (V := V) (As := [.ref (ad 0), .int (nI a), .int (nI b), .int (bI q), .ref oa]) (cc := c_La_clash) (maxL := 6) (ret := (some .int)) (hh := [(0, 19, 22, 13)]) (by decide) rfl (Nat.le_of_ble_eq_true rfl) (fun a U h => ⟨h.1, h.2.2.2.1⟩) ?_
  intro p e s m below meth c E htab hr_ hlk_ hv_
  refine g_toW (sz := sz) (w := wW V oa ad r1 r2 r3 ou nY ix bu np st sr sx tk rn sh sn yw nw yo ce wo po ne cs sv mk sp rs bg dp) hv_.2.2.1 hv_.2.2.2.2 ?_
  have hA0 : ∀ q : Nat, s.heap.size ≤ q → va_A (wW V oa ad r1 r2 r3 ou nY ix bu np st sr sx tk rn sh sn yw nw yo ce wo po ne cs sv mk sp rs bg dp) sz q := fun q h => Or.inr (by rw [← hv_.2.1]; exact h)
  refine g_aload E d_La_clash_0 4 rfl ?_
  refine g_iconst (v := nI 0) E d_La_clash_2 (by decide) ?_
  refine g_aload_n E d_La_clash_3 rfl 0 rfl ?_
  refine g_iload_n E d_La_clash_4 rfl 1 rfl ?_
  refine g_iload_n E d_La_clash_5 rfl 2 rfl ?_
  refine g_iload_n E d_La_clash_6 rfl 3 rfl ?_
  refine gwVi (As := [.int (nI a), .int (nI b), .int (bI q)]) (rest := [.int (nI 0), .ref oa]) (w' := wW V oa ad r1 r2 r3 ou nY ix bu np st sr sx tk rn sh sn yw nw yo ce wo po ne (va_up (va_up cs a (sB (cs a) b q)) b (sB (cs b) a q)) sv mk sp rs bg dp) (mc := 0) (ms := 0) E hA0 1 rfl rfl (fi (pre := [(oa, aX V ou)]) (C_CY_clash l a b q ha hb hab hnw hcs)) (cs_La_47 E rfl rfl ⟨Nat.le_of_ble_eq_true rfl, Nat.le_of_ble_eq_true rfl⟩) rfl rfl (Nat.le_of_ble_eq_true rfl) ⟨Nat.zero_le _, Nat.zero_le _⟩ d_La_clash_7 ?_
  refine g_bif_eq E 17 d_La_clash_10 (by decide) (fun h1 => ?_) (fun h1 => ?_)
  · refine g_lconst (v := lN 0) E d_La_clash_17 (by decide) ?_
    refine g_stX (ws' := wW V oa ad r1 r2 r3 (lN 0) nY ix bu np st sr sx tk rn sh sn yw nw yo ce wo po ne (va_up (va_up cs a (sB (cs a) b q)) b (sB (cs b) a q)) sv mk sp rs bg dp) E 0 rfl rfl d_La_clash_18 ?_
    refine g_goto E 26 d_La_clash_19 (by decide) ?_
    refine g_iconst (v := nI 0) E d_La_clash_26 (by decide) ?_
    refine g_ws (ws' := wW V oa ad r1 r2 r3 (if (cs a).testBit b then lN 1 else lN 0) nY ix bu np st sr sx tk rn sh sn yw nw yo ce wo po ne (va_up (va_up cs a (sB (cs a) b q)) b (sB (cs b) a q)) sv mk sp rs bg dp) (by simp [h1]) ?_
    exact g_iret E hr_ hlk_ d_La_clash_27 (gq_wi (w1 := fun _ => wW V oa ad r1 r2 r3 (if (cs a).testBit b then lN 1 else lN 0) nY ix bu np st sr sx tk rn sh sn yw nw yo ce wo po ne (va_up (va_up cs a (sB (cs a) b q)) b (sB (cs b) a q)) sv mk sp rs bg dp) () rfl)
  · refine g_lconst (v := lN 1) E d_La_clash_13 (by decide) ?_
    refine g_goto E 18 d_La_clash_14 (by decide) ?_
    refine g_stX (ws' := wW V oa ad r1 r2 r3 (lN 1) nY ix bu np st sr sx tk rn sh sn yw nw yo ce wo po ne (va_up (va_up cs a (sB (cs a) b q)) b (sB (cs b) a q)) sv mk sp rs bg dp) E 0 rfl rfl d_La_clash_18 ?_
    refine g_goto E 26 d_La_clash_19 (by decide) ?_
    refine g_iconst (v := nI 0) E d_La_clash_26 (by decide) ?_
    refine g_ws (ws' := wW V oa ad r1 r2 r3 (if (cs a).testBit b then lN 1 else lN 0) nY ix bu np st sr sx tk rn sh sn yw nw yo ce wo po ne (va_up (va_up cs a (sB (cs a) b q)) b (sB (cs b) a q)) sv mk sp rs bg dp) (by simp [h1]) ?_
    exact g_iret E hr_ hlk_ d_La_clash_27 (gq_wi (w1 := fun _ => wW V oa ad r1 r2 r3 (if (cs a).testBit b then lN 1 else lN 0) nY ix bu np st sr sx tk rn sh sn yw nw yo ce wo po ne (va_up (va_up cs a (sB (cs a) b q)) b (sB (cs b) a q)) sv mk sp rs bg dp) () rfl)

set_option maxHeartbeats 4000000 in
set_option maxRecDepth 100000 in
theorem L_CY_needs_n (l : Launch) {V : gV} {oa : Nat} {ad r1 r2 r3 : Nat → Nat} {ou : Int64} {nY : Nat} {ix bu : Nat → Nat} {np : Nat} {st sr : Nat → Nat} {sx tk : Nat → Nat → Nat} {rn sh sn : Nat → Nat} {yw nw : Nat} {yo ce wo : Nat → Nat} {po ne : Nat → Option Nat} {cs : Nat → Nat} {sv : Nat → Nat → Nat} {mk : Nat} {sp rs : Nat → Int} {bg dp : Nat} (a : Nat)  (ha : a < nw) (hnw : nw ≤ 10) : mWi l y_La_needs (w_La_needs :: gt) rm_La_needs V (wW V oa ad r1 r2 r3 ou nY ix bu np st sr sx tk rn sh sn yw nw yo ce wo po ne cs sv mk sp rs bg dp) [.ref (ad 0), .int (nI a), .int (oN none), .ref oa] (nI 0) (wW V oa ad r1 r2 r3 ((oN (ne a)).toInt64) nY ix bu np st sr sx tk rn sh sn yw nw yo ce wo po (va_up ne a none) cs sv mk sp rs bg dp) 0 0 := by
  intro sz
  refine gMetW (V := V) (As := [.ref (ad 0), .int (nI a), .int (oN none), .ref oa]) (cc := c_La_needs) (maxL := 5) (ret := (some .int)) (hh := [(0, 10, 13, 13)]) (by decide) rfl (Nat.le_of_ble_eq_true rfl) (fun a U h => ⟨h.1, h.2.2.2.1⟩) ?_
  intro p e s m below meth c E htab hr_ hlk_ hv_
  refine g_toW (sz := sz) (w := wW V oa ad r1 r2 r3 ou nY ix bu np st sr sx tk rn sh sn yw nw yo ce wo po ne cs sv mk sp rs bg dp) hv_.2.2.1 hv_.2.2.2.2 ?_
  have hA0 : ∀ q : Nat, s.heap.size ≤ q → va_A (wW V oa ad r1 r2 r3 ou nY ix bu np st sr sx tk rn sh sn yw nw yo ce wo po ne cs sv mk sp rs bg dp) sz q := fun q h => Or.inr (by rw [← hv_.2.1]; exact h)
  refine g_aload_n E d_La_needs_0 rfl 3 rfl ?_
  refine g_iconst (v := nI 0) E d_La_needs_1 (by decide) ?_
  refine g_aload_n E d_La_needs_2 rfl 0 rfl ?_
  refine g_iload_n E d_La_needs_3 rfl 1 rfl ?_
  refine g_iload_n E d_La_needs_4 rfl 2 rfl ?_
  refine gwVi (As := [.int (nI a), .int (oN none)]) (rest := [.int (nI 0), .ref oa]) (w' := wW V oa ad r1 r2 r3 ou nY ix bu np st sr sx tk rn sh sn yw nw yo ce wo po (va_up ne a none) cs sv mk sp rs bg dp) (mc := 0) (ms := 0) E hA0 1 rfl rfl (fi (pre := [(oa, aX V ou)]) (C_CY_needs_n l a ha hnw)) (cs_La_51 E rfl rfl ⟨Nat.le_of_ble_eq_true rfl, Nat.le_of_ble_eq_true rfl⟩) rfl rfl (Nat.le_of_ble_eq_true rfl) ⟨Nat.zero_le _, Nat.zero_le _⟩ d_La_needs_5 ?_
  refine g_i2l E d_La_needs_8 ?_
  refine g_topl rfl ?_
  refine g_stX (ws' := wW V oa ad r1 r2 r3 ((oN (ne a)).toInt64) nY ix bu np st sr sx tk rn sh sn yw nw yo ce wo po (va_up ne a none) cs sv mk sp rs bg dp) E 0 rfl rfl d_La_needs_9 ?_
  refine g_goto E 17 d_La_needs_10 (by decide) ?_
  refine g_iconst (v := nI 0) E d_La_needs_17 (by decide) ?_
  exact g_iret E hr_ hlk_ d_La_needs_18 (gq_wi (w1 := fun _ => wW V oa ad r1 r2 r3 ((oN (ne a)).toInt64) nY ix bu np st sr sx tk rn sh sn yw nw yo ce wo po (va_up ne a none) cs sv mk sp rs bg dp) () rfl)

set_option maxHeartbeats 4000000 in
set_option maxRecDepth 100000 in
theorem L_CY_needs_s (l : Launch) {V : gV} {oa : Nat} {ad r1 r2 r3 : Nat → Nat} {ou : Int64} {nY : Nat} {ix bu : Nat → Nat} {np : Nat} {st sr : Nat → Nat} {sx tk : Nat → Nat → Nat} {rn sh sn : Nat → Nat} {yw nw : Nat} {yo ce wo : Nat → Nat} {po ne : Nat → Option Nat} {cs : Nat → Nat} {sv : Nat → Nat → Nat} {mk : Nat} {sp rs : Nat → Int} {bg dp : Nat} (a : Nat) (q : Nat) (hq : q < nw) (haq : a ≠ q) (ha : a < nw) (hnw : nw ≤ 10) : mWi l y_La_needs (w_La_needs :: gt) rm_La_needs V (wW V oa ad r1 r2 r3 ou nY ix bu np st sr sx tk rn sh sn yw nw yo ce wo po ne cs sv mk sp rs bg dp) [.ref (ad 0), .int (nI a), .int (nI q), .ref oa] (nI 0) (wW V oa ad r1 r2 r3 ((oN (ne a)).toInt64) nY ix bu np st sr sx tk rn sh sn yw nw yo ce wo po (va_up ne a (some q)) cs sv mk sp rs bg dp) 0 0 := by
  intro sz
  refine gMetW (V := V) (As := [.ref (ad 0), .int (nI a), .int (nI q), .ref oa]) (cc := c_La_needs) (maxL := 5) (ret := (some .int)) (hh := [(0, 10, 13, 13)]) (by decide) rfl (Nat.le_of_ble_eq_true rfl) (fun a U h => ⟨h.1, h.2.2.2.1⟩) ?_
  intro p e s m below meth c E htab hr_ hlk_ hv_
  refine g_toW (sz := sz) (w := wW V oa ad r1 r2 r3 ou nY ix bu np st sr sx tk rn sh sn yw nw yo ce wo po ne cs sv mk sp rs bg dp) hv_.2.2.1 hv_.2.2.2.2 ?_
  have hA0 : ∀ q : Nat, s.heap.size ≤ q → va_A (wW V oa ad r1 r2 r3 ou nY ix bu np st sr sx tk rn sh sn yw nw yo ce wo po ne cs sv mk sp rs bg dp) sz q := fun q h => Or.inr (by rw [← hv_.2.1]; exact h)
  refine g_aload_n E d_La_needs_0 rfl 3 rfl ?_
  refine g_iconst (v := nI 0) E d_La_needs_1 (by decide) ?_
  refine g_aload_n E d_La_needs_2 rfl 0 rfl ?_
  refine g_iload_n E d_La_needs_3 rfl 1 rfl ?_
  refine g_iload_n E d_La_needs_4 rfl 2 rfl ?_
  refine gwVi (As := [.int (nI a), .int (nI q)]) (rest := [.int (nI 0), .ref oa]) (w' := wW V oa ad r1 r2 r3 ou nY ix bu np st sr sx tk rn sh sn yw nw yo ce wo po (va_up ne a (some q)) cs sv mk sp rs bg dp) (mc := 0) (ms := 0) E hA0 1 rfl rfl (fi (pre := [(oa, aX V ou)]) (C_CY_needs_s l a q hq haq ha hnw)) (cs_La_51 E rfl rfl ⟨Nat.le_of_ble_eq_true rfl, Nat.le_of_ble_eq_true rfl⟩) rfl rfl (Nat.le_of_ble_eq_true rfl) ⟨Nat.zero_le _, Nat.zero_le _⟩ d_La_needs_5 ?_
  refine g_i2l E d_La_needs_8 ?_
  refine g_topl rfl ?_
  refine g_stX (ws' := wW V oa ad r1 r2 r3 ((oN (ne a)).toInt64) nY ix bu np st sr sx tk rn sh sn yw nw yo ce wo po (va_up ne a (some q)) cs sv mk sp rs bg dp) E 0 rfl rfl d_La_needs_9 ?_
  refine g_goto E 17 d_La_needs_10 (by decide) ?_
  refine g_iconst (v := nI 0) E d_La_needs_17 (by decide) ?_
  exact g_iret E hr_ hlk_ d_La_needs_18 (gq_wi (w1 := fun _ => wW V oa ad r1 r2 r3 ((oN (ne a)).toInt64) nY ix bu np st sr sx tk rn sh sn yw nw yo ce wo po (va_up ne a (some q)) cs sv mk sp rs bg dp) () rfl)

set_option maxHeartbeats 4000000 in
set_option maxRecDepth 100000 in
theorem L_CY_chosen (l : Launch) {V : gV} {oa : Nat} {ad r1 r2 r3 : Nat → Nat} {ou : Int64} {nY : Nat} {ix bu : Nat → Nat} {np : Nat} {st sr : Nat → Nat} {sx tk : Nat → Nat → Nat} {rn sh sn : Nat → Nat} {yw nw : Nat} {yo ce wo : Nat → Nat} {po ne : Nat → Option Nat} {cs : Nat → Nat} {sv : Nat → Nat → Nat} {mk : Nat} {sp rs : Nat → Int} {bg dp : Nat} (a : Nat) (ha : a < nw) (hnw : nw ≤ 10) (hmk : mk < 1024) : mWi l y_La_chosen (w_La_chosen :: gt) rm_La_chosen V (wW V oa ad r1 r2 r3 ou nY ix bu np st sr sx tk rn sh sn yw nw yo ce wo po ne cs sv mk sp rs bg dp) [.ref (ad 0), .int (nI a), .ref oa] (nI 0) (wW V oa ad r1 r2 r3 (if mk.testBit a then lN 1 else lN 0) nY ix bu np st sr sx tk rn sh sn yw nw yo ce wo po ne cs sv mk sp rs bg dp) 0 0 := by
  intro sz
  refine gMetW (V := V) (As := [.ref (ad 0), .int (nI a), .ref oa]) (cc := c_La_chosen) (maxL := 4) (ret := (some .int)) (hh := [(0, 16, 19, 13)]) (by decide) rfl (Nat.le_of_ble_eq_true rfl) (fun a U h => ⟨h.1, h.2.2.2.1⟩) ?_
  intro p e s m below meth c E htab hr_ hlk_ hv_
  refine g_toW (sz := sz) (w := wW V oa ad r1 r2 r3 ou nY ix bu np st sr sx tk rn sh sn yw nw yo ce wo po ne cs sv mk sp rs bg dp) hv_.2.2.1 hv_.2.2.2.2 ?_
  have hA0 : ∀ q : Nat, s.heap.size ≤ q → va_A (wW V oa ad r1 r2 r3 ou nY ix bu np st sr sx tk rn sh sn yw nw yo ce wo po ne cs sv mk sp rs bg dp) sz q := fun q h => Or.inr (by rw [← hv_.2.1]; exact h)
  refine g_aload_n E d_La_chosen_0 rfl 2 rfl ?_
  refine g_iconst (v := nI 0) E d_La_chosen_1 (by decide) ?_
  refine g_aload_n E d_La_chosen_2 rfl 0 rfl ?_
  refine g_iload_n E d_La_chosen_3 rfl 1 rfl ?_
  refine gpVi (As := [.int (nI a)]) (rest := [.int (nI 0), .ref oa]) E gO_w 1 rfl rfl (fpi0 (pre := [(oa, aX V ou)]) (C_CY_chosen l a ha hnw hmk)) (cs_La_54 E rfl rfl ⟨Nat.le_of_ble_eq_true rfl, Nat.le_of_ble_eq_true rfl⟩) rfl rfl (Nat.le_of_ble_eq_true rfl) ⟨Nat.zero_le _, Nat.zero_le _⟩ d_La_chosen_4 ?_
  refine g_bif_eq E 14 d_La_chosen_7 (by decide) (fun h1 => ?_) (fun h1 => ?_)
  · refine g_lconst (v := lN 0) E d_La_chosen_14 (by decide) ?_
    refine g_stX (ws' := wW V oa ad r1 r2 r3 (lN 0) nY ix bu np st sr sx tk rn sh sn yw nw yo ce wo po ne cs sv mk sp rs bg dp) E 0 rfl rfl d_La_chosen_15 ?_
    refine g_goto E 22 d_La_chosen_16 (by decide) ?_
    refine g_iconst (v := nI 0) E d_La_chosen_22 (by decide) ?_
    refine g_ws (ws' := wW V oa ad r1 r2 r3 (if mk.testBit a then lN 1 else lN 0) nY ix bu np st sr sx tk rn sh sn yw nw yo ce wo po ne cs sv mk sp rs bg dp) (by simp [h1]) ?_
    exact g_iret E hr_ hlk_ d_La_chosen_23 (gq_wi (w1 := fun _ => wW V oa ad r1 r2 r3 (if mk.testBit a then lN 1 else lN 0) nY ix bu np st sr sx tk rn sh sn yw nw yo ce wo po ne cs sv mk sp rs bg dp) () rfl)
  · refine g_lconst (v := lN 1) E d_La_chosen_10 (by decide) ?_
    refine g_goto E 15 d_La_chosen_11 (by decide) ?_
    refine g_stX (ws' := wW V oa ad r1 r2 r3 (lN 1) nY ix bu np st sr sx tk rn sh sn yw nw yo ce wo po ne cs sv mk sp rs bg dp) E 0 rfl rfl d_La_chosen_15 ?_
    refine g_goto E 22 d_La_chosen_16 (by decide) ?_
    refine g_iconst (v := nI 0) E d_La_chosen_22 (by decide) ?_
    refine g_ws (ws' := wW V oa ad r1 r2 r3 (if mk.testBit a then lN 1 else lN 0) nY ix bu np st sr sx tk rn sh sn yw nw yo ce wo po ne cs sv mk sp rs bg dp) (by simp [h1]) ?_
    exact g_iret E hr_ hlk_ d_La_chosen_23 (gq_wi (w1 := fun _ => wW V oa ad r1 r2 r3 (if mk.testBit a then lN 1 else lN 0) nY ix bu np st sr sx tk rn sh sn yw nw yo ce wo po ne cs sv mk sp rs bg dp) () rfl)

set_option maxHeartbeats 4000000 in
set_option maxRecDepth 100000 in
theorem L_CY_costs (l : Launch) {V : gV} {oa : Nat} {ad r1 r2 r3 : Nat → Nat} {ou : Int64} {nY : Nat} {ix bu : Nat → Nat} {np : Nat} {st sr : Nat → Nat} {sx tk : Nat → Nat → Nat} {rn sh sn : Nat → Nat} {yw nw : Nat} {yo ce wo : Nat → Nat} {po ne : Nat → Option Nat} {cs : Nat → Nat} {sv : Nat → Nat → Nat} {mk : Nat} {sp rs : Nat → Int} {bg dp : Nat} (y : Nat) (hy : y < nY) (hmk : mk < 1024) (hnw : nw ≤ 10) (hY : nY ≤ 12) (hyY : ∀ w, yo w < nY) (hyo : ∀ w, yo w < 12) (hix : ∀ y, ix y ≤ 2000) (hce : ∀ w, ce w ≤ 1000000) (hsv : ∀ a b, sv a b ≤ 1000000) : mWi l y_La_costs (w_La_costs :: gt) rm_La_costs V (wW V oa ad r1 r2 r3 ou nY ix bu np st sr sx tk rn sh sn yw nw yo ce wo po ne cs sv mk sp rs bg dp) [.ref (ad 0), .int (nI y), .ref oa] (nI 0) (wW V oa ad r1 r2 r3 ((iI (cS ix yo ce sv nw mk y)).toInt64) nY ix bu np st sr sx tk rn sh sn yw nw yo ce wo po ne cs sv mk (cS ix yo ce sv nw mk) rs bg dp) 0 0 := by
  intro sz
  refine gMetW (V := V) (As := [.ref (ad 0), .int (nI y), .ref oa]) (cc := c_La_costs) (maxL := 4) (ret := (some .int)) (hh := [(0, 9, 12, 13)]) (by decide) rfl (Nat.le_of_ble_eq_true rfl) (fun a U h => ⟨h.1, h.2.2.2.1⟩) ?_
  intro p e s m below meth c E htab hr_ hlk_ hv_
  refine g_toW (sz := sz) (w := wW V oa ad r1 r2 r3 ou nY ix bu np st sr sx tk rn sh sn yw nw yo ce wo po ne cs sv mk sp rs bg dp) hv_.2.2.1 hv_.2.2.2.2 ?_
  have hA0 : ∀ q : Nat, s.heap.size ≤ q → va_A (wW V oa ad r1 r2 r3 ou nY ix bu np st sr sx tk rn sh sn yw nw yo ce wo po ne cs sv mk sp rs bg dp) sz q := fun q h => Or.inr (by rw [← hv_.2.1]; exact h)
  refine g_aload_n E d_La_costs_0 rfl 2 rfl ?_
  refine g_iconst (v := nI 0) E d_La_costs_1 (by decide) ?_
  refine g_aload_n E d_La_costs_2 rfl 0 rfl ?_
  refine g_iload_n E d_La_costs_3 rfl 1 rfl ?_
  refine gwVi (As := [.int (nI y)]) (rest := [.int (nI 0), .ref oa]) (w' := wW V oa ad r1 r2 r3 ou nY ix bu np st sr sx tk rn sh sn yw nw yo ce wo po ne cs sv mk (cS ix yo ce sv nw mk) rs bg dp) (mc := 0) (ms := 0) E hA0 1 rfl rfl (fi (pre := [(oa, aX V ou)]) (C_CY_costs l y hy hmk hnw hY hyY hyo hix hce hsv)) (cs_La_58 E rfl rfl ⟨Nat.le_of_ble_eq_true rfl, Nat.le_of_ble_eq_true rfl⟩) rfl rfl (Nat.le_of_ble_eq_true rfl) ⟨Nat.zero_le _, Nat.zero_le _⟩ d_La_costs_4 ?_
  refine g_i2l E d_La_costs_7 ?_
  refine g_topl rfl ?_
  refine g_stX (ws' := wW V oa ad r1 r2 r3 ((iI (cS ix yo ce sv nw mk y)).toInt64) nY ix bu np st sr sx tk rn sh sn yw nw yo ce wo po ne cs sv mk (cS ix yo ce sv nw mk) rs bg dp) E 0 rfl rfl d_La_costs_8 ?_
  refine g_goto E 15 d_La_costs_9 (by decide) ?_
  refine g_iconst (v := nI 0) E d_La_costs_15 (by decide) ?_
  exact g_iret E hr_ hlk_ d_La_costs_16 (gq_wi (w1 := fun _ => wW V oa ad r1 r2 r3 ((iI (cS ix yo ce sv nw mk y)).toInt64) nY ix bu np st sr sx tk rn sh sn yw nw yo ce wo po ne cs sv mk (cS ix yo ce sv nw mk) rs bg dp) () rfl)

set_option maxHeartbeats 4000000 in
set_option maxRecDepth 100000 in
theorem L_CY_money (l : Launch) {V : gV} {oa : Nat} {ad r1 r2 r3 : Nat → Nat} {ou : Int64} {nY : Nat} {ix bu : Nat → Nat} {np : Nat} {st sr : Nat → Nat} {sx tk : Nat → Nat → Nat} {rn sh sn : Nat → Nat} {yw nw : Nat} {yo ce wo : Nat → Nat} {po ne : Nat → Option Nat} {cs : Nat → Nat} {sv : Nat → Nat → Nat} {mk : Nat} {sp rs : Nat → Int} {bg dp : Nat} (k v : Nat) (h1 : k ≤ 1000000000) (h2 : v ≤ 1000000000) : mWi l y_La_money (w_La_money :: gt) rm_La_money V (wW V oa ad r1 r2 r3 ou nY ix bu np st sr sx tk rn sh sn yw nw yo ce wo po ne cs sv mk sp rs bg dp) [.ref (ad 0), .int (nI k), .int (nI v)] (nI 0) (wW V oa ad r1 r2 r3 ou nY ix bu np st sr sx tk rn sh sn yw nw yo ce wo po ne cs sv mk sp rs k v) 0 0 := by
  intro sz
  refine gMetW (V := V) (As := [.ref (ad 0), .int (nI k), .int (nI v)]) (cc := c_La_money) (maxL := 4) (ret := (some .int)) (hh := [(0, 6, 9, 13)]) (by decide) rfl (Nat.le_of_ble_eq_true rfl) (fun a U h => ⟨h.1, h.2.2.2.1⟩) ?_
  intro p e s m below meth c E htab hr_ hlk_ hv_
  refine g_toW (sz := sz) (w := wW V oa ad r1 r2 r3 ou nY ix bu np st sr sx tk rn sh sn yw nw yo ce wo po ne cs sv mk sp rs bg dp) hv_.2.2.1 hv_.2.2.2.2 ?_
  have hA0 : ∀ q : Nat, s.heap.size ≤ q → va_A (wW V oa ad r1 r2 r3 ou nY ix bu np st sr sx tk rn sh sn yw nw yo ce wo po ne cs sv mk sp rs bg dp) sz q := fun q h => Or.inr (by rw [← hv_.2.1]; exact h)
  refine g_aload_n E d_La_money_0 rfl 0 rfl ?_
  refine g_iload_n E d_La_money_1 rfl 1 rfl ?_
  refine g_iload_n E d_La_money_2 rfl 2 rfl ?_
  refine gwVv (As := [.int (nI k), .int (nI v)]) (rest := []) (w' := wW V oa ad r1 r2 r3 ou nY ix bu np st sr sx tk rn sh sn yw nw yo ce wo po ne cs sv mk sp rs k v) (mc := 0) (ms := 0) E hA0 1 rfl rfl (fv (pre := [(oa, aX V ou)]) (C_CY_money l k v h1 h2)) (cs_La_62 E rfl rfl ⟨Nat.le_of_ble_eq_true rfl, Nat.le_of_ble_eq_true rfl⟩) rfl rfl (Nat.le_of_ble_eq_true rfl) ⟨Nat.zero_le _, Nat.zero_le _⟩ d_La_money_3 ?_
  refine g_goto E 12 d_La_money_6 (by decide) ?_
  refine g_iconst (v := nI 0) E d_La_money_12 (by decide) ?_
  exact g_iret E hr_ hlk_ d_La_money_13 (gq_wi (w1 := fun _ => wW V oa ad r1 r2 r3 ou nY ix bu np st sr sx tk rn sh sn yw nw yo ce wo po ne cs sv mk sp rs k v) () rfl)

set_option maxHeartbeats 4000000 in
set_option maxRecDepth 100000 in
theorem L_CY_reserve (l : Launch) {V : gV} {oa : Nat} {ad r1 r2 r3 : Nat → Nat} {ou : Int64} {nY : Nat} {ix bu : Nat → Nat} {np : Nat} {st sr : Nat → Nat} {sx tk : Nat → Nat → Nat} {rn sh sn : Nat → Nat} {yw nw : Nat} {yo ce wo : Nat → Nat} {po ne : Nat → Option Nat} {cs : Nat → Nat} {sv : Nat → Nat → Nat} {mk : Nat} {sp rs : Nat → Int} {bg dp : Nat} (y : Nat) (hy : y < nY) (hnp : np ≤ 12) (hY : nY ≤ 12) (hnw : nw ≤ 10) (hmk : mk < 1024) (hyY : ∀ w, yo w < nY) (hyo : ∀ w, yo w < 12) (hce : ∀ w, ce w ≤ 1000000) (hsv : ∀ a b, sv a b ≤ 1000000) (hdp : dp ≤ 1000000000) (hbg : bg ≤ 1000000000) (hst : ∀ i, st i ≤ 4) (hsr : ∀ i, sr i < 4) (hsi : ∀ i, i < np → sr i < st i) (hM : ∀ i, i < np → ∀ a, a < st i → sumN (fun j => sx i (a * 4 + j)) (st i) = 16) (hrn : ∀ i, rn i < 4096) (hx : ∀ i j, sx i j ≤ 16) (ht : ∀ i j, tk i j ≤ 1000) (hix : ∀ y, ix y ≤ 2000) : mWi l y_La_reserve (w_La_reserve :: gt) rm_La_reserve V (wW V oa ad r1 r2 r3 ou nY ix bu np st sr sx tk rn sh sn yw nw yo ce wo po ne cs sv mk sp rs bg dp) [.ref (ad 0), .int (nI y), .ref oa] (nI 0) (wW V oa ad r1 r2 r3 (lI (rV ix st sr sx tk rn (cS ix yo ce sv nw mk) bg dp np y)) nY ix bu np st sr sx tk rn ((tE nY st sr sx rn sh sn yw np).1) ((tE nY st sr sx rn sh sn yw np).2.2) ((tE nY st sr sx rn sh sn yw np).2.1) nw yo ce wo po ne cs sv mk (cS ix yo ce sv nw mk) (fun j => if j < nY then rV ix st sr sx tk rn (cS ix yo ce sv nw mk) bg dp np j else rs j) bg dp) 0 0 := by
  intro sz
  refine gMetW (V := V) (As := [.ref (ad 0), .int (nI y), .ref oa]) (cc := c_La_reserve) (maxL := 4) (ret := (some .int)) (hh := [(0, 8, 11, 13)]) (by decide) rfl (Nat.le_of_ble_eq_true rfl) (fun a U h => ⟨h.1, h.2.2.2.1⟩) ?_
  intro p e s m below meth c E htab hr_ hlk_ hv_
  refine g_toW (sz := sz) (w := wW V oa ad r1 r2 r3 ou nY ix bu np st sr sx tk rn sh sn yw nw yo ce wo po ne cs sv mk sp rs bg dp) hv_.2.2.1 hv_.2.2.2.2 ?_
  have hA0 : ∀ q : Nat, s.heap.size ≤ q → va_A (wW V oa ad r1 r2 r3 ou nY ix bu np st sr sx tk rn sh sn yw nw yo ce wo po ne cs sv mk sp rs bg dp) sz q := fun q h => Or.inr (by rw [← hv_.2.1]; exact h)
  refine g_aload_n E d_La_reserve_0 rfl 2 rfl ?_
  refine g_iconst (v := nI 0) E d_La_reserve_1 (by decide) ?_
  refine g_aload_n E d_La_reserve_2 rfl 0 rfl ?_
  refine g_iload_n E d_La_reserve_3 rfl 1 rfl ?_
  refine gwVl (As := [.int (nI y)]) (rest := [.int (nI 0), .ref oa]) (w' := wW V oa ad r1 r2 r3 ou nY ix bu np st sr sx tk rn ((tE nY st sr sx rn sh sn yw np).1) ((tE nY st sr sx rn sh sn yw np).2.2) ((tE nY st sr sx rn sh sn yw np).2.1) nw yo ce wo po ne cs sv mk (cS ix yo ce sv nw mk) (fun j => if j < nY then rV ix st sr sx tk rn (cS ix yo ce sv nw mk) bg dp np j else rs j) bg dp) (mc := 0) (ms := 0) E hA0 1 rfl rfl (fl (pre := [(oa, aX V ou)]) (C_CY_reserve l y hy hnp hY hnw hmk hyY hyo hce hsv hdp hbg hst hsr hsi hM hrn hx ht hix)) (cs_La_66 E rfl rfl ⟨Nat.le_of_ble_eq_true rfl, Nat.le_of_ble_eq_true rfl⟩) rfl rfl (Nat.le_of_ble_eq_true rfl) ⟨Nat.zero_le _, Nat.zero_le _⟩ d_La_reserve_4 ?_
  refine g_stX (ws' := wW V oa ad r1 r2 r3 (lI (rV ix st sr sx tk rn (cS ix yo ce sv nw mk) bg dp np y)) nY ix bu np st sr sx tk rn ((tE nY st sr sx rn sh sn yw np).1) ((tE nY st sr sx rn sh sn yw np).2.2) ((tE nY st sr sx rn sh sn yw np).2.1) nw yo ce wo po ne cs sv mk (cS ix yo ce sv nw mk) (fun j => if j < nY then rV ix st sr sx tk rn (cS ix yo ce sv nw mk) bg dp np j else rs j) bg dp) E 0 rfl rfl d_La_reserve_7 ?_
  refine g_goto E 14 d_La_reserve_8 (by decide) ?_
  refine g_iconst (v := nI 0) E d_La_reserve_14 (by decide) ?_
  exact g_iret E hr_ hlk_ d_La_reserve_15 (gq_wi (w1 := fun _ => wW V oa ad r1 r2 r3 (lI (rV ix st sr sx tk rn (cS ix yo ce sv nw mk) bg dp np y)) nY ix bu np st sr sx tk rn ((tE nY st sr sx rn sh sn yw np).1) ((tE nY st sr sx rn sh sn yw np).2.2) ((tE nY st sr sx rn sh sn yw np).2.1) nw yo ce wo po ne cs sv mk (cS ix yo ce sv nw mk) (fun j => if j < nY then rV ix st sr sx tk rn (cS ix yo ce sv nw mk) bg dp np j else rs j) bg dp) () rfl)

set_option maxHeartbeats 4000000 in
set_option maxRecDepth 100000 in
theorem L_CY_payment (l : Launch) {V : gV} {oa : Nat} {ad r1 r2 r3 : Nat → Nat} {ou : Int64} {nY : Nat} {ix bu : Nat → Nat} {np : Nat} {st sr : Nat → Nat} {sx tk : Nat → Nat → Nat} {rn sh sn : Nat → Nat} {yw nw : Nat} {yo ce wo : Nat → Nat} {po ne : Nat → Option Nat} {cs : Nat → Nat} {sv : Nat → Nat → Nat} {mk : Nat} {sp rs : Nat → Int} {bg dp : Nat} (k r n : Nat) (h1 : 1 ≤ k) (h2 : k ≤ 1000000000) (h3 : r ≤ 2000) (h4 : 1 ≤ n) (h5 : n ≤ 30) : mWi l y_La_payment (w_La_payment :: gt) rm_La_payment V (wW V oa ad r1 r2 r3 ou nY ix bu np st sr sx tk rn sh sn yw nw yo ce wo po ne cs sv mk sp rs bg dp) [.ref (ad 0), .int (nI k), .int (nI r), .int (nI n), .ref oa] (nI 0) (wW V oa ad r1 r2 r3 ((nI (lpN k r n 31 + 1)).toInt64) nY ix bu np st sr sx tk rn sh sn yw nw yo ce wo po ne cs sv mk sp rs bg dp) 0 0 := by
  intro sz
  refine gMetW (V := V) (As := [.ref (ad 0), .int (nI k), .int (nI r), .int (nI n), .ref oa]) (cc := c_La_payment) (maxL := 6) (ret := (some .int)) (hh := [(0, 12, 15, 13)]) (by decide) rfl (Nat.le_of_ble_eq_true rfl) (fun a U h => ⟨h.1, h.2.2.2.1⟩) ?_
  intro p e s m below meth c E htab hr_ hlk_ hv_
  refine g_toW (sz := sz) (w := wW V oa ad r1 r2 r3 ou nY ix bu np st sr sx tk rn sh sn yw nw yo ce wo po ne cs sv mk sp rs bg dp) hv_.2.2.1 hv_.2.2.2.2 ?_
  have hA0 : ∀ q : Nat, s.heap.size ≤ q → va_A (wW V oa ad r1 r2 r3 ou nY ix bu np st sr sx tk rn sh sn yw nw yo ce wo po ne cs sv mk sp rs bg dp) sz q := fun q h => Or.inr (by rw [← hv_.2.1]; exact h)
  refine g_aload E d_La_payment_0 4 rfl ?_
  refine g_iconst (v := nI 0) E d_La_payment_2 (by decide) ?_
  refine g_aload_n E d_La_payment_3 rfl 0 rfl ?_
  refine g_iload_n E d_La_payment_4 rfl 1 rfl ?_
  refine g_iload_n E d_La_payment_5 rfl 2 rfl ?_
  refine g_iload_n E d_La_payment_6 rfl 3 rfl ?_
  refine gpVi (As := [.int (nI k), .int (nI r), .int (nI n)]) (rest := [.int (nI 0), .ref oa]) E gO_w 1 rfl rfl (fpi0 (pre := [(oa, aX V ou)]) (C_CY_payment l k r n h1 h2 h3 h4 h5)) (cs_La_70 E rfl rfl ⟨Nat.le_of_ble_eq_true rfl, Nat.le_of_ble_eq_true rfl⟩) rfl rfl (Nat.le_of_ble_eq_true rfl) ⟨Nat.zero_le _, Nat.zero_le _⟩ d_La_payment_7 ?_
  refine g_i2l E d_La_payment_10 ?_
  refine g_topl rfl ?_
  refine g_stX (ws' := wW V oa ad r1 r2 r3 ((nI (lpN k r n 31 + 1)).toInt64) nY ix bu np st sr sx tk rn sh sn yw nw yo ce wo po ne cs sv mk sp rs bg dp) E 0 rfl rfl d_La_payment_11 ?_
  refine g_goto E 19 d_La_payment_12 (by decide) ?_
  refine g_iconst (v := nI 0) E d_La_payment_19 (by decide) ?_
  exact g_iret E hr_ hlk_ d_La_payment_20 (gq_wi (w1 := fun _ => wW V oa ad r1 r2 r3 ((nI (lpN k r n 31 + 1)).toInt64) nY ix bu np st sr sx tk rn sh sn yw nw yo ce wo po ne cs sv mk sp rs bg dp) () rfl)

set_option maxHeartbeats 4000000 in
set_option maxRecDepth 100000 in
theorem L_CY_rest (l : Launch) {V : gV} {oa : Nat} {ad r1 r2 r3 : Nat → Nat} {ou : Int64} {nY : Nat} {ix bu : Nat → Nat} {np : Nat} {st sr : Nat → Nat} {sx tk : Nat → Nat → Nat} {rn sh sn : Nat → Nat} {yw nw : Nat} {yo ce wo : Nat → Nat} {po ne : Nat → Option Nat} {cs : Nat → Nat} {sv : Nat → Nat → Nat} {mk : Nat} {sp rs : Nat → Int} {bg dp : Nat} (k r n t : Nat) (h1 : 1 ≤ k) (h2 : k ≤ 1000000000) (h3 : r ≤ 2000) (h4 : 1 ≤ n) (h5 : n ≤ 30) (h6 : t ≤ n) (hlp : lpN k r n 31 + 1 < 2 ^ 31) : mWi l y_La_rest (w_La_rest :: gt) rm_La_rest V (wW V oa ad r1 r2 r3 ou nY ix bu np st sr sx tk rn sh sn yw nw yo ce wo po ne cs sv mk sp rs bg dp) [.ref (ad 0), .int (nI k), .int (nI r), .int (nI n), .int (nI t), .ref oa] (nI 0) (wW V oa ad r1 r2 r3 ((nI (rB k r (lpN k r n 31 + 1) t)).toInt64) nY ix bu np st sr sx tk rn sh sn yw nw yo ce wo po ne cs sv mk sp rs bg dp) 0 0 := by
  intro sz
  refine gMetW (V := V) (As := [.ref (ad 0), .int (nI k), .int (nI r), .int (nI n), .int (nI t), .ref oa]) (cc := c_La_rest) (maxL := 7) (ret := (some .int)) (hh := [(0, 14, 17, 13)]) (by decide) rfl (Nat.le_of_ble_eq_true rfl) (fun a U h => ⟨h.1, h.2.2.2.1⟩) ?_
  intro p e s m below meth c E htab hr_ hlk_ hv_
  refine g_toW (sz := sz) (w := wW V oa ad r1 r2 r3 ou nY ix bu np st sr sx tk rn sh sn yw nw yo ce wo po ne cs sv mk sp rs bg dp) hv_.2.2.1 hv_.2.2.2.2 ?_
  have hA0 : ∀ q : Nat, s.heap.size ≤ q → va_A (wW V oa ad r1 r2 r3 ou nY ix bu np st sr sx tk rn sh sn yw nw yo ce wo po ne cs sv mk sp rs bg dp) sz q := fun q h => Or.inr (by rw [← hv_.2.1]; exact h)
  refine g_aload E d_La_rest_0 5 rfl ?_
  refine g_iconst (v := nI 0) E d_La_rest_2 (by decide) ?_
  refine g_aload_n E d_La_rest_3 rfl 0 rfl ?_
  refine g_iload_n E d_La_rest_4 rfl 1 rfl ?_
  refine g_iload_n E d_La_rest_5 rfl 2 rfl ?_
  refine g_iload_n E d_La_rest_6 rfl 3 rfl ?_
  refine g_iload E d_La_rest_7 4 rfl ?_
  refine gpVi (As := [.int (nI k), .int (nI r), .int (nI n), .int (nI t)]) (rest := [.int (nI 0), .ref oa]) E gO_w 1 rfl rfl (fpi0 (pre := [(oa, aX V ou)]) (C_CY_rest l k r n t h1 h2 h3 h4 h5 h6 hlp)) (cs_La_73 E rfl rfl ⟨Nat.le_of_ble_eq_true rfl, Nat.le_of_ble_eq_true rfl⟩) rfl rfl (Nat.le_of_ble_eq_true rfl) ⟨Nat.zero_le _, Nat.zero_le _⟩ d_La_rest_9 ?_
  refine g_i2l E d_La_rest_12 ?_
  refine g_topl rfl ?_
  refine g_stX (ws' := wW V oa ad r1 r2 r3 ((nI (rB k r (lpN k r n 31 + 1) t)).toInt64) nY ix bu np st sr sx tk rn sh sn yw nw yo ce wo po ne cs sv mk sp rs bg dp) E 0 rfl rfl d_La_rest_13 ?_
  refine g_goto E 21 d_La_rest_14 (by decide) ?_
  refine g_iconst (v := nI 0) E d_La_rest_21 (by decide) ?_
  exact g_iret E hr_ hlk_ d_La_rest_22 (gq_wi (w1 := fun _ => wW V oa ad r1 r2 r3 ((nI (rB k r (lpN k r n 31 + 1) t)).toInt64) nY ix bu np st sr sx tk rn sh sn yw nw yo ce wo po ne cs sv mk sp rs bg dp) () rfl)
