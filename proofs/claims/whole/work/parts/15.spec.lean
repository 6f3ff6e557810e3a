/-! What the works come to, as functions on numbers. -/
def allN (f : Nat → Bool) : Nat → Bool
  | 0 => true
  | n + 1 => allN f n && f n
theorem allN_iff {f : Nat → Bool} {n : Nat} : allN f n = true ↔ ∀ i, i < n → f i = true := by
  induction n with
  | zero => simp [allN]
  | succ n ih =>
    simp only [allN, Bool.and_eq_true, ih]
    constructor
    · rintro ⟨h1, h2⟩ i hi
      rcases Nat.lt_succ_iff_lt_or_eq.mp hi with h | rfl
      · exact h1 i h
      · exact h2
    · intro h
      exact ⟨fun i hi => h i (by omega), h n (by omega)⟩
theorem allN_false {f : Nat → Bool} {n i : Nat} (hi : i < n) (h : f i = false) : allN f n = false := by
  cases hA : allN f n with
  | false => rfl
  | true => rw [allN_iff.mp hA i hi] at h; cases h
/-- the worth of a set of the first n works -/
def wS (wo : Nat → Nat) (S n : Nat) : Nat := sumN (fun w => if S.testBit w then wo w else 0) n
/-- a work of the set lacks what it needs -/
def nB (ne : Nat → Option Nat) (yo : Nat → Nat) (S w : Nat) : Bool := match ne w with
  | none => false
  | some q => !S.testBit q || decide (yo w < yo q)
def agW (cs : Nat → Nat) (ne : Nat → Option Nat) (yo : Nat → Nat) (S w : Nat) : Bool := !S.testBit w || (decide (cs w &&& S = 0) && !nB ne yo S w)
/-- what work w saves with those of lower numbers -/
def sW (yo : Nat → Nat) (sv : Nat → Nat → Nat) (S w n : Nat) : Nat := sumN (fun b => if S.testBit b && decide (yo b = yo w) then sv w b else 0) n
/-- what the first n works of the set cost in year y, before it is cut off at 0 -/
def cR (ix : Nat → Nat) (yo ce : Nat → Nat) (sv : Nat → Nat → Nat) (S y n : Nat) : Int := sumZ (fun w => if S.testBit w && decide (yo w = y) then ((ce w * ix y / 1000 : Nat) : Int) - ((sW yo sv S w w : Nat) : Int) else 0) n
def mz (z : Int) : Int := if z < 0 then 0 else z
/-- what a year's works of the set cost -/
def cS (ix : Nat → Nat) (yo ce : Nat → Nat) (sv : Nat → Nat → Nat) (nw S y : Nat) : Int := mz (cR ix yo ce sv S y nw)
/-- what the budgets lack for costs c, over the first n years -/
def oB (bu : Nat → Nat) (c : Nat → Int) (n : Nat) : Int := sumZ (fun y => mz (c y - (bu y : Int))) n
theorem sumN_le {f : Nat → Nat} {M n : Nat} (h : ∀ i, i < n → f i ≤ M) : sumN f n ≤ n * M := by
  induction n with
  | zero => simp [sumN]
  | succ n ih =>
    have h1 := ih (fun i hi => h i (by omega))
    have h2 := h n (by omega)
    simp only [sumN, Nat.succ_mul]
    omega
theorem sumZ_abs {f : Nat → Int} {M : Int} {n : Nat} (h : ∀ i, i < n → -M ≤ f i ∧ f i ≤ M) : -(n * M) ≤ sumZ f n ∧ sumZ f n ≤ n * M := by
  induction n with
  | zero => simp [sumZ]
  | succ n ih =>
    have h1 := ih (fun i hi => h i (by omega))
    have h2 := h n (by omega)
    have e : ((n + 1 : Nat) : Int) * M = n * M + M := by rw [Int.natCast_add, Int.add_mul]; simp
    simp only [sumZ]
    omega
theorem sW_le {yo : Nat → Nat} {sv : Nat → Nat → Nat} {S w n : Nat} (h : ∀ a b, sv a b ≤ 1000000) : sW yo sv S w n ≤ n * 1000000 := by
  apply sumN_le
  intro i _
  split
  · exact h _ _
  · omega
theorem cR_abs {ix yo ce : Nat → Nat} {sv : Nat → Nat → Nat} {S y n : Nat} (hn : n ≤ 10) (h1 : ∀ y, ix y ≤ 2000) (h2 : ∀ w, ce w ≤ 1000000) (h3 : ∀ a b, sv a b ≤ 1000000) : -100000000 ≤ cR ix yo ce sv S y n ∧ cR ix yo ce sv S y n ≤ 100000000 := by
  have h := sumZ_abs (f := fun w => if S.testBit w && decide (yo w = y) then ((ce w * ix y / 1000 : Nat) : Int) - ((sW yo sv S w w : Nat) : Int) else 0) (M := 10000000) (n := n) (fun i hi => by
    have a1 : ce i * ix y / 1000 ≤ 2000000 := by
      have := Nat.mul_le_mul (h2 i) (h1 y)
      omega
    have a2 := sW_le (yo := yo) (S := S) (w := i) (n := i) h3
    have a3 : i * 1000000 ≤ 9000000 := by omega
    split <;> omega)
  unfold cR
  have e1 : (n : Int) * 10000000 ≤ 100000000 := by omega
  omega
theorem mz_abs {z : Int} {M : Int} (hM : 0 ≤ M) (h : -M ≤ z ∧ z ≤ M) : 0 ≤ mz z ∧ mz z ≤ M := by unfold mz; split <;> omega
theorem cS_abs {ix yo ce : Nat → Nat} {sv : Nat → Nat → Nat} {S y n : Nat} (hn : n ≤ 10) (h1 : ∀ y, ix y ≤ 2000) (h2 : ∀ w, ce w ≤ 1000000) (h3 : ∀ a b, sv a b ≤ 1000000) : 0 ≤ cS ix yo ce sv n S y ∧ cS ix yo ce sv n S y ≤ 100000000 := mz_abs (by omega) (cR_abs hn h1 h2 h3)
theorem iI_lt {a b : Int} (ha1 : -2147483648 ≤ a) (ha2 : a < 2147483648) (hb1 : -2147483648 ≤ b) (hb2 : b < 2147483648) : iI a < iI b ↔ a < b := by rw [Int32.lt_iff_toInt_lt, iI_toInt ha1 ha2, iI_toInt hb1 hb2]
theorem iI_le {a b : Int} (ha1 : -2147483648 ≤ a) (ha2 : a < 2147483648) (hb1 : -2147483648 ≤ b) (hb2 : b < 2147483648) : iI a ≤ iI b ↔ a ≤ b := by rw [Int32.le_iff_toInt_le, iI_toInt ha1 ha2, iI_toInt hb1 hb2]
theorem iI_eq {a b : Int} (ha1 : -2147483648 ≤ a) (ha2 : a < 2147483648) (hb1 : -2147483648 ≤ b) (hb2 : b < 2147483648) : iI a = iI b ↔ a = b := by
  constructor
  · intro h
    have := congrArg Int32.toInt h
    rwa [iI_toInt ha1 ha2, iI_toInt hb1 hb2] at this
  · rintro rfl; rfl
/-- an array's places beyond its length don't matter -/
theorem arrV_same {c : ClassId} {n : Nat} {f g : Nat → Value} (h : ∀ j, j < n → f j = g j) : arrV c n f = arrV c n g := by
  have e : (fun j : Fin n => f j.val) = fun j : Fin n => g j.val := funext (fun j => h j.1 j.2)
  unfold arrV
  rw [e]
theorem at_i {D : va_G} {cl : List vw_C} {a n : Nat} {cA : ClassId} {f g : Nat → Int32} (h : ∀ j, j < n → f j = g j) (H : Heap) (q : va_at D cl (a, .inl (cA, n, .inl f)) H) : va_at D cl (a, .inl (cA, n, .inl g)) H := by
  show H[a]? = some (arrV cA n (fun j => .int (g j)))
  rw [← arrV_same (f := fun j => .int (f j)) (fun j hj => by rw [h j hj])]
  exact q
theorem at_l {D : va_G} {cl : List vw_C} {a n : Nat} {cA : ClassId} {f g : Nat → Int64} (h : ∀ j, j < n → f j = g j) (H : Heap) (q : va_at D cl (a, .inl (cA, n, .inr (.inl f))) H) : va_at D cl (a, .inl (cA, n, .inr (.inl g))) H := by
  show H[a]? = some (arrV cA n (fun j => .long (g j)))
  rw [← arrV_same (f := fun j => .long (f j)) (fun j hj => by rw [h j hj])]
  exact q
section GSW
variable {p : Program} {l : Launch} {e : Env} {R : Room} {s : State} {m : MethodId} {args : Array Value} {below : List Frame} {meth : Method} {c : Code} {V : gV} {A : Nat → Prop} {H0 : Heap} {nL : Nat} {Q : State → Prop} {cells slots : Nat} {ws : va_W} {lv : List (Nat × Value)} {pc : Nat} {rest : List Value}
theorem g_swap (q : Nat) {a : Nat} {x x' : va_E} (hq : ws[q]? = some (a, x)) (hs : ∀ H, va_at V.1 clz (a, x) H → va_at V.1 clz (a, x') H) {ws' : va_W} (hw : ws.set q (a, x') = ws') (k : gg p l e R s m args below meth c nL Q cells slots (gW V A H0 ws') lv pc rest) : gg p l e R s m args below meth c nL Q cells slots (gW V A H0 ws) lv pc rest := fun H locs ls ho hl => k H locs ls ⟨hw ▸ ho.1.set ho.2.1 hq (hs H (ho.1 q _ hq)) (fun _ _ => rfl), hw ▸ ho.2.1.set hq, ho.2.2⟩ hl
end GSW
theorem set_same {w : va_W} {q : Nat} {x : Nat × va_E} (h : w[q]? = some x) : w = w.set q x := by
  apply List.ext_getElem?
  intro j
  rw [List.getElem?_set]
  split
  · rename_i e
    subst e
    rw [h]
    rw [if_pos (List.getElem?_eq_some_iff.mp h).1]
  · rfl
theorem get_set {w : va_W} {q : Nat} {x y : Nat × va_E} (h : w[q]? = some x) : (w.set q y)[q]? = some y := by
  rw [List.getElem?_set, if_pos rfl, if_pos (List.getElem?_eq_some_iff.mp h).1]
set_option maxHeartbeats 4000000 in
set_option maxRecDepth 100000 in
/-- Arrays.fill of an int[]: every place holds v -/
theorem C_fillI (l : Launch) {V : gV} {w : va_W} (q a n : Nat) (f : Nat → Int32) (v : Int32) (hq : w[q]? = some (a, .inl (V.2.1, n, .inl f))) (hn : n < 2 ^ 31) : mWv l y_Ar_fillI (w_Ar_fillI :: gt) rm_Ar_fillI V w [.ref a, .int v] (w.set q (a, .inl (V.2.1, n, .inl (fun _ => v)))) 0 0 := by
  intro sz
  refine gMet (V := V) (As := [.ref a, .int v]) (cc := c_Ar_fillI) (maxL := 4) (ret := none) (by decide) rfl (Nat.le_of_ble_eq_true rfl) (fun a U h => ⟨h.1, h.2.2.2.1⟩) ?_
  intro p e s m below meth c E hr hlk hnm hv
  refine g_toW (sz := sz) (w := w) hv.2.2.1 hv.2.2.2.2 ?_
  refine g_iconst (v := nI 0) E d_Ar_fillI_0 (by decide) ?_
  refine g_istore_n (lv' := [(2, .int (nI 0)), (0, .ref a), (1, .int v)]) E d_Ar_fillI_1 rfl (by decide) rfl ?_
  refine g_aload_n E d_Ar_fillI_2 rfl 1 rfl ?_
  refine g_alen E gO_w q 0 hq rfl d_Ar_fillI_3 ?_
  refine g_istore_n (lv' := [(3, .int (nI n)), (2, .int (nI 0)), (0, .ref a), (1, .int v)]) E d_Ar_fillI_4 rfl (by decide) rfl ?_
  refine g_ws (set_same hq) ?_
  refine gloop (α := Nat × (Nat → Int32)) (fun a_ => gW V _ _ (w.set q (a, .inl (V.2.1, n, .inl a_.2)))) (fun a_ => [(3, .int (nI n)), (2, .int (nI a_.1)), (0, .ref a), (1, .int v)]) (fun a_ => a_.1 ≤ n ∧ ∀ j, j < a_.1 → a_.2 j = v) (fun a_ => n - a_.1) (0, f) ⟨Nat.zero_le _, fun j hj => absurd hj (Nat.not_lt_zero _)⟩ ?_
  rintro ⟨i, g⟩ hI ih
  dsimp only at hI ih ⊢
  obtain ⟨h1, h2⟩ := hI
  refine g_iload_n E d_Ar_fillI_5 rfl 1 rfl ?_
  refine g_iload_n E d_Ar_fillI_6 rfl 0 rfl ?_
  refine g_ncmp_ge E 20 d_Ar_fillI_7 (by decide) (by omega) hn (fun h3 => ?_) (fun h3 => ?_)
  · refine g_swap q (x' := .inl (V.2.1, n, .inl (fun _ => v))) (get_set hq) (at_i (fun j hj => h2 j (by omega))) (List.set_set _) ?_
    exact g_vret E hr hlk d_Ar_fillI_20 (gq_wv (w1 := fun _ => w.set q (a, .inl (V.2.1, n, .inl (fun _ => v)))) () trivial)
  · refine g_aload_n E d_Ar_fillI_10 rfl 2 rfl ?_
    refine g_iload_n E d_Ar_fillI_11 rfl 1 rfl ?_
    refine g_iload_n E d_Ar_fillI_12 rfl 3 rfl ?_
    refine g_iastore (ws' := w.set q (a, .inl (V.2.1, n, .inl (upd g i v)))) E q 0 (get_set hq) rfl h3 hn (List.set_set _) d_Ar_fillI_13 ?_
    refine g_iinc (lv' := [(2, .int (nI (i + 1))), (3, .int (nI n)), (0, .ref a), (1, .int v)]) E d_Ar_fillI_14 1 rfl (nI_inc _) (by decide) rfl ?_
    refine g_goto E 5 d_Ar_fillI_17 (by decide) ?_
    refine g_lv [1, 0, 2, 3] rfl ?_
    exact ih (i + 1, upd g i v) ⟨by omega, fun j hj => by
      dsimp only
      unfold upd
      split
      · rfl
      · exact h2 j (by omega)⟩ (by dsimp only; omega)
set_option maxHeartbeats 4000000 in
set_option maxRecDepth 100000 in
/-- Arrays.fill of a long[] -/
theorem C_fillJ (l : Launch) {V : gV} {w : va_W} (q a n : Nat) (f : Nat → Int64) (v : Int64) (hq : w[q]? = some (a, .inl (V.2.2.1, n, .inr (.inl f)))) (hn : n < 2 ^ 31) : mWv l y_Ar_fillJ (w_Ar_fillJ :: gt) rm_Ar_fillJ V w [.ref a, .long v] (w.set q (a, .inl (V.2.2.1, n, .inr (.inl (fun _ => v))))) 0 0 := by
  intro sz
  refine gMet (V := V) (As := [.ref a, .long v]) (cc := c_Ar_fillJ) (maxL := 5) (ret := none) (by decide) rfl (Nat.le_of_ble_eq_true rfl) (fun a U h => ⟨h.1, h.2.2.2.1⟩) ?_
  intro p e s m below meth c E hr hlk hnm hv
  refine g_toW (sz := sz) (w := w) hv.2.2.1 hv.2.2.2.2 ?_
  refine g_iconst (v := nI 0) E d_Ar_fillJ_0 (by decide) ?_
  refine g_istore_n (lv' := [(3, .int (nI 0)), (0, .ref a), (1, .long v)]) E d_Ar_fillJ_1 rfl (by decide) rfl ?_
  refine g_aload_n E d_Ar_fillJ_2 rfl 1 rfl ?_
  refine g_alen E gO_w q 1 hq rfl d_Ar_fillJ_3 ?_
  refine g_istore (lv' := [(4, .int (nI n)), (3, .int (nI 0)), (0, .ref a), (1, .long v)]) E d_Ar_fillJ_4 (by decide) rfl ?_
  refine g_ws (set_same hq) ?_
  refine gloop (α := Nat × (Nat → Int64)) (fun a_ => gW V _ _ (w.set q (a, .inl (V.2.2.1, n, .inr (.inl a_.2))))) (fun a_ => [(4, .int (nI n)), (3, .int (nI a_.1)), (0, .ref a), (1, .long v)]) (fun a_ => a_.1 ≤ n ∧ ∀ j, j < a_.1 → a_.2 j = v) (fun a_ => n - a_.1) (0, f) ⟨Nat.zero_le _, fun j hj => absurd hj (Nat.not_lt_zero _)⟩ ?_
  rintro ⟨i, g⟩ hI ih
  dsimp only at hI ih ⊢
  obtain ⟨h1, h2⟩ := hI
  refine g_iload_n E d_Ar_fillJ_6 rfl 1 rfl ?_
  refine g_iload E d_Ar_fillJ_7 0 rfl ?_
  refine g_ncmp_ge E 22 d_Ar_fillJ_9 (by decide) (by omega) hn (fun h3 => ?_) (fun h3 => ?_)
  · refine g_swap q (x' := .inl (V.2.2.1, n, .inr (.inl (fun _ => v)))) (get_set hq) (at_l (fun j hj => h2 j (by omega))) (List.set_set _) ?_
    exact g_vret E hr hlk d_Ar_fillJ_22 (gq_wv (w1 := fun _ => w.set q (a, .inl (V.2.2.1, n, .inr (.inl (fun _ => v))))) () trivial)
  · refine g_aload_n E d_Ar_fillJ_12 rfl 2 rfl ?_
    refine g_iload_n E d_Ar_fillJ_13 rfl 1 rfl ?_
    refine g_lload_n E d_Ar_fillJ_14 rfl 3 rfl ?_
    refine g_lastore (ws' := w.set q (a, .inl (V.2.2.1, n, .inr (.inl (vp_updL g i v))))) E q 1 (get_set hq) rfl h3 hn (List.set_set _) d_Ar_fillJ_15 ?_
    refine g_iinc (lv' := [(3, .int (nI (i + 1))), (4, .int (nI n)), (0, .ref a), (1, .long v)]) E d_Ar_fillJ_16 1 rfl (nI_inc _) (by decide) rfl ?_
    refine g_goto E 6 d_Ar_fillJ_19 (by decide) ?_
    refine g_lv [1, 0, 2, 3] rfl ?_
    exact ih (i + 1, vp_updL g i v) ⟨by omega, fun j hj => by
      dsimp only
      unfold vp_updL
      split
      · rfl
      · exact h2 j (by omega)⟩ (by dsimp only; omega)
theorem k_maxI : Cond.code Lib.Math.max.name Lib.Math.max.code 2 (some .int) ∈ gt := gt_at 53 (by decide +kernel) (by decide +kernel)
theorem k_minI : Cond.code Lib.Math.min.name Lib.Math.min.code 2 (some .int) ∈ gt := gt_at 50 (by decide +kernel) (by decide +kernel)
theorem k_maxJ : Cond.code Lib.MathLoose.max_long.x Lib.MathLoose.max_long.code 4 (some .long) ∈ gt := gt_at 566 (by decide +kernel) (by decide +kernel)
theorem k_sys : Cond.initialized "java/lang/System" ∈ gt := gt_at 36 (by decide +kernel) (by decide +kernel)
theorem k_cps : Cond.static arraycopyName ∈ gt := gt_at 287 (by decide +kernel) (by decide +kernel)
theorem k_cpn : Cond.native arraycopyName ∈ gt := gt_at 288 (by decide +kernel) (by decide +kernel)
section GMM
variable {p : Program} {l : Launch} {e : Env} {R : Room} {s : State} {m : MethodId} {args : Array Value} {below : List Frame} {meth : Method} {c : Code} {V : gV} {A : Nat → Prop} {H0 : Heap} {nL : Nat} {Q : State → Prop} {cells slots : Nat} {om : Heap → List Loc → Prop} {ws : va_W} {lv : List (Nat × Value)} {pc : Nat} {rest : List Value} {cc : ByteArray} {own : String}
theorem g_maxI (E : gE p s m args c cc nL own V) {index : Nat} {x y : Int32} (hl0 : Cond.methodLink own index Lib.Math.max.name ∈ gt) (hfr : 1 ≤ R.frames) (hlo : (rest.map fun v => v.category).sum + 13 ≤ R.locals) (hc : cells ≤ R.cells) (hs : slots ≤ R.slots) (hd : decode cc pc = .ok (.invokestatic index, 3)) (k : gg p l e R s m args below meth c nL Q cells slots om lv (pc + 3) (.int (if x < y then y else x) :: rest)) : gg p l e R s m args below meth c nL Q cells slots om lv pc (.int y :: .int x :: rest) := fun H locs ls ho hl => va_mmax E.1 E.2.1 (E.2.2.1.trans hl.1.symm) E.2.2.2.1 (E.2.2.2.2.1 _ hl0) (E.2.2.2.2.1 _ ks_Ma_maxI) (E.2.2.2.2.1 _ kn_Ma) (E.2.2.2.2.1 _ k_maxI) hfr hlo hc hs hd (k H locs ls ho hl)
theorem g_minI (E : gE p s m args c cc nL own V) {index : Nat} {x y : Int32} (hl0 : Cond.methodLink own index Lib.Math.min.name ∈ gt) (hfr : 1 ≤ R.frames) (hlo : (rest.map fun v => v.category).sum + 13 ≤ R.locals) (hc : cells ≤ R.cells) (hs : slots ≤ R.slots) (hd : decode cc pc = .ok (.invokestatic index, 3)) (k : gg p l e R s m args below meth c nL Q cells slots om lv (pc + 3) (.int (if y < x then y else x) :: rest)) : gg p l e R s m args below meth c nL Q cells slots om lv pc (.int y :: .int x :: rest) := fun H locs ls ho hl => va_mmin E.1 E.2.1 (E.2.2.1.trans hl.1.symm) E.2.2.2.1 (E.2.2.2.2.1 _ hl0) (E.2.2.2.2.1 _ ks_Ma_minI) (E.2.2.2.2.1 _ kn_Ma) (E.2.2.2.2.1 _ k_minI) hfr hlo hc hs hd (k H locs ls ho hl)
theorem g_maxJ (E : gE p s m args c cc nL own V) {index : Nat} {x y : Int64} (hl0 : Cond.methodLink own index Lib.MathLoose.max_long.x ∈ gt) (hfr : 1 ≤ R.frames) (hlo : (rest.map fun v => v.category).sum + 15 ≤ R.locals) (hc : cells ≤ R.cells) (hs : slots ≤ R.slots) (hd : decode cc pc = .ok (.invokestatic index, 3)) (k : gg p l e R s m args below meth c nL Q cells slots om lv (pc + 3) (.long (if y < x then x else y) :: rest)) : gg p l e R s m args below meth c nL Q cells slots om lv pc (.long y :: .long x :: rest) := fun H locs ls ho hl => va_mmax_long E.1 E.2.1 (E.2.2.1.trans hl.1.symm) E.2.2.2.1 (E.2.2.2.2.1 _ hl0) (E.2.2.2.2.1 _ ks_Ma_maxJ) (E.2.2.2.2.1 _ kn_Ma) (E.2.2.2.2.1 _ k_maxJ) hfr hlo hc hs hd (k H locs ls ho hl)
end GMM
theorem max_mz {z : Int} (h1 : -2147483648 ≤ z) (h2 : z < 2147483648) : (if iI z < nI 0 then nI 0 else iI z) = iI (mz z) := by
  have e : nI 0 = iI 0 := nI_iI 0
  unfold mz
  by_cases h : z < 0
  · rw [if_pos (by rw [e, iI_lt h1 h2 (by decide) (by decide)]; exact h), if_pos h, e]
  · rw [if_neg (by rw [e, iI_lt h1 h2 (by decide) (by decide)]; exact h), if_neg h]
theorem sumZ_congr {f g : Nat → Int} {n : Nat} (h : ∀ i, i < n → f i = g i) : sumZ f n = sumZ g n := by
  induction n with
  | zero => rfl
  | succ n ih => simp only [sumZ]; rw [ih (fun i hi => h i (by omega)), h n (by omega)]
