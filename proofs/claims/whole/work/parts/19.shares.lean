/-! Shares of parts, as functions on numbers. (The first seven rows are of laws/BITS.to-paste.) -/
theorem wb_tb (n : Nat) : (lN n).toBitVec = BitVec.ofNat 64 n := rfl
theorem wb_inj {a b : Int64} (h : a.toBitVec = b.toBitVec) : a = b := Int64.toBitVec_inj.mp h
theorem wb_c : ∀ k, k < 64 → ((nI k).toInt64 &&& 63) = lN k := by decide +kernel
theorem wb_sm : ∀ k, k < 64 → (BitVec.ofNat 64 k).smod 64 = BitVec.ofNat 64 k := by decide +kernel
theorem wb_shl (n : Nat) {k : Nat} (hk : k < 64) : lN n <<< ((nI k).toInt64 &&& 63) = lN (n * 2 ^ k) := by
  rw [wb_c k hk]
  apply wb_inj
  rw [Int64.toBitVec_shiftLeft, wb_tb, wb_tb, wb_tb, wb_sm k hk]
  apply BitVec.eq_of_toNat_eq
  rw [BitVec.shiftLeft_eq', BitVec.toNat_shiftLeft, BitVec.toNat_ofNat, BitVec.toNat_ofNat, BitVec.toNat_ofNat, Nat.mod_eq_of_lt (show k < 2 ^ 64 by omega), Nat.shiftLeft_eq, Nat.mul_mod, Nat.mod_mod, ← Nat.mul_mod]
theorem pf_lI {a : Nat} (h : a < 2 ^ 63) : (lN a).toInt = (a : Int) := lg_ofNat_toInt h
theorem pf_shr {a d : Nat} {D : Int64} (hD : (D.toBitVec.smod 64).toNat = d) (h : a < 2 ^ 62) : lN a >>> D = lN (a / 2 ^ d) := by
  have hd : a / 2 ^ d ≤ a := Nat.div_le_self _ _
  apply Int64.toInt_inj.mp
  have e : (lN a >>> D).toInt = (lN a).toInt >>> d := by
    rw [← hD]
    exact BitVec.toInt_sshiftRight ..
  rw [e, Int.shiftRight_eq_div_pow, pf_lI (by omega), pf_lI (by omega)]
  rfl
theorem lN_shr {a k : Nat} (h : a < 2 ^ 62) (hk : k < 64) : lN a >>> ((nI k).toInt64 &&& 63) = lN (a / 2 ^ k) := pf_shr (by rw [wb_c k hk, wb_tb, wb_sm k hk, BitVec.toNat_ofNat]; exact Nat.mod_eq_of_lt (by omega)) h
theorem sumN_congr {f g : Nat → Nat} {n : Nat} (h : ∀ i, i < n → f i = g i) : sumN f n = sumN g n := by
  induction n with
  | zero => rfl
  | succ n ih => simp only [sumN]; rw [ih (fun i hi => h i (by omega)), h n (by omega)]
theorem sumN_add {f g : Nat → Nat} {n : Nat} : sumN (fun i => f i + g i) n = sumN f n + sumN g n := by
  induction n with
  | zero => rfl
  | succ n ih => simp only [sumN, ih]; omega
theorem sumN_zero {n : Nat} : sumN (fun _ => 0) n = 0 := by
  induction n with
  | zero => rfl
  | succ n ih => simp only [sumN, ih]
theorem sumN_comm {f : Nat → Nat → Nat} {n k : Nat} : sumN (fun i => sumN (fun j => f i j) k) n = sumN (fun j => sumN (fun i => f i j) n) k := by
  induction n with
  | zero => simp only [sumN]; rw [sumN_zero]
  | succ n ih => simp only [sumN, ih]; rw [← sumN_add]
theorem sumN_mulL {f : Nat → Nat} {c n : Nat} : sumN (fun i => c * f i) n = c * sumN f n := by
  induction n with
  | zero => rfl
  | succ n ih => simp only [sumN, ih, Nat.mul_add]
theorem sumN_mulR {f : Nat → Nat} {c n : Nat} : sumN (fun i => f i * c) n = sumN f n * c := by
  induction n with
  | zero => simp [sumN]
  | succ n ih => simp only [sumN, ih, Nat.add_mul]
theorem sumN_one {r n : Nat} (h : r < n) : sumN (fun j => if j = r then 1 else 0) n = 1 := by
  induction n with
  | zero => omega
  | succ n ih =>
    simp only [sumN]
    by_cases e : r = n
    · subst e
      rw [if_pos rfl, sumN_congr (g := fun _ => 0) (fun i hi => if_neg (by omega)), sumN_zero]
    · rw [ih (by omega), if_neg (Ne.symm e)]
theorem sumN_at {f : Nat → Nat} {n i : Nat} (h : i < n) : f i ≤ sumN f n := by
  induction n with
  | zero => omega
  | succ n ih =>
    simp only [sumN]
    by_cases e : i = n
    · subst e; omega
    · have := ih (by omega); omega
/-- wholly in the start -/
def beg (r : Nat) : Nat → Nat := va_up (fun _ => 0) r 1
/-- what comes to state j -/
def wrJ (sh M : Nat → Nat) (n j : Nat) : Nat := sumN (fun a => sh a * M (a * 4 + j)) n
def wrV (sh M : Nat → Nat) (n : Nat) (sn : Nat → Nat) : Nat → Nat := fun j => if j < n then wrJ sh M n j else sn j
/-- a part begins in this year -/
def enB (rn y : Nat) : Bool := decide (y = 0) || rn.testBit y
/-- shares, years worn, and the other row, behind k years entered -/
def eY (r : Nat) (M : Nat → Nat) (n rn : Nat) (sh sn : Nat → Nat) (yw : Nat) : Nat → (Nat → Nat) × Nat × (Nat → Nat)
  | 0 => (sh, yw, sn)
  | k + 1 => (if enB rn k then beg r else wrV (eY r M n rn sh sn yw k).1 M n (eY r M n rn sh sn yw k).1, if enB rn k then 0 else (eY r M n rn sh sn yw k).2.1 + 1, if enB rn k then (eY r M n rn sh sn yw k).2.2 else wrV (eY r M n rn sh sn yw k).1 M n (eY r M n rn sh sn yw k).2.2)
theorem ifu {F G : Nat → Nat} {t : Nat} : va_up (fun j => if j < t then F j else G j) t (F t) = fun j => if j < t + 1 then F j else G j := by
  funext y
  by_cases e : y = t
  · subst e; rw [va_up_self, if_pos (Nat.lt_succ_self _)]
  · rw [va_up_ne _ _ e]
    by_cases h : y < t
    · rw [if_pos h, if_pos (by omega)]
    · rw [if_neg h, if_neg (by omega)]
theorem ifuZ {F G : Nat → Int} {t : Nat} : va_up (fun j => if j < t then F j else G j) t (F t) = fun j => if j < t + 1 then F j else G j := by
  funext y
  by_cases e : y = t
  · subst e; rw [va_up_self, if_pos (Nat.lt_succ_self _)]
  · rw [va_up_ne _ _ e]
    by_cases h : y < t
    · rw [if_pos h, if_pos (by omega)]
    · rw [if_neg h, if_neg (by omega)]
/-- all shares together are 16 to the power of the years worn -/
theorem eY_sum {r : Nat} {M : Nat → Nat} {n rn : Nat} {sh sn : Nat → Nat} {yw : Nat} (hr : r < n) (hM : ∀ a, a < n → sumN (fun j => M (a * 4 + j)) n = 16) : ∀ k, sumN (eY r M n rn sh sn yw (k + 1)).1 n = 16 ^ (eY r M n rn sh sn yw (k + 1)).2.1 ∧ (eY r M n rn sh sn yw (k + 1)).2.1 ≤ k := by
  intro k
  induction k with
  | zero =>
    simp only [eY, enB, decide_true, Bool.true_or, if_true]
    exact ⟨(show sumN (beg r) n = 16 ^ 0 from sumN_one hr), Nat.le_refl _⟩
  | succ k ih =>
    rw [eY]
    by_cases h : enB rn (k + 1) = true
    · simp only [h, if_true]
      exact ⟨(show sumN (beg r) n = 16 ^ 0 from sumN_one hr), Nat.zero_le _⟩
    · simp only [h, Bool.false_eq_true, if_false]
      refine ⟨?_, by omega⟩
      rw [sumN_congr (g := fun j => sumN (fun a => (eY r M n rn sh sn yw (k + 1)).1 a * M (a * 4 + j)) n) (fun j hj => by simp [wrV, hj, wrJ]), sumN_comm, sumN_congr (g := fun a => (eY r M n rn sh sn yw (k + 1)).1 a * 16) (fun a ha => by rw [sumN_mulL, hM a ha]), sumN_mulR, ih.1, Nat.pow_succ]
theorem pow16 {k : Nat} (h : k ≤ 11) : 16 ^ k ≤ 17592186044416 := by
  have := Nat.pow_le_pow_right (n := 16) (by decide) h
  exact Nat.le_trans this (by decide)
section GCP
variable {p : Program} {l : Launch} {e : Env} {R : Room} {s : State} {m : MethodId} {args : Array Value} {below : List Frame} {meth : Method} {c : Code} {V : gV} {A : Nat → Prop} {H0 : Heap} {nL : Nat} {Q : State → Prop} {cells slots : Nat} {ws : va_W} {lv : List (Nat × Value)} {pc : Nat} {rest : List Value} {cc : ByteArray} {own : String}
theorem g_copyL (E : gE p s m args c cc nL own V) {index : Nat} (hlink : Cond.methodLink own index arraycopyName ∈ gt) (q0 q1 : Nat) {a0 a n0 n1 n : Nat} {f g : Nat → Nat} (ha0 : ws[q0]? = some (a0, aL V n0 f)) (ha1 : ws[q1]? = some (a, aL V n1 g)) (h4 : n ≤ n0) (h5 : n ≤ n1) (hn : n < 2 ^ 31) (hfr : 1 ≤ R.frames) (hlo : (rest.map fun v => v.category).sum + (nativeFrameWords "java/lang/System" "arraycopy" 5 + 11) ≤ R.locals) {ws' : va_W} (hw : ws.set q1 (a, aL V n1 (fun j => if j < n then f j else g j)) = ws') (hd : decode cc pc = .ok (.invokestatic index, 3)) (k : gg p l e R s m args below meth c nL Q cells slots (gW V A H0 ws') lv (pc + 3) rest) : gg p l e R s m args below meth c nL Q cells slots (gW V A H0 ws) lv pc (.int (nI n) :: .int (nI 0) :: .ref a :: .int (nI 0) :: .ref a0 :: rest) := by
  intro H locs ls ho hl
  have e0 : (nI 0).toNatClampNeg = 0 := by decide
  have en : (nI n).toNatClampNeg = n := nI_clamp hn
  refine va_copyl E.1 E.2.1 (E.2.2.1.trans hl.1.symm) E.2.2.2.1 (E.2.2.2.2.1 _ hlink) (E.2.2.2.2.1 _ k_cpn) (E.2.2.2.2.1 _ k_cps) (E.2.2.2.2.1 _ k_sys) E.2.2.2.2.2.1 ho.1 ho.2.1 ho.2.2 q0 q1 1 1 ha0 ha1 rfl rfl rfl (by decide) (by decide) (nI_pos hn) (by rw [e0, en]; omega) (by rw [e0, en]; omega) (fun _ _ => rfl) hfr hlo hd (fun H1 locs1 hP1 hD1 hS1 => ?_)
  have ef : va_cpy (fun j => lN (f j)) (fun j => lN (g j)) (nI 0).toNatClampNeg (nI 0).toNatClampNeg (nI n).toNatClampNeg = fun j => lN (if j < n then f j else g j) := by
    funext j
    rw [e0, en]
    unfold va_cpy
    by_cases h : j < n
    · rw [if_pos (by omega), if_pos h]; simp
    · rw [if_neg (by omega), if_neg h]
  rw [ef] at hP1 hD1
  exact k H1 locs1 ls ⟨hw ▸ hP1, hw ▸ hD1, hS1⟩ hl
end GCP
