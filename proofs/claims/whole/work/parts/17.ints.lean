section GZ
variable {p : Program} {l : Launch} {e : Env} {R : Room} {s : State} {m : MethodId} {args : Array Value} {below : List Frame} {meth : Method} {c : Code} {V : gV} {nL : Nat} {Q : State → Prop} {cells slots : Nat} {om : Heap → List Loc → Prop} {lv : List (Nat × Value)} {pc : Nat} {rest : List Value} {cc : ByteArray} {own : String}
theorem g_zcmp_eq (E : gE p s m args c cc nL own V) {a b : Int} {off : Int} (tgt : Nat) (hd : decode cc pc = .ok (.if_icmp .eq off, 3)) (ht : (pc : Int) + off = (tgt : Int)) (ha1 : -2147483648 ≤ a) (ha2 : a < 2147483648) (hb1 : -2147483648 ≤ b) (hb2 : b < 2147483648) (kt : a = b → gg p l e R s m args below meth c nL Q cells slots om lv tgt rest) (kf : a ≠ b → gg p l e R s m args below meth c nL Q cells slots om lv (pc + 3) rest) : gg p l e R s m args below meth c nL Q cells slots om lv pc (.int (iI b) :: .int (iI a) :: rest) := g_icmp_eq E tgt hd ht (fun q => kt ((iI_eq ha1 ha2 hb1 hb2).mp q)) (fun q => kf (fun z => q ((iI_eq ha1 ha2 hb1 hb2).mpr z)))
theorem g_zcmp_ne (E : gE p s m args c cc nL own V) {a b : Int} {off : Int} (tgt : Nat) (hd : decode cc pc = .ok (.if_icmp .ne off, 3)) (ht : (pc : Int) + off = (tgt : Int)) (ha1 : -2147483648 ≤ a) (ha2 : a < 2147483648) (hb1 : -2147483648 ≤ b) (hb2 : b < 2147483648) (kt : a ≠ b → gg p l e R s m args below meth c nL Q cells slots om lv tgt rest) (kf : a = b → gg p l e R s m args below meth c nL Q cells slots om lv (pc + 3) rest) : gg p l e R s m args below meth c nL Q cells slots om lv pc (.int (iI b) :: .int (iI a) :: rest) := g_icmp_ne E tgt hd ht (fun q => kt (fun z => q ((iI_eq ha1 ha2 hb1 hb2).mpr z))) (fun q => kf ((iI_eq ha1 ha2 hb1 hb2).mp q))
theorem g_zcmp_lt (E : gE p s m args c cc nL own V) {a b : Int} {off : Int} (tgt : Nat) (hd : decode cc pc = .ok (.if_icmp .lt off, 3)) (ht : (pc : Int) + off = (tgt : Int)) (ha1 : -2147483648 ≤ a) (ha2 : a < 2147483648) (hb1 : -2147483648 ≤ b) (hb2 : b < 2147483648) (kt : a < b → gg p l e R s m args below meth c nL Q cells slots om lv tgt rest) (kf : b ≤ a → gg p l e R s m args below meth c nL Q cells slots om lv (pc + 3) rest) : gg p l e R s m args below meth c nL Q cells slots om lv pc (.int (iI b) :: .int (iI a) :: rest) := g_icmp_lt E tgt hd ht (fun q => kt ((iI_lt ha1 ha2 hb1 hb2).mp q)) (fun q => kf (by have z := mt (iI_lt ha1 ha2 hb1 hb2).mpr q; omega))
theorem g_zcmp_ge (E : gE p s m args c cc nL own V) {a b : Int} {off : Int} (tgt : Nat) (hd : decode cc pc = .ok (.if_icmp .ge off, 3)) (ht : (pc : Int) + off = (tgt : Int)) (ha1 : -2147483648 ≤ a) (ha2 : a < 2147483648) (hb1 : -2147483648 ≤ b) (hb2 : b < 2147483648) (kt : b ≤ a → gg p l e R s m args below meth c nL Q cells slots om lv tgt rest) (kf : a < b → gg p l e R s m args below meth c nL Q cells slots om lv (pc + 3) rest) : gg p l e R s m args below meth c nL Q cells slots om lv pc (.int (iI b) :: .int (iI a) :: rest) := g_icmp_ge E tgt hd ht (fun q => kt ((iI_le hb1 hb2 ha1 ha2).mp q)) (fun q => kf (by have z := mt (iI_le hb1 hb2 ha1 ha2).mpr q; omega))
theorem g_zcmp_gt (E : gE p s m args c cc nL own V) {a b : Int} {off : Int} (tgt : Nat) (hd : decode cc pc = .ok (.if_icmp .gt off, 3)) (ht : (pc : Int) + off = (tgt : Int)) (ha1 : -2147483648 ≤ a) (ha2 : a < 2147483648) (hb1 : -2147483648 ≤ b) (hb2 : b < 2147483648) (kt : b < a → gg p l e R s m args below meth c nL Q cells slots om lv tgt rest) (kf : a ≤ b → gg p l e R s m args below meth c nL Q cells slots om lv (pc + 3) rest) : gg p l e R s m args below meth c nL Q cells slots om lv pc (.int (iI b) :: .int (iI a) :: rest) := g_icmp_gt E tgt hd ht (fun q => kt ((iI_lt hb1 hb2 ha1 ha2).mp q)) (fun q => kf (by have z := mt (iI_lt hb1 hb2 ha1 ha2).mpr q; omega))
theorem g_zcmp_le (E : gE p s m args c cc nL own V) {a b : Int} {off : Int} (tgt : Nat) (hd : decode cc pc = .ok (.if_icmp .le off, 3)) (ht : (pc : Int) + off = (tgt : Int)) (ha1 : -2147483648 ≤ a) (ha2 : a < 2147483648) (hb1 : -2147483648 ≤ b) (hb2 : b < 2147483648) (kt : a ≤ b → gg p l e R s m args below meth c nL Q cells slots om lv tgt rest) (kf : b < a → gg p l e R s m args below meth c nL Q cells slots om lv (pc + 3) rest) : gg p l e R s m args below meth c nL Q cells slots om lv pc (.int (iI b) :: .int (iI a) :: rest) := g_icmp_le E tgt hd ht (fun q => kt ((iI_le ha1 ha2 hb1 hb2).mp q)) (fun q => kf (by have z := mt (iI_le ha1 ha2 hb1 hb2).mpr q; omega))
theorem z0_eq {a : Int} (h1 : -2147483648 ≤ a) (h2 : a < 2147483648) : iI a = 0 ↔ a = 0 := by rw [show (0 : Int32) = iI 0 from rfl]; exact iI_eq h1 h2 (by decide) (by decide)
theorem g_zif_ne (E : gE p s m args c cc nL own V) {a : Int} {off : Int} (tgt : Nat) (hd : decode cc pc = .ok (.ifCond .ne off, 3)) (ht : (pc : Int) + off = (tgt : Int)) (h1 : -2147483648 ≤ a) (h2 : a < 2147483648) (kt : a ≠ 0 → gg p l e R s m args below meth c nL Q cells slots om lv tgt rest) (kf : a = 0 → gg p l e R s m args below meth c nL Q cells slots om lv (pc + 3) rest) : gg p l e R s m args below meth c nL Q cells slots om lv pc (.int (iI a) :: rest) := g_if_ne E tgt hd ht (fun q => kt (fun z => q ((z0_eq h1 h2).mpr z))) (fun q => kf ((z0_eq h1 h2).mp q))
theorem lI_lt {a b : Int} (ha1 : -9223372036854775808 ≤ a) (ha2 : a < 9223372036854775808) (hb1 : -9223372036854775808 ≤ b) (hb2 : b < 9223372036854775808) : lI a < lI b ↔ a < b := by rw [Int64.lt_iff_toInt_lt, lI_toInt ha1 ha2, lI_toInt hb1 hb2]
theorem lI_eq {a b : Int} (ha1 : -9223372036854775808 ≤ a) (ha2 : a < 9223372036854775808) (hb1 : -9223372036854775808 ≤ b) (hb2 : b < 9223372036854775808) : lI a = lI b ↔ a = b := by
  constructor
  · intro h
    have := congrArg Int64.toInt h
    rwa [lI_toInt ha1 ha2, lI_toInt hb1 hb2] at this
  · rintro rfl; rfl
/-- a compare of longs, and the branch on it -/
theorem lg_lt {x y : Int64} : lg_cmp x y < 0 ↔ x < y := by
  unfold lg_cmp
  by_cases h1 : y < x
  · have h2 : ¬ x < y := by rw [Int64.lt_iff_toInt_lt] at *; omega
    simp [h1, h2]
  · by_cases h2 : x < y
    · have h3 : ¬ x = y := fun q => by subst q; exact h1 h2
      simp [h1, h2, h3]
    · have h3 : x = y := Int64.toInt.inj (by rw [Int64.lt_iff_toInt_lt] at h1 h2; omega)
      subst h3; simp [h1]
theorem lg_gt {x y : Int64} : 0 < lg_cmp x y ↔ y < x := by
  unfold lg_cmp
  by_cases h1 : y < x
  · simp [h1]
  · by_cases h2 : x < y
    · have h3 : ¬ x = y := fun q => by subst q; exact h1 h2
      simp [h1, h3]
    · have h3 : x = y := Int64.toInt.inj (by rw [Int64.lt_iff_toInt_lt] at h1 h2; omega)
      subst h3; simp [h1]
theorem lg_eq {x y : Int64} : lg_cmp x y = 0 ↔ x = y := by
  constructor
  · intro h
    have a1 : ¬ x < y := fun q => absurd (lg_lt.mpr q) (by rw [h]; decide)
    have a2 : ¬ y < x := fun q => absurd (lg_gt.mpr q) (by rw [h]; decide)
    exact Int64.toInt.inj (by rw [Int64.lt_iff_toInt_lt] at a1 a2; omega)
  · rintro rfl
    have a1 : ¬ x < x := by rw [Int64.lt_iff_toInt_lt]; omega
    simp [lg_cmp, a1]
end GZ
/-! The choice: the sets in the order of their numbers. -/
def chS (wv : Nat → Nat) (ag : Nat → Bool) (co ov : Nat → Int) (S : Nat) (b : Nat × Nat × Int) : Nat × Nat × Int :=
  if decide (b.2.1 ≤ wv S) && ag S && (decide (b.2.1 < wv S) || decide (co S < b.2.2)) && decide (ov S = 0) then (S, wv S, co S) else b
def chN (wv : Nat → Nat) (ag : Nat → Bool) (co ov : Nat → Int) : Nat → Nat × Nat × Int
  | 0 => (0, 0, 0)
  | n + 1 => chS wv ag co ov (n + 1) (chN wv ag co ov n)
def spN (wv : Nat → Nat) (ag : Nat → Bool) (co ov : Nat → Int) (cc : Nat → Nat → Int) (sp : Nat → Int) : Nat → Nat → Int
  | 0 => sp
  | n + 1 => if decide ((chN wv ag co ov n).2.1 ≤ wv (n + 1)) && ag (n + 1) then cc (n + 1) else spN wv ag co ov cc sp n
theorem wS_le {wo : Nat → Nat} {S n : Nat} (h : ∀ w, wo w ≤ 1000000) : wS wo S n ≤ n * 1000000 := by
  apply sumN_le
  intro i _
  split
  · exact h _
  · omega
theorem sumZ_bd {f : Nat → Int} {M : Int} {n : Nat} (h : ∀ i, i < n → 0 ≤ f i ∧ f i ≤ M) : 0 ≤ sumZ f n ∧ sumZ f n ≤ n * M := by
  induction n with
  | zero => simp [sumZ]
  | succ n ih =>
    have h1 := ih (fun i hi => h i (by omega))
    have h2 := h n (by omega)
    have e : ((n + 1 : Nat) : Int) * M = n * M + M := by rw [Int.natCast_add, Int.add_mul]; simp
    simp only [sumZ]
    omega
theorem co_bd {f : Nat → Int} {n : Nat} (hn : n ≤ 12) (h : ∀ y, 0 ≤ f y ∧ f y ≤ 100000000) : 0 ≤ sumZ f n ∧ sumZ f n ≤ 1200000000 := by
  have := sumZ_bd (n := n) (fun i _ => h i)
  omega
theorem oB_bd {bu : Nat → Nat} {f : Nat → Int} {n : Nat} (hn : n ≤ 12) (h : ∀ y, 0 ≤ f y ∧ f y ≤ 100000000) : 0 ≤ oB bu f n ∧ oB bu f n ≤ 1200000000 := by
  unfold oB
  have := sumZ_bd (f := fun y => mz (f y - (bu y : Int))) (M := 100000000) (n := n) (fun i _ => by have := h i; unfold mz; split <;> omega)
  omega
