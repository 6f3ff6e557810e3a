/-! Numbers and bits; the class's rows of arrays of arrays. -/
theorem nI_c1 : nI 1 = 1 := rfl
def inB (x a b : Int32) : Bool := !decide (x < a) && !decide (b < x)
def inR (x n : Int32) : Bool := !decide (x < 0) && !decide (n ≤ x)
theorem inR_iff {x : Int32} {n : Nat} (hn : n < 2 ^ 31) : inR x (nI n) = true ↔ ∃ j, j < n ∧ x = nI j := by
  constructor
  · intro h
    simp only [inR, Bool.and_eq_true, Bool.not_eq_true', decide_eq_false_iff_not] at h
    rcases pk_ix x hn with h1 | h1 | h1
    · exact absurd h1 h.1
    · exact absurd h1 h.2
    · exact h1
  · rintro ⟨j, hj, rfl⟩
    simp only [inR, Bool.and_eq_true, Bool.not_eq_true', decide_eq_false_iff_not]
    exact ⟨nI_pos (by omega), nI_ge hj hn⟩
theorem sh_s : ∀ n, n < 32 → ((nI n &&& 31).toBitVec.smod 32).toNat = n := by decide +kernel
theorem nI_bv (n : Nat) : (nI n).toBitVec = BitVec.ofNat 32 n := rfl
theorem i32_ext {a b : Int32} (h : a.toBitVec = b.toBitVec) : a = b := Int32.toBitVec_inj.mp h
theorem nI_or (a b : Nat) : nI a ||| nI b = nI (a ||| b) := i32_ext (by simp [nI_bv, BitVec.ofNat_or])
theorem nI_and (a b : Nat) : nI a &&& nI b = nI (a &&& b) := i32_ext (by simp [nI_bv, BitVec.ofNat_and])
theorem nI_xor (a b : Nat) : nI a ^^^ nI b = nI (a ^^^ b) := i32_ext (by simp [nI_bv, BitVec.ofNat_xor])
theorem nI_bit {S b : Nat} (hS : S < 2 ^ 31) (hb : b < 31) : nI S >>> (nI b &&& 31) = nI (S / 2 ^ b) := pk_shrN hS _ b (sh_s b (by omega))
theorem nI_one {S : Nat} (hS : S < 2 ^ 31) : nI S &&& nI 1 = nI (S % 2) := by
  have := pk_andN (n := S) (by omega) (m := nI 1) 1 (by decide)
  simpa using this
theorem nI_pow {b : Nat} (hb : b < 31) : nI 1 <<< (nI b &&& 31) = nI (2 ^ b) := by
  have h : 2 ^ b ≤ 2 ^ 30 := Nat.pow_le_pow_right (by decide) (by omega)
  have := pk_shlN (n := 1) (nI b &&& 31) b (sh_s b (by omega)) (by omega)
  rw [this, Nat.one_mul]
/-- the set S with b in it, or without -/
def sB (S b : Nat) (on : Bool) : Nat := if on then S ||| 2 ^ b else (S ||| 2 ^ b) ^^^ 2 ^ b
theorem nI_clr (S b : Nat) : nI S &&& (nI (2 ^ b) ^^^ oN none) = nI ((S ||| 2 ^ b) ^^^ 2 ^ b) := by
  rw [← nI_xor, ← nI_or]
  apply i32_ext
  have h1 : (oN none).toBitVec = BitVec.allOnes 32 := by decide
  simp only [Int32.toBitVec_and, Int32.toBitVec_xor, Int32.toBitVec_or, h1, BitVec.xor_allOnes]
  ext i hi
  simp [hi]
  cases (nI S).toBitVec[i] <;> cases (nI (2 ^ b)).toBitVec[i] <;> rfl
theorem tB (S b : Nat) : S.testBit b = decide (S / 2 ^ b % 2 = 1) := Nat.testBit_eq_decide_div_mod_eq
theorem nI_subI (a b : Nat) : nI a - nI b = iI ((a : Int) - (b : Int)) := by rw [nI_iI, nI_iI, iI_sub]
theorem iI_addN (z : Int) (n : Nat) : iI z + nI n = iI (z + ((n : Nat) : Int)) := by rw [nI_iI, iI_add]
theorem iI_toInt {z : Int} (h1 : -2147483648 ≤ z) (h2 : z < 2147483648) : (iI z).toInt = z := by
  simp only [iI]; rw [Int32.toInt_ofInt]; simp [Int.bmod]; omega
theorem lI_toInt {z : Int} (h1 : -9223372036854775808 ≤ z) (h2 : z < 9223372036854775808) : (lI z).toInt = z := by
  simp only [lI]; rw [Int64.toInt_ofInt]; simp [Int.bmod]; omega
theorem iI_l {z : Int} (h1 : -2147483648 ≤ z) (h2 : z < 2147483648) : (iI z).toInt64 = lI z := by
  apply Int64.toInt.inj
  rw [Int32.toInt_toInt64, iI_toInt h1 h2, lI_toInt (by omega) (by omega)]
theorem lI_i (z : Int) : (lI z).toInt32 = iI z := by simp [lI, iI, Int64.toInt32_ofInt]
def mUp (M : Nat → Nat → Nat) (i j v : Nat) : Nat → Nat → Nat := va_up M i (va_up (M i) j v)
theorem aN_up (V : gV) (n : Nat) (M : Nat → Nat → Nat) (i : Nat) (f : Nat → Nat) : va_up (fun j => aN V n (M j)) i (aN V n f) = fun j => aN V n (va_up M i f j) := by
  funext j; by_cases h : j = i
  · subst h; rw [va_up_self, va_up_self]
  · rw [va_up_ne _ _ h, va_up_ne _ _ h]
section WCR
variable {V : gV} {ad r1 r2 r3 : Nat → Nat} {nY : Nat} {ix bu : Nat → Nat} {np : Nat} {st sr : Nat → Nat} {sx tk : Nat → Nat → Nat} {rn sh sn : Nat → Nat} {yw nw : Nat} {yo ce wo : Nat → Nat} {po ne : Nat → Option Nat} {cs : Nat → Nat} {sv : Nat → Nat → Nat} {mk : Nat} {sp rs : Nat → Int} {bg dp : Nat} {i : Nat} {f : Nat → Nat}
theorem wC_g1 (h : i < 12) : (wC V ad r1 r2 r3 nY ix bu np st sr sx tk rn sh sn yw nw yo ce wo po ne cs sv mk sp rs bg dp)[22 + i]? = some (r1 i, aN V 16 (sx i)) := gpl_get (g := fun i => aN V 16 (sx i)) rfl h
theorem wC_g2 (h : i < 12) : (wC V ad r1 r2 r3 nY ix bu np st sr sx tk rn sh sn yw nw yo ce wo po ne cs sv mk sp rs bg dp)[34 + i]? = some (r2 i, aN V 4 (tk i)) := gpl2_get (g := fun i => aN V 4 (tk i)) (by rw [gpool_len]; rfl) h
theorem wC_g3 (h : i < 10) : (wC V ad r1 r2 r3 nY ix bu np st sr sx tk rn sh sn yw nw yo ce wo po ne cs sv mk sp rs bg dp)[46 + i]? = some (r3 i, aN V 10 (sv i)) := gpl3_get (g := fun i => aN V 10 (sv i)) (by rw [gpool_len, gpool_len]; rfl) h
theorem wC_s1 (h : i < 12) : (wC V ad r1 r2 r3 nY ix bu np st sr sx tk rn sh sn yw nw yo ce wo po ne cs sv mk sp rs bg dp).set (22 + i) (r1 i, aN V 16 f) = wC V ad r1 r2 r3 nY ix bu np st sr (va_up sx i f) tk rn sh sn yw nw yo ce wo po ne cs sv mk sp rs bg dp := by
  unfold wC; rw [gpl_set (k := 22) rfl h, aN_up]
theorem wC_s2 (h : i < 12) : (wC V ad r1 r2 r3 nY ix bu np st sr sx tk rn sh sn yw nw yo ce wo po ne cs sv mk sp rs bg dp).set (34 + i) (r2 i, aN V 4 f) = wC V ad r1 r2 r3 nY ix bu np st sr sx (va_up tk i f) rn sh sn yw nw yo ce wo po ne cs sv mk sp rs bg dp := by
  unfold wC; rw [gpl2_set (k := 34) (by rw [gpool_len]; rfl) h, aN_up]
theorem wC_s3 (h : i < 10) : (wC V ad r1 r2 r3 nY ix bu np st sr sx tk rn sh sn yw nw yo ce wo po ne cs sv mk sp rs bg dp).set (46 + i) (r3 i, aN V 10 f) = wC V ad r1 r2 r3 nY ix bu np st sr sx tk rn sh sn yw nw yo ce wo po ne cs (va_up sv i f) mk sp rs bg dp := by
  unfold wC; rw [gpl3_set (k := 46) (by rw [gpool_len, gpool_len]; rfl) h, aN_up]
end WCR
/-- a loop: what holds at its head for the values a holds there again, and the measure falls -/
theorem gloop {p : Program} {l : Launch} {e : Env} {R : Room} {s : State} {m : MethodId} {args : Array Value} {below : List Frame} {meth : Method} {c : Code} {nL : Nat} {Q : State → Prop} {cells slots pc : Nat} {st : List Value} {α : Type} (om : α → Heap → List Loc → Prop) (lv : α → List (Nat × Value)) (I : α → Prop) (μ : α → Nat) (a0 : α) (h0 : I a0)
    (step : ∀ a, I a → (∀ b, I b → μ b < μ a → gg p l e R s m args below meth c nL Q cells slots (om b) (lv b) pc st) → gg p l e R s m args below meth c nL Q cells slots (om a) (lv a) pc st) : gg p l e R s m args below meth c nL Q cells slots (om a0) (lv a0) pc st := by
  have key : ∀ (n : Nat) (a : α), I a → μ a < n → gg p l e R s m args below meth c nL Q cells slots (om a) (lv a) pc st := by
    intro n
    induction n with
    | zero => intro a _ h; exact absurd h (Nat.not_lt_zero _)
    | succ n ih => intro a ha h; exact step a ha (fun b hb hlt => ih b hb (by omega))
  exact key (μ a0 + 1) a0 h0 (Nat.lt_succ_self _)
/-- f 0 and so on up to f (n - 1) -/
def sumN (f : Nat → Nat) : Nat → Nat
  | 0 => 0
  | n + 1 => sumN f n + f n
def sumZ (f : Nat → Int) : Nat → Int
  | 0 => 0
  | n + 1 => sumZ f n + f n
