/-! A loan, as functions on numbers. -/
def ri (x r : Nat) : Nat := (x * r + 9999) / 10000
def rB (c r p : Nat) : Nat → Nat
  | 0 => c
  | k + 1 => (rB c r p k + ri (rB c r p k) r) - p
def rTop : Nat → Nat
  | 0 => 1000000000
  | k + 1 => rTop k + (rTop k * 2000 + 9999) / 10000
theorem rTop_up : ∀ k, k ≤ 30 → rTop k ≤ 300000000000 := by decide +kernel
theorem ri_mono {x y r q : Nat} (h : x ≤ y) (hr : r ≤ q) : ri x r ≤ ri y q := by
  unfold ri
  exact Nat.div_le_div_right (Nat.add_le_add_right (Nat.mul_le_mul h hr) _)
theorem rB_top {c r p : Nat} (hc : c ≤ 1000000000) (hr : r ≤ 2000) : ∀ k, rB c r p k ≤ rTop k
  | 0 => hc
  | k + 1 => by
    have h := rB_top (p := p) hc hr k
    have h2 := ri_mono h hr
    simp only [rB, rTop]
    unfold ri at h2 ⊢
    omega
theorem rB_le {c r p k : Nat} (hc : c ≤ 1000000000) (hr : r ≤ 2000) (hk : k ≤ 30) : rB c r p k ≤ 300000000000 := Nat.le_trans (rB_top hc hr k) (rTop_up k hk)
theorem lmax_sub {a p : Nat} (ha : a < 2 ^ 62) (hp : p < 2 ^ 62) : (if lN 0 < lN a - lN p then lN a - lN p else lN 0) = lN (a - p) := by
  rcases Nat.le_total p a with h | h
  · rw [lN_sub h]
    by_cases e : a - p = 0
    · rw [e]; rw [if_neg (by rw [pk_lLT (by decide) (by decide)]; omega)]
    · rw [if_pos (by rw [pk_lLT (by decide) (by omega)]; omega)]
  · have e : lN a - lN p = lI ((a : Int) - (p : Int)) := by rw [lN_lI, lN_lI, lI_sub]
    rw [if_neg (by rw [e, show lN 0 = lI 0 from lN_lI 0, lI_lt (by decide) (by decide) (by omega) (by omega)]; omega), show a - p = 0 by omega]
theorem lg_le0 {a : Nat} (h : a < 2 ^ 63) : lg_cmp (lN a) (lN 0) ≤ 0 ↔ a = 0 := by
  have e : lg_cmp (lN a) (lN 0) ≤ 0 ↔ ¬ 0 < lg_cmp (lN a) (lN 0) := Int32.not_lt.symm
  rw [e, lg_gt, pk_lLT (by decide) h]
  omega
/-- the greatest payment that is too little, by its bits from the highest on -/
def lpN (c r n : Nat) : Nat → Nat
  | 0 => 0
  | j + 1 => if rB c r (lpN c r n j + 2 ^ (30 - j)) n = 0 then lpN c r n j else lpN c r n j + 2 ^ (30 - j)
theorem lpN_lt (c r n : Nat) : ∀ j, j ≤ 31 → lpN c r n j + 2 ^ (31 - j) ≤ 2 ^ 31
  | 0, _ => by simp [lpN]
  | j + 1, h => by
    have h1 := lpN_lt c r n j (by omega)
    have e : 2 ^ (31 - j) = 2 ^ (30 - j) + 2 ^ (30 - j) := by
      rw [show 31 - j = (30 - j) + 1 by omega, Nat.pow_succ]; omega
    rw [show 31 - (j + 1) = 30 - j by omega]
    have hd := Nat.two_pow_pos (30 - j)
    unfold lpN
    split <;> omega
theorem iI_dec (z : Int) : iI z + Int32.ofInt (-1) = iI (z - 1) := by
  show iI z + iI (-1) = _
  rw [iI_add]; rfl
theorem zif_lt {z : Int} (h1 : -2147483648 ≤ z) (h2 : z < 2147483648) : iI z < 0 ↔ z < 0 := by
  rw [show (0 : Int32) = iI 0 from rfl]; exact iI_lt h1 h2 (by decide) (by decide)
