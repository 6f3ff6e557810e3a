/-! The class's tables out of the model's, and what they come to on both sides. -/
def sxF (np : Nat) (st go : Nat → Nat) (i j : Nat) : Nat := if i < np ∧ j < 16 ∧ j / 4 < st i ∧ j % 4 < st i then (if j / 4 = j % 4 then 16 - lvN go i (j / 4) else go (16 * i + j)) else 0
def tkF (ca : Nat → Nat) (i j : Nat) : Nat := if j < 4 then ca (4 * i + j) else 0
def svF (sm : Nat → Nat) (a b : Nat) : Nat := if b < 10 then sm (10 * a + b) else 0
/-- what goes from state to state: only between states that are there, at most 16 in all -/
def goK (np : Nat) (st go : Nat → Nat) : Prop := (∀ i a, a < 4 → lvN go i a ≤ 16) ∧ (∀ i a b, a < 4 → b < 4 → ¬ (i < np ∧ a < st i ∧ b < st i ∧ a ≠ b) → go (16 * i + 4 * a + b) = 0)
section TIE
variable {np : Nat} {st go : Nat → Nat}
theorem lv_le (h : goK np st go) (p a : Nat) : lvN go p a ≤ 16 := by
  have h1 := h.1 (p + a / 4) (a % 4) (Nat.mod_lt _ (by decide))
  have e : lvN go (p + a / 4) (a % 4) = lvN go p a := by
    unfold lvN
    refine sumN_congr fun b _ => ?_
    congr 1; omega
  omega
theorem lvN_at {i a b : Nat} (hb : b < 4) : go (16 * i + 4 * a + b) ≤ lvN go i a := sumN_at (f := fun b => go (16 * i + 4 * a + b)) hb
theorem go_le (h : goK np st go) (j : Nat) : go j ≤ 16 := by
  have h1 := h.1 (j / 16) (j % 16 / 4) (by omega)
  have h2 := lvN_at (go := go) (i := j / 16) (a := j % 16 / 4) (b := j % 4) (by omega)
  rw [show 16 * (j / 16) + 4 * (j % 16 / 4) + j % 4 = j by omega] at h2
  omega
theorem sx_le (h : goK np st go) (i j : Nat) : sxF np st go i j ≤ 16 := by
  have := go_le h (16 * i + j)
  unfold sxF
  split
  · split <;> omega
  · omega
theorem sx_at {i a b : Nat} (hi : i < np) (hs : st i ≤ 4) (ha : a < st i) (hb : b < st i) : sxF np st go i (a * 4 + b) = if a = b then 16 - lvN go i a else go (16 * i + 4 * a + b) := by
  have e1 : (a * 4 + b) / 4 = a := by omega
  have e2 : (a * 4 + b) % 4 = b := by omega
  unfold sxF
  rw [e1, e2, if_pos ⟨hi, by omega, ha, hb⟩, show 16 * i + (a * 4 + b) = 16 * i + 4 * a + b by omega]
theorem sx_out {i a b : Nat} (hb : b < 4) (h : ¬ (i < np ∧ a < 4 ∧ a < st i ∧ b < st i)) : sxF np st go i (a * 4 + b) = 0 := by
  have e1 : (a * 4 + b) / 4 = a := by omega
  have e2 : (a * 4 + b) % 4 = b := by omega
  unfold sxF
  rw [e1, e2, if_neg (by omega)]
theorem sumN_ext {f : Nat → Nat} {n m : Nat} (h : n ≤ m) (hz : ∀ a, n ≤ a → a < m → f a = 0) : sumN f n = sumN f m := by
  induction m with
  | zero => rw [show n = 0 by omega]
  | succ m ih =>
    by_cases e : n = m + 1
    · rw [e]
    · rw [sumN, ← ih (by omega) (fun a h1 h2 => hz a h1 (by omega)), hz m (by omega) (by omega)]; omega
theorem sumN_pick {c j n : Nat} (h : j < n) : sumN (fun a => if a = j then c else 0) n = c := by
  induction n with
  | zero => omega
  | succ n ih =>
    rw [sumN]
    by_cases e : j = n
    · subst e
      have : sumN (fun a => if a = j then c else 0) j = sumN (fun _ => 0) j := sumN_congr fun i hi => if_neg (by omega)
      rw [this, sumN_zero, if_pos rfl]; omega
    · rw [ih (by omega), if_neg (fun q => e q.symm)]; omega
theorem sx_sum (h : goK np st go) {i a : Nat} (hi : i < np) (hs : st i ≤ 4) (ha : a < st i) : sumN (fun j => sxF np st go i (a * 4 + j)) (st i) = 16 := by
  have h1 := h.1 i a (by omega)
  have e1 : sumN (fun j => sxF np st go i (a * 4 + j)) (st i) = sumN (fun j => (if j = a then 16 - lvN go i a else 0) + go (16 * i + 4 * a + j)) 4 := by
    rw [sumN_ext (m := 4) hs (fun b h1 h2 => sx_out h2 (by omega))]
    refine sumN_congr fun b hb => ?_
    by_cases hbs : b < st i
    · rw [sx_at hi hs ha hbs]
      by_cases e : a = b
      · subst e; rw [if_pos rfl, if_pos rfl, h.2 i a a (by omega) (by omega) (by omega)]; omega
      · rw [if_neg e, if_neg (fun q => e q.symm)]; omega
    · rw [sx_out hb (by omega), if_neg (by omega), h.2 i a b (by omega) hb (by omega)]
  rw [e1, sumN_add, sumN_pick (by omega)]
  show 16 - lvN go i a + lvN go i a = 16
  omega
theorem wear_tie (h : goK np st go) {i : Nat} (hi : i < np) (hs : st i ≤ 4) {S T : Nat → Nat} (hST : ∀ j, j < 4 → S j = T j) (hz : ∀ j, st i ≤ j → j < 4 → S j = 0) {j : Nat} (hj : j < 4) : wrV S (sxF np st go i) (st i) S j = mvJ go i T j := by
  unfold wrV mvJ
  by_cases hjn : j < st i
  · rw [if_pos hjn]
    unfold wrJ
    rw [sumN_ext (m := 4) hs (fun a h1 h2 => by rw [hz a h1 h2]; omega)]
    have e1 : sumN (fun a => S a * sxF np st go i (a * 4 + j)) 4 = sumN (fun a => (if a = j then T j * (16 - lvN go i j) else 0) + T a * go (16 * i + 4 * a + j)) 4 := by
      refine sumN_congr fun a ha => ?_
      by_cases has : a < st i
      · rw [sx_at hi hs has hjn, hST a ha]
        by_cases e : a = j
        · subst e; rw [if_pos rfl, if_pos rfl, h.2 i a a (by omega) (by omega) (by omega)]; omega
        · rw [if_neg e, if_neg e]; omega
      · have hz1 := hz a (by omega) ha
        rw [hz1, ← hST a ha, hz1, if_neg (by omega)]; omega
    rw [e1, sumN_add, sumN_pick hj]
  · rw [if_neg hjn, hz j (by omega) hj, ← hST j hj, hz j (by omega) hj]
    have : sumN (fun a => T a * go (16 * i + 4 * a + j)) 4 = sumN (fun _ => 0) 4 := sumN_congr fun a ha => by rw [h.2 i a j ha hj (by omega)]; omega
    rw [this, sumN_zero]; omega
/-- a chosen work of the first n renews part i in year k -/
def exR (po : Nat → Option Nat) (yo : Nat → Nat) (mk i k : Nat) : Nat → Bool
  | 0 => false
  | w + 1 => (mk.testBit w && decide (po w = some i) && decide (yo w = k)) || exR po yo mk i k w
theorem rnN_bit {po : Nat → Option Nat} {yo : Nat → Nat} {mk i k : Nat} : ∀ n, (rnN po yo mk n i).testBit k = exR po yo mk i k n
  | 0 => by simp [rnN, exR]
  | w + 1 => by
    have ih := rnN_bit (po := po) (yo := yo) (mk := mk) (i := i) (k := k) w
    rw [rnN, exR]
    rcases hz : po w with _ | q
    · simp [ih]
    · by_cases hb : mk.testBit w = true
      · simp only [hb, if_true, Bool.true_and]
        by_cases e : q = i
        · subst e
          rw [va_up_self]
          simp only [sB, if_true, Nat.testBit_or, Nat.testBit_two_pow, ih, decide_true, Bool.true_and]
          exact Bool.or_comm _ _
        · rw [va_up_ne _ _ (Ne.symm e), ih]
          simp [e]
      · simp [hb, ih]
theorem bg_s {po : Nat → Option Nat} {yo : Nat → Nat} {mk i y : Nat} : ∀ n, bgN po yo mk i (y + 1) n = if exR po yo mk i (y + 1) n then y + 1 else bgN po yo mk i y n
  | 0 => by simp [bgN, exR]
  | n + 1 => by
    have ih := bg_s (po := po) (yo := yo) (mk := mk) (i := i) (y := y) n
    have hle := bgN_le (po := po) (yo := yo) (mk := mk) (p := i) (y := y + 1) n
    have hle2 := bgN_le (po := po) (yo := yo) (mk := mk) (p := i) (y := y) n
    rw [bgN, bgN, exR]
    by_cases hc : (mk.testBit n && decide (po n = some i)) = true
    · simp only [hc, Bool.true_and]
      by_cases h1 : exR po yo mk i (y + 1) n = true
      · rw [if_pos h1] at ih
        simp only [h1, Bool.or_true, if_true, ih]
        split
        · rename_i hq
          simp only [Bool.and_eq_true, decide_eq_true_eq] at hq
          omega
        · rfl
      · rw [if_neg h1] at ih
        have h1' : exR po yo mk i (y + 1) n = false := by simpa using h1
        simp only [h1', Bool.or_false, ih]
        by_cases e : yo n = y + 1
        · simp only [e, decide_true, if_true]
          rw [if_pos (by simp; omega)]
        · have e' : decide (yo n = y + 1) = false := by simpa using e
          simp only [e', Bool.false_eq_true, if_false]
          by_cases h2 : yo n ≤ y
          · have e2 : decide (yo n ≤ y + 1) = true := by simp; omega
            simp only [h2, decide_true, e2]
          · have e2 : decide (yo n ≤ y + 1) = false := by simp; omega
            have e3 : decide (yo n ≤ y) = false := by simp; omega
            simp only [e2, e3, Bool.false_and, Bool.false_eq_true, if_false]
    · have hc' : (mk.testBit n && decide (po n = some i)) = false := by simpa using hc
      simp only [hc', Bool.false_and, Bool.false_or, Bool.false_eq_true, if_false]
      exact ih
end TIE
theorem sh_tie {np : Nat} {st go : Nat → Nat} (h : goK np st go) {i r nw mk : Nat} {po : Nat → Option Nat} {yo : Nat → Nat} {sh nx : Nat → Nat} (hi : i < np) (hs : st i ≤ 4) (hr : r < st i) : ∀ y,
    (∀ j, j < 4 → shC r (sxF np st go i) (st i) (rnN po yo mk nw i) y j = (lrS go i (bg4 r sh) nx (y - bgN po yo mk i y nw)).1 j) ∧ ywC r (sxF np st go i) (st i) (rnN po yo mk nw i) y = y - bgN po yo mk i y nw ∧ ∀ j, st i ≤ j → j < 4 → shC r (sxF np st go i) (st i) (rnN po yo mk nw i) y j = 0
  | 0 => by
    have e0 : bgN po yo mk i 0 nw = 0 := by have := bgN_le (po := po) (yo := yo) (mk := mk) (p := i) (y := 0) nw; omega
    have e1 : shC r (sxF np st go i) (st i) (rnN po yo mk nw i) 0 = beg r := by simp [shC, eY, enB]
    have e2 : ywC r (sxF np st go i) (st i) (rnN po yo mk nw i) 0 = 0 := by simp [ywC, eY, enB]
    rw [e0, e1, e2, Nat.sub_self]
    refine ⟨fun j hj => ?_, rfl, fun j h1 h2 => ?_⟩
    · simp only [lrS, bg4, beg, va_up, hj, if_true]
    · simp only [beg, va_up]; rw [if_neg (by omega)]
  | y + 1 => by
    obtain ⟨i1, i2, i3⟩ := sh_tie (sh := sh) (nx := nx) (nw := nw) (mk := mk) (po := po) (yo := yo) h hi hs hr y
    have e1 : shC r (sxF np st go i) (st i) (rnN po yo mk nw i) (y + 1) = if enB (rnN po yo mk nw i) (y + 1) then beg r else wrV (shC r (sxF np st go i) (st i) (rnN po yo mk nw i) y) (sxF np st go i) (st i) (shC r (sxF np st go i) (st i) (rnN po yo mk nw i) y) := rfl
    have e2 : ywC r (sxF np st go i) (st i) (rnN po yo mk nw i) (y + 1) = if enB (rnN po yo mk nw i) (y + 1) then 0 else ywC r (sxF np st go i) (st i) (rnN po yo mk nw i) y + 1 := rfl
    have e3 : enB (rnN po yo mk nw i) (y + 1) = exR po yo mk i (y + 1) nw := by simp [enB, rnN_bit]
    have hle := bgN_le (po := po) (yo := yo) (mk := mk) (p := i) (y := y) nw
    rw [e1, e2, e3, bg_s]
    by_cases hx : exR po yo mk i (y + 1) nw = true
    · rw [if_pos hx, if_pos hx, if_pos hx, Nat.sub_self]
      refine ⟨fun j hj => ?_, rfl, fun j h1 h2 => ?_⟩
      · simp only [lrS, bg4, beg, va_up, hj, if_true]
      · simp only [beg, va_up]; rw [if_neg (by omega)]
    · rw [if_neg hx, if_neg hx, if_neg hx, show y + 1 - bgN po yo mk i y nw = (y - bgN po yo mk i y nw) + 1 by omega]
      refine ⟨fun j hj => ?_, by rw [i2], fun j h1 h2 => ?_⟩
      · rw [wear_tie h hi hs i1 i3 hj]
        simp only [lrS, nxt, hj, if_true]
      · unfold wrV
        rw [if_neg (by omega), i3 j h1 h2]
