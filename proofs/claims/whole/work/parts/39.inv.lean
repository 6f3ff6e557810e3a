/-! What holds of class and model between two calls, and how it goes on. -/
def clK (cl : Nat → Bool) (cs : Nat → Nat) : Prop := (∀ a, cs a < 1024) ∧ (∀ a b, b < 10 → (cs a).testBit b = cl (10 * a + b)) ∧ (∀ a b, a < 10 → b < 10 → cl (10 * a + b) = cl (10 * b + a)) ∧ (∀ a, a < 10 → cl (10 * a + a) = false)
def IV (nY : Nat) (ix bu : Nat → Nat) (np : Nat) (st sr go ca : Nat → Nat) (nw : Nat) (yo ce wo : Nat → Nat) (po ne : Nat → Option Nat) (sm : Nat → Nat) (cl : Nat → Bool) (cs : Nat → Nat) (mk bg dp : Nat) : Prop :=
  1 ≤ nY ∧ nY ≤ 12 ∧ (∀ y, ix y ≤ 2000) ∧ (∀ y, bu y ≤ 1000000000) ∧ np ≤ 12 ∧ (∀ i, st i ≤ 4) ∧ (∀ i, sr i < 4) ∧ (∀ i, i < np → 2 ≤ st i ∧ sr i < st i) ∧ goK np st go ∧ (∀ j, ca j ≤ 1000) ∧ nw ≤ 10 ∧ (∀ w, yo w < nY) ∧ (∀ w, ce w ≤ 1000000) ∧ (∀ w, wo w ≤ 1000000) ∧ (∀ w q, po w = some q → q < 12) ∧ (∀ w q, ne w = some q → q < 10) ∧ (∀ j, sm j ≤ 1000000) ∧ clK cl cs ∧ mk < 2 ^ nw ∧ bg ≤ 1000000000 ∧ dp ≤ 1000000000
theorem inB_iff {x : Int32} {a b : Nat} (ha : a < 2 ^ 31) (hb : b < 2 ^ 31) : inB x (nI a) (nI b) = true ↔ ∃ v, a ≤ v ∧ v ≤ b ∧ x = nI v := by
  constructor
  · intro h
    simp only [inB, Bool.and_eq_true, Bool.not_eq_true', decide_eq_false_iff_not, Int32.lt_iff_toInt_lt, nI_toInt ha, nI_toInt hb] at h
    refine ⟨x.toInt.toNat, by omega, by omega, ?_⟩
    rw [← Int32.toInt_inj, nI_toInt (by omega)]
    omega
  · rintro ⟨v, h1, h2, rfl⟩
    exact inB_y h1 h2 hb
theorem hasSt_iff {np : Nat} {st : Nat → Nat} {x z : Int32} (hnp : np ≤ 12) (hst : ∀ i, st i ≤ 4) : hasSt np st x z = true ↔ ∃ i a, i < np ∧ a < st i ∧ x = nI i ∧ z = nI a := by
  constructor
  · intro h
    rw [hasSt, Bool.and_eq_true] at h
    obtain ⟨i, hi, rfl⟩ := (inR_iff (by omega)).mp h.1
    have h2 := h.2
    rw [nI_clamp (show i < 2 ^ 31 by omega)] at h2
    have := hst i
    obtain ⟨a, ha, rfl⟩ := (inR_iff (by omega)).mp h2
    exact ⟨i, a, hi, ha, rfl, rfl⟩
  · rintro ⟨i, a, hi, ha, rfl, rfl⟩
    exact hasSt_y hi hnp ha (hst i)
theorem tk_le {ca : Nat → Nat} (h : ∀ j, ca j ≤ 1000) (i j : Nat) : tkF ca i j ≤ 1000 := by
  unfold tkF; split
  · exact h _
  · omega
theorem svF_le {sm : Nat → Nat} (h : ∀ j, sm j ≤ 1000000) (a b : Nat) : svF sm a b ≤ 1000000 := by
  unfold svF; split
  · exact h _
  · omega
theorem rnN_lt {po : Nat → Option Nat} {yo : Nat → Nat} {mk : Nat} (h : ∀ w, yo w < 12) : ∀ n i, rnN po yo mk n i < 4096
  | 0, i => by simp [rnN]
  | n + 1, i => by
    have ih := rnN_lt (po := po) (mk := mk) h n
    rw [rnN]
    rcases po n with _ | q
    · exact ih i
    · simp only
      by_cases hb : mk.testBit n = true
      · rw [if_pos hb]
        unfold va_up
        split
        · rw [sB, if_pos rfl]
          have h1 : 2 ^ yo n < 2 ^ 12 := Nat.pow_lt_pow_right (by decide) (h n)
          exact Nat.or_lt_two_pow (n := 12) (ih q) h1
        · exact ih i
      · rw [if_neg hb]
        exact ih i
theorem rnN_congr {po po' : Nat → Option Nat} {yo yo' : Nat → Nat} {mk : Nat} : ∀ n, (∀ w, w < n → po w = po' w ∧ yo w = yo' w) → rnN po yo mk n = rnN po' yo' mk n
  | 0, _ => rfl
  | n + 1, h => by
    have ih := rnN_congr (mk := mk) n (fun w hw => h w (by omega))
    have h1 := h n (Nat.lt_succ_self n)
    rw [rnN, rnN, ih, h1.1, h1.2]
theorem rnN_work {po : Nat → Option Nat} {yo : Nat → Nat} {mk nw y : Nat} {q : Option Nat} (hmk : mk < 2 ^ nw) : rnN (va_up po nw q) (va_up yo nw y) mk (nw + 1) = rnN po yo mk nw := by
  have e : rnN (va_up po nw q) (va_up yo nw y) mk nw = rnN po yo mk nw := rnN_congr nw (fun w hw => ⟨va_up_ne _ _ (by omega), va_up_ne _ _ (by omega)⟩)
  have hb : mk.testBit nw = false := Nat.testBit_lt_two_pow hmk
  rw [rnN, va_up_self, e]
  cases q with
  | none => rfl
  | some q => simp [hb]
theorem dgN_at {M : Nat → Nat} : ∀ k, k ≤ 4 → ∀ j, dgN M k j = if j / 4 = j % 4 ∧ j / 4 < k then 16 else M j
  | 0, _, j => by simp [dgN]
  | k + 1, h, j => by
    have ih := dgN_at (M := M) k (by omega) j
    rw [dgN]
    unfold va_up
    by_cases e : j = k * 4 + k
    · rw [if_pos e, if_pos (by omega)]
    · rw [if_neg e, ih]
      by_cases h1 : j / 4 = j % 4 ∧ j / 4 < k
      · rw [if_pos h1, if_pos (by omega)]
      · rw [if_neg h1, if_neg (by omega)]
theorem lv_new {np : Nat} {st go : Nat → Nat} (h : goK np st go) {i a : Nat} (ha : a < 4) (hi : np ≤ i) : lvN go i a = 0 := by
  unfold lvN
  rw [sumN_congr (g := fun _ => 0) (fun b hb => h.2 i a b ha hb (by omega)), sumN_zero]
theorem sx_part {np k : Nat} {st go : Nat → Nat} (h : goK np st go) (hk : k ≤ 4) : va_up (sxF np st go) np (dgN (sxF np st go np) k) = sxF (np + 1) (va_up st np k) go := by
  funext i j
  by_cases e : i = np
  · subst e
    rw [va_up_self, dgN_at k hk]
    have e0 : sxF i st go i j = 0 := by unfold sxF; rw [if_neg (by omega)]
    rw [e0]
    unfold sxF
    rw [va_up_self]
    by_cases h1 : i < i + 1 ∧ j < 16 ∧ j / 4 < k ∧ j % 4 < k
    · rw [if_pos h1]
      by_cases h2 : j / 4 = j % 4
      · rw [if_pos h2, if_pos (by omega), lv_new h (by omega) (Nat.le_refl _)]
      · rw [if_neg h2, if_neg (by omega)]
        have := h.2 i (j / 4) (j % 4) (by omega) (by omega) (by omega)
        rw [show 16 * i + 4 * (j / 4) + j % 4 = 16 * i + j by omega] at this
        rw [this]
    · rw [if_neg h1, if_neg (by omega)]
  · rw [va_up_ne _ _ e]
    unfold sxF
    rw [va_up_ne _ _ e]
    by_cases h1 : i < np ∧ j < 16 ∧ j / 4 < st i ∧ j % 4 < st i
    · have h2 : i < np + 1 ∧ j < 16 ∧ j / 4 < st i ∧ j % 4 < st i := by omega
      rw [if_pos h1, if_pos h2]
    · rw [if_neg h1, if_neg (by omega)]
theorem goK_part {np k : Nat} {st go : Nat → Nat} (h : goK np st go) : goK (np + 1) (va_up st np k) go := by
  refine ⟨h.1, fun i a b ha hb hn => h.2 i a b ha hb (fun q => hn ?_)⟩
  rw [va_up_ne _ _ (show i ≠ np by omega)]
  omega
theorem sumN_up {f : Nat → Nat} {n j v : Nat} (hj : j < n) : sumN (va_up f j v) n + f j = sumN f n + v := by
  induction n with
  | zero => omega
  | succ n ih =>
    rw [sumN, sumN]
    by_cases e : j = n
    · subst e
      rw [va_up_self, sumN_congr (g := f) (fun i hi => va_up_ne _ _ (by omega))]; omega
    · rw [va_up_ne _ _ (Ne.symm e)]
      have := ih (by omega)
      omega
theorem lv_up {go : Nat → Nat} {i a b v : Nat} (ha : a < 4) (hb : b < 4) : lvN (va_up go (16 * i + 4 * a + b) v) i a + go (16 * i + 4 * a + b) = lvN go i a + v := by
  have e : lvN (va_up go (16 * i + 4 * a + b) v) i a = sumN (va_up (fun b => go (16 * i + 4 * a + b)) b v) 4 := by
    unfold lvN
    refine sumN_congr fun j hj => ?_
    by_cases e : j = b
    · subst e; rw [va_up_self, va_up_self]
    · rw [va_up_ne _ _ e, va_up_ne _ _ (by omega)]
  rw [e]
  exact sumN_up hb
theorem lv_up_ne {go : Nat → Nat} {i a b v i' a' : Nat} (ha : a < 4) (hb : b < 4) (ha' : a' < 4) (h : ¬ (i' = i ∧ a' = a)) : lvN (va_up go (16 * i + 4 * a + b) v) i' a' = lvN go i' a' := by
  unfold lvN
  refine sumN_congr fun j hj => va_up_ne _ _ (by omega)
theorem goK_moves {np : Nat} {st go : Nat → Nat} (h : goK np st go) {i a b v : Nat} (hi : i < np) (hs : st i ≤ 4) (ha : a < st i) (hb : b < st i) (hab : a ≠ b) (hv : lvN go i a + v ≤ 16 + go (16 * i + 4 * a + b)) : goK np st (va_up go (16 * i + 4 * a + b) v) := by
  refine ⟨fun i' a' ha' => ?_, fun i' a' b' ha' hb' hn => ?_⟩
  · by_cases e : i' = i ∧ a' = a
    · obtain ⟨rfl, rfl⟩ := e
      have := lv_up (go := go) (i := i') (v := v) ha' (show b < 4 by omega)
      omega
    · rw [lv_up_ne (by omega) (by omega) ha' e]; exact h.1 i' a' ha'
  · rw [va_up_ne]
    · exact h.2 i' a' b' ha' hb' hn
    · intro q
      have e1 : i' = i := by omega
      have e2 : a' = a := by omega
      have e3 : b' = b := by omega
      subst e1; subst e2; subst e3
      exact hn ⟨hi, ha, hb, hab⟩
theorem sx_moves {np : Nat} {st go : Nat → Nat} (h : goK np st go) {i a b v : Nat} (hi : i < np) (hs : st i ≤ 4) (ha : a < st i) (hb : b < st i) (hab : a ≠ b) (hv : lvN go i a + v ≤ 16 + go (16 * i + 4 * a + b)) :
    mUp (mUp (sxF np st go) i (a * 4 + b) v) i (a * 4 + a) (sxF np st go i (a * 4 + a) + sxF np st go i (a * 4 + b) - v) = sxF np st (va_up go (16 * i + 4 * a + b) v) := by
  have hl := h.1 i a (by omega)
  have hg := lvN_at (go := go) (i := i) (a := a) (b := b) (by omega)
  have hu := lv_up (go := go) (i := i) (a := a) (b := b) (v := v) (by omega) (by omega)
  funext i' j
  unfold mUp
  by_cases e : i' = i
  · subst e
    rw [va_up_self, va_up_self]
    by_cases e1 : j = a * 4 + a
    · subst e1
      rw [va_up_self, sx_at hi hs ha ha, sx_at hi hs ha hb, sx_at hi hs ha ha, if_pos rfl, if_pos rfl, if_neg hab]
      omega
    · rw [va_up_ne _ _ e1]
      by_cases e2 : j = a * 4 + b
      · subst e2
        rw [va_up_self, sx_at hi hs ha hb, if_neg hab, va_up_self]
      · rw [va_up_ne _ _ e2]
        unfold sxF
        by_cases h1 : i' < np ∧ j < 16 ∧ j / 4 < st i' ∧ j % 4 < st i'
        · rw [if_pos h1, if_pos h1]
          by_cases h2 : j / 4 = j % 4
          · rw [if_pos h2, if_pos h2, lv_up_ne (by omega) (by omega) (by omega) (by omega)]
          · rw [if_neg h2, if_neg h2, va_up_ne _ _ (by omega)]
        · rw [if_neg h1, if_neg h1]
  · rw [va_up_ne _ _ e, va_up_ne _ _ e]
    unfold sxF
    by_cases h1 : i' < np ∧ j < 16 ∧ j / 4 < st i' ∧ j % 4 < st i'
    · rw [if_pos h1, if_pos h1]
      by_cases h2 : j / 4 = j % 4
      · rw [if_pos h2, if_pos h2, lv_up_ne (by omega) (by omega) (by omega) (by omega)]
      · rw [if_neg h2, if_neg h2, va_up_ne _ _ (by omega)]
    · rw [if_neg h1, if_neg h1]
theorem tk_care {ca : Nat → Nat} {i a v : Nat} (ha : a < 4) : mUp (tkF ca) i a v = tkF (va_up ca (4 * i + a) v) := by
  funext i' j
  unfold mUp
  by_cases e : i' = i
  · subst e
    rw [va_up_self]
    by_cases e1 : j = a
    · subst e1; rw [va_up_self, tkF, if_pos ha, va_up_self]
    · rw [va_up_ne _ _ e1]
      unfold tkF
      by_cases h : j < 4
      · rw [if_pos h, if_pos h, va_up_ne _ _ (by omega)]
      · rw [if_neg h, if_neg h]
  · rw [va_up_ne _ _ e]
    unfold tkF
    by_cases h : j < 4
    · rw [if_pos h, if_pos h, va_up_ne _ _ (by omega)]
    · rw [if_neg h, if_neg h]
theorem sv_up {sm : Nat → Nat} {a b v : Nat} (hb : b < 10) : mUp (svF sm) a b v = svF (va_up sm (10 * a + b) v) := by
  funext i' j
  unfold mUp
  by_cases e : i' = a
  · subst e
    rw [va_up_self]
    by_cases e1 : j = b
    · subst e1; rw [va_up_self, svF, if_pos hb, va_up_self]
    · rw [va_up_ne _ _ e1]
      unfold svF
      by_cases h : j < 10
      · rw [if_pos h, if_pos h, va_up_ne _ _ (by omega)]
      · rw [if_neg h, if_neg h]
  · rw [va_up_ne _ _ e]
    unfold svF
    by_cases h : j < 10
    · rw [if_pos h, if_pos h, va_up_ne _ _ (by omega)]
    · rw [if_neg h, if_neg h]
theorem sB_bit {S b j : Nat} {q : Bool} : (sB S b q).testBit j = if j = b then q else S.testBit j := by
  unfold sB
  cases q
  · simp only [Bool.false_eq_true, if_false, Nat.testBit_xor, Nat.testBit_or, Nat.testBit_two_pow]
    by_cases e : j = b
    · subst e; simp
    · simp [e, Ne.symm e]
  · simp only [if_true, Nat.testBit_or, Nat.testBit_two_pow]
    by_cases e : j = b
    · subst e; simp
    · simp [e, Ne.symm e]
theorem sB_lt {S b : Nat} {q : Bool} (hS : S < 1024) (hb : b < 10) : sB S b q < 1024 := by
  have h1 : 2 ^ b < 2 ^ 10 := Nat.pow_lt_pow_right (by decide) hb
  have h2 : S ||| 2 ^ b < 2 ^ 10 := Nat.or_lt_two_pow hS h1
  unfold sB
  split
  · exact h2
  · exact Nat.xor_lt_two_pow h2 h1
theorem clK_clash {cl : Nat → Bool} {cs : Nat → Nat} (h : clK cl cs) {a b : Nat} {q : Bool} (ha : a < 10) (hb : b < 10) (hab : a ≠ b) : clK (va_up (va_up cl (10 * a + b) q) (10 * b + a) q) (va_up (va_up cs a (sB (cs a) b q)) b (sB (cs b) a q)) := by
  refine ⟨fun i => ?_, fun i j hj => ?_, fun i j hi hj => ?_, fun i hi => ?_⟩
  · unfold va_up
    split
    · exact sB_lt (h.1 b) ha
    · split
      · exact sB_lt (h.1 a) hb
      · exact h.1 i
  · by_cases e1 : i = b
    · subst e1
      rw [va_up_self, sB_bit]
      by_cases e2 : j = a
      · subst e2; rw [if_pos rfl, va_up_self]
      · rw [if_neg e2, va_up_ne _ _ (by omega), va_up_ne _ _ (by omega), h.2.1 i j hj]
    · rw [va_up_ne _ _ e1]
      by_cases e3 : i = a
      · subst e3
        rw [va_up_self, sB_bit]
        by_cases e2 : j = b
        · subst e2; rw [if_pos rfl, va_up_ne _ _ (by omega), va_up_self]
        · rw [if_neg e2, va_up_ne _ _ (by omega), va_up_ne _ _ (by omega), h.2.1 i j hj]
      · rw [va_up_ne _ _ e3, va_up_ne _ _ (by omega), va_up_ne _ _ (by omega), h.2.1 i j hj]
  · unfold va_up
    by_cases e1 : 10 * i + j = 10 * b + a
    · have : i = b := by omega
      have : j = a := by omega
      subst i; subst j
      rw [if_pos rfl, if_neg (by omega), if_pos rfl]
    · by_cases e2 : 10 * i + j = 10 * a + b
      · have : i = a := by omega
        have : j = b := by omega
        subst i; subst j
        rw [if_neg (by omega), if_pos rfl, if_pos rfl]
      · rw [if_neg e1, if_neg e2, if_neg (by omega), if_neg (by omega)]
        exact h.2.2.1 i j hi hj
  · rw [va_up_ne _ _ (by omega), va_up_ne _ _ (by omega)]
    exact h.2.2.2 i hi
