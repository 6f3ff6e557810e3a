/-! The answers of class and model are the same. -/
section ANS
variable {np : Nat} {st go ca sr : Nat → Nat} {po : Nat → Option Nat} {yo : Nat → Nat} {mk nw i y : Nat} {u : (Nat → Nat) × (Nat → Nat)}
theorem lr_sh (h : goK np st go) (hi : i < np) (hs : st i ≤ 4) (hr : sr i < st i) {a : Nat} (ha : a < 4) : (lrn go sr po yo mk nw i y u).1 a = shC (sr i) (sxF np st go i) (st i) (rnN po yo mk nw i) y a :=
  ((sh_tie (sh := u.1) (nx := u.2) (nw := nw) (mk := mk) (po := po) (yo := yo) h hi hs hr y).1 a ha).symm
theorem tM_tie (h : goK np st go) (hi : i < np) (hs : st i ≤ 4) (hr : sr i < st i) : tM go ca sr po yo mk nw i y u = sumN (fun a => shC (sr i) (sxF np st go i) (st i) (rnN po yo mk nw i) y a * tkF ca i a) (st i) := by
  obtain ⟨-, -, i3⟩ := sh_tie (sh := u.1) (nx := u.2) (nw := nw) (mk := mk) (po := po) (yo := yo) h hi hs hr y
  rw [sumN_ext (m := 4) hs (fun a h1 h2 => by rw [i3 a h1 h2]; omega)]
  unfold tM
  refine sumN_congr fun a ha => ?_
  rw [lr_sh h hi hs hr ha, tkF, if_pos ha]
theorem tM_div (h : goK np st go) (hi : i < np) (hs : st i ≤ 4) (hr : sr i < st i) : tM go ca sr po yo mk nw i y u / 16 ^ (y - bgN po yo mk i y nw) = tkC (sr i) (sxF np st go i) (st i) (rnN po yo mk nw i) (tkF ca i) y := by
  obtain ⟨-, i2, -⟩ := sh_tie (sh := u.1) (nx := u.2) (nw := nw) (mk := mk) (po := po) (yo := yo) h hi hs hr y
  rw [tM_tie h hi hs hr, tkC, pow24, i2]
theorem cM_tie {ix : Nat → Nat} (h : goK np st go) (hi : i < np) (hs : st i ≤ 4) (hr : sr i < st i) : cM ix go ca sr po yo mk nw i y u = cY ix st sr (sxF np st go) (tkF ca) (rnN po yo mk nw) i y := by
  unfold cM cY
  rw [tM_div h hi hs hr]
theorem tM_lt (h : goK np st go) (hi : i < np) (hs : st i ≤ 4) (hr : sr i < st i) (hy : y < 12) (hca : ∀ j, ca j ≤ 1000) : tM go ca sr po yo mk nw i y u < 2 ^ 62 := by
  rw [tM_tie h hi hs hr]
  exact tk_lt hr (fun a ha => sx_sum h hi hs ha) hy (tk_le hca i)
theorem tM_dle (h : goK np st go) (hi : i < np) (hs : st i ≤ 4) (hr : sr i < st i) (hy : y < 12) (hca : ∀ j, ca j ≤ 1000) : tM go ca sr po yo mk nw i y u / 16 ^ (y - bgN po yo mk i y nw) ≤ 1000 := by
  rw [tM_div h hi hs hr]
  exact tkC_le hr (fun a ha => sx_sum h hi hs ha) hy (tk_le hca i)
theorem shC_lt (h : goK np st go) (hi : i < np) (hs : st i ≤ 4) (hr : sr i < st i) (hy : y < 12) {a : Nat} (ha : a < 4) : shC (sr i) (sxF np st go i) (st i) (rnN po yo mk nw i) y a < 2 ^ 62 := by
  by_cases h1 : a < st i
  · have h2 := shC_sum (rn := rnN po yo mk nw i) hr (fun a ha => sx_sum h hi hs ha) hy
    have h3 := sumN_at (f := shC (sr i) (sxF np st go i) (st i) (rnN po yo mk nw i) y) h1
    have h4 := pow16 h2.2
    omega
  · rw [(sh_tie (sh := fun _ => 0) (nx := fun _ => 0) (nw := nw) (mk := mk) (po := po) (yo := yo) h hi hs hr y).2.2 a (by omega) ha]
    decide
end ANS
theorem grS_congr {f g : Nat → Nat} : ∀ n, (∀ a, a ≤ n → f a = g a) → grS f n = grS g n
  | 0, _ => rfl
  | n + 1, h => by
    have ih := grS_congr n (fun a ha => h a (by omega))
    have hl := grS_le f n
    rw [grS, grS, ← ih, h (n + 1) (Nat.le_refl _), h (grS f n) (by omega)]
theorem cS_tie {ix yo ce sm : Nat → Nat} {nw S y : Nat} (hnw : nw ≤ 10) : cS ix yo ce (svF sm) nw S y = cS ix yo ce (fun a b => sm (10 * a + b)) nw S y := by
  unfold cS cR
  congr 1
  refine sumZ_congr fun w hw => ?_
  have e : sW yo (svF sm) S w w = sW yo (fun a b => sm (10 * a + b)) S w w := by
    unfold sW
    refine sumN_congr fun b hb => ?_
    have e : svF sm w b = sm (10 * w + b) := by rw [svF, if_pos (by omega)]
    rw [e]
  rw [e]
theorem cSf_tie {ix yo ce sm : Nat → Nat} {nw S : Nat} (hnw : nw ≤ 10) : cS ix yo ce (svF sm) nw S = cS ix yo ce (fun a b => sm (10 * a + b)) nw S := funext fun _ => cS_tie hnw
theorem ag_tie {cl : Nat → Bool} {cs : Nat → Nat} {ne : Nat → Option Nat} {yo : Nat → Nat} {nw S : Nat} (h : clK cl cs) (hnw : nw ≤ 10) (hS : S < 2 ^ nw) : allN (agW cs ne yo S) nw = allN (agM cl ne yo S) nw := by
  rw [Bool.eq_iff_iff, allN_iff, allN_iff]
  constructor
  · intro H a ha
    have h1 := H a ha
    unfold agW at h1
    unfold agM
    by_cases hb : S.testBit a = true
    · simp only [hb, Bool.not_true, Bool.false_or, Bool.and_eq_true, decide_eq_true_eq] at h1 ⊢
      refine ⟨h1.2, allN_iff.mpr fun b hba => ?_⟩
      by_cases hSb : S.testBit b = true
      · have h3 : (cs a &&& S).testBit b = false := by rw [h1.1]; exact Nat.zero_testBit b
        rw [Nat.testBit_and, hSb, Bool.and_true, h.2.1 a b (by omega)] at h3
        simp [hSb, h3]
      · simp [hSb]
    · simp [hb]
  · intro H a ha
    unfold agW
    by_cases hb : S.testBit a = true
    · have h1 := H a ha
      unfold agM at h1
      simp only [hb, Bool.not_true, Bool.false_or, Bool.and_eq_true, decide_eq_true_eq] at h1 ⊢
      refine ⟨?_, h1.1⟩
      apply Nat.eq_of_testBit_eq
      intro b
      rw [Nat.zero_testBit, Nat.testBit_and]
      by_cases hSb : S.testBit b = true
      · have hbn : b < nw := by
          by_cases hq : b < nw
          · exact hq
          · have h5 : S < 2 ^ b := Nat.lt_of_lt_of_le hS (Nat.pow_le_pow_right (by decide) (by omega))
            rw [Nat.testBit_lt_two_pow h5] at hSb; cases hSb
        rw [hSb, Bool.and_true, h.2.1 a b (by omega)]
        rcases Nat.lt_trichotomy b a with h2 | h2 | h2
        · have h3 := allN_iff.mp h1.2 b h2
          simpa [hSb] using h3
        · subst h2; exact h.2.2.2 b (by omega)
        · have h4 := H b hbn
          unfold agM at h4
          simp only [hSb, Bool.not_true, Bool.false_or, Bool.and_eq_true] at h4
          have h3 := allN_iff.mp h4.2 a h2
          rw [h.2.2.1 a b (by omega) (by omega)]
          simpa [hb] using h3
      · have : S.testBit b = false := by simpa using hSb
        rw [this, Bool.and_false]
    · simp [hb]
theorem chN_congr {wv wv' : Nat → Nat} {ag ag' : Nat → Bool} {co ov co' ov' : Nat → Int} : ∀ n, (∀ S, S ≤ n → wv S = wv' S ∧ ag S = ag' S ∧ co S = co' S ∧ ov S = ov' S) → chN wv ag co ov n = chN wv' ag' co' ov' n
  | 0, _ => rfl
  | n + 1, h => by
    have ih := chN_congr n (fun S hS => h S (by omega))
    obtain ⟨h1, h2, h3, h4⟩ := h (n + 1) (Nat.le_refl _)
    rw [chN, chN, ih, chS, chS, h1, h2, h3, h4]
theorem ch_tie {cl : Nat → Bool} {cs : Nat → Nat} {ne : Nat → Option Nat} {ix bu yo ce wo sm : Nat → Nat} {nw nY : Nat} (h : clK cl cs) (hnw : nw ≤ 10) :
    chN (fun S => wS wo S nw) (fun S => allN (agW cs ne yo S) nw) (fun S => sumZ (cS ix yo ce (svF sm) nw S) nY) (fun S => oB bu (cS ix yo ce (svF sm) nw S) nY) (2 ^ nw - 1) =
      chN (fun S => wS wo S nw) (fun S => allN (agM cl ne yo S) nw) (fun S => sumZ (cS ix yo ce (fun a b => sm (10 * a + b)) nw S) nY) (fun S => oB bu (cS ix yo ce (fun a b => sm (10 * a + b)) nw S) nY) (2 ^ nw - 1) := by
  have hp := Nat.two_pow_pos nw
  exact chN_congr _ (fun S hS => ⟨rfl, ag_tie h hnw (by omega), by simp only [cSf_tie hnw], by simp only [cSf_tie hnw]⟩)
theorem rM_tie {ix st sr : Nat → Nat} {sx tk : Nat → Nat → Nat} {rn : Nat → Nat} {c : Nat → Int} {bg dp np y : Nat} : rM (cY ix st sr sx tk rn) c bg dp np y = rV ix st sr sx tk rn c bg dp np y := rfl
theorem wS_0 {wo : Nat → Nat} {n : Nat} : wS wo 0 n = 0 := by
  unfold wS
  rw [sumN_congr (g := fun _ => 0) (fun i _ => by simp), sumN_zero]
theorem xm_2 (x : Int32) (n : Nat) : xm x n < 2 ^ n := Nat.mod_lt _ (Nat.two_pow_pos n)
