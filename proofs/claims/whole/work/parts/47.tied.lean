/-! A turn of the law's loop over class and model that go together. -/
/-- class and model side by side, the class's tables out of the model's -/
def wT (V : gV) (oa : Nat) (ad r1 r2 r3 am : Nat → Nat) (ou : Int64) (th : Nat) (nY : Nat) (ix : Nat → Nat) (bu : Nat → Nat) (np : Nat) (st : Nat → Nat) (sr : Nat → Nat) (go : Nat → Nat) (ca : Nat → Nat) (nw : Nat) (yo : Nat → Nat) (ce : Nat → Nat) (wo : Nat → Nat) (po : Nat → Option Nat) (ne : Nat → Option Nat) (sm : Nat → Nat) (cl : Nat → Bool) (cs : Nat → Nat) (mk : Nat) (bg : Nat) (dp : Nat) (sh : Nat → Nat) (sn : Nat → Nat) (yw : Nat) (sp : Nat → Int) (rs : Nat → Int) (msh : Nat → Nat) (nx : Nat → Nat) (spn : Int) : va_W := wG V oa ad r1 r2 r3 am ou nY ix bu np st sr (sxF np st go) (tkF ca) (rnN po yo mk nw) sh sn yw nw yo ce wo po ne cs (svF sm) mk sp rs bg dp th nY ix bu np st sr go ca nw yo ce wo po ne sm cl mk bg dp msh nx spn
def TW (V : gV) (oa : Nat) (ad r1 r2 r3 am : Nat → Nat) (w : va_W) : Prop := ∃ (ou : Int64) (th : Nat) (nY : Nat) (ix : Nat → Nat) (bu : Nat → Nat) (np : Nat) (st : Nat → Nat) (sr : Nat → Nat) (go : Nat → Nat) (ca : Nat → Nat) (nw : Nat) (yo : Nat → Nat) (ce : Nat → Nat) (wo : Nat → Nat) (po : Nat → Option Nat) (ne : Nat → Option Nat) (sm : Nat → Nat) (cl : Nat → Bool) (cs : Nat → Nat) (mk : Nat) (bg : Nat) (dp : Nat) (sh : Nat → Nat) (sn : Nat → Nat) (yw : Nat) (sp : Nat → Int) (rs : Nat → Int) (msh : Nat → Nat) (nx : Nat → Nat) (spn : Int), w = wT V oa ad r1 r2 r3 am ou th nY ix bu np st sr go ca nw yo ce wo po ne sm cl cs mk bg dp sh sn yw sp rs msh nx spn ∧ IV nY ix bu np st sr go ca nw yo ce wo po ne sm cl cs mk bg dp
theorem up_le {f : Nat → Nat} {M k v : Nat} (h : ∀ y, f y ≤ M) (hv : v ≤ M) : ∀ y, va_up f k v y ≤ M := fun y => by
  unfold va_up; split
  · exact hv
  · exact h y
theorem up_lt {f : Nat → Nat} {M k v : Nat} (h : ∀ y, f y < M) (hv : v < M) : ∀ y, va_up f k v y < M := fun y => by
  unfold va_up; split
  · exact hv
  · exact h y
theorem up_op {f : Nat → Option Nat} {M k : Nat} {v : Option Nat} (h : ∀ w q, f w = some q → q < M) (hv : ∀ q, v = some q → q < M) : ∀ w q, va_up f k v w = some q → q < M := fun w q hq => by
  unfold va_up at hq; split at hq
  · exact hv q hq
  · exact h w q hq
theorem up_si {st sr : Nat → Nat} {np k r : Nat} (h : ∀ i, i < np → 2 ≤ st i ∧ sr i < st i) (h1 : 2 ≤ k) (h2 : r < k) : ∀ i, i < np + 1 → 2 ≤ va_up st np k i ∧ va_up sr np r i < va_up st np k i := fun i hi => by
  unfold va_up; split
  · exact ⟨h1, h2⟩
  · exact h i (by omega)

set_option maxHeartbeats 4000000 in
set_option maxRecDepth 100000 in
theorem T_index {p : Program} {l : Launch} {e : Env} {s : State} {m : MethodId} {below : List Frame} {meth : Method} {c : Code} {V : gV} {sb LL ti cells slots : Nat} {xs : Nat → Int32} {oa : Nat} {ad r1 r2 r3 am : Nat → Nat} {ou : Int64} {th : Nat} {nY : Nat} {ix : Nat → Nat} {bu : Nat → Nat} {np : Nat} {st : Nat → Nat} {sr : Nat → Nat} {go : Nat → Nat} {ca : Nat → Nat} {nw : Nat} {yo : Nat → Nat} {ce : Nat → Nat} {wo : Nat → Nat} {po : Nat → Option Nat} {ne : Nat → Option Nat} {sm : Nat → Nat} {cl : Nat → Bool} {cs : Nat → Nat} {mk : Nat} {bg : Nat} {dp : Nat} {sh : Nat → Nat} {sn : Nat → Nat} {yw : Nat} {sp : Nat → Int} {rs : Nat → Int} {msh : Nat → Nat} {nx : Nat → Nat} {spn : Int} (E : gE p s m #[Value.ref sb] c code 8 R_La V) (hX : va_X sb LL xs s s.heap) (hbl : sb < s.heap.size) (hXJ : XJ s) (hfl : l.flags = flags0) (hL : LL ≤ 2561) (hiL : ti + 5 ≤ LL) (hcl : cells + 1 ≤ 601024) (hsl : slots + 6 ≤ 7293000) (hI : IV nY ix bu np st sr go ca nw yo ce wo po ne sm cl cs mk bg dp) (kk : ∀ w, TW V oa ad r1 r2 r3 am w → gg p l e room_1 s m #[Value.ref sb] below meth c 8 (lw_Z below #[Value.ref sb] s) (cells + 1) (slots + 6) (gW V (fun q => s.heap.size ≤ q) s.heap (w)) [(4, .int (nI ti)), (3, .ref oa), (2, .ref (am 0)), (1, .ref (ad 0)), (0, .ref sb)] 1527 []) : gg p l e room_1 s m #[Value.ref sb] below meth c 8 (lw_Z below #[Value.ref sb] s) cells slots (gW V (fun q => s.heap.size ≤ q) s.heap (wT V oa ad r1 r2 r3 am ou th nY ix bu np st sr go ca nw yo ce wo po ne sm cl cs mk bg dp sh sn yw sp rs msh nx spn)) [(4, .int (nI ti)), (3, .ref oa), (2, .ref (am 0)), (1, .ref (ad 0)), (0, .ref sb)] 148 [] := by
  obtain ⟨jY1, jYY, jix, jbu, jnp, jst, jsr, jsi, jgo, jca, jnw, jyY, jce, jwo, jpo, jne, jsm, jcl, jmk, jbg, jdp⟩ := hI
  have jyo : ∀ w, yo w < 12 := fun w => Nat.lt_of_lt_of_le (jyY w) jYY
  have jsx : ∀ i j, sxF np st go i j ≤ 16 := sx_le jgo
  have jtk : ∀ i j, tkF ca i j ≤ 1000 := tk_le jca
  have jsv : ∀ a b, svF sm a b ≤ 1000000 := svF_le jsm
  have jcs := jcl.1
  have jrn : ∀ i, rnN po yo mk nw i < 4096 := rnN_lt jyo nw
  have jp : 2 ^ nw ≤ 2 ^ 10 := Nat.pow_le_pow_right (by decide) jnw
  have jmk2 : mk < 1024 := by omega
  have jlv : ∀ p a, lvN go p a ≤ 16 := lv_le jgo
  have jgl : ∀ j, go j ≤ 16 := go_le jgo
  have jsi1 : ∀ i, i < np → sr i < st i := fun i hi => (jsi i hi).2
  have jM : ∀ i, i < np → ∀ a, a < st i → sumN (fun j => sxF np st go i (a * 4 + j)) (st i) = 16 := fun i hi a ha => sx_sum jgo hi (jst i) ha
  unfold wT
  by_cases hb : (inR (xs (ti + 1)) (nI nY) && inB (xs (ti + 2)) (nI 500) (nI 2000)) = true
  · rw [Bool.and_eq_true] at hb
    obtain ⟨y, hy, hx1⟩ := (inR_iff (by omega)).mp hb.1
    obtain ⟨v, hv1, hv2, hx2⟩ := (inB_iff (by decide) (by decide)).mp hb.2
    refine K_index E hX hbl hXJ hfl hL hiL hcl hsl _ _ (by first | assumption | omega) (by first | assumption | omega) (by first | assumption | omega) (by first | assumption | omega) (by first | assumption | omega) (by first | assumption | omega) (by first | assumption | omega) (by first | assumption | omega) hx1 hx2 rfl ?_
    exact g_wid (Nat.le_add_right _ _) (Nat.le_add_right _ _) (kk _ ⟨(nI (ix y)).toInt64, 0, nY, va_up ix y v, bu, np, st, sr, go, ca, nw, yo, ce, wo, po, ne, sm, cl, cs, mk, bg, dp, sh, sn, yw, sp, rs, msh, nx, spn, rfl, ⟨jY1, jYY, up_le jix (by omega), jbu, jnp, jst, jsr, jsi, jgo, jca, jnw, jyY, jce, jwo, jpo, jne, jsm, jcl, jmk, jbg, jdp⟩⟩)
  · rw [Bool.not_eq_true] at hb
    refine K_index_x E hX hbl hXJ hfl hL hiL hcl hsl _ _ (by first | assumption | omega) (by first | assumption | omega) (by first | assumption | omega) rfl rfl ?_
    exact kk _ ⟨ou, 1, nY, ix, bu, np, st, sr, go, ca, nw, yo, ce, wo, po, ne, sm, cl, cs, mk, bg, dp, sh, sn, yw, sp, rs, msh, nx, spn, rfl, ⟨jY1, jYY, jix, jbu, jnp, jst, jsr, jsi, jgo, jca, jnw, jyY, jce, jwo, jpo, jne, jsm, jcl, jmk, jbg, jdp⟩⟩

set_option maxHeartbeats 4000000 in
set_option maxRecDepth 100000 in
theorem T_budget {p : Program} {l : Launch} {e : Env} {s : State} {m : MethodId} {below : List Frame} {meth : Method} {c : Code} {V : gV} {sb LL ti cells slots : Nat} {xs : Nat → Int32} {oa : Nat} {ad r1 r2 r3 am : Nat → Nat} {ou : Int64} {th : Nat} {nY : Nat} {ix : Nat → Nat} {bu : Nat → Nat} {np : Nat} {st : Nat → Nat} {sr : Nat → Nat} {go : Nat → Nat} {ca : Nat → Nat} {nw : Nat} {yo : Nat → Nat} {ce : Nat → Nat} {wo : Nat → Nat} {po : Nat → Option Nat} {ne : Nat → Option Nat} {sm : Nat → Nat} {cl : Nat → Bool} {cs : Nat → Nat} {mk : Nat} {bg : Nat} {dp : Nat} {sh : Nat → Nat} {sn : Nat → Nat} {yw : Nat} {sp : Nat → Int} {rs : Nat → Int} {msh : Nat → Nat} {nx : Nat → Nat} {spn : Int} (E : gE p s m #[Value.ref sb] c code 8 R_La V) (hX : va_X sb LL xs s s.heap) (hbl : sb < s.heap.size) (hXJ : XJ s) (hfl : l.flags = flags0) (hL : LL ≤ 2561) (hiL : ti + 5 ≤ LL) (hcl : cells + 1 ≤ 601024) (hsl : slots + 6 ≤ 7293000) (hI : IV nY ix bu np st sr go ca nw yo ce wo po ne sm cl cs mk bg dp) (kk : ∀ w, TW V oa ad r1 r2 r3 am w → gg p l e room_1 s m #[Value.ref sb] below meth c 8 (lw_Z below #[Value.ref sb] s) (cells + 1) (slots + 6) (gW V (fun q => s.heap.size ≤ q) s.heap (w)) [(4, .int (nI ti)), (3, .ref oa), (2, .ref (am 0)), (1, .ref (ad 0)), (0, .ref sb)] 1527 []) : gg p l e room_1 s m #[Value.ref sb] below meth c 8 (lw_Z below #[Value.ref sb] s) cells slots (gW V (fun q => s.heap.size ≤ q) s.heap (wT V oa ad r1 r2 r3 am ou th nY ix bu np st sr go ca nw yo ce wo po ne sm cl cs mk bg dp sh sn yw sp rs msh nx spn)) [(4, .int (nI ti)), (3, .ref oa), (2, .ref (am 0)), (1, .ref (ad 0)), (0, .ref sb)] 216 [] := by
  obtain ⟨jY1, jYY, jix, jbu, jnp, jst, jsr, jsi, jgo, jca, jnw, jyY, jce, jwo, jpo, jne, jsm, jcl, jmk, jbg, jdp⟩ := hI
  have jyo : ∀ w, yo w < 12 := fun w => Nat.lt_of_lt_of_le (jyY w) jYY
  have jsx : ∀ i j, sxF np st go i j ≤ 16 := sx_le jgo
  have jtk : ∀ i j, tkF ca i j ≤ 1000 := tk_le jca
  have jsv : ∀ a b, svF sm a b ≤ 1000000 := svF_le jsm
  have jcs := jcl.1
  have jrn : ∀ i, rnN po yo mk nw i < 4096 := rnN_lt jyo nw
  have jp : 2 ^ nw ≤ 2 ^ 10 := Nat.pow_le_pow_right (by decide) jnw
  have jmk2 : mk < 1024 := by omega
  have jlv : ∀ p a, lvN go p a ≤ 16 := lv_le jgo
  have jgl : ∀ j, go j ≤ 16 := go_le jgo
  have jsi1 : ∀ i, i < np → sr i < st i := fun i hi => (jsi i hi).2
  have jM : ∀ i, i < np → ∀ a, a < st i → sumN (fun j => sxF np st go i (a * 4 + j)) (st i) = 16 := fun i hi a ha => sx_sum jgo hi (jst i) ha
  unfold wT
  by_cases hb : (inR (xs (ti + 1)) (nI nY) && inB (xs (ti + 2)) (nI 0) (nI 1000000000)) = true
  · rw [Bool.and_eq_true] at hb
    obtain ⟨y, hy, hx1⟩ := (inR_iff (by omega)).mp hb.1
    obtain ⟨v, hv1, hv2, hx2⟩ := (inB_iff (by decide) (by decide)).mp hb.2
    refine K_budget E hX hbl hXJ hfl hL hiL hcl hsl _ _ (by first | assumption | omega) (by first | assumption | omega) (by first | assumption | omega) (by first | assumption | omega) (by first | assumption | omega) (by first | assumption | omega) hx1 hx2 rfl ?_
    exact g_wid (Nat.le_add_right _ _) (Nat.le_add_right _ _) (kk _ ⟨(nI (bu y)).toInt64, 0, nY, ix, va_up bu y v, np, st, sr, go, ca, nw, yo, ce, wo, po, ne, sm, cl, cs, mk, bg, dp, sh, sn, yw, sp, rs, msh, nx, spn, rfl, ⟨jY1, jYY, jix, up_le jbu (by omega), jnp, jst, jsr, jsi, jgo, jca, jnw, jyY, jce, jwo, jpo, jne, jsm, jcl, jmk, jbg, jdp⟩⟩)
  · rw [Bool.not_eq_true] at hb
    refine K_budget_x E hX hbl hXJ hfl hL hiL hcl hsl _ _ (by first | assumption | omega) (by first | assumption | omega) (by first | assumption | omega) rfl rfl ?_
    exact kk _ ⟨ou, 1, nY, ix, bu, np, st, sr, go, ca, nw, yo, ce, wo, po, ne, sm, cl, cs, mk, bg, dp, sh, sn, yw, sp, rs, msh, nx, spn, rfl, ⟨jY1, jYY, jix, jbu, jnp, jst, jsr, jsi, jgo, jca, jnw, jyY, jce, jwo, jpo, jne, jsm, jcl, jmk, jbg, jdp⟩⟩

set_option maxHeartbeats 4000000 in
set_option maxRecDepth 100000 in
theorem T_part {p : Program} {l : Launch} {e : Env} {s : State} {m : MethodId} {below : List Frame} {meth : Method} {c : Code} {V : gV} {sb LL ti cells slots : Nat} {xs : Nat → Int32} {oa : Nat} {ad r1 r2 r3 am : Nat → Nat} {ou : Int64} {th : Nat} {nY : Nat} {ix : Nat → Nat} {bu : Nat → Nat} {np : Nat} {st : Nat → Nat} {sr : Nat → Nat} {go : Nat → Nat} {ca : Nat → Nat} {nw : Nat} {yo : Nat → Nat} {ce : Nat → Nat} {wo : Nat → Nat} {po : Nat → Option Nat} {ne : Nat → Option Nat} {sm : Nat → Nat} {cl : Nat → Bool} {cs : Nat → Nat} {mk : Nat} {bg : Nat} {dp : Nat} {sh : Nat → Nat} {sn : Nat → Nat} {yw : Nat} {sp : Nat → Int} {rs : Nat → Int} {msh : Nat → Nat} {nx : Nat → Nat} {spn : Int} (E : gE p s m #[Value.ref sb] c code 8 R_La V) (hX : va_X sb LL xs s s.heap) (hbl : sb < s.heap.size) (hXJ : XJ s) (hfl : l.flags = flags0) (hL : LL ≤ 2561) (hiL : ti + 5 ≤ LL) (hcl : cells + 1 ≤ 601024) (hsl : slots + 6 ≤ 7293000) (hI : IV nY ix bu np st sr go ca nw yo ce wo po ne sm cl cs mk bg dp) (kk : ∀ w, TW V oa ad r1 r2 r3 am w → gg p l e room_1 s m #[Value.ref sb] below meth c 8 (lw_Z below #[Value.ref sb] s) (cells + 1) (slots + 6) (gW V (fun q => s.heap.size ≤ q) s.heap (w)) [(4, .int (nI ti)), (3, .ref oa), (2, .ref (am 0)), (1, .ref (ad 0)), (0, .ref sb)] 1527 []) : gg p l e room_1 s m #[Value.ref sb] below meth c 8 (lw_Z below #[Value.ref sb] s) cells slots (gW V (fun q => s.heap.size ≤ q) s.heap (wT V oa ad r1 r2 r3 am ou th nY ix bu np st sr go ca nw yo ce wo po ne sm cl cs mk bg dp sh sn yw sp rs msh nx spn)) [(4, .int (nI ti)), (3, .ref oa), (2, .ref (am 0)), (1, .ref (ad 0)), (0, .ref sb)] 284 [] := by
  obtain ⟨jY1, jYY, jix, jbu, jnp, jst, jsr, jsi, jgo, jca, jnw, jyY, jce, jwo, jpo, jne, jsm, jcl, jmk, jbg, jdp⟩ := hI
  have jyo : ∀ w, yo w < 12 := fun w => Nat.lt_of_lt_of_le (jyY w) jYY
  have jsx : ∀ i j, sxF np st go i j ≤ 16 := sx_le jgo
  have jtk : ∀ i j, tkF ca i j ≤ 1000 := tk_le jca
  have jsv : ∀ a b, svF sm a b ≤ 1000000 := svF_le jsm
  have jcs := jcl.1
  have jrn : ∀ i, rnN po yo mk nw i < 4096 := rnN_lt jyo nw
  have jp : 2 ^ nw ≤ 2 ^ 10 := Nat.pow_le_pow_right (by decide) jnw
  have jmk2 : mk < 1024 := by omega
  have jlv : ∀ p a, lvN go p a ≤ 16 := lv_le jgo
  have jgl : ∀ j, go j ≤ 16 := go_le jgo
  have jsi1 : ∀ i, i < np → sr i < st i := fun i hi => (jsi i hi).2
  have jM : ∀ i, i < np → ∀ a, a < st i → sumN (fun j => sxF np st go i (a * 4 + j)) (st i) = 16 := fun i hi a ha => sx_sum jgo hi (jst i) ha
  unfold wT
  by_cases hb : (inB (xs (ti + 1)) (nI 2) (nI 4)) = true
  · obtain ⟨k, hk1, hk2, hx1⟩ := (inB_iff (by decide) (by decide)).mp hb
    clear hb
    by_cases hb : (inB (xs (ti + 2)) (nI 0) (nI (k - 1))) = true
    · obtain ⟨r, hr1, hr2, hx2⟩ := (inB_iff (by decide) (by omega)).mp hb
      have hrk : r < k := by omega
      by_cases hfull : np = 12
      · refine K_part_3_x E hX hbl hXJ hfl hL hiL hcl hsl _ _ (by first | assumption | omega) (by first | assumption | omega) (by first | assumption | omega) (by first | assumption | omega) (by first | assumption | omega) (by first | assumption | omega) (by first | assumption | omega) (by first | assumption | omega) hx1 hx2 ?_
        exact kk _ ⟨ou, 2, nY, ix, bu, np, st, sr, go, ca, nw, yo, ce, wo, po, ne, sm, cl, cs, mk, bg, dp, sh, sn, yw, sp, rs, msh, nx, spn, rfl, ⟨jY1, jYY, jix, jbu, jnp, jst, jsr, jsi, jgo, jca, jnw, jyY, jce, jwo, jpo, jne, jsm, jcl, jmk, jbg, jdp⟩⟩
      · refine K_part E hX hbl hXJ hfl hL hiL hcl hsl _ _ (by first | assumption | omega) (by first | assumption | omega) (by first | assumption | omega) (by first | assumption | omega) (by first | assumption | omega) (by first | assumption | omega) (by first | assumption | omega) (by first | assumption | omega) hx1 hx2 rfl ?_
        exact g_wid (Nat.le_add_right _ _) (Nat.le_add_right _ _) (kk _ ⟨(nI np).toInt64, 0, nY, ix, bu, np + 1, va_up st np k, va_up sr np r, go, ca, nw, yo, ce, wo, po, ne, sm, cl, cs, mk, bg, dp, sh, sn, yw, sp, rs, msh, nx, spn, (by unfold wT; rw [sx_part jgo (by omega)]), ⟨jY1, jYY, jix, jbu, (by omega), up_le jst (by omega), up_lt jsr (by omega), up_si jsi hk1 hrk, goK_part jgo, jca, jnw, jyY, jce, jwo, jpo, jne, jsm, jcl, jmk, jbg, jdp⟩⟩)
    · rw [Bool.not_eq_true] at hb
      refine K_part_2_x E hX hbl hXJ hfl hL hiL hcl hsl _ _ (by first | assumption | omega) (by first | assumption | omega) (by first | assumption | omega) (by first | assumption | omega) (by first | assumption | omega) (by first | assumption | omega) hx1 rfl ?_
      exact kk _ ⟨ou, 1, nY, ix, bu, np, st, sr, go, ca, nw, yo, ce, wo, po, ne, sm, cl, cs, mk, bg, dp, sh, sn, yw, sp, rs, msh, nx, spn, rfl, ⟨jY1, jYY, jix, jbu, jnp, jst, jsr, jsi, jgo, jca, jnw, jyY, jce, jwo, jpo, jne, jsm, jcl, jmk, jbg, jdp⟩⟩
  · rw [Bool.not_eq_true] at hb
    refine K_part_1_x E hX hbl hXJ hfl hL hiL hcl hsl _ _ (by first | assumption | omega) (by first | assumption | omega) rfl rfl ?_
    exact kk _ ⟨ou, 1, nY, ix, bu, np, st, sr, go, ca, nw, yo, ce, wo, po, ne, sm, cl, cs, mk, bg, dp, sh, sn, yw, sp, rs, msh, nx, spn, rfl, ⟨jY1, jYY, jix, jbu, jnp, jst, jsr, jsi, jgo, jca, jnw, jyY, jce, jwo, jpo, jne, jsm, jcl, jmk, jbg, jdp⟩⟩

set_option maxHeartbeats 4000000 in
set_option maxRecDepth 100000 in
theorem T_moves {p : Program} {l : Launch} {e : Env} {s : State} {m : MethodId} {below : List Frame} {meth : Method} {c : Code} {V : gV} {sb LL ti cells slots : Nat} {xs : Nat → Int32} {oa : Nat} {ad r1 r2 r3 am : Nat → Nat} {ou : Int64} {th : Nat} {nY : Nat} {ix : Nat → Nat} {bu : Nat → Nat} {np : Nat} {st : Nat → Nat} {sr : Nat → Nat} {go : Nat → Nat} {ca : Nat → Nat} {nw : Nat} {yo : Nat → Nat} {ce : Nat → Nat} {wo : Nat → Nat} {po : Nat → Option Nat} {ne : Nat → Option Nat} {sm : Nat → Nat} {cl : Nat → Bool} {cs : Nat → Nat} {mk : Nat} {bg : Nat} {dp : Nat} {sh : Nat → Nat} {sn : Nat → Nat} {yw : Nat} {sp : Nat → Int} {rs : Nat → Int} {msh : Nat → Nat} {nx : Nat → Nat} {spn : Int} (E : gE p s m #[Value.ref sb] c code 8 R_La V) (hX : va_X sb LL xs s s.heap) (hbl : sb < s.heap.size) (hXJ : XJ s) (hfl : l.flags = flags0) (hL : LL ≤ 2561) (hiL : ti + 5 ≤ LL) (hcl : cells + 1 ≤ 601024) (hsl : slots + 6 ≤ 7293000) (hI : IV nY ix bu np st sr go ca nw yo ce wo po ne sm cl cs mk bg dp) (kk : ∀ w, TW V oa ad r1 r2 r3 am w → gg p l e room_1 s m #[Value.ref sb] below meth c 8 (lw_Z below #[Value.ref sb] s) (cells + 1) (slots + 6) (gW V (fun q => s.heap.size ≤ q) s.heap (w)) [(4, .int (nI ti)), (3, .ref oa), (2, .ref (am 0)), (1, .ref (ad 0)), (0, .ref sb)] 1527 []) : gg p l e room_1 s m #[Value.ref sb] below meth c 8 (lw_Z below #[Value.ref sb] s) cells slots (gW V (fun q => s.heap.size ≤ q) s.heap (wT V oa ad r1 r2 r3 am ou th nY ix bu np st sr go ca nw yo ce wo po ne sm cl cs mk bg dp sh sn yw sp rs msh nx spn)) [(4, .int (nI ti)), (3, .ref oa), (2, .ref (am 0)), (1, .ref (ad 0)), (0, .ref sb)] 352 [] := by
  obtain ⟨jY1, jYY, jix, jbu, jnp, jst, jsr, jsi, jgo, jca, jnw, jyY, jce, jwo, jpo, jne, jsm, jcl, jmk, jbg, jdp⟩ := hI
  have jyo : ∀ w, yo w < 12 := fun w => Nat.lt_of_lt_of_le (jyY w) jYY
  have jsx : ∀ i j, sxF np st go i j ≤ 16 := sx_le jgo
  have jtk : ∀ i j, tkF ca i j ≤ 1000 := tk_le jca
  have jsv : ∀ a b, svF sm a b ≤ 1000000 := svF_le jsm
  have jcs := jcl.1
  have jrn : ∀ i, rnN po yo mk nw i < 4096 := rnN_lt jyo nw
  have jp : 2 ^ nw ≤ 2 ^ 10 := Nat.pow_le_pow_right (by decide) jnw
  have jmk2 : mk < 1024 := by omega
  have jlv : ∀ p a, lvN go p a ≤ 16 := lv_le jgo
  have jgl : ∀ j, go j ≤ 16 := go_le jgo
  have jsi1 : ∀ i, i < np → sr i < st i := fun i hi => (jsi i hi).2
  have jM : ∀ i, i < np → ∀ a, a < st i → sumN (fun j => sxF np st go i (a * 4 + j)) (st i) = 16 := fun i hi a ha => sx_sum jgo hi (jst i) ha
  unfold wT
  by_cases hb : (hasSt np st (xs (ti + 1)) (xs (ti + 2)) && hasSt np st (xs (ti + 1)) (xs (ti + 3)) && !decide ((xs (ti + 2)) = (xs (ti + 3)))) = true
  · rw [Bool.and_eq_true, Bool.and_eq_true] at hb
    obtain ⟨i, a, hi, ha, hx1, hx2⟩ := (hasSt_iff jnp jst).mp hb.1.1
    obtain ⟨i2, b, hi2, hb2, hx12, hx3⟩ := (hasSt_iff jnp jst).mp hb.1.2
    rw [hx1] at hx12
    have e0 : i2 = i := ((nI_eq (by omega) (by omega)).mp hx12).symm
    subst e0
    have hab : a ≠ b := by
      intro q
      have h3 := hb.2
      rw [hx2, hx3, q] at h3
      simp at h3
    have ji1 := jst i2
    have ji2 := jsr i2
    have ji3 := jsi i2 hi
    have ji4 := jrn i2
    have ji5 := jM i2 hi
    have ji6 := jsi1 i2 hi
    clear hb
    by_cases hb : (inB (xs (ti + 4)) (nI 0) (nI 16)) = true
    · obtain ⟨v, hv1, hv2, hx4⟩ := (inB_iff (by decide) (by decide)).mp hb
      have l1 := jlv i2 a
      have s1 : sxF np st go i2 (a * 4 + a) = 16 - lvN go i2 a := by rw [sx_at hi (jst i2) ha ha, if_pos rfl]
      have s2 : sxF np st go i2 (a * 4 + b) = go (16 * i2 + 4 * a + b) := by rw [sx_at hi (jst i2) ha hb2, if_neg hab]
      by_cases hle : lvN go i2 a + v ≤ 16 + go (16 * i2 + 4 * a + b)
      · refine K_moves E hX hbl hXJ hfl hL hiL hcl hsl _ _ _ _ (by first | assumption | omega) (by first | assumption | omega) (by first | assumption | omega) (by first | assumption | omega) (by first | assumption | omega) (by first | assumption | omega) (by first | assumption | omega) (by first | assumption | omega) (by first | assumption | omega) (by first | assumption | omega) (by first | assumption | omega) (by first | assumption | omega) (by first | assumption | omega) (by first | assumption | omega) (by first | assumption | omega) (by first | assumption | omega) (by first | assumption | omega) (by first | assumption | omega) hx1 hx2 hx3 hx4 (by rw [s2]) ?_
        exact g_wid (Nat.le_add_right _ _) (Nat.le_add_right _ _) (kk _ ⟨(nI ((sxF np st go) i2 (a * 4 + b))).toInt64, 0, nY, ix, bu, np, st, sr, va_up go (16 * i2 + 4 * a + b) v, ca, nw, yo, ce, wo, po, ne, sm, cl, cs, mk, bg, dp, sh, sn, yw, sp, rs, msh, nx, spn, (by unfold wT; rw [sx_moves jgo hi (jst i2) ha hb2 hab hle]), ⟨jY1, jYY, jix, jbu, jnp, jst, jsr, jsi, goK_moves jgo hi (jst i2) ha hb2 hab hle, jca, jnw, jyY, jce, jwo, jpo, jne, jsm, jcl, jmk, jbg, jdp⟩⟩)
      · refine K_moves_3_x E hX hbl hXJ hfl hL hiL hcl hsl _ _ _ _ (by first | assumption | omega) (by first | assumption | omega) (by first | assumption | omega) (by first | assumption | omega) (by first | assumption | omega) (by first | assumption | omega) (by first | assumption | omega) (by first | assumption | omega) (by first | assumption | omega) (by first | assumption | omega) (by first | assumption | omega) (by first | assumption | omega) (by first | assumption | omega) (by first | assumption | omega) (by first | assumption | omega) (by first | assumption | omega) (by first | assumption | omega) hx1 hx2 hx3 hx4 ?_
        exact kk _ ⟨ou, 1, nY, ix, bu, np, st, sr, go, ca, nw, yo, ce, wo, po, ne, sm, cl, cs, mk, bg, dp, sh, sn, yw, sp, rs, msh, nx, spn, rfl, ⟨jY1, jYY, jix, jbu, jnp, jst, jsr, jsi, jgo, jca, jnw, jyY, jce, jwo, jpo, jne, jsm, jcl, jmk, jbg, jdp⟩⟩
    · rw [Bool.not_eq_true] at hb
      refine K_moves_2_x E hX hbl hXJ hfl hL hiL hcl hsl _ _ _ _ (by first | assumption | omega) (by first | assumption | omega) (by first | assumption | omega) (by first | assumption | omega) (by first | assumption | omega) (by first | assumption | omega) (by first | assumption | omega) (by first | assumption | omega) (by first | assumption | omega) (by first | assumption | omega) (by first | assumption | omega) (by first | assumption | omega) (by first | assumption | omega) (by first | assumption | omega) hx1 hx2 hx3 rfl ?_
      exact kk _ ⟨ou, 1, nY, ix, bu, np, st, sr, go, ca, nw, yo, ce, wo, po, ne, sm, cl, cs, mk, bg, dp, sh, sn, yw, sp, rs, msh, nx, spn, rfl, ⟨jY1, jYY, jix, jbu, jnp, jst, jsr, jsi, jgo, jca, jnw, jyY, jce, jwo, jpo, jne, jsm, jcl, jmk, jbg, jdp⟩⟩
  · rw [Bool.not_eq_true] at hb
    refine K_moves_1_x E hX hbl hXJ hfl hL hiL hcl hsl _ _ _ _ (by first | assumption | omega) (by first | assumption | omega) (by first | assumption | omega) (by first | assumption | omega) (by first | assumption | omega) rfl rfl rfl rfl ?_
    exact kk _ ⟨ou, 1, nY, ix, bu, np, st, sr, go, ca, nw, yo, ce, wo, po, ne, sm, cl, cs, mk, bg, dp, sh, sn, yw, sp, rs, msh, nx, spn, rfl, ⟨jY1, jYY, jix, jbu, jnp, jst, jsr, jsi, jgo, jca, jnw, jyY, jce, jwo, jpo, jne, jsm, jcl, jmk, jbg, jdp⟩⟩

set_option maxHeartbeats 4000000 in
set_option maxRecDepth 100000 in
theorem T_care {p : Program} {l : Launch} {e : Env} {s : State} {m : MethodId} {below : List Frame} {meth : Method} {c : Code} {V : gV} {sb LL ti cells slots : Nat} {xs : Nat → Int32} {oa : Nat} {ad r1 r2 r3 am : Nat → Nat} {ou : Int64} {th : Nat} {nY : Nat} {ix : Nat → Nat} {bu : Nat → Nat} {np : Nat} {st : Nat → Nat} {sr : Nat → Nat} {go : Nat → Nat} {ca : Nat → Nat} {nw : Nat} {yo : Nat → Nat} {ce : Nat → Nat} {wo : Nat → Nat} {po : Nat → Option Nat} {ne : Nat → Option Nat} {sm : Nat → Nat} {cl : Nat → Bool} {cs : Nat → Nat} {mk : Nat} {bg : Nat} {dp : Nat} {sh : Nat → Nat} {sn : Nat → Nat} {yw : Nat} {sp : Nat → Int} {rs : Nat → Int} {msh : Nat → Nat} {nx : Nat → Nat} {spn : Int} (E : gE p s m #[Value.ref sb] c code 8 R_La V) (hX : va_X sb LL xs s s.heap) (hbl : sb < s.heap.size) (hXJ : XJ s) (hfl : l.flags = flags0) (hL : LL ≤ 2561) (hiL : ti + 5 ≤ LL) (hcl : cells + 1 ≤ 601024) (hsl : slots + 6 ≤ 7293000) (hI : IV nY ix bu np st sr go ca nw yo ce wo po ne sm cl cs mk bg dp) (kk : ∀ w, TW V oa ad r1 r2 r3 am w → gg p l e room_1 s m #[Value.ref sb] below meth c 8 (lw_Z below #[Value.ref sb] s) (cells + 1) (slots + 6) (gW V (fun q => s.heap.size ≤ q) s.heap (w)) [(4, .int (nI ti)), (3, .ref oa), (2, .ref (am 0)), (1, .ref (ad 0)), (0, .ref sb)] 1527 []) : gg p l e room_1 s m #[Value.ref sb] below meth c 8 (lw_Z below #[Value.ref sb] s) cells slots (gW V (fun q => s.heap.size ≤ q) s.heap (wT V oa ad r1 r2 r3 am ou th nY ix bu np st sr go ca nw yo ce wo po ne sm cl cs mk bg dp sh sn yw sp rs msh nx spn)) [(4, .int (nI ti)), (3, .ref oa), (2, .ref (am 0)), (1, .ref (ad 0)), (0, .ref sb)] 444 [] := by
  obtain ⟨jY1, jYY, jix, jbu, jnp, jst, jsr, jsi, jgo, jca, jnw, jyY, jce, jwo, jpo, jne, jsm, jcl, jmk, jbg, jdp⟩ := hI
  have jyo : ∀ w, yo w < 12 := fun w => Nat.lt_of_lt_of_le (jyY w) jYY
  have jsx : ∀ i j, sxF np st go i j ≤ 16 := sx_le jgo
  have jtk : ∀ i j, tkF ca i j ≤ 1000 := tk_le jca
  have jsv : ∀ a b, svF sm a b ≤ 1000000 := svF_le jsm
  have jcs := jcl.1
  have jrn : ∀ i, rnN po yo mk nw i < 4096 := rnN_lt jyo nw
  have jp : 2 ^ nw ≤ 2 ^ 10 := Nat.pow_le_pow_right (by decide) jnw
  have jmk2 : mk < 1024 := by omega
  have jlv : ∀ p a, lvN go p a ≤ 16 := lv_le jgo
  have jgl : ∀ j, go j ≤ 16 := go_le jgo
  have jsi1 : ∀ i, i < np → sr i < st i := fun i hi => (jsi i hi).2
  have jM : ∀ i, i < np → ∀ a, a < st i → sumN (fun j => sxF np st go i (a * 4 + j)) (st i) = 16 := fun i hi a ha => sx_sum jgo hi (jst i) ha
  unfold wT
  by_cases hb : (hasSt np st (xs (ti + 1)) (xs (ti + 2)) && inB (xs (ti + 3)) (nI 0) (nI 1000)) = true
  · rw [Bool.and_eq_true] at hb
    obtain ⟨i, a, hi, ha, hx1, hx2⟩ := (hasSt_iff jnp jst).mp hb.1
    obtain ⟨v, hv1, hv2, hx3⟩ := (inB_iff (by decide) (by decide)).mp hb.2
    have ji1 := jst i
    have ji2 := jsr i
    have ji3 := jsi i hi
    have ji4 := jrn i
    have ji5 := jM i hi
    have ji6 := jsi1 i hi
    refine K_care E hX hbl hXJ hfl hL hiL hcl hsl _ _ _ (by first | assumption | omega) (by first | assumption | omega) (by first | assumption | omega) (by first | assumption | omega) (by first | assumption | omega) (by first | assumption | omega) (by first | assumption | omega) (by first | assumption | omega) (by first | assumption | omega) (by first | assumption | omega) hx1 hx2 hx3 (by rw [tkF, if_pos (by omega)]) ?_
    exact g_wid (Nat.le_add_right _ _) (Nat.le_add_right _ _) (kk _ ⟨(nI ((tkF ca) i a)).toInt64, 0, nY, ix, bu, np, st, sr, go, va_up ca (4 * i + a) v, nw, yo, ce, wo, po, ne, sm, cl, cs, mk, bg, dp, sh, sn, yw, sp, rs, msh, nx, spn, (by unfold wT; rw [tk_care (by omega)]), ⟨jY1, jYY, jix, jbu, jnp, jst, jsr, jsi, jgo, up_le jca (by omega), jnw, jyY, jce, jwo, jpo, jne, jsm, jcl, jmk, jbg, jdp⟩⟩)
  · rw [Bool.not_eq_true] at hb
    refine K_care_x E hX hbl hXJ hfl hL hiL hcl hsl _ _ _ (by first | assumption | omega) (by first | assumption | omega) (by first | assumption | omega) (by first | assumption | omega) (by first | assumption | omega) rfl rfl rfl ?_
    exact kk _ ⟨ou, 1, nY, ix, bu, np, st, sr, go, ca, nw, yo, ce, wo, po, ne, sm, cl, cs, mk, bg, dp, sh, sn, yw, sp, rs, msh, nx, spn, rfl, ⟨jY1, jYY, jix, jbu, jnp, jst, jsr, jsi, jgo, jca, jnw, jyY, jce, jwo, jpo, jne, jsm, jcl, jmk, jbg, jdp⟩⟩

set_option maxHeartbeats 4000000 in
set_option maxRecDepth 100000 in
theorem T_share {p : Program} {l : Launch} {e : Env} {s : State} {m : MethodId} {below : List Frame} {meth : Method} {c : Code} {V : gV} {sb LL ti cells slots : Nat} {xs : Nat → Int32} {oa : Nat} {ad r1 r2 r3 am : Nat → Nat} {ou : Int64} {th : Nat} {nY : Nat} {ix : Nat → Nat} {bu : Nat → Nat} {np : Nat} {st : Nat → Nat} {sr : Nat → Nat} {go : Nat → Nat} {ca : Nat → Nat} {nw : Nat} {yo : Nat → Nat} {ce : Nat → Nat} {wo : Nat → Nat} {po : Nat → Option Nat} {ne : Nat → Option Nat} {sm : Nat → Nat} {cl : Nat → Bool} {cs : Nat → Nat} {mk : Nat} {bg : Nat} {dp : Nat} {sh : Nat → Nat} {sn : Nat → Nat} {yw : Nat} {sp : Nat → Int} {rs : Nat → Int} {msh : Nat → Nat} {nx : Nat → Nat} {spn : Int} (E : gE p s m #[Value.ref sb] c code 8 R_La V) (hX : va_X sb LL xs s s.heap) (hbl : sb < s.heap.size) (hXJ : XJ s) (hfl : l.flags = flags0) (hL : LL ≤ 2561) (hiL : ti + 5 ≤ LL) (hcl : cells + 1 ≤ 601024) (hsl : slots + 6 ≤ 7293000) (hI : IV nY ix bu np st sr go ca nw yo ce wo po ne sm cl cs mk bg dp) (kk : ∀ w, TW V oa ad r1 r2 r3 am w → gg p l e room_1 s m #[Value.ref sb] below meth c 8 (lw_Z below #[Value.ref sb] s) (cells + 1) (slots + 6) (gW V (fun q => s.heap.size ≤ q) s.heap (w)) [(4, .int (nI ti)), (3, .ref oa), (2, .ref (am 0)), (1, .ref (ad 0)), (0, .ref sb)] 1527 []) : gg p l e room_1 s m #[Value.ref sb] below meth c 8 (lw_Z below #[Value.ref sb] s) cells slots (gW V (fun q => s.heap.size ≤ q) s.heap (wT V oa ad r1 r2 r3 am ou th nY ix bu np st sr go ca nw yo ce wo po ne sm cl cs mk bg dp sh sn yw sp rs msh nx spn)) [(4, .int (nI ti)), (3, .ref oa), (2, .ref (am 0)), (1, .ref (ad 0)), (0, .ref sb)] 524 [] := by
  obtain ⟨jY1, jYY, jix, jbu, jnp, jst, jsr, jsi, jgo, jca, jnw, jyY, jce, jwo, jpo, jne, jsm, jcl, jmk, jbg, jdp⟩ := hI
  have jyo : ∀ w, yo w < 12 := fun w => Nat.lt_of_lt_of_le (jyY w) jYY
  have jsx : ∀ i j, sxF np st go i j ≤ 16 := sx_le jgo
  have jtk : ∀ i j, tkF ca i j ≤ 1000 := tk_le jca
  have jsv : ∀ a b, svF sm a b ≤ 1000000 := svF_le jsm
  have jcs := jcl.1
  have jrn : ∀ i, rnN po yo mk nw i < 4096 := rnN_lt jyo nw
  have jp : 2 ^ nw ≤ 2 ^ 10 := Nat.pow_le_pow_right (by decide) jnw
  have jmk2 : mk < 1024 := by omega
  have jlv : ∀ p a, lvN go p a ≤ 16 := lv_le jgo
  have jgl : ∀ j, go j ≤ 16 := go_le jgo
  have jsi1 : ∀ i, i < np → sr i < st i := fun i hi => (jsi i hi).2
  have jM : ∀ i, i < np → ∀ a, a < st i → sumN (fun j => sxF np st go i (a * 4 + j)) (st i) = 16 := fun i hi a ha => sx_sum jgo hi (jst i) ha
  unfold wT
  by_cases hb : (hasSt np st (xs (ti + 1)) (xs (ti + 2)) && inR (xs (ti + 3)) (nI nY)) = true
  · rw [Bool.and_eq_true] at hb
    obtain ⟨i, a, hi, ha, hx1, hx2⟩ := (hasSt_iff jnp jst).mp hb.1
    obtain ⟨y, hy, hx3⟩ := (inR_iff (by omega)).mp hb.2
    have ji1 := jst i
    have ji2 := jsr i
    have ji3 := jsi i hi
    have ji4 := jrn i
    have ji5 := jM i hi
    have ji6 := jsi1 i hi
    refine K_share E hX hbl hXJ hfl hL hiL hcl hsl _ _ _ (by first | assumption | omega) (by first | assumption | omega) (by first | assumption | omega) (by first | assumption | omega) (by first | assumption | omega) (by first | assumption | omega) (by first | assumption | omega) (by first | assumption | omega) (by first | assumption | omega) (by first | assumption | omega) (by first | assumption | omega) (by first | assumption | omega) (by first | assumption | omega) (by first | assumption | omega) (by first | assumption | omega) (by first | assumption | omega) (by first | assumption | omega) (by first | assumption | omega) (by first | assumption | omega) (by first | assumption | omega) (by first | assumption | omega) (by first | assumption | omega) hx1 hx2 hx3 (by rw [eY_sh, lr_sh jgo hi (jst i) ji6 (by omega)]) ?_
    exact g_wid (Nat.le_add_right _ _) (Nat.le_add_right _ _) (kk _ ⟨lN ((eY (sr i) ((sxF np st go) i) (st i) ((rnN po yo mk nw) i) sh sn yw (y + 1)).1 a), 0, nY, ix, bu, np, st, sr, go, ca, nw, yo, ce, wo, po, ne, sm, cl, cs, mk, bg, dp, (eY (sr i) ((sxF np st go) i) (st i) ((rnN po yo mk nw) i) sh sn yw (y + 1)).1, (eY (sr i) ((sxF np st go) i) (st i) ((rnN po yo mk nw) i) sh sn yw (y + 1)).2.2, (eY (sr i) ((sxF np st go) i) (st i) ((rnN po yo mk nw) i) sh sn yw (y + 1)).2.1, sp, rs, (lrn go sr po yo mk nw i y (msh, nx)).1, (lrn go sr po yo mk nw i y (msh, nx)).2, spn, rfl, ⟨jY1, jYY, jix, jbu, jnp, jst, jsr, jsi, jgo, jca, jnw, jyY, jce, jwo, jpo, jne, jsm, jcl, jmk, jbg, jdp⟩⟩)
  · rw [Bool.not_eq_true] at hb
    refine K_share_x E hX hbl hXJ hfl hL hiL hcl hsl _ _ _ (by first | assumption | omega) (by first | assumption | omega) (by first | assumption | omega) (by first | assumption | omega) (by first | assumption | omega) (by first | assumption | omega) rfl rfl rfl ?_
    exact kk _ ⟨ou, 1, nY, ix, bu, np, st, sr, go, ca, nw, yo, ce, wo, po, ne, sm, cl, cs, mk, bg, dp, sh, sn, yw, sp, rs, msh, nx, spn, rfl, ⟨jY1, jYY, jix, jbu, jnp, jst, jsr, jsi, jgo, jca, jnw, jyY, jce, jwo, jpo, jne, jsm, jcl, jmk, jbg, jdp⟩⟩

set_option maxHeartbeats 4000000 in
set_option maxRecDepth 100000 in
theorem T_cares {p : Program} {l : Launch} {e : Env} {s : State} {m : MethodId} {below : List Frame} {meth : Method} {c : Code} {V : gV} {sb LL ti cells slots : Nat} {xs : Nat → Int32} {oa : Nat} {ad r1 r2 r3 am : Nat → Nat} {ou : Int64} {th : Nat} {nY : Nat} {ix : Nat → Nat} {bu : Nat → Nat} {np : Nat} {st : Nat → Nat} {sr : Nat → Nat} {go : Nat → Nat} {ca : Nat → Nat} {nw : Nat} {yo : Nat → Nat} {ce : Nat → Nat} {wo : Nat → Nat} {po : Nat → Option Nat} {ne : Nat → Option Nat} {sm : Nat → Nat} {cl : Nat → Bool} {cs : Nat → Nat} {mk : Nat} {bg : Nat} {dp : Nat} {sh : Nat → Nat} {sn : Nat → Nat} {yw : Nat} {sp : Nat → Int} {rs : Nat → Int} {msh : Nat → Nat} {nx : Nat → Nat} {spn : Int} (E : gE p s m #[Value.ref sb] c code 8 R_La V) (hX : va_X sb LL xs s s.heap) (hbl : sb < s.heap.size) (hXJ : XJ s) (hfl : l.flags = flags0) (hL : LL ≤ 2561) (hiL : ti + 5 ≤ LL) (hcl : cells + 1 ≤ 601024) (hsl : slots + 6 ≤ 7293000) (hI : IV nY ix bu np st sr go ca nw yo ce wo po ne sm cl cs mk bg dp) (kk : ∀ w, TW V oa ad r1 r2 r3 am w → gg p l e room_1 s m #[Value.ref sb] below meth c 8 (lw_Z below #[Value.ref sb] s) (cells + 1) (slots + 6) (gW V (fun q => s.heap.size ≤ q) s.heap (w)) [(4, .int (nI ti)), (3, .ref oa), (2, .ref (am 0)), (1, .ref (ad 0)), (0, .ref sb)] 1527 []) : gg p l e room_1 s m #[Value.ref sb] below meth c 8 (lw_Z below #[Value.ref sb] s) cells slots (gW V (fun q => s.heap.size ≤ q) s.heap (wT V oa ad r1 r2 r3 am ou th nY ix bu np st sr go ca nw yo ce wo po ne sm cl cs mk bg dp sh sn yw sp rs msh nx spn)) [(4, .int (nI ti)), (3, .ref oa), (2, .ref (am 0)), (1, .ref (ad 0)), (0, .ref sb)] 603 [] := by
  obtain ⟨jY1, jYY, jix, jbu, jnp, jst, jsr, jsi, jgo, jca, jnw, jyY, jce, jwo, jpo, jne, jsm, jcl, jmk, jbg, jdp⟩ := hI
  have jyo : ∀ w, yo w < 12 := fun w => Nat.lt_of_lt_of_le (jyY w) jYY
  have jsx : ∀ i j, sxF np st go i j ≤ 16 := sx_le jgo
  have jtk : ∀ i j, tkF ca i j ≤ 1000 := tk_le jca
  have jsv : ∀ a b, svF sm a b ≤ 1000000 := svF_le jsm
  have jcs := jcl.1
  have jrn : ∀ i, rnN po yo mk nw i < 4096 := rnN_lt jyo nw
  have jp : 2 ^ nw ≤ 2 ^ 10 := Nat.pow_le_pow_right (by decide) jnw
  have jmk2 : mk < 1024 := by omega
  have jlv : ∀ p a, lvN go p a ≤ 16 := lv_le jgo
  have jgl : ∀ j, go j ≤ 16 := go_le jgo
  have jsi1 : ∀ i, i < np → sr i < st i := fun i hi => (jsi i hi).2
  have jM : ∀ i, i < np → ∀ a, a < st i → sumN (fun j => sxF np st go i (a * 4 + j)) (st i) = 16 := fun i hi a ha => sx_sum jgo hi (jst i) ha
  unfold wT
  by_cases hb : (inR (xs (ti + 1)) (nI np) && inR (xs (ti + 2)) (nI nY)) = true
  · rw [Bool.and_eq_true] at hb
    obtain ⟨i, hi, hx1⟩ := (inR_iff (by omega)).mp hb.1
    obtain ⟨y, hy, hx2⟩ := (inR_iff (by omega)).mp hb.2
    have ji1 := jst i
    have ji2 := jsr i
    have ji3 := jsi i hi
    have ji4 := jrn i
    have ji5 := jM i hi
    have ji6 := jsi1 i hi
    have jT : ∀ i y u, i < np → y < 12 → tM go ca sr po yo mk nw i y u < 2 ^ 62 := fun i y u hi hy => tM_lt jgo hi (jst i) (jsi1 i hi) hy jca
    have jD : ∀ i y u, i < np → y < 12 → tM go ca sr po yo mk nw i y u / 16 ^ (y - bgN po yo mk i y nw) ≤ 1000 := fun i y u hi hy => tM_dle jgo hi (jst i) (jsi1 i hi) hy jca
    have jC : ∀ i y u, i < np → y < 12 → cM ix go ca sr po yo mk nw i y u = cY ix st sr (sxF np st go) (tkF ca) (rnN po yo mk nw) i y := fun i y u hi _ => cM_tie jgo hi (jst i) (jsi1 i hi)
    refine K_cares E hX hbl hXJ hfl hL hiL hcl hsl _ _ (by first | assumption | omega) (by first | assumption | omega) (by first | assumption | omega) (by first | assumption | omega) (by first | assumption | omega) (by first | assumption | omega) (by first | assumption | omega) (by first | assumption | omega) (by first | assumption | omega) (by first | assumption | omega) (by first | assumption | omega) (by first | assumption | omega) (by first | assumption | omega) (by first | assumption | omega) (by first | assumption | omega) (by first | assumption | omega) (by first | assumption | omega) (by first | assumption | omega) (by first | assumption | omega) (by first | assumption | omega) (by first | assumption | omega) (by first | assumption | omega) (by first | assumption | omega) (by first | assumption | omega) (by first | assumption | omega) (by first | assumption | omega) (by first | assumption | omega) hx1 hx2 (by rw [jC i y _ hi (by omega)]) ?_
    exact g_wid (Nat.le_add_right _ _) (Nat.le_add_right _ _) (kk _ ⟨(nI (cY ix st sr (sxF np st go) (tkF ca) (rnN po yo mk nw) i y)).toInt64, 0, nY, ix, bu, np, st, sr, go, ca, nw, yo, ce, wo, po, ne, sm, cl, cs, mk, bg, dp, (eY (sr i) ((sxF np st go) i) (st i) ((rnN po yo mk nw) i) sh sn yw (y + 1)).1, (eY (sr i) ((sxF np st go) i) (st i) ((rnN po yo mk nw) i) sh sn yw (y + 1)).2.2, (eY (sr i) ((sxF np st go) i) (st i) ((rnN po yo mk nw) i) sh sn yw (y + 1)).2.1, sp, rs, (lrn go sr po yo mk nw i y (msh, nx)).1, (lrn go sr po yo mk nw i y (msh, nx)).2, spn, rfl, ⟨jY1, jYY, jix, jbu, jnp, jst, jsr, jsi, jgo, jca, jnw, jyY, jce, jwo, jpo, jne, jsm, jcl, jmk, jbg, jdp⟩⟩)
  · rw [Bool.not_eq_true] at hb
    refine K_cares_x E hX hbl hXJ hfl hL hiL hcl hsl _ _ (by first | assumption | omega) (by first | assumption | omega) (by first | assumption | omega) (by first | assumption | omega) rfl rfl ?_
    exact kk _ ⟨ou, 1, nY, ix, bu, np, st, sr, go, ca, nw, yo, ce, wo, po, ne, sm, cl, cs, mk, bg, dp, sh, sn, yw, sp, rs, msh, nx, spn, rfl, ⟨jY1, jYY, jix, jbu, jnp, jst, jsr, jsi, jgo, jca, jnw, jyY, jce, jwo, jpo, jne, jsm, jcl, jmk, jbg, jdp⟩⟩

set_option maxHeartbeats 4000000 in
set_option maxRecDepth 100000 in
theorem T_most {p : Program} {l : Launch} {e : Env} {s : State} {m : MethodId} {below : List Frame} {meth : Method} {c : Code} {V : gV} {sb LL ti cells slots : Nat} {xs : Nat → Int32} {oa : Nat} {ad r1 r2 r3 am : Nat → Nat} {ou : Int64} {th : Nat} {nY : Nat} {ix : Nat → Nat} {bu : Nat → Nat} {np : Nat} {st : Nat → Nat} {sr : Nat → Nat} {go : Nat → Nat} {ca : Nat → Nat} {nw : Nat} {yo : Nat → Nat} {ce : Nat → Nat} {wo : Nat → Nat} {po : Nat → Option Nat} {ne : Nat → Option Nat} {sm : Nat → Nat} {cl : Nat → Bool} {cs : Nat → Nat} {mk : Nat} {bg : Nat} {dp : Nat} {sh : Nat → Nat} {sn : Nat → Nat} {yw : Nat} {sp : Nat → Int} {rs : Nat → Int} {msh : Nat → Nat} {nx : Nat → Nat} {spn : Int} (E : gE p s m #[Value.ref sb] c code 8 R_La V) (hX : va_X sb LL xs s s.heap) (hbl : sb < s.heap.size) (hXJ : XJ s) (hfl : l.flags = flags0) (hL : LL ≤ 2561) (hiL : ti + 5 ≤ LL) (hcl : cells + 1 ≤ 601024) (hsl : slots + 6 ≤ 7293000) (hI : IV nY ix bu np st sr go ca nw yo ce wo po ne sm cl cs mk bg dp) (kk : ∀ w, TW V oa ad r1 r2 r3 am w → gg p l e room_1 s m #[Value.ref sb] below meth c 8 (lw_Z below #[Value.ref sb] s) (cells + 1) (slots + 6) (gW V (fun q => s.heap.size ≤ q) s.heap (w)) [(4, .int (nI ti)), (3, .ref oa), (2, .ref (am 0)), (1, .ref (ad 0)), (0, .ref sb)] 1527 []) : gg p l e room_1 s m #[Value.ref sb] below meth c 8 (lw_Z below #[Value.ref sb] s) cells slots (gW V (fun q => s.heap.size ≤ q) s.heap (wT V oa ad r1 r2 r3 am ou th nY ix bu np st sr go ca nw yo ce wo po ne sm cl cs mk bg dp sh sn yw sp rs msh nx spn)) [(4, .int (nI ti)), (3, .ref oa), (2, .ref (am 0)), (1, .ref (ad 0)), (0, .ref sb)] 671 [] := by
  obtain ⟨jY1, jYY, jix, jbu, jnp, jst, jsr, jsi, jgo, jca, jnw, jyY, jce, jwo, jpo, jne, jsm, jcl, jmk, jbg, jdp⟩ := hI
  have jyo : ∀ w, yo w < 12 := fun w => Nat.lt_of_lt_of_le (jyY w) jYY
  have jsx : ∀ i j, sxF np st go i j ≤ 16 := sx_le jgo
  have jtk : ∀ i j, tkF ca i j ≤ 1000 := tk_le jca
  have jsv : ∀ a b, svF sm a b ≤ 1000000 := svF_le jsm
  have jcs := jcl.1
  have jrn : ∀ i, rnN po yo mk nw i < 4096 := rnN_lt jyo nw
  have jp : 2 ^ nw ≤ 2 ^ 10 := Nat.pow_le_pow_right (by decide) jnw
  have jmk2 : mk < 1024 := by omega
  have jlv : ∀ p a, lvN go p a ≤ 16 := lv_le jgo
  have jgl : ∀ j, go j ≤ 16 := go_le jgo
  have jsi1 : ∀ i, i < np → sr i < st i := fun i hi => (jsi i hi).2
  have jM : ∀ i, i < np → ∀ a, a < st i → sumN (fun j => sxF np st go i (a * 4 + j)) (st i) = 16 := fun i hi a ha => sx_sum jgo hi (jst i) ha
  unfold wT
  by_cases hb : (inR (xs (ti + 1)) (nI np) && inR (xs (ti + 2)) (nI nY)) = true
  · rw [Bool.and_eq_true] at hb
    obtain ⟨i, hi, hx1⟩ := (inR_iff (by omega)).mp hb.1
    obtain ⟨y, hy, hx2⟩ := (inR_iff (by omega)).mp hb.2
    have ji1 := jst i
    have ji2 := jsr i
    have ji3 := jsi i hi
    have ji4 := jrn i
    have ji5 := jM i hi
    have ji6 := jsi1 i hi
    refine K_most E hX hbl hXJ hfl hL hiL hcl hsl _ _ (by first | assumption | omega) (by first | assumption | omega) (by first | assumption | omega) (by first | assumption | omega) (by first | assumption | omega) (by first | assumption | omega) (by first | assumption | omega) (by first | assumption | omega) (by first | assumption | omega) (fun a ha => by rw [eY_sh]; exact shC_lt jgo hi (jst i) ji6 (by omega) ha) (by first | assumption | omega) (by first | assumption | omega) (by first | assumption | omega) (by first | assumption | omega) (by first | assumption | omega) (by first | assumption | omega) (by first | assumption | omega) (by first | assumption | omega) (by first | assumption | omega) (by first | assumption | omega) (by first | assumption | omega) (by first | assumption | omega) (by first | assumption | omega) (fun a ha => by rw [lr_sh jgo hi (jst i) ji6 ha]; exact shC_lt jgo hi (jst i) ji6 (by omega) ha) hx1 hx2 (by rw [eY_sh]; exact congrArg nI (grS_congr _ (fun a ha => (lr_sh jgo hi (jst i) ji6 (by omega)).symm))) ?_
    exact g_wid (Nat.le_add_right _ _) (Nat.le_add_right _ _) (kk _ ⟨(nI (grS (eY (sr i) ((sxF np st go) i) (st i) ((rnN po yo mk nw) i) sh sn yw (y + 1)).1 (st i - 1))).toInt64, 0, nY, ix, bu, np, st, sr, go, ca, nw, yo, ce, wo, po, ne, sm, cl, cs, mk, bg, dp, (eY (sr i) ((sxF np st go) i) (st i) ((rnN po yo mk nw) i) sh sn yw (y + 1)).1, (eY (sr i) ((sxF np st go) i) (st i) ((rnN po yo mk nw) i) sh sn yw (y + 1)).2.2, (eY (sr i) ((sxF np st go) i) (st i) ((rnN po yo mk nw) i) sh sn yw (y + 1)).2.1, sp, rs, (lrn go sr po yo mk nw i y (msh, nx)).1, (lrn go sr po yo mk nw i y (msh, nx)).2, spn, rfl, ⟨jY1, jYY, jix, jbu, jnp, jst, jsr, jsi, jgo, jca, jnw, jyY, jce, jwo, jpo, jne, jsm, jcl, jmk, jbg, jdp⟩⟩)
  · rw [Bool.not_eq_true] at hb
    refine K_most_x E hX hbl hXJ hfl hL hiL hcl hsl _ _ (by first | assumption | omega) (by first | assumption | omega) (by first | assumption | omega) (by first | assumption | omega) rfl rfl ?_
    exact kk _ ⟨ou, 1, nY, ix, bu, np, st, sr, go, ca, nw, yo, ce, wo, po, ne, sm, cl, cs, mk, bg, dp, sh, sn, yw, sp, rs, msh, nx, spn, rfl, ⟨jY1, jYY, jix, jbu, jnp, jst, jsr, jsi, jgo, jca, jnw, jyY, jce, jwo, jpo, jne, jsm, jcl, jmk, jbg, jdp⟩⟩

set_option maxHeartbeats 4000000 in
set_option maxRecDepth 100000 in
theorem T_work {p : Program} {l : Launch} {e : Env} {s : State} {m : MethodId} {below : List Frame} {meth : Method} {c : Code} {V : gV} {sb LL ti cells slots : Nat} {xs : Nat → Int32} {oa : Nat} {ad r1 r2 r3 am : Nat → Nat} {ou : Int64} {th : Nat} {nY : Nat} {ix : Nat → Nat} {bu : Nat → Nat} {np : Nat} {st : Nat → Nat} {sr : Nat → Nat} {go : Nat → Nat} {ca : Nat → Nat} {nw : Nat} {yo : Nat → Nat} {ce : Nat → Nat} {wo : Nat → Nat} {po : Nat → Option Nat} {ne : Nat → Option Nat} {sm : Nat → Nat} {cl : Nat → Bool} {cs : Nat → Nat} {mk : Nat} {bg : Nat} {dp : Nat} {sh : Nat → Nat} {sn : Nat → Nat} {yw : Nat} {sp : Nat → Int} {rs : Nat → Int} {msh : Nat → Nat} {nx : Nat → Nat} {spn : Int} (E : gE p s m #[Value.ref sb] c code 8 R_La V) (hX : va_X sb LL xs s s.heap) (hbl : sb < s.heap.size) (hXJ : XJ s) (hfl : l.flags = flags0) (hL : LL ≤ 2561) (hiL : ti + 5 ≤ LL) (hcl : cells + 1 ≤ 601024) (hsl : slots + 6 ≤ 7293000) (hI : IV nY ix bu np st sr go ca nw yo ce wo po ne sm cl cs mk bg dp) (kk : ∀ w, TW V oa ad r1 r2 r3 am w → gg p l e room_1 s m #[Value.ref sb] below meth c 8 (lw_Z below #[Value.ref sb] s) (cells + 1) (slots + 6) (gW V (fun q => s.heap.size ≤ q) s.heap (w)) [(4, .int (nI ti)), (3, .ref oa), (2, .ref (am 0)), (1, .ref (ad 0)), (0, .ref sb)] 1527 []) : gg p l e room_1 s m #[Value.ref sb] below meth c 8 (lw_Z below #[Value.ref sb] s) cells slots (gW V (fun q => s.heap.size ≤ q) s.heap (wT V oa ad r1 r2 r3 am ou th nY ix bu np st sr go ca nw yo ce wo po ne sm cl cs mk bg dp sh sn yw sp rs msh nx spn)) [(4, .int (nI ti)), (3, .ref oa), (2, .ref (am 0)), (1, .ref (ad 0)), (0, .ref sb)] 739 [] := by
  obtain ⟨jY1, jYY, jix, jbu, jnp, jst, jsr, jsi, jgo, jca, jnw, jyY, jce, jwo, jpo, jne, jsm, jcl, jmk, jbg, jdp⟩ := hI
  have jyo : ∀ w, yo w < 12 := fun w => Nat.lt_of_lt_of_le (jyY w) jYY
  have jsx : ∀ i j, sxF np st go i j ≤ 16 := sx_le jgo
  have jtk : ∀ i j, tkF ca i j ≤ 1000 := tk_le jca
  have jsv : ∀ a b, svF sm a b ≤ 1000000 := svF_le jsm
  have jcs := jcl.1
  have jrn : ∀ i, rnN po yo mk nw i < 4096 := rnN_lt jyo nw
  have jp : 2 ^ nw ≤ 2 ^ 10 := Nat.pow_le_pow_right (by decide) jnw
  have jmk2 : mk < 1024 := by omega
  have jlv : ∀ p a, lvN go p a ≤ 16 := lv_le jgo
  have jgl : ∀ j, go j ≤ 16 := go_le jgo
  have jsi1 : ∀ i, i < np → sr i < st i := fun i hi => (jsi i hi).2
  have jM : ∀ i, i < np → ∀ a, a < st i → sumN (fun j => sxF np st go i (a * 4 + j)) (st i) = 16 := fun i hi a ha => sx_sum jgo hi (jst i) ha
  unfold wT
  by_cases hb : (inR (xs (ti + 1)) (nI nY) && (decide ((xs (ti + 4)) = oN none) || inR (xs (ti + 4)) (nI np))) = true
  · rw [Bool.and_eq_true, Bool.or_eq_true, decide_eq_true_eq] at hb
    obtain ⟨y, hy, hx1⟩ := (inR_iff (by omega)).mp hb.1
    rcases hb.2 with hx4 | hq4
    · clear hb
      by_cases hb : (inB (xs (ti + 2)) (nI 1) (nI 1000000) && inB (xs (ti + 3)) (nI 0) (nI 1000000)) = true
      · rw [Bool.and_eq_true] at hb
        obtain ⟨k, hk1, hk2, hx2⟩ := (inB_iff (by decide) (by decide)).mp hb.1
        obtain ⟨v, hv1, hv2, hx3⟩ := (inB_iff (by decide) (by decide)).mp hb.2
        by_cases hfull : nw = 10
        · refine K_work_3n_x E hX hbl hXJ hfl hL hiL hcl hsl _ _ _ (by first | assumption | omega) (by first | assumption | omega) (by first | assumption | omega) (by first | assumption | omega) (by first | assumption | omega) (by first | assumption | omega) (by first | assumption | omega) (by first | assumption | omega) (by first | assumption | omega) (by first | assumption | omega) (by first | assumption | omega) (by first | assumption | omega) (by first | assumption | omega) hx1 hx2 hx3 hx4 ?_
          exact kk _ ⟨ou, 2, nY, ix, bu, np, st, sr, go, ca, nw, yo, ce, wo, po, ne, sm, cl, cs, mk, bg, dp, sh, sn, yw, sp, rs, msh, nx, spn, rfl, ⟨jY1, jYY, jix, jbu, jnp, jst, jsr, jsi, jgo, jca, jnw, jyY, jce, jwo, jpo, jne, jsm, jcl, jmk, jbg, jdp⟩⟩
        · refine K_work_n E hX hbl hXJ hfl hL hiL hcl hsl _ _ _ (by first | assumption | omega) (by first | assumption | omega) (by first | assumption | omega) (by first | assumption | omega) (by first | assumption | omega) (by first | assumption | omega) (by first | assumption | omega) (by first | assumption | omega) (by first | assumption | omega) (by first | assumption | omega) (by first | assumption | omega) (by first | assumption | omega) hx1 hx2 hx3 hx4 rfl ?_
          exact g_wid (Nat.le_add_right _ _) (Nat.le_add_right _ _) (kk _ ⟨(nI nw).toInt64, 0, nY, ix, bu, np, st, sr, go, ca, nw + 1, va_up yo nw y, va_up ce nw k, va_up wo nw v, va_up po nw none, va_up ne nw none, sm, cl, cs, mk, bg, dp, sh, sn, yw, sp, rs, msh, nx, spn, (by unfold wT; rw [rnN_work jmk]), ⟨jY1, jYY, jix, jbu, jnp, jst, jsr, jsi, jgo, jca, (by omega), up_lt jyY hy, up_le jce (by omega), up_le jwo (by omega), up_op jpo (fun z hz => by cases hz), up_op jne (fun z hz => by cases hz), jsm, jcl, (by rw [Nat.pow_succ]; omega), jbg, jdp⟩⟩)
      · rw [Bool.not_eq_true] at hb
        refine K_work_2n_x E hX hbl hXJ hfl hL hiL hcl hsl _ _ _ (by first | assumption | omega) (by first | assumption | omega) (by first | assumption | omega) (by first | assumption | omega) (by first | assumption | omega) (by first | assumption | omega) (by first | assumption | omega) (by first | assumption | omega) hx1 rfl rfl hx4 ?_
        exact kk _ ⟨ou, 1, nY, ix, bu, np, st, sr, go, ca, nw, yo, ce, wo, po, ne, sm, cl, cs, mk, bg, dp, sh, sn, yw, sp, rs, msh, nx, spn, rfl, ⟨jY1, jYY, jix, jbu, jnp, jst, jsr, jsi, jgo, jca, jnw, jyY, jce, jwo, jpo, jne, jsm, jcl, jmk, jbg, jdp⟩⟩
    · obtain ⟨q, hq, hx4⟩ := (inR_iff (by omega)).mp hq4
      clear hb
      by_cases hb : (inB (xs (ti + 2)) (nI 1) (nI 1000000) && inB (xs (ti + 3)) (nI 0) (nI 1000000)) = true
      · rw [Bool.and_eq_true] at hb
        obtain ⟨k, hk1, hk2, hx2⟩ := (inB_iff (by decide) (by decide)).mp hb.1
        obtain ⟨v, hv1, hv2, hx3⟩ := (inB_iff (by decide) (by decide)).mp hb.2
        by_cases hfull : nw = 10
        · refine K_work_3s_x E hX hbl hXJ hfl hL hiL hcl hsl _ _ _ _ (by first | assumption | omega) (by first | assumption | omega) (by first | assumption | omega) (by first | assumption | omega) (by first | assumption | omega) (by first | assumption | omega) (by first | assumption | omega) (by first | assumption | omega) (by first | assumption | omega) (by first | assumption | omega) (by first | assumption | omega) (by first | assumption | omega) (by first | assumption | omega) (by first | assumption | omega) (by first | assumption | omega) (by first | assumption | omega) hx1 hx2 hx3 hx4 ?_
          exact kk _ ⟨ou, 2, nY, ix, bu, np, st, sr, go, ca, nw, yo, ce, wo, po, ne, sm, cl, cs, mk, bg, dp, sh, sn, yw, sp, rs, msh, nx, spn, rfl, ⟨jY1, jYY, jix, jbu, jnp, jst, jsr, jsi, jgo, jca, jnw, jyY, jce, jwo, jpo, jne, jsm, jcl, jmk, jbg, jdp⟩⟩
        · refine K_work_s E hX hbl hXJ hfl hL hiL hcl hsl _ _ _ _ (by first | assumption | omega) (by first | assumption | omega) (by first | assumption | omega) (by first | assumption | omega) (by first | assumption | omega) (by first | assumption | omega) (by first | assumption | omega) (by first | assumption | omega) (by first | assumption | omega) (by first | assumption | omega) (by first | assumption | omega) (by first | assumption | omega) (by first | assumption | omega) (by first | assumption | omega) (by first | assumption | omega) (by first | assumption | omega) hx1 hx2 hx3 hx4 rfl ?_
          exact g_wid (Nat.le_add_right _ _) (Nat.le_add_right _ _) (kk _ ⟨(nI nw).toInt64, 0, nY, ix, bu, np, st, sr, go, ca, nw + 1, va_up yo nw y, va_up ce nw k, va_up wo nw v, va_up po nw (some q), va_up ne nw none, sm, cl, cs, mk, bg, dp, sh, sn, yw, sp, rs, msh, nx, spn, (by unfold wT; rw [rnN_work jmk]), ⟨jY1, jYY, jix, jbu, jnp, jst, jsr, jsi, jgo, jca, (by omega), up_lt jyY hy, up_le jce (by omega), up_le jwo (by omega), up_op jpo (fun z hz => by cases hz; omega), up_op jne (fun z hz => by cases hz), jsm, jcl, (by rw [Nat.pow_succ]; omega), jbg, jdp⟩⟩)
      · rw [Bool.not_eq_true] at hb
        refine K_work_2s_x E hX hbl hXJ hfl hL hiL hcl hsl _ _ _ _ (by first | assumption | omega) (by first | assumption | omega) (by first | assumption | omega) (by first | assumption | omega) (by first | assumption | omega) (by first | assumption | omega) (by first | assumption | omega) (by first | assumption | omega) (by first | assumption | omega) (by first | assumption | omega) (by first | assumption | omega) hx1 rfl rfl hx4 ?_
        exact kk _ ⟨ou, 1, nY, ix, bu, np, st, sr, go, ca, nw, yo, ce, wo, po, ne, sm, cl, cs, mk, bg, dp, sh, sn, yw, sp, rs, msh, nx, spn, rfl, ⟨jY1, jYY, jix, jbu, jnp, jst, jsr, jsi, jgo, jca, jnw, jyY, jce, jwo, jpo, jne, jsm, jcl, jmk, jbg, jdp⟩⟩
  · rw [Bool.not_eq_true] at hb
    refine K_work_1_x E hX hbl hXJ hfl hL hiL hcl hsl _ _ _ _ (by first | assumption | omega) (by first | assumption | omega) (by first | assumption | omega) (by first | assumption | omega) (by first | assumption | omega) rfl rfl rfl rfl ?_
    exact kk _ ⟨ou, 1, nY, ix, bu, np, st, sr, go, ca, nw, yo, ce, wo, po, ne, sm, cl, cs, mk, bg, dp, sh, sn, yw, sp, rs, msh, nx, spn, rfl, ⟨jY1, jYY, jix, jbu, jnp, jst, jsr, jsi, jgo, jca, jnw, jyY, jce, jwo, jpo, jne, jsm, jcl, jmk, jbg, jdp⟩⟩

set_option maxHeartbeats 4000000 in
set_option maxRecDepth 100000 in
theorem T_join {p : Program} {l : Launch} {e : Env} {s : State} {m : MethodId} {below : List Frame} {meth : Method} {c : Code} {V : gV} {sb LL ti cells slots : Nat} {xs : Nat → Int32} {oa : Nat} {ad r1 r2 r3 am : Nat → Nat} {ou : Int64} {th : Nat} {nY : Nat} {ix : Nat → Nat} {bu : Nat → Nat} {np : Nat} {st : Nat → Nat} {sr : Nat → Nat} {go : Nat → Nat} {ca : Nat → Nat} {nw : Nat} {yo : Nat → Nat} {ce : Nat → Nat} {wo : Nat → Nat} {po : Nat → Option Nat} {ne : Nat → Option Nat} {sm : Nat → Nat} {cl : Nat → Bool} {cs : Nat → Nat} {mk : Nat} {bg : Nat} {dp : Nat} {sh : Nat → Nat} {sn : Nat → Nat} {yw : Nat} {sp : Nat → Int} {rs : Nat → Int} {msh : Nat → Nat} {nx : Nat → Nat} {spn : Int} (E : gE p s m #[Value.ref sb] c code 8 R_La V) (hX : va_X sb LL xs s s.heap) (hbl : sb < s.heap.size) (hXJ : XJ s) (hfl : l.flags = flags0) (hL : LL ≤ 2561) (hiL : ti + 5 ≤ LL) (hcl : cells + 1 ≤ 601024) (hsl : slots + 6 ≤ 7293000) (hI : IV nY ix bu np st sr go ca nw yo ce wo po ne sm cl cs mk bg dp) (kk : ∀ w, TW V oa ad r1 r2 r3 am w → gg p l e room_1 s m #[Value.ref sb] below meth c 8 (lw_Z below #[Value.ref sb] s) (cells + 1) (slots + 6) (gW V (fun q => s.heap.size ≤ q) s.heap (w)) [(4, .int (nI ti)), (3, .ref oa), (2, .ref (am 0)), (1, .ref (ad 0)), (0, .ref sb)] 1527 []) : gg p l e room_1 s m #[Value.ref sb] below meth c 8 (lw_Z below #[Value.ref sb] s) cells slots (gW V (fun q => s.heap.size ≤ q) s.heap (wT V oa ad r1 r2 r3 am ou th nY ix bu np st sr go ca nw yo ce wo po ne sm cl cs mk bg dp sh sn yw sp rs msh nx spn)) [(4, .int (nI ti)), (3, .ref oa), (2, .ref (am 0)), (1, .ref (ad 0)), (0, .ref sb)] 831 [] := by
  obtain ⟨jY1, jYY, jix, jbu, jnp, jst, jsr, jsi, jgo, jca, jnw, jyY, jce, jwo, jpo, jne, jsm, jcl, jmk, jbg, jdp⟩ := hI
  have jyo : ∀ w, yo w < 12 := fun w => Nat.lt_of_lt_of_le (jyY w) jYY
  have jsx : ∀ i j, sxF np st go i j ≤ 16 := sx_le jgo
  have jtk : ∀ i j, tkF ca i j ≤ 1000 := tk_le jca
  have jsv : ∀ a b, svF sm a b ≤ 1000000 := svF_le jsm
  have jcs := jcl.1
  have jrn : ∀ i, rnN po yo mk nw i < 4096 := rnN_lt jyo nw
  have jp : 2 ^ nw ≤ 2 ^ 10 := Nat.pow_le_pow_right (by decide) jnw
  have jmk2 : mk < 1024 := by omega
  have jlv : ∀ p a, lvN go p a ≤ 16 := lv_le jgo
  have jgl : ∀ j, go j ≤ 16 := go_le jgo
  have jsi1 : ∀ i, i < np → sr i < st i := fun i hi => (jsi i hi).2
  have jM : ∀ i, i < np → ∀ a, a < st i → sumN (fun j => sxF np st go i (a * 4 + j)) (st i) = 16 := fun i hi a ha => sx_sum jgo hi (jst i) ha
  unfold wT
  by_cases hb : (inR (xs (ti + 1)) (nI nw) && inR (xs (ti + 2)) (nI nw) && !decide ((xs (ti + 1)) = (xs (ti + 2)))) = true
  · rw [Bool.and_eq_true, Bool.and_eq_true] at hb
    obtain ⟨a, ha, hx1⟩ := (inR_iff (by omega)).mp hb.1.1
    obtain ⟨b, hb2, hx2⟩ := (inR_iff (by omega)).mp hb.1.2
    have hab : a ≠ b := by
      intro q
      have h3 := hb.2
      rw [hx1, hx2, q] at h3
      simp at h3
    clear hb
    by_cases hb : (inB (xs (ti + 3)) (nI 0) (nI 1000000)) = true
    · obtain ⟨v, hv1, hv2, hx3⟩ := (inB_iff (by decide) (by decide)).mp hb
      refine K_join E hX hbl hXJ hfl hL hiL hcl hsl _ _ _ (by first | assumption | omega) (by first | assumption | omega) (by first | assumption | omega) (by first | assumption | omega) (by first | assumption | omega) (by first | assumption | omega) (by first | assumption | omega) (by first | assumption | omega) (by first | assumption | omega) (by first | assumption | omega) hx1 hx2 hx3 (by rw [svF, if_pos (by omega)]) ?_
      exact g_wid (Nat.le_add_right _ _) (Nat.le_add_right _ _) (kk _ ⟨(nI ((svF sm) a b)).toInt64, 0, nY, ix, bu, np, st, sr, go, ca, nw, yo, ce, wo, po, ne, va_up (va_up sm (10 * a + b) v) (10 * b + a) v, cl, cs, mk, bg, dp, sh, sn, yw, sp, rs, msh, nx, spn, (by unfold wT; rw [sv_up (by omega), sv_up (by omega)]), ⟨jY1, jYY, jix, jbu, jnp, jst, jsr, jsi, jgo, jca, jnw, jyY, jce, jwo, jpo, jne, up_le (up_le jsm hv2) hv2, jcl, jmk, jbg, jdp⟩⟩)
    · rw [Bool.not_eq_true] at hb
      refine K_join_2_x E hX hbl hXJ hfl hL hiL hcl hsl _ _ _ (by first | assumption | omega) (by first | assumption | omega) (by first | assumption | omega) (by first | assumption | omega) (by first | assumption | omega) (by first | assumption | omega) (by first | assumption | omega) (by first | assumption | omega) (by first | assumption | omega) (by first | assumption | omega) hx1 hx2 rfl ?_
      exact kk _ ⟨ou, 1, nY, ix, bu, np, st, sr, go, ca, nw, yo, ce, wo, po, ne, sm, cl, cs, mk, bg, dp, sh, sn, yw, sp, rs, msh, nx, spn, rfl, ⟨jY1, jYY, jix, jbu, jnp, jst, jsr, jsi, jgo, jca, jnw, jyY, jce, jwo, jpo, jne, jsm, jcl, jmk, jbg, jdp⟩⟩
  · rw [Bool.not_eq_true] at hb
    refine K_join_1_x E hX hbl hXJ hfl hL hiL hcl hsl _ _ _ (by first | assumption | omega) (by first | assumption | omega) (by first | assumption | omega) rfl rfl rfl ?_
    exact kk _ ⟨ou, 1, nY, ix, bu, np, st, sr, go, ca, nw, yo, ce, wo, po, ne, sm, cl, cs, mk, bg, dp, sh, sn, yw, sp, rs, msh, nx, spn, rfl, ⟨jY1, jYY, jix, jbu, jnp, jst, jsr, jsi, jgo, jca, jnw, jyY, jce, jwo, jpo, jne, jsm, jcl, jmk, jbg, jdp⟩⟩

set_option maxHeartbeats 4000000 in
set_option maxRecDepth 100000 in
theorem T_clash {p : Program} {l : Launch} {e : Env} {s : State} {m : MethodId} {below : List Frame} {meth : Method} {c : Code} {V : gV} {sb LL ti cells slots : Nat} {xs : Nat → Int32} {oa : Nat} {ad r1 r2 r3 am : Nat → Nat} {ou : Int64} {th : Nat} {nY : Nat} {ix : Nat → Nat} {bu : Nat → Nat} {np : Nat} {st : Nat → Nat} {sr : Nat → Nat} {go : Nat → Nat} {ca : Nat → Nat} {nw : Nat} {yo : Nat → Nat} {ce : Nat → Nat} {wo : Nat → Nat} {po : Nat → Option Nat} {ne : Nat → Option Nat} {sm : Nat → Nat} {cl : Nat → Bool} {cs : Nat → Nat} {mk : Nat} {bg : Nat} {dp : Nat} {sh : Nat → Nat} {sn : Nat → Nat} {yw : Nat} {sp : Nat → Int} {rs : Nat → Int} {msh : Nat → Nat} {nx : Nat → Nat} {spn : Int} (E : gE p s m #[Value.ref sb] c code 8 R_La V) (hX : va_X sb LL xs s s.heap) (hbl : sb < s.heap.size) (hXJ : XJ s) (hfl : l.flags = flags0) (hL : LL ≤ 2561) (hiL : ti + 5 ≤ LL) (hcl : cells + 1 ≤ 601024) (hsl : slots + 6 ≤ 7293000) (hI : IV nY ix bu np st sr go ca nw yo ce wo po ne sm cl cs mk bg dp) (kk : ∀ w, TW V oa ad r1 r2 r3 am w → gg p l e room_1 s m #[Value.ref sb] below meth c 8 (lw_Z below #[Value.ref sb] s) (cells + 1) (slots + 6) (gW V (fun q => s.heap.size ≤ q) s.heap (w)) [(4, .int (nI ti)), (3, .ref oa), (2, .ref (am 0)), (1, .ref (ad 0)), (0, .ref sb)] 1527 []) : gg p l e room_1 s m #[Value.ref sb] below meth c 8 (lw_Z below #[Value.ref sb] s) cells slots (gW V (fun q => s.heap.size ≤ q) s.heap (wT V oa ad r1 r2 r3 am ou th nY ix bu np st sr go ca nw yo ce wo po ne sm cl cs mk bg dp sh sn yw sp rs msh nx spn)) [(4, .int (nI ti)), (3, .ref oa), (2, .ref (am 0)), (1, .ref (ad 0)), (0, .ref sb)] 911 [] := by
  obtain ⟨jY1, jYY, jix, jbu, jnp, jst, jsr, jsi, jgo, jca, jnw, jyY, jce, jwo, jpo, jne, jsm, jcl, jmk, jbg, jdp⟩ := hI
  have jyo : ∀ w, yo w < 12 := fun w => Nat.lt_of_lt_of_le (jyY w) jYY
  have jsx : ∀ i j, sxF np st go i j ≤ 16 := sx_le jgo
  have jtk : ∀ i j, tkF ca i j ≤ 1000 := tk_le jca
  have jsv : ∀ a b, svF sm a b ≤ 1000000 := svF_le jsm
  have jcs := jcl.1
  have jrn : ∀ i, rnN po yo mk nw i < 4096 := rnN_lt jyo nw
  have jp : 2 ^ nw ≤ 2 ^ 10 := Nat.pow_le_pow_right (by decide) jnw
  have jmk2 : mk < 1024 := by omega
  have jlv : ∀ p a, lvN go p a ≤ 16 := lv_le jgo
  have jgl : ∀ j, go j ≤ 16 := go_le jgo
  have jsi1 : ∀ i, i < np → sr i < st i := fun i hi => (jsi i hi).2
  have jM : ∀ i, i < np → ∀ a, a < st i → sumN (fun j => sxF np st go i (a * 4 + j)) (st i) = 16 := fun i hi a ha => sx_sum jgo hi (jst i) ha
  unfold wT
  by_cases hqq : (xs (ti + 3)) = 0
  · by_cases hb : (inR (xs (ti + 1)) (nI nw) && inR (xs (ti + 2)) (nI nw) && !decide ((xs (ti + 1)) = (xs (ti + 2)))) = true
    · rw [Bool.and_eq_true, Bool.and_eq_true] at hb
      obtain ⟨a, ha, hx1⟩ := (inR_iff (by omega)).mp hb.1.1
      obtain ⟨b, hb2, hx2⟩ := (inR_iff (by omega)).mp hb.1.2
      have hab : a ≠ b := by
        intro q
        have h3 := hb.2
        rw [hx1, hx2, q] at h3
        simp at h3
      clear hb
      refine K_clash_f E hX hbl hXJ hfl hL hiL hcl hsl _ _ (by first | assumption | omega) (by first | assumption | omega) (by first | assumption | omega) (by first | assumption | omega) (by first | assumption | omega) (by first | assumption | omega) (by first | assumption | omega) (by first | assumption | omega) (by first | assumption | omega) hx1 hx2 hqq (jcl.2.1 a b (by omega)) ?_
      exact g_wid (Nat.le_add_right _ _) (Nat.le_add_right _ _) (kk _ ⟨if (cs a).testBit b then lN 1 else lN 0, 0, nY, ix, bu, np, st, sr, go, ca, nw, yo, ce, wo, po, ne, sm, va_up (va_up cl (10 * a + b) false) (10 * b + a) false, va_up (va_up cs a (sB (cs a) b false)) b (sB (cs b) a false), mk, bg, dp, sh, sn, yw, sp, rs, msh, nx, spn, rfl, ⟨jY1, jYY, jix, jbu, jnp, jst, jsr, jsi, jgo, jca, jnw, jyY, jce, jwo, jpo, jne, jsm, clK_clash jcl (by omega) (by omega) hab, jmk, jbg, jdp⟩⟩)
    · rw [Bool.not_eq_true] at hb
      refine K_clash_xf E hX hbl hXJ hfl hL hiL hcl hsl _ _ (by first | assumption | omega) (by first | assumption | omega) (by first | assumption | omega) rfl rfl hqq ?_
      exact kk _ ⟨ou, 1, nY, ix, bu, np, st, sr, go, ca, nw, yo, ce, wo, po, ne, sm, cl, cs, mk, bg, dp, sh, sn, yw, sp, rs, msh, nx, spn, rfl, ⟨jY1, jYY, jix, jbu, jnp, jst, jsr, jsi, jgo, jca, jnw, jyY, jce, jwo, jpo, jne, jsm, jcl, jmk, jbg, jdp⟩⟩
  · by_cases hb : (inR (xs (ti + 1)) (nI nw) && inR (xs (ti + 2)) (nI nw) && !decide ((xs (ti + 1)) = (xs (ti + 2)))) = true
    · rw [Bool.and_eq_true, Bool.and_eq_true] at hb
      obtain ⟨a, ha, hx1⟩ := (inR_iff (by omega)).mp hb.1.1
      obtain ⟨b, hb2, hx2⟩ := (inR_iff (by omega)).mp hb.1.2
      have hab : a ≠ b := by
        intro q
        have h3 := hb.2
        rw [hx1, hx2, q] at h3
        simp at h3
      clear hb
      refine K_clash_t E hX hbl hXJ hfl hL hiL hcl hsl _ _ (by first | assumption | omega) (by first | assumption | omega) (by first | assumption | omega) (by first | assumption | omega) (by first | assumption | omega) (by first | assumption | omega) (by first | assumption | omega) (by first | assumption | omega) (by first | assumption | omega) hx1 hx2 hqq (jcl.2.1 a b (by omega)) ?_
      exact g_wid (Nat.le_add_right _ _) (Nat.le_add_right _ _) (kk _ ⟨if (cs a).testBit b then lN 1 else lN 0, 0, nY, ix, bu, np, st, sr, go, ca, nw, yo, ce, wo, po, ne, sm, va_up (va_up cl (10 * a + b) true) (10 * b + a) true, va_up (va_up cs a (sB (cs a) b true)) b (sB (cs b) a true), mk, bg, dp, sh, sn, yw, sp, rs, msh, nx, spn, rfl, ⟨jY1, jYY, jix, jbu, jnp, jst, jsr, jsi, jgo, jca, jnw, jyY, jce, jwo, jpo, jne, jsm, clK_clash jcl (by omega) (by omega) hab, jmk, jbg, jdp⟩⟩)
    · rw [Bool.not_eq_true] at hb
      refine K_clash_xt E hX hbl hXJ hfl hL hiL hcl hsl _ _ (by first | assumption | omega) (by first | assumption | omega) (by first | assumption | omega) rfl rfl hqq ?_
      exact kk _ ⟨ou, 1, nY, ix, bu, np, st, sr, go, ca, nw, yo, ce, wo, po, ne, sm, cl, cs, mk, bg, dp, sh, sn, yw, sp, rs, msh, nx, spn, rfl, ⟨jY1, jYY, jix, jbu, jnp, jst, jsr, jsi, jgo, jca, jnw, jyY, jce, jwo, jpo, jne, jsm, jcl, jmk, jbg, jdp⟩⟩

set_option maxHeartbeats 4000000 in
set_option maxRecDepth 100000 in
theorem T_needs {p : Program} {l : Launch} {e : Env} {s : State} {m : MethodId} {below : List Frame} {meth : Method} {c : Code} {V : gV} {sb LL ti cells slots : Nat} {xs : Nat → Int32} {oa : Nat} {ad r1 r2 r3 am : Nat → Nat} {ou : Int64} {th : Nat} {nY : Nat} {ix : Nat → Nat} {bu : Nat → Nat} {np : Nat} {st : Nat → Nat} {sr : Nat → Nat} {go : Nat → Nat} {ca : Nat → Nat} {nw : Nat} {yo : Nat → Nat} {ce : Nat → Nat} {wo : Nat → Nat} {po : Nat → Option Nat} {ne : Nat → Option Nat} {sm : Nat → Nat} {cl : Nat → Bool} {cs : Nat → Nat} {mk : Nat} {bg : Nat} {dp : Nat} {sh : Nat → Nat} {sn : Nat → Nat} {yw : Nat} {sp : Nat → Int} {rs : Nat → Int} {msh : Nat → Nat} {nx : Nat → Nat} {spn : Int} (E : gE p s m #[Value.ref sb] c code 8 R_La V) (hX : va_X sb LL xs s s.heap) (hbl : sb < s.heap.size) (hXJ : XJ s) (hfl : l.flags = flags0) (hL : LL ≤ 2561) (hiL : ti + 5 ≤ LL) (hcl : cells + 1 ≤ 601024) (hsl : slots + 6 ≤ 7293000) (hI : IV nY ix bu np st sr go ca nw yo ce wo po ne sm cl cs mk bg dp) (kk : ∀ w, TW V oa ad r1 r2 r3 am w → gg p l e room_1 s m #[Value.ref sb] below meth c 8 (lw_Z below #[Value.ref sb] s) (cells + 1) (slots + 6) (gW V (fun q => s.heap.size ≤ q) s.heap (w)) [(4, .int (nI ti)), (3, .ref oa), (2, .ref (am 0)), (1, .ref (ad 0)), (0, .ref sb)] 1527 []) : gg p l e room_1 s m #[Value.ref sb] below meth c 8 (lw_Z below #[Value.ref sb] s) cells slots (gW V (fun q => s.heap.size ≤ q) s.heap (wT V oa ad r1 r2 r3 am ou th nY ix bu np st sr go ca nw yo ce wo po ne sm cl cs mk bg dp sh sn yw sp rs msh nx spn)) [(4, .int (nI ti)), (3, .ref oa), (2, .ref (am 0)), (1, .ref (ad 0)), (0, .ref sb)] 1014 [] := by
  obtain ⟨jY1, jYY, jix, jbu, jnp, jst, jsr, jsi, jgo, jca, jnw, jyY, jce, jwo, jpo, jne, jsm, jcl, jmk, jbg, jdp⟩ := hI
  have jyo : ∀ w, yo w < 12 := fun w => Nat.lt_of_lt_of_le (jyY w) jYY
  have jsx : ∀ i j, sxF np st go i j ≤ 16 := sx_le jgo
  have jtk : ∀ i j, tkF ca i j ≤ 1000 := tk_le jca
  have jsv : ∀ a b, svF sm a b ≤ 1000000 := svF_le jsm
  have jcs := jcl.1
  have jrn : ∀ i, rnN po yo mk nw i < 4096 := rnN_lt jyo nw
  have jp : 2 ^ nw ≤ 2 ^ 10 := Nat.pow_le_pow_right (by decide) jnw
  have jmk2 : mk < 1024 := by omega
  have jlv : ∀ p a, lvN go p a ≤ 16 := lv_le jgo
  have jgl : ∀ j, go j ≤ 16 := go_le jgo
  have jsi1 : ∀ i, i < np → sr i < st i := fun i hi => (jsi i hi).2
  have jM : ∀ i, i < np → ∀ a, a < st i → sumN (fun j => sxF np st go i (a * 4 + j)) (st i) = 16 := fun i hi a ha => sx_sum jgo hi (jst i) ha
  unfold wT
  by_cases hb : (inR (xs (ti + 1)) (nI nw) && (decide ((xs (ti + 2)) = oN none) || inR (xs (ti + 2)) (nI nw)) && !decide ((xs (ti + 1)) = (xs (ti + 2)))) = true
  · rw [Bool.and_eq_true, Bool.and_eq_true, Bool.or_eq_true, decide_eq_true_eq] at hb
    obtain ⟨a, ha, hx1⟩ := (inR_iff (by omega)).mp hb.1.1
    rcases hb.1.2 with hx2 | hq2
    · refine K_needs_n E hX hbl hXJ hfl hL hiL hcl hsl _ (by first | assumption | omega) (by first | assumption | omega) (by first | assumption | omega) (by first | assumption | omega) hx1 hx2 rfl ?_
      exact g_wid (Nat.le_add_right _ _) (Nat.le_add_right _ _) (kk _ ⟨(oN (ne a)).toInt64, 0, nY, ix, bu, np, st, sr, go, ca, nw, yo, ce, wo, po, va_up ne a none, sm, cl, cs, mk, bg, dp, sh, sn, yw, sp, rs, msh, nx, spn, rfl, ⟨jY1, jYY, jix, jbu, jnp, jst, jsr, jsi, jgo, jca, jnw, jyY, jce, jwo, jpo, up_op jne (fun z hz => by cases hz), jsm, jcl, jmk, jbg, jdp⟩⟩)
    · obtain ⟨q, hq, hx2⟩ := (inR_iff (by omega)).mp hq2
      have haq : a ≠ q := by
        intro z
        have h3 := hb.2
        rw [hx1, hx2, z] at h3
        simp at h3
      refine K_needs_s E hX hbl hXJ hfl hL hiL hcl hsl _ _ (by first | assumption | omega) (by first | assumption | omega) (by first | assumption | omega) (by first | assumption | omega) (by first | assumption | omega) (by first | assumption | omega) (by first | assumption | omega) (by first | assumption | omega) hx1 hx2 rfl ?_
      exact g_wid (Nat.le_add_right _ _) (Nat.le_add_right _ _) (kk _ ⟨(oN (ne a)).toInt64, 0, nY, ix, bu, np, st, sr, go, ca, nw, yo, ce, wo, po, va_up ne a (some q), sm, cl, cs, mk, bg, dp, sh, sn, yw, sp, rs, msh, nx, spn, rfl, ⟨jY1, jYY, jix, jbu, jnp, jst, jsr, jsi, jgo, jca, jnw, jyY, jce, jwo, jpo, up_op jne (fun z hz => by cases hz; omega), jsm, jcl, jmk, jbg, jdp⟩⟩)
  · rw [Bool.not_eq_true] at hb
    refine K_needs_x E hX hbl hXJ hfl hL hiL hcl hsl _ _ (by first | assumption | omega) (by first | assumption | omega) (by first | assumption | omega) rfl rfl ?_
    exact kk _ ⟨ou, 1, nY, ix, bu, np, st, sr, go, ca, nw, yo, ce, wo, po, ne, sm, cl, cs, mk, bg, dp, sh, sn, yw, sp, rs, msh, nx, spn, rfl, ⟨jY1, jYY, jix, jbu, jnp, jst, jsr, jsi, jgo, jca, jnw, jyY, jce, jwo, jpo, jne, jsm, jcl, jmk, jbg, jdp⟩⟩

set_option maxHeartbeats 4000000 in
set_option maxRecDepth 100000 in
theorem T_choose {p : Program} {l : Launch} {e : Env} {s : State} {m : MethodId} {below : List Frame} {meth : Method} {c : Code} {V : gV} {sb LL ti cells slots : Nat} {xs : Nat → Int32} {oa : Nat} {ad r1 r2 r3 am : Nat → Nat} {ou : Int64} {th : Nat} {nY : Nat} {ix : Nat → Nat} {bu : Nat → Nat} {np : Nat} {st : Nat → Nat} {sr : Nat → Nat} {go : Nat → Nat} {ca : Nat → Nat} {nw : Nat} {yo : Nat → Nat} {ce : Nat → Nat} {wo : Nat → Nat} {po : Nat → Option Nat} {ne : Nat → Option Nat} {sm : Nat → Nat} {cl : Nat → Bool} {cs : Nat → Nat} {mk : Nat} {bg : Nat} {dp : Nat} {sh : Nat → Nat} {sn : Nat → Nat} {yw : Nat} {sp : Nat → Int} {rs : Nat → Int} {msh : Nat → Nat} {nx : Nat → Nat} {spn : Int} (E : gE p s m #[Value.ref sb] c code 8 R_La V) (hX : va_X sb LL xs s s.heap) (hbl : sb < s.heap.size) (hXJ : XJ s) (hfl : l.flags = flags0) (hL : LL ≤ 2561) (hiL : ti + 5 ≤ LL) (hcl : cells + 1 ≤ 601024) (hsl : slots + 6 ≤ 7293000) (hI : IV nY ix bu np st sr go ca nw yo ce wo po ne sm cl cs mk bg dp) (kk : ∀ w, TW V oa ad r1 r2 r3 am w → gg p l e room_1 s m #[Value.ref sb] below meth c 8 (lw_Z below #[Value.ref sb] s) (cells + 1) (slots + 6) (gW V (fun q => s.heap.size ≤ q) s.heap (w)) [(4, .int (nI ti)), (3, .ref oa), (2, .ref (am 0)), (1, .ref (ad 0)), (0, .ref sb)] 1527 []) : gg p l e room_1 s m #[Value.ref sb] below meth c 8 (lw_Z below #[Value.ref sb] s) cells slots (gW V (fun q => s.heap.size ≤ q) s.heap (wT V oa ad r1 r2 r3 am ou th nY ix bu np st sr go ca nw yo ce wo po ne sm cl cs mk bg dp sh sn yw sp rs msh nx spn)) [(4, .int (nI ti)), (3, .ref oa), (2, .ref (am 0)), (1, .ref (ad 0)), (0, .ref sb)] 1082 [] := by
  obtain ⟨jY1, jYY, jix, jbu, jnp, jst, jsr, jsi, jgo, jca, jnw, jyY, jce, jwo, jpo, jne, jsm, jcl, jmk, jbg, jdp⟩ := hI
  have jyo : ∀ w, yo w < 12 := fun w => Nat.lt_of_lt_of_le (jyY w) jYY
  have jsx : ∀ i j, sxF np st go i j ≤ 16 := sx_le jgo
  have jtk : ∀ i j, tkF ca i j ≤ 1000 := tk_le jca
  have jsv : ∀ a b, svF sm a b ≤ 1000000 := svF_le jsm
  have jcs := jcl.1
  have jrn : ∀ i, rnN po yo mk nw i < 4096 := rnN_lt jyo nw
  have jp : 2 ^ nw ≤ 2 ^ 10 := Nat.pow_le_pow_right (by decide) jnw
  have jmk2 : mk < 1024 := by omega
  have jlv : ∀ p a, lvN go p a ≤ 16 := lv_le jgo
  have jgl : ∀ j, go j ≤ 16 := go_le jgo
  have jsi1 : ∀ i, i < np → sr i < st i := fun i hi => (jsi i hi).2
  have jM : ∀ i, i < np → ∀ a, a < st i → sumN (fun j => sxF np st go i (a * 4 + j)) (st i) = 16 := fun i hi a ha => sx_sum jgo hi (jst i) ha
  unfold wT
  have hp1 := Nat.two_pow_pos nw
  refine K_choose E hX hbl hXJ hfl hL hiL hcl hsl (by first | assumption | omega) (by first | assumption | omega) (by first | assumption | omega) (by first | assumption | omega) (by first | assumption | omega) (by first | assumption | omega) (by first | assumption | omega) (by first | assumption | omega) (by first | assumption | omega) (by first | assumption | omega) (by first | assumption | omega) (by first | assumption | omega) (by first | assumption | omega) (by first | assumption | omega) (by first | assumption | omega) (by first | assumption | omega) (by first | assumption | omega) (by first | assumption | omega) (by first | assumption | omega) (by first | assumption | omega) (by first | assumption | omega) (by rw [ch_tie jcl jnw]; exact congrArg nI (chN_w (wv := fun S => wS wo S nw) wS_0 _).symm) ?_
  exact g_wid (Nat.le_add_right _ _) (Nat.le_add_right _ _) (kk _ ⟨ou, 0, nY, ix, bu, np, st, sr, go, ca, nw, yo, ce, wo, po, ne, sm, cl, cs, (chN (fun S => wS wo S nw) (fun S => allN (agM cl ne yo S) nw) (fun S => sumZ (cS ix yo ce (fun a b => sm (10 * a + b)) nw S) nY) (fun S => oB bu (cS ix yo ce (fun a b => sm (10 * a + b)) nw S) nY) (2 ^ nw - 1)).1, bg, dp, sh, sn, yw, spN (fun S => wS wo S nw) (fun S => allN (agW cs ne yo S) nw) (fun S => sumZ (cS ix yo ce (svF sm) nw S) nY) (fun S => oB bu (cS ix yo ce (svF sm) nw S) nY) (cS ix yo ce (svF sm) nw) sp (2 ^ nw - 1), rs, msh, nx, spM (fun S => wS wo S nw) (fun S => allN (agM cl ne yo S) nw) (fun S => sumZ (cS ix yo ce (fun a b => sm (10 * a + b)) nw S) nY) (fun S => oB bu (cS ix yo ce (fun a b => sm (10 * a + b)) nw S) nY) spn (2 ^ nw - 1), (by unfold wT; rw [ch_tie jcl jnw]), ⟨jY1, jYY, jix, jbu, jnp, jst, jsr, jsi, jgo, jca, jnw, jyY, jce, jwo, jpo, jne, jsm, jcl, (Nat.lt_of_le_of_lt (chN_lt _) (by omega)), jbg, jdp⟩⟩)

set_option maxHeartbeats 4000000 in
set_option maxRecDepth 100000 in
theorem T_chosen {p : Program} {l : Launch} {e : Env} {s : State} {m : MethodId} {below : List Frame} {meth : Method} {c : Code} {V : gV} {sb LL ti cells slots : Nat} {xs : Nat → Int32} {oa : Nat} {ad r1 r2 r3 am : Nat → Nat} {ou : Int64} {th : Nat} {nY : Nat} {ix : Nat → Nat} {bu : Nat → Nat} {np : Nat} {st : Nat → Nat} {sr : Nat → Nat} {go : Nat → Nat} {ca : Nat → Nat} {nw : Nat} {yo : Nat → Nat} {ce : Nat → Nat} {wo : Nat → Nat} {po : Nat → Option Nat} {ne : Nat → Option Nat} {sm : Nat → Nat} {cl : Nat → Bool} {cs : Nat → Nat} {mk : Nat} {bg : Nat} {dp : Nat} {sh : Nat → Nat} {sn : Nat → Nat} {yw : Nat} {sp : Nat → Int} {rs : Nat → Int} {msh : Nat → Nat} {nx : Nat → Nat} {spn : Int} (E : gE p s m #[Value.ref sb] c code 8 R_La V) (hX : va_X sb LL xs s s.heap) (hbl : sb < s.heap.size) (hXJ : XJ s) (hfl : l.flags = flags0) (hL : LL ≤ 2561) (hiL : ti + 5 ≤ LL) (hcl : cells + 1 ≤ 601024) (hsl : slots + 6 ≤ 7293000) (hI : IV nY ix bu np st sr go ca nw yo ce wo po ne sm cl cs mk bg dp) (kk : ∀ w, TW V oa ad r1 r2 r3 am w → gg p l e room_1 s m #[Value.ref sb] below meth c 8 (lw_Z below #[Value.ref sb] s) (cells + 1) (slots + 6) (gW V (fun q => s.heap.size ≤ q) s.heap (w)) [(4, .int (nI ti)), (3, .ref oa), (2, .ref (am 0)), (1, .ref (ad 0)), (0, .ref sb)] 1527 []) : gg p l e room_1 s m #[Value.ref sb] below meth c 8 (lw_Z below #[Value.ref sb] s) cells slots (gW V (fun q => s.heap.size ≤ q) s.heap (wT V oa ad r1 r2 r3 am ou th nY ix bu np st sr go ca nw yo ce wo po ne sm cl cs mk bg dp sh sn yw sp rs msh nx spn)) [(4, .int (nI ti)), (3, .ref oa), (2, .ref (am 0)), (1, .ref (ad 0)), (0, .ref sb)] 1095 [] := by
  obtain ⟨jY1, jYY, jix, jbu, jnp, jst, jsr, jsi, jgo, jca, jnw, jyY, jce, jwo, jpo, jne, jsm, jcl, jmk, jbg, jdp⟩ := hI
  have jyo : ∀ w, yo w < 12 := fun w => Nat.lt_of_lt_of_le (jyY w) jYY
  have jsx : ∀ i j, sxF np st go i j ≤ 16 := sx_le jgo
  have jtk : ∀ i j, tkF ca i j ≤ 1000 := tk_le jca
  have jsv : ∀ a b, svF sm a b ≤ 1000000 := svF_le jsm
  have jcs := jcl.1
  have jrn : ∀ i, rnN po yo mk nw i < 4096 := rnN_lt jyo nw
  have jp : 2 ^ nw ≤ 2 ^ 10 := Nat.pow_le_pow_right (by decide) jnw
  have jmk2 : mk < 1024 := by omega
  have jlv : ∀ p a, lvN go p a ≤ 16 := lv_le jgo
  have jgl : ∀ j, go j ≤ 16 := go_le jgo
  have jsi1 : ∀ i, i < np → sr i < st i := fun i hi => (jsi i hi).2
  have jM : ∀ i, i < np → ∀ a, a < st i → sumN (fun j => sxF np st go i (a * 4 + j)) (st i) = 16 := fun i hi a ha => sx_sum jgo hi (jst i) ha
  unfold wT
  by_cases hb : (inR (xs (ti + 1)) (nI nw)) = true
  · obtain ⟨a, ha, hx1⟩ := (inR_iff (by omega)).mp hb
    refine K_chosen E hX hbl hXJ hfl hL hiL hcl hsl _ (by first | assumption | omega) (by first | assumption | omega) (by first | assumption | omega) (by first | assumption | omega) (by first | assumption | omega) (by first | assumption | omega) hx1 rfl ?_
    exact g_wid (Nat.le_add_right _ _) (Nat.le_add_right _ _) (kk _ ⟨if mk.testBit a then lN 1 else lN 0, 0, nY, ix, bu, np, st, sr, go, ca, nw, yo, ce, wo, po, ne, sm, cl, cs, mk, bg, dp, sh, sn, yw, sp, rs, msh, nx, spn, rfl, ⟨jY1, jYY, jix, jbu, jnp, jst, jsr, jsi, jgo, jca, jnw, jyY, jce, jwo, jpo, jne, jsm, jcl, jmk, jbg, jdp⟩⟩)
  · rw [Bool.not_eq_true] at hb
    refine K_chosen_x E hX hbl hXJ hfl hL hiL hcl hsl _ (by first | assumption | omega) (by first | assumption | omega) (by first | assumption | omega) rfl ?_
    exact kk _ ⟨ou, 1, nY, ix, bu, np, st, sr, go, ca, nw, yo, ce, wo, po, ne, sm, cl, cs, mk, bg, dp, sh, sn, yw, sp, rs, msh, nx, spn, rfl, ⟨jY1, jYY, jix, jbu, jnp, jst, jsr, jsi, jgo, jca, jnw, jyY, jce, jwo, jpo, jne, jsm, jcl, jmk, jbg, jdp⟩⟩

set_option maxHeartbeats 4000000 in
set_option maxRecDepth 100000 in
theorem T_costs {p : Program} {l : Launch} {e : Env} {s : State} {m : MethodId} {below : List Frame} {meth : Method} {c : Code} {V : gV} {sb LL ti cells slots : Nat} {xs : Nat → Int32} {oa : Nat} {ad r1 r2 r3 am : Nat → Nat} {ou : Int64} {th : Nat} {nY : Nat} {ix : Nat → Nat} {bu : Nat → Nat} {np : Nat} {st : Nat → Nat} {sr : Nat → Nat} {go : Nat → Nat} {ca : Nat → Nat} {nw : Nat} {yo : Nat → Nat} {ce : Nat → Nat} {wo : Nat → Nat} {po : Nat → Option Nat} {ne : Nat → Option Nat} {sm : Nat → Nat} {cl : Nat → Bool} {cs : Nat → Nat} {mk : Nat} {bg : Nat} {dp : Nat} {sh : Nat → Nat} {sn : Nat → Nat} {yw : Nat} {sp : Nat → Int} {rs : Nat → Int} {msh : Nat → Nat} {nx : Nat → Nat} {spn : Int} (E : gE p s m #[Value.ref sb] c code 8 R_La V) (hX : va_X sb LL xs s s.heap) (hbl : sb < s.heap.size) (hXJ : XJ s) (hfl : l.flags = flags0) (hL : LL ≤ 2561) (hiL : ti + 5 ≤ LL) (hcl : cells + 1 ≤ 601024) (hsl : slots + 6 ≤ 7293000) (hI : IV nY ix bu np st sr go ca nw yo ce wo po ne sm cl cs mk bg dp) (kk : ∀ w, TW V oa ad r1 r2 r3 am w → gg p l e room_1 s m #[Value.ref sb] below meth c 8 (lw_Z below #[Value.ref sb] s) (cells + 1) (slots + 6) (gW V (fun q => s.heap.size ≤ q) s.heap (w)) [(4, .int (nI ti)), (3, .ref oa), (2, .ref (am 0)), (1, .ref (ad 0)), (0, .ref sb)] 1527 []) : gg p l e room_1 s m #[Value.ref sb] below meth c 8 (lw_Z below #[Value.ref sb] s) cells slots (gW V (fun q => s.heap.size ≤ q) s.heap (wT V oa ad r1 r2 r3 am ou th nY ix bu np st sr go ca nw yo ce wo po ne sm cl cs mk bg dp sh sn yw sp rs msh nx spn)) [(4, .int (nI ti)), (3, .ref oa), (2, .ref (am 0)), (1, .ref (ad 0)), (0, .ref sb)] 1158 [] := by
  obtain ⟨jY1, jYY, jix, jbu, jnp, jst, jsr, jsi, jgo, jca, jnw, jyY, jce, jwo, jpo, jne, jsm, jcl, jmk, jbg, jdp⟩ := hI
  have jyo : ∀ w, yo w < 12 := fun w => Nat.lt_of_lt_of_le (jyY w) jYY
  have jsx : ∀ i j, sxF np st go i j ≤ 16 := sx_le jgo
  have jtk : ∀ i j, tkF ca i j ≤ 1000 := tk_le jca
  have jsv : ∀ a b, svF sm a b ≤ 1000000 := svF_le jsm
  have jcs := jcl.1
  have jrn : ∀ i, rnN po yo mk nw i < 4096 := rnN_lt jyo nw
  have jp : 2 ^ nw ≤ 2 ^ 10 := Nat.pow_le_pow_right (by decide) jnw
  have jmk2 : mk < 1024 := by omega
  have jlv : ∀ p a, lvN go p a ≤ 16 := lv_le jgo
  have jgl : ∀ j, go j ≤ 16 := go_le jgo
  have jsi1 : ∀ i, i < np → sr i < st i := fun i hi => (jsi i hi).2
  have jM : ∀ i, i < np → ∀ a, a < st i → sumN (fun j => sxF np st go i (a * 4 + j)) (st i) = 16 := fun i hi a ha => sx_sum jgo hi (jst i) ha
  unfold wT
  by_cases hb : (inR (xs (ti + 1)) (nI nY)) = true
  · obtain ⟨y, hy, hx1⟩ := (inR_iff (by omega)).mp hb
    refine K_costs E hX hbl hXJ hfl hL hiL hcl hsl _ (by first | assumption | omega) (by first | assumption | omega) (by first | assumption | omega) (by first | assumption | omega) (by first | assumption | omega) (by first | assumption | omega) (by first | assumption | omega) (by first | assumption | omega) (by first | assumption | omega) (by first | assumption | omega) (by first | assumption | omega) (by first | assumption | omega) (by first | assumption | omega) (by first | assumption | omega) (by first | assumption | omega) (by first | assumption | omega) (by first | assumption | omega) hx1 (by rw [cS_tie jnw]) ?_
    exact g_wid (Nat.le_add_right _ _) (Nat.le_add_right _ _) (kk _ ⟨(iI (cS ix yo ce (svF sm) nw mk y)).toInt64, 0, nY, ix, bu, np, st, sr, go, ca, nw, yo, ce, wo, po, ne, sm, cl, cs, mk, bg, dp, sh, sn, yw, cS ix yo ce (svF sm) nw mk, rs, msh, nx, spn, rfl, ⟨jY1, jYY, jix, jbu, jnp, jst, jsr, jsi, jgo, jca, jnw, jyY, jce, jwo, jpo, jne, jsm, jcl, jmk, jbg, jdp⟩⟩)
  · rw [Bool.not_eq_true] at hb
    refine K_costs_x E hX hbl hXJ hfl hL hiL hcl hsl _ (by first | assumption | omega) (by first | assumption | omega) (by first | assumption | omega) rfl ?_
    exact kk _ ⟨ou, 1, nY, ix, bu, np, st, sr, go, ca, nw, yo, ce, wo, po, ne, sm, cl, cs, mk, bg, dp, sh, sn, yw, sp, rs, msh, nx, spn, rfl, ⟨jY1, jYY, jix, jbu, jnp, jst, jsr, jsi, jgo, jca, jnw, jyY, jce, jwo, jpo, jne, jsm, jcl, jmk, jbg, jdp⟩⟩

set_option maxHeartbeats 4000000 in
set_option maxRecDepth 100000 in
theorem T_lacks {p : Program} {l : Launch} {e : Env} {s : State} {m : MethodId} {below : List Frame} {meth : Method} {c : Code} {V : gV} {sb LL ti cells slots : Nat} {xs : Nat → Int32} {oa : Nat} {ad r1 r2 r3 am : Nat → Nat} {ou : Int64} {th : Nat} {nY : Nat} {ix : Nat → Nat} {bu : Nat → Nat} {np : Nat} {st : Nat → Nat} {sr : Nat → Nat} {go : Nat → Nat} {ca : Nat → Nat} {nw : Nat} {yo : Nat → Nat} {ce : Nat → Nat} {wo : Nat → Nat} {po : Nat → Option Nat} {ne : Nat → Option Nat} {sm : Nat → Nat} {cl : Nat → Bool} {cs : Nat → Nat} {mk : Nat} {bg : Nat} {dp : Nat} {sh : Nat → Nat} {sn : Nat → Nat} {yw : Nat} {sp : Nat → Int} {rs : Nat → Int} {msh : Nat → Nat} {nx : Nat → Nat} {spn : Int} (E : gE p s m #[Value.ref sb] c code 8 R_La V) (hX : va_X sb LL xs s s.heap) (hbl : sb < s.heap.size) (hXJ : XJ s) (hfl : l.flags = flags0) (hL : LL ≤ 2561) (hiL : ti + 5 ≤ LL) (hcl : cells + 1 ≤ 601024) (hsl : slots + 6 ≤ 7293000) (hI : IV nY ix bu np st sr go ca nw yo ce wo po ne sm cl cs mk bg dp) (kk : ∀ w, TW V oa ad r1 r2 r3 am w → gg p l e room_1 s m #[Value.ref sb] below meth c 8 (lw_Z below #[Value.ref sb] s) (cells + 1) (slots + 6) (gW V (fun q => s.heap.size ≤ q) s.heap (w)) [(4, .int (nI ti)), (3, .ref oa), (2, .ref (am 0)), (1, .ref (ad 0)), (0, .ref sb)] 1527 []) : gg p l e room_1 s m #[Value.ref sb] below meth c 8 (lw_Z below #[Value.ref sb] s) cells slots (gW V (fun q => s.heap.size ≤ q) s.heap (wT V oa ad r1 r2 r3 am ou th nY ix bu np st sr go ca nw yo ce wo po ne sm cl cs mk bg dp sh sn yw sp rs msh nx spn)) [(4, .int (nI ti)), (3, .ref oa), (2, .ref (am 0)), (1, .ref (ad 0)), (0, .ref sb)] 1214 [] := by
  obtain ⟨jY1, jYY, jix, jbu, jnp, jst, jsr, jsi, jgo, jca, jnw, jyY, jce, jwo, jpo, jne, jsm, jcl, jmk, jbg, jdp⟩ := hI
  have jyo : ∀ w, yo w < 12 := fun w => Nat.lt_of_lt_of_le (jyY w) jYY
  have jsx : ∀ i j, sxF np st go i j ≤ 16 := sx_le jgo
  have jtk : ∀ i j, tkF ca i j ≤ 1000 := tk_le jca
  have jsv : ∀ a b, svF sm a b ≤ 1000000 := svF_le jsm
  have jcs := jcl.1
  have jrn : ∀ i, rnN po yo mk nw i < 4096 := rnN_lt jyo nw
  have jp : 2 ^ nw ≤ 2 ^ 10 := Nat.pow_le_pow_right (by decide) jnw
  have jmk2 : mk < 1024 := by omega
  have jlv : ∀ p a, lvN go p a ≤ 16 := lv_le jgo
  have jgl : ∀ j, go j ≤ 16 := go_le jgo
  have jsi1 : ∀ i, i < np → sr i < st i := fun i hi => (jsi i hi).2
  have jM : ∀ i, i < np → ∀ a, a < st i → sumN (fun j => sxF np st go i (a * 4 + j)) (st i) = 16 := fun i hi a ha => sx_sum jgo hi (jst i) ha
  unfold wT
  by_cases hb : (allN (agW cs ne yo (xm (xs (ti + 1)) nw)) nw) = true
  · have hag2 := hb
    rw [ag_tie jcl jnw (xm_2 _ _)] at hag2
    refine K_lacks_y E hX hbl hXJ hfl hL hiL hcl hsl _ (by first | assumption | omega) (by first | assumption | omega) (by first | assumption | omega) (by first | assumption | omega) (by first | assumption | omega) (by first | assumption | omega) (by first | assumption | omega) (by first | assumption | omega) (by first | assumption | omega) (by first | assumption | omega) (by first | assumption | omega) (by first | assumption | omega) (by first | assumption | omega) (by first | assumption | omega) (by first | assumption | omega) (by first | assumption | omega) (by first | assumption | omega) (by first | assumption | omega) (by first | assumption | omega) (by first | assumption | omega) (by first | assumption | omega) (by first | assumption | omega) rfl (by rw [cSf_tie jnw]) ?_
    exact g_wid (Nat.le_add_right _ _) (Nat.le_add_right _ _) (kk _ ⟨ou, 0, nY, ix, bu, np, st, sr, go, ca, nw, yo, ce, wo, po, ne, sm, cl, cs, mk, bg, dp, sh, sn, yw, cS ix yo ce (svF sm) nw (xm (xs (ti + 1)) nw), rs, msh, nx, sumZ (cS ix yo ce (fun a b => sm (10 * a + b)) nw (xm (xs (ti + 1)) nw)) nY, rfl, ⟨jY1, jYY, jix, jbu, jnp, jst, jsr, jsi, jgo, jca, jnw, jyY, jce, jwo, jpo, jne, jsm, jcl, jmk, jbg, jdp⟩⟩)
  · rw [Bool.not_eq_true] at hb
    have hag2 := hb
    rw [ag_tie jcl jnw (xm_2 _ _)] at hag2
    refine K_lacks_n E hX hbl hXJ hfl hL hiL hcl hsl _ (by first | assumption | omega) (by first | assumption | omega) (by first | assumption | omega) (by first | assumption | omega) (by first | assumption | omega) (by first | assumption | omega) (by first | assumption | omega) (by first | assumption | omega) (by first | assumption | omega) (by first | assumption | omega) (by first | assumption | omega) (by first | assumption | omega) (by first | assumption | omega) (by first | assumption | omega) (by first | assumption | omega) (by first | assumption | omega) (by first | assumption | omega) (by first | assumption | omega) (by first | assumption | omega) (by first | assumption | omega) (by first | assumption | omega) (by first | assumption | omega) rfl rfl ?_
    exact g_wid (Nat.le_add_right _ _) (Nat.le_add_right _ _) (kk _ ⟨ou, 0, nY, ix, bu, np, st, sr, go, ca, nw, yo, ce, wo, po, ne, sm, cl, cs, mk, bg, dp, sh, sn, yw, sp, rs, msh, nx, spn, rfl, ⟨jY1, jYY, jix, jbu, jnp, jst, jsr, jsi, jgo, jca, jnw, jyY, jce, jwo, jpo, jne, jsm, jcl, jmk, jbg, jdp⟩⟩)

set_option maxHeartbeats 4000000 in
set_option maxRecDepth 100000 in
theorem T_money {p : Program} {l : Launch} {e : Env} {s : State} {m : MethodId} {below : List Frame} {meth : Method} {c : Code} {V : gV} {sb LL ti cells slots : Nat} {xs : Nat → Int32} {oa : Nat} {ad r1 r2 r3 am : Nat → Nat} {ou : Int64} {th : Nat} {nY : Nat} {ix : Nat → Nat} {bu : Nat → Nat} {np : Nat} {st : Nat → Nat} {sr : Nat → Nat} {go : Nat → Nat} {ca : Nat → Nat} {nw : Nat} {yo : Nat → Nat} {ce : Nat → Nat} {wo : Nat → Nat} {po : Nat → Option Nat} {ne : Nat → Option Nat} {sm : Nat → Nat} {cl : Nat → Bool} {cs : Nat → Nat} {mk : Nat} {bg : Nat} {dp : Nat} {sh : Nat → Nat} {sn : Nat → Nat} {yw : Nat} {sp : Nat → Int} {rs : Nat → Int} {msh : Nat → Nat} {nx : Nat → Nat} {spn : Int} (E : gE p s m #[Value.ref sb] c code 8 R_La V) (hX : va_X sb LL xs s s.heap) (hbl : sb < s.heap.size) (hXJ : XJ s) (hfl : l.flags = flags0) (hL : LL ≤ 2561) (hiL : ti + 5 ≤ LL) (hcl : cells + 1 ≤ 601024) (hsl : slots + 6 ≤ 7293000) (hI : IV nY ix bu np st sr go ca nw yo ce wo po ne sm cl cs mk bg dp) (kk : ∀ w, TW V oa ad r1 r2 r3 am w → gg p l e room_1 s m #[Value.ref sb] below meth c 8 (lw_Z below #[Value.ref sb] s) (cells + 1) (slots + 6) (gW V (fun q => s.heap.size ≤ q) s.heap (w)) [(4, .int (nI ti)), (3, .ref oa), (2, .ref (am 0)), (1, .ref (ad 0)), (0, .ref sb)] 1527 []) : gg p l e room_1 s m #[Value.ref sb] below meth c 8 (lw_Z below #[Value.ref sb] s) cells slots (gW V (fun q => s.heap.size ≤ q) s.heap (wT V oa ad r1 r2 r3 am ou th nY ix bu np st sr go ca nw yo ce wo po ne sm cl cs mk bg dp sh sn yw sp rs msh nx spn)) [(4, .int (nI ti)), (3, .ref oa), (2, .ref (am 0)), (1, .ref (ad 0)), (0, .ref sb)] 1239 [] := by
  obtain ⟨jY1, jYY, jix, jbu, jnp, jst, jsr, jsi, jgo, jca, jnw, jyY, jce, jwo, jpo, jne, jsm, jcl, jmk, jbg, jdp⟩ := hI
  have jyo : ∀ w, yo w < 12 := fun w => Nat.lt_of_lt_of_le (jyY w) jYY
  have jsx : ∀ i j, sxF np st go i j ≤ 16 := sx_le jgo
  have jtk : ∀ i j, tkF ca i j ≤ 1000 := tk_le jca
  have jsv : ∀ a b, svF sm a b ≤ 1000000 := svF_le jsm
  have jcs := jcl.1
  have jrn : ∀ i, rnN po yo mk nw i < 4096 := rnN_lt jyo nw
  have jp : 2 ^ nw ≤ 2 ^ 10 := Nat.pow_le_pow_right (by decide) jnw
  have jmk2 : mk < 1024 := by omega
  have jlv : ∀ p a, lvN go p a ≤ 16 := lv_le jgo
  have jgl : ∀ j, go j ≤ 16 := go_le jgo
  have jsi1 : ∀ i, i < np → sr i < st i := fun i hi => (jsi i hi).2
  have jM : ∀ i, i < np → ∀ a, a < st i → sumN (fun j => sxF np st go i (a * 4 + j)) (st i) = 16 := fun i hi a ha => sx_sum jgo hi (jst i) ha
  unfold wT
  by_cases hb : (inB (xs (ti + 1)) (nI 0) (nI 1000000000) && inB (xs (ti + 2)) (nI 0) (nI 1000000000)) = true
  · rw [Bool.and_eq_true] at hb
    obtain ⟨k, hk1, hk2, hx1⟩ := (inB_iff (by decide) (by decide)).mp hb.1
    obtain ⟨v, hv1, hv2, hx2⟩ := (inB_iff (by decide) (by decide)).mp hb.2
    refine K_money E hX hbl hXJ hfl hL hiL hcl hsl _ _ (by first | assumption | omega) (by first | assumption | omega) (by first | assumption | omega) (by first | assumption | omega) hx1 hx2 ?_
    exact g_wid (Nat.le_add_right _ _) (Nat.le_add_right _ _) (kk _ ⟨ou, 0, nY, ix, bu, np, st, sr, go, ca, nw, yo, ce, wo, po, ne, sm, cl, cs, mk, k, v, sh, sn, yw, sp, rs, msh, nx, spn, rfl, ⟨jY1, jYY, jix, jbu, jnp, jst, jsr, jsi, jgo, jca, jnw, jyY, jce, jwo, jpo, jne, jsm, jcl, jmk, hk2, hv2⟩⟩)
  · rw [Bool.not_eq_true] at hb
    refine K_money_x E hX hbl hXJ hfl hL hiL hcl hsl _ _ (by first | assumption | omega) (by first | assumption | omega) rfl rfl ?_
    exact kk _ ⟨ou, 1, nY, ix, bu, np, st, sr, go, ca, nw, yo, ce, wo, po, ne, sm, cl, cs, mk, bg, dp, sh, sn, yw, sp, rs, msh, nx, spn, rfl, ⟨jY1, jYY, jix, jbu, jnp, jst, jsr, jsi, jgo, jca, jnw, jyY, jce, jwo, jpo, jne, jsm, jcl, jmk, jbg, jdp⟩⟩

set_option maxHeartbeats 4000000 in
set_option maxRecDepth 100000 in
theorem T_reserve {p : Program} {l : Launch} {e : Env} {s : State} {m : MethodId} {below : List Frame} {meth : Method} {c : Code} {V : gV} {sb LL ti cells slots : Nat} {xs : Nat → Int32} {oa : Nat} {ad r1 r2 r3 am : Nat → Nat} {ou : Int64} {th : Nat} {nY : Nat} {ix : Nat → Nat} {bu : Nat → Nat} {np : Nat} {st : Nat → Nat} {sr : Nat → Nat} {go : Nat → Nat} {ca : Nat → Nat} {nw : Nat} {yo : Nat → Nat} {ce : Nat → Nat} {wo : Nat → Nat} {po : Nat → Option Nat} {ne : Nat → Option Nat} {sm : Nat → Nat} {cl : Nat → Bool} {cs : Nat → Nat} {mk : Nat} {bg : Nat} {dp : Nat} {sh : Nat → Nat} {sn : Nat → Nat} {yw : Nat} {sp : Nat → Int} {rs : Nat → Int} {msh : Nat → Nat} {nx : Nat → Nat} {spn : Int} (E : gE p s m #[Value.ref sb] c code 8 R_La V) (hX : va_X sb LL xs s s.heap) (hbl : sb < s.heap.size) (hXJ : XJ s) (hfl : l.flags = flags0) (hL : LL ≤ 2561) (hiL : ti + 5 ≤ LL) (hcl : cells + 1 ≤ 601024) (hsl : slots + 6 ≤ 7293000) (hI : IV nY ix bu np st sr go ca nw yo ce wo po ne sm cl cs mk bg dp) (kk : ∀ w, TW V oa ad r1 r2 r3 am w → gg p l e room_1 s m #[Value.ref sb] below meth c 8 (lw_Z below #[Value.ref sb] s) (cells + 1) (slots + 6) (gW V (fun q => s.heap.size ≤ q) s.heap (w)) [(4, .int (nI ti)), (3, .ref oa), (2, .ref (am 0)), (1, .ref (ad 0)), (0, .ref sb)] 1527 []) : gg p l e room_1 s m #[Value.ref sb] below meth c 8 (lw_Z below #[Value.ref sb] s) cells slots (gW V (fun q => s.heap.size ≤ q) s.heap (wT V oa ad r1 r2 r3 am ou th nY ix bu np st sr go ca nw yo ce wo po ne sm cl cs mk bg dp sh sn yw sp rs msh nx spn)) [(4, .int (nI ti)), (3, .ref oa), (2, .ref (am 0)), (1, .ref (ad 0)), (0, .ref sb)] 1287 [] := by
  obtain ⟨jY1, jYY, jix, jbu, jnp, jst, jsr, jsi, jgo, jca, jnw, jyY, jce, jwo, jpo, jne, jsm, jcl, jmk, jbg, jdp⟩ := hI
  have jyo : ∀ w, yo w < 12 := fun w => Nat.lt_of_lt_of_le (jyY w) jYY
  have jsx : ∀ i j, sxF np st go i j ≤ 16 := sx_le jgo
  have jtk : ∀ i j, tkF ca i j ≤ 1000 := tk_le jca
  have jsv : ∀ a b, svF sm a b ≤ 1000000 := svF_le jsm
  have jcs := jcl.1
  have jrn : ∀ i, rnN po yo mk nw i < 4096 := rnN_lt jyo nw
  have jp : 2 ^ nw ≤ 2 ^ 10 := Nat.pow_le_pow_right (by decide) jnw
  have jmk2 : mk < 1024 := by omega
  have jlv : ∀ p a, lvN go p a ≤ 16 := lv_le jgo
  have jgl : ∀ j, go j ≤ 16 := go_le jgo
  have jsi1 : ∀ i, i < np → sr i < st i := fun i hi => (jsi i hi).2
  have jM : ∀ i, i < np → ∀ a, a < st i → sumN (fun j => sxF np st go i (a * 4 + j)) (st i) = 16 := fun i hi a ha => sx_sum jgo hi (jst i) ha
  unfold wT
  by_cases hb : (inR (xs (ti + 1)) (nI nY)) = true
  · have jT : ∀ i y u, i < np → y < 12 → tM go ca sr po yo mk nw i y u < 2 ^ 62 := fun i y u hi hy => tM_lt jgo hi (jst i) (jsi1 i hi) hy jca
    have jD : ∀ i y u, i < np → y < 12 → tM go ca sr po yo mk nw i y u / 16 ^ (y - bgN po yo mk i y nw) ≤ 1000 := fun i y u hi hy => tM_dle jgo hi (jst i) (jsi1 i hi) hy jca
    have jC : ∀ i y u, i < np → y < 12 → cM ix go ca sr po yo mk nw i y u = cY ix st sr (sxF np st go) (tkF ca) (rnN po yo mk nw) i y := fun i y u hi _ => cM_tie jgo hi (jst i) (jsi1 i hi)
    obtain ⟨y, hy, hx1⟩ := (inR_iff (by omega)).mp hb
    refine K_reserve E hX hbl hXJ hfl hL hiL hcl hsl _ (by first | assumption | omega) (by first | assumption | omega) (by first | assumption | omega) (by first | assumption | omega) (by first | assumption | omega) (by first | assumption | omega) (by first | assumption | omega) (by first | assumption | omega) (by first | assumption | omega) (by first | assumption | omega) (by first | assumption | omega) (by first | assumption | omega) (by first | assumption | omega) (by first | assumption | omega) (by first | assumption | omega) (by first | assumption | omega) (by first | assumption | omega) (by first | assumption | omega) (by first | assumption | omega) (by first | assumption | omega) (by first | assumption | omega) (cY ix st sr (sxF np st go) (tkF ca) (rnN po yo mk nw)) (by first | assumption | omega) (by first | assumption | omega) (by first | assumption | omega) (by first | assumption | omega) (by first | assumption | omega) (by first | assumption | omega) (by first | assumption | omega) (by first | assumption | omega) (by first | assumption | omega) (by first | assumption | omega) (by first | assumption | omega) (by first | assumption | omega) (by first | assumption | omega) (by first | assumption | omega) (by first | assumption | omega) hx1 (by rw [cSf_tie jnw]; rfl) ?_
    exact g_wid (Nat.le_add_right _ _) (Nat.le_add_right _ _) (kk _ ⟨lI (rV ix st sr (sxF np st go) (tkF ca) (rnN po yo mk nw) (cS ix yo ce (svF sm) nw mk) bg dp np y), 0, nY, ix, bu, np, st, sr, go, ca, nw, yo, ce, wo, po, ne, sm, cl, cs, mk, bg, dp, (tE nY st sr (sxF np st go) (rnN po yo mk nw) sh sn yw np).1, (tE nY st sr (sxF np st go) (rnN po yo mk nw) sh sn yw np).2.2, (tE nY st sr (sxF np st go) (rnN po yo mk nw) sh sn yw np).2.1, cS ix yo ce (svF sm) nw mk, fun j => if j < nY then rV ix st sr (sxF np st go) (tkF ca) (rnN po yo mk nw) (cS ix yo ce (svF sm) nw mk) bg dp np j else rs j, (jY go sr po yo mk nw np (msh, nx) (y + 1)).1, (jY go sr po yo mk nw np (msh, nx) (y + 1)).2, spn, rfl, ⟨jY1, jYY, jix, jbu, jnp, jst, jsr, jsi, jgo, jca, jnw, jyY, jce, jwo, jpo, jne, jsm, jcl, jmk, jbg, jdp⟩⟩)
  · rw [Bool.not_eq_true] at hb
    refine K_reserve_x E hX hbl hXJ hfl hL hiL hcl hsl _ (by first | assumption | omega) (by first | assumption | omega) (by first | assumption | omega) rfl ?_
    exact kk _ ⟨ou, 1, nY, ix, bu, np, st, sr, go, ca, nw, yo, ce, wo, po, ne, sm, cl, cs, mk, bg, dp, sh, sn, yw, sp, rs, msh, nx, spn, rfl, ⟨jY1, jYY, jix, jbu, jnp, jst, jsr, jsi, jgo, jca, jnw, jyY, jce, jwo, jpo, jne, jsm, jcl, jmk, jbg, jdp⟩⟩

set_option maxHeartbeats 4000000 in
set_option maxRecDepth 100000 in
theorem T_shortIn {p : Program} {l : Launch} {e : Env} {s : State} {m : MethodId} {below : List Frame} {meth : Method} {c : Code} {V : gV} {sb LL ti cells slots : Nat} {xs : Nat → Int32} {oa : Nat} {ad r1 r2 r3 am : Nat → Nat} {ou : Int64} {th : Nat} {nY : Nat} {ix : Nat → Nat} {bu : Nat → Nat} {np : Nat} {st : Nat → Nat} {sr : Nat → Nat} {go : Nat → Nat} {ca : Nat → Nat} {nw : Nat} {yo : Nat → Nat} {ce : Nat → Nat} {wo : Nat → Nat} {po : Nat → Option Nat} {ne : Nat → Option Nat} {sm : Nat → Nat} {cl : Nat → Bool} {cs : Nat → Nat} {mk : Nat} {bg : Nat} {dp : Nat} {sh : Nat → Nat} {sn : Nat → Nat} {yw : Nat} {sp : Nat → Int} {rs : Nat → Int} {msh : Nat → Nat} {nx : Nat → Nat} {spn : Int} (E : gE p s m #[Value.ref sb] c code 8 R_La V) (hX : va_X sb LL xs s s.heap) (hbl : sb < s.heap.size) (hXJ : XJ s) (hfl : l.flags = flags0) (hL : LL ≤ 2561) (hiL : ti + 5 ≤ LL) (hcl : cells + 1 ≤ 601024) (hsl : slots + 6 ≤ 7293000) (hI : IV nY ix bu np st sr go ca nw yo ce wo po ne sm cl cs mk bg dp) (kk : ∀ w, TW V oa ad r1 r2 r3 am w → gg p l e room_1 s m #[Value.ref sb] below meth c 8 (lw_Z below #[Value.ref sb] s) (cells + 1) (slots + 6) (gW V (fun q => s.heap.size ≤ q) s.heap (w)) [(4, .int (nI ti)), (3, .ref oa), (2, .ref (am 0)), (1, .ref (ad 0)), (0, .ref sb)] 1527 []) : gg p l e room_1 s m #[Value.ref sb] below meth c 8 (lw_Z below #[Value.ref sb] s) cells slots (gW V (fun q => s.heap.size ≤ q) s.heap (wT V oa ad r1 r2 r3 am ou th nY ix bu np st sr go ca nw yo ce wo po ne sm cl cs mk bg dp sh sn yw sp rs msh nx spn)) [(4, .int (nI ti)), (3, .ref oa), (2, .ref (am 0)), (1, .ref (ad 0)), (0, .ref sb)] 1342 [] := by
  obtain ⟨jY1, jYY, jix, jbu, jnp, jst, jsr, jsi, jgo, jca, jnw, jyY, jce, jwo, jpo, jne, jsm, jcl, jmk, jbg, jdp⟩ := hI
  have jyo : ∀ w, yo w < 12 := fun w => Nat.lt_of_lt_of_le (jyY w) jYY
  have jsx : ∀ i j, sxF np st go i j ≤ 16 := sx_le jgo
  have jtk : ∀ i j, tkF ca i j ≤ 1000 := tk_le jca
  have jsv : ∀ a b, svF sm a b ≤ 1000000 := svF_le jsm
  have jcs := jcl.1
  have jrn : ∀ i, rnN po yo mk nw i < 4096 := rnN_lt jyo nw
  have jp : 2 ^ nw ≤ 2 ^ 10 := Nat.pow_le_pow_right (by decide) jnw
  have jmk2 : mk < 1024 := by omega
  have jlv : ∀ p a, lvN go p a ≤ 16 := lv_le jgo
  have jgl : ∀ j, go j ≤ 16 := go_le jgo
  have jsi1 : ∀ i, i < np → sr i < st i := fun i hi => (jsi i hi).2
  have jM : ∀ i, i < np → ∀ a, a < st i → sumN (fun j => sxF np st go i (a * 4 + j)) (st i) = 16 := fun i hi a ha => sx_sum jgo hi (jst i) ha
  unfold wT
  have jT : ∀ i y u, i < np → y < 12 → tM go ca sr po yo mk nw i y u < 2 ^ 62 := fun i y u hi hy => tM_lt jgo hi (jst i) (jsi1 i hi) hy jca
  have jD : ∀ i y u, i < np → y < 12 → tM go ca sr po yo mk nw i y u / 16 ^ (y - bgN po yo mk i y nw) ≤ 1000 := fun i y u hi hy => tM_dle jgo hi (jst i) (jsi1 i hi) hy jca
  have jC : ∀ i y u, i < np → y < 12 → cM ix go ca sr po yo mk nw i y u = cY ix st sr (sxF np st go) (tkF ca) (rnN po yo mk nw) i y := fun i y u hi _ => cM_tie jgo hi (jst i) (jsi1 i hi)
  refine K_shortIn E hX hbl hXJ hfl hL hiL hcl hsl (by first | assumption | omega) (by first | assumption | omega) (by first | assumption | omega) (by first | assumption | omega) (by first | assumption | omega) (by first | assumption | omega) (by first | assumption | omega) (by first | assumption | omega) (by first | assumption | omega) (by first | assumption | omega) (by first | assumption | omega) (by first | assumption | omega) (by first | assumption | omega) (by first | assumption | omega) (by first | assumption | omega) (by first | assumption | omega) (by first | assumption | omega) (by first | assumption | omega) (by first | assumption | omega) (cY ix st sr (sxF np st go) (tkF ca) (rnN po yo mk nw)) (by first | assumption | omega) (by first | assumption | omega) (by first | assumption | omega) (by first | assumption | omega) (by first | assumption | omega) (by first | assumption | omega) (by first | assumption | omega) (by first | assumption | omega) (by first | assumption | omega) (by first | assumption | omega) (by first | assumption | omega) (by first | assumption | omega) (by first | assumption | omega) (by first | assumption | omega) (by first | assumption | omega) (fun y hy => by rw [← cSf_tie jnw, rM_tie]; exact rV_bd jnp hy jdp jbg (fun y => cS_abs jnw jix jce jsv) jsi1 jM jtk jix) (by rw [cSf_tie jnw]; rfl) ?_
  exact g_wid (Nat.le_add_right _ _) (Nat.le_add_right _ _) (kk _ ⟨ou, 0, nY, ix, bu, np, st, sr, go, ca, nw, yo, ce, wo, po, ne, sm, cl, cs, mk, bg, dp, (tE nY st sr (sxF np st go) (rnN po yo mk nw) sh sn yw np).1, (tE nY st sr (sxF np st go) (rnN po yo mk nw) sh sn yw np).2.2, (tE nY st sr (sxF np st go) (rnN po yo mk nw) sh sn yw np).2.1, cS ix yo ce (svF sm) nw mk, fun j => if j < nY then rV ix st sr (sxF np st go) (tkF ca) (rnN po yo mk nw) (cS ix yo ce (svF sm) nw mk) bg dp np j else rs j, (jZ go sr po yo mk nw np (msh, nx) (enZ (rM (cY ix st sr (sxF np st go) (tkF ca) (rnN po yo mk nw)) (cS ix yo ce (fun a b => sm (10 * a + b)) nw mk) bg dp np) nY)).1, (jZ go sr po yo mk nw np (msh, nx) (enZ (rM (cY ix st sr (sxF np st go) (tkF ca) (rnN po yo mk nw)) (cS ix yo ce (fun a b => sm (10 * a + b)) nw mk) bg dp np) nY)).2, spn, rfl, ⟨jY1, jYY, jix, jbu, jnp, jst, jsr, jsi, jgo, jca, jnw, jyY, jce, jwo, jpo, jne, jsm, jcl, jmk, jbg, jdp⟩⟩)

set_option maxHeartbeats 4000000 in
set_option maxRecDepth 100000 in
theorem T_payment {p : Program} {l : Launch} {e : Env} {s : State} {m : MethodId} {below : List Frame} {meth : Method} {c : Code} {V : gV} {sb LL ti cells slots : Nat} {xs : Nat → Int32} {oa : Nat} {ad r1 r2 r3 am : Nat → Nat} {ou : Int64} {th : Nat} {nY : Nat} {ix : Nat → Nat} {bu : Nat → Nat} {np : Nat} {st : Nat → Nat} {sr : Nat → Nat} {go : Nat → Nat} {ca : Nat → Nat} {nw : Nat} {yo : Nat → Nat} {ce : Nat → Nat} {wo : Nat → Nat} {po : Nat → Option Nat} {ne : Nat → Option Nat} {sm : Nat → Nat} {cl : Nat → Bool} {cs : Nat → Nat} {mk : Nat} {bg : Nat} {dp : Nat} {sh : Nat → Nat} {sn : Nat → Nat} {yw : Nat} {sp : Nat → Int} {rs : Nat → Int} {msh : Nat → Nat} {nx : Nat → Nat} {spn : Int} (E : gE p s m #[Value.ref sb] c code 8 R_La V) (hX : va_X sb LL xs s s.heap) (hbl : sb < s.heap.size) (hXJ : XJ s) (hfl : l.flags = flags0) (hL : LL ≤ 2561) (hiL : ti + 5 ≤ LL) (hcl : cells + 1 ≤ 601024) (hsl : slots + 6 ≤ 7293000) (hI : IV nY ix bu np st sr go ca nw yo ce wo po ne sm cl cs mk bg dp) (kk : ∀ w, TW V oa ad r1 r2 r3 am w → gg p l e room_1 s m #[Value.ref sb] below meth c 8 (lw_Z below #[Value.ref sb] s) (cells + 1) (slots + 6) (gW V (fun q => s.heap.size ≤ q) s.heap (w)) [(4, .int (nI ti)), (3, .ref oa), (2, .ref (am 0)), (1, .ref (ad 0)), (0, .ref sb)] 1527 []) : gg p l e room_1 s m #[Value.ref sb] below meth c 8 (lw_Z below #[Value.ref sb] s) cells slots (gW V (fun q => s.heap.size ≤ q) s.heap (wT V oa ad r1 r2 r3 am ou th nY ix bu np st sr go ca nw yo ce wo po ne sm cl cs mk bg dp sh sn yw sp rs msh nx spn)) [(4, .int (nI ti)), (3, .ref oa), (2, .ref (am 0)), (1, .ref (ad 0)), (0, .ref sb)] 1355 [] := by
  obtain ⟨jY1, jYY, jix, jbu, jnp, jst, jsr, jsi, jgo, jca, jnw, jyY, jce, jwo, jpo, jne, jsm, jcl, jmk, jbg, jdp⟩ := hI
  have jyo : ∀ w, yo w < 12 := fun w => Nat.lt_of_lt_of_le (jyY w) jYY
  have jsx : ∀ i j, sxF np st go i j ≤ 16 := sx_le jgo
  have jtk : ∀ i j, tkF ca i j ≤ 1000 := tk_le jca
  have jsv : ∀ a b, svF sm a b ≤ 1000000 := svF_le jsm
  have jcs := jcl.1
  have jrn : ∀ i, rnN po yo mk nw i < 4096 := rnN_lt jyo nw
  have jp : 2 ^ nw ≤ 2 ^ 10 := Nat.pow_le_pow_right (by decide) jnw
  have jmk2 : mk < 1024 := by omega
  have jlv : ∀ p a, lvN go p a ≤ 16 := lv_le jgo
  have jgl : ∀ j, go j ≤ 16 := go_le jgo
  have jsi1 : ∀ i, i < np → sr i < st i := fun i hi => (jsi i hi).2
  have jM : ∀ i, i < np → ∀ a, a < st i → sumN (fun j => sxF np st go i (a * 4 + j)) (st i) = 16 := fun i hi a ha => sx_sum jgo hi (jst i) ha
  unfold wT
  by_cases hb : (isL (xs (ti + 1)) (xs (ti + 2)) (xs (ti + 3))) = true
  · have hl := hb
    rw [isL, Bool.and_eq_true, Bool.and_eq_true] at hl
    obtain ⟨k, hk1, hk2, hx1⟩ := (inB_iff (by decide) (by decide)).mp hl.1.1
    obtain ⟨r, hr1, hr2, hx2⟩ := (inB_iff (by decide) (by decide)).mp hl.1.2
    obtain ⟨n, hn1, hn2, hx3⟩ := (inB_iff (by decide) (by decide)).mp hl.2
    refine K_payment E hX hbl hXJ hfl hL hiL hcl hsl _ _ _ (by first | assumption | omega) (by first | assumption | omega) (by first | assumption | omega) (by first | assumption | omega) (by first | assumption | omega) (by first | assumption | omega) (by first | assumption | omega) (by first | assumption | omega) (by first | assumption | omega) (by first | assumption | omega) hx1 hx2 hx3 rfl ?_
    exact g_wid (Nat.le_add_right _ _) (Nat.le_add_right _ _) (kk _ ⟨(nI (lpN k r n 31 + 1)).toInt64, 0, nY, ix, bu, np, st, sr, go, ca, nw, yo, ce, wo, po, ne, sm, cl, cs, mk, bg, dp, sh, sn, yw, sp, rs, msh, nx, spn, rfl, ⟨jY1, jYY, jix, jbu, jnp, jst, jsr, jsi, jgo, jca, jnw, jyY, jce, jwo, jpo, jne, jsm, jcl, jmk, jbg, jdp⟩⟩)
  · rw [Bool.not_eq_true] at hb
    refine K_payment_x E hX hbl hXJ hfl hL hiL hcl hsl _ _ _ (by first | assumption | omega) (by first | assumption | omega) rfl rfl rfl ?_
    exact kk _ ⟨ou, 1, nY, ix, bu, np, st, sr, go, ca, nw, yo, ce, wo, po, ne, sm, cl, cs, mk, bg, dp, sh, sn, yw, sp, rs, msh, nx, spn, rfl, ⟨jY1, jYY, jix, jbu, jnp, jst, jsr, jsi, jgo, jca, jnw, jyY, jce, jwo, jpo, jne, jsm, jcl, jmk, jbg, jdp⟩⟩

set_option maxHeartbeats 4000000 in
set_option maxRecDepth 100000 in
theorem T_rest {p : Program} {l : Launch} {e : Env} {s : State} {m : MethodId} {below : List Frame} {meth : Method} {c : Code} {V : gV} {sb LL ti cells slots : Nat} {xs : Nat → Int32} {oa : Nat} {ad r1 r2 r3 am : Nat → Nat} {ou : Int64} {th : Nat} {nY : Nat} {ix : Nat → Nat} {bu : Nat → Nat} {np : Nat} {st : Nat → Nat} {sr : Nat → Nat} {go : Nat → Nat} {ca : Nat → Nat} {nw : Nat} {yo : Nat → Nat} {ce : Nat → Nat} {wo : Nat → Nat} {po : Nat → Option Nat} {ne : Nat → Option Nat} {sm : Nat → Nat} {cl : Nat → Bool} {cs : Nat → Nat} {mk : Nat} {bg : Nat} {dp : Nat} {sh : Nat → Nat} {sn : Nat → Nat} {yw : Nat} {sp : Nat → Int} {rs : Nat → Int} {msh : Nat → Nat} {nx : Nat → Nat} {spn : Int} (E : gE p s m #[Value.ref sb] c code 8 R_La V) (hX : va_X sb LL xs s s.heap) (hbl : sb < s.heap.size) (hXJ : XJ s) (hfl : l.flags = flags0) (hL : LL ≤ 2561) (hiL : ti + 5 ≤ LL) (hcl : cells + 1 ≤ 601024) (hsl : slots + 6 ≤ 7293000) (hI : IV nY ix bu np st sr go ca nw yo ce wo po ne sm cl cs mk bg dp) (kk : ∀ w, TW V oa ad r1 r2 r3 am w → gg p l e room_1 s m #[Value.ref sb] below meth c 8 (lw_Z below #[Value.ref sb] s) (cells + 1) (slots + 6) (gW V (fun q => s.heap.size ≤ q) s.heap (w)) [(4, .int (nI ti)), (3, .ref oa), (2, .ref (am 0)), (1, .ref (ad 0)), (0, .ref sb)] 1527 []) : gg p l e room_1 s m #[Value.ref sb] below meth c 8 (lw_Z below #[Value.ref sb] s) cells slots (gW V (fun q => s.heap.size ≤ q) s.heap (wT V oa ad r1 r2 r3 am ou th nY ix bu np st sr go ca nw yo ce wo po ne sm cl cs mk bg dp sh sn yw sp rs msh nx spn)) [(4, .int (nI ti)), (3, .ref oa), (2, .ref (am 0)), (1, .ref (ad 0)), (0, .ref sb)] 1435 [] := by
  obtain ⟨jY1, jYY, jix, jbu, jnp, jst, jsr, jsi, jgo, jca, jnw, jyY, jce, jwo, jpo, jne, jsm, jcl, jmk, jbg, jdp⟩ := hI
  have jyo : ∀ w, yo w < 12 := fun w => Nat.lt_of_lt_of_le (jyY w) jYY
  have jsx : ∀ i j, sxF np st go i j ≤ 16 := sx_le jgo
  have jtk : ∀ i j, tkF ca i j ≤ 1000 := tk_le jca
  have jsv : ∀ a b, svF sm a b ≤ 1000000 := svF_le jsm
  have jcs := jcl.1
  have jrn : ∀ i, rnN po yo mk nw i < 4096 := rnN_lt jyo nw
  have jp : 2 ^ nw ≤ 2 ^ 10 := Nat.pow_le_pow_right (by decide) jnw
  have jmk2 : mk < 1024 := by omega
  have jlv : ∀ p a, lvN go p a ≤ 16 := lv_le jgo
  have jgl : ∀ j, go j ≤ 16 := go_le jgo
  have jsi1 : ∀ i, i < np → sr i < st i := fun i hi => (jsi i hi).2
  have jM : ∀ i, i < np → ∀ a, a < st i → sumN (fun j => sxF np st go i (a * 4 + j)) (st i) = 16 := fun i hi a ha => sx_sum jgo hi (jst i) ha
  unfold wT
  by_cases hb : (isL (xs (ti + 1)) (xs (ti + 2)) (xs (ti + 3)) && inB (xs (ti + 4)) (nI 0) (xs (ti + 3))) = true
  · rw [Bool.and_eq_true] at hb
    have hl := hb.1
    rw [isL, Bool.and_eq_true, Bool.and_eq_true] at hl
    obtain ⟨k, hk1, hk2, hx1⟩ := (inB_iff (by decide) (by decide)).mp hl.1.1
    obtain ⟨r, hr1, hr2, hx2⟩ := (inB_iff (by decide) (by decide)).mp hl.1.2
    obtain ⟨n, hn1, hn2, hx3⟩ := (inB_iff (by decide) (by decide)).mp hl.2
    have h4 := hb.2
    rw [hx3] at h4
    obtain ⟨t, ht1, ht2, hx4⟩ := (inB_iff (by decide) (by omega)).mp h4
    have hlp := lp_small hk1 hk2 hr2 hn1
    refine K_rest E hX hbl hXJ hfl hL hiL hcl hsl _ _ _ _ (by first | assumption | omega) (by first | assumption | omega) (by first | assumption | omega) (by first | assumption | omega) (by first | assumption | omega) (by first | assumption | omega) (by first | assumption | omega) (by first | assumption | omega) (by first | assumption | omega) (by first | assumption | omega) (by first | assumption | omega) (by first | assumption | omega) (by first | assumption | omega) hx1 hx2 hx3 hx4 rfl ?_
    exact g_wid (Nat.le_add_right _ _) (Nat.le_add_right _ _) (kk _ ⟨(nI (rB k r (lpN k r n 31 + 1) t)).toInt64, 0, nY, ix, bu, np, st, sr, go, ca, nw, yo, ce, wo, po, ne, sm, cl, cs, mk, bg, dp, sh, sn, yw, sp, rs, msh, nx, spn, rfl, ⟨jY1, jYY, jix, jbu, jnp, jst, jsr, jsi, jgo, jca, jnw, jyY, jce, jwo, jpo, jne, jsm, jcl, jmk, jbg, jdp⟩⟩)
  · rw [Bool.not_eq_true] at hb
    refine K_rest_x E hX hbl hXJ hfl hL hiL hcl hsl _ _ _ _ (by first | assumption | omega) (by first | assumption | omega) rfl rfl rfl rfl ?_
    exact kk _ ⟨ou, 1, nY, ix, bu, np, st, sr, go, ca, nw, yo, ce, wo, po, ne, sm, cl, cs, mk, bg, dp, sh, sn, yw, sp, rs, msh, nx, spn, rfl, ⟨jY1, jYY, jix, jbu, jnp, jst, jsr, jsi, jgo, jca, jnw, jyY, jce, jwo, jpo, jne, jsm, jcl, jmk, jbg, jdp⟩⟩
