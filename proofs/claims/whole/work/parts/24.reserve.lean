set_option maxHeartbeats 4000000 in
set_option maxRecDepth 100000 in
theorem C_CY_takeCareFromReserves (l : Launch) {V : gV} {ad r1 r2 r3 : Nat → Nat} {nY : Nat} {ix bu : Nat → Nat} {np : Nat} {st sr : Nat → Nat} {sx tk : Nat → Nat → Nat} {rn sh sn : Nat → Nat} {yw nw : Nat} {yo ce wo : Nat → Nat} {po ne : Nat → Option Nat} {cs : Nat → Nat} {sv : Nat → Nat → Nat} {mk : Nat} {sp rs : Nat → Int} {bg dp : Nat} (i : Nat) (hi : i < np) (hnp : np ≤ 12) (hY : nY ≤ 12) (hst : ∀ i, st i ≤ 4) (hsr : ∀ i, sr i < 4) (hsi : ∀ i, i < np → sr i < st i) (hM : ∀ i, i < np → ∀ a, a < st i → sumN (fun j => sx i (a * 4 + j)) (st i) = 16) (hrn : ∀ i, rn i < 4096) (hx : ∀ i j, sx i j ≤ 16) (ht : ∀ i j, tk i j ≤ 1000) (hix : ∀ y, ix y ≤ 2000) : mWv l y_CY_takeCareFromReserves (w_CY_takeCareFromReserves :: gt) rm_CY_takeCareFromReserves V (wC V ad r1 r2 r3 nY ix bu np st sr sx tk rn sh sn yw nw yo ce wo po ne cs sv mk sp rs bg dp) [.ref (ad 0), .int (nI i)] (wC V ad r1 r2 r3 nY ix bu np st sr sx tk rn ((eY (sr i) (sx i) (st i) (rn i) sh sn yw nY).1) ((eY (sr i) (sx i) (st i) (rn i) sh sn yw nY).2.2) ((eY (sr i) (sx i) (st i) (rn i) sh sn yw nY).2.1) nw yo ce wo po ne cs sv mk sp (fun j => if j < nY then rs j - ((cY ix st sr sx tk rn i j : Nat) : Int) else rs j) bg dp) 0 0 := by
  intro sz
  refine gMet (V := V) (As := [.ref (ad 0), .int (nI i)]) (cc := c_CY_takeCareFromReserves) (maxL := 3) (ret := none) (by decide) rfl (Nat.le_of_ble_eq_true rfl) (fun a U h => ⟨h.1, h.2.2.2.1⟩) ?_
  intro p e s m below meth c E hr hlk hnm hv
  refine g_toW (sz := sz) (w := wC V ad r1 r2 r3 nY ix bu np st sr sx tk rn sh sn yw nw yo ce wo po ne cs sv mk sp rs bg dp) hv.2.2.1 hv.2.2.2.2 ?_
  have hA0 : ∀ q : Nat, s.heap.size ≤ q → va_A (wC V ad r1 r2 r3 nY ix bu np st sr sx tk rn sh sn yw nw yo ce wo po ne cs sv mk sp rs bg dp) sz q := fun q h => Or.inr (by rw [← hv.2.1]; exact h)
  have q1 := hst i
  have q2 := hsr i
  have q3 := hrn i
  refine g_iconst (v := nI 0) E d_CY_takeCareFromReserves_0 (by decide) ?_
  refine g_istore_n (lv' := [(2, .int (nI 0)), (0, .ref (ad 0)), (1, .int (nI i))]) E d_CY_takeCareFromReserves_1 rfl (by decide) rfl ?_
  refine g_lv [0, 1, 2] rfl ?_
  refine g_ws (ws' := wC V ad r1 r2 r3 nY ix bu np st sr sx tk rn sh sn yw nw yo ce wo po ne cs sv mk sp (fun j => if j < 0 then rs j - ((cY ix st sr sx tk rn i j : Nat) : Int) else rs j) bg dp) (by simp only [Nat.not_lt_zero, if_false]) ?_
  refine gloop (α := Nat) (fun a_ => gW V _ _ (wC V ad r1 r2 r3 nY ix bu np st sr sx tk rn ((eY (sr i) (sx i) (st i) (rn i) sh sn yw a_).1) ((eY (sr i) (sx i) (st i) (rn i) sh sn yw a_).2.2) ((eY (sr i) (sx i) (st i) (rn i) sh sn yw a_).2.1) nw yo ce wo po ne cs sv mk sp (fun j => if j < a_ then rs j - ((cY ix st sr sx tk rn i j : Nat) : Int) else rs j) bg dp)) (fun a_ => [(2, .int (nI a_)), (0, .ref (ad 0)), (1, .int (nI i))]) (fun a_ => a_ ≤ nY) (fun a_ => nY - a_) (0) (Nat.zero_le _) ?_
  rintro y hI_2 ih_2
  try dsimp only at hI_2 ih_2 ⊢
  refine g_iload_n E d_CY_takeCareFromReserves_2 rfl 0 rfl ?_
  refine g_aload_n E d_CY_takeCareFromReserves_3 rfl 1 rfl ?_
  refine gf_CY_21 E gO_w 0 rfl rfl d_CY_takeCareFromReserves_4 ?_
  refine gf_CY_170 E gO_w 1 rfl rfl d_CY_takeCareFromReserves_7 ?_
  refine g_ncmp_ge E 54 d_CY_takeCareFromReserves_10 (by decide) (by omega) (by omega) (fun h1 => ?_) (fun h1 => ?_)
  · refine g_ws (ws' := wC V ad r1 r2 r3 nY ix bu np st sr sx tk rn ((eY (sr i) (sx i) (st i) (rn i) sh sn yw nY).1) ((eY (sr i) (sx i) (st i) (rn i) sh sn yw nY).2.2) ((eY (sr i) (sx i) (st i) (rn i) sh sn yw nY).2.1) nw yo ce wo po ne cs sv mk sp (fun j => if j < nY then rs j - ((cY ix st sr sx tk rn i j : Nat) : Int) else rs j) bg dp) (by rw [show y = nY by omega]) ?_
    exact g_vret E hr hlk d_CY_takeCareFromReserves_54 (gq_wv (w1 := fun _ => wC V ad r1 r2 r3 nY ix bu np st sr sx tk rn ((eY (sr i) (sx i) (st i) (rn i) sh sn yw nY).1) ((eY (sr i) (sx i) (st i) (rn i) sh sn yw nY).2.2) ((eY (sr i) (sx i) (st i) (rn i) sh sn yw nY).2.1) nw yo ce wo po ne cs sv mk sp (fun j => if j < nY then rs j - ((cY ix st sr sx tk rn i j : Nat) : Int) else rs j) bg dp) () trivial)
  · refine g_aload_n E d_CY_takeCareFromReserves_13 rfl 1 rfl ?_
    refine gf_CY_30 E gO_w 0 rfl rfl d_CY_takeCareFromReserves_14 ?_
    refine g_iload_n E d_CY_takeCareFromReserves_17 rfl 2 rfl ?_
    refine g_iload_n E d_CY_takeCareFromReserves_18 rfl 0 rfl ?_
    refine gwVv (As := [.int (nI i), .int (nI y)]) (rest := []) (w' := wC V ad r1 r2 r3 nY ix bu np st sr sx tk rn (if enB (rn i) y then beg (sr i) else wrV ((eY (sr i) (sx i) (st i) (rn i) sh sn yw y).1) (sx i) (st i) ((eY (sr i) (sx i) (st i) (rn i) sh sn yw y).1)) (if enB (rn i) y then (eY (sr i) (sx i) (st i) (rn i) sh sn yw y).2.2 else wrV ((eY (sr i) (sx i) (st i) (rn i) sh sn yw y).1) (sx i) (st i) ((eY (sr i) (sx i) (st i) (rn i) sh sn yw y).2.2)) (if enB (rn i) y then 0 else ((eY (sr i) (sx i) (st i) (rn i) sh sn yw y).2.1) + 1) nw yo ce wo po ne cs sv mk sp (fun j => if j < y then rs j - ((cY ix st sr sx tk rn i j : Nat) : Int) else rs j) bg dp) (mc := 0) (ms := 0) E hA0 4 rfl rfl (C_Pa_enter l i y (by omega) (by omega) (by omega) (by omega) (by omega) hx) (cs_CY_213 E rfl rfl ⟨Nat.le_of_ble_eq_true rfl, Nat.le_of_ble_eq_true rfl⟩) rfl rfl (Nat.le_of_ble_eq_true rfl) ⟨Nat.zero_le _, Nat.zero_le _⟩ d_CY_takeCareFromReserves_19 ?_
    refine g_ws (ws' := wC V ad r1 r2 r3 nY ix bu np st sr sx tk rn ((eY (sr i) (sx i) (st i) (rn i) sh sn yw (y + 1)).1) ((eY (sr i) (sx i) (st i) (rn i) sh sn yw (y + 1)).2.2) ((eY (sr i) (sx i) (st i) (rn i) sh sn yw (y + 1)).2.1) nw yo ce wo po ne cs sv mk sp (fun j => if j < y then rs j - ((cY ix st sr sx tk rn i j : Nat) : Int) else rs j) bg dp) rfl ?_
    refine g_aload_n E d_CY_takeCareFromReserves_22 rfl 1 rfl ?_
    refine gf_CY_43 E gO_w 0 rfl rfl d_CY_takeCareFromReserves_23 ?_
    refine g_iload_n E d_CY_takeCareFromReserves_26 rfl 0 rfl ?_
    refine g_dup2 E d_CY_takeCareFromReserves_27 rfl rfl ?_
    refine g_ldJ E gO_w 21 rfl (by omega) (by decide) d_CY_takeCareFromReserves_28 ?_
    refine g_topl (show lI _ = lI (rs y) from by rw [if_neg (Nat.lt_irrefl y)]) ?_
    refine g_aload_n E d_CY_takeCareFromReserves_29 rfl 1 rfl ?_
    refine gf_CY_21 E gO_w 0 rfl rfl d_CY_takeCareFromReserves_30 ?_
    refine g_iload_n E d_CY_takeCareFromReserves_33 rfl 0 rfl ?_
    refine g_aload_n E d_CY_takeCareFromReserves_34 rfl 1 rfl ?_
    refine gf_CY_30 E gO_w 0 rfl rfl d_CY_takeCareFromReserves_35 ?_
    refine g_iload_n E d_CY_takeCareFromReserves_38 rfl 2 rfl ?_
    refine gpVi (As := [.int (nI i)]) (rest := [.int (nI y), .ref (ad 1), .long (lI (rs y)), .int (nI y), .ref (ad 21)]) E gO_w 4 rfl rfl ((C_Pa_careTaken l i (by omega) (hst _) ht (by rw [eY_sh]; exact tk_lt (hsi _ hi) (hM _ hi) (by omega) (ht _)) (by rw [eY_yw]; exact (shC_sum (hsi _ hi) (hM _ hi) (by omega)).2))) (cs_CY_101 E rfl rfl ⟨Nat.le_of_ble_eq_true rfl, Nat.le_of_ble_eq_true rfl⟩) rfl rfl (Nat.le_of_ble_eq_true rfl) ⟨Nat.zero_le _, Nat.zero_le _⟩ d_CY_takeCareFromReserves_39 ?_
    refine g_topi (show nI _ = nI (tkC (sr i) (sx i) (st i) (rn i) (tk i) y) from congrArg nI (by unfold tkC; rw [← eY_sh (sh := sh) (sn := sn) (yw := yw), ← eY_yw (sh := sh) (sn := sn) (yw := yw)])) ?_
    have q4 := tkC_le (rn := rn i) (hsi i hi) (hM i hi) (show y < 12 by omega) (ht i)
    have q5 := hix y
    refine gpVi (As := [.int (nI y), .int (nI (tkC (sr i) (sx i) (st i) (rn i) (tk i) y))]) (rest := [.long (lI (rs y)), .int (nI y), .ref (ad 21)]) E gO_w 1 rfl rfl (C_Ye_costIn l y (tkC (sr i) (sx i) (st i) (rn i) (tk i) y) (by omega) (by omega) (by omega)) (cs_CY_105 E rfl rfl ⟨Nat.le_of_ble_eq_true rfl, Nat.le_of_ble_eq_true rfl⟩) rfl rfl (Nat.le_of_ble_eq_true rfl) ⟨Nat.zero_le _, Nat.zero_le _⟩ d_CY_takeCareFromReserves_42 ?_
    have q6 := Nat.mul_le_mul q4 q5
    refine g_i2l E d_CY_takeCareFromReserves_45 ?_
    refine g_topl (nI_l (by omega)) ?_
    refine g_lsub E d_CY_takeCareFromReserves_46 ?_
    refine g_topl (by rw [lN_lI, lI_sub]) ?_
    refine g_stJ (ws' := wC V ad r1 r2 r3 nY ix bu np st sr sx tk rn ((eY (sr i) (sx i) (st i) (rn i) sh sn yw (y + 1)).1) ((eY (sr i) (sx i) (st i) (rn i) sh sn yw (y + 1)).2.2) ((eY (sr i) (sx i) (st i) (rn i) sh sn yw (y + 1)).2.1) nw yo ce wo po ne cs sv mk sp (va_up (fun j => if j < y then rs j - ((cY ix st sr sx tk rn i j : Nat) : Int) else rs j) y (rs y - ((cY ix st sr sx tk rn i y : Nat) : Int))) bg dp) E 21 rfl (by omega) (by decide) rfl d_CY_takeCareFromReserves_47 ?_
    refine g_iinc (lv' := [(2, .int (nI (y + 1))), (0, .ref (ad 0)), (1, .int (nI i))]) E d_CY_takeCareFromReserves_48 0 rfl (nI_inc _) (by decide) rfl ?_
    refine g_goto E 2 d_CY_takeCareFromReserves_51 (by decide) ?_
    refine g_lv [0, 1, 2] rfl ?_
    refine g_ws (ws' := wC V ad r1 r2 r3 nY ix bu np st sr sx tk rn ((eY (sr i) (sx i) (st i) (rn i) sh sn yw (y + 1)).1) ((eY (sr i) (sx i) (st i) (rn i) sh sn yw (y + 1)).2.2) ((eY (sr i) (sx i) (st i) (rn i) sh sn yw (y + 1)).2.1) nw yo ce wo po ne cs sv mk sp (fun j => if j < y + 1 then rs j - ((cY ix st sr sx tk rn i j : Nat) : Int) else rs j) bg dp) (by rw [ifuZ (F := fun j => rs j - ((cY ix st sr sx tk rn i j : Nat) : Int)) (G := rs)]) ?_
    exact ih_2 (y + 1) (by (try dsimp only); omega) (by (try dsimp only); omega)

theorem sumZ_s {f : Nat → Int} {n : Nat} : sumZ f (n + 1) = sumZ f n + f n := rfl
theorem dY_s {ix st sr : Nat → Nat} {sx tk : Nat → Nat → Nat} {rn : Nat → Nat} {c : Nat → Int} {dp p y : Nat} : dY ix st sr sx tk rn c dp p y - ((cY ix st sr sx tk rn p y : Nat) : Int) = dY ix st sr sx tk rn c dp (p + 1) y := by
  unfold dY; rw [sumZ_s]; omega

set_option maxHeartbeats 4000000 in
set_option maxRecDepth 100000 in
theorem C_CY_reckonReserves (l : Launch) {V : gV} {ad r1 r2 r3 : Nat → Nat} {nY : Nat} {ix bu : Nat → Nat} {np : Nat} {st sr : Nat → Nat} {sx tk : Nat → Nat → Nat} {rn sh sn : Nat → Nat} {yw nw : Nat} {yo ce wo : Nat → Nat} {po ne : Nat → Option Nat} {cs : Nat → Nat} {sv : Nat → Nat → Nat} {mk : Nat} {sp rs : Nat → Int} {bg dp : Nat} (hnp : np ≤ 12) (hY : nY ≤ 12) (hnw : nw ≤ 10) (hmk : mk < 1024) (hyY : ∀ w, yo w < nY) (hyo : ∀ w, yo w < 12) (hce : ∀ w, ce w ≤ 1000000) (hsv : ∀ a b, sv a b ≤ 1000000) (hdp : dp ≤ 1000000000) (hbg : bg ≤ 1000000000) (hst : ∀ i, st i ≤ 4) (hsr : ∀ i, sr i < 4) (hsi : ∀ i, i < np → sr i < st i) (hM : ∀ i, i < np → ∀ a, a < st i → sumN (fun j => sx i (a * 4 + j)) (st i) = 16) (hrn : ∀ i, rn i < 4096) (hx : ∀ i j, sx i j ≤ 16) (ht : ∀ i j, tk i j ≤ 1000) (hix : ∀ y, ix y ≤ 2000) : mWv l y_CY_reckonReserves (w_CY_reckonReserves :: gt) rm_CY_reckonReserves V (wC V ad r1 r2 r3 nY ix bu np st sr sx tk rn sh sn yw nw yo ce wo po ne cs sv mk sp rs bg dp) [.ref (ad 0)] (wC V ad r1 r2 r3 nY ix bu np st sr sx tk rn ((tE nY st sr sx rn sh sn yw np).1) ((tE nY st sr sx rn sh sn yw np).2.2) ((tE nY st sr sx rn sh sn yw np).2.1) nw yo ce wo po ne cs sv mk (cS ix yo ce sv nw mk) (fun j => if j < nY then rV ix st sr sx tk rn (cS ix yo ce sv nw mk) bg dp np j else rs j) bg dp) 0 0 := by
  intro sz
  refine gMet (V := V) (As := [.ref (ad 0)]) (cc := c_CY_reckonReserves) (maxL := 4) (ret := none) (by decide) rfl (Nat.le_of_ble_eq_true rfl) (fun a U h => ⟨h.1, h.2.2.2.1⟩) ?_
  intro p e s m below meth c E hr hlk hnm hv
  refine g_toW (sz := sz) (w := wC V ad r1 r2 r3 nY ix bu np st sr sx tk rn sh sn yw nw yo ce wo po ne cs sv mk sp rs bg dp) hv.2.2.1 hv.2.2.2.2 ?_
  have hA0 : ∀ q : Nat, s.heap.size ≤ q → va_A (wC V ad r1 r2 r3 nY ix bu np st sr sx tk rn sh sn yw nw yo ce wo po ne cs sv mk sp rs bg dp) sz q := fun q h => Or.inr (by rw [← hv.2.1]; exact h)
  refine g_aload_n E d_CY_reckonReserves_0 rfl 0 rfl ?_
  refine gf_CY_39 E gO_w 0 rfl rfl d_CY_reckonReserves_1 ?_
  refine g_aload_n E d_CY_reckonReserves_4 rfl 0 rfl ?_
  refine gf_CY_39 E gO_w 0 rfl rfl d_CY_reckonReserves_5 ?_
  refine gf_CY_139 E gO_w 12 rfl rfl d_CY_reckonReserves_8 ?_
  refine gwVv (As := [.int (nI mk)]) (rest := []) (w' := wC V ad r1 r2 r3 nY ix bu np st sr sx tk rn sh sn yw nw yo ce wo po ne cs sv mk (cS ix yo ce sv nw mk) rs bg dp) (mc := 0) (ms := 0) E hA0 12 rfl rfl (C_Wo_spend l mk (by omega) (by omega) (by omega) hyY hyo hix hce hsv) (cs_CY_145 E rfl rfl ⟨Nat.le_of_ble_eq_true rfl, Nat.le_of_ble_eq_true rfl⟩) rfl rfl (Nat.le_of_ble_eq_true rfl) ⟨Nat.zero_le _, Nat.zero_le _⟩ d_CY_reckonReserves_11 ?_
  refine g_iconst (v := nI 0) E d_CY_reckonReserves_14 (by decide) ?_
  refine g_istore_n (lv' := [(1, .int (nI 0)), (0, .ref (ad 0))]) E d_CY_reckonReserves_15 rfl (by decide) rfl ?_
  refine g_lv [0, 1] rfl ?_
  refine g_ws (ws' := wC V ad r1 r2 r3 nY ix bu np st sr sx tk rn sh sn yw nw yo ce wo po ne cs sv mk (cS ix yo ce sv nw mk) (fun j => if j < 0 then (dp : Int) - cS ix yo ce sv nw mk j else rs j) bg dp) (by simp only [Nat.not_lt_zero, if_false]) ?_
  refine gloop (α := Nat) (fun a_ => gW V _ _ (wC V ad r1 r2 r3 nY ix bu np st sr sx tk rn sh sn yw nw yo ce wo po ne cs sv mk (cS ix yo ce sv nw mk) (fun j => if j < a_ then (dp : Int) - cS ix yo ce sv nw mk j else rs j) bg dp)) (fun a_ => [(1, .int (nI a_)), (0, .ref (ad 0))]) (fun a_ => a_ ≤ nY) (fun a_ => nY - a_) (0) (Nat.zero_le _) ?_
  rintro y hI_16 ih_16
  try dsimp only at hI_16 ih_16 ⊢
  refine g_iload_n E d_CY_reckonReserves_16 rfl 0 rfl ?_
  refine g_aload_n E d_CY_reckonReserves_17 rfl 1 rfl ?_
  refine gf_CY_21 E gO_w 0 rfl rfl d_CY_reckonReserves_18 ?_
  refine gf_CY_170 E gO_w 1 rfl rfl d_CY_reckonReserves_21 ?_
  refine g_ncmp_ge E 54 d_CY_reckonReserves_24 (by decide) (by omega) (by omega) (fun h1 => ?_) (fun h1 => ?_)
  · refine g_iconst (v := nI 0) E d_CY_reckonReserves_54 (by decide) ?_
    refine g_istore_n (lv' := [(1, .int (nI 0)), (0, .ref (ad 0))]) E d_CY_reckonReserves_55 rfl (by decide) rfl ?_
    refine g_lv [0, 1] rfl ?_
    refine g_ws (ws' := wC V ad r1 r2 r3 nY ix bu np st sr sx tk rn sh sn yw nw yo ce wo po ne cs sv mk (cS ix yo ce sv nw mk) (fun j => if j < nY then dY ix st sr sx tk rn (cS ix yo ce sv nw mk) dp 0 j else rs j) bg dp) (by rw [show y = nY by omega]; congr 1; funext j; simp [dY, sumZ]) ?_
    refine gloop (α := Nat) (fun a_ => gW V _ _ (wC V ad r1 r2 r3 nY ix bu np st sr sx tk rn ((tE nY st sr sx rn sh sn yw a_).1) ((tE nY st sr sx rn sh sn yw a_).2.2) ((tE nY st sr sx rn sh sn yw a_).2.1) nw yo ce wo po ne cs sv mk (cS ix yo ce sv nw mk) (fun j => if j < nY then dY ix st sr sx tk rn (cS ix yo ce sv nw mk) dp a_ j else rs j) bg dp)) (fun a_ => [(1, .int (nI a_)), (0, .ref (ad 0))]) (fun a_ => a_ ≤ np) (fun a_ => np - a_) (0) (Nat.zero_le _) ?_
    rintro i hI_56 ih_56
    try dsimp only at hI_56 ih_56 ⊢
    refine g_iload_n E d_CY_reckonReserves_56 rfl 0 rfl ?_
    refine g_aload_n E d_CY_reckonReserves_57 rfl 1 rfl ?_
    refine gf_CY_30 E gO_w 0 rfl rfl d_CY_reckonReserves_58 ?_
    refine gf_CY_67 E gO_w 4 rfl rfl d_CY_reckonReserves_61 ?_
    refine g_ncmp_ge E 78 d_CY_reckonReserves_64 (by decide) (by omega) (by omega) (fun h2 => ?_) (fun h2 => ?_)
    · refine g_aload_n E d_CY_reckonReserves_78 rfl 1 rfl ?_
      refine gf_CY_161 E gO_w 0 rfl rfl d_CY_reckonReserves_79 ?_
      refine g_i2l E d_CY_reckonReserves_82 ?_
      refine g_topl ((nI_l (by omega)).trans (lN_lI _)) ?_
      refine g_lstore_n (lv' := [(1, .long (lI (bg : Int))), (0, .ref (ad 0))]) E d_CY_reckonReserves_83 rfl (by decide) rfl ?_
      refine g_iconst (v := nI 0) E d_CY_reckonReserves_84 (by decide) ?_
      refine g_istore_n (lv' := [(3, .int (nI 0)), (1, .long (lI (bg : Int))), (0, .ref (ad 0))]) E d_CY_reckonReserves_85 rfl (by decide) rfl ?_
      refine g_lv [0, 1, 2] rfl ?_
      refine g_ws (ws' := wC V ad r1 r2 r3 nY ix bu np st sr sx tk rn ((tE nY st sr sx rn sh sn yw np).1) ((tE nY st sr sx rn sh sn yw np).2.2) ((tE nY st sr sx rn sh sn yw np).2.1) nw yo ce wo po ne cs sv mk (cS ix yo ce sv nw mk) (fun j => if j < 0 then (bg : Int) + sumZ (dY ix st sr sx tk rn (cS ix yo ce sv nw mk) dp np) (j + 1) else if j < nY then dY ix st sr sx tk rn (cS ix yo ce sv nw mk) dp np j else rs j) bg dp) (by rw [show i = np by omega]; simp only [Nat.not_lt_zero, if_false]) ?_
      refine gloop (α := Nat × Int) (fun a_ => gW V _ _ (wC V ad r1 r2 r3 nY ix bu np st sr sx tk rn ((tE nY st sr sx rn sh sn yw np).1) ((tE nY st sr sx rn sh sn yw np).2.2) ((tE nY st sr sx rn sh sn yw np).2.1) nw yo ce wo po ne cs sv mk (cS ix yo ce sv nw mk) (fun j => if j < a_.1 then (bg : Int) + sumZ (dY ix st sr sx tk rn (cS ix yo ce sv nw mk) dp np) (j + 1) else if j < nY then dY ix st sr sx tk rn (cS ix yo ce sv nw mk) dp np j else rs j) bg dp)) (fun a_ => [(3, .int (nI a_.1)), (1, .long (lI a_.2)), (0, .ref (ad 0))]) (fun a_ => a_.1 ≤ nY ∧ a_.2 = (bg : Int) + sumZ (dY ix st sr sx tk rn (cS ix yo ce sv nw mk) dp np) a_.1) (fun a_ => nY - a_.1) (0, (bg : Int)) (⟨Nat.zero_le _, by simp [sumZ]⟩) ?_
      rintro ⟨y, z⟩ hI_86 ih_86
      try dsimp only at hI_86 ih_86 ⊢
      refine g_iload_n E d_CY_reckonReserves_86 rfl 0 rfl ?_
      refine g_aload_n E d_CY_reckonReserves_87 rfl 2 rfl ?_
      refine gf_CY_21 E gO_w 0 rfl rfl d_CY_reckonReserves_88 ?_
      refine gf_CY_170 E gO_w 1 rfl rfl d_CY_reckonReserves_91 ?_
      refine g_ncmp_ge E 119 d_CY_reckonReserves_94 (by decide) (by omega) (by omega) (fun h3 => ?_) (fun h3 => ?_)
      · refine g_ws (ws' := wC V ad r1 r2 r3 nY ix bu np st sr sx tk rn ((tE nY st sr sx rn sh sn yw np).1) ((tE nY st sr sx rn sh sn yw np).2.2) ((tE nY st sr sx rn sh sn yw np).2.1) nw yo ce wo po ne cs sv mk (cS ix yo ce sv nw mk) (fun j => if j < nY then rV ix st sr sx tk rn (cS ix yo ce sv nw mk) bg dp np j else rs j) bg dp) (by rw [show y = nY by omega]; congr 1; funext j; by_cases hj : j < nY <;> simp [hj, rV]) ?_
        exact g_vret E hr hlk d_CY_reckonReserves_119 (gq_wv (w1 := fun _ => wC V ad r1 r2 r3 nY ix bu np st sr sx tk rn ((tE nY st sr sx rn sh sn yw np).1) ((tE nY st sr sx rn sh sn yw np).2.2) ((tE nY st sr sx rn sh sn yw np).2.1) nw yo ce wo po ne cs sv mk (cS ix yo ce sv nw mk) (fun j => if j < nY then rV ix st sr sx tk rn (cS ix yo ce sv nw mk) bg dp np j else rs j) bg dp) () trivial)
      · refine g_lload_n E d_CY_reckonReserves_97 rfl 1 rfl ?_
        refine g_aload_n E d_CY_reckonReserves_98 rfl 2 rfl ?_
        refine gf_CY_43 E gO_w 0 rfl rfl d_CY_reckonReserves_99 ?_
        refine g_iload_n E d_CY_reckonReserves_102 rfl 0 rfl ?_
        refine g_ldJ E gO_w 21 rfl (by omega) (by decide) d_CY_reckonReserves_103 ?_
        refine g_topl (show lI _ = lI (dY ix st sr sx tk rn (cS ix yo ce sv nw mk) dp np y) from by rw [if_neg (Nat.lt_irrefl y), if_pos (by omega)]) ?_
        refine g_ladd E d_CY_reckonReserves_104 ?_
        refine g_topl (lI_add _ _) ?_
        refine g_lstore_n (lv' := [(1, .long (lI (z + (dY ix st sr sx tk rn (cS ix yo ce sv nw mk) dp np y)))), (3, .int (nI y)), (0, .ref (ad 0))]) E d_CY_reckonReserves_105 rfl (by decide) rfl ?_
        refine g_aload_n E d_CY_reckonReserves_106 rfl 2 rfl ?_
        refine gf_CY_43 E gO_w 0 rfl rfl d_CY_reckonReserves_107 ?_
        refine g_iload_n E d_CY_reckonReserves_110 rfl 1 rfl ?_
        refine g_lload_n E d_CY_reckonReserves_111 rfl 0 rfl ?_
        refine g_stJ (ws' := wC V ad r1 r2 r3 nY ix bu np st sr sx tk rn ((tE nY st sr sx rn sh sn yw np).1) ((tE nY st sr sx rn sh sn yw np).2.2) ((tE nY st sr sx rn sh sn yw np).2.1) nw yo ce wo po ne cs sv mk (cS ix yo ce sv nw mk) (va_up (fun j => if j < y then (bg : Int) + sumZ (dY ix st sr sx tk rn (cS ix yo ce sv nw mk) dp np) (j + 1) else if j < nY then dY ix st sr sx tk rn (cS ix yo ce sv nw mk) dp np j else rs j) y (z + (dY ix st sr sx tk rn (cS ix yo ce sv nw mk) dp np y))) bg dp) E 21 rfl (by omega) (by decide) rfl d_CY_reckonReserves_112 ?_
        refine g_iinc (lv' := [(3, .int (nI (y + 1))), (1, .long (lI (z + (dY ix st sr sx tk rn (cS ix yo ce sv nw mk) dp np y)))), (0, .ref (ad 0))]) E d_CY_reckonReserves_113 1 rfl (nI_inc _) (by decide) rfl ?_
        refine g_goto E 86 d_CY_reckonReserves_116 (by decide) ?_
        refine g_lv [0, 1, 2] rfl ?_
        refine g_ws (ws' := wC V ad r1 r2 r3 nY ix bu np st sr sx tk rn ((tE nY st sr sx rn sh sn yw np).1) ((tE nY st sr sx rn sh sn yw np).2.2) ((tE nY st sr sx rn sh sn yw np).2.1) nw yo ce wo po ne cs sv mk (cS ix yo ce sv nw mk) (fun j => if j < y + 1 then (bg : Int) + sumZ (dY ix st sr sx tk rn (cS ix yo ce sv nw mk) dp np) (j + 1) else if j < nY then dY ix st sr sx tk rn (cS ix yo ce sv nw mk) dp np j else rs j) bg dp) (by rw [hI_86.2, Int.add_assoc, ← sumZ_s]; exact congrArg (fun r => wC V ad r1 r2 r3 nY ix bu np st sr sx tk rn ((tE nY st sr sx rn sh sn yw np).1) ((tE nY st sr sx rn sh sn yw np).2.2) ((tE nY st sr sx rn sh sn yw np).2.1) nw yo ce wo po ne cs sv mk (cS ix yo ce sv nw mk) r bg dp) (ifuZ (F := fun j => (bg : Int) + sumZ (dY ix st sr sx tk rn (cS ix yo ce sv nw mk) dp np) (j + 1)) (G := fun j => if j < nY then dY ix st sr sx tk rn (cS ix yo ce sv nw mk) dp np j else rs j))) ?_
        exact ih_86 (y + 1, z + (dY ix st sr sx tk rn (cS ix yo ce sv nw mk) dp np y)) (⟨by (try dsimp only); omega, by (try dsimp only); rw [hI_86.2, sumZ_s]; omega⟩) (by (try dsimp only); omega)
    · refine g_aload_n E d_CY_reckonReserves_67 rfl 1 rfl ?_
      refine g_iload_n E d_CY_reckonReserves_68 rfl 0 rfl ?_
      refine gwVv (As := [.int (nI i)]) (rest := []) (w' := wC V ad r1 r2 r3 nY ix bu np st sr sx tk rn ((eY (sr i) (sx i) (st i) (rn i) ((tE nY st sr sx rn sh sn yw i).1) ((tE nY st sr sx rn sh sn yw i).2.2) ((tE nY st sr sx rn sh sn yw i).2.1) nY).1) ((eY (sr i) (sx i) (st i) (rn i) ((tE nY st sr sx rn sh sn yw i).1) ((tE nY st sr sx rn sh sn yw i).2.2) ((tE nY st sr sx rn sh sn yw i).2.1) nY).2.2) ((eY (sr i) (sx i) (st i) (rn i) ((tE nY st sr sx rn sh sn yw i).1) ((tE nY st sr sx rn sh sn yw i).2.2) ((tE nY st sr sx rn sh sn yw i).2.1) nY).2.1) nw yo ce wo po ne cs sv mk (cS ix yo ce sv nw mk) (fun j => if j < nY then (if j < nY then dY ix st sr sx tk rn (cS ix yo ce sv nw mk) dp i j else rs j) - ((cY ix st sr sx tk rn i j : Nat) : Int) else (if j < nY then dY ix st sr sx tk rn (cS ix yo ce sv nw mk) dp i j else rs j)) bg dp) (mc := 0) (ms := 0) E hA0 0 rfl rfl (C_CY_takeCareFromReserves l i (by omega) hnp hY hst hsr hsi hM hrn hx ht hix) (cs_CY_210 E rfl rfl ⟨Nat.le_of_ble_eq_true rfl, Nat.le_of_ble_eq_true rfl⟩) rfl rfl (Nat.le_of_ble_eq_true rfl) ⟨Nat.zero_le _, Nat.zero_le _⟩ d_CY_reckonReserves_69 ?_
      refine g_iinc (lv' := [(1, .int (nI (i + 1))), (0, .ref (ad 0))]) E d_CY_reckonReserves_72 0 rfl (nI_inc _) (by decide) rfl ?_
      refine g_goto E 56 d_CY_reckonReserves_75 (by decide) ?_
      refine g_lv [0, 1] rfl ?_
      refine g_ws (ws' := wC V ad r1 r2 r3 nY ix bu np st sr sx tk rn ((tE nY st sr sx rn sh sn yw (i + 1)).1) ((tE nY st sr sx rn sh sn yw (i + 1)).2.2) ((tE nY st sr sx rn sh sn yw (i + 1)).2.1) nw yo ce wo po ne cs sv mk (cS ix yo ce sv nw mk) (fun j => if j < nY then dY ix st sr sx tk rn (cS ix yo ce sv nw mk) dp (i + 1) j else rs j) bg dp) (by congr 1; funext j; by_cases hj : j < nY <;> simp only [hj, if_true, if_false, dY_s]) ?_
      exact ih_56 (i + 1) (by (try dsimp only); omega) (by (try dsimp only); omega)
  · refine g_aload_n E d_CY_reckonReserves_27 rfl 1 rfl ?_
    refine gf_CY_43 E gO_w 0 rfl rfl d_CY_reckonReserves_28 ?_
    refine g_iload_n E d_CY_reckonReserves_31 rfl 0 rfl ?_
    refine g_aload_n E d_CY_reckonReserves_32 rfl 1 rfl ?_
    refine gf_CY_164 E gO_w 0 rfl rfl d_CY_reckonReserves_33 ?_
    refine g_aload_n E d_CY_reckonReserves_36 rfl 1 rfl ?_
    refine gf_CY_39 E gO_w 0 rfl rfl d_CY_reckonReserves_37 ?_
    refine gf_CY_148 E gO_w 12 rfl rfl d_CY_reckonReserves_40 ?_
    refine g_iload_n E d_CY_reckonReserves_43 rfl 0 rfl ?_
    refine g_ldI E gO_w 20 rfl (by omega) (by decide) d_CY_reckonReserves_44 ?_
    have q1 := cS_abs (yo := yo) (ce := ce) (S := mk) (y := y) hnw hix hce hsv
    refine g_isub E d_CY_reckonReserves_45 ?_
    refine g_topi (by rw [nI_iI, iI_sub]) ?_
    refine g_i2l E d_CY_reckonReserves_46 ?_
    refine g_topl (iI_l (by omega) (by omega)) ?_
    refine g_stJ (ws' := wC V ad r1 r2 r3 nY ix bu np st sr sx tk rn sh sn yw nw yo ce wo po ne cs sv mk (cS ix yo ce sv nw mk) (va_up (fun j => if j < y then (dp : Int) - cS ix yo ce sv nw mk j else rs j) y ((dp : Int) - cS ix yo ce sv nw mk y)) bg dp) E 21 rfl (by omega) (by decide) rfl d_CY_reckonReserves_47 ?_
    refine g_iinc (lv' := [(1, .int (nI (y + 1))), (0, .ref (ad 0))]) E d_CY_reckonReserves_48 0 rfl (nI_inc _) (by decide) rfl ?_
    refine g_goto E 16 d_CY_reckonReserves_51 (by decide) ?_
    refine g_lv [0, 1] rfl ?_
    refine g_ws (ws' := wC V ad r1 r2 r3 nY ix bu np st sr sx tk rn sh sn yw nw yo ce wo po ne cs sv mk (cS ix yo ce sv nw mk) (fun j => if j < y + 1 then (dp : Int) - cS ix yo ce sv nw mk j else rs j) bg dp) (by rw [ifuZ (F := fun j => (dp : Int) - cS ix yo ce sv nw mk j) (G := rs)]) ?_
    exact ih_16 (y + 1) (by (try dsimp only); omega) (by (try dsimp only); omega)
