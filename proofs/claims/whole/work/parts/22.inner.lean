/-- cents, rate and years of a loan -/
def isL (a b c : Int32) : Bool := inB a (nI 1) (nI 1000000000) && inB b (nI 0) (nI 2000) && inB c (nI 1) (nI 30)

set_option maxHeartbeats 4000000 in
set_option maxRecDepth 100000 in
theorem C_Lo_isOne (l : Launch) {V : gV} {w : va_W} (x y z : Int32) : mPi l y_Lo_isOne (w_Lo_isOne :: gt) rm_Lo_isOne V (w  ) [.int x, .int y, .int z] (bI (isL x y z)) := by
  refine gMet (V := V) (As := [.int x, .int y, .int z]) (cc := c_Lo_isOne) (maxL := 3) (ret := (some .boolean)) (by decide) rfl (Nat.le_of_ble_eq_true rfl) (fun a U h => ⟨h.1, h.2.2⟩) ?_
  intro p e s m below meth c E hr hlk hnm hv
  have hO := gO_r (locs1 := []) (ws := w  ) hv.2.1
  refine g_iload_n E d_Lo_isOne_0 rfl 0 rfl ?_
  refine g_iconst (v := nI 1) E d_Lo_isOne_1 (by decide) ?_
  refine g_ldc E kk_Lo_9 d_Lo_isOne_2 ?_
  refine g_topi (show ((1000000000) : Int32) = nI 1000000000 from by decide) ?_
  refine gpNi (As := [.int x, .int (nI 1), .int (nI 1000000000)]) (rest := []) E hO (C_CY_isWithin l x (nI 1) (nI 1000000000)) (cs_Lo_10 E rfl rfl ⟨Nat.le_of_ble_eq_true rfl, Nat.le_of_ble_eq_true rfl⟩) rfl rfl (Nat.le_of_ble_eq_true rfl) ⟨Nat.zero_le _, Nat.zero_le _⟩ d_Lo_isOne_4 ?_
  refine g_bif_eq E 35 d_Lo_isOne_7 (by decide) (fun h1 => ?_) (fun h1 => ?_)
  · refine g_iconst (v := nI 0) E d_Lo_isOne_35 (by decide) ?_
    exact g_zret E hr hlk d_Lo_isOne_36 (Or.inl rfl) (gq_i (by simp only [isL, h1, Bool.false_and, Bool.true_and, Bool.and_false, Bool.and_true]; rfl))
  · refine g_iload_n E d_Lo_isOne_10 rfl 1 rfl ?_
    refine g_iconst (v := nI 0) E d_Lo_isOne_11 (by decide) ?_
    refine g_sipush (v := nI 2000) E d_Lo_isOne_12 (by decide) ?_
    refine gpNi (As := [.int y, .int (nI 0), .int (nI 2000)]) (rest := []) E hO (C_CY_isWithin l y (nI 0) (nI 2000)) (cs_Lo_10 E rfl rfl ⟨Nat.le_of_ble_eq_true rfl, Nat.le_of_ble_eq_true rfl⟩) rfl rfl (Nat.le_of_ble_eq_true rfl) ⟨Nat.zero_le _, Nat.zero_le _⟩ d_Lo_isOne_15 ?_
    refine g_bif_eq E 35 d_Lo_isOne_18 (by decide) (fun h2 => ?_) (fun h2 => ?_)
    · refine g_iconst (v := nI 0) E d_Lo_isOne_35 (by decide) ?_
      exact g_zret E hr hlk d_Lo_isOne_36 (Or.inl rfl) (gq_i (by simp only [isL, h1, h2, Bool.false_and, Bool.true_and, Bool.and_false, Bool.and_true]; rfl))
    · refine g_iload_n E d_Lo_isOne_21 rfl 2 rfl ?_
      refine g_iconst (v := nI 1) E d_Lo_isOne_22 (by decide) ?_
      refine g_bipush (v := nI 30) E d_Lo_isOne_23 (by decide) ?_
      refine gpNi (As := [.int z, .int (nI 1), .int (nI 30)]) (rest := []) E hO (C_CY_isWithin l z (nI 1) (nI 30)) (cs_Lo_10 E rfl rfl ⟨Nat.le_of_ble_eq_true rfl, Nat.le_of_ble_eq_true rfl⟩) rfl rfl (Nat.le_of_ble_eq_true rfl) ⟨Nat.zero_le _, Nat.zero_le _⟩ d_Lo_isOne_25 ?_
      refine g_bif_eq E 35 d_Lo_isOne_28 (by decide) (fun h3 => ?_) (fun h3 => ?_)
      · refine g_iconst (v := nI 0) E d_Lo_isOne_35 (by decide) ?_
        exact g_zret E hr hlk d_Lo_isOne_36 (Or.inl rfl) (gq_i (by simp only [isL, h1, h2, h3, Bool.false_and, Bool.true_and, Bool.and_false, Bool.and_true]; rfl))
      · refine g_iconst (v := nI 1) E d_Lo_isOne_31 (by decide) ?_
        refine g_goto E 36 d_Lo_isOne_32 (by decide) ?_
        exact g_zret E hr hlk d_Lo_isOne_36 (Or.inr rfl) (gq_i (by simp only [isL, h1, h2, h3, Bool.false_and, Bool.true_and, Bool.and_false, Bool.and_true]; rfl))

set_option maxHeartbeats 4000000 in
set_option maxRecDepth 100000 in
theorem C_Lo_restBehind (l : Launch) {V : gV} {w : va_W} (n k r q : Nat) (hn : n ≤ 30) (hc : k ≤ 1000000000) (hrt : r ≤ 2000) (hq : q < 2 ^ 40) : mPl l y_Lo_restBehind (w_Lo_restBehind :: gt) rm_Lo_restBehind V (w  ) [.int (nI n), .int (nI k), .int (nI r), .long (lN q)] (lN (rB k r q n)) := by
  refine gMet (V := V) (As := [.int (nI n), .int (nI k), .int (nI r), .long (lN q)]) (cc := c_Lo_restBehind) (maxL := 10) (ret := (some .long)) (by decide) rfl (Nat.le_of_ble_eq_true rfl) (fun a U h => ⟨h.1, h.2.2⟩) ?_
  intro p e s m below meth c E hr hlk hnm hv
  have hO := gO_r (locs1 := []) (ws := w  ) hv.2.1
  refine g_iload_n E d_Lo_restBehind_0 rfl 1 rfl ?_
  refine g_i2l E d_Lo_restBehind_1 ?_
  refine g_topl (nI_l (by omega)) ?_
  refine g_lstore (lv' := [(5, .long (lN k)), (0, .int (nI n)), (1, .int (nI k)), (2, .int (nI r)), (3, .long (lN q))]) E d_Lo_restBehind_2 (by decide) rfl ?_
  refine g_iconst (v := nI 0) E d_Lo_restBehind_4 (by decide) ?_
  refine g_istore (lv' := [(7, .int (nI 0)), (5, .long (lN k)), (0, .int (nI n)), (1, .int (nI k)), (2, .int (nI r)), (3, .long (lN q))]) E d_Lo_restBehind_5 (by decide) rfl ?_
  refine g_lv [0, 1, 2, 3, 4, 5] rfl ?_
  refine gloop (α := Nat × Nat) (fun a_ => gR s.heap []) (fun a_ => [(7, .int (nI a_.1)), (5, .long (lN a_.2)), (0, .int (nI n)), (1, .int (nI k)), (2, .int (nI r)), (3, .long (lN q))]) (fun a_ => a_.1 ≤ n ∧ a_.2 = rB k r q a_.1) (fun a_ => n - a_.1) (0, k) (⟨Nat.zero_le _, rfl⟩) ?_
  rintro ⟨i, x⟩ hI_7 ih_7
  try dsimp only at hI_7 ih_7 ⊢
  refine g_iload E d_Lo_restBehind_7 0 rfl ?_
  refine g_iload_n E d_Lo_restBehind_9 rfl 2 rfl ?_
  refine g_ncmp_ge E 49 d_Lo_restBehind_10 (by decide) (by omega) (by omega) (fun h1 => ?_) (fun h1 => ?_)
  · refine g_lload E d_Lo_restBehind_49 1 rfl ?_
    exact g_lret E hr hlk d_Lo_restBehind_51 (gq_l (by rw [hI_7.2, show i = n by omega]))
  · have b1 := rB_le (p := q) (k := i) hc hrt (by omega)
    rw [← hI_7.2] at b1
    have b2 := Nat.mul_le_mul b1 hrt
    refine g_lload E d_Lo_restBehind_13 1 rfl ?_
    refine g_iload_n E d_Lo_restBehind_15 rfl 4 rfl ?_
    refine g_i2l E d_Lo_restBehind_16 ?_
    refine g_topl (nI_l (by omega)) ?_
    refine g_lmul E d_Lo_restBehind_17 ?_
    refine g_topl (lN_mul _ _) ?_
    refine g_ldc2 E kk_Lo_16 d_Lo_restBehind_18 ?_
    refine g_topl (show ((10000) : Int64) = lN 10000 from by decide) ?_
    refine g_ladd E d_Lo_restBehind_21 ?_
    refine g_topl (lN_add _ _) ?_
    refine g_lconst (v := lN 1) E d_Lo_restBehind_22 (by decide) ?_
    refine g_lsub E d_Lo_restBehind_23 ?_
    refine g_topl ((lN_sub (by omega)).trans (congrArg lN (show x * r + 10000 - 1 = x * r + 9999 by omega))) ?_
    refine g_ldc2 E kk_Lo_16 d_Lo_restBehind_24 ?_
    refine g_topl (show ((10000) : Int64) = lN 10000 from by decide) ?_
    refine g_ldiv E d_Lo_restBehind_27 (by decide) ?_
    refine g_topl (pk_lDiv (by omega) (by decide) (by decide)) ?_
    refine g_lstore (lv' := [(8, .long (lN ((x * r + 9999) / 10000))), (7, .int (nI i)), (5, .long (lN x)), (0, .int (nI n)), (1, .int (nI k)), (2, .int (nI r)), (3, .long (lN q))]) E d_Lo_restBehind_28 (by decide) rfl ?_
    refine g_lload E d_Lo_restBehind_30 2 rfl ?_
    refine g_lload E d_Lo_restBehind_32 0 rfl ?_
    refine g_ladd E d_Lo_restBehind_34 ?_
    refine g_topl (lN_add _ _) ?_
    refine g_lload_n E d_Lo_restBehind_35 rfl 6 rfl ?_
    refine g_lsub E d_Lo_restBehind_36 ?_
    refine g_lconst (v := lN 0) E d_Lo_restBehind_37 (by decide) ?_
    refine g_maxJ E kl_Lo_18 (Nat.le_of_ble_eq_true rfl) (Nat.le_of_ble_eq_true rfl) (Nat.zero_le _) (Nat.zero_le _) d_Lo_restBehind_38 ?_
    refine g_topl (lmax_sub (by omega) (by omega)) ?_
    refine g_lstore (lv' := [(5, .long (lN (x + (x * r + 9999) / 10000 - q))), (8, .long (lN ((x * r + 9999) / 10000))), (7, .int (nI i)), (0, .int (nI n)), (1, .int (nI k)), (2, .int (nI r)), (3, .long (lN q))]) E d_Lo_restBehind_41 (by decide) rfl ?_
    refine g_iinc (lv' := [(7, .int (nI (i + 1))), (5, .long (lN (x + (x * r + 9999) / 10000 - q))), (8, .long (lN ((x * r + 9999) / 10000))), (0, .int (nI n)), (1, .int (nI k)), (2, .int (nI r)), (3, .long (lN q))]) E d_Lo_restBehind_43 2 rfl (nI_inc _) (by decide) rfl ?_
    refine g_goto E 7 d_Lo_restBehind_46 (by decide) ?_
    refine g_lv [0, 1, 3, 4, 5, 6] rfl ?_
    exact ih_7 (i + 1, x + (x * r + 9999) / 10000 - q) (⟨by (try dsimp only); omega, by (try dsimp only); rw [rB, ← hI_7.2, ri]⟩) (by (try dsimp only); omega)

set_option maxHeartbeats 4000000 in
set_option maxRecDepth 100000 in
theorem C_Lo_leastPayment (l : Launch) {V : gV} {w : va_W} (k r n : Nat) (hc : k ≤ 1000000000) (hrt : r ≤ 2000) (hn : n ≤ 30) : mPi l y_Lo_leastPayment (w_Lo_leastPayment :: gt) rm_Lo_leastPayment V (w  ) [.int (nI k), .int (nI r), .int (nI n)] (nI (lpN k r n 31 + 1)) := by
  refine gMet (V := V) (As := [.int (nI k), .int (nI r), .int (nI n)]) (cc := c_Lo_leastPayment) (maxL := 8) (ret := (some .int)) (by decide) rfl (Nat.le_of_ble_eq_true rfl) (fun a U h => ⟨h.1, h.2.2⟩) ?_
  intro p e s m below meth c E hr hlk hnm hv
  have hO := gO_r (locs1 := []) (ws := w  ) hv.2.1
  refine g_lconst (v := lN 0) E d_Lo_leastPayment_0 (by decide) ?_
  refine g_lstore_n (lv' := [(3, .long (lN 0)), (0, .int (nI k)), (1, .int (nI r)), (2, .int (nI n))]) E d_Lo_leastPayment_1 rfl (by decide) rfl ?_
  refine g_bipush (v := nI 30) E d_Lo_leastPayment_2 (by decide) ?_
  refine g_topi (nI_iI 30) ?_
  refine g_istore (lv' := [(5, .int (iI ((30 : Nat) : Int))), (3, .long (lN 0)), (0, .int (nI k)), (1, .int (nI r)), (2, .int (nI n))]) E d_Lo_leastPayment_4 (by decide) rfl ?_
  refine g_lv [0, 1, 2, 3, 4] rfl ?_
  refine gloop (α := Nat × Int × Nat) (fun a_ => gR s.heap []) (fun a_ => [(5, .int (iI a_.2.1)), (3, .long (lN a_.2.2)), (0, .int (nI k)), (1, .int (nI r)), (2, .int (nI n))]) (fun a_ => a_.1 ≤ 31 ∧ a_.2.1 = 30 - (a_.1 : Int) ∧ a_.2.2 = lpN k r n a_.1) (fun a_ => 31 - a_.1) (0, ((30 : Nat) : Int), 0) (⟨by (try dsimp only); omega, by (try dsimp only); omega, rfl⟩) ?_
  rintro ⟨j, z, t⟩ hI_6 ih_6
  try dsimp only at hI_6 ih_6 ⊢
  refine g_iload E d_Lo_leastPayment_6 0 rfl ?_
  refine g_if_lt E 41 d_Lo_leastPayment_8 (by decide) (fun h1 => ?_) (fun h1 => ?_)
  · rw [zif_lt (by omega) (by omega)] at h1
    refine g_lload_n E d_Lo_leastPayment_41 rfl 1 rfl ?_
    refine g_lconst (v := lN 1) E d_Lo_leastPayment_42 (by decide) ?_
    refine g_ladd E d_Lo_leastPayment_43 ?_
    refine g_topl (lN_add _ _) ?_
    refine g_l2i E d_Lo_leastPayment_44 ?_
    refine g_topi (lN_i _) ?_
    exact g_iret E hr hlk d_Lo_leastPayment_45 (gq_i (by rw [hI_6.2.2, show j = 31 by omega]))
  · rw [zif_lt (by omega) (by omega)] at h1
    have b1 := lpN_lt k r n j (by omega)
    rw [← hI_6.2.2] at b1
    have b2 : 2 ^ (30 - j) ≤ 2 ^ (31 - j) := Nat.pow_le_pow_right (by decide) (by omega)
    refine g_lload_n E d_Lo_leastPayment_11 rfl 1 rfl ?_
    refine g_lconst (v := lN 1) E d_Lo_leastPayment_12 (by decide) ?_
    refine g_iload E d_Lo_leastPayment_13 0 rfl ?_
    refine g_topi (show iI z = nI (30 - j) from by rw [nI_iI]; congr 1; omega) ?_
    refine g_lshl E d_Lo_leastPayment_15 ?_
    refine g_topl ((wb_shl 1 (by omega)).trans (congrArg lN (Nat.one_mul _))) ?_
    refine g_ladd E d_Lo_leastPayment_16 ?_
    refine g_topl (lN_add _ _) ?_
    refine g_lstore (lv' := [(6, .long (lN (t + (2 ^ (30 - j))))), (5, .int (iI z)), (3, .long (lN t)), (0, .int (nI k)), (1, .int (nI r)), (2, .int (nI n))]) E d_Lo_leastPayment_17 (by decide) rfl ?_
    refine g_iload_n E d_Lo_leastPayment_19 rfl 5 rfl ?_
    refine g_iload_n E d_Lo_leastPayment_20 rfl 3 rfl ?_
    refine g_iload_n E d_Lo_leastPayment_21 rfl 4 rfl ?_
    refine g_lload E d_Lo_leastPayment_22 0 rfl ?_
    refine gpSl (As := [.int (nI n), .int (nI k), .int (nI r), .long (lN (t + (2 ^ (30 - j))))]) (rest := []) E hO (C_Lo_restBehind l n k r (t + (2 ^ (30 - j))) (by omega) (by omega) (by omega) (by omega)) (cs_Lo_24 E rfl rfl ⟨Nat.le_of_ble_eq_true rfl, Nat.le_of_ble_eq_true rfl⟩) rfl rfl (Nat.le_of_ble_eq_true rfl) ⟨Nat.zero_le _, Nat.zero_le _⟩ d_Lo_leastPayment_24 ?_
    refine g_lconst (v := lN 0) E d_Lo_leastPayment_27 (by decide) ?_
    refine g_lcmp E d_Lo_leastPayment_28 ?_
    refine g_if_le E 35 d_Lo_leastPayment_29 (by decide) (fun h2 => ?_) (fun h2 => ?_)
    · have b3 := rB_le (p := t + 2 ^ (30 - j)) (k := n) hc hrt hn
      rw [lg_le0 (by omega)] at h2
      refine g_iinc (lv' := [(5, .int (iI (z - 1))), (6, .long (lN (t + (2 ^ (30 - j))))), (3, .long (lN t)), (0, .int (nI k)), (1, .int (nI r)), (2, .int (nI n))]) E d_Lo_leastPayment_35 1 rfl (iI_dec _) (by decide) rfl ?_
      refine g_goto E 6 d_Lo_leastPayment_38 (by decide) ?_
      refine g_lv [0, 2, 3, 4, 5] rfl ?_
      exact ih_6 (j + 1, z - 1, t) (⟨by (try dsimp only); omega, by (try dsimp only); omega, by (try dsimp only); rw [lpN, ← hI_6.2.2]; simp [h2]⟩) (by (try dsimp only); omega)
    · have b3 := rB_le (p := t + 2 ^ (30 - j)) (k := n) hc hrt hn
      rw [lg_le0 (by omega)] at h2
      refine g_lload E d_Lo_leastPayment_32 0 rfl ?_
      refine g_lstore_n (lv' := [(3, .long (lN (t + (2 ^ (30 - j))))), (6, .long (lN (t + (2 ^ (30 - j))))), (5, .int (iI z)), (0, .int (nI k)), (1, .int (nI r)), (2, .int (nI n))]) E d_Lo_leastPayment_34 rfl (by decide) rfl ?_
      refine g_iinc (lv' := [(5, .int (iI (z - 1))), (3, .long (lN (t + (2 ^ (30 - j))))), (6, .long (lN (t + (2 ^ (30 - j))))), (0, .int (nI k)), (1, .int (nI r)), (2, .int (nI n))]) E d_Lo_leastPayment_35 2 rfl (iI_dec _) (by decide) rfl ?_
      refine g_goto E 6 d_Lo_leastPayment_38 (by decide) ?_
      refine g_lv [0, 1, 3, 4, 5] rfl ?_
      exact ih_6 (j + 1, z - 1, t + (2 ^ (30 - j))) (⟨by (try dsimp only); omega, by (try dsimp only); omega, by (try dsimp only); rw [lpN, ← hI_6.2.2]; simp [h2]⟩) (by (try dsimp only); omega)

set_option maxHeartbeats 4000000 in
set_option maxRecDepth 100000 in
theorem C_Wo_add (l : Launch) {V : gV} {ad r1 r2 r3 : Nat → Nat} {nY : Nat} {ix bu : Nat → Nat} {np : Nat} {st sr : Nat → Nat} {sx tk : Nat → Nat → Nat} {rn sh sn : Nat → Nat} {yw nw : Nat} {yo ce wo : Nat → Nat} {po ne : Nat → Option Nat} {cs : Nat → Nat} {sv : Nat → Nat → Nat} {mk : Nat} {sp rs : Nat → Int} {bg dp : Nat} (y k v : Nat) (q : Option Nat) (hnw : nw < 10) : mWi l y_Wo_add (w_Wo_add :: gt) rm_Wo_add V (wC V ad r1 r2 r3 nY ix bu np st sr sx tk rn sh sn yw nw yo ce wo po ne cs sv mk sp rs bg dp) [.ref (ad 12), .int (nI y), .int (nI k), .int (nI v), .int (oN q)] (nI nw) (wC V ad r1 r2 r3 nY ix bu np st sr sx tk rn sh sn yw (nw + 1) (va_up yo nw y) (va_up ce nw k) (va_up wo nw v) (va_up po nw q) (va_up ne nw none) cs sv mk sp rs bg dp) 0 0 := by
  intro sz
  refine gMet (V := V) (As := [.ref (ad 12), .int (nI y), .int (nI k), .int (nI v), .int (oN q)]) (cc := c_Wo_add) (maxL := 6) (ret := (some .int)) (by decide) rfl (Nat.le_of_ble_eq_true rfl) (fun a U h => ⟨h.1, h.2.2.2.1⟩) ?_
  intro p e s m below meth c E hr hlk hnm hv
  refine g_toW (sz := sz) (w := wC V ad r1 r2 r3 nY ix bu np st sr sx tk rn sh sn yw nw yo ce wo po ne cs sv mk sp rs bg dp) hv.2.2.1 hv.2.2.2.2 ?_
  have hA0 : ∀ q : Nat, s.heap.size ≤ q → va_A (wC V ad r1 r2 r3 nY ix bu np st sr sx tk rn sh sn yw nw yo ce wo po ne cs sv mk sp rs bg dp) sz q := fun q h => Or.inr (by rw [← hv.2.1]; exact h)
  refine g_aload_n E d_Wo_add_0 rfl 0 rfl ?_
  refine gf_Wo_44 E gO_w 12 rfl rfl d_Wo_add_1 ?_
  refine g_istore (lv' := [(5, .int (nI nw)), (0, .ref (ad 12)), (1, .int (nI y)), (2, .int (nI k)), (3, .int (nI v)), (4, .int (oN q))]) E d_Wo_add_4 (by decide) rfl ?_
  refine g_aload_n E d_Wo_add_6 rfl 1 rfl ?_
  refine g_dup E d_Wo_add_7 rfl ?_
  refine gf_Wo_44 E gO_w 12 rfl rfl d_Wo_add_8 ?_
  refine g_iconst (v := nI 1) E d_Wo_add_11 (by decide) ?_
  refine g_iadd E d_Wo_add_12 ?_
  refine g_topi (nI_add _ _) ?_
  refine pf_Wo_44 (ws' := wC V ad r1 r2 r3 nY ix bu np st sr sx tk rn sh sn yw (nw + 1) yo ce wo po ne cs sv mk sp rs bg dp) E 12 rfl rfl rfl (Nat.le_of_ble_eq_true rfl) rfl d_Wo_add_13 ?_
  refine g_aload_n E d_Wo_add_16 rfl 1 rfl ?_
  refine gf_Wo_11 E gO_w 12 rfl rfl d_Wo_add_17 ?_
  refine g_iload E d_Wo_add_20 0 rfl ?_
  refine g_iload_n E d_Wo_add_22 rfl 2 rfl ?_
  refine g_stN (ws' := wC V ad r1 r2 r3 nY ix bu np st sr sx tk rn sh sn yw (nw + 1) (va_up yo nw y) ce wo po ne cs sv mk sp rs bg dp) E 13 rfl (by omega) (by decide) rfl d_Wo_add_23 ?_
  refine g_aload_n E d_Wo_add_24 rfl 1 rfl ?_
  refine gf_Wo_15 E gO_w 12 rfl rfl d_Wo_add_25 ?_
  refine g_iload E d_Wo_add_28 0 rfl ?_
  refine g_iload_n E d_Wo_add_30 rfl 3 rfl ?_
  refine g_stN (ws' := wC V ad r1 r2 r3 nY ix bu np st sr sx tk rn sh sn yw (nw + 1) (va_up yo nw y) (va_up ce nw k) wo po ne cs sv mk sp rs bg dp) E 14 rfl (by omega) (by decide) rfl d_Wo_add_31 ?_
  refine g_aload_n E d_Wo_add_32 rfl 1 rfl ?_
  refine gf_Wo_18 E gO_w 12 rfl rfl d_Wo_add_33 ?_
  refine g_iload E d_Wo_add_36 0 rfl ?_
  refine g_iload_n E d_Wo_add_38 rfl 4 rfl ?_
  refine g_stN (ws' := wC V ad r1 r2 r3 nY ix bu np st sr sx tk rn sh sn yw (nw + 1) (va_up yo nw y) (va_up ce nw k) (va_up wo nw v) po ne cs sv mk sp rs bg dp) E 15 rfl (by omega) (by decide) rfl d_Wo_add_39 ?_
  refine g_aload_n E d_Wo_add_40 rfl 1 rfl ?_
  refine gf_Wo_21 E gO_w 12 rfl rfl d_Wo_add_41 ?_
  refine g_iload E d_Wo_add_44 0 rfl ?_
  refine g_iload E d_Wo_add_46 5 rfl ?_
  refine g_stO (ws' := wC V ad r1 r2 r3 nY ix bu np st sr sx tk rn sh sn yw (nw + 1) (va_up yo nw y) (va_up ce nw k) (va_up wo nw v) (va_up po nw q) ne cs sv mk sp rs bg dp) E 16 rfl (by omega) (by decide) rfl d_Wo_add_48 ?_
  refine g_aload_n E d_Wo_add_49 rfl 1 rfl ?_
  refine gf_Wo_24 E gO_w 12 rfl rfl d_Wo_add_50 ?_
  refine g_iload E d_Wo_add_53 0 rfl ?_
  refine g_iconst (v := oN none) E d_Wo_add_55 (by decide) ?_
  refine g_stO (ws' := wC V ad r1 r2 r3 nY ix bu np st sr sx tk rn sh sn yw (nw + 1) (va_up yo nw y) (va_up ce nw k) (va_up wo nw v) (va_up po nw q) (va_up ne nw none) cs sv mk sp rs bg dp) E 17 rfl (by omega) (by decide) rfl d_Wo_add_56 ?_
  refine g_iload E d_Wo_add_57 0 rfl ?_
  exact g_iret E hr hlk d_Wo_add_59 (gq_wi (w1 := fun _ => wC V ad r1 r2 r3 nY ix bu np st sr sx tk rn sh sn yw (nw + 1) (va_up yo nw y) (va_up ce nw k) (va_up wo nw v) (va_up po nw q) (va_up ne nw none) cs sv mk sp rs bg dp) () (rfl))

def rnN (po : Nat → Option Nat) (yo : Nat → Nat) (mk : Nat) : Nat → Nat → Nat
  | 0 => fun _ => 0
  | k + 1 => match po k with
    | none => rnN po yo mk k
    | some q => if mk.testBit k then va_up (rnN po yo mk k) q (sB (rnN po yo mk k q) (yo k) true) else rnN po yo mk k

set_option maxHeartbeats 4000000 in
set_option maxRecDepth 100000 in
theorem C_CY_renewParts (l : Launch) {V : gV} {ad r1 r2 r3 : Nat → Nat} {nY : Nat} {ix bu : Nat → Nat} {np : Nat} {st sr : Nat → Nat} {sx tk : Nat → Nat → Nat} {rn sh sn : Nat → Nat} {yw nw : Nat} {yo ce wo : Nat → Nat} {po ne : Nat → Option Nat} {cs : Nat → Nat} {sv : Nat → Nat → Nat} {mk : Nat} {sp rs : Nat → Int} {bg dp : Nat} (hnw : nw ≤ 10) (hmk : mk < 1024) (hyo : ∀ w, yo w < 12) (hpo : ∀ w q, po w = some q → q < 12) : mWv l y_CY_renewParts (w_CY_renewParts :: gt) rm_CY_renewParts V (wC V ad r1 r2 r3 nY ix bu np st sr sx tk rn sh sn yw nw yo ce wo po ne cs sv mk sp rs bg dp) [.ref (ad 0)] (wC V ad r1 r2 r3 nY ix bu np st sr sx tk (rnN po yo mk nw) sh sn yw nw yo ce wo po ne cs sv mk sp rs bg dp) 0 0 := by
  intro sz
  refine gMet (V := V) (As := [.ref (ad 0)]) (cc := c_CY_renewParts) (maxL := 3) (ret := none) (by decide) rfl (Nat.le_of_ble_eq_true rfl) (fun a U h => ⟨h.1, h.2.2.2.1⟩) ?_
  intro p e s m below meth c E hr hlk hnm hv
  refine g_toW (sz := sz) (w := wC V ad r1 r2 r3 nY ix bu np st sr sx tk rn sh sn yw nw yo ce wo po ne cs sv mk sp rs bg dp) hv.2.2.1 hv.2.2.2.2 ?_
  have hA0 : ∀ q : Nat, s.heap.size ≤ q → va_A (wC V ad r1 r2 r3 nY ix bu np st sr sx tk rn sh sn yw nw yo ce wo po ne cs sv mk sp rs bg dp) sz q := fun q h => Or.inr (by rw [← hv.2.1]; exact h)
  refine g_aload_n E d_CY_renewParts_0 rfl 0 rfl ?_
  refine gf_CY_30 E gO_w 0 rfl rfl d_CY_renewParts_1 ?_
  refine gf_CY_195 E gO_w 4 rfl rfl d_CY_renewParts_4 ?_
  refine g_iconst (v := nI 0) E d_CY_renewParts_7 (by decide) ?_
  refine gwSv (As := [.ref (ad 9), .int (nI 0)]) (rest := []) (w' := wC V ad r1 r2 r3 nY ix bu np st sr sx tk (fun _ => 0) sh sn yw nw yo ce wo po ne cs sv mk sp rs bg dp) (mc := 0) (ms := 0) E hA0 (C_fill_rn l) (cs_CY_198 E rfl rfl ⟨Nat.le_of_ble_eq_true rfl, Nat.le_of_ble_eq_true rfl⟩) rfl rfl (Nat.le_of_ble_eq_true rfl) ⟨Nat.zero_le _, Nat.zero_le _⟩ d_CY_renewParts_8 ?_
  refine g_iconst (v := nI 0) E d_CY_renewParts_11 (by decide) ?_
  refine g_istore_n (lv' := [(1, .int (nI 0)), (0, .ref (ad 0))]) E d_CY_renewParts_12 rfl (by decide) rfl ?_
  refine g_lv [0, 1] rfl ?_
  refine gloop (α := Nat) (fun a_ => gW V _ _ (wC V ad r1 r2 r3 nY ix bu np st sr sx tk (rnN po yo mk a_) sh sn yw nw yo ce wo po ne cs sv mk sp rs bg dp)) (fun a_ => [(1, .int (nI a_)), (0, .ref (ad 0))]) (fun a_ => a_ ≤ nw) (fun a_ => nw - a_) (0) (Nat.zero_le _) ?_
  rintro i hI_13 ih_13
  try dsimp only at hI_13 ih_13 ⊢
  refine g_iload_n E d_CY_renewParts_13 rfl 0 rfl ?_
  refine g_aload_n E d_CY_renewParts_14 rfl 1 rfl ?_
  refine gf_CY_39 E gO_w 0 rfl rfl d_CY_renewParts_15 ?_
  refine gf_CY_112 E gO_w 12 rfl rfl d_CY_renewParts_18 ?_
  refine g_ncmp_ge E 90 d_CY_renewParts_21 (by decide) (by omega) (by omega) (fun h1 => ?_) (fun h1 => ?_)
  · refine g_ws (ws' := wC V ad r1 r2 r3 nY ix bu np st sr sx tk (rnN po yo mk nw) sh sn yw nw yo ce wo po ne cs sv mk sp rs bg dp) (by rw [show i = nw by omega]) ?_
    exact g_vret E hr hlk d_CY_renewParts_90 (gq_wv (w1 := fun _ => wC V ad r1 r2 r3 nY ix bu np st sr sx tk (rnN po yo mk nw) sh sn yw nw yo ce wo po ne cs sv mk sp rs bg dp) () trivial)
  · refine g_aload_n E d_CY_renewParts_24 rfl 1 rfl ?_
    refine gf_CY_39 E gO_w 0 rfl rfl d_CY_renewParts_25 ?_
    refine gf_CY_204 E gO_w 12 rfl rfl d_CY_renewParts_28 ?_
    refine g_iload_n E d_CY_renewParts_31 rfl 0 rfl ?_
    refine g_ldO E gO_w 16 rfl (by omega) (by decide) d_CY_renewParts_32 ?_
    rcases hz : po i with _ | q
    · have _ := hz
      refine g_istore_n (lv' := [(2, .int (oN none)), (1, .int (nI i)), (0, .ref (ad 0))]) E d_CY_renewParts_33 rfl (by decide) rfl ?_
      refine g_iload_n E d_CY_renewParts_34 rfl 0 rfl ?_
      refine g_iconst (v := oN none) E d_CY_renewParts_35 (by decide) ?_
      refine g_icmp_eq E 84 d_CY_renewParts_36 (by decide) (fun h2 => ?_) (fun h2 => ?_)
      · refine g_iinc (lv' := [(1, .int (nI (i + 1))), (2, .int (oN none)), (0, .ref (ad 0))]) E d_CY_renewParts_84 1 rfl (nI_inc _) (by decide) rfl ?_
        refine g_goto E 13 d_CY_renewParts_87 (by decide) ?_
        refine g_lv [0, 2] rfl ?_
        refine g_ws (ws' := wC V ad r1 r2 r3 nY ix bu np st sr sx tk (rnN po yo mk (i + 1)) sh sn yw nw yo ce wo po ne cs sv mk sp rs bg dp) (by rw [rnN, hz]; try simp [h1, h2]) ?_
        exact ih_13 (i + 1) (by (try dsimp only); omega) (by (try dsimp only); omega)
      · exact absurd rfl h2
    · have hq := hpo i q hz
      refine g_topi (show oN (some q) = nI q from rfl) ?_
      refine g_istore_n (lv' := [(2, .int (nI q)), (1, .int (nI i)), (0, .ref (ad 0))]) E d_CY_renewParts_33 rfl (by decide) rfl ?_
      refine g_iload_n E d_CY_renewParts_34 rfl 0 rfl ?_
      refine g_iconst (v := oN none) E d_CY_renewParts_35 (by decide) ?_
      refine g_icmp_eq E 84 d_CY_renewParts_36 (by decide) (fun h3 => ?_) (fun h3 => ?_)
      · exact absurd h3 (by intro z; have := congrArg Int32.toInt z; rw [nI_toInt (by omega)] at this; have h2 : (oN none).toInt = -1 := (by decide); omega)
      · refine g_aload_n E d_CY_renewParts_39 rfl 2 rfl ?_
        refine gf_CY_39 E gO_w 0 rfl rfl d_CY_renewParts_40 ?_
        refine gf_CY_139 E gO_w 12 rfl rfl d_CY_renewParts_43 ?_
        refine g_iload_n E d_CY_renewParts_46 rfl 1 rfl ?_
        refine gpSi (As := [.int (nI mk), .int (nI i)]) (rest := []) E gO_w (C_CY_holds l mk i (by omega) (by omega)) (cs_CY_123 E rfl rfl ⟨Nat.le_of_ble_eq_true rfl, Nat.le_of_ble_eq_true rfl⟩) rfl rfl (Nat.le_of_ble_eq_true rfl) ⟨Nat.zero_le _, Nat.zero_le _⟩ d_CY_renewParts_47 ?_
        refine g_bif_eq E 84 d_CY_renewParts_50 (by decide) (fun h4 => ?_) (fun h4 => ?_)
        · refine g_iinc (lv' := [(1, .int (nI (i + 1))), (2, .int (nI q)), (0, .ref (ad 0))]) E d_CY_renewParts_84 1 rfl (nI_inc _) (by decide) rfl ?_
          refine g_goto E 13 d_CY_renewParts_87 (by decide) ?_
          refine g_lv [0, 2] rfl ?_
          refine g_ws (ws' := wC V ad r1 r2 r3 nY ix bu np st sr sx tk (rnN po yo mk (i + 1)) sh sn yw nw yo ce wo po ne cs sv mk sp rs bg dp) (by rw [rnN, hz]; try simp [h1, h3, h4]) ?_
          exact ih_13 (i + 1) (by (try dsimp only); omega) (by (try dsimp only); omega)
        · refine g_aload_n E d_CY_renewParts_53 rfl 2 rfl ?_
          refine gf_CY_30 E gO_w 0 rfl rfl d_CY_renewParts_54 ?_
          refine gf_CY_195 E gO_w 4 rfl rfl d_CY_renewParts_57 ?_
          refine g_iload_n E d_CY_renewParts_60 rfl 0 rfl ?_
          refine g_aload_n E d_CY_renewParts_61 rfl 2 rfl ?_
          refine gf_CY_30 E gO_w 0 rfl rfl d_CY_renewParts_62 ?_
          refine gf_CY_195 E gO_w 4 rfl rfl d_CY_renewParts_65 ?_
          refine g_iload_n E d_CY_renewParts_68 rfl 0 rfl ?_
          refine g_ldN E gO_w 9 rfl (by omega) (by decide) d_CY_renewParts_69 ?_
          refine g_aload_n E d_CY_renewParts_70 rfl 2 rfl ?_
          refine gf_CY_39 E gO_w 0 rfl rfl d_CY_renewParts_71 ?_
          refine gf_CY_207 E gO_w 12 rfl rfl d_CY_renewParts_74 ?_
          refine g_iload_n E d_CY_renewParts_77 rfl 1 rfl ?_
          have y1 := hyo i
          refine g_ldN E gO_w 13 rfl (by omega) (by decide) d_CY_renewParts_78 ?_
          refine g_iconst (v := nI 1) E d_CY_renewParts_79 (by decide) ?_
          refine g_topi (show nI 1 = bI true from rfl) ?_
          refine gpSi (As := [.int (nI ((rnN po yo mk i) q)), .int (nI (yo i)), .int (bI true)]) (rest := [.int (nI q), .ref (ad 9)]) E gO_w (C_CY_withBit l ((rnN po yo mk i) q) (yo i) true (by omega)) (cs_CY_126 E rfl rfl ⟨Nat.le_of_ble_eq_true rfl, Nat.le_of_ble_eq_true rfl⟩) rfl rfl (Nat.le_of_ble_eq_true rfl) ⟨Nat.zero_le _, Nat.zero_le _⟩ d_CY_renewParts_80 ?_
          refine g_stN (ws' := wC V ad r1 r2 r3 nY ix bu np st sr sx tk (va_up (rnN po yo mk i) q (sB ((rnN po yo mk i) q) (yo i) true)) sh sn yw nw yo ce wo po ne cs sv mk sp rs bg dp) E 9 rfl (by omega) (by decide) rfl d_CY_renewParts_83 ?_
          refine g_iinc (lv' := [(1, .int (nI (i + 1))), (2, .int (nI q)), (0, .ref (ad 0))]) E d_CY_renewParts_84 1 rfl (nI_inc _) (by decide) rfl ?_
          refine g_goto E 13 d_CY_renewParts_87 (by decide) ?_
          refine g_lv [0, 2] rfl ?_
          refine g_ws (ws' := wC V ad r1 r2 r3 nY ix bu np st sr sx tk (rnN po yo mk (i + 1)) sh sn yw nw yo ce wo po ne cs sv mk sp rs bg dp) (by rw [rnN, hz]; try simp [h1, h3, h4]) ?_
          exact ih_13 (i + 1) (by (try dsimp only); omega) (by (try dsimp only); omega)
