set_option maxHeartbeats 4000000 in
set_option maxRecDepth 100000 in
theorem C_CY_isWithin (l : Launch) {V : gV} {w : va_W} (x a b : Int32) : mPi l y_CY_isWithin (w_CY_isWithin :: gt) rm_CY_isWithin V (w  ) [.int x, .int a, .int b] (bI (inB x a b)) := by
  refine gMet (V := V) (As := [.int x, .int a, .int b]) (cc := c_CY_isWithin) (maxL := 3) (ret := (some .boolean)) (by decide) rfl (Nat.le_of_ble_eq_true rfl) (fun a U h => ⟨h.1, h.2.2⟩) ?_
  intro p e s m below meth c E hr hlk hnm hv
  have hO := gO_r (locs1 := []) (ws := w  ) hv.2.1
  refine g_iload_n E d_CY_isWithin_0 rfl 0 rfl ?_
  refine g_iload_n E d_CY_isWithin_1 rfl 1 rfl ?_
  refine g_icmp_lt E 14 d_CY_isWithin_2 (by decide) (fun h1 => ?_) (fun h1 => ?_)
  · refine g_iconst (v := nI 0) E d_CY_isWithin_14 (by decide) ?_
    refine g_topi (x' := bI (inB x a b)) (by simp [bI, nI_0, nI_c1, inB, h1]) ?_
    exact g_zret E hr hlk d_CY_isWithin_15 (bI_01 _) (gq_i rfl)
  · refine g_iload_n E d_CY_isWithin_5 rfl 0 rfl ?_
    refine g_iload_n E d_CY_isWithin_6 rfl 2 rfl ?_
    refine g_icmp_gt E 14 d_CY_isWithin_7 (by decide) (fun h2 => ?_) (fun h2 => ?_)
    · refine g_iconst (v := nI 0) E d_CY_isWithin_14 (by decide) ?_
      refine g_topi (x' := bI (inB x a b)) (by simp [bI, nI_0, nI_c1, inB, h1, h2]) ?_
      exact g_zret E hr hlk d_CY_isWithin_15 (bI_01 _) (gq_i rfl)
    · refine g_iconst (v := nI 1) E d_CY_isWithin_10 (by decide) ?_
      refine g_goto E 15 d_CY_isWithin_11 (by decide) ?_
      refine g_topi (x' := bI (inB x a b)) (by simp [bI, nI_0, nI_c1, inB, h1, h2]) ?_
      exact g_zret E hr hlk d_CY_isWithin_15 (bI_01 _) (gq_i rfl)

set_option maxHeartbeats 4000000 in
set_option maxRecDepth 100000 in
theorem C_CY_holds (l : Launch) {V : gV} {w : va_W} (S b : Nat) (hS : S < 2 ^ 31) (hb : b < 31) : mPi l y_CY_holds (w_CY_holds :: gt) rm_CY_holds V (w  ) [.int (nI S), .int (nI b)] (bI (S.testBit b)) := by
  refine gMet (V := V) (As := [.int (nI S), .int (nI b)]) (cc := c_CY_holds) (maxL := 2) (ret := (some .boolean)) (by decide) rfl (Nat.le_of_ble_eq_true rfl) (fun a U h => ⟨h.1, h.2.2⟩) ?_
  intro p e s m below meth c E hr hlk hnm hv
  have hO := gO_r (locs1 := []) (ws := w  ) hv.2.1
  have hq : S / 2 ^ b < 2 ^ 31 := Nat.lt_of_le_of_lt (Nat.div_le_self _ _) hS
  refine g_iload_n E d_CY_holds_0 rfl 0 rfl ?_
  refine g_iload_n E d_CY_holds_1 rfl 1 rfl ?_
  refine g_ishr E d_CY_holds_2 ?_
  refine g_topi (nI_bit hS hb) ?_
  refine g_iconst (v := nI 1) E d_CY_holds_3 (by decide) ?_
  refine g_iand E d_CY_holds_4 ?_
  refine g_topi (nI_one hq) ?_
  refine g_nif_eq E 12 d_CY_holds_5 (by decide) (by omega) (fun h1 => ?_) (fun h1 => ?_)
  · refine g_iconst (v := nI 0) E d_CY_holds_12 (by decide) ?_
    refine g_topi (x' := bI (S.testBit b)) (by rw [tB]; simp [bI, nI_0, nI_c1]; omega) ?_
    exact g_zret E hr hlk d_CY_holds_13 (bI_01 _) (gq_i rfl)
  · refine g_iconst (v := nI 1) E d_CY_holds_8 (by decide) ?_
    refine g_goto E 13 d_CY_holds_9 (by decide) ?_
    refine g_topi (x' := bI (S.testBit b)) (by rw [tB]; simp [bI, nI_0, nI_c1]; omega) ?_
    exact g_zret E hr hlk d_CY_holds_13 (bI_01 _) (gq_i rfl)

set_option maxHeartbeats 4000000 in
set_option maxRecDepth 100000 in
theorem C_CY_withBit (l : Launch) {V : gV} {w : va_W} (S b : Nat) (q : Bool) (hb : b < 31) : mPi l y_CY_withBit (w_CY_withBit :: gt) rm_CY_withBit V (w  ) [.int (nI S), .int (nI b), .int (bI q)] (nI (sB S b q)) := by
  refine gMet (V := V) (As := [.int (nI S), .int (nI b), .int (bI q)]) (cc := c_CY_withBit) (maxL := 3) (ret := (some .int)) (by decide) rfl (Nat.le_of_ble_eq_true rfl) (fun a U h => ⟨h.1, h.2.2⟩) ?_
  intro p e s m below meth c E hr hlk hnm hv
  have hO := gO_r (locs1 := []) (ws := w  ) hv.2.1
  refine g_iload_n E d_CY_withBit_0 rfl 2 rfl ?_
  refine g_bif_eq E 12 d_CY_withBit_1 (by decide) (fun h1 => ?_) (fun h1 => ?_)
  · refine g_iload_n E d_CY_withBit_12 rfl 0 rfl ?_
    refine g_iconst (v := nI 1) E d_CY_withBit_13 (by decide) ?_
    refine g_iload_n E d_CY_withBit_14 rfl 1 rfl ?_
    refine g_ishl E d_CY_withBit_15 ?_
    refine g_topi (nI_pow hb) ?_
    refine g_iconst (v := oN none) E d_CY_withBit_16 (by decide) ?_
    refine g_ixor E d_CY_withBit_17 ?_
    refine g_iand E d_CY_withBit_18 ?_
    refine g_topi (nI_clr _ _) ?_
    exact g_iret E hr hlk d_CY_withBit_19 (gq_i (by simp [sB, h1]))
  · refine g_iload_n E d_CY_withBit_4 rfl 0 rfl ?_
    refine g_iconst (v := nI 1) E d_CY_withBit_5 (by decide) ?_
    refine g_iload_n E d_CY_withBit_6 rfl 1 rfl ?_
    refine g_ishl E d_CY_withBit_7 ?_
    refine g_topi (nI_pow hb) ?_
    refine g_ior E d_CY_withBit_8 ?_
    refine g_topi (nI_or _ _) ?_
    refine g_goto E 19 d_CY_withBit_9 (by decide) ?_
    exact g_iret E hr hlk d_CY_withBit_19 (gq_i (by simp [sB, h1]))
