set_option maxHeartbeats 4000000 in
set_option maxRecDepth 100000 in
theorem C_CY_isWithin (l : Launch) {V : gV} {w : va_W} (x a b : Int32) : mPi l y_CY_isWithin (w_CY_isWithin :: gt) rm_CY_isWithin V (w  ) [.int x, .int a, .int b] (bI (inB x a b)) := by
  refine gMet (V := V) (As := [.int x, .int a, .int b]) (cc := c_CY_isWithin) (maxL := 3) (ret := (some .boolean)) (by decide) rfl (Nat.le_of_ble_eq_true rfl) (fun a U h => ⟨h.1, h.2.2⟩) ?_
  intro p e s m below meth c E hr hlk hnm hv
  have hO := gO_r (locs1 := []) (ws := w  ) hv.2.1
  refine g_iload_n E d_CY_isWithin_0 rfl 0 rfl ?_
  refine g_iload_n E d_CY_isWithin_1 rfl 1 rfl ?_
  refine g_icmp_lt E 14 d_CY_isWithin_2 (by decide) (fun h1 => ?_) (fun h1 => ?_)
  · refine g_iconst (v := nI 0) E d_CY_isWithin_14 (by decide) ?_
    exact g_zret E hr hlk d_CY_isWithin_15 (Or.inl rfl) (gq_i (by simp [bI, nI_0, nI_c1, inB, h1]))
  · refine g_iload_n E d_CY_isWithin_5 rfl 0 rfl ?_
    refine g_iload_n E d_CY_isWithin_6 rfl 2 rfl ?_
    refine g_icmp_gt E 14 d_CY_isWithin_7 (by decide) (fun h2 => ?_) (fun h2 => ?_)
    · refine g_iconst (v := nI 0) E d_CY_isWithin_14 (by decide) ?_
      exact g_zret E hr hlk d_CY_isWithin_15 (Or.inl rfl) (gq_i (by simp [bI, nI_0, nI_c1, inB, h1, h2]))
    · refine g_iconst (v := nI 1) E d_CY_isWithin_10 (by decide) ?_
      refine g_goto E 15 d_CY_isWithin_11 (by decide) ?_
      exact g_zret E hr hlk d_CY_isWithin_15 (Or.inr rfl) (gq_i (by simp [bI, nI_0, nI_c1, inB, h1, h2]))

set_option maxHeartbeats 4000000 in
set_option maxRecDepth 100000 in
theorem C_CY_holds (l : Launch) {V : gV} {w : va_W} (S b : Nat) (hS : S < 2 ^ 31) (hb : b < 31) : mPi l y_CY_holds (w_CY_holds :: gt) rm_CY_holds V (w  ) [.int (nI S), .int (nI b)] (bI (S.testBit b)) := by
  refine gMet (V := V) (As := [.int (nI S), .int (nI b)]) (cc := c_CY_holds) (maxL := 2) (ret := (some .boolean)) (by decide) rfl (Nat.le_of_ble_eq_true rfl) (fun a U h => ⟨h.1, h.2.2⟩) ?_
  intro p e s m below meth c E hr hlk hnm hv
  have hO := gO_r (locs1 := []) (ws := w  ) hv.2.1
  have hq : S / 2 ^ b < 2 ^ 31 := Nat.lt_of_le_of_lt (Nat.div_le_self _ _) hS
  refine g_iload_n E d_CY_holds_0 rfl 0 rfl ?_
  refine g_iload_n E d_CY_holds_1 rfl 1 rfl ?_
  refine g_ishr E d_CY_holds_2 ?_
  refine g_topi (nI_bit hS hb) ?_
  refine g_iconst (v := nI 1) E d_CY_holds_3 (by decide) ?_
  refine g_iand E d_CY_holds_4 ?_
  refine g_topi (nI_one hq) ?_
  refine g_nif_eq E 12 d_CY_holds_5 (by decide) (by omega) (fun h1 => ?_) (fun h1 => ?_)
  · refine g_iconst (v := nI 0) E d_CY_holds_12 (by decide) ?_
    exact g_zret E hr hlk d_CY_holds_13 (Or.inl rfl) (gq_i (by rw [tB]; simp [bI, nI_0, nI_c1]; omega))
  · refine g_iconst (v := nI 1) E d_CY_holds_8 (by decide) ?_
    refine g_goto E 13 d_CY_holds_9 (by decide) ?_
    exact g_zret E hr hlk d_CY_holds_13 (Or.inr rfl) (gq_i (by rw [tB]; simp [bI, nI_0, nI_c1]; omega))

set_option maxHeartbeats 4000000 in
set_option maxRecDepth 100000 in
theorem C_CY_withBit (l : Launch) {V : gV} {w : va_W} (S b : Nat) (q : Bool) (hb : b < 31) : mPi l y_CY_withBit (w_CY_withBit :: gt) rm_CY_withBit V (w  ) [.int (nI S), .int (nI b), .int (bI q)] (nI (sB S b q)) := by
  refine gMet (V := V) (As := [.int (nI S), .int (nI b), .int (bI q)]) (cc := c_CY_withBit) (maxL := 3) (ret := (some .int)) (by decide) rfl (Nat.le_of_ble_eq_true rfl) (fun a U h => ⟨h.1, h.2.2⟩) ?_
  intro p e s m below meth c E hr hlk hnm hv
  have hO := gO_r (locs1 := []) (ws := w  ) hv.2.1
  refine g_iload_n E d_CY_withBit_0 rfl 2 rfl ?_
  refine g_bif_eq E 12 d_CY_withBit_1 (by decide) (fun h1 => ?_) (fun h1 => ?_)
  · refine g_iload_n E d_CY_withBit_12 rfl 0 rfl ?_
    refine g_iconst (v := nI 1) E d_CY_withBit_13 (by decide) ?_
    refine g_iload_n E d_CY_withBit_14 rfl 1 rfl ?_
    refine g_ishl E d_CY_withBit_15 ?_
    refine g_topi (nI_pow hb) ?_
    refine g_iconst (v := oN none) E d_CY_withBit_16 (by decide) ?_
    refine g_ixor E d_CY_withBit_17 ?_
    refine g_iand E d_CY_withBit_18 ?_
    refine g_topi (nI_clr _ _) ?_
    exact g_iret E hr hlk d_CY_withBit_19 (gq_i (by simp [sB, h1]))
  · refine g_iload_n E d_CY_withBit_4 rfl 0 rfl ?_
    refine g_iconst (v := nI 1) E d_CY_withBit_5 (by decide) ?_
    refine g_iload_n E d_CY_withBit_6 rfl 1 rfl ?_
    refine g_ishl E d_CY_withBit_7 ?_
    refine g_topi (nI_pow hb) ?_
    refine g_ior E d_CY_withBit_8 ?_
    refine g_topi (nI_or _ _) ?_
    refine g_goto E 19 d_CY_withBit_9 (by decide) ?_
    exact g_iret E hr hlk d_CY_withBit_19 (gq_i (by simp [sB, h1]))

set_option maxHeartbeats 4000000 in
set_option maxRecDepth 100000 in
theorem C_Ye_has (l : Launch) {V : gV} {ad r1 r2 r3 : Nat → Nat} {nY : Nat} {ix bu : Nat → Nat} {np : Nat} {st sr : Nat → Nat} {sx tk : Nat → Nat → Nat} {rn sh sn : Nat → Nat} {yw nw : Nat} {yo ce wo : Nat → Nat} {po ne : Nat → Option Nat} {cs : Nat → Nat} {sv : Nat → Nat → Nat} {mk : Nat} {sp rs : Nat → Int} {bg dp : Nat} (x : Int32) : mPi l y_Ye_has (w_Ye_has :: gt) rm_Ye_has V (wC V ad r1 r2 r3 nY ix bu np st sr sx tk rn sh sn yw nw yo ce wo po ne cs sv mk sp rs bg dp) [.ref (ad 1), .int x] (bI (inR x (nI nY))) := by
  refine gMet (V := V) (As := [.ref (ad 1), .int x]) (cc := c_Ye_has) (maxL := 2) (ret := (some .boolean)) (by decide) rfl (Nat.le_of_ble_eq_true rfl) (fun a U h => ⟨h.1, h.2.2⟩) ?_
  intro p e s m below meth c E hr hlk hnm hv
  have hO := gO_r (locs1 := []) (ws := wC V ad r1 r2 r3 nY ix bu np st sr sx tk rn sh sn yw nw yo ce wo po ne cs sv mk sp rs bg dp) hv.2.1
  refine g_iload_n E d_Ye_has_0 rfl 1 rfl ?_
  refine g_if_lt E 16 d_Ye_has_1 (by decide) (fun h1 => ?_) (fun h1 => ?_)
  · refine g_iconst (v := nI 0) E d_Ye_has_16 (by decide) ?_
    exact g_zret E hr hlk d_Ye_has_17 (Or.inl rfl) (gq_i (by simp [bI, nI_0, nI_c1, inR, h1]))
  · refine g_iload_n E d_Ye_has_4 rfl 1 rfl ?_
    refine g_aload_n E d_Ye_has_5 rfl 0 rfl ?_
    refine gf_Ye_16 E hO 1 rfl rfl d_Ye_has_6 ?_
    refine g_icmp_ge E 16 d_Ye_has_9 (by decide) (fun h2 => ?_) (fun h2 => ?_)
    · refine g_iconst (v := nI 0) E d_Ye_has_16 (by decide) ?_
      exact g_zret E hr hlk d_Ye_has_17 (Or.inl rfl) (gq_i (by simp [bI, nI_0, nI_c1, inR, h1, h2]))
    · refine g_iconst (v := nI 1) E d_Ye_has_12 (by decide) ?_
      refine g_goto E 17 d_Ye_has_13 (by decide) ?_
      exact g_zret E hr hlk d_Ye_has_17 (Or.inr rfl) (gq_i (by simp [bI, nI_0, nI_c1, inR, h1, h2]))

set_option maxHeartbeats 4000000 in
set_option maxRecDepth 100000 in
theorem C_Pa_has (l : Launch) {V : gV} {ad r1 r2 r3 : Nat → Nat} {nY : Nat} {ix bu : Nat → Nat} {np : Nat} {st sr : Nat → Nat} {sx tk : Nat → Nat → Nat} {rn sh sn : Nat → Nat} {yw nw : Nat} {yo ce wo : Nat → Nat} {po ne : Nat → Option Nat} {cs : Nat → Nat} {sv : Nat → Nat → Nat} {mk : Nat} {sp rs : Nat → Int} {bg dp : Nat} (x : Int32) : mPi l y_Pa_has (w_Pa_has :: gt) rm_Pa_has V (wC V ad r1 r2 r3 nY ix bu np st sr sx tk rn sh sn yw nw yo ce wo po ne cs sv mk sp rs bg dp) [.ref (ad 4), .int x] (bI (inR x (nI np))) := by
  refine gMet (V := V) (As := [.ref (ad 4), .int x]) (cc := c_Pa_has) (maxL := 2) (ret := (some .boolean)) (by decide) rfl (Nat.le_of_ble_eq_true rfl) (fun a U h => ⟨h.1, h.2.2⟩) ?_
  intro p e s m below meth c E hr hlk hnm hv
  have hO := gO_r (locs1 := []) (ws := wC V ad r1 r2 r3 nY ix bu np st sr sx tk rn sh sn yw nw yo ce wo po ne cs sv mk sp rs bg dp) hv.2.1
  refine g_iload_n E d_Pa_has_0 rfl 1 rfl ?_
  refine g_if_lt E 16 d_Pa_has_1 (by decide) (fun h1 => ?_) (fun h1 => ?_)
  · refine g_iconst (v := nI 0) E d_Pa_has_16 (by decide) ?_
    exact g_zret E hr hlk d_Pa_has_17 (Or.inl rfl) (gq_i (by simp [bI, nI_0, nI_c1, inR, h1]))
  · refine g_iload_n E d_Pa_has_4 rfl 1 rfl ?_
    refine g_aload_n E d_Pa_has_5 rfl 0 rfl ?_
    refine gf_Pa_34 E hO 4 rfl rfl d_Pa_has_6 ?_
    refine g_icmp_ge E 16 d_Pa_has_9 (by decide) (fun h2 => ?_) (fun h2 => ?_)
    · refine g_iconst (v := nI 0) E d_Pa_has_16 (by decide) ?_
      exact g_zret E hr hlk d_Pa_has_17 (Or.inl rfl) (gq_i (by simp [bI, nI_0, nI_c1, inR, h1, h2]))
    · refine g_iconst (v := nI 1) E d_Pa_has_12 (by decide) ?_
      refine g_goto E 17 d_Pa_has_13 (by decide) ?_
      exact g_zret E hr hlk d_Pa_has_17 (Or.inr rfl) (gq_i (by simp [bI, nI_0, nI_c1, inR, h1, h2]))

set_option maxHeartbeats 4000000 in
set_option maxRecDepth 100000 in
theorem C_Wo_has (l : Launch) {V : gV} {ad r1 r2 r3 : Nat → Nat} {nY : Nat} {ix bu : Nat → Nat} {np : Nat} {st sr : Nat → Nat} {sx tk : Nat → Nat → Nat} {rn sh sn : Nat → Nat} {yw nw : Nat} {yo ce wo : Nat → Nat} {po ne : Nat → Option Nat} {cs : Nat → Nat} {sv : Nat → Nat → Nat} {mk : Nat} {sp rs : Nat → Int} {bg dp : Nat} (x : Int32) : mPi l y_Wo_has (w_Wo_has :: gt) rm_Wo_has V (wC V ad r1 r2 r3 nY ix bu np st sr sx tk rn sh sn yw nw yo ce wo po ne cs sv mk sp rs bg dp) [.ref (ad 12), .int x] (bI (inR x (nI nw))) := by
  refine gMet (V := V) (As := [.ref (ad 12), .int x]) (cc := c_Wo_has) (maxL := 2) (ret := (some .boolean)) (by decide) rfl (Nat.le_of_ble_eq_true rfl) (fun a U h => ⟨h.1, h.2.2⟩) ?_
  intro p e s m below meth c E hr hlk hnm hv
  have hO := gO_r (locs1 := []) (ws := wC V ad r1 r2 r3 nY ix bu np st sr sx tk rn sh sn yw nw yo ce wo po ne cs sv mk sp rs bg dp) hv.2.1
  refine g_iload_n E d_Wo_has_0 rfl 1 rfl ?_
  refine g_if_lt E 16 d_Wo_has_1 (by decide) (fun h1 => ?_) (fun h1 => ?_)
  · refine g_iconst (v := nI 0) E d_Wo_has_16 (by decide) ?_
    exact g_zret E hr hlk d_Wo_has_17 (Or.inl rfl) (gq_i (by simp [bI, nI_0, nI_c1, inR, h1]))
  · refine g_iload_n E d_Wo_has_4 rfl 1 rfl ?_
    refine g_aload_n E d_Wo_has_5 rfl 0 rfl ?_
    refine gf_Wo_44 E hO 12 rfl rfl d_Wo_has_6 ?_
    refine g_icmp_ge E 16 d_Wo_has_9 (by decide) (fun h2 => ?_) (fun h2 => ?_)
    · refine g_iconst (v := nI 0) E d_Wo_has_16 (by decide) ?_
      exact g_zret E hr hlk d_Wo_has_17 (Or.inl rfl) (gq_i (by simp [bI, nI_0, nI_c1, inR, h1, h2]))
    · refine g_iconst (v := nI 1) E d_Wo_has_12 (by decide) ?_
      refine g_goto E 17 d_Wo_has_13 (by decide) ?_
      exact g_zret E hr hlk d_Wo_has_17 (Or.inr rfl) (gq_i (by simp [bI, nI_0, nI_c1, inR, h1, h2]))

set_option maxHeartbeats 4000000 in
set_option maxRecDepth 100000 in
theorem C_Ye_costIn (l : Launch) {V : gV} {ad r1 r2 r3 : Nat → Nat} {nY : Nat} {ix bu : Nat → Nat} {np : Nat} {st sr : Nat → Nat} {sx tk : Nat → Nat → Nat} {rn sh sn : Nat → Nat} {yw nw : Nat} {yo ce wo : Nat → Nat} {po ne : Nat → Option Nat} {cs : Nat → Nat} {sv : Nat → Nat → Nat} {mk : Nat} {sp rs : Nat → Int} {bg dp : Nat} (y k : Nat) (hy : y < 12) (hk : k < 2 ^ 31) (hi : ix y ≤ 2000) : mPi l y_Ye_costIn (w_Ye_costIn :: gt) rm_Ye_costIn V (wC V ad r1 r2 r3 nY ix bu np st sr sx tk rn sh sn yw nw yo ce wo po ne cs sv mk sp rs bg dp) [.ref (ad 1), .int (nI y), .int (nI k)] (nI (k * ix y / 1000)) := by
  refine gMet (V := V) (As := [.ref (ad 1), .int (nI y), .int (nI k)]) (cc := c_Ye_costIn) (maxL := 3) (ret := (some .int)) (by decide) rfl (Nat.le_of_ble_eq_true rfl) (fun a U h => ⟨h.1, h.2.2⟩) ?_
  intro p e s m below meth c E hr hlk hnm hv
  have hO := gO_r (locs1 := []) (ws := wC V ad r1 r2 r3 nY ix bu np st sr sx tk rn sh sn yw nw yo ce wo po ne cs sv mk sp rs bg dp) hv.2.1
  refine g_iload_n E d_Ye_costIn_0 rfl 2 rfl ?_
  refine g_i2l E d_Ye_costIn_1 ?_
  refine g_topl (nI_l (by omega)) ?_
  refine g_aload_n E d_Ye_costIn_2 rfl 0 rfl ?_
  refine gf_Ye_9 E hO 1 rfl rfl d_Ye_costIn_3 ?_
  refine g_iload_n E d_Ye_costIn_6 rfl 1 rfl ?_
  refine g_ldN E hO 2 rfl (by omega) (by decide) d_Ye_costIn_7 ?_
  refine g_i2l E d_Ye_costIn_8 ?_
  refine g_topl (nI_l (by omega)) ?_
  refine g_lmul E d_Ye_costIn_9 ?_
  refine g_topl (lN_mul _ _) ?_
  refine g_ldc2 E kk_Ye_26 d_Ye_costIn_10 ?_
  refine g_topl (show ((1000) : Int64) = lN 1000 from by decide) ?_
  refine g_ldiv E d_Ye_costIn_13 (by decide) ?_
  refine g_topl (pk_lDiv (Nat.lt_of_le_of_lt (Nat.mul_le_mul (Nat.le_of_lt hk) hi) (by decide)) (by decide) (by decide)) ?_
  refine g_l2i E d_Ye_costIn_14 ?_
  refine g_topi (lN_i _) ?_
  exact g_iret E hr hlk d_Ye_costIn_15 (gq_i (rfl))

/-- a part, and a state of it -/
def hasSt (np : Nat) (st : Nat → Nat) (x z : Int32) : Bool := inR x (nI np) && inR z (nI (st x.toNatClampNeg))

set_option maxHeartbeats 4000000 in
set_option maxRecDepth 100000 in
theorem C_Pa_hasState (l : Launch) {V : gV} {ad r1 r2 r3 : Nat → Nat} {nY : Nat} {ix bu : Nat → Nat} {np : Nat} {st sr : Nat → Nat} {sx tk : Nat → Nat → Nat} {rn sh sn : Nat → Nat} {yw nw : Nat} {yo ce wo : Nat → Nat} {po ne : Nat → Option Nat} {cs : Nat → Nat} {sv : Nat → Nat → Nat} {mk : Nat} {sp rs : Nat → Int} {bg dp : Nat} (x z : Int32) (hnp : np ≤ 12) : mPi l y_Pa_hasState (w_Pa_hasState :: gt) rm_Pa_hasState V (wC V ad r1 r2 r3 nY ix bu np st sr sx tk rn sh sn yw nw yo ce wo po ne cs sv mk sp rs bg dp) [.ref (ad 4), .int x, .int z] (bI (hasSt np st x z)) := by
  refine gMet (V := V) (As := [.ref (ad 4), .int x, .int z]) (cc := c_Pa_hasState) (maxL := 3) (ret := (some .boolean)) (by decide) rfl (Nat.le_of_ble_eq_true rfl) (fun a U h => ⟨h.1, h.2.2⟩) ?_
  intro p e s m below meth c E hr hlk hnm hv
  have hO := gO_r (locs1 := []) (ws := wC V ad r1 r2 r3 nY ix bu np st sr sx tk rn sh sn yw nw yo ce wo po ne cs sv mk sp rs bg dp) hv.2.1
  refine g_aload_n E d_Pa_hasState_0 rfl 0 rfl ?_
  refine g_iload_n E d_Pa_hasState_1 rfl 1 rfl ?_
  refine gpVi (As := [.int x]) (rest := []) E hO 4 rfl rfl (C_Pa_has l x) (cs_Pa_38 E rfl rfl ⟨Nat.le_of_ble_eq_true rfl, Nat.le_of_ble_eq_true rfl⟩) rfl rfl (Nat.le_of_ble_eq_true rfl) ⟨Nat.zero_le _, Nat.zero_le _⟩ d_Pa_hasState_2 ?_
  refine g_bif_eq E 26 d_Pa_hasState_5 (by decide) (fun h1 => ?_) (fun h1 => ?_)
  · refine g_iconst (v := nI 0) E d_Pa_hasState_26 (by decide) ?_
    exact g_zret E hr hlk d_Pa_hasState_27 (Or.inl rfl) (gq_i (by rw [hasSt, h1]; simp [bI, nI_0, nI_c1]))
  · obtain ⟨j, hj, rfl⟩ := (inR_iff (by omega)).mp h1
    have hcl : (nI j).toNatClampNeg = j := nI_clamp (by omega)
    refine g_iload_n E d_Pa_hasState_8 rfl 2 rfl ?_
    refine g_if_lt E 26 d_Pa_hasState_9 (by decide) (fun h2 => ?_) (fun h2 => ?_)
    · refine g_iconst (v := nI 0) E d_Pa_hasState_26 (by decide) ?_
      exact g_zret E hr hlk d_Pa_hasState_27 (Or.inl rfl) (gq_i (by rw [hasSt, h1, hcl]; simp [bI, nI_0, nI_c1, inR, h2]))
    · refine g_iload_n E d_Pa_hasState_12 rfl 2 rfl ?_
      refine g_aload_n E d_Pa_hasState_13 rfl 0 rfl ?_
      refine gf_Pa_9 E hO 4 rfl rfl d_Pa_hasState_14 ?_
      refine g_iload_n E d_Pa_hasState_17 rfl 1 rfl ?_
      refine g_ldN E hO 5 rfl (by omega) (by decide) d_Pa_hasState_18 ?_
      refine g_icmp_ge E 26 d_Pa_hasState_19 (by decide) (fun h3 => ?_) (fun h3 => ?_)
      · refine g_iconst (v := nI 0) E d_Pa_hasState_26 (by decide) ?_
        exact g_zret E hr hlk d_Pa_hasState_27 (Or.inl rfl) (gq_i (by rw [hasSt, h1, hcl]; simp [bI, nI_0, nI_c1, inR, h2, h3]))
      · refine g_iconst (v := nI 1) E d_Pa_hasState_22 (by decide) ?_
        refine g_goto E 27 d_Pa_hasState_23 (by decide) ?_
        exact g_zret E hr hlk d_Pa_hasState_27 (Or.inr rfl) (gq_i (by rw [hasSt, h1, hcl]; simp [bI, nI_0, nI_c1, inR, h2, h3]))

set_option maxHeartbeats 4000000 in
set_option maxRecDepth 100000 in
theorem C_Pa_going (l : Launch) {V : gV} {ad r1 r2 r3 : Nat → Nat} {nY : Nat} {ix bu : Nat → Nat} {np : Nat} {st sr : Nat → Nat} {sx tk : Nat → Nat → Nat} {rn sh sn : Nat → Nat} {yw nw : Nat} {yo ce wo : Nat → Nat} {po ne : Nat → Option Nat} {cs : Nat → Nat} {sv : Nat → Nat → Nat} {mk : Nat} {sp rs : Nat → Int} {bg dp : Nat} (i a b : Nat) (hi : i < 12) (ha : a < 4) (hb : b < 4) : mPi l y_Pa_going (w_Pa_going :: gt) rm_Pa_going V (wC V ad r1 r2 r3 nY ix bu np st sr sx tk rn sh sn yw nw yo ce wo po ne cs sv mk sp rs bg dp) [.ref (ad 4), .int (nI i), .int (nI a), .int (nI b)] (nI (sx i (a * 4 + b))) := by
  refine gMet (V := V) (As := [.ref (ad 4), .int (nI i), .int (nI a), .int (nI b)]) (cc := c_Pa_going) (maxL := 4) (ret := (some .int)) (by decide) rfl (Nat.le_of_ble_eq_true rfl) (fun a U h => ⟨h.1, h.2.2⟩) ?_
  intro p e s m below meth c E hr hlk hnm hv
  have hO := gO_r (locs1 := []) (ws := wC V ad r1 r2 r3 nY ix bu np st sr sx tk rn sh sn yw nw yo ce wo po ne cs sv mk sp rs bg dp) hv.2.1
  refine g_aload_n E d_Pa_going_0 rfl 0 rfl ?_
  refine gf_Pa_18 E hO 4 rfl rfl d_Pa_going_1 ?_
  refine g_iload_n E d_Pa_going_4 rfl 1 rfl ?_
  refine g_aaload E hO 7 rfl (by omega) (by decide) d_Pa_going_5 ?_
  refine g_iload_n E d_Pa_going_6 rfl 2 rfl ?_
  refine g_iconst (v := nI 4) E d_Pa_going_7 (by decide) ?_
  refine g_imul E d_Pa_going_8 ?_
  refine g_topi (pk_mul _ _) ?_
  refine g_iload_n E d_Pa_going_9 rfl 3 rfl ?_
  refine g_iadd E d_Pa_going_10 ?_
  refine g_topi (nI_add _ _) ?_
  refine g_ldN E hO (22 + i) (wC_g1 (by omega)) (by omega) (by decide) d_Pa_going_11 ?_
  exact g_iret E hr hlk d_Pa_going_12 (gq_i (by simp))

set_option maxHeartbeats 4000000 in
set_option maxRecDepth 100000 in
theorem C_Pa_setGoing (l : Launch) {V : gV} {ad r1 r2 r3 : Nat → Nat} {nY : Nat} {ix bu : Nat → Nat} {np : Nat} {st sr : Nat → Nat} {sx tk : Nat → Nat → Nat} {rn sh sn : Nat → Nat} {yw nw : Nat} {yo ce wo : Nat → Nat} {po ne : Nat → Option Nat} {cs : Nat → Nat} {sv : Nat → Nat → Nat} {mk : Nat} {sp rs : Nat → Int} {bg dp : Nat} (i a b v : Nat) (hi : i < 12) (ha : a < 4) (hb : b < 4) : mWv l y_Pa_setGoing (w_Pa_setGoing :: gt) rm_Pa_setGoing V (wC V ad r1 r2 r3 nY ix bu np st sr sx tk rn sh sn yw nw yo ce wo po ne cs sv mk sp rs bg dp) [.ref (ad 4), .int (nI i), .int (nI a), .int (nI b), .int (nI v)] (wC V ad r1 r2 r3 nY ix bu np st sr (mUp sx i (a * 4 + b) v) tk rn sh sn yw nw yo ce wo po ne cs sv mk sp rs bg dp) 0 0 := by
  intro sz
  refine gMet (V := V) (As := [.ref (ad 4), .int (nI i), .int (nI a), .int (nI b), .int (nI v)]) (cc := c_Pa_setGoing) (maxL := 5) (ret := none) (by decide) rfl (Nat.le_of_ble_eq_true rfl) (fun a U h => ⟨h.1, h.2.2.2.1⟩) ?_
  intro p e s m below meth c E hr hlk hnm hv
  refine g_toW (sz := sz) (w := wC V ad r1 r2 r3 nY ix bu np st sr sx tk rn sh sn yw nw yo ce wo po ne cs sv mk sp rs bg dp) hv.2.2.1 hv.2.2.2.2 ?_
  have hA0 : ∀ q : Nat, s.heap.size ≤ q → va_A (wC V ad r1 r2 r3 nY ix bu np st sr sx tk rn sh sn yw nw yo ce wo po ne cs sv mk sp rs bg dp) sz q := fun q h => Or.inr (by rw [← hv.2.1]; exact h)
  refine g_aload_n E d_Pa_setGoing_0 rfl 0 rfl ?_
  refine gf_Pa_18 E gO_w 4 rfl rfl d_Pa_setGoing_1 ?_
  refine g_iload_n E d_Pa_setGoing_4 rfl 1 rfl ?_
  refine g_aaload E gO_w 7 rfl (by omega) (by decide) d_Pa_setGoing_5 ?_
  refine g_iload_n E d_Pa_setGoing_6 rfl 2 rfl ?_
  refine g_iconst (v := nI 4) E d_Pa_setGoing_7 (by decide) ?_
  refine g_imul E d_Pa_setGoing_8 ?_
  refine g_topi (pk_mul _ _) ?_
  refine g_iload_n E d_Pa_setGoing_9 rfl 3 rfl ?_
  refine g_iadd E d_Pa_setGoing_10 ?_
  refine g_topi (nI_add _ _) ?_
  refine g_iload E d_Pa_setGoing_11 4 rfl ?_
  refine g_stN (ws' := wC V ad r1 r2 r3 nY ix bu np st sr (mUp sx i ((a * 4) + b) v) tk rn sh sn yw nw yo ce wo po ne cs sv mk sp rs bg dp) E (22 + i) (wC_g1 (by omega)) (by omega) (by decide) (wC_s1 (by omega)) d_Pa_setGoing_13 ?_
  refine g_ws (ws' := wC V ad r1 r2 r3 nY ix bu np st sr (mUp sx i (a * 4 + b) v) tk rn sh sn yw nw yo ce wo po ne cs sv mk sp rs bg dp) (rfl) ?_
  exact g_vret E hr hlk d_Pa_setGoing_14 (gq_wv (w1 := fun _ => wC V ad r1 r2 r3 nY ix bu np st sr (mUp sx i (a * 4 + b) v) tk rn sh sn yw nw yo ce wo po ne cs sv mk sp rs bg dp) () trivial)

set_option maxHeartbeats 4000000 in
set_option maxRecDepth 100000 in
theorem C_Wo_all (l : Launch) {V : gV} {ad r1 r2 r3 : Nat → Nat} {nY : Nat} {ix bu : Nat → Nat} {np : Nat} {st sr : Nat → Nat} {sx tk : Nat → Nat → Nat} {rn sh sn : Nat → Nat} {yw nw : Nat} {yo ce wo : Nat → Nat} {po ne : Nat → Option Nat} {cs : Nat → Nat} {sv : Nat → Nat → Nat} {mk : Nat} {sp rs : Nat → Int} {bg dp : Nat} (hnw : nw ≤ 10) : mPi l y_Wo_all (w_Wo_all :: gt) rm_Wo_all V (wC V ad r1 r2 r3 nY ix bu np st sr sx tk rn sh sn yw nw yo ce wo po ne cs sv mk sp rs bg dp) [.ref (ad 12)] (nI (2 ^ nw - 1)) := by
  refine gMet (V := V) (As := [.ref (ad 12)]) (cc := c_Wo_all) (maxL := 1) (ret := (some .int)) (by decide) rfl (Nat.le_of_ble_eq_true rfl) (fun a U h => ⟨h.1, h.2.2⟩) ?_
  intro p e s m below meth c E hr hlk hnm hv
  have hO := gO_r (locs1 := []) (ws := wC V ad r1 r2 r3 nY ix bu np st sr sx tk rn sh sn yw nw yo ce wo po ne cs sv mk sp rs bg dp) hv.2.1
  refine g_iconst (v := nI 1) E d_Wo_all_0 (by decide) ?_
  refine g_aload_n E d_Wo_all_1 rfl 0 rfl ?_
  refine gf_Wo_44 E hO 12 rfl rfl d_Wo_all_2 ?_
  refine g_ishl E d_Wo_all_5 ?_
  refine g_topi (nI_pow (by omega)) ?_
  refine g_iconst (v := nI 1) E d_Wo_all_6 (by decide) ?_
  refine g_isub E d_Wo_all_7 ?_
  refine g_topi (pk_sub (Nat.one_le_two_pow)) ?_
  exact g_iret E hr hlk d_Wo_all_8 (gq_i (rfl))
