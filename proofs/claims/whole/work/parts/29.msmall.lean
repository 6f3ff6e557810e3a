/-! The model's small methods. -/
def inBL (x a b : Int64) : Bool := !decide (x < a) && !decide (b < x)
theorem inBL_B (x : Int32) {a b : Nat} (ha : a < 2 ^ 31) (hb : b < 2 ^ 31) : inBL x.toInt64 (lN a) (lN b) = inB x (nI a) (nI b) := by
  unfold inBL inB
  rw [Bool.eq_iff_iff]
  simp only [Bool.and_eq_true, Bool.not_eq_true', decide_eq_false_iff_not, Int64.lt_iff_toInt_lt, Int32.lt_iff_toInt_lt, Int32.toInt_toInt64, pf_lI (show a < 2 ^ 63 by omega), pf_lI (show b < 2 ^ 63 by omega), nI_toInt ha, nI_toInt hb]
theorem inBL_N {v a b : Nat} (hv : v < 2 ^ 31) (ha : a < 2 ^ 31) (hb : b < 2 ^ 31) : inBL (lN v) (lN a) (lN b) = inB (nI v) (nI a) (nI b) := by
  rw [← nI_l hv]; exact inBL_B _ ha hb
theorem inBL_R (x : Int32) {n : Nat} (hn : n < 2 ^ 31) : inBL x.toInt64 (lN 0) (lN n - lN 1) = inR x (nI n) := by
  unfold inBL inR
  rw [Bool.eq_iff_iff, lN_lI n, lN_lI 1, lI_sub]
  simp only [Bool.and_eq_true, Bool.not_eq_true', decide_eq_false_iff_not, Int64.lt_iff_toInt_lt, Int32.lt_iff_toInt_lt, Int32.le_iff_toInt_le, Int32.toInt_toInt64, pf_lI (show 0 < 2 ^ 63 by omega), nI_toInt hn]
  rw [lI_toInt (by omega) (by omega)]
  have h0 : (0 : Int32).toInt = 0 := by decide
  rw [h0]
  omega
theorem inBL_S (x : Int32) {k : Nat} (h1 : 1 ≤ k) (hk : k < 2 ^ 31) : inBL x.toInt64 (lN 0) (lN k - lN 1) = inB x (nI 0) (nI (k - 1)) := by
  rw [lN_sub h1]; exact inBL_B x (by decide) (by omega)

set_option maxHeartbeats 4000000 in
set_option maxRecDepth 100000 in
theorem C_Mo_within (l : Launch) {V : gV} {w : va_W} (x a b : Int64) : mPi l y_Mo_within (w_Mo_within :: gt) rm_Mo_within V (w  ) [.long x, .long a, .long b] (bI (inBL x a b)) := by
  refine gMet (V := V) (As := [.long x, .long a, .long b]) (cc := c_Mo_within) (maxL := 6) (ret := (some .boolean)) (by decide) rfl (Nat.le_of_ble_eq_true rfl) (fun a U h => ⟨h.1, h.2.2⟩) ?_
  intro p e s m below meth c E hr hlk hnm hv
  have hO := gO_r (locs1 := []) (ws := w  ) hv.2.1
  refine g_lload_n E d_Mo_within_0 rfl 0 rfl ?_
  refine g_lload_n E d_Mo_within_1 rfl 1 rfl ?_
  refine g_lcmp E d_Mo_within_2 ?_
  refine g_if_lt E 17 d_Mo_within_3 (by decide) (fun h1 => ?_) (fun h1 => ?_)
  · rw [lg_lt] at h1
    refine g_iconst (v := nI 0) E d_Mo_within_17 (by decide) ?_
    exact g_zret E hr hlk d_Mo_within_18 (Or.inl rfl) (gq_i (by simp [bI, nI_0, nI_c1, inBL, h1]))
  · rw [lg_lt] at h1
    refine g_lload_n E d_Mo_within_6 rfl 0 rfl ?_
    refine g_lload E d_Mo_within_7 2 rfl ?_
    refine g_lcmp E d_Mo_within_9 ?_
    refine g_if_gt E 17 d_Mo_within_10 (by decide) (fun h2 => ?_) (fun h2 => ?_)
    · rw [lg_gt] at h2
      refine g_iconst (v := nI 0) E d_Mo_within_17 (by decide) ?_
      exact g_zret E hr hlk d_Mo_within_18 (Or.inl rfl) (gq_i (by simp [bI, nI_0, nI_c1, inBL, h1, h2]))
    · rw [lg_gt] at h2
      refine g_iconst (v := nI 1) E d_Mo_within_13 (by decide) ?_
      refine g_goto E 18 d_Mo_within_14 (by decide) ?_
      exact g_zret E hr hlk d_Mo_within_18 (Or.inr rfl) (gq_i (by simp [bI, nI_0, nI_c1, inBL, h1, h2]))

set_option maxHeartbeats 4000000 in
set_option maxRecDepth 100000 in
theorem C_Mo_thrown (l : Launch) {V : gV} {am : Nat → Nat} {th nY : Nat} {ix bu : Nat → Nat} {np : Nat} {st sr go ca : Nat → Nat} {nw : Nat} {yo ce wo : Nat → Nat} {po ne : Nat → Option Nat} {sv : Nat → Nat} {cl : Nat → Bool} {mk bg dp : Nat} {sh nx : Nat → Nat} {spn : Int}  : mPi l y_Mo_thrown (w_Mo_thrown :: gt) rm_Mo_thrown V (wM V am th nY ix bu np st sr go ca nw yo ce wo po ne sv cl mk bg dp sh nx spn) [.ref (am 0)] (nI th) := by
  refine gMet (V := V) (As := [.ref (am 0)]) (cc := c_Mo_thrown) (maxL := 1) (ret := (some .int)) (by decide) rfl (Nat.le_of_ble_eq_true rfl) (fun a U h => ⟨h.1, h.2.2⟩) ?_
  intro p e s m below meth c E hr hlk hnm hv
  have hO := gO_r (locs1 := []) (ws := wM V am th nY ix bu np st sr go ca nw yo ce wo po ne sv cl mk bg dp sh nx spn) hv.2.1
  refine g_aload_n E d_Mo_thrown_0 rfl 0 rfl ?_
  refine gf_Mo_61 E hO 0 rfl rfl d_Mo_thrown_1 ?_
  exact g_iret E hr hlk d_Mo_thrown_4 (gq_i (rfl))

set_option maxHeartbeats 4000000 in
set_option maxRecDepth 100000 in
theorem C_Mo_isYear (l : Launch) {V : gV} {am : Nat → Nat} {th nY : Nat} {ix bu : Nat → Nat} {np : Nat} {st sr go ca : Nat → Nat} {nw : Nat} {yo ce wo : Nat → Nat} {po ne : Nat → Option Nat} {sv : Nat → Nat} {cl : Nat → Bool} {mk bg dp : Nat} {sh nx : Nat → Nat} {spn : Int} (x : Int32) (hn : nY < 2 ^ 31) : mPi l y_Mo_isYear (w_Mo_isYear :: gt) rm_Mo_isYear V (wM V am th nY ix bu np st sr go ca nw yo ce wo po ne sv cl mk bg dp sh nx spn) [.ref (am 0), .int x] (bI (inR x (nI nY))) := by
  refine gMet (V := V) (As := [.ref (am 0), .int x]) (cc := c_Mo_isYear) (maxL := 2) (ret := (some .boolean)) (by decide) rfl (Nat.le_of_ble_eq_true rfl) (fun a U h => ⟨h.1, h.2.2⟩) ?_
  intro p e s m below meth c E hr hlk hnm hv
  have hO := gO_r (locs1 := []) (ws := wM V am th nY ix bu np st sr go ca nw yo ce wo po ne sv cl mk bg dp sh nx spn) hv.2.1
  refine g_iload_n E d_Mo_isYear_0 rfl 1 rfl ?_
  refine g_i2l E d_Mo_isYear_1 ?_
  refine g_lconst (v := lN 0) E d_Mo_isYear_2 (by decide) ?_
  refine g_aload_n E d_Mo_isYear_3 rfl 0 rfl ?_
  refine gf_Mo_57 E hO 0 rfl rfl d_Mo_isYear_4 ?_
  refine g_i2l E d_Mo_isYear_7 ?_
  refine g_topl (nI_l (by omega)) ?_
  refine g_lconst (v := lN 1) E d_Mo_isYear_8 (by decide) ?_
  refine g_lsub E d_Mo_isYear_9 ?_
  refine gpSi (As := [.long x.toInt64, .long (lN 0), .long ((lN nY) - (lN 1))]) (rest := []) E hO (C_Mo_within l x.toInt64 (lN 0) ((lN nY) - (lN 1))) (cs_Mo_64 E rfl rfl ⟨Nat.le_of_ble_eq_true rfl, Nat.le_of_ble_eq_true rfl⟩) rfl rfl (Nat.le_of_ble_eq_true rfl) ⟨Nat.zero_le _, Nat.zero_le _⟩ d_Mo_isYear_10 ?_
  refine g_topi (congrArg bI (inBL_R x (by omega))) ?_
  exact g_zret E hr hlk d_Mo_isYear_13 (bI_01 _) (gq_i (rfl))

set_option maxHeartbeats 4000000 in
set_option maxRecDepth 100000 in
theorem C_Mo_isPart (l : Launch) {V : gV} {am : Nat → Nat} {th nY : Nat} {ix bu : Nat → Nat} {np : Nat} {st sr go ca : Nat → Nat} {nw : Nat} {yo ce wo : Nat → Nat} {po ne : Nat → Option Nat} {sv : Nat → Nat} {cl : Nat → Bool} {mk bg dp : Nat} {sh nx : Nat → Nat} {spn : Int} (x : Int32) (hn : np < 2 ^ 31) : mPi l y_Mo_isPart (w_Mo_isPart :: gt) rm_Mo_isPart V (wM V am th nY ix bu np st sr go ca nw yo ce wo po ne sv cl mk bg dp sh nx spn) [.ref (am 0), .int x] (bI (inR x (nI np))) := by
  refine gMet (V := V) (As := [.ref (am 0), .int x]) (cc := c_Mo_isPart) (maxL := 2) (ret := (some .boolean)) (by decide) rfl (Nat.le_of_ble_eq_true rfl) (fun a U h => ⟨h.1, h.2.2⟩) ?_
  intro p e s m below meth c E hr hlk hnm hv
  have hO := gO_r (locs1 := []) (ws := wM V am th nY ix bu np st sr go ca nw yo ce wo po ne sv cl mk bg dp sh nx spn) hv.2.1
  refine g_iload_n E d_Mo_isPart_0 rfl 1 rfl ?_
  refine g_i2l E d_Mo_isPart_1 ?_
  refine g_lconst (v := lN 0) E d_Mo_isPart_2 (by decide) ?_
  refine g_aload_n E d_Mo_isPart_3 rfl 0 rfl ?_
  refine gf_Mo_68 E hO 0 rfl rfl d_Mo_isPart_4 ?_
  refine g_i2l E d_Mo_isPart_7 ?_
  refine g_topl (nI_l (by omega)) ?_
  refine g_lconst (v := lN 1) E d_Mo_isPart_8 (by decide) ?_
  refine g_lsub E d_Mo_isPart_9 ?_
  refine gpSi (As := [.long x.toInt64, .long (lN 0), .long ((lN np) - (lN 1))]) (rest := []) E hO (C_Mo_within l x.toInt64 (lN 0) ((lN np) - (lN 1))) (cs_Mo_64 E rfl rfl ⟨Nat.le_of_ble_eq_true rfl, Nat.le_of_ble_eq_true rfl⟩) rfl rfl (Nat.le_of_ble_eq_true rfl) ⟨Nat.zero_le _, Nat.zero_le _⟩ d_Mo_isPart_10 ?_
  refine g_topi (congrArg bI (inBL_R x (by omega))) ?_
  exact g_zret E hr hlk d_Mo_isPart_13 (bI_01 _) (gq_i (rfl))

set_option maxHeartbeats 4000000 in
set_option maxRecDepth 100000 in
theorem C_Mo_isWork (l : Launch) {V : gV} {am : Nat → Nat} {th nY : Nat} {ix bu : Nat → Nat} {np : Nat} {st sr go ca : Nat → Nat} {nw : Nat} {yo ce wo : Nat → Nat} {po ne : Nat → Option Nat} {sv : Nat → Nat} {cl : Nat → Bool} {mk bg dp : Nat} {sh nx : Nat → Nat} {spn : Int} (x : Int32) (hn : nw < 2 ^ 31) : mPi l y_Mo_isWork (w_Mo_isWork :: gt) rm_Mo_isWork V (wM V am th nY ix bu np st sr go ca nw yo ce wo po ne sv cl mk bg dp sh nx spn) [.ref (am 0), .int x] (bI (inR x (nI nw))) := by
  refine gMet (V := V) (As := [.ref (am 0), .int x]) (cc := c_Mo_isWork) (maxL := 2) (ret := (some .boolean)) (by decide) rfl (Nat.le_of_ble_eq_true rfl) (fun a U h => ⟨h.1, h.2.2⟩) ?_
  intro p e s m below meth c E hr hlk hnm hv
  have hO := gO_r (locs1 := []) (ws := wM V am th nY ix bu np st sr go ca nw yo ce wo po ne sv cl mk bg dp sh nx spn) hv.2.1
  refine g_iload_n E d_Mo_isWork_0 rfl 1 rfl ?_
  refine g_i2l E d_Mo_isWork_1 ?_
  refine g_lconst (v := lN 0) E d_Mo_isWork_2 (by decide) ?_
  refine g_aload_n E d_Mo_isWork_3 rfl 0 rfl ?_
  refine gf_Mo_75 E hO 0 rfl rfl d_Mo_isWork_4 ?_
  refine g_i2l E d_Mo_isWork_7 ?_
  refine g_topl (nI_l (by omega)) ?_
  refine g_lconst (v := lN 1) E d_Mo_isWork_8 (by decide) ?_
  refine g_lsub E d_Mo_isWork_9 ?_
  refine gpSi (As := [.long x.toInt64, .long (lN 0), .long ((lN nw) - (lN 1))]) (rest := []) E hO (C_Mo_within l x.toInt64 (lN 0) ((lN nw) - (lN 1))) (cs_Mo_64 E rfl rfl ⟨Nat.le_of_ble_eq_true rfl, Nat.le_of_ble_eq_true rfl⟩) rfl rfl (Nat.le_of_ble_eq_true rfl) ⟨Nat.zero_le _, Nat.zero_le _⟩ d_Mo_isWork_10 ?_
  refine g_topi (congrArg bI (inBL_R x (by omega))) ?_
  exact g_zret E hr hlk d_Mo_isWork_13 (bI_01 _) (gq_i (rfl))

set_option maxHeartbeats 4000000 in
set_option maxRecDepth 100000 in
theorem C_Mo_isState (l : Launch) {V : gV} {am : Nat → Nat} {th nY : Nat} {ix bu : Nat → Nat} {np : Nat} {st sr go ca : Nat → Nat} {nw : Nat} {yo ce wo : Nat → Nat} {po ne : Nat → Option Nat} {sv : Nat → Nat} {cl : Nat → Bool} {mk bg dp : Nat} {sh nx : Nat → Nat} {spn : Int} (x z : Int32) (hnp : np ≤ 12) (hst : ∀ i, st i ≤ 4) : mPi l y_Mo_isState (w_Mo_isState :: gt) rm_Mo_isState V (wM V am th nY ix bu np st sr go ca nw yo ce wo po ne sv cl mk bg dp sh nx spn) [.ref (am 0), .int x, .int z] (bI (hasSt np st x z)) := by
  refine gMet (V := V) (As := [.ref (am 0), .int x, .int z]) (cc := c_Mo_isState) (maxL := 3) (ret := (some .boolean)) (by decide) rfl (Nat.le_of_ble_eq_true rfl) (fun a U h => ⟨h.1, h.2.2⟩) ?_
  intro p e s m below meth c E hr hlk hnm hv
  have hO := gO_r (locs1 := []) (ws := wM V am th nY ix bu np st sr go ca nw yo ce wo po ne sv cl mk bg dp sh nx spn) hv.2.1
  refine g_aload_n E d_Mo_isState_0 rfl 0 rfl ?_
  refine g_iload_n E d_Mo_isState_1 rfl 1 rfl ?_
  refine gpVi (As := [.int x]) (rest := []) E hO 0 rfl rfl (C_Mo_isPart l x (by omega)) (cs_Mo_71 E rfl rfl ⟨Nat.le_of_ble_eq_true rfl, Nat.le_of_ble_eq_true rfl⟩) rfl rfl (Nat.le_of_ble_eq_true rfl) ⟨Nat.zero_le _, Nat.zero_le _⟩ d_Mo_isState_2 ?_
  refine g_bif_eq E 30 d_Mo_isState_5 (by decide) (fun h1 => ?_) (fun h1 => ?_)
  · refine g_iconst (v := nI 0) E d_Mo_isState_30 (by decide) ?_
    exact g_zret E hr hlk d_Mo_isState_31 (Or.inl rfl) (gq_i (by rw [hasSt, h1]; simp [bI, nI_0, nI_c1]))
  · obtain ⟨j, hj, rfl⟩ := (inR_iff (by omega)).mp h1
    have hcl : (nI j).toNatClampNeg = j := nI_clamp (by omega)
    have hs := hst j
    refine g_iload_n E d_Mo_isState_8 rfl 2 rfl ?_
    refine g_i2l E d_Mo_isState_9 ?_
    refine g_lconst (v := lN 0) E d_Mo_isState_10 (by decide) ?_
    refine g_aload_n E d_Mo_isState_11 rfl 0 rfl ?_
    refine gf_Mo_16 E hO 0 rfl rfl d_Mo_isState_12 ?_
    refine g_iload_n E d_Mo_isState_15 rfl 1 rfl ?_
    refine g_ldN E hO 3 rfl (by omega) (by decide) d_Mo_isState_16 ?_
    refine g_i2l E d_Mo_isState_17 ?_
    refine g_topl (nI_l (by omega)) ?_
    refine g_lconst (v := lN 1) E d_Mo_isState_18 (by decide) ?_
    refine g_lsub E d_Mo_isState_19 ?_
    refine gpSi (As := [.long z.toInt64, .long (lN 0), .long ((lN (st j)) - (lN 1))]) (rest := []) E hO (C_Mo_within l z.toInt64 (lN 0) ((lN (st j)) - (lN 1))) (cs_Mo_64 E rfl rfl ⟨Nat.le_of_ble_eq_true rfl, Nat.le_of_ble_eq_true rfl⟩) rfl rfl (Nat.le_of_ble_eq_true rfl) ⟨Nat.zero_le _, Nat.zero_le _⟩ d_Mo_isState_20 ?_
    refine g_topi (congrArg bI (inBL_R z (by omega))) ?_
    refine g_bif_eq E 30 d_Mo_isState_23 (by decide) (fun h2 => ?_) (fun h2 => ?_)
    · refine g_iconst (v := nI 0) E d_Mo_isState_30 (by decide) ?_
      exact g_zret E hr hlk d_Mo_isState_31 (Or.inl rfl) (gq_i (by rw [hasSt, h1, hcl]; simp [bI, nI_0, nI_c1, h2]))
    · refine g_iconst (v := nI 1) E d_Mo_isState_26 (by decide) ?_
      refine g_goto E 31 d_Mo_isState_27 (by decide) ?_
      exact g_zret E hr hlk d_Mo_isState_31 (Or.inr rfl) (gq_i (by rw [hasSt, h1, hcl]; simp [bI, nI_0, nI_c1, h2]))

/-- two works, one and another -/
def twoW (nw : Nat) (a b : Int32) : Bool := inR a (nI nw) && inR b (nI nw) && !decide (a = b)

set_option maxHeartbeats 4000000 in
set_option maxRecDepth 100000 in
theorem C_Mo_areTwo (l : Launch) {V : gV} {am : Nat → Nat} {th nY : Nat} {ix bu : Nat → Nat} {np : Nat} {st sr go ca : Nat → Nat} {nw : Nat} {yo ce wo : Nat → Nat} {po ne : Nat → Option Nat} {sv : Nat → Nat} {cl : Nat → Bool} {mk bg dp : Nat} {sh nx : Nat → Nat} {spn : Int} (a b : Int32) (hn : nw < 2 ^ 31) : mPi l y_Mo_areTwo (w_Mo_areTwo :: gt) rm_Mo_areTwo V (wM V am th nY ix bu np st sr go ca nw yo ce wo po ne sv cl mk bg dp sh nx spn) [.ref (am 0), .int a, .int b] (bI (twoW nw a b)) := by
  refine gMet (V := V) (As := [.ref (am 0), .int a, .int b]) (cc := c_Mo_areTwo) (maxL := 3) (ret := (some .boolean)) (by decide) rfl (Nat.le_of_ble_eq_true rfl) (fun a U h => ⟨h.1, h.2.2⟩) ?_
  intro p e s m below meth c E hr hlk hnm hv
  have hO := gO_r (locs1 := []) (ws := wM V am th nY ix bu np st sr go ca nw yo ce wo po ne sv cl mk bg dp sh nx spn) hv.2.1
  refine g_aload_n E d_Mo_areTwo_0 rfl 0 rfl ?_
  refine g_iload_n E d_Mo_areTwo_1 rfl 1 rfl ?_
  refine gpVi (As := [.int a]) (rest := []) E hO 0 rfl rfl (C_Mo_isWork l a (by omega)) (cs_Mo_121 E rfl rfl ⟨Nat.le_of_ble_eq_true rfl, Nat.le_of_ble_eq_true rfl⟩) rfl rfl (Nat.le_of_ble_eq_true rfl) ⟨Nat.zero_le _, Nat.zero_le _⟩ d_Mo_areTwo_2 ?_
  refine g_bif_eq E 25 d_Mo_areTwo_5 (by decide) (fun h1 => ?_) (fun h1 => ?_)
  · refine g_iconst (v := nI 0) E d_Mo_areTwo_25 (by decide) ?_
    exact g_zret E hr hlk d_Mo_areTwo_26 (Or.inl rfl) (gq_i (by simp [bI, nI_0, nI_c1, twoW, h1]))
  · refine g_aload_n E d_Mo_areTwo_8 rfl 0 rfl ?_
    refine g_iload_n E d_Mo_areTwo_9 rfl 2 rfl ?_
    refine gpVi (As := [.int b]) (rest := []) E hO 0 rfl rfl (C_Mo_isWork l b (by omega)) (cs_Mo_121 E rfl rfl ⟨Nat.le_of_ble_eq_true rfl, Nat.le_of_ble_eq_true rfl⟩) rfl rfl (Nat.le_of_ble_eq_true rfl) ⟨Nat.zero_le _, Nat.zero_le _⟩ d_Mo_areTwo_10 ?_
    refine g_bif_eq E 25 d_Mo_areTwo_13 (by decide) (fun h2 => ?_) (fun h2 => ?_)
    · refine g_iconst (v := nI 0) E d_Mo_areTwo_25 (by decide) ?_
      exact g_zret E hr hlk d_Mo_areTwo_26 (Or.inl rfl) (gq_i (by simp [bI, nI_0, nI_c1, twoW, h1, h2]))
    · refine g_iload_n E d_Mo_areTwo_16 rfl 1 rfl ?_
      refine g_iload_n E d_Mo_areTwo_17 rfl 2 rfl ?_
      refine g_icmp_eq E 25 d_Mo_areTwo_18 (by decide) (fun h3 => ?_) (fun h3 => ?_)
      · refine g_iconst (v := nI 0) E d_Mo_areTwo_25 (by decide) ?_
        exact g_zret E hr hlk d_Mo_areTwo_26 (Or.inl rfl) (gq_i (by simp [bI, nI_0, nI_c1, twoW, h1, h2, h3]))
      · refine g_iconst (v := nI 1) E d_Mo_areTwo_21 (by decide) ?_
        refine g_goto E 26 d_Mo_areTwo_22 (by decide) ?_
        exact g_zret E hr hlk d_Mo_areTwo_26 (Or.inr rfl) (gq_i (by simp [bI, nI_0, nI_c1, twoW, h1, h2, h3]))

set_option maxHeartbeats 4000000 in
set_option maxRecDepth 100000 in
theorem C_Mo_has (l : Launch) {V : gV} {w : va_W} (S b : Nat) (hS : S < 2 ^ 31) (hb : b < 31) : mPi l y_Mo_has (w_Mo_has :: gt) rm_Mo_has V (w  ) [.int (nI S), .int (nI b)] (bI (S.testBit b)) := by
  refine gMet (V := V) (As := [.int (nI S), .int (nI b)]) (cc := c_Mo_has) (maxL := 2) (ret := (some .boolean)) (by decide) rfl (Nat.le_of_ble_eq_true rfl) (fun a U h => ⟨h.1, h.2.2⟩) ?_
  intro p e s m below meth c E hr hlk hnm hv
  have hO := gO_r (locs1 := []) (ws := w  ) hv.2.1
  have hq : S / 2 ^ b < 2 ^ 31 := Nat.lt_of_le_of_lt (Nat.div_le_self _ _) hS
  refine g_iload_n E d_Mo_has_0 rfl 0 rfl ?_
  refine g_iload_n E d_Mo_has_1 rfl 1 rfl ?_
  refine g_ishr E d_Mo_has_2 ?_
  refine g_topi (nI_bit hS hb) ?_
  refine g_iconst (v := nI 1) E d_Mo_has_3 (by decide) ?_
  refine g_iand E d_Mo_has_4 ?_
  refine g_topi (nI_one hq) ?_
  refine g_iconst (v := nI 1) E d_Mo_has_5 (by decide) ?_
  refine g_ncmp_ne E 13 d_Mo_has_6 (by decide) (by omega) (by omega) (fun h1 => ?_) (fun h1 => ?_)
  · refine g_iconst (v := nI 0) E d_Mo_has_13 (by decide) ?_
    exact g_zret E hr hlk d_Mo_has_14 (Or.inl rfl) (gq_i (by rw [tB]; simp [bI, nI_0, nI_c1, h1]))
  · refine g_iconst (v := nI 1) E d_Mo_has_9 (by decide) ?_
    refine g_goto E 14 d_Mo_has_10 (by decide) ?_
    exact g_zret E hr hlk d_Mo_has_14 (Or.inr rfl) (gq_i (by rw [tB]; simp [bI, nI_0, nI_c1, h1]))

set_option maxHeartbeats 4000000 in
set_option maxRecDepth 100000 in
theorem C_Mo_refuses_0 (l : Launch) {V : gV} {am : Nat → Nat} {th nY : Nat} {ix bu : Nat → Nat} {np : Nat} {st sr go ca : Nat → Nat} {nw : Nat} {yo ce wo : Nat → Nat} {po ne : Nat → Option Nat} {sv : Nat → Nat} {cl : Nat → Bool} {mk bg dp : Nat} {sh nx : Nat → Nat} {spn : Int}  : mWi l y_Mo_refuses (w_Mo_refuses :: gt) rm_Mo_refuses V (wM V am th nY ix bu np st sr go ca nw yo ce wo po ne sv cl mk bg dp sh nx spn) [.ref (am 0), .int (nI 0)] (nI 0) (wM V am 0 nY ix bu np st sr go ca nw yo ce wo po ne sv cl mk bg dp sh nx spn) 0 0 := by
  intro sz
  refine gMet (V := V) (As := [.ref (am 0), .int (nI 0)]) (cc := c_Mo_refuses) (maxL := 2) (ret := (some .boolean)) (by decide) rfl (Nat.le_of_ble_eq_true rfl) (fun a U h => ⟨h.1, h.2.2.2.1⟩) ?_
  intro p e s m below meth c E hr hlk hnm hv
  refine g_toW (sz := sz) (w := wM V am th nY ix bu np st sr go ca nw yo ce wo po ne sv cl mk bg dp sh nx spn) hv.2.2.1 hv.2.2.2.2 ?_
  have hA0 : ∀ q : Nat, s.heap.size ≤ q → va_A (wM V am th nY ix bu np st sr go ca nw yo ce wo po ne sv cl mk bg dp sh nx spn) sz q := fun q h => Or.inr (by rw [← hv.2.1]; exact h)
  refine g_aload_n E d_Mo_refuses_0 rfl 0 rfl ?_
  refine g_iload_n E d_Mo_refuses_1 rfl 1 rfl ?_
  refine pf_Mo_61 (ws' := wM V am 0 nY ix bu np st sr go ca nw yo ce wo po ne sv cl mk bg dp sh nx spn) E 0 rfl rfl rfl (Nat.le_of_ble_eq_true rfl) rfl d_Mo_refuses_2 ?_
  refine g_iload_n E d_Mo_refuses_5 rfl 1 rfl ?_
  refine g_nif_le E 13 d_Mo_refuses_6 (by decide) (by omega) (fun h1 => ?_) (fun h1 => ?_)
  · refine g_iconst (v := nI 0) E d_Mo_refuses_13 (by decide) ?_
    exact g_zret E hr hlk d_Mo_refuses_14 (Or.inl rfl) (gq_wi (w1 := fun _ => wM V am 0 nY ix bu np st sr go ca nw yo ce wo po ne sv cl mk bg dp sh nx spn) () (rfl))
  · exact absurd h1 (by decide)

set_option maxHeartbeats 4000000 in
set_option maxRecDepth 100000 in
theorem C_Mo_refuses_1 (l : Launch) {V : gV} {am : Nat → Nat} {th nY : Nat} {ix bu : Nat → Nat} {np : Nat} {st sr go ca : Nat → Nat} {nw : Nat} {yo ce wo : Nat → Nat} {po ne : Nat → Option Nat} {sv : Nat → Nat} {cl : Nat → Bool} {mk bg dp : Nat} {sh nx : Nat → Nat} {spn : Int}  : mWi l y_Mo_refuses (w_Mo_refuses :: gt) rm_Mo_refuses V (wM V am th nY ix bu np st sr go ca nw yo ce wo po ne sv cl mk bg dp sh nx spn) [.ref (am 0), .int (nI 1)] (nI 1) (wM V am 1 nY ix bu np st sr go ca nw yo ce wo po ne sv cl mk bg dp sh nx spn) 0 0 := by
  intro sz
  refine gMet (V := V) (As := [.ref (am 0), .int (nI 1)]) (cc := c_Mo_refuses) (maxL := 2) (ret := (some .boolean)) (by decide) rfl (Nat.le_of_ble_eq_true rfl) (fun a U h => ⟨h.1, h.2.2.2.1⟩) ?_
  intro p e s m below meth c E hr hlk hnm hv
  refine g_toW (sz := sz) (w := wM V am th nY ix bu np st sr go ca nw yo ce wo po ne sv cl mk bg dp sh nx spn) hv.2.2.1 hv.2.2.2.2 ?_
  have hA0 : ∀ q : Nat, s.heap.size ≤ q → va_A (wM V am th nY ix bu np st sr go ca nw yo ce wo po ne sv cl mk bg dp sh nx spn) sz q := fun q h => Or.inr (by rw [← hv.2.1]; exact h)
  refine g_aload_n E d_Mo_refuses_0 rfl 0 rfl ?_
  refine g_iload_n E d_Mo_refuses_1 rfl 1 rfl ?_
  refine pf_Mo_61 (ws' := wM V am 1 nY ix bu np st sr go ca nw yo ce wo po ne sv cl mk bg dp sh nx spn) E 0 rfl rfl rfl (Nat.le_of_ble_eq_true rfl) rfl d_Mo_refuses_2 ?_
  refine g_iload_n E d_Mo_refuses_5 rfl 1 rfl ?_
  refine g_nif_le E 13 d_Mo_refuses_6 (by decide) (by omega) (fun h1 => ?_) (fun h1 => ?_)
  · exact absurd h1 (by decide)
  · refine g_iconst (v := nI 1) E d_Mo_refuses_9 (by decide) ?_
    refine g_goto E 14 d_Mo_refuses_10 (by decide) ?_
    exact g_zret E hr hlk d_Mo_refuses_14 (Or.inr rfl) (gq_wi (w1 := fun _ => wM V am 1 nY ix bu np st sr go ca nw yo ce wo po ne sv cl mk bg dp sh nx spn) () (rfl))

set_option maxHeartbeats 4000000 in
set_option maxRecDepth 100000 in
theorem C_Mo_refuses_2 (l : Launch) {V : gV} {am : Nat → Nat} {th nY : Nat} {ix bu : Nat → Nat} {np : Nat} {st sr go ca : Nat → Nat} {nw : Nat} {yo ce wo : Nat → Nat} {po ne : Nat → Option Nat} {sv : Nat → Nat} {cl : Nat → Bool} {mk bg dp : Nat} {sh nx : Nat → Nat} {spn : Int}  : mWi l y_Mo_refuses (w_Mo_refuses :: gt) rm_Mo_refuses V (wM V am th nY ix bu np st sr go ca nw yo ce wo po ne sv cl mk bg dp sh nx spn) [.ref (am 0), .int (nI 2)] (nI 1) (wM V am 2 nY ix bu np st sr go ca nw yo ce wo po ne sv cl mk bg dp sh nx spn) 0 0 := by
  intro sz
  refine gMet (V := V) (As := [.ref (am 0), .int (nI 2)]) (cc := c_Mo_refuses) (maxL := 2) (ret := (some .boolean)) (by decide) rfl (Nat.le_of_ble_eq_true rfl) (fun a U h => ⟨h.1, h.2.2.2.1⟩) ?_
  intro p e s m below meth c E hr hlk hnm hv
  refine g_toW (sz := sz) (w := wM V am th nY ix bu np st sr go ca nw yo ce wo po ne sv cl mk bg dp sh nx spn) hv.2.2.1 hv.2.2.2.2 ?_
  have hA0 : ∀ q : Nat, s.heap.size ≤ q → va_A (wM V am th nY ix bu np st sr go ca nw yo ce wo po ne sv cl mk bg dp sh nx spn) sz q := fun q h => Or.inr (by rw [← hv.2.1]; exact h)
  refine g_aload_n E d_Mo_refuses_0 rfl 0 rfl ?_
  refine g_iload_n E d_Mo_refuses_1 rfl 1 rfl ?_
  refine pf_Mo_61 (ws' := wM V am 2 nY ix bu np st sr go ca nw yo ce wo po ne sv cl mk bg dp sh nx spn) E 0 rfl rfl rfl (Nat.le_of_ble_eq_true rfl) rfl d_Mo_refuses_2 ?_
  refine g_iload_n E d_Mo_refuses_5 rfl 1 rfl ?_
  refine g_nif_le E 13 d_Mo_refuses_6 (by decide) (by omega) (fun h1 => ?_) (fun h1 => ?_)
  · exact absurd h1 (by decide)
  · refine g_iconst (v := nI 1) E d_Mo_refuses_9 (by decide) ?_
    refine g_goto E 14 d_Mo_refuses_10 (by decide) ?_
    exact g_zret E hr hlk d_Mo_refuses_14 (Or.inr rfl) (gq_wi (w1 := fun _ => wM V am 2 nY ix bu np st sr go ca nw yo ce wo po ne sv cl mk bg dp sh nx spn) () (rfl))

/-- what leaves state a of part p, in sixteenths -/
def lvN (go : Nat → Nat) (p a : Nat) : Nat := sumN (fun b => go (16 * p + 4 * a + b)) 4

set_option maxHeartbeats 4000000 in
set_option maxRecDepth 100000 in
theorem C_Mo_leaving (l : Launch) {V : gV} {am : Nat → Nat} {th nY : Nat} {ix bu : Nat → Nat} {np : Nat} {st sr go ca : Nat → Nat} {nw : Nat} {yo ce wo : Nat → Nat} {po ne : Nat → Option Nat} {sv : Nat → Nat} {cl : Nat → Bool} {mk bg dp : Nat} {sh nx : Nat → Nat} {spn : Int} (i a : Nat) (hi : i < 12) (ha : a < 4) : mPi l y_Mo_leaving (w_Mo_leaving :: gt) rm_Mo_leaving V (wM V am th nY ix bu np st sr go ca nw yo ce wo po ne sv cl mk bg dp sh nx spn) [.ref (am 0), .int (nI i), .int (nI a)] (nI (lvN go i a)) := by
  refine gMet (V := V) (As := [.ref (am 0), .int (nI i), .int (nI a)]) (cc := c_Mo_leaving) (maxL := 5) (ret := (some .int)) (by decide) rfl (Nat.le_of_ble_eq_true rfl) (fun a U h => ⟨h.1, h.2.2⟩) ?_
  intro p e s m below meth c E hr hlk hnm hv
  have hO := gO_r (locs1 := []) (ws := wM V am th nY ix bu np st sr go ca nw yo ce wo po ne sv cl mk bg dp sh nx spn) hv.2.1
  refine g_iconst (v := nI 0) E d_Mo_leaving_0 (by decide) ?_
  refine g_istore_n (lv' := [(3, .int (nI 0)), (0, .ref (am 0)), (1, .int (nI i)), (2, .int (nI a))]) E d_Mo_leaving_1 rfl (by decide) rfl ?_
  refine g_iconst (v := nI 0) E d_Mo_leaving_2 (by decide) ?_
  refine g_istore (lv' := [(4, .int (nI 0)), (3, .int (nI 0)), (0, .ref (am 0)), (1, .int (nI i)), (2, .int (nI a))]) E d_Mo_leaving_3 (by decide) rfl ?_
  refine g_lv [0, 1, 2, 3, 4] rfl ?_
  refine gloop (α := Nat × Nat) (fun a_ => gR s.heap []) (fun a_ => [(4, .int (nI a_.1)), (3, .int (nI a_.2)), (0, .ref (am 0)), (1, .int (nI i)), (2, .int (nI a))]) (fun a_ => a_.1 ≤ 4 ∧ a_.2 = sumN (fun b => go (16 * i + 4 * a + b)) a_.1) (fun a_ => 4 - a_.1) (0, 0) (⟨Nat.zero_le _, rfl⟩) ?_
  rintro ⟨t, acc⟩ hI_5 ih_5
  try dsimp only at hI_5 ih_5 ⊢
  refine g_iload E d_Mo_leaving_5 0 rfl ?_
  refine g_iconst (v := nI 4) E d_Mo_leaving_7 (by decide) ?_
  refine g_ncmp_ge E 36 d_Mo_leaving_8 (by decide) (by omega) (by omega) (fun h1 => ?_) (fun h1 => ?_)
  · refine g_iload_n E d_Mo_leaving_36 rfl 1 rfl ?_
    exact g_iret E hr hlk d_Mo_leaving_37 (gq_i (by rw [hI_5.2, show t = 4 by omega]; rfl))
  · refine g_iload_n E d_Mo_leaving_11 rfl 1 rfl ?_
    refine g_aload_n E d_Mo_leaving_12 rfl 2 rfl ?_
    refine gf_Mo_22 E hO 0 rfl rfl d_Mo_leaving_13 ?_
    refine g_bipush (v := nI 16) E d_Mo_leaving_16 (by decide) ?_
    refine g_iload_n E d_Mo_leaving_18 rfl 3 rfl ?_
    refine g_imul E d_Mo_leaving_19 ?_
    refine g_topi (pk_mul _ _) ?_
    refine g_iconst (v := nI 4) E d_Mo_leaving_20 (by decide) ?_
    refine g_iload_n E d_Mo_leaving_21 rfl 4 rfl ?_
    refine g_imul E d_Mo_leaving_22 ?_
    refine g_topi (pk_mul _ _) ?_
    refine g_iadd E d_Mo_leaving_23 ?_
    refine g_topi (nI_add _ _) ?_
    refine g_iload E d_Mo_leaving_24 0 rfl ?_
    refine g_iadd E d_Mo_leaving_26 ?_
    refine g_topi (nI_add _ _) ?_
    refine g_ldN E hO 5 rfl (by omega) (by decide) d_Mo_leaving_27 ?_
    refine g_iadd E d_Mo_leaving_28 ?_
    refine g_topi (nI_add _ _) ?_
    refine g_istore_n (lv' := [(3, .int (nI (acc + (go (((16 * i) + (4 * a)) + t))))), (4, .int (nI t)), (0, .ref (am 0)), (1, .int (nI i)), (2, .int (nI a))]) E d_Mo_leaving_29 rfl (by decide) rfl ?_
    refine g_iinc (lv' := [(4, .int (nI (t + 1))), (3, .int (nI (acc + (go (((16 * i) + (4 * a)) + t))))), (0, .ref (am 0)), (1, .int (nI i)), (2, .int (nI a))]) E d_Mo_leaving_30 1 rfl (nI_inc _) (by decide) rfl ?_
    refine g_goto E 5 d_Mo_leaving_33 (by decide) ?_
    refine g_lv [0, 1, 2, 3, 4] rfl ?_
    exact ih_5 (t + 1, acc + (go (((16 * i) + (4 * a)) + t))) (⟨by (try dsimp only); omega, by (try dsimp only); rw [hI_5.2]; rfl⟩) (by (try dsimp only); omega)

/-- the last year up to y in which a chosen work of the first n renews part p; 0 -/
def bgN (po : Nat → Option Nat) (yo : Nat → Nat) (mk p y : Nat) : Nat → Nat
  | 0 => 0
  | w + 1 => if mk.testBit w && decide (po w = some p) && decide (yo w ≤ y) && decide (bgN po yo mk p y w < yo w) then yo w else bgN po yo mk p y w
theorem bgN_le {po : Nat → Option Nat} {yo : Nat → Nat} {mk p y : Nat} : ∀ n, bgN po yo mk p y n ≤ y
  | 0 => Nat.zero_le _
  | n + 1 => by
    have := bgN_le (po := po) (yo := yo) (mk := mk) (p := p) (y := y) n
    unfold bgN
    split
    · rename_i h
      simp only [Bool.and_eq_true, decide_eq_true_eq] at h
      exact h.1.2
    · exact this

set_option maxHeartbeats 4000000 in
set_option maxRecDepth 100000 in
theorem C_Mo_begins (l : Launch) {V : gV} {am : Nat → Nat} {th nY : Nat} {ix bu : Nat → Nat} {np : Nat} {st sr go ca : Nat → Nat} {nw : Nat} {yo ce wo : Nat → Nat} {po ne : Nat → Option Nat} {sv : Nat → Nat} {cl : Nat → Bool} {mk bg dp : Nat} {sh nx : Nat → Nat} {spn : Int} (i y : Nat) (hi : i < 12) (hy : y < 12) (hnw : nw ≤ 10) (hmk : mk < 1024) (hyo : ∀ w, yo w < 12) (hpo : ∀ w q, po w = some q → q < 12) : mPi l y_Mo_begins (w_Mo_begins :: gt) rm_Mo_begins V (wM V am th nY ix bu np st sr go ca nw yo ce wo po ne sv cl mk bg dp sh nx spn) [.ref (am 0), .int (nI i), .int (nI y)] (nI (bgN po yo mk i y nw)) := by
  refine gMet (V := V) (As := [.ref (am 0), .int (nI i), .int (nI y)]) (cc := c_Mo_begins) (maxL := 6) (ret := (some .int)) (by decide) rfl (Nat.le_of_ble_eq_true rfl) (fun a U h => ⟨h.1, h.2.2⟩) ?_
  intro p e s m below meth c E hr hlk hnm hv
  have hO := gO_r (locs1 := []) (ws := wM V am th nY ix bu np st sr go ca nw yo ce wo po ne sv cl mk bg dp sh nx spn) hv.2.1
  refine g_iconst (v := nI 0) E d_Mo_begins_0 (by decide) ?_
  refine g_istore_n (lv' := [(3, .int (nI 0)), (0, .ref (am 0)), (1, .int (nI i)), (2, .int (nI y))]) E d_Mo_begins_1 rfl (by decide) rfl ?_
  refine g_iconst (v := nI 0) E d_Mo_begins_2 (by decide) ?_
  refine g_istore (lv' := [(4, .int (nI 0)), (3, .int (nI 0)), (0, .ref (am 0)), (1, .int (nI i)), (2, .int (nI y))]) E d_Mo_begins_3 (by decide) rfl ?_
  refine g_lv [0, 1, 2, 3, 4] rfl ?_
  refine gloop (α := Nat × Nat) (fun a_ => gR s.heap []) (fun a_ => [(4, .int (nI a_.1)), (3, .int (nI a_.2)), (0, .ref (am 0)), (1, .int (nI i)), (2, .int (nI y))]) (fun a_ => a_.1 ≤ nw ∧ a_.2 = bgN po yo mk i y a_.1 ∧ a_.2 ≤ y) (fun a_ => nw - a_.1) (0, 0) (⟨Nat.zero_le _, rfl, Nat.zero_le _⟩) ?_
  rintro ⟨t, bb⟩ hI_5 ih_5
  try dsimp only at hI_5 ih_5 ⊢
  refine g_iload E d_Mo_begins_5 0 rfl ?_
  refine g_aload_n E d_Mo_begins_7 rfl 2 rfl ?_
  refine gf_Mo_75 E hO 0 rfl rfl d_Mo_begins_8 ?_
  refine g_ncmp_ge E 90 d_Mo_begins_11 (by decide) (by omega) (by omega) (fun h1 => ?_) (fun h1 => ?_)
  · refine g_iload_n E d_Mo_begins_90 rfl 1 rfl ?_
    exact g_iret E hr hlk d_Mo_begins_91 (gq_i (by rw [hI_5.2.1, show t = nw by omega]))
  · have y1 := hyo t
    refine g_aload_n E d_Mo_begins_14 rfl 2 rfl ?_
    refine gf_Mo_106 E hO 0 rfl rfl d_Mo_begins_15 ?_
    refine g_iload E d_Mo_begins_18 0 rfl ?_
    refine g_ishr E d_Mo_begins_20 ?_
    refine g_topi (nI_bit (by omega) (by omega)) ?_
    refine g_iconst (v := nI 1) E d_Mo_begins_21 (by decide) ?_
    refine g_iand E d_Mo_begins_22 ?_
    refine g_topi (nI_one (Nat.lt_of_le_of_lt (Nat.div_le_self _ _) (by omega))) ?_
    refine g_iconst (v := nI 1) E d_Mo_begins_23 (by decide) ?_
    refine g_ncmp_ne E 53 d_Mo_begins_24 (by decide) (by omega) (by omega) (fun h2 => ?_) (fun h2 => ?_)
    · refine g_iconst (v := nI 0) E d_Mo_begins_53 (by decide) ?_
      refine g_istore (lv' := [(5, .int (nI 0)), (4, .int (nI t)), (3, .int (nI bb)), (0, .ref (am 0)), (1, .int (nI i)), (2, .int (nI y))]) E d_Mo_begins_54 (by decide) rfl ?_
      refine g_iload E d_Mo_begins_56 0 rfl ?_
      refine g_nif_eq E 82 d_Mo_begins_58 (by decide) (by decide) (fun _ => ?_) (fun h3 => absurd h3 (by decide))
      refine g_iload_n E d_Mo_begins_82 rfl 2 rfl ?_
      refine g_istore_n (lv' := [(3, .int (nI bb)), (5, .int (nI 0)), (4, .int (nI t)), (0, .ref (am 0)), (1, .int (nI i)), (2, .int (nI y))]) E d_Mo_begins_83 rfl (by decide) rfl ?_
      refine g_iinc (lv' := [(4, .int (nI (t + 1))), (3, .int (nI bb)), (5, .int (nI 0)), (0, .ref (am 0)), (1, .int (nI i)), (2, .int (nI y))]) E d_Mo_begins_84 2 rfl (nI_inc _) (by decide) rfl ?_
      refine g_goto E 5 d_Mo_begins_87 (by decide) ?_
      refine g_lv [0, 1, 3, 4, 5] rfl ?_
      exact ih_5 (t + 1, bb) (⟨by (try dsimp only); omega, by (try dsimp only); rw [bgN, ← hI_5.2.1]; simp [tB, h2]; try omega, by (try dsimp only); omega⟩) (by (try dsimp only); omega)
    · refine g_aload_n E d_Mo_begins_27 rfl 2 rfl ?_
      refine gf_Mo_37 E hO 0 rfl rfl d_Mo_begins_28 ?_
      refine g_iload E d_Mo_begins_31 0 rfl ?_
      refine g_ldO E hO 10 rfl (by omega) (by decide) d_Mo_begins_33 ?_
      rcases hz : po t with _ | q
      · have _ := hz
        refine g_iload_n E d_Mo_begins_34 rfl 3 rfl ?_
        refine g_icmp_ne E 53 d_Mo_begins_35 (by decide) (fun h4 => ?_) (fun h4 => ?_)
        · refine g_iconst (v := nI 0) E d_Mo_begins_53 (by decide) ?_
          refine g_istore (lv' := [(5, .int (nI 0)), (4, .int (nI t)), (3, .int (nI bb)), (0, .ref (am 0)), (1, .int (nI i)), (2, .int (nI y))]) E d_Mo_begins_54 (by decide) rfl ?_
          refine g_iload E d_Mo_begins_56 0 rfl ?_
          refine g_nif_eq E 82 d_Mo_begins_58 (by decide) (by decide) (fun _ => ?_) (fun h5 => absurd h5 (by decide))
          refine g_iload_n E d_Mo_begins_82 rfl 2 rfl ?_
          refine g_istore_n (lv' := [(3, .int (nI bb)), (5, .int (nI 0)), (4, .int (nI t)), (0, .ref (am 0)), (1, .int (nI i)), (2, .int (nI y))]) E d_Mo_begins_83 rfl (by decide) rfl ?_
          refine g_iinc (lv' := [(4, .int (nI (t + 1))), (3, .int (nI bb)), (5, .int (nI 0)), (0, .ref (am 0)), (1, .int (nI i)), (2, .int (nI y))]) E d_Mo_begins_84 2 rfl (nI_inc _) (by decide) rfl ?_
          refine g_goto E 5 d_Mo_begins_87 (by decide) ?_
          refine g_lv [0, 1, 3, 4, 5] rfl ?_
          exact ih_5 (t + 1, bb) (⟨by (try dsimp only); omega, by (try dsimp only); rw [bgN, ← hI_5.2.1]; simp [tB, h2, hz, h4]; try omega, by (try dsimp only); omega⟩) (by (try dsimp only); omega)
        · exact absurd h4.symm (by intro z; have := congrArg Int32.toInt z; rw [nI_toInt (by omega)] at this; have h2 : (oN none).toInt = -1 := (by decide); omega)
      · have hq := hpo t q hz
        refine g_topi (show oN (some q) = nI q from rfl) ?_
        refine g_iload_n E d_Mo_begins_34 rfl 3 rfl ?_
        refine g_ncmp_ne E 53 d_Mo_begins_35 (by decide) (by omega) (by omega) (fun h6 => ?_) (fun h6 => ?_)
        · refine g_iconst (v := nI 0) E d_Mo_begins_53 (by decide) ?_
          refine g_istore (lv' := [(5, .int (nI 0)), (4, .int (nI t)), (3, .int (nI bb)), (0, .ref (am 0)), (1, .int (nI i)), (2, .int (nI y))]) E d_Mo_begins_54 (by decide) rfl ?_
          refine g_iload E d_Mo_begins_56 0 rfl ?_
          refine g_nif_eq E 82 d_Mo_begins_58 (by decide) (by decide) (fun _ => ?_) (fun h7 => absurd h7 (by decide))
          refine g_iload_n E d_Mo_begins_82 rfl 2 rfl ?_
          refine g_istore_n (lv' := [(3, .int (nI bb)), (5, .int (nI 0)), (4, .int (nI t)), (0, .ref (am 0)), (1, .int (nI i)), (2, .int (nI y))]) E d_Mo_begins_83 rfl (by decide) rfl ?_
          refine g_iinc (lv' := [(4, .int (nI (t + 1))), (3, .int (nI bb)), (5, .int (nI 0)), (0, .ref (am 0)), (1, .int (nI i)), (2, .int (nI y))]) E d_Mo_begins_84 2 rfl (nI_inc _) (by decide) rfl ?_
          refine g_goto E 5 d_Mo_begins_87 (by decide) ?_
          refine g_lv [0, 1, 3, 4, 5] rfl ?_
          exact ih_5 (t + 1, bb) (⟨by (try dsimp only); omega, by (try dsimp only); rw [bgN, ← hI_5.2.1]; simp [tB, h2, hz, h6]; try omega, by (try dsimp only); omega⟩) (by (try dsimp only); omega)
        · refine g_aload_n E d_Mo_begins_38 rfl 2 rfl ?_
          refine gf_Mo_28 E hO 0 rfl rfl d_Mo_begins_39 ?_
          refine g_iload E d_Mo_begins_42 0 rfl ?_
          refine g_ldN E hO 7 rfl (by omega) (by decide) d_Mo_begins_44 ?_
          refine g_iload_n E d_Mo_begins_45 rfl 4 rfl ?_
          refine g_ncmp_gt E 53 d_Mo_begins_46 (by decide) (by omega) (by omega) (fun h8 => ?_) (fun h8 => ?_)
          · refine g_iconst (v := nI 0) E d_Mo_begins_53 (by decide) ?_
            refine g_istore (lv' := [(5, .int (nI 0)), (4, .int (nI t)), (3, .int (nI bb)), (0, .ref (am 0)), (1, .int (nI i)), (2, .int (nI y))]) E d_Mo_begins_54 (by decide) rfl ?_
            refine g_iload E d_Mo_begins_56 0 rfl ?_
            refine g_nif_eq E 82 d_Mo_begins_58 (by decide) (by decide) (fun _ => ?_) (fun h9 => absurd h9 (by decide))
            refine g_iload_n E d_Mo_begins_82 rfl 2 rfl ?_
            refine g_istore_n (lv' := [(3, .int (nI bb)), (5, .int (nI 0)), (4, .int (nI t)), (0, .ref (am 0)), (1, .int (nI i)), (2, .int (nI y))]) E d_Mo_begins_83 rfl (by decide) rfl ?_
            refine g_iinc (lv' := [(4, .int (nI (t + 1))), (3, .int (nI bb)), (5, .int (nI 0)), (0, .ref (am 0)), (1, .int (nI i)), (2, .int (nI y))]) E d_Mo_begins_84 2 rfl (nI_inc _) (by decide) rfl ?_
            refine g_goto E 5 d_Mo_begins_87 (by decide) ?_
            refine g_lv [0, 1, 3, 4, 5] rfl ?_
            exact ih_5 (t + 1, bb) (⟨by (try dsimp only); omega, by (try dsimp only); rw [bgN, ← hI_5.2.1]; simp [tB, h2, hz, h6, h8]; try omega, by (try dsimp only); omega⟩) (by (try dsimp only); omega)
          · refine g_iconst (v := nI 1) E d_Mo_begins_49 (by decide) ?_
            refine g_goto E 54 d_Mo_begins_50 (by decide) ?_
            refine g_istore (lv' := [(5, .int (nI 1)), (4, .int (nI t)), (3, .int (nI bb)), (0, .ref (am 0)), (1, .int (nI i)), (2, .int (nI y))]) E d_Mo_begins_54 (by decide) rfl ?_
            refine g_iload E d_Mo_begins_56 0 rfl ?_
            refine g_nif_eq E 82 d_Mo_begins_58 (by decide) (by decide) (fun h10 => absurd h10 (by decide)) (fun _ => ?_)
            refine g_aload_n E d_Mo_begins_61 rfl 3 rfl ?_
            refine gf_Mo_28 E hO 0 rfl rfl d_Mo_begins_62 ?_
            refine g_iload E d_Mo_begins_65 1 rfl ?_
            refine g_ldN E hO 7 rfl (by omega) (by decide) d_Mo_begins_67 ?_
            refine g_iload_n E d_Mo_begins_68 rfl 2 rfl ?_
            refine g_ncmp_le E 82 d_Mo_begins_69 (by decide) (by omega) (by omega) (fun h11 => ?_) (fun h11 => ?_)
            · refine g_iload_n E d_Mo_begins_82 rfl 2 rfl ?_
              refine g_istore_n (lv' := [(3, .int (nI bb)), (5, .int (nI 1)), (4, .int (nI t)), (0, .ref (am 0)), (1, .int (nI i)), (2, .int (nI y))]) E d_Mo_begins_83 rfl (by decide) rfl ?_
              refine g_iinc (lv' := [(4, .int (nI (t + 1))), (3, .int (nI bb)), (5, .int (nI 1)), (0, .ref (am 0)), (1, .int (nI i)), (2, .int (nI y))]) E d_Mo_begins_84 2 rfl (nI_inc _) (by decide) rfl ?_
              refine g_goto E 5 d_Mo_begins_87 (by decide) ?_
              refine g_lv [0, 1, 3, 4, 5] rfl ?_
              exact ih_5 (t + 1, bb) (⟨by (try dsimp only); omega, by (try dsimp only); rw [bgN, ← hI_5.2.1]; simp [tB, h2, hz, h6, h8, h11]; try omega, by (try dsimp only); omega⟩) (by (try dsimp only); omega)
            · refine g_aload_n E d_Mo_begins_72 rfl 3 rfl ?_
              refine gf_Mo_28 E hO 0 rfl rfl d_Mo_begins_73 ?_
              refine g_iload E d_Mo_begins_76 1 rfl ?_
              refine g_ldN E hO 7 rfl (by omega) (by decide) d_Mo_begins_78 ?_
              refine g_goto E 83 d_Mo_begins_79 (by decide) ?_
              refine g_istore_n (lv' := [(3, .int (nI (yo t))), (5, .int (nI 1)), (4, .int (nI t)), (0, .ref (am 0)), (1, .int (nI i)), (2, .int (nI y))]) E d_Mo_begins_83 rfl (by decide) rfl ?_
              refine g_iinc (lv' := [(4, .int (nI (t + 1))), (3, .int (nI (yo t))), (5, .int (nI 1)), (0, .ref (am 0)), (1, .int (nI i)), (2, .int (nI y))]) E d_Mo_begins_84 2 rfl (nI_inc _) (by decide) rfl ?_
              refine g_goto E 5 d_Mo_begins_87 (by decide) ?_
              refine g_lv [0, 1, 3, 4, 5] rfl ?_
              exact ih_5 (t + 1, yo t) (⟨by (try dsimp only); omega, by (try dsimp only); rw [bgN, ← hI_5.2.1]; simp [tB, h2, hz, h6, h8, h11]; try omega, by (try dsimp only); omega⟩) (by (try dsimp only); omega)
