theorem inR_y {j n : Nat} (h : j < n) (hn : n < 2 ^ 31) : inR (nI j) (nI n) = true := (inR_iff hn).mpr ⟨j, h, rfl⟩
theorem inB_y {a v b : Nat} (h1 : a ≤ v) (h2 : v ≤ b) (hb : b < 2 ^ 31) : inB (nI v) (nI a) (nI b) = true := by
  simp only [inB, Bool.and_eq_true, Bool.not_eq_true', decide_eq_false_iff_not]
  rw [nI_ltI (by omega) (by omega), nI_ltI (by omega) (by omega)]; omega
theorem hasSt_y {np : Nat} {st : Nat → Nat} {i a : Nat} (h1 : i < np) (h2 : np ≤ 12) (h3 : a < st i) (h4 : st i ≤ 4) : hasSt np st (nI i) (nI a) = true := by
  rw [hasSt, inR_y h1 (by omega), show (nI i).toNatClampNeg = i from nI_clamp (by omega), inR_y h3 (by omega)]; rfl

set_option maxHeartbeats 4000000 in
set_option maxRecDepth 100000 in
theorem C_CY_refuseUnless (l : Launch) {V : gV} {w : va_W}  : mPv l y_CY_refuseUnless (w_CY_refuseUnless :: gt) rm_CY_refuseUnless V (w  ) [.int (nI 1)] := by
  refine gMet (V := V) (As := [.int (nI 1)]) (cc := c_CY_refuseUnless) (maxL := 1) (ret := none) (by decide) rfl (Nat.le_of_ble_eq_true rfl) (fun a U h => ⟨h.1, h.2.2⟩) ?_
  intro p e s m below meth c E hr hlk hnm hv
  have hO := gO_r (locs1 := []) (ws := w  ) hv.2.1
  refine g_iload_n E d_CY_refuseUnless_0 rfl 0 rfl ?_
  refine g_nif_ne E 14 d_CY_refuseUnless_1 (by decide) (by decide) (fun _ => ?_) (fun h1 => absurd h1 (by decide))
  exact g_vret E hr hlk d_CY_refuseUnless_14 (gq_v trivial)

set_option maxHeartbeats 4000000 in
set_option maxRecDepth 100000 in
theorem C_CY_refuseIfFull (l : Launch) {V : gV} {w : va_W}  : mPv l y_CY_refuseIfFull (w_CY_refuseIfFull :: gt) rm_CY_refuseIfFull V (w  ) [.int (nI 0)] := by
  refine gMet (V := V) (As := [.int (nI 0)]) (cc := c_CY_refuseIfFull) (maxL := 1) (ret := none) (by decide) rfl (Nat.le_of_ble_eq_true rfl) (fun a U h => ⟨h.1, h.2.2⟩) ?_
  intro p e s m below meth c E hr hlk hnm hv
  have hO := gO_r (locs1 := []) (ws := w  ) hv.2.1
  refine g_iload_n E d_CY_refuseIfFull_0 rfl 0 rfl ?_
  refine g_nif_eq E 14 d_CY_refuseIfFull_1 (by decide) (by decide) (fun _ => ?_) (fun h1 => absurd h1 (by decide))
  exact g_vret E hr hlk d_CY_refuseIfFull_14 (gq_v trivial)

set_option maxHeartbeats 4000000 in
set_option maxRecDepth 100000 in
theorem X_CY_refuseUnless (l : Launch) (hf : l.flags = flags0) {V : gV} {w : va_W} : mX l y_CY_refuseUnless (w_CY_refuseUnless :: gt) { frames := 6, cells := 1, slots := 6, locals := 100 } V w [.int (nI 0)] nIAE := by
  refine gMetX (V := V) (As := [.int (nI 0)]) (cc := c_CY_refuseUnless) (maxL := 1) (ret := none) (by decide) rfl (Nat.le_of_ble_eq_true rfl) (fun a U h => ⟨h.1, h.2.2.1⟩) ?_
  intro p e s m below meth c E hadm hne hlk hv
  refine g_iload_n E d_CY_refuseUnless_0 rfl 0 rfl ?_
  refine g_nif_ne E 14 d_CY_refuseUnless_1 (by decide) (by decide) (fun h => absurd h (by decide)) (fun _ => ?_)
  obtain ⟨q, hq⟩ := hv.2.2.2.2.1
  exact g_raise E (Launch.traces_off hf hadm) hne hlk hv.2.2.2 (by decide +kernel) kt_CY_183 (by simp [xl]) (fun a ha => by simp only [xl, List.mem_append]; exact Or.inl (Or.inl ha)) hq d_CY_refuseUnless_4 d_CY_refuseUnless_7 d_CY_refuseUnless_8 d_CY_refuseUnless_10 d_CY_refuseUnless_13 ⟨by decide, by decide, by decide, by decide⟩

set_option maxHeartbeats 4000000 in
set_option maxRecDepth 100000 in
theorem X_CY_refuseIfFull (l : Launch) (hf : l.flags = flags0) {V : gV} {w : va_W} : mX l y_CY_refuseIfFull (w_CY_refuseIfFull :: gt) { frames := 6, cells := 1, slots := 6, locals := 100 } V w [.int (nI 1)] nISE := by
  refine gMetX (V := V) (As := [.int (nI 1)]) (cc := c_CY_refuseIfFull) (maxL := 1) (ret := none) (by decide) rfl (Nat.le_of_ble_eq_true rfl) (fun a U h => ⟨h.1, h.2.2.1⟩) ?_
  intro p e s m below meth c E hadm hne hlk hv
  refine g_iload_n E d_CY_refuseIfFull_0 rfl 0 rfl ?_
  refine g_nif_eq E 14 d_CY_refuseIfFull_1 (by decide) (by decide) (fun h => absurd h (by decide)) (fun _ => ?_)
  obtain ⟨q, hq⟩ := hv.2.2.2.2.2
  exact g_raise E (Launch.traces_off hf hadm) hne hlk hv.2.2.2 (by decide +kernel) kt_CY_190 (by simp [xl]) (fun a ha => by simp only [xl, List.mem_append]; exact Or.inl (Or.inr ha)) hq d_CY_refuseIfFull_4 d_CY_refuseIfFull_7 d_CY_refuseIfFull_8 d_CY_refuseIfFull_10 d_CY_refuseIfFull_13 ⟨by decide, by decide, by decide, by decide⟩

set_option maxHeartbeats 4000000 in
set_option maxRecDepth 100000 in
theorem C_CY_index (l : Launch) {V : gV} {ad r1 r2 r3 : Nat → Nat} {nY : Nat} {ix bu : Nat → Nat} {np : Nat} {st sr : Nat → Nat} {sx tk : Nat → Nat → Nat} {rn sh sn : Nat → Nat} {yw nw : Nat} {yo ce wo : Nat → Nat} {po ne : Nat → Option Nat} {cs : Nat → Nat} {sv : Nat → Nat → Nat} {mk : Nat} {sp rs : Nat → Int} {bg dp : Nat} (y v : Nat) (hy : y < nY) (hY : nY ≤ 12) (h1 : 500 ≤ v) (h2 : v ≤ 2000) : mWi l y_CY_index (w_CY_index :: gt) rm_CY_index V (wC V ad r1 r2 r3 nY ix bu np st sr sx tk rn sh sn yw nw yo ce wo po ne cs sv mk sp rs bg dp) [.ref (ad 0), .int (nI y), .int (nI v)] (nI (ix y)) (wC V ad r1 r2 r3 nY (va_up ix y v) bu np st sr sx tk rn sh sn yw nw yo ce wo po ne cs sv mk sp rs bg dp) 0 0 := by
  intro sz
  refine gMet (V := V) (As := [.ref (ad 0), .int (nI y), .int (nI v)]) (cc := c_CY_index) (maxL := 4) (ret := (some .int)) (by decide) rfl (Nat.le_of_ble_eq_true rfl) (fun a U h => ⟨h.1, h.2.2.2.1⟩) ?_
  intro p e s m below meth c E hr hlk hnm hv
  refine g_toW (sz := sz) (w := wC V ad r1 r2 r3 nY ix bu np st sr sx tk rn sh sn yw nw yo ce wo po ne cs sv mk sp rs bg dp) hv.2.2.1 hv.2.2.2.2 ?_
  have hA0 : ∀ q : Nat, s.heap.size ≤ q → va_A (wC V ad r1 r2 r3 nY ix bu np st sr sx tk rn sh sn yw nw yo ce wo po ne cs sv mk sp rs bg dp) sz q := fun q h => Or.inr (by rw [← hv.2.1]; exact h)
  refine g_aload_n E d_CY_index_0 rfl 0 rfl ?_
  refine gf_CY_21 E gO_w 0 rfl rfl d_CY_index_1 ?_
  refine g_iload_n E d_CY_index_4 rfl 1 rfl ?_
  refine gpVi (As := [.int (nI y)]) (rest := []) E gO_w 1 rfl rfl (C_Ye_has l (nI y)) (cs_CY_47 E rfl rfl ⟨Nat.le_of_ble_eq_true rfl, Nat.le_of_ble_eq_true rfl⟩) rfl rfl (Nat.le_of_ble_eq_true rfl) ⟨Nat.zero_le _, Nat.zero_le _⟩ d_CY_index_5 ?_
  refine g_topi (show bI _ = nI 1 from by rw [inR_y (by omega) (by omega)]; rfl) ?_
  refine g_nif_eq E 28 d_CY_index_8 (by decide) (by decide) (fun h1 => absurd h1 (by decide)) (fun _ => ?_)
  refine g_iload_n E d_CY_index_11 rfl 2 rfl ?_
  refine g_sipush (v := nI 500) E d_CY_index_12 (by decide) ?_
  refine g_sipush (v := nI 2000) E d_CY_index_15 (by decide) ?_
  refine gpSi (As := [.int (nI v), .int (nI 500), .int (nI 2000)]) (rest := []) E gO_w (C_CY_isWithin l (nI v) (nI 500) (nI 2000)) (cs_CY_51 E rfl rfl ⟨Nat.le_of_ble_eq_true rfl, Nat.le_of_ble_eq_true rfl⟩) rfl rfl (Nat.le_of_ble_eq_true rfl) ⟨Nat.zero_le _, Nat.zero_le _⟩ d_CY_index_18 ?_
  refine g_topi (show bI _ = nI 1 from by rw [inB_y (by omega) (by omega) (by omega)]; rfl) ?_
  refine g_nif_eq E 28 d_CY_index_21 (by decide) (by decide) (fun h2 => absurd h2 (by decide)) (fun _ => ?_)
  refine g_iconst (v := nI 1) E d_CY_index_24 (by decide) ?_
  refine g_goto E 29 d_CY_index_25 (by decide) ?_
  refine gpSv (As := [.int (nI 1)]) (rest := []) E gO_w (C_CY_refuseUnless l) (cs_CY_55 E rfl rfl ⟨Nat.le_of_ble_eq_true rfl, Nat.le_of_ble_eq_true rfl⟩) rfl rfl (Nat.le_of_ble_eq_true rfl) ⟨Nat.zero_le _, Nat.zero_le _⟩ d_CY_index_29 ?_
  refine g_aload_n E d_CY_index_32 rfl 0 rfl ?_
  refine gf_CY_21 E gO_w 0 rfl rfl d_CY_index_33 ?_
  refine gf_CY_59 E gO_w 1 rfl rfl d_CY_index_36 ?_
  refine g_iload_n E d_CY_index_39 rfl 1 rfl ?_
  refine g_ldN E gO_w 2 rfl (by omega) (by decide) d_CY_index_40 ?_
  refine g_istore_n (lv' := [(3, .int (nI (ix y))), (0, .ref (ad 0)), (1, .int (nI y)), (2, .int (nI v))]) E d_CY_index_41 rfl (by decide) rfl ?_
  refine g_aload_n E d_CY_index_42 rfl 1 rfl ?_
  refine gf_CY_21 E gO_w 0 rfl rfl d_CY_index_43 ?_
  refine gf_CY_59 E gO_w 1 rfl rfl d_CY_index_46 ?_
  refine g_iload_n E d_CY_index_49 rfl 2 rfl ?_
  refine g_iload_n E d_CY_index_50 rfl 3 rfl ?_
  refine g_stN (ws' := wC V ad r1 r2 r3 nY (va_up ix y v) bu np st sr sx tk rn sh sn yw nw yo ce wo po ne cs sv mk sp rs bg dp) E 2 rfl (by omega) (by decide) rfl d_CY_index_51 ?_
  refine g_iload_n E d_CY_index_52 rfl 0 rfl ?_
  exact g_iret E hr hlk d_CY_index_53 (gq_wi (w1 := fun _ => wC V ad r1 r2 r3 nY (va_up ix y v) bu np st sr sx tk rn sh sn yw nw yo ce wo po ne cs sv mk sp rs bg dp) () (rfl))

set_option maxHeartbeats 4000000 in
set_option maxRecDepth 100000 in
theorem C_CY_budget (l : Launch) {V : gV} {ad r1 r2 r3 : Nat → Nat} {nY : Nat} {ix bu : Nat → Nat} {np : Nat} {st sr : Nat → Nat} {sx tk : Nat → Nat → Nat} {rn sh sn : Nat → Nat} {yw nw : Nat} {yo ce wo : Nat → Nat} {po ne : Nat → Option Nat} {cs : Nat → Nat} {sv : Nat → Nat → Nat} {mk : Nat} {sp rs : Nat → Int} {bg dp : Nat} (y v : Nat) (hy : y < nY) (hY : nY ≤ 12) (h2 : v ≤ 1000000000) : mWi l y_CY_budget (w_CY_budget :: gt) rm_CY_budget V (wC V ad r1 r2 r3 nY ix bu np st sr sx tk rn sh sn yw nw yo ce wo po ne cs sv mk sp rs bg dp) [.ref (ad 0), .int (nI y), .int (nI v)] (nI (bu y)) (wC V ad r1 r2 r3 nY ix (va_up bu y v) np st sr sx tk rn sh sn yw nw yo ce wo po ne cs sv mk sp rs bg dp) 0 0 := by
  intro sz
  refine gMet (V := V) (As := [.ref (ad 0), .int (nI y), .int (nI v)]) (cc := c_CY_budget) (maxL := 4) (ret := (some .int)) (by decide) rfl (Nat.le_of_ble_eq_true rfl) (fun a U h => ⟨h.1, h.2.2.2.1⟩) ?_
  intro p e s m below meth c E hr hlk hnm hv
  refine g_toW (sz := sz) (w := wC V ad r1 r2 r3 nY ix bu np st sr sx tk rn sh sn yw nw yo ce wo po ne cs sv mk sp rs bg dp) hv.2.2.1 hv.2.2.2.2 ?_
  have hA0 : ∀ q : Nat, s.heap.size ≤ q → va_A (wC V ad r1 r2 r3 nY ix bu np st sr sx tk rn sh sn yw nw yo ce wo po ne cs sv mk sp rs bg dp) sz q := fun q h => Or.inr (by rw [← hv.2.1]; exact h)
  refine g_aload_n E d_CY_budget_0 rfl 0 rfl ?_
  refine gf_CY_21 E gO_w 0 rfl rfl d_CY_budget_1 ?_
  refine g_iload_n E d_CY_budget_4 rfl 1 rfl ?_
  refine gpVi (As := [.int (nI y)]) (rest := []) E gO_w 1 rfl rfl (C_Ye_has l (nI y)) (cs_CY_47 E rfl rfl ⟨Nat.le_of_ble_eq_true rfl, Nat.le_of_ble_eq_true rfl⟩) rfl rfl (Nat.le_of_ble_eq_true rfl) ⟨Nat.zero_le _, Nat.zero_le _⟩ d_CY_budget_5 ?_
  refine g_topi (show bI _ = nI 1 from by rw [inR_y (by omega) (by omega)]; rfl) ?_
  refine g_nif_eq E 25 d_CY_budget_8 (by decide) (by decide) (fun h1 => absurd h1 (by decide)) (fun _ => ?_)
  refine g_iload_n E d_CY_budget_11 rfl 2 rfl ?_
  refine g_iconst (v := nI 0) E d_CY_budget_12 (by decide) ?_
  refine g_ldc E kk_CY_63 d_CY_budget_13 ?_
  refine g_topi (show ((1000000000) : Int32) = nI 1000000000 from by decide) ?_
  refine gpSi (As := [.int (nI v), .int (nI 0), .int (nI 1000000000)]) (rest := []) E gO_w (C_CY_isWithin l (nI v) (nI 0) (nI 1000000000)) (cs_CY_51 E rfl rfl ⟨Nat.le_of_ble_eq_true rfl, Nat.le_of_ble_eq_true rfl⟩) rfl rfl (Nat.le_of_ble_eq_true rfl) ⟨Nat.zero_le _, Nat.zero_le _⟩ d_CY_budget_15 ?_
  refine g_topi (show bI _ = nI 1 from by rw [inB_y (by omega) (by omega) (by omega)]; rfl) ?_
  refine g_nif_eq E 25 d_CY_budget_18 (by decide) (by decide) (fun h2 => absurd h2 (by decide)) (fun _ => ?_)
  refine g_iconst (v := nI 1) E d_CY_budget_21 (by decide) ?_
  refine g_goto E 26 d_CY_budget_22 (by decide) ?_
  refine gpSv (As := [.int (nI 1)]) (rest := []) E gO_w (C_CY_refuseUnless l) (cs_CY_55 E rfl rfl ⟨Nat.le_of_ble_eq_true rfl, Nat.le_of_ble_eq_true rfl⟩) rfl rfl (Nat.le_of_ble_eq_true rfl) ⟨Nat.zero_le _, Nat.zero_le _⟩ d_CY_budget_26 ?_
  refine g_aload_n E d_CY_budget_29 rfl 0 rfl ?_
  refine gf_CY_21 E gO_w 0 rfl rfl d_CY_budget_30 ?_
  refine gf_CY_64 E gO_w 1 rfl rfl d_CY_budget_33 ?_
  refine g_iload_n E d_CY_budget_36 rfl 1 rfl ?_
  refine g_ldN E gO_w 3 rfl (by omega) (by decide) d_CY_budget_37 ?_
  refine g_istore_n (lv' := [(3, .int (nI (bu y))), (0, .ref (ad 0)), (1, .int (nI y)), (2, .int (nI v))]) E d_CY_budget_38 rfl (by decide) rfl ?_
  refine g_aload_n E d_CY_budget_39 rfl 1 rfl ?_
  refine gf_CY_21 E gO_w 0 rfl rfl d_CY_budget_40 ?_
  refine gf_CY_64 E gO_w 1 rfl rfl d_CY_budget_43 ?_
  refine g_iload_n E d_CY_budget_46 rfl 2 rfl ?_
  refine g_iload_n E d_CY_budget_47 rfl 3 rfl ?_
  refine g_stN (ws' := wC V ad r1 r2 r3 nY ix (va_up bu y v) np st sr sx tk rn sh sn yw nw yo ce wo po ne cs sv mk sp rs bg dp) E 3 rfl (by omega) (by decide) rfl d_CY_budget_48 ?_
  refine g_iload_n E d_CY_budget_49 rfl 0 rfl ?_
  exact g_iret E hr hlk d_CY_budget_50 (gq_wi (w1 := fun _ => wC V ad r1 r2 r3 nY ix (va_up bu y v) np st sr sx tk rn sh sn yw nw yo ce wo po ne cs sv mk sp rs bg dp) () (rfl))

set_option maxHeartbeats 4000000 in
set_option maxRecDepth 100000 in
theorem C_CY_part (l : Launch) {V : gV} {ad r1 r2 r3 : Nat → Nat} {nY : Nat} {ix bu : Nat → Nat} {np : Nat} {st sr : Nat → Nat} {sx tk : Nat → Nat → Nat} {rn sh sn : Nat → Nat} {yw nw : Nat} {yo ce wo : Nat → Nat} {po ne : Nat → Option Nat} {cs : Nat → Nat} {sv : Nat → Nat → Nat} {mk : Nat} {sp rs : Nat → Int} {bg dp : Nat} (k r : Nat) (h1 : 2 ≤ k) (h2 : k ≤ 4) (h3 : r < k) (hnp : np < 12) : mWi l y_CY_part (w_CY_part :: gt) rm_CY_part V (wC V ad r1 r2 r3 nY ix bu np st sr sx tk rn sh sn yw nw yo ce wo po ne cs sv mk sp rs bg dp) [.ref (ad 0), .int (nI k), .int (nI r)] (nI np) (wC V ad r1 r2 r3 nY ix bu (np + 1) (va_up st np k) (va_up sr np r) (va_up sx np (dgN (sx np) k)) tk rn sh sn yw nw yo ce wo po ne cs sv mk sp rs bg dp) 0 0 := by
  intro sz
  refine gMet (V := V) (As := [.ref (ad 0), .int (nI k), .int (nI r)]) (cc := c_CY_part) (maxL := 3) (ret := (some .int)) (by decide) rfl (Nat.le_of_ble_eq_true rfl) (fun a U h => ⟨h.1, h.2.2.2.1⟩) ?_
  intro p e s m below meth c E hr hlk hnm hv
  refine g_toW (sz := sz) (w := wC V ad r1 r2 r3 nY ix bu np st sr sx tk rn sh sn yw nw yo ce wo po ne cs sv mk sp rs bg dp) hv.2.2.1 hv.2.2.2.2 ?_
  have hA0 : ∀ q : Nat, s.heap.size ≤ q → va_A (wC V ad r1 r2 r3 nY ix bu np st sr sx tk rn sh sn yw nw yo ce wo po ne cs sv mk sp rs bg dp) sz q := fun q h => Or.inr (by rw [← hv.2.1]; exact h)
  refine g_iload_n E d_CY_part_0 rfl 1 rfl ?_
  refine g_iconst (v := nI 2) E d_CY_part_1 (by decide) ?_
  refine g_iconst (v := nI 4) E d_CY_part_2 (by decide) ?_
  refine gpSi (As := [.int (nI k), .int (nI 2), .int (nI 4)]) (rest := []) E gO_w (C_CY_isWithin l (nI k) (nI 2) (nI 4)) (cs_CY_51 E rfl rfl ⟨Nat.le_of_ble_eq_true rfl, Nat.le_of_ble_eq_true rfl⟩) rfl rfl (Nat.le_of_ble_eq_true rfl) ⟨Nat.zero_le _, Nat.zero_le _⟩ d_CY_part_3 ?_
  refine g_topi (show bI _ = nI 1 from by rw [inB_y (by omega) (by omega) (by omega)]; rfl) ?_
  refine gpSv (As := [.int (nI 1)]) (rest := []) E gO_w (C_CY_refuseUnless l) (cs_CY_55 E rfl rfl ⟨Nat.le_of_ble_eq_true rfl, Nat.le_of_ble_eq_true rfl⟩) rfl rfl (Nat.le_of_ble_eq_true rfl) ⟨Nat.zero_le _, Nat.zero_le _⟩ d_CY_part_6 ?_
  refine g_iload_n E d_CY_part_9 rfl 2 rfl ?_
  refine g_iconst (v := nI 0) E d_CY_part_10 (by decide) ?_
  refine g_iload_n E d_CY_part_11 rfl 1 rfl ?_
  refine g_iconst (v := nI 1) E d_CY_part_12 (by decide) ?_
  refine g_isub E d_CY_part_13 ?_
  refine g_topi (pk_sub (by omega)) ?_
  refine gpSi (As := [.int (nI r), .int (nI 0), .int (nI (k - 1))]) (rest := []) E gO_w (C_CY_isWithin l (nI r) (nI 0) (nI (k - 1))) (cs_CY_51 E rfl rfl ⟨Nat.le_of_ble_eq_true rfl, Nat.le_of_ble_eq_true rfl⟩) rfl rfl (Nat.le_of_ble_eq_true rfl) ⟨Nat.zero_le _, Nat.zero_le _⟩ d_CY_part_14 ?_
  refine g_topi (show bI _ = nI 1 from by rw [inB_y (by omega) (by omega) (by omega)]; rfl) ?_
  refine gpSv (As := [.int (nI 1)]) (rest := []) E gO_w (C_CY_refuseUnless l) (cs_CY_55 E rfl rfl ⟨Nat.le_of_ble_eq_true rfl, Nat.le_of_ble_eq_true rfl⟩) rfl rfl (Nat.le_of_ble_eq_true rfl) ⟨Nat.zero_le _, Nat.zero_le _⟩ d_CY_part_17 ?_
  refine g_aload_n E d_CY_part_20 rfl 0 rfl ?_
  refine gf_CY_30 E gO_w 0 rfl rfl d_CY_part_21 ?_
  refine gf_CY_67 E gO_w 4 rfl rfl d_CY_part_24 ?_
  refine g_bipush (v := nI 12) E d_CY_part_27 (by decide) ?_
  refine g_ncmp_lt E 36 d_CY_part_29 (by decide) (by omega) (by omega) (fun h1 => ?_) (fun h1 => ?_)
  · refine g_iconst (v := nI 0) E d_CY_part_36 (by decide) ?_
    refine gpSv (As := [.int (nI 0)]) (rest := []) E gO_w (C_CY_refuseIfFull l) (cs_CY_71 E rfl rfl ⟨Nat.le_of_ble_eq_true rfl, Nat.le_of_ble_eq_true rfl⟩) rfl rfl (Nat.le_of_ble_eq_true rfl) ⟨Nat.zero_le _, Nat.zero_le _⟩ d_CY_part_37 ?_
    refine g_aload_n E d_CY_part_40 rfl 0 rfl ?_
    refine gf_CY_30 E gO_w 0 rfl rfl d_CY_part_41 ?_
    refine g_iload_n E d_CY_part_44 rfl 1 rfl ?_
    refine g_iload_n E d_CY_part_45 rfl 2 rfl ?_
    refine gwVi (As := [.int (nI k), .int (nI r)]) (rest := []) (w' := wC V ad r1 r2 r3 nY ix bu (np + 1) (va_up st np k) (va_up sr np r) (va_up sx np (dgN (sx np) k)) tk rn sh sn yw nw yo ce wo po ne cs sv mk sp rs bg dp) (mc := 0) (ms := 0) E hA0 4 rfl rfl (C_Pa_add l k r (by omega) (by omega)) (cs_CY_74 E rfl rfl ⟨Nat.le_of_ble_eq_true rfl, Nat.le_of_ble_eq_true rfl⟩) rfl rfl (Nat.le_of_ble_eq_true rfl) ⟨Nat.zero_le _, Nat.zero_le _⟩ d_CY_part_46 ?_
    exact g_iret E hr hlk d_CY_part_49 (gq_wi (w1 := fun _ => wC V ad r1 r2 r3 nY ix bu (np + 1) (va_up st np k) (va_up sr np r) (va_up sx np (dgN (sx np) k)) tk rn sh sn yw nw yo ce wo po ne cs sv mk sp rs bg dp) () (rfl))
  · exact absurd h1 (by omega)

set_option maxHeartbeats 4000000 in
set_option maxRecDepth 100000 in
theorem C_CY_moves (l : Launch) {V : gV} {ad r1 r2 r3 : Nat → Nat} {nY : Nat} {ix bu : Nat → Nat} {np : Nat} {st sr : Nat → Nat} {sx tk : Nat → Nat → Nat} {rn sh sn : Nat → Nat} {yw nw : Nat} {yo ce wo : Nat → Nat} {po ne : Nat → Option Nat} {cs : Nat → Nat} {sv : Nat → Nat → Nat} {mk : Nat} {sp rs : Nat → Int} {bg dp : Nat} (i a b v : Nat) (hi : i < np) (hnp : np ≤ 12) (hs : st i ≤ 4) (ha : a < st i) (hb : b < st i) (hab : a ≠ b) (hv16 : v ≤ 16) (hsx : v ≤ sx i (a * 4 + a) + sx i (a * 4 + b)) (hx : ∀ i j, sx i j ≤ 16) : mWi l y_CY_moves (w_CY_moves :: gt) rm_CY_moves V (wC V ad r1 r2 r3 nY ix bu np st sr sx tk rn sh sn yw nw yo ce wo po ne cs sv mk sp rs bg dp) [.ref (ad 0), .int (nI i), .int (nI a), .int (nI b), .int (nI v)] (nI (sx i (a * 4 + b))) (wC V ad r1 r2 r3 nY ix bu np st sr (mUp (mUp sx i (a * 4 + b) v) i (a * 4 + a) (sx i (a * 4 + a) + sx i (a * 4 + b) - v)) tk rn sh sn yw nw yo ce wo po ne cs sv mk sp rs bg dp) 0 0 := by
  intro sz
  refine gMet (V := V) (As := [.ref (ad 0), .int (nI i), .int (nI a), .int (nI b), .int (nI v)]) (cc := c_CY_moves) (maxL := 7) (ret := (some .int)) (by decide) rfl (Nat.le_of_ble_eq_true rfl) (fun a U h => ⟨h.1, h.2.2.2.1⟩) ?_
  intro p e s m below meth c E hr hlk hnm hv
  refine g_toW (sz := sz) (w := wC V ad r1 r2 r3 nY ix bu np st sr sx tk rn sh sn yw nw yo ce wo po ne cs sv mk sp rs bg dp) hv.2.2.1 hv.2.2.2.2 ?_
  have hA0 : ∀ q : Nat, s.heap.size ≤ q → va_A (wC V ad r1 r2 r3 nY ix bu np st sr sx tk rn sh sn yw nw yo ce wo po ne cs sv mk sp rs bg dp) sz q := fun q h => Or.inr (by rw [← hv.2.1]; exact h)
  have x1 := hx i (a * 4 + a)
  have x2 := hx i (a * 4 + b)
  refine g_aload_n E d_CY_moves_0 rfl 0 rfl ?_
  refine gf_CY_30 E gO_w 0 rfl rfl d_CY_moves_1 ?_
  refine g_iload_n E d_CY_moves_4 rfl 1 rfl ?_
  refine g_iload_n E d_CY_moves_5 rfl 2 rfl ?_
  refine gpVi (As := [.int (nI i), .int (nI a)]) (rest := []) E gO_w 4 rfl rfl (C_Pa_hasState l (nI i) (nI a) (by omega)) (cs_CY_77 E rfl rfl ⟨Nat.le_of_ble_eq_true rfl, Nat.le_of_ble_eq_true rfl⟩) rfl rfl (Nat.le_of_ble_eq_true rfl) ⟨Nat.zero_le _, Nat.zero_le _⟩ d_CY_moves_6 ?_
  refine g_topi (show bI _ = nI 1 from by rw [hasSt_y (by omega) (by omega) (by omega) (by omega)]; rfl) ?_
  refine g_nif_eq E 33 d_CY_moves_9 (by decide) (by decide) (fun h1 => absurd h1 (by decide)) (fun _ => ?_)
  refine g_aload_n E d_CY_moves_12 rfl 0 rfl ?_
  refine gf_CY_30 E gO_w 0 rfl rfl d_CY_moves_13 ?_
  refine g_iload_n E d_CY_moves_16 rfl 1 rfl ?_
  refine g_iload_n E d_CY_moves_17 rfl 3 rfl ?_
  refine gpVi (As := [.int (nI i), .int (nI b)]) (rest := []) E gO_w 4 rfl rfl (C_Pa_hasState l (nI i) (nI b) (by omega)) (cs_CY_77 E rfl rfl ⟨Nat.le_of_ble_eq_true rfl, Nat.le_of_ble_eq_true rfl⟩) rfl rfl (Nat.le_of_ble_eq_true rfl) ⟨Nat.zero_le _, Nat.zero_le _⟩ d_CY_moves_18 ?_
  refine g_topi (show bI _ = nI 1 from by rw [hasSt_y (by omega) (by omega) (by omega) (by omega)]; rfl) ?_
  refine g_nif_eq E 33 d_CY_moves_21 (by decide) (by decide) (fun h2 => absurd h2 (by decide)) (fun _ => ?_)
  refine g_iload_n E d_CY_moves_24 rfl 2 rfl ?_
  refine g_iload_n E d_CY_moves_25 rfl 3 rfl ?_
  refine g_ncmp_eq E 33 d_CY_moves_26 (by decide) (by omega) (by omega) (fun h3 => ?_) (fun h3 => ?_)
  · exact absurd h3 (by omega)
  · refine g_iconst (v := nI 1) E d_CY_moves_29 (by decide) ?_
    refine g_goto E 34 d_CY_moves_30 (by decide) ?_
    refine gpSv (As := [.int (nI 1)]) (rest := []) E gO_w (C_CY_refuseUnless l) (cs_CY_55 E rfl rfl ⟨Nat.le_of_ble_eq_true rfl, Nat.le_of_ble_eq_true rfl⟩) rfl rfl (Nat.le_of_ble_eq_true rfl) ⟨Nat.zero_le _, Nat.zero_le _⟩ d_CY_moves_34 ?_
    refine g_iload E d_CY_moves_37 4 rfl ?_
    refine g_iconst (v := nI 0) E d_CY_moves_39 (by decide) ?_
    refine g_bipush (v := nI 16) E d_CY_moves_40 (by decide) ?_
    refine gpSi (As := [.int (nI v), .int (nI 0), .int (nI 16)]) (rest := []) E gO_w (C_CY_isWithin l (nI v) (nI 0) (nI 16)) (cs_CY_51 E rfl rfl ⟨Nat.le_of_ble_eq_true rfl, Nat.le_of_ble_eq_true rfl⟩) rfl rfl (Nat.le_of_ble_eq_true rfl) ⟨Nat.zero_le _, Nat.zero_le _⟩ d_CY_moves_42 ?_
    refine g_topi (show bI _ = nI 1 from by rw [inB_y (by omega) (by omega) (by omega)]; rfl) ?_
    refine gpSv (As := [.int (nI 1)]) (rest := []) E gO_w (C_CY_refuseUnless l) (cs_CY_55 E rfl rfl ⟨Nat.le_of_ble_eq_true rfl, Nat.le_of_ble_eq_true rfl⟩) rfl rfl (Nat.le_of_ble_eq_true rfl) ⟨Nat.zero_le _, Nat.zero_le _⟩ d_CY_moves_45 ?_
    refine g_aload_n E d_CY_moves_48 rfl 0 rfl ?_
    refine gf_CY_30 E gO_w 0 rfl rfl d_CY_moves_49 ?_
    refine g_iload_n E d_CY_moves_52 rfl 1 rfl ?_
    refine g_iload_n E d_CY_moves_53 rfl 2 rfl ?_
    refine g_iload_n E d_CY_moves_54 rfl 3 rfl ?_
    refine gpVi (As := [.int (nI i), .int (nI a), .int (nI b)]) (rest := []) E gO_w 4 rfl rfl (C_Pa_going l i a b (by omega) (by omega) (by omega)) (cs_CY_81 E rfl rfl ⟨Nat.le_of_ble_eq_true rfl, Nat.le_of_ble_eq_true rfl⟩) rfl rfl (Nat.le_of_ble_eq_true rfl) ⟨Nat.zero_le _, Nat.zero_le _⟩ d_CY_moves_55 ?_
    refine g_istore (lv' := [(5, .int (nI (sx i (a * 4 + b)))), (0, .ref (ad 0)), (1, .int (nI i)), (2, .int (nI a)), (3, .int (nI b)), (4, .int (nI v))]) E d_CY_moves_58 (by decide) rfl ?_
    refine g_aload_n E d_CY_moves_60 rfl 1 rfl ?_
    refine gf_CY_30 E gO_w 0 rfl rfl d_CY_moves_61 ?_
    refine g_iload_n E d_CY_moves_64 rfl 2 rfl ?_
    refine g_iload_n E d_CY_moves_65 rfl 3 rfl ?_
    refine g_iload_n E d_CY_moves_66 rfl 3 rfl ?_
    refine gpVi (As := [.int (nI i), .int (nI a), .int (nI a)]) (rest := []) E gO_w 4 rfl rfl (C_Pa_going l i a a (by omega) (by omega) (by omega)) (cs_CY_81 E rfl rfl ⟨Nat.le_of_ble_eq_true rfl, Nat.le_of_ble_eq_true rfl⟩) rfl rfl (Nat.le_of_ble_eq_true rfl) ⟨Nat.zero_le _, Nat.zero_le _⟩ d_CY_moves_67 ?_
    refine g_iload E d_CY_moves_70 0 rfl ?_
    refine g_iadd E d_CY_moves_72 ?_
    refine g_topi (nI_add _ _) ?_
    refine g_iload E d_CY_moves_73 5 rfl ?_
    refine g_isub E d_CY_moves_75 ?_
    refine g_topi (pk_sub (by omega)) ?_
    refine g_istore (lv' := [(6, .int (nI (((sx i (a * 4 + a)) + (sx i (a * 4 + b))) - v))), (5, .int (nI (sx i (a * 4 + b)))), (0, .ref (ad 0)), (1, .int (nI i)), (2, .int (nI a)), (3, .int (nI b)), (4, .int (nI v))]) E d_CY_moves_76 (by decide) rfl ?_
    refine g_iload E d_CY_moves_78 0 rfl ?_
    refine g_nif_lt E 87 d_CY_moves_80 (by decide) (by omega) ?_
    refine g_iconst (v := nI 1) E d_CY_moves_83 (by decide) ?_
    refine g_goto E 88 d_CY_moves_84 (by decide) ?_
    refine gpSv (As := [.int (nI 1)]) (rest := []) E gO_w (C_CY_refuseUnless l) (cs_CY_55 E rfl rfl ⟨Nat.le_of_ble_eq_true rfl, Nat.le_of_ble_eq_true rfl⟩) rfl rfl (Nat.le_of_ble_eq_true rfl) ⟨Nat.zero_le _, Nat.zero_le _⟩ d_CY_moves_88 ?_
    refine g_aload_n E d_CY_moves_91 rfl 2 rfl ?_
    refine gf_CY_30 E gO_w 0 rfl rfl d_CY_moves_92 ?_
    refine g_iload_n E d_CY_moves_95 rfl 3 rfl ?_
    refine g_iload_n E d_CY_moves_96 rfl 4 rfl ?_
    refine g_iload_n E d_CY_moves_97 rfl 5 rfl ?_
    refine g_iload E d_CY_moves_98 6 rfl ?_
    refine gwVv (As := [.int (nI i), .int (nI a), .int (nI b), .int (nI v)]) (rest := []) (w' := wC V ad r1 r2 r3 nY ix bu np st sr (mUp sx i (a * 4 + b) v) tk rn sh sn yw nw yo ce wo po ne cs sv mk sp rs bg dp) (mc := 0) (ms := 0) E hA0 4 rfl rfl (C_Pa_setGoing l i a b v (by omega) (by omega) (by omega)) (cs_CY_85 E rfl rfl ⟨Nat.le_of_ble_eq_true rfl, Nat.le_of_ble_eq_true rfl⟩) rfl rfl (Nat.le_of_ble_eq_true rfl) ⟨Nat.zero_le _, Nat.zero_le _⟩ d_CY_moves_100 ?_
    refine g_aload_n E d_CY_moves_103 rfl 2 rfl ?_
    refine gf_CY_30 E gO_w 0 rfl rfl d_CY_moves_104 ?_
    refine g_iload_n E d_CY_moves_107 rfl 3 rfl ?_
    refine g_iload_n E d_CY_moves_108 rfl 4 rfl ?_
    refine g_iload_n E d_CY_moves_109 rfl 4 rfl ?_
    refine g_iload E d_CY_moves_110 0 rfl ?_
    refine gwVv (As := [.int (nI i), .int (nI a), .int (nI a), .int (nI (((sx i (a * 4 + a)) + (sx i (a * 4 + b))) - v))]) (rest := []) (w' := wC V ad r1 r2 r3 nY ix bu np st sr (mUp (mUp sx i (a * 4 + b) v) i (a * 4 + a) (((sx i (a * 4 + a)) + (sx i (a * 4 + b))) - v)) tk rn sh sn yw nw yo ce wo po ne cs sv mk sp rs bg dp) (mc := 0) (ms := 0) E hA0 4 rfl rfl (C_Pa_setGoing l i a a (((sx i (a * 4 + a)) + (sx i (a * 4 + b))) - v) (by omega) (by omega) (by omega)) (cs_CY_85 E rfl rfl ⟨Nat.le_of_ble_eq_true rfl, Nat.le_of_ble_eq_true rfl⟩) rfl rfl (Nat.le_of_ble_eq_true rfl) ⟨Nat.zero_le _, Nat.zero_le _⟩ d_CY_moves_112 ?_
    refine g_iload E d_CY_moves_115 1 rfl ?_
    refine g_ws (ws' := wC V ad r1 r2 r3 nY ix bu np st sr (mUp (mUp sx i (a * 4 + b) v) i (a * 4 + a) (sx i (a * 4 + a) + sx i (a * 4 + b) - v)) tk rn sh sn yw nw yo ce wo po ne cs sv mk sp rs bg dp) (rfl) ?_
    exact g_iret E hr hlk d_CY_moves_117 (gq_wi (w1 := fun _ => wC V ad r1 r2 r3 nY ix bu np st sr (mUp (mUp sx i (a * 4 + b) v) i (a * 4 + a) (sx i (a * 4 + a) + sx i (a * 4 + b) - v)) tk rn sh sn yw nw yo ce wo po ne cs sv mk sp rs bg dp) () (rfl))

set_option maxHeartbeats 4000000 in
set_option maxRecDepth 100000 in
theorem C_CY_care (l : Launch) {V : gV} {ad r1 r2 r3 : Nat → Nat} {nY : Nat} {ix bu : Nat → Nat} {np : Nat} {st sr : Nat → Nat} {sx tk : Nat → Nat → Nat} {rn sh sn : Nat → Nat} {yw nw : Nat} {yo ce wo : Nat → Nat} {po ne : Nat → Option Nat} {cs : Nat → Nat} {sv : Nat → Nat → Nat} {mk : Nat} {sp rs : Nat → Int} {bg dp : Nat} (i a v : Nat) (hi : i < np) (hnp : np ≤ 12) (hs : st i ≤ 4) (ha : a < st i) (h2 : v ≤ 1000) : mWi l y_CY_care (w_CY_care :: gt) rm_CY_care V (wC V ad r1 r2 r3 nY ix bu np st sr sx tk rn sh sn yw nw yo ce wo po ne cs sv mk sp rs bg dp) [.ref (ad 0), .int (nI i), .int (nI a), .int (nI v)] (nI (tk i a)) (wC V ad r1 r2 r3 nY ix bu np st sr sx (mUp tk i a v) rn sh sn yw nw yo ce wo po ne cs sv mk sp rs bg dp) 0 0 := by
  intro sz
  refine gMet (V := V) (As := [.ref (ad 0), .int (nI i), .int (nI a), .int (nI v)]) (cc := c_CY_care) (maxL := 5) (ret := (some .int)) (by decide) rfl (Nat.le_of_ble_eq_true rfl) (fun a U h => ⟨h.1, h.2.2.2.1⟩) ?_
  intro p e s m below meth c E hr hlk hnm hv
  refine g_toW (sz := sz) (w := wC V ad r1 r2 r3 nY ix bu np st sr sx tk rn sh sn yw nw yo ce wo po ne cs sv mk sp rs bg dp) hv.2.2.1 hv.2.2.2.2 ?_
  have hA0 : ∀ q : Nat, s.heap.size ≤ q → va_A (wC V ad r1 r2 r3 nY ix bu np st sr sx tk rn sh sn yw nw yo ce wo po ne cs sv mk sp rs bg dp) sz q := fun q h => Or.inr (by rw [← hv.2.1]; exact h)
  refine g_aload_n E d_CY_care_0 rfl 0 rfl ?_
  refine gf_CY_30 E gO_w 0 rfl rfl d_CY_care_1 ?_
  refine g_iload_n E d_CY_care_4 rfl 1 rfl ?_
  refine g_iload_n E d_CY_care_5 rfl 2 rfl ?_
  refine gpVi (As := [.int (nI i), .int (nI a)]) (rest := []) E gO_w 4 rfl rfl (C_Pa_hasState l (nI i) (nI a) (by omega)) (cs_CY_77 E rfl rfl ⟨Nat.le_of_ble_eq_true rfl, Nat.le_of_ble_eq_true rfl⟩) rfl rfl (Nat.le_of_ble_eq_true rfl) ⟨Nat.zero_le _, Nat.zero_le _⟩ d_CY_care_6 ?_
  refine g_topi (show bI _ = nI 1 from by rw [hasSt_y (by omega) (by omega) (by omega) (by omega)]; rfl) ?_
  refine g_nif_eq E 27 d_CY_care_9 (by decide) (by decide) (fun h1 => absurd h1 (by decide)) (fun _ => ?_)
  refine g_iload_n E d_CY_care_12 rfl 3 rfl ?_
  refine g_iconst (v := nI 0) E d_CY_care_13 (by decide) ?_
  refine g_sipush (v := nI 1000) E d_CY_care_14 (by decide) ?_
  refine gpSi (As := [.int (nI v), .int (nI 0), .int (nI 1000)]) (rest := []) E gO_w (C_CY_isWithin l (nI v) (nI 0) (nI 1000)) (cs_CY_51 E rfl rfl ⟨Nat.le_of_ble_eq_true rfl, Nat.le_of_ble_eq_true rfl⟩) rfl rfl (Nat.le_of_ble_eq_true rfl) ⟨Nat.zero_le _, Nat.zero_le _⟩ d_CY_care_17 ?_
  refine g_topi (show bI _ = nI 1 from by rw [inB_y (by omega) (by omega) (by omega)]; rfl) ?_
  refine g_nif_eq E 27 d_CY_care_20 (by decide) (by decide) (fun h2 => absurd h2 (by decide)) (fun _ => ?_)
  refine g_iconst (v := nI 1) E d_CY_care_23 (by decide) ?_
  refine g_goto E 28 d_CY_care_24 (by decide) ?_
  refine gpSv (As := [.int (nI 1)]) (rest := []) E gO_w (C_CY_refuseUnless l) (cs_CY_55 E rfl rfl ⟨Nat.le_of_ble_eq_true rfl, Nat.le_of_ble_eq_true rfl⟩) rfl rfl (Nat.le_of_ble_eq_true rfl) ⟨Nat.zero_le _, Nat.zero_le _⟩ d_CY_care_28 ?_
  refine g_aload_n E d_CY_care_31 rfl 0 rfl ?_
  refine gf_CY_30 E gO_w 0 rfl rfl d_CY_care_32 ?_
  refine gf_CY_89 E gO_w 4 rfl rfl d_CY_care_35 ?_
  refine g_iload_n E d_CY_care_38 rfl 1 rfl ?_
  refine g_aaload E gO_w 8 rfl (by omega) (by decide) d_CY_care_39 ?_
  refine g_iload_n E d_CY_care_40 rfl 2 rfl ?_
  refine g_ldN E gO_w (34 + i) (wC_g2 (by omega)) (by omega) (by decide) d_CY_care_41 ?_
  refine g_istore (lv' := [(4, .int (nI (tk i a))), (0, .ref (ad 0)), (1, .int (nI i)), (2, .int (nI a)), (3, .int (nI v))]) E d_CY_care_42 (by decide) rfl ?_
  refine g_aload_n E d_CY_care_44 rfl 1 rfl ?_
  refine gf_CY_30 E gO_w 0 rfl rfl d_CY_care_45 ?_
  refine gf_CY_89 E gO_w 4 rfl rfl d_CY_care_48 ?_
  refine g_iload_n E d_CY_care_51 rfl 2 rfl ?_
  refine g_aaload E gO_w 8 rfl (by omega) (by decide) d_CY_care_52 ?_
  refine g_iload_n E d_CY_care_53 rfl 3 rfl ?_
  refine g_iload_n E d_CY_care_54 rfl 4 rfl ?_
  refine g_stN (ws' := wC V ad r1 r2 r3 nY ix bu np st sr sx (mUp tk i a v) rn sh sn yw nw yo ce wo po ne cs sv mk sp rs bg dp) E (34 + i) (wC_g2 (by omega)) (by omega) (by decide) (wC_s2 (by omega)) d_CY_care_55 ?_
  refine g_iload E d_CY_care_56 0 rfl ?_
  exact g_iret E hr hlk d_CY_care_58 (gq_wi (w1 := fun _ => wC V ad r1 r2 r3 nY ix bu np st sr sx (mUp tk i a v) rn sh sn yw nw yo ce wo po ne cs sv mk sp rs bg dp) () (rfl))

set_option maxHeartbeats 4000000 in
set_option maxRecDepth 100000 in
theorem C_CY_share (l : Launch) {V : gV} {ad r1 r2 r3 : Nat → Nat} {nY : Nat} {ix bu : Nat → Nat} {np : Nat} {st sr : Nat → Nat} {sx tk : Nat → Nat → Nat} {rn sh sn : Nat → Nat} {yw nw : Nat} {yo ce wo : Nat → Nat} {po ne : Nat → Option Nat} {cs : Nat → Nat} {sv : Nat → Nat → Nat} {mk : Nat} {sp rs : Nat → Int} {bg dp : Nat} (i a y : Nat) (hi : i < np) (hnp : np ≤ 12) (hs : st i ≤ 4) (ha : a < st i) (hy : y < nY) (hY : nY ≤ 12) (hr : sr i < 4) (hn : rn i < 4096) (hx : ∀ i j, sx i j ≤ 16) : mWl l y_CY_share (w_CY_share :: gt) rm_CY_share V (wC V ad r1 r2 r3 nY ix bu np st sr sx tk rn sh sn yw nw yo ce wo po ne cs sv mk sp rs bg dp) [.ref (ad 0), .int (nI i), .int (nI a), .int (nI y)] (lN ((eY (sr i) (sx i) (st i) (rn i) sh sn yw (y + 1)).1 a)) (wC V ad r1 r2 r3 nY ix bu np st sr sx tk rn ((eY (sr i) (sx i) (st i) (rn i) sh sn yw (y + 1)).1) ((eY (sr i) (sx i) (st i) (rn i) sh sn yw (y + 1)).2.2) ((eY (sr i) (sx i) (st i) (rn i) sh sn yw (y + 1)).2.1) nw yo ce wo po ne cs sv mk sp rs bg dp) 0 0 := by
  intro sz
  refine gMet (V := V) (As := [.ref (ad 0), .int (nI i), .int (nI a), .int (nI y)]) (cc := c_CY_share) (maxL := 4) (ret := (some .long)) (by decide) rfl (Nat.le_of_ble_eq_true rfl) (fun a U h => ⟨h.1, h.2.2.2.1⟩) ?_
  intro p e s m below meth c E hr hlk hnm hv
  refine g_toW (sz := sz) (w := wC V ad r1 r2 r3 nY ix bu np st sr sx tk rn sh sn yw nw yo ce wo po ne cs sv mk sp rs bg dp) hv.2.2.1 hv.2.2.2.2 ?_
  have hA0 : ∀ q : Nat, s.heap.size ≤ q → va_A (wC V ad r1 r2 r3 nY ix bu np st sr sx tk rn sh sn yw nw yo ce wo po ne cs sv mk sp rs bg dp) sz q := fun q h => Or.inr (by rw [← hv.2.1]; exact h)
  refine g_aload_n E d_CY_share_0 rfl 0 rfl ?_
  refine gf_CY_30 E gO_w 0 rfl rfl d_CY_share_1 ?_
  refine g_iload_n E d_CY_share_4 rfl 1 rfl ?_
  refine g_iload_n E d_CY_share_5 rfl 2 rfl ?_
  refine gpVi (As := [.int (nI i), .int (nI a)]) (rest := []) E gO_w 4 rfl rfl (C_Pa_hasState l (nI i) (nI a) (by omega)) (cs_CY_77 E rfl rfl ⟨Nat.le_of_ble_eq_true rfl, Nat.le_of_ble_eq_true rfl⟩) rfl rfl (Nat.le_of_ble_eq_true rfl) ⟨Nat.zero_le _, Nat.zero_le _⟩ d_CY_share_6 ?_
  refine g_topi (show bI _ = nI 1 from by rw [hasSt_y (by omega) (by omega) (by omega) (by omega)]; rfl) ?_
  refine g_nif_eq E 27 d_CY_share_9 (by decide) (by decide) (fun h1 => absurd h1 (by decide)) (fun _ => ?_)
  refine g_aload_n E d_CY_share_12 rfl 0 rfl ?_
  refine gf_CY_21 E gO_w 0 rfl rfl d_CY_share_13 ?_
  refine g_iload_n E d_CY_share_16 rfl 3 rfl ?_
  refine gpVi (As := [.int (nI y)]) (rest := []) E gO_w 1 rfl rfl (C_Ye_has l (nI y)) (cs_CY_47 E rfl rfl ⟨Nat.le_of_ble_eq_true rfl, Nat.le_of_ble_eq_true rfl⟩) rfl rfl (Nat.le_of_ble_eq_true rfl) ⟨Nat.zero_le _, Nat.zero_le _⟩ d_CY_share_17 ?_
  refine g_topi (show bI _ = nI 1 from by rw [inR_y (by omega) (by omega)]; rfl) ?_
  refine g_nif_eq E 27 d_CY_share_20 (by decide) (by decide) (fun h2 => absurd h2 (by decide)) (fun _ => ?_)
  refine g_iconst (v := nI 1) E d_CY_share_23 (by decide) ?_
  refine g_goto E 28 d_CY_share_24 (by decide) ?_
  refine gpSv (As := [.int (nI 1)]) (rest := []) E gO_w (C_CY_refuseUnless l) (cs_CY_55 E rfl rfl ⟨Nat.le_of_ble_eq_true rfl, Nat.le_of_ble_eq_true rfl⟩) rfl rfl (Nat.le_of_ble_eq_true rfl) ⟨Nat.zero_le _, Nat.zero_le _⟩ d_CY_share_28 ?_
  refine g_aload_n E d_CY_share_31 rfl 0 rfl ?_
  refine gf_CY_30 E gO_w 0 rfl rfl d_CY_share_32 ?_
  refine g_iload_n E d_CY_share_35 rfl 1 rfl ?_
  refine g_iload_n E d_CY_share_36 rfl 3 rfl ?_
  refine gwVv (As := [.int (nI i), .int (nI y)]) (rest := []) (w' := wC V ad r1 r2 r3 nY ix bu np st sr sx tk rn ((eY (sr i) (sx i) (st i) (rn i) sh sn yw (y + 1)).1) ((eY (sr i) (sx i) (st i) (rn i) sh sn yw (y + 1)).2.2) ((eY (sr i) (sx i) (st i) (rn i) sh sn yw (y + 1)).2.1) nw yo ce wo po ne cs sv mk sp rs bg dp) (mc := 0) (ms := 0) E hA0 4 rfl rfl (C_Pa_goTo l i y (by omega) (by omega) (by omega) (by omega) (by omega) hx) (cs_CY_93 E rfl rfl ⟨Nat.le_of_ble_eq_true rfl, Nat.le_of_ble_eq_true rfl⟩) rfl rfl (Nat.le_of_ble_eq_true rfl) ⟨Nat.zero_le _, Nat.zero_le _⟩ d_CY_share_37 ?_
  refine g_aload_n E d_CY_share_40 rfl 0 rfl ?_
  refine gf_CY_30 E gO_w 0 rfl rfl d_CY_share_41 ?_
  refine gf_CY_97 E gO_w 4 rfl rfl d_CY_share_44 ?_
  refine g_iload_n E d_CY_share_47 rfl 2 rfl ?_
  refine g_ldL E gO_w 10 rfl (by omega) (by decide) d_CY_share_48 ?_
  exact g_lret E hr hlk d_CY_share_49 (gq_wl (w1 := fun _ => wC V ad r1 r2 r3 nY ix bu np st sr sx tk rn ((eY (sr i) (sx i) (st i) (rn i) sh sn yw (y + 1)).1) ((eY (sr i) (sx i) (st i) (rn i) sh sn yw (y + 1)).2.2) ((eY (sr i) (sx i) (st i) (rn i) sh sn yw (y + 1)).2.1) nw yo ce wo po ne cs sv mk sp rs bg dp) () (by simp))

set_option maxHeartbeats 4000000 in
set_option maxRecDepth 100000 in
theorem C_CY_cares (l : Launch) {V : gV} {ad r1 r2 r3 : Nat → Nat} {nY : Nat} {ix bu : Nat → Nat} {np : Nat} {st sr : Nat → Nat} {sx tk : Nat → Nat → Nat} {rn sh sn : Nat → Nat} {yw nw : Nat} {yo ce wo : Nat → Nat} {po ne : Nat → Option Nat} {cs : Nat → Nat} {sv : Nat → Nat → Nat} {mk : Nat} {sp rs : Nat → Int} {bg dp : Nat} (i y : Nat) (hi : i < np) (hnp : np ≤ 12) (hs : st i ≤ 4) (hy : y < nY) (hY : nY ≤ 12) (hr : sr i < 4) (hn : rn i < 4096) (hx : ∀ i j, sx i j ≤ 16) (hsi : sr i < st i) (hM : ∀ a, a < st i → sumN (fun j => sx i (a * 4 + j)) (st i) = 16) (ht : ∀ i j, tk i j ≤ 1000) (hix : ∀ y, ix y ≤ 2000) : mWi l y_CY_cares (w_CY_cares :: gt) rm_CY_cares V (wC V ad r1 r2 r3 nY ix bu np st sr sx tk rn sh sn yw nw yo ce wo po ne cs sv mk sp rs bg dp) [.ref (ad 0), .int (nI i), .int (nI y)] (nI (cY ix st sr sx tk rn i y)) (wC V ad r1 r2 r3 nY ix bu np st sr sx tk rn ((eY (sr i) (sx i) (st i) (rn i) sh sn yw (y + 1)).1) ((eY (sr i) (sx i) (st i) (rn i) sh sn yw (y + 1)).2.2) ((eY (sr i) (sx i) (st i) (rn i) sh sn yw (y + 1)).2.1) nw yo ce wo po ne cs sv mk sp rs bg dp) 0 0 := by
  intro sz
  refine gMet (V := V) (As := [.ref (ad 0), .int (nI i), .int (nI y)]) (cc := c_CY_cares) (maxL := 3) (ret := (some .int)) (by decide) rfl (Nat.le_of_ble_eq_true rfl) (fun a U h => ⟨h.1, h.2.2.2.1⟩) ?_
  intro p e s m below meth c E hr hlk hnm hv
  refine g_toW (sz := sz) (w := wC V ad r1 r2 r3 nY ix bu np st sr sx tk rn sh sn yw nw yo ce wo po ne cs sv mk sp rs bg dp) hv.2.2.1 hv.2.2.2.2 ?_
  have hA0 : ∀ q : Nat, s.heap.size ≤ q → va_A (wC V ad r1 r2 r3 nY ix bu np st sr sx tk rn sh sn yw nw yo ce wo po ne cs sv mk sp rs bg dp) sz q := fun q h => Or.inr (by rw [← hv.2.1]; exact h)
  refine g_aload_n E d_CY_cares_0 rfl 0 rfl ?_
  refine gf_CY_30 E gO_w 0 rfl rfl d_CY_cares_1 ?_
  refine g_iload_n E d_CY_cares_4 rfl 1 rfl ?_
  refine gpVi (As := [.int (nI i)]) (rest := []) E gO_w 4 rfl rfl (C_Pa_has l (nI i)) (cs_CY_100 E rfl rfl ⟨Nat.le_of_ble_eq_true rfl, Nat.le_of_ble_eq_true rfl⟩) rfl rfl (Nat.le_of_ble_eq_true rfl) ⟨Nat.zero_le _, Nat.zero_le _⟩ d_CY_cares_5 ?_
  refine g_topi (show bI _ = nI 1 from by rw [inR_y (by omega) (by omega)]; rfl) ?_
  refine g_nif_eq E 26 d_CY_cares_8 (by decide) (by decide) (fun h1 => absurd h1 (by decide)) (fun _ => ?_)
  refine g_aload_n E d_CY_cares_11 rfl 0 rfl ?_
  refine gf_CY_21 E gO_w 0 rfl rfl d_CY_cares_12 ?_
  refine g_iload_n E d_CY_cares_15 rfl 2 rfl ?_
  refine gpVi (As := [.int (nI y)]) (rest := []) E gO_w 1 rfl rfl (C_Ye_has l (nI y)) (cs_CY_47 E rfl rfl ⟨Nat.le_of_ble_eq_true rfl, Nat.le_of_ble_eq_true rfl⟩) rfl rfl (Nat.le_of_ble_eq_true rfl) ⟨Nat.zero_le _, Nat.zero_le _⟩ d_CY_cares_16 ?_
  refine g_topi (show bI _ = nI 1 from by rw [inR_y (by omega) (by omega)]; rfl) ?_
  refine g_nif_eq E 26 d_CY_cares_19 (by decide) (by decide) (fun h2 => absurd h2 (by decide)) (fun _ => ?_)
  refine g_iconst (v := nI 1) E d_CY_cares_22 (by decide) ?_
  refine g_goto E 27 d_CY_cares_23 (by decide) ?_
  refine gpSv (As := [.int (nI 1)]) (rest := []) E gO_w (C_CY_refuseUnless l) (cs_CY_55 E rfl rfl ⟨Nat.le_of_ble_eq_true rfl, Nat.le_of_ble_eq_true rfl⟩) rfl rfl (Nat.le_of_ble_eq_true rfl) ⟨Nat.zero_le _, Nat.zero_le _⟩ d_CY_cares_27 ?_
  refine g_aload_n E d_CY_cares_30 rfl 0 rfl ?_
  refine gf_CY_30 E gO_w 0 rfl rfl d_CY_cares_31 ?_
  refine g_iload_n E d_CY_cares_34 rfl 1 rfl ?_
  refine g_iload_n E d_CY_cares_35 rfl 2 rfl ?_
  refine gwVv (As := [.int (nI i), .int (nI y)]) (rest := []) (w' := wC V ad r1 r2 r3 nY ix bu np st sr sx tk rn ((eY (sr i) (sx i) (st i) (rn i) sh sn yw (y + 1)).1) ((eY (sr i) (sx i) (st i) (rn i) sh sn yw (y + 1)).2.2) ((eY (sr i) (sx i) (st i) (rn i) sh sn yw (y + 1)).2.1) nw yo ce wo po ne cs sv mk sp rs bg dp) (mc := 0) (ms := 0) E hA0 4 rfl rfl (C_Pa_goTo l i y (by omega) (by omega) (by omega) (by omega) (by omega) hx) (cs_CY_93 E rfl rfl ⟨Nat.le_of_ble_eq_true rfl, Nat.le_of_ble_eq_true rfl⟩) rfl rfl (Nat.le_of_ble_eq_true rfl) ⟨Nat.zero_le _, Nat.zero_le _⟩ d_CY_cares_36 ?_
  refine g_aload_n E d_CY_cares_39 rfl 0 rfl ?_
  refine gf_CY_21 E gO_w 0 rfl rfl d_CY_cares_40 ?_
  refine g_iload_n E d_CY_cares_43 rfl 2 rfl ?_
  refine g_aload_n E d_CY_cares_44 rfl 0 rfl ?_
  refine gf_CY_30 E gO_w 0 rfl rfl d_CY_cares_45 ?_
  refine g_iload_n E d_CY_cares_48 rfl 1 rfl ?_
  refine gpVi (As := [.int (nI i)]) (rest := [.int (nI y), .ref (ad 1)]) E gO_w 4 rfl rfl ((C_Pa_careTaken l i (by omega) hs ht (by rw [eY_sh]; exact tk_lt hsi hM (by omega) (ht _)) (by rw [eY_yw]; exact (shC_sum hsi hM (by omega)).2))) (cs_CY_101 E rfl rfl ⟨Nat.le_of_ble_eq_true rfl, Nat.le_of_ble_eq_true rfl⟩) rfl rfl (Nat.le_of_ble_eq_true rfl) ⟨Nat.zero_le _, Nat.zero_le _⟩ d_CY_cares_49 ?_
  refine g_topi (show nI _ = nI (tkC (sr i) (sx i) (st i) (rn i) (tk i) y) from congrArg nI (by unfold tkC; rw [← eY_sh (sh := sh) (sn := sn) (yw := yw), ← eY_yw (sh := sh) (sn := sn) (yw := yw)])) ?_
  have q4 := tkC_le (rn := rn i) hsi hM (show y < 12 by omega) (ht i)
  have q5 := hix y
  refine gpVi (As := [.int (nI y), .int (nI (tkC (sr i) (sx i) (st i) (rn i) (tk i) y))]) (rest := []) E gO_w 1 rfl rfl (C_Ye_costIn l y (tkC (sr i) (sx i) (st i) (rn i) (tk i) y) (by omega) (by omega) (by omega)) (cs_CY_105 E rfl rfl ⟨Nat.le_of_ble_eq_true rfl, Nat.le_of_ble_eq_true rfl⟩) rfl rfl (Nat.le_of_ble_eq_true rfl) ⟨Nat.zero_le _, Nat.zero_le _⟩ d_CY_cares_52 ?_
  exact g_iret E hr hlk d_CY_cares_55 (gq_wi (w1 := fun _ => wC V ad r1 r2 r3 nY ix bu np st sr sx tk rn ((eY (sr i) (sx i) (st i) (rn i) sh sn yw (y + 1)).1) ((eY (sr i) (sx i) (st i) (rn i) sh sn yw (y + 1)).2.2) ((eY (sr i) (sx i) (st i) (rn i) sh sn yw (y + 1)).2.1) nw yo ce wo po ne cs sv mk sp rs bg dp) () (rfl))

set_option maxHeartbeats 4000000 in
set_option maxRecDepth 100000 in
theorem C_CY_most (l : Launch) {V : gV} {ad r1 r2 r3 : Nat → Nat} {nY : Nat} {ix bu : Nat → Nat} {np : Nat} {st sr : Nat → Nat} {sx tk : Nat → Nat → Nat} {rn sh sn : Nat → Nat} {yw nw : Nat} {yo ce wo : Nat → Nat} {po ne : Nat → Option Nat} {cs : Nat → Nat} {sv : Nat → Nat → Nat} {mk : Nat} {sp rs : Nat → Int} {bg dp : Nat} (i y : Nat) (hi : i < np) (hnp : np ≤ 12) (hs : st i ≤ 4) (hs2 : 2 ≤ st i) (hy : y < nY) (hY : nY ≤ 12) (hr : sr i < 4) (hn : rn i < 4096) (hx : ∀ i j, sx i j ≤ 16) (hb : ∀ a, a < 4 → (eY (sr i) (sx i) (st i) (rn i) sh sn yw (y + 1)).1 a < 2 ^ 62) : mWi l y_CY_most (w_CY_most :: gt) rm_CY_most V (wC V ad r1 r2 r3 nY ix bu np st sr sx tk rn sh sn yw nw yo ce wo po ne cs sv mk sp rs bg dp) [.ref (ad 0), .int (nI i), .int (nI y)] (nI (grS (eY (sr i) (sx i) (st i) (rn i) sh sn yw (y + 1)).1 (st i - 1))) (wC V ad r1 r2 r3 nY ix bu np st sr sx tk rn ((eY (sr i) (sx i) (st i) (rn i) sh sn yw (y + 1)).1) ((eY (sr i) (sx i) (st i) (rn i) sh sn yw (y + 1)).2.2) ((eY (sr i) (sx i) (st i) (rn i) sh sn yw (y + 1)).2.1) nw yo ce wo po ne cs sv mk sp rs bg dp) 0 0 := by
  intro sz
  refine gMet (V := V) (As := [.ref (ad 0), .int (nI i), .int (nI y)]) (cc := c_CY_most) (maxL := 3) (ret := (some .int)) (by decide) rfl (Nat.le_of_ble_eq_true rfl) (fun a U h => ⟨h.1, h.2.2.2.1⟩) ?_
  intro p e s m below meth c E hr hlk hnm hv
  refine g_toW (sz := sz) (w := wC V ad r1 r2 r3 nY ix bu np st sr sx tk rn sh sn yw nw yo ce wo po ne cs sv mk sp rs bg dp) hv.2.2.1 hv.2.2.2.2 ?_
  have hA0 : ∀ q : Nat, s.heap.size ≤ q → va_A (wC V ad r1 r2 r3 nY ix bu np st sr sx tk rn sh sn yw nw yo ce wo po ne cs sv mk sp rs bg dp) sz q := fun q h => Or.inr (by rw [← hv.2.1]; exact h)
  refine g_aload_n E d_CY_most_0 rfl 0 rfl ?_
  refine gf_CY_30 E gO_w 0 rfl rfl d_CY_most_1 ?_
  refine g_iload_n E d_CY_most_4 rfl 1 rfl ?_
  refine gpVi (As := [.int (nI i)]) (rest := []) E gO_w 4 rfl rfl (C_Pa_has l (nI i)) (cs_CY_100 E rfl rfl ⟨Nat.le_of_ble_eq_true rfl, Nat.le_of_ble_eq_true rfl⟩) rfl rfl (Nat.le_of_ble_eq_true rfl) ⟨Nat.zero_le _, Nat.zero_le _⟩ d_CY_most_5 ?_
  refine g_topi (show bI _ = nI 1 from by rw [inR_y (by omega) (by omega)]; rfl) ?_
  refine g_nif_eq E 26 d_CY_most_8 (by decide) (by decide) (fun h1 => absurd h1 (by decide)) (fun _ => ?_)
  refine g_aload_n E d_CY_most_11 rfl 0 rfl ?_
  refine gf_CY_21 E gO_w 0 rfl rfl d_CY_most_12 ?_
  refine g_iload_n E d_CY_most_15 rfl 2 rfl ?_
  refine gpVi (As := [.int (nI y)]) (rest := []) E gO_w 1 rfl rfl (C_Ye_has l (nI y)) (cs_CY_47 E rfl rfl ⟨Nat.le_of_ble_eq_true rfl, Nat.le_of_ble_eq_true rfl⟩) rfl rfl (Nat.le_of_ble_eq_true rfl) ⟨Nat.zero_le _, Nat.zero_le _⟩ d_CY_most_16 ?_
  refine g_topi (show bI _ = nI 1 from by rw [inR_y (by omega) (by omega)]; rfl) ?_
  refine g_nif_eq E 26 d_CY_most_19 (by decide) (by decide) (fun h2 => absurd h2 (by decide)) (fun _ => ?_)
  refine g_iconst (v := nI 1) E d_CY_most_22 (by decide) ?_
  refine g_goto E 27 d_CY_most_23 (by decide) ?_
  refine gpSv (As := [.int (nI 1)]) (rest := []) E gO_w (C_CY_refuseUnless l) (cs_CY_55 E rfl rfl ⟨Nat.le_of_ble_eq_true rfl, Nat.le_of_ble_eq_true rfl⟩) rfl rfl (Nat.le_of_ble_eq_true rfl) ⟨Nat.zero_le _, Nat.zero_le _⟩ d_CY_most_27 ?_
  refine g_aload_n E d_CY_most_30 rfl 0 rfl ?_
  refine gf_CY_30 E gO_w 0 rfl rfl d_CY_most_31 ?_
  refine g_iload_n E d_CY_most_34 rfl 1 rfl ?_
  refine g_iload_n E d_CY_most_35 rfl 2 rfl ?_
  refine gwVv (As := [.int (nI i), .int (nI y)]) (rest := []) (w' := wC V ad r1 r2 r3 nY ix bu np st sr sx tk rn ((eY (sr i) (sx i) (st i) (rn i) sh sn yw (y + 1)).1) ((eY (sr i) (sx i) (st i) (rn i) sh sn yw (y + 1)).2.2) ((eY (sr i) (sx i) (st i) (rn i) sh sn yw (y + 1)).2.1) nw yo ce wo po ne cs sv mk sp rs bg dp) (mc := 0) (ms := 0) E hA0 4 rfl rfl (C_Pa_goTo l i y (by omega) (by omega) (by omega) (by omega) (by omega) hx) (cs_CY_93 E rfl rfl ⟨Nat.le_of_ble_eq_true rfl, Nat.le_of_ble_eq_true rfl⟩) rfl rfl (Nat.le_of_ble_eq_true rfl) ⟨Nat.zero_le _, Nat.zero_le _⟩ d_CY_most_36 ?_
  refine g_aload_n E d_CY_most_39 rfl 0 rfl ?_
  refine gf_CY_30 E gO_w 0 rfl rfl d_CY_most_40 ?_
  refine g_iload_n E d_CY_most_43 rfl 1 rfl ?_
  refine gpVi (As := [.int (nI i)]) (rest := []) E gO_w 4 rfl rfl (C_Pa_greatestState l i (by omega) (by omega) (by omega) hb) (cs_CY_108 E rfl rfl ⟨Nat.le_of_ble_eq_true rfl, Nat.le_of_ble_eq_true rfl⟩) rfl rfl (Nat.le_of_ble_eq_true rfl) ⟨Nat.zero_le _, Nat.zero_le _⟩ d_CY_most_44 ?_
  exact g_iret E hr hlk d_CY_most_47 (gq_wi (w1 := fun _ => wC V ad r1 r2 r3 nY ix bu np st sr sx tk rn ((eY (sr i) (sx i) (st i) (rn i) sh sn yw (y + 1)).1) ((eY (sr i) (sx i) (st i) (rn i) sh sn yw (y + 1)).2.2) ((eY (sr i) (sx i) (st i) (rn i) sh sn yw (y + 1)).2.1) nw yo ce wo po ne cs sv mk sp rs bg dp) () (by simp))
