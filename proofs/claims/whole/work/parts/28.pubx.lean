set_option maxHeartbeats 4000000 in
set_option maxRecDepth 100000 in
theorem X_CY_index (l : Launch) (hf : l.flags = flags0) {V : gV} {ad r1 r2 r3 : Nat → Nat} {nY : Nat} {ix bu : Nat → Nat} {np : Nat} {st sr : Nat → Nat} {sx tk : Nat → Nat → Nat} {rn sh sn : Nat → Nat} {yw nw : Nat} {yo ce wo : Nat → Nat} {po ne : Nat → Option Nat} {cs : Nat → Nat} {sv : Nat → Nat → Nat} {mk : Nat} {sp rs : Nat → Int} {bg dp : Nat} (x v : Int32) (hb : (inR x (nI nY) && inB v (nI 500) (nI 2000)) = false) : mX l y_CY_index (w_CY_index :: gt) { frames := 7, cells := 1, slots := 6, locals := 120 } V (wC V ad r1 r2 r3 nY ix bu np st sr sx tk rn sh sn yw nw yo ce wo po ne cs sv mk sp rs bg dp) [.ref (ad 0), .int x, .int v] nIAE := by
  refine gMetX (V := V) (As := [.ref (ad 0), .int x, .int v]) (cc := c_CY_index) (maxL := 4) (ret := (some .int)) (by decide) rfl (Nat.le_of_ble_eq_true rfl) (fun a U h => ⟨h.1, h.2.2.1⟩) ?_
  intro p e s m below meth c E hadm hne hlk hv
  have hO := gO_r (locs1 := []) (ws := wC V ad r1 r2 r3 nY ix bu np st sr sx tk rn sh sn yw nw yo ce wo po ne cs sv mk sp rs bg dp) hv.2.1
  refine g_aload_n E d_CY_index_0 rfl 0 rfl ?_
  refine gf_CY_21 E hO 0 rfl rfl d_CY_index_1 ?_
  refine g_iload_n E d_CY_index_4 rfl 1 rfl ?_
  refine gpVi (As := [.int x]) (rest := []) E hO 1 rfl rfl (C_Ye_has l x) (cs_CY_47 E rfl rfl ⟨Nat.le_of_ble_eq_true rfl, Nat.le_of_ble_eq_true rfl⟩) rfl rfl (Nat.le_of_ble_eq_true rfl) ⟨Nat.zero_le _, Nat.zero_le _⟩ d_CY_index_5 ?_
  refine g_bif_eq E 28 d_CY_index_8 (by decide) (fun h1 => ?_) (fun h1 => ?_)
  · refine g_iconst (v := nI 0) E d_CY_index_28 (by decide) ?_
    exact gx_S E hne hlk (X_CY_refuseUnless l hf (V := V) (w := wC V ad r1 r2 r3 nY ix bu np st sr sx tk rn sh sn yw nw yo ce wo po ne cs sv mk sp rs bg dp)) cX.blind (cs_CY_55 E rfl rfl ⟨Nat.le_of_ble_eq_true rfl, Nat.le_of_ble_eq_true rfl⟩) (As := [.int (nI 0)]) (rest := []) rfl rfl (Nat.le_of_ble_eq_true rfl) d_CY_index_29 ⟨Nat.le_of_ble_eq_true rfl, Nat.le_of_ble_eq_true rfl⟩ (fun U hU hWU => ⟨rfl, by rw [hU]; exact hv.2.1, gK.warm hWU hv.2.2.1, XK.move hWU (fun _ _ => by rw [hU]) hv.2.2.2⟩)
  · refine g_iload_n E d_CY_index_11 rfl 2 rfl ?_
    refine g_sipush (v := nI 500) E d_CY_index_12 (by decide) ?_
    refine g_sipush (v := nI 2000) E d_CY_index_15 (by decide) ?_
    refine gpSi (As := [.int v, .int (nI 500), .int (nI 2000)]) (rest := []) E hO (C_CY_isWithin l v (nI 500) (nI 2000)) (cs_CY_51 E rfl rfl ⟨Nat.le_of_ble_eq_true rfl, Nat.le_of_ble_eq_true rfl⟩) rfl rfl (Nat.le_of_ble_eq_true rfl) ⟨Nat.zero_le _, Nat.zero_le _⟩ d_CY_index_18 ?_
    refine g_bif_eq E 28 d_CY_index_21 (by decide) (fun h2 => ?_) (fun h2 => ?_)
    · refine g_iconst (v := nI 0) E d_CY_index_28 (by decide) ?_
      exact gx_S E hne hlk (X_CY_refuseUnless l hf (V := V) (w := wC V ad r1 r2 r3 nY ix bu np st sr sx tk rn sh sn yw nw yo ce wo po ne cs sv mk sp rs bg dp)) cX.blind (cs_CY_55 E rfl rfl ⟨Nat.le_of_ble_eq_true rfl, Nat.le_of_ble_eq_true rfl⟩) (As := [.int (nI 0)]) (rest := []) rfl rfl (Nat.le_of_ble_eq_true rfl) d_CY_index_29 ⟨Nat.le_of_ble_eq_true rfl, Nat.le_of_ble_eq_true rfl⟩ (fun U hU hWU => ⟨rfl, by rw [hU]; exact hv.2.1, gK.warm hWU hv.2.2.1, XK.move hWU (fun _ _ => by rw [hU]) hv.2.2.2⟩)
    · refine g_iconst (v := nI 1) E d_CY_index_24 (by decide) ?_
      refine g_goto E 29 d_CY_index_25 (by decide) ?_
      exact absurd hb (by first | (simp [h1, h2]; done) | simp_all)

set_option maxHeartbeats 4000000 in
set_option maxRecDepth 100000 in
theorem X_CY_budget (l : Launch) (hf : l.flags = flags0) {V : gV} {ad r1 r2 r3 : Nat → Nat} {nY : Nat} {ix bu : Nat → Nat} {np : Nat} {st sr : Nat → Nat} {sx tk : Nat → Nat → Nat} {rn sh sn : Nat → Nat} {yw nw : Nat} {yo ce wo : Nat → Nat} {po ne : Nat → Option Nat} {cs : Nat → Nat} {sv : Nat → Nat → Nat} {mk : Nat} {sp rs : Nat → Int} {bg dp : Nat} (x v : Int32) (hb : (inR x (nI nY) && inB v (nI 0) (nI 1000000000)) = false) : mX l y_CY_budget (w_CY_budget :: gt) { frames := 7, cells := 1, slots := 6, locals := 120 } V (wC V ad r1 r2 r3 nY ix bu np st sr sx tk rn sh sn yw nw yo ce wo po ne cs sv mk sp rs bg dp) [.ref (ad 0), .int x, .int v] nIAE := by
  refine gMetX (V := V) (As := [.ref (ad 0), .int x, .int v]) (cc := c_CY_budget) (maxL := 4) (ret := (some .int)) (by decide) rfl (Nat.le_of_ble_eq_true rfl) (fun a U h => ⟨h.1, h.2.2.1⟩) ?_
  intro p e s m below meth c E hadm hne hlk hv
  have hO := gO_r (locs1 := []) (ws := wC V ad r1 r2 r3 nY ix bu np st sr sx tk rn sh sn yw nw yo ce wo po ne cs sv mk sp rs bg dp) hv.2.1
  refine g_aload_n E d_CY_budget_0 rfl 0 rfl ?_
  refine gf_CY_21 E hO 0 rfl rfl d_CY_budget_1 ?_
  refine g_iload_n E d_CY_budget_4 rfl 1 rfl ?_
  refine gpVi (As := [.int x]) (rest := []) E hO 1 rfl rfl (C_Ye_has l x) (cs_CY_47 E rfl rfl ⟨Nat.le_of_ble_eq_true rfl, Nat.le_of_ble_eq_true rfl⟩) rfl rfl (Nat.le_of_ble_eq_true rfl) ⟨Nat.zero_le _, Nat.zero_le _⟩ d_CY_budget_5 ?_
  refine g_bif_eq E 25 d_CY_budget_8 (by decide) (fun h1 => ?_) (fun h1 => ?_)
  · refine g_iconst (v := nI 0) E d_CY_budget_25 (by decide) ?_
    exact gx_S E hne hlk (X_CY_refuseUnless l hf (V := V) (w := wC V ad r1 r2 r3 nY ix bu np st sr sx tk rn sh sn yw nw yo ce wo po ne cs sv mk sp rs bg dp)) cX.blind (cs_CY_55 E rfl rfl ⟨Nat.le_of_ble_eq_true rfl, Nat.le_of_ble_eq_true rfl⟩) (As := [.int (nI 0)]) (rest := []) rfl rfl (Nat.le_of_ble_eq_true rfl) d_CY_budget_26 ⟨Nat.le_of_ble_eq_true rfl, Nat.le_of_ble_eq_true rfl⟩ (fun U hU hWU => ⟨rfl, by rw [hU]; exact hv.2.1, gK.warm hWU hv.2.2.1, XK.move hWU (fun _ _ => by rw [hU]) hv.2.2.2⟩)
  · refine g_iload_n E d_CY_budget_11 rfl 2 rfl ?_
    refine g_iconst (v := nI 0) E d_CY_budget_12 (by decide) ?_
    refine g_ldc E kk_CY_63 d_CY_budget_13 ?_
    refine g_topi (show ((1000000000) : Int32) = nI 1000000000 from by decide) ?_
    refine gpSi (As := [.int v, .int (nI 0), .int (nI 1000000000)]) (rest := []) E hO (C_CY_isWithin l v (nI 0) (nI 1000000000)) (cs_CY_51 E rfl rfl ⟨Nat.le_of_ble_eq_true rfl, Nat.le_of_ble_eq_true rfl⟩) rfl rfl (Nat.le_of_ble_eq_true rfl) ⟨Nat.zero_le _, Nat.zero_le _⟩ d_CY_budget_15 ?_
    refine g_bif_eq E 25 d_CY_budget_18 (by decide) (fun h2 => ?_) (fun h2 => ?_)
    · refine g_iconst (v := nI 0) E d_CY_budget_25 (by decide) ?_
      exact gx_S E hne hlk (X_CY_refuseUnless l hf (V := V) (w := wC V ad r1 r2 r3 nY ix bu np st sr sx tk rn sh sn yw nw yo ce wo po ne cs sv mk sp rs bg dp)) cX.blind (cs_CY_55 E rfl rfl ⟨Nat.le_of_ble_eq_true rfl, Nat.le_of_ble_eq_true rfl⟩) (As := [.int (nI 0)]) (rest := []) rfl rfl (Nat.le_of_ble_eq_true rfl) d_CY_budget_26 ⟨Nat.le_of_ble_eq_true rfl, Nat.le_of_ble_eq_true rfl⟩ (fun U hU hWU => ⟨rfl, by rw [hU]; exact hv.2.1, gK.warm hWU hv.2.2.1, XK.move hWU (fun _ _ => by rw [hU]) hv.2.2.2⟩)
    · refine g_iconst (v := nI 1) E d_CY_budget_21 (by decide) ?_
      refine g_goto E 26 d_CY_budget_22 (by decide) ?_
      exact absurd hb (by first | (simp [h1, h2]; done) | simp_all)

set_option maxHeartbeats 4000000 in
set_option maxRecDepth 100000 in
theorem X_CY_part_1 (l : Launch) (hf : l.flags = flags0) {V : gV} {ad r1 r2 r3 : Nat → Nat} {nY : Nat} {ix bu : Nat → Nat} {np : Nat} {st sr : Nat → Nat} {sx tk : Nat → Nat → Nat} {rn sh sn : Nat → Nat} {yw nw : Nat} {yo ce wo : Nat → Nat} {po ne : Nat → Option Nat} {cs : Nat → Nat} {sv : Nat → Nat → Nat} {mk : Nat} {sp rs : Nat → Int} {bg dp : Nat} (k r : Int32) (hb : inB k (nI 2) (nI 4) = false) : mX l y_CY_part (w_CY_part :: gt) { frames := 7, cells := 1, slots := 6, locals := 120 } V (wC V ad r1 r2 r3 nY ix bu np st sr sx tk rn sh sn yw nw yo ce wo po ne cs sv mk sp rs bg dp) [.ref (ad 0), .int k, .int r] nIAE := by
  refine gMetX (V := V) (As := [.ref (ad 0), .int k, .int r]) (cc := c_CY_part) (maxL := 3) (ret := (some .int)) (by decide) rfl (Nat.le_of_ble_eq_true rfl) (fun a U h => ⟨h.1, h.2.2.1⟩) ?_
  intro p e s m below meth c E hadm hne hlk hv
  have hO := gO_r (locs1 := []) (ws := wC V ad r1 r2 r3 nY ix bu np st sr sx tk rn sh sn yw nw yo ce wo po ne cs sv mk sp rs bg dp) hv.2.1
  refine g_iload_n E d_CY_part_0 rfl 1 rfl ?_
  refine g_iconst (v := nI 2) E d_CY_part_1 (by decide) ?_
  refine g_iconst (v := nI 4) E d_CY_part_2 (by decide) ?_
  refine gpSi (As := [.int k, .int (nI 2), .int (nI 4)]) (rest := []) E hO (C_CY_isWithin l k (nI 2) (nI 4)) (cs_CY_51 E rfl rfl ⟨Nat.le_of_ble_eq_true rfl, Nat.le_of_ble_eq_true rfl⟩) rfl rfl (Nat.le_of_ble_eq_true rfl) ⟨Nat.zero_le _, Nat.zero_le _⟩ d_CY_part_3 ?_
  refine g_topi (show bI _ = nI 0 from by rw [hb]; rfl) ?_
  exact gx_S E hne hlk (X_CY_refuseUnless l hf (V := V) (w := wC V ad r1 r2 r3 nY ix bu np st sr sx tk rn sh sn yw nw yo ce wo po ne cs sv mk sp rs bg dp)) cX.blind (cs_CY_55 E rfl rfl ⟨Nat.le_of_ble_eq_true rfl, Nat.le_of_ble_eq_true rfl⟩) (As := [.int (nI 0)]) (rest := []) rfl rfl (Nat.le_of_ble_eq_true rfl) d_CY_part_6 ⟨Nat.le_of_ble_eq_true rfl, Nat.le_of_ble_eq_true rfl⟩ (fun U hU hWU => ⟨rfl, by rw [hU]; exact hv.2.1, gK.warm hWU hv.2.2.1, XK.move hWU (fun _ _ => by rw [hU]) hv.2.2.2⟩)

set_option maxHeartbeats 4000000 in
set_option maxRecDepth 100000 in
theorem X_CY_part_2 (l : Launch) (hf : l.flags = flags0) {V : gV} {ad r1 r2 r3 : Nat → Nat} {nY : Nat} {ix bu : Nat → Nat} {np : Nat} {st sr : Nat → Nat} {sx tk : Nat → Nat → Nat} {rn sh sn : Nat → Nat} {yw nw : Nat} {yo ce wo : Nat → Nat} {po ne : Nat → Option Nat} {cs : Nat → Nat} {sv : Nat → Nat → Nat} {mk : Nat} {sp rs : Nat → Int} {bg dp : Nat} (k : Nat) (r : Int32) (h1 : 2 ≤ k) (h2 : k ≤ 4) (hb : inB r (nI 0) (nI (k - 1)) = false) : mX l y_CY_part (w_CY_part :: gt) { frames := 7, cells := 1, slots := 6, locals := 120 } V (wC V ad r1 r2 r3 nY ix bu np st sr sx tk rn sh sn yw nw yo ce wo po ne cs sv mk sp rs bg dp) [.ref (ad 0), .int (nI k), .int r] nIAE := by
  refine gMetX (V := V) (As := [.ref (ad 0), .int (nI k), .int r]) (cc := c_CY_part) (maxL := 3) (ret := (some .int)) (by decide) rfl (Nat.le_of_ble_eq_true rfl) (fun a U h => ⟨h.1, h.2.2.1⟩) ?_
  intro p e s m below meth c E hadm hne hlk hv
  have hO := gO_r (locs1 := []) (ws := wC V ad r1 r2 r3 nY ix bu np st sr sx tk rn sh sn yw nw yo ce wo po ne cs sv mk sp rs bg dp) hv.2.1
  refine g_iload_n E d_CY_part_0 rfl 1 rfl ?_
  refine g_iconst (v := nI 2) E d_CY_part_1 (by decide) ?_
  refine g_iconst (v := nI 4) E d_CY_part_2 (by decide) ?_
  refine gpSi (As := [.int (nI k), .int (nI 2), .int (nI 4)]) (rest := []) E hO (C_CY_isWithin l (nI k) (nI 2) (nI 4)) (cs_CY_51 E rfl rfl ⟨Nat.le_of_ble_eq_true rfl, Nat.le_of_ble_eq_true rfl⟩) rfl rfl (Nat.le_of_ble_eq_true rfl) ⟨Nat.zero_le _, Nat.zero_le _⟩ d_CY_part_3 ?_
  refine g_topi (show bI _ = nI 1 from by rw [inB_y (by omega) (by omega) (by omega)]; rfl) ?_
  refine gpSv (As := [.int (nI 1)]) (rest := []) E hO (C_CY_refuseUnless l) (cs_CY_55 E rfl rfl ⟨Nat.le_of_ble_eq_true rfl, Nat.le_of_ble_eq_true rfl⟩) rfl rfl (Nat.le_of_ble_eq_true rfl) ⟨Nat.zero_le _, Nat.zero_le _⟩ d_CY_part_6 ?_
  refine g_iload_n E d_CY_part_9 rfl 2 rfl ?_
  refine g_iconst (v := nI 0) E d_CY_part_10 (by decide) ?_
  refine g_iload_n E d_CY_part_11 rfl 1 rfl ?_
  refine g_iconst (v := nI 1) E d_CY_part_12 (by decide) ?_
  refine g_isub E d_CY_part_13 ?_
  refine g_topi (pk_sub (by omega)) ?_
  refine gpSi (As := [.int r, .int (nI 0), .int (nI (k - 1))]) (rest := []) E hO (C_CY_isWithin l r (nI 0) (nI (k - 1))) (cs_CY_51 E rfl rfl ⟨Nat.le_of_ble_eq_true rfl, Nat.le_of_ble_eq_true rfl⟩) rfl rfl (Nat.le_of_ble_eq_true rfl) ⟨Nat.zero_le _, Nat.zero_le _⟩ d_CY_part_14 ?_
  refine g_topi (show bI _ = nI 0 from by rw [hb]; rfl) ?_
  exact gx_S E hne hlk (X_CY_refuseUnless l hf (V := V) (w := wC V ad r1 r2 r3 nY ix bu np st sr sx tk rn sh sn yw nw yo ce wo po ne cs sv mk sp rs bg dp)) cX.blind (cs_CY_55 E rfl rfl ⟨Nat.le_of_ble_eq_true rfl, Nat.le_of_ble_eq_true rfl⟩) (As := [.int (nI 0)]) (rest := []) rfl rfl (Nat.le_of_ble_eq_true rfl) d_CY_part_17 ⟨Nat.le_of_ble_eq_true rfl, Nat.le_of_ble_eq_true rfl⟩ (fun U hU hWU => ⟨rfl, by rw [hU]; exact hv.2.1, gK.warm hWU hv.2.2.1, XK.move hWU (fun _ _ => by rw [hU]) hv.2.2.2⟩)

set_option maxHeartbeats 4000000 in
set_option maxRecDepth 100000 in
theorem X_CY_part_3 (l : Launch) (hf : l.flags = flags0) {V : gV} {ad r1 r2 r3 : Nat → Nat} {nY : Nat} {ix bu : Nat → Nat} {np : Nat} {st sr : Nat → Nat} {sx tk : Nat → Nat → Nat} {rn sh sn : Nat → Nat} {yw nw : Nat} {yo ce wo : Nat → Nat} {po ne : Nat → Option Nat} {cs : Nat → Nat} {sv : Nat → Nat → Nat} {mk : Nat} {sp rs : Nat → Int} {bg dp : Nat} (k r : Nat) (h1 : 2 ≤ k) (h2 : k ≤ 4) (h3 : r < k) (hnp : np = 12) : mX l y_CY_part (w_CY_part :: gt) { frames := 7, cells := 1, slots := 6, locals := 120 } V (wC V ad r1 r2 r3 nY ix bu np st sr sx tk rn sh sn yw nw yo ce wo po ne cs sv mk sp rs bg dp) [.ref (ad 0), .int (nI k), .int (nI r)] nISE := by
  refine gMetX (V := V) (As := [.ref (ad 0), .int (nI k), .int (nI r)]) (cc := c_CY_part) (maxL := 3) (ret := (some .int)) (by decide) rfl (Nat.le_of_ble_eq_true rfl) (fun a U h => ⟨h.1, h.2.2.1⟩) ?_
  intro p e s m below meth c E hadm hne hlk hv
  have hO := gO_r (locs1 := []) (ws := wC V ad r1 r2 r3 nY ix bu np st sr sx tk rn sh sn yw nw yo ce wo po ne cs sv mk sp rs bg dp) hv.2.1
  refine g_iload_n E d_CY_part_0 rfl 1 rfl ?_
  refine g_iconst (v := nI 2) E d_CY_part_1 (by decide) ?_
  refine g_iconst (v := nI 4) E d_CY_part_2 (by decide) ?_
  refine gpSi (As := [.int (nI k), .int (nI 2), .int (nI 4)]) (rest := []) E hO (C_CY_isWithin l (nI k) (nI 2) (nI 4)) (cs_CY_51 E rfl rfl ⟨Nat.le_of_ble_eq_true rfl, Nat.le_of_ble_eq_true rfl⟩) rfl rfl (Nat.le_of_ble_eq_true rfl) ⟨Nat.zero_le _, Nat.zero_le _⟩ d_CY_part_3 ?_
  refine g_topi (show bI _ = nI 1 from by rw [inB_y (by omega) (by omega) (by omega)]; rfl) ?_
  refine gpSv (As := [.int (nI 1)]) (rest := []) E hO (C_CY_refuseUnless l) (cs_CY_55 E rfl rfl ⟨Nat.le_of_ble_eq_true rfl, Nat.le_of_ble_eq_true rfl⟩) rfl rfl (Nat.le_of_ble_eq_true rfl) ⟨Nat.zero_le _, Nat.zero_le _⟩ d_CY_part_6 ?_
  refine g_iload_n E d_CY_part_9 rfl 2 rfl ?_
  refine g_iconst (v := nI 0) E d_CY_part_10 (by decide) ?_
  refine g_iload_n E d_CY_part_11 rfl 1 rfl ?_
  refine g_iconst (v := nI 1) E d_CY_part_12 (by decide) ?_
  refine g_isub E d_CY_part_13 ?_
  refine g_topi (pk_sub (by omega)) ?_
  refine gpSi (As := [.int (nI r), .int (nI 0), .int (nI (k - 1))]) (rest := []) E hO (C_CY_isWithin l (nI r) (nI 0) (nI (k - 1))) (cs_CY_51 E rfl rfl ⟨Nat.le_of_ble_eq_true rfl, Nat.le_of_ble_eq_true rfl⟩) rfl rfl (Nat.le_of_ble_eq_true rfl) ⟨Nat.zero_le _, Nat.zero_le _⟩ d_CY_part_14 ?_
  refine g_topi (show bI _ = nI 1 from by rw [inB_y (by omega) (by omega) (by omega)]; rfl) ?_
  refine gpSv (As := [.int (nI 1)]) (rest := []) E hO (C_CY_refuseUnless l) (cs_CY_55 E rfl rfl ⟨Nat.le_of_ble_eq_true rfl, Nat.le_of_ble_eq_true rfl⟩) rfl rfl (Nat.le_of_ble_eq_true rfl) ⟨Nat.zero_le _, Nat.zero_le _⟩ d_CY_part_17 ?_
  refine g_aload_n E d_CY_part_20 rfl 0 rfl ?_
  refine gf_CY_30 E hO 0 rfl rfl d_CY_part_21 ?_
  refine gf_CY_67 E hO 4 rfl rfl d_CY_part_24 ?_
  refine g_bipush (v := nI 12) E d_CY_part_27 (by decide) ?_
  refine g_ncmp_lt E 36 d_CY_part_29 (by decide) (by omega) (by omega) (fun h1 => ?_) (fun h1 => ?_)
  · exact absurd h1 (by omega)
  · refine g_iconst (v := nI 1) E d_CY_part_32 (by decide) ?_
    refine g_goto E 37 d_CY_part_33 (by decide) ?_
    exact gx_S E hne hlk (X_CY_refuseIfFull l hf (V := V) (w := wC V ad r1 r2 r3 nY ix bu np st sr sx tk rn sh sn yw nw yo ce wo po ne cs sv mk sp rs bg dp)) cX.blind (cs_CY_71 E rfl rfl ⟨Nat.le_of_ble_eq_true rfl, Nat.le_of_ble_eq_true rfl⟩) (As := [.int (nI 1)]) (rest := []) rfl rfl (Nat.le_of_ble_eq_true rfl) d_CY_part_37 ⟨Nat.le_of_ble_eq_true rfl, Nat.le_of_ble_eq_true rfl⟩ (fun U hU hWU => ⟨rfl, by rw [hU]; exact hv.2.1, gK.warm hWU hv.2.2.1, XK.move hWU (fun _ _ => by rw [hU]) hv.2.2.2⟩)

set_option maxHeartbeats 4000000 in
set_option maxRecDepth 100000 in
theorem X_CY_moves_1 (l : Launch) (hf : l.flags = flags0) {V : gV} {ad r1 r2 r3 : Nat → Nat} {nY : Nat} {ix bu : Nat → Nat} {np : Nat} {st sr : Nat → Nat} {sx tk : Nat → Nat → Nat} {rn sh sn : Nat → Nat} {yw nw : Nat} {yo ce wo : Nat → Nat} {po ne : Nat → Option Nat} {cs : Nat → Nat} {sv : Nat → Nat → Nat} {mk : Nat} {sp rs : Nat → Int} {bg dp : Nat} (x a b v : Int32) (hnp : np ≤ 12) (hb : (hasSt np st x a && hasSt np st x b && !decide (a = b)) = false) : mX l y_CY_moves (w_CY_moves :: gt) { frames := 7, cells := 1, slots := 6, locals := 120 } V (wC V ad r1 r2 r3 nY ix bu np st sr sx tk rn sh sn yw nw yo ce wo po ne cs sv mk sp rs bg dp) [.ref (ad 0), .int x, .int a, .int b, .int v] nIAE := by
  refine gMetX (V := V) (As := [.ref (ad 0), .int x, .int a, .int b, .int v]) (cc := c_CY_moves) (maxL := 7) (ret := (some .int)) (by decide) rfl (Nat.le_of_ble_eq_true rfl) (fun a U h => ⟨h.1, h.2.2.1⟩) ?_
  intro p e s m below meth c E hadm hne hlk hv
  have hO := gO_r (locs1 := []) (ws := wC V ad r1 r2 r3 nY ix bu np st sr sx tk rn sh sn yw nw yo ce wo po ne cs sv mk sp rs bg dp) hv.2.1
  refine g_aload_n E d_CY_moves_0 rfl 0 rfl ?_
  refine gf_CY_30 E hO 0 rfl rfl d_CY_moves_1 ?_
  refine g_iload_n E d_CY_moves_4 rfl 1 rfl ?_
  refine g_iload_n E d_CY_moves_5 rfl 2 rfl ?_
  refine gpVi (As := [.int x, .int a]) (rest := []) E hO 4 rfl rfl (C_Pa_hasState l x a (by omega)) (cs_CY_77 E rfl rfl ⟨Nat.le_of_ble_eq_true rfl, Nat.le_of_ble_eq_true rfl⟩) rfl rfl (Nat.le_of_ble_eq_true rfl) ⟨Nat.zero_le _, Nat.zero_le _⟩ d_CY_moves_6 ?_
  refine g_bif_eq E 33 d_CY_moves_9 (by decide) (fun h1 => ?_) (fun h1 => ?_)
  · refine g_iconst (v := nI 0) E d_CY_moves_33 (by decide) ?_
    exact gx_S E hne hlk (X_CY_refuseUnless l hf (V := V) (w := wC V ad r1 r2 r3 nY ix bu np st sr sx tk rn sh sn yw nw yo ce wo po ne cs sv mk sp rs bg dp)) cX.blind (cs_CY_55 E rfl rfl ⟨Nat.le_of_ble_eq_true rfl, Nat.le_of_ble_eq_true rfl⟩) (As := [.int (nI 0)]) (rest := []) rfl rfl (Nat.le_of_ble_eq_true rfl) d_CY_moves_34 ⟨Nat.le_of_ble_eq_true rfl, Nat.le_of_ble_eq_true rfl⟩ (fun U hU hWU => ⟨rfl, by rw [hU]; exact hv.2.1, gK.warm hWU hv.2.2.1, XK.move hWU (fun _ _ => by rw [hU]) hv.2.2.2⟩)
  · refine g_aload_n E d_CY_moves_12 rfl 0 rfl ?_
    refine gf_CY_30 E hO 0 rfl rfl d_CY_moves_13 ?_
    refine g_iload_n E d_CY_moves_16 rfl 1 rfl ?_
    refine g_iload_n E d_CY_moves_17 rfl 3 rfl ?_
    refine gpVi (As := [.int x, .int b]) (rest := []) E hO 4 rfl rfl (C_Pa_hasState l x b (by omega)) (cs_CY_77 E rfl rfl ⟨Nat.le_of_ble_eq_true rfl, Nat.le_of_ble_eq_true rfl⟩) rfl rfl (Nat.le_of_ble_eq_true rfl) ⟨Nat.zero_le _, Nat.zero_le _⟩ d_CY_moves_18 ?_
    refine g_bif_eq E 33 d_CY_moves_21 (by decide) (fun h2 => ?_) (fun h2 => ?_)
    · refine g_iconst (v := nI 0) E d_CY_moves_33 (by decide) ?_
      exact gx_S E hne hlk (X_CY_refuseUnless l hf (V := V) (w := wC V ad r1 r2 r3 nY ix bu np st sr sx tk rn sh sn yw nw yo ce wo po ne cs sv mk sp rs bg dp)) cX.blind (cs_CY_55 E rfl rfl ⟨Nat.le_of_ble_eq_true rfl, Nat.le_of_ble_eq_true rfl⟩) (As := [.int (nI 0)]) (rest := []) rfl rfl (Nat.le_of_ble_eq_true rfl) d_CY_moves_34 ⟨Nat.le_of_ble_eq_true rfl, Nat.le_of_ble_eq_true rfl⟩ (fun U hU hWU => ⟨rfl, by rw [hU]; exact hv.2.1, gK.warm hWU hv.2.2.1, XK.move hWU (fun _ _ => by rw [hU]) hv.2.2.2⟩)
    · refine g_iload_n E d_CY_moves_24 rfl 2 rfl ?_
      refine g_iload_n E d_CY_moves_25 rfl 3 rfl ?_
      refine g_icmp_eq E 33 d_CY_moves_26 (by decide) (fun h3 => ?_) (fun h3 => ?_)
      · refine g_iconst (v := nI 0) E d_CY_moves_33 (by decide) ?_
        exact gx_S E hne hlk (X_CY_refuseUnless l hf (V := V) (w := wC V ad r1 r2 r3 nY ix bu np st sr sx tk rn sh sn yw nw yo ce wo po ne cs sv mk sp rs bg dp)) cX.blind (cs_CY_55 E rfl rfl ⟨Nat.le_of_ble_eq_true rfl, Nat.le_of_ble_eq_true rfl⟩) (As := [.int (nI 0)]) (rest := []) rfl rfl (Nat.le_of_ble_eq_true rfl) d_CY_moves_34 ⟨Nat.le_of_ble_eq_true rfl, Nat.le_of_ble_eq_true rfl⟩ (fun U hU hWU => ⟨rfl, by rw [hU]; exact hv.2.1, gK.warm hWU hv.2.2.1, XK.move hWU (fun _ _ => by rw [hU]) hv.2.2.2⟩)
      · refine g_iconst (v := nI 1) E d_CY_moves_29 (by decide) ?_
        refine g_goto E 34 d_CY_moves_30 (by decide) ?_
        exact absurd hb (by first | (simp [h1, h2, h3]; done) | simp_all)

set_option maxHeartbeats 4000000 in
set_option maxRecDepth 100000 in
theorem X_CY_moves_2 (l : Launch) (hf : l.flags = flags0) {V : gV} {ad r1 r2 r3 : Nat → Nat} {nY : Nat} {ix bu : Nat → Nat} {np : Nat} {st sr : Nat → Nat} {sx tk : Nat → Nat → Nat} {rn sh sn : Nat → Nat} {yw nw : Nat} {yo ce wo : Nat → Nat} {po ne : Nat → Option Nat} {cs : Nat → Nat} {sv : Nat → Nat → Nat} {mk : Nat} {sp rs : Nat → Int} {bg dp : Nat} (i a b : Nat) (v : Int32) (hi : i < np) (hnp : np ≤ 12) (hs : st i ≤ 4) (ha : a < st i) (hbs : b < st i) (hab : a ≠ b) (hb : inB v (nI 0) (nI 16) = false) : mX l y_CY_moves (w_CY_moves :: gt) { frames := 7, cells := 1, slots := 6, locals := 120 } V (wC V ad r1 r2 r3 nY ix bu np st sr sx tk rn sh sn yw nw yo ce wo po ne cs sv mk sp rs bg dp) [.ref (ad 0), .int (nI i), .int (nI a), .int (nI b), .int v] nIAE := by
  refine gMetX (V := V) (As := [.ref (ad 0), .int (nI i), .int (nI a), .int (nI b), .int v]) (cc := c_CY_moves) (maxL := 7) (ret := (some .int)) (by decide) rfl (Nat.le_of_ble_eq_true rfl) (fun a U h => ⟨h.1, h.2.2.1⟩) ?_
  intro p e s m below meth c E hadm hne hlk hv
  have hO := gO_r (locs1 := []) (ws := wC V ad r1 r2 r3 nY ix bu np st sr sx tk rn sh sn yw nw yo ce wo po ne cs sv mk sp rs bg dp) hv.2.1
  refine g_aload_n E d_CY_moves_0 rfl 0 rfl ?_
  refine gf_CY_30 E hO 0 rfl rfl d_CY_moves_1 ?_
  refine g_iload_n E d_CY_moves_4 rfl 1 rfl ?_
  refine g_iload_n E d_CY_moves_5 rfl 2 rfl ?_
  refine gpVi (As := [.int (nI i), .int (nI a)]) (rest := []) E hO 4 rfl rfl (C_Pa_hasState l (nI i) (nI a) (by omega)) (cs_CY_77 E rfl rfl ⟨Nat.le_of_ble_eq_true rfl, Nat.le_of_ble_eq_true rfl⟩) rfl rfl (Nat.le_of_ble_eq_true rfl) ⟨Nat.zero_le _, Nat.zero_le _⟩ d_CY_moves_6 ?_
  refine g_topi (show bI _ = nI 1 from by rw [hasSt_y (by omega) (by omega) (by omega) (by omega)]; rfl) ?_
  refine g_nif_eq E 33 d_CY_moves_9 (by decide) (by decide) (fun h1 => absurd h1 (by decide)) (fun _ => ?_)
  refine g_aload_n E d_CY_moves_12 rfl 0 rfl ?_
  refine gf_CY_30 E hO 0 rfl rfl d_CY_moves_13 ?_
  refine g_iload_n E d_CY_moves_16 rfl 1 rfl ?_
  refine g_iload_n E d_CY_moves_17 rfl 3 rfl ?_
  refine gpVi (As := [.int (nI i), .int (nI b)]) (rest := []) E hO 4 rfl rfl (C_Pa_hasState l (nI i) (nI b) (by omega)) (cs_CY_77 E rfl rfl ⟨Nat.le_of_ble_eq_true rfl, Nat.le_of_ble_eq_true rfl⟩) rfl rfl (Nat.le_of_ble_eq_true rfl) ⟨Nat.zero_le _, Nat.zero_le _⟩ d_CY_moves_18 ?_
  refine g_topi (show bI _ = nI 1 from by rw [hasSt_y (by omega) (by omega) (by omega) (by omega)]; rfl) ?_
  refine g_nif_eq E 33 d_CY_moves_21 (by decide) (by decide) (fun h2 => absurd h2 (by decide)) (fun _ => ?_)
  refine g_iload_n E d_CY_moves_24 rfl 2 rfl ?_
  refine g_iload_n E d_CY_moves_25 rfl 3 rfl ?_
  refine g_ncmp_eq E 33 d_CY_moves_26 (by decide) (by omega) (by omega) (fun h3 => ?_) (fun h3 => ?_)
  · exact absurd h3 (by omega)
  · refine g_iconst (v := nI 1) E d_CY_moves_29 (by decide) ?_
    refine g_goto E 34 d_CY_moves_30 (by decide) ?_
    refine gpSv (As := [.int (nI 1)]) (rest := []) E hO (C_CY_refuseUnless l) (cs_CY_55 E rfl rfl ⟨Nat.le_of_ble_eq_true rfl, Nat.le_of_ble_eq_true rfl⟩) rfl rfl (Nat.le_of_ble_eq_true rfl) ⟨Nat.zero_le _, Nat.zero_le _⟩ d_CY_moves_34 ?_
    refine g_iload E d_CY_moves_37 4 rfl ?_
    refine g_iconst (v := nI 0) E d_CY_moves_39 (by decide) ?_
    refine g_bipush (v := nI 16) E d_CY_moves_40 (by decide) ?_
    refine gpSi (As := [.int v, .int (nI 0), .int (nI 16)]) (rest := []) E hO (C_CY_isWithin l v (nI 0) (nI 16)) (cs_CY_51 E rfl rfl ⟨Nat.le_of_ble_eq_true rfl, Nat.le_of_ble_eq_true rfl⟩) rfl rfl (Nat.le_of_ble_eq_true rfl) ⟨Nat.zero_le _, Nat.zero_le _⟩ d_CY_moves_42 ?_
    refine g_topi (show bI _ = nI 0 from by rw [hb]; rfl) ?_
    exact gx_S E hne hlk (X_CY_refuseUnless l hf (V := V) (w := wC V ad r1 r2 r3 nY ix bu np st sr sx tk rn sh sn yw nw yo ce wo po ne cs sv mk sp rs bg dp)) cX.blind (cs_CY_55 E rfl rfl ⟨Nat.le_of_ble_eq_true rfl, Nat.le_of_ble_eq_true rfl⟩) (As := [.int (nI 0)]) (rest := []) rfl rfl (Nat.le_of_ble_eq_true rfl) d_CY_moves_45 ⟨Nat.le_of_ble_eq_true rfl, Nat.le_of_ble_eq_true rfl⟩ (fun U hU hWU => ⟨rfl, by rw [hU]; exact hv.2.1, gK.warm hWU hv.2.2.1, XK.move hWU (fun _ _ => by rw [hU]) hv.2.2.2⟩)

set_option maxHeartbeats 4000000 in
set_option maxRecDepth 100000 in
theorem X_CY_moves_3 (l : Launch) (hf : l.flags = flags0) {V : gV} {ad r1 r2 r3 : Nat → Nat} {nY : Nat} {ix bu : Nat → Nat} {np : Nat} {st sr : Nat → Nat} {sx tk : Nat → Nat → Nat} {rn sh sn : Nat → Nat} {yw nw : Nat} {yo ce wo : Nat → Nat} {po ne : Nat → Option Nat} {cs : Nat → Nat} {sv : Nat → Nat → Nat} {mk : Nat} {sp rs : Nat → Int} {bg dp : Nat} (i a b v : Nat) (hi : i < np) (hnp : np ≤ 12) (hs : st i ≤ 4) (ha : a < st i) (hbs : b < st i) (hab : a ≠ b) (hv16 : v ≤ 16) (hsx : sx i (a * 4 + a) + sx i (a * 4 + b) < v) : mX l y_CY_moves (w_CY_moves :: gt) { frames := 7, cells := 1, slots := 6, locals := 120 } V (wC V ad r1 r2 r3 nY ix bu np st sr sx tk rn sh sn yw nw yo ce wo po ne cs sv mk sp rs bg dp) [.ref (ad 0), .int (nI i), .int (nI a), .int (nI b), .int (nI v)] nIAE := by
  refine gMetX (V := V) (As := [.ref (ad 0), .int (nI i), .int (nI a), .int (nI b), .int (nI v)]) (cc := c_CY_moves) (maxL := 7) (ret := (some .int)) (by decide) rfl (Nat.le_of_ble_eq_true rfl) (fun a U h => ⟨h.1, h.2.2.1⟩) ?_
  intro p e s m below meth c E hadm hne hlk hv
  have hO := gO_r (locs1 := []) (ws := wC V ad r1 r2 r3 nY ix bu np st sr sx tk rn sh sn yw nw yo ce wo po ne cs sv mk sp rs bg dp) hv.2.1
  refine g_aload_n E d_CY_moves_0 rfl 0 rfl ?_
  refine gf_CY_30 E hO 0 rfl rfl d_CY_moves_1 ?_
  refine g_iload_n E d_CY_moves_4 rfl 1 rfl ?_
  refine g_iload_n E d_CY_moves_5 rfl 2 rfl ?_
  refine gpVi (As := [.int (nI i), .int (nI a)]) (rest := []) E hO 4 rfl rfl (C_Pa_hasState l (nI i) (nI a) (by omega)) (cs_CY_77 E rfl rfl ⟨Nat.le_of_ble_eq_true rfl, Nat.le_of_ble_eq_true rfl⟩) rfl rfl (Nat.le_of_ble_eq_true rfl) ⟨Nat.zero_le _, Nat.zero_le _⟩ d_CY_moves_6 ?_
  refine g_topi (show bI _ = nI 1 from by rw [hasSt_y (by omega) (by omega) (by omega) (by omega)]; rfl) ?_
  refine g_nif_eq E 33 d_CY_moves_9 (by decide) (by decide) (fun h1 => absurd h1 (by decide)) (fun _ => ?_)
  refine g_aload_n E d_CY_moves_12 rfl 0 rfl ?_
  refine gf_CY_30 E hO 0 rfl rfl d_CY_moves_13 ?_
  refine g_iload_n E d_CY_moves_16 rfl 1 rfl ?_
  refine g_iload_n E d_CY_moves_17 rfl 3 rfl ?_
  refine gpVi (As := [.int (nI i), .int (nI b)]) (rest := []) E hO 4 rfl rfl (C_Pa_hasState l (nI i) (nI b) (by omega)) (cs_CY_77 E rfl rfl ⟨Nat.le_of_ble_eq_true rfl, Nat.le_of_ble_eq_true rfl⟩) rfl rfl (Nat.le_of_ble_eq_true rfl) ⟨Nat.zero_le _, Nat.zero_le _⟩ d_CY_moves_18 ?_
  refine g_topi (show bI _ = nI 1 from by rw [hasSt_y (by omega) (by omega) (by omega) (by omega)]; rfl) ?_
  refine g_nif_eq E 33 d_CY_moves_21 (by decide) (by decide) (fun h2 => absurd h2 (by decide)) (fun _ => ?_)
  refine g_iload_n E d_CY_moves_24 rfl 2 rfl ?_
  refine g_iload_n E d_CY_moves_25 rfl 3 rfl ?_
  refine g_ncmp_eq E 33 d_CY_moves_26 (by decide) (by omega) (by omega) (fun h3 => ?_) (fun h3 => ?_)
  · exact absurd h3 (by omega)
  · refine g_iconst (v := nI 1) E d_CY_moves_29 (by decide) ?_
    refine g_goto E 34 d_CY_moves_30 (by decide) ?_
    refine gpSv (As := [.int (nI 1)]) (rest := []) E hO (C_CY_refuseUnless l) (cs_CY_55 E rfl rfl ⟨Nat.le_of_ble_eq_true rfl, Nat.le_of_ble_eq_true rfl⟩) rfl rfl (Nat.le_of_ble_eq_true rfl) ⟨Nat.zero_le _, Nat.zero_le _⟩ d_CY_moves_34 ?_
    refine g_iload E d_CY_moves_37 4 rfl ?_
    refine g_iconst (v := nI 0) E d_CY_moves_39 (by decide) ?_
    refine g_bipush (v := nI 16) E d_CY_moves_40 (by decide) ?_
    refine gpSi (As := [.int (nI v), .int (nI 0), .int (nI 16)]) (rest := []) E hO (C_CY_isWithin l (nI v) (nI 0) (nI 16)) (cs_CY_51 E rfl rfl ⟨Nat.le_of_ble_eq_true rfl, Nat.le_of_ble_eq_true rfl⟩) rfl rfl (Nat.le_of_ble_eq_true rfl) ⟨Nat.zero_le _, Nat.zero_le _⟩ d_CY_moves_42 ?_
    refine g_topi (show bI _ = nI 1 from by rw [inB_y (by omega) (by omega) (by omega)]; rfl) ?_
    refine gpSv (As := [.int (nI 1)]) (rest := []) E hO (C_CY_refuseUnless l) (cs_CY_55 E rfl rfl ⟨Nat.le_of_ble_eq_true rfl, Nat.le_of_ble_eq_true rfl⟩) rfl rfl (Nat.le_of_ble_eq_true rfl) ⟨Nat.zero_le _, Nat.zero_le _⟩ d_CY_moves_45 ?_
    refine g_aload_n E d_CY_moves_48 rfl 0 rfl ?_
    refine gf_CY_30 E hO 0 rfl rfl d_CY_moves_49 ?_
    refine g_iload_n E d_CY_moves_52 rfl 1 rfl ?_
    refine g_iload_n E d_CY_moves_53 rfl 2 rfl ?_
    refine g_iload_n E d_CY_moves_54 rfl 3 rfl ?_
    refine gpVi (As := [.int (nI i), .int (nI a), .int (nI b)]) (rest := []) E hO 4 rfl rfl (C_Pa_going l i a b (by omega) (by omega) (by omega)) (cs_CY_81 E rfl rfl ⟨Nat.le_of_ble_eq_true rfl, Nat.le_of_ble_eq_true rfl⟩) rfl rfl (Nat.le_of_ble_eq_true rfl) ⟨Nat.zero_le _, Nat.zero_le _⟩ d_CY_moves_55 ?_
    refine g_istore (lv' := [(5, .int (nI (sx i (a * 4 + b)))), (0, .ref (ad 0)), (1, .int (nI i)), (2, .int (nI a)), (3, .int (nI b)), (4, .int (nI v))]) E d_CY_moves_58 (by decide) rfl ?_
    refine g_aload_n E d_CY_moves_60 rfl 1 rfl ?_
    refine gf_CY_30 E hO 0 rfl rfl d_CY_moves_61 ?_
    refine g_iload_n E d_CY_moves_64 rfl 2 rfl ?_
    refine g_iload_n E d_CY_moves_65 rfl 3 rfl ?_
    refine g_iload_n E d_CY_moves_66 rfl 3 rfl ?_
    refine gpVi (As := [.int (nI i), .int (nI a), .int (nI a)]) (rest := []) E hO 4 rfl rfl (C_Pa_going l i a a (by omega) (by omega) (by omega)) (cs_CY_81 E rfl rfl ⟨Nat.le_of_ble_eq_true rfl, Nat.le_of_ble_eq_true rfl⟩) rfl rfl (Nat.le_of_ble_eq_true rfl) ⟨Nat.zero_le _, Nat.zero_le _⟩ d_CY_moves_67 ?_
    refine g_iload E d_CY_moves_70 0 rfl ?_
    refine g_iadd E d_CY_moves_72 ?_
    refine g_topi (nI_add _ _) ?_
    refine g_iload E d_CY_moves_73 5 rfl ?_
    refine g_isub E d_CY_moves_75 ?_
    refine g_topi (nI_subI _ _) ?_
    refine g_istore (lv' := [(6, .int (iI (((((sx i (a * 4 + a)) + (sx i (a * 4 + b))) : Nat) : Int) - (((v) : Nat) : Int)))), (5, .int (nI (sx i (a * 4 + b)))), (0, .ref (ad 0)), (1, .int (nI i)), (2, .int (nI a)), (3, .int (nI b)), (4, .int (nI v))]) E d_CY_moves_76 (by decide) rfl ?_
    refine g_iload E d_CY_moves_78 0 rfl ?_
    refine g_if_lt E 87 d_CY_moves_80 (by decide) (fun h4 => ?_) (fun h4 => ?_)
    · refine g_iconst (v := nI 0) E d_CY_moves_87 (by decide) ?_
      exact gx_S E hne hlk (X_CY_refuseUnless l hf (V := V) (w := wC V ad r1 r2 r3 nY ix bu np st sr sx tk rn sh sn yw nw yo ce wo po ne cs sv mk sp rs bg dp)) cX.blind (cs_CY_55 E rfl rfl ⟨Nat.le_of_ble_eq_true rfl, Nat.le_of_ble_eq_true rfl⟩) (As := [.int (nI 0)]) (rest := []) rfl rfl (Nat.le_of_ble_eq_true rfl) d_CY_moves_88 ⟨Nat.le_of_ble_eq_true rfl, Nat.le_of_ble_eq_true rfl⟩ (fun U hU hWU => ⟨rfl, by rw [hU]; exact hv.2.1, gK.warm hWU hv.2.2.1, XK.move hWU (fun _ _ => by rw [hU]) hv.2.2.2⟩)
    · exact absurd ((zif_lt (by omega) (by omega)).mpr (by omega)) h4

set_option maxHeartbeats 4000000 in
set_option maxRecDepth 100000 in
theorem X_CY_care (l : Launch) (hf : l.flags = flags0) {V : gV} {ad r1 r2 r3 : Nat → Nat} {nY : Nat} {ix bu : Nat → Nat} {np : Nat} {st sr : Nat → Nat} {sx tk : Nat → Nat → Nat} {rn sh sn : Nat → Nat} {yw nw : Nat} {yo ce wo : Nat → Nat} {po ne : Nat → Option Nat} {cs : Nat → Nat} {sv : Nat → Nat → Nat} {mk : Nat} {sp rs : Nat → Int} {bg dp : Nat} (x a v : Int32) (hnp : np ≤ 12) (hb : (hasSt np st x a && inB v (nI 0) (nI 1000)) = false) : mX l y_CY_care (w_CY_care :: gt) { frames := 7, cells := 1, slots := 6, locals := 120 } V (wC V ad r1 r2 r3 nY ix bu np st sr sx tk rn sh sn yw nw yo ce wo po ne cs sv mk sp rs bg dp) [.ref (ad 0), .int x, .int a, .int v] nIAE := by
  refine gMetX (V := V) (As := [.ref (ad 0), .int x, .int a, .int v]) (cc := c_CY_care) (maxL := 5) (ret := (some .int)) (by decide) rfl (Nat.le_of_ble_eq_true rfl) (fun a U h => ⟨h.1, h.2.2.1⟩) ?_
  intro p e s m below meth c E hadm hne hlk hv
  have hO := gO_r (locs1 := []) (ws := wC V ad r1 r2 r3 nY ix bu np st sr sx tk rn sh sn yw nw yo ce wo po ne cs sv mk sp rs bg dp) hv.2.1
  refine g_aload_n E d_CY_care_0 rfl 0 rfl ?_
  refine gf_CY_30 E hO 0 rfl rfl d_CY_care_1 ?_
  refine g_iload_n E d_CY_care_4 rfl 1 rfl ?_
  refine g_iload_n E d_CY_care_5 rfl 2 rfl ?_
  refine gpVi (As := [.int x, .int a]) (rest := []) E hO 4 rfl rfl (C_Pa_hasState l x a (by omega)) (cs_CY_77 E rfl rfl ⟨Nat.le_of_ble_eq_true rfl, Nat.le_of_ble_eq_true rfl⟩) rfl rfl (Nat.le_of_ble_eq_true rfl) ⟨Nat.zero_le _, Nat.zero_le _⟩ d_CY_care_6 ?_
  refine g_bif_eq E 27 d_CY_care_9 (by decide) (fun h1 => ?_) (fun h1 => ?_)
  · refine g_iconst (v := nI 0) E d_CY_care_27 (by decide) ?_
    exact gx_S E hne hlk (X_CY_refuseUnless l hf (V := V) (w := wC V ad r1 r2 r3 nY ix bu np st sr sx tk rn sh sn yw nw yo ce wo po ne cs sv mk sp rs bg dp)) cX.blind (cs_CY_55 E rfl rfl ⟨Nat.le_of_ble_eq_true rfl, Nat.le_of_ble_eq_true rfl⟩) (As := [.int (nI 0)]) (rest := []) rfl rfl (Nat.le_of_ble_eq_true rfl) d_CY_care_28 ⟨Nat.le_of_ble_eq_true rfl, Nat.le_of_ble_eq_true rfl⟩ (fun U hU hWU => ⟨rfl, by rw [hU]; exact hv.2.1, gK.warm hWU hv.2.2.1, XK.move hWU (fun _ _ => by rw [hU]) hv.2.2.2⟩)
  · refine g_iload_n E d_CY_care_12 rfl 3 rfl ?_
    refine g_iconst (v := nI 0) E d_CY_care_13 (by decide) ?_
    refine g_sipush (v := nI 1000) E d_CY_care_14 (by decide) ?_
    refine gpSi (As := [.int v, .int (nI 0), .int (nI 1000)]) (rest := []) E hO (C_CY_isWithin l v (nI 0) (nI 1000)) (cs_CY_51 E rfl rfl ⟨Nat.le_of_ble_eq_true rfl, Nat.le_of_ble_eq_true rfl⟩) rfl rfl (Nat.le_of_ble_eq_true rfl) ⟨Nat.zero_le _, Nat.zero_le _⟩ d_CY_care_17 ?_
    refine g_bif_eq E 27 d_CY_care_20 (by decide) (fun h2 => ?_) (fun h2 => ?_)
    · refine g_iconst (v := nI 0) E d_CY_care_27 (by decide) ?_
      exact gx_S E hne hlk (X_CY_refuseUnless l hf (V := V) (w := wC V ad r1 r2 r3 nY ix bu np st sr sx tk rn sh sn yw nw yo ce wo po ne cs sv mk sp rs bg dp)) cX.blind (cs_CY_55 E rfl rfl ⟨Nat.le_of_ble_eq_true rfl, Nat.le_of_ble_eq_true rfl⟩) (As := [.int (nI 0)]) (rest := []) rfl rfl (Nat.le_of_ble_eq_true rfl) d_CY_care_28 ⟨Nat.le_of_ble_eq_true rfl, Nat.le_of_ble_eq_true rfl⟩ (fun U hU hWU => ⟨rfl, by rw [hU]; exact hv.2.1, gK.warm hWU hv.2.2.1, XK.move hWU (fun _ _ => by rw [hU]) hv.2.2.2⟩)
    · refine g_iconst (v := nI 1) E d_CY_care_23 (by decide) ?_
      refine g_goto E 28 d_CY_care_24 (by decide) ?_
      exact absurd hb (by first | (simp [h1, h2]; done) | simp_all)

set_option maxHeartbeats 4000000 in
set_option maxRecDepth 100000 in
theorem X_CY_share (l : Launch) (hf : l.flags = flags0) {V : gV} {ad r1 r2 r3 : Nat → Nat} {nY : Nat} {ix bu : Nat → Nat} {np : Nat} {st sr : Nat → Nat} {sx tk : Nat → Nat → Nat} {rn sh sn : Nat → Nat} {yw nw : Nat} {yo ce wo : Nat → Nat} {po ne : Nat → Option Nat} {cs : Nat → Nat} {sv : Nat → Nat → Nat} {mk : Nat} {sp rs : Nat → Int} {bg dp : Nat} (x a y : Int32) (hnp : np ≤ 12) (hb : (hasSt np st x a && inR y (nI nY)) = false) : mX l y_CY_share (w_CY_share :: gt) { frames := 7, cells := 1, slots := 6, locals := 120 } V (wC V ad r1 r2 r3 nY ix bu np st sr sx tk rn sh sn yw nw yo ce wo po ne cs sv mk sp rs bg dp) [.ref (ad 0), .int x, .int a, .int y] nIAE := by
  refine gMetX (V := V) (As := [.ref (ad 0), .int x, .int a, .int y]) (cc := c_CY_share) (maxL := 4) (ret := (some .long)) (by decide) rfl (Nat.le_of_ble_eq_true rfl) (fun a U h => ⟨h.1, h.2.2.1⟩) ?_
  intro p e s m below meth c E hadm hne hlk hv
  have hO := gO_r (locs1 := []) (ws := wC V ad r1 r2 r3 nY ix bu np st sr sx tk rn sh sn yw nw yo ce wo po ne cs sv mk sp rs bg dp) hv.2.1
  refine g_aload_n E d_CY_share_0 rfl 0 rfl ?_
  refine gf_CY_30 E hO 0 rfl rfl d_CY_share_1 ?_
  refine g_iload_n E d_CY_share_4 rfl 1 rfl ?_
  refine g_iload_n E d_CY_share_5 rfl 2 rfl ?_
  refine gpVi (As := [.int x, .int a]) (rest := []) E hO 4 rfl rfl (C_Pa_hasState l x a (by omega)) (cs_CY_77 E rfl rfl ⟨Nat.le_of_ble_eq_true rfl, Nat.le_of_ble_eq_true rfl⟩) rfl rfl (Nat.le_of_ble_eq_true rfl) ⟨Nat.zero_le _, Nat.zero_le _⟩ d_CY_share_6 ?_
  refine g_bif_eq E 27 d_CY_share_9 (by decide) (fun h1 => ?_) (fun h1 => ?_)
  · refine g_iconst (v := nI 0) E d_CY_share_27 (by decide) ?_
    exact gx_S E hne hlk (X_CY_refuseUnless l hf (V := V) (w := wC V ad r1 r2 r3 nY ix bu np st sr sx tk rn sh sn yw nw yo ce wo po ne cs sv mk sp rs bg dp)) cX.blind (cs_CY_55 E rfl rfl ⟨Nat.le_of_ble_eq_true rfl, Nat.le_of_ble_eq_true rfl⟩) (As := [.int (nI 0)]) (rest := []) rfl rfl (Nat.le_of_ble_eq_true rfl) d_CY_share_28 ⟨Nat.le_of_ble_eq_true rfl, Nat.le_of_ble_eq_true rfl⟩ (fun U hU hWU => ⟨rfl, by rw [hU]; exact hv.2.1, gK.warm hWU hv.2.2.1, XK.move hWU (fun _ _ => by rw [hU]) hv.2.2.2⟩)
  · refine g_aload_n E d_CY_share_12 rfl 0 rfl ?_
    refine gf_CY_21 E hO 0 rfl rfl d_CY_share_13 ?_
    refine g_iload_n E d_CY_share_16 rfl 3 rfl ?_
    refine gpVi (As := [.int y]) (rest := []) E hO 1 rfl rfl (C_Ye_has l y) (cs_CY_47 E rfl rfl ⟨Nat.le_of_ble_eq_true rfl, Nat.le_of_ble_eq_true rfl⟩) rfl rfl (Nat.le_of_ble_eq_true rfl) ⟨Nat.zero_le _, Nat.zero_le _⟩ d_CY_share_17 ?_
    refine g_bif_eq E 27 d_CY_share_20 (by decide) (fun h2 => ?_) (fun h2 => ?_)
    · refine g_iconst (v := nI 0) E d_CY_share_27 (by decide) ?_
      exact gx_S E hne hlk (X_CY_refuseUnless l hf (V := V) (w := wC V ad r1 r2 r3 nY ix bu np st sr sx tk rn sh sn yw nw yo ce wo po ne cs sv mk sp rs bg dp)) cX.blind (cs_CY_55 E rfl rfl ⟨Nat.le_of_ble_eq_true rfl, Nat.le_of_ble_eq_true rfl⟩) (As := [.int (nI 0)]) (rest := []) rfl rfl (Nat.le_of_ble_eq_true rfl) d_CY_share_28 ⟨Nat.le_of_ble_eq_true rfl, Nat.le_of_ble_eq_true rfl⟩ (fun U hU hWU => ⟨rfl, by rw [hU]; exact hv.2.1, gK.warm hWU hv.2.2.1, XK.move hWU (fun _ _ => by rw [hU]) hv.2.2.2⟩)
    · refine g_iconst (v := nI 1) E d_CY_share_23 (by decide) ?_
      refine g_goto E 28 d_CY_share_24 (by decide) ?_
      exact absurd hb (by first | (simp [h1, h2]; done) | simp_all)

set_option maxHeartbeats 4000000 in
set_option maxRecDepth 100000 in
theorem X_CY_cares (l : Launch) (hf : l.flags = flags0) {V : gV} {ad r1 r2 r3 : Nat → Nat} {nY : Nat} {ix bu : Nat → Nat} {np : Nat} {st sr : Nat → Nat} {sx tk : Nat → Nat → Nat} {rn sh sn : Nat → Nat} {yw nw : Nat} {yo ce wo : Nat → Nat} {po ne : Nat → Option Nat} {cs : Nat → Nat} {sv : Nat → Nat → Nat} {mk : Nat} {sp rs : Nat → Int} {bg dp : Nat} (x y : Int32) (hb : (inR x (nI np) && inR y (nI nY)) = false) : mX l y_CY_cares (w_CY_cares :: gt) { frames := 7, cells := 1, slots := 6, locals := 120 } V (wC V ad r1 r2 r3 nY ix bu np st sr sx tk rn sh sn yw nw yo ce wo po ne cs sv mk sp rs bg dp) [.ref (ad 0), .int x, .int y] nIAE := by
  refine gMetX (V := V) (As := [.ref (ad 0), .int x, .int y]) (cc := c_CY_cares) (maxL := 3) (ret := (some .int)) (by decide) rfl (Nat.le_of_ble_eq_true rfl) (fun a U h => ⟨h.1, h.2.2.1⟩) ?_
  intro p e s m below meth c E hadm hne hlk hv
  have hO := gO_r (locs1 := []) (ws := wC V ad r1 r2 r3 nY ix bu np st sr sx tk rn sh sn yw nw yo ce wo po ne cs sv mk sp rs bg dp) hv.2.1
  refine g_aload_n E d_CY_cares_0 rfl 0 rfl ?_
  refine gf_CY_30 E hO 0 rfl rfl d_CY_cares_1 ?_
  refine g_iload_n E d_CY_cares_4 rfl 1 rfl ?_
  refine gpVi (As := [.int x]) (rest := []) E hO 4 rfl rfl (C_Pa_has l x) (cs_CY_100 E rfl rfl ⟨Nat.le_of_ble_eq_true rfl, Nat.le_of_ble_eq_true rfl⟩) rfl rfl (Nat.le_of_ble_eq_true rfl) ⟨Nat.zero_le _, Nat.zero_le _⟩ d_CY_cares_5 ?_
  refine g_bif_eq E 26 d_CY_cares_8 (by decide) (fun h1 => ?_) (fun h1 => ?_)
  · refine g_iconst (v := nI 0) E d_CY_cares_26 (by decide) ?_
    exact gx_S E hne hlk (X_CY_refuseUnless l hf (V := V) (w := wC V ad r1 r2 r3 nY ix bu np st sr sx tk rn sh sn yw nw yo ce wo po ne cs sv mk sp rs bg dp)) cX.blind (cs_CY_55 E rfl rfl ⟨Nat.le_of_ble_eq_true rfl, Nat.le_of_ble_eq_true rfl⟩) (As := [.int (nI 0)]) (rest := []) rfl rfl (Nat.le_of_ble_eq_true rfl) d_CY_cares_27 ⟨Nat.le_of_ble_eq_true rfl, Nat.le_of_ble_eq_true rfl⟩ (fun U hU hWU => ⟨rfl, by rw [hU]; exact hv.2.1, gK.warm hWU hv.2.2.1, XK.move hWU (fun _ _ => by rw [hU]) hv.2.2.2⟩)
  · refine g_aload_n E d_CY_cares_11 rfl 0 rfl ?_
    refine gf_CY_21 E hO 0 rfl rfl d_CY_cares_12 ?_
    refine g_iload_n E d_CY_cares_15 rfl 2 rfl ?_
    refine gpVi (As := [.int y]) (rest := []) E hO 1 rfl rfl (C_Ye_has l y) (cs_CY_47 E rfl rfl ⟨Nat.le_of_ble_eq_true rfl, Nat.le_of_ble_eq_true rfl⟩) rfl rfl (Nat.le_of_ble_eq_true rfl) ⟨Nat.zero_le _, Nat.zero_le _⟩ d_CY_cares_16 ?_
    refine g_bif_eq E 26 d_CY_cares_19 (by decide) (fun h2 => ?_) (fun h2 => ?_)
    · refine g_iconst (v := nI 0) E d_CY_cares_26 (by decide) ?_
      exact gx_S E hne hlk (X_CY_refuseUnless l hf (V := V) (w := wC V ad r1 r2 r3 nY ix bu np st sr sx tk rn sh sn yw nw yo ce wo po ne cs sv mk sp rs bg dp)) cX.blind (cs_CY_55 E rfl rfl ⟨Nat.le_of_ble_eq_true rfl, Nat.le_of_ble_eq_true rfl⟩) (As := [.int (nI 0)]) (rest := []) rfl rfl (Nat.le_of_ble_eq_true rfl) d_CY_cares_27 ⟨Nat.le_of_ble_eq_true rfl, Nat.le_of_ble_eq_true rfl⟩ (fun U hU hWU => ⟨rfl, by rw [hU]; exact hv.2.1, gK.warm hWU hv.2.2.1, XK.move hWU (fun _ _ => by rw [hU]) hv.2.2.2⟩)
    · refine g_iconst (v := nI 1) E d_CY_cares_22 (by decide) ?_
      refine g_goto E 27 d_CY_cares_23 (by decide) ?_
      exact absurd hb (by first | (simp [h1, h2]; done) | simp_all)

set_option maxHeartbeats 4000000 in
set_option maxRecDepth 100000 in
theorem X_CY_most (l : Launch) (hf : l.flags = flags0) {V : gV} {ad r1 r2 r3 : Nat → Nat} {nY : Nat} {ix bu : Nat → Nat} {np : Nat} {st sr : Nat → Nat} {sx tk : Nat → Nat → Nat} {rn sh sn : Nat → Nat} {yw nw : Nat} {yo ce wo : Nat → Nat} {po ne : Nat → Option Nat} {cs : Nat → Nat} {sv : Nat → Nat → Nat} {mk : Nat} {sp rs : Nat → Int} {bg dp : Nat} (x y : Int32) (hb : (inR x (nI np) && inR y (nI nY)) = false) : mX l y_CY_most (w_CY_most :: gt) { frames := 7, cells := 1, slots := 6, locals := 120 } V (wC V ad r1 r2 r3 nY ix bu np st sr sx tk rn sh sn yw nw yo ce wo po ne cs sv mk sp rs bg dp) [.ref (ad 0), .int x, .int y] nIAE := by
  refine gMetX (V := V) (As := [.ref (ad 0), .int x, .int y]) (cc := c_CY_most) (maxL := 3) (ret := (some .int)) (by decide) rfl (Nat.le_of_ble_eq_true rfl) (fun a U h => ⟨h.1, h.2.2.1⟩) ?_
  intro p e s m below meth c E hadm hne hlk hv
  have hO := gO_r (locs1 := []) (ws := wC V ad r1 r2 r3 nY ix bu np st sr sx tk rn sh sn yw nw yo ce wo po ne cs sv mk sp rs bg dp) hv.2.1
  refine g_aload_n E d_CY_most_0 rfl 0 rfl ?_
  refine gf_CY_30 E hO 0 rfl rfl d_CY_most_1 ?_
  refine g_iload_n E d_CY_most_4 rfl 1 rfl ?_
  refine gpVi (As := [.int x]) (rest := []) E hO 4 rfl rfl (C_Pa_has l x) (cs_CY_100 E rfl rfl ⟨Nat.le_of_ble_eq_true rfl, Nat.le_of_ble_eq_true rfl⟩) rfl rfl (Nat.le_of_ble_eq_true rfl) ⟨Nat.zero_le _, Nat.zero_le _⟩ d_CY_most_5 ?_
  refine g_bif_eq E 26 d_CY_most_8 (by decide) (fun h1 => ?_) (fun h1 => ?_)
  · refine g_iconst (v := nI 0) E d_CY_most_26 (by decide) ?_
    exact gx_S E hne hlk (X_CY_refuseUnless l hf (V := V) (w := wC V ad r1 r2 r3 nY ix bu np st sr sx tk rn sh sn yw nw yo ce wo po ne cs sv mk sp rs bg dp)) cX.blind (cs_CY_55 E rfl rfl ⟨Nat.le_of_ble_eq_true rfl, Nat.le_of_ble_eq_true rfl⟩) (As := [.int (nI 0)]) (rest := []) rfl rfl (Nat.le_of_ble_eq_true rfl) d_CY_most_27 ⟨Nat.le_of_ble_eq_true rfl, Nat.le_of_ble_eq_true rfl⟩ (fun U hU hWU => ⟨rfl, by rw [hU]; exact hv.2.1, gK.warm hWU hv.2.2.1, XK.move hWU (fun _ _ => by rw [hU]) hv.2.2.2⟩)
  · refine g_aload_n E d_CY_most_11 rfl 0 rfl ?_
    refine gf_CY_21 E hO 0 rfl rfl d_CY_most_12 ?_
    refine g_iload_n E d_CY_most_15 rfl 2 rfl ?_
    refine gpVi (As := [.int y]) (rest := []) E hO 1 rfl rfl (C_Ye_has l y) (cs_CY_47 E rfl rfl ⟨Nat.le_of_ble_eq_true rfl, Nat.le_of_ble_eq_true rfl⟩) rfl rfl (Nat.le_of_ble_eq_true rfl) ⟨Nat.zero_le _, Nat.zero_le _⟩ d_CY_most_16 ?_
    refine g_bif_eq E 26 d_CY_most_19 (by decide) (fun h2 => ?_) (fun h2 => ?_)
    · refine g_iconst (v := nI 0) E d_CY_most_26 (by decide) ?_
      exact gx_S E hne hlk (X_CY_refuseUnless l hf (V := V) (w := wC V ad r1 r2 r3 nY ix bu np st sr sx tk rn sh sn yw nw yo ce wo po ne cs sv mk sp rs bg dp)) cX.blind (cs_CY_55 E rfl rfl ⟨Nat.le_of_ble_eq_true rfl, Nat.le_of_ble_eq_true rfl⟩) (As := [.int (nI 0)]) (rest := []) rfl rfl (Nat.le_of_ble_eq_true rfl) d_CY_most_27 ⟨Nat.le_of_ble_eq_true rfl, Nat.le_of_ble_eq_true rfl⟩ (fun U hU hWU => ⟨rfl, by rw [hU]; exact hv.2.1, gK.warm hWU hv.2.2.1, XK.move hWU (fun _ _ => by rw [hU]) hv.2.2.2⟩)
    · refine g_iconst (v := nI 1) E d_CY_most_22 (by decide) ?_
      refine g_goto E 27 d_CY_most_23 (by decide) ?_
      exact absurd hb (by first | (simp [h1, h2]; done) | simp_all)

set_option maxHeartbeats 4000000 in
set_option maxRecDepth 100000 in
theorem X_CY_work_1 (l : Launch) (hf : l.flags = flags0) {V : gV} {ad r1 r2 r3 : Nat → Nat} {nY : Nat} {ix bu : Nat → Nat} {np : Nat} {st sr : Nat → Nat} {sx tk : Nat → Nat → Nat} {rn sh sn : Nat → Nat} {yw nw : Nat} {yo ce wo : Nat → Nat} {po ne : Nat → Option Nat} {cs : Nat → Nat} {sv : Nat → Nat → Nat} {mk : Nat} {sp rs : Nat → Int} {bg dp : Nat} (y k v q : Int32) (hb : (inR y (nI nY) && (decide (q = oN none) || inR q (nI np))) = false) : mX l y_CY_work (w_CY_work :: gt) { frames := 7, cells := 1, slots := 6, locals := 120 } V (wC V ad r1 r2 r3 nY ix bu np st sr sx tk rn sh sn yw nw yo ce wo po ne cs sv mk sp rs bg dp) [.ref (ad 0), .int y, .int k, .int v, .int q] nIAE := by
  refine gMetX (V := V) (As := [.ref (ad 0), .int y, .int k, .int v, .int q]) (cc := c_CY_work) (maxL := 5) (ret := (some .int)) (by decide) rfl (Nat.le_of_ble_eq_true rfl) (fun a U h => ⟨h.1, h.2.2.1⟩) ?_
  intro p e s m below meth c E hadm hne hlk hv
  have hO := gO_r (locs1 := []) (ws := wC V ad r1 r2 r3 nY ix bu np st sr sx tk rn sh sn yw nw yo ce wo po ne cs sv mk sp rs bg dp) hv.2.1
  refine g_aload_n E d_CY_work_0 rfl 0 rfl ?_
  refine gf_CY_21 E hO 0 rfl rfl d_CY_work_1 ?_
  refine g_iload_n E d_CY_work_4 rfl 1 rfl ?_
  refine gpVi (As := [.int y]) (rest := []) E hO 1 rfl rfl (C_Ye_has l y) (cs_CY_47 E rfl rfl ⟨Nat.le_of_ble_eq_true rfl, Nat.le_of_ble_eq_true rfl⟩) rfl rfl (Nat.le_of_ble_eq_true rfl) ⟨Nat.zero_le _, Nat.zero_le _⟩ d_CY_work_5 ?_
  refine g_bif_eq E 33 d_CY_work_8 (by decide) (fun h1 => ?_) (fun h1 => ?_)
  · refine g_iconst (v := nI 0) E d_CY_work_33 (by decide) ?_
    exact gx_S E hne hlk (X_CY_refuseUnless l hf (V := V) (w := wC V ad r1 r2 r3 nY ix bu np st sr sx tk rn sh sn yw nw yo ce wo po ne cs sv mk sp rs bg dp)) cX.blind (cs_CY_55 E rfl rfl ⟨Nat.le_of_ble_eq_true rfl, Nat.le_of_ble_eq_true rfl⟩) (As := [.int (nI 0)]) (rest := []) rfl rfl (Nat.le_of_ble_eq_true rfl) d_CY_work_34 ⟨Nat.le_of_ble_eq_true rfl, Nat.le_of_ble_eq_true rfl⟩ (fun U hU hWU => ⟨rfl, by rw [hU]; exact hv.2.1, gK.warm hWU hv.2.2.1, XK.move hWU (fun _ _ => by rw [hU]) hv.2.2.2⟩)
  · refine g_iload E d_CY_work_11 4 rfl ?_
    refine g_iconst (v := oN none) E d_CY_work_13 (by decide) ?_
    refine g_icmp_eq E 29 d_CY_work_14 (by decide) (fun h2 => ?_) (fun h2 => ?_)
    · refine g_iconst (v := nI 1) E d_CY_work_29 (by decide) ?_
      refine g_goto E 34 d_CY_work_30 (by decide) ?_
      exact absurd hb (by first | (simp [h1, h2]; done) | simp_all)
    · refine g_aload_n E d_CY_work_17 rfl 0 rfl ?_
      refine gf_CY_30 E hO 0 rfl rfl d_CY_work_18 ?_
      refine g_iload E d_CY_work_21 4 rfl ?_
      refine gpVi (As := [.int q]) (rest := []) E hO 4 rfl rfl (C_Pa_has l q) (cs_CY_100 E rfl rfl ⟨Nat.le_of_ble_eq_true rfl, Nat.le_of_ble_eq_true rfl⟩) rfl rfl (Nat.le_of_ble_eq_true rfl) ⟨Nat.zero_le _, Nat.zero_le _⟩ d_CY_work_23 ?_
      refine g_bif_eq E 33 d_CY_work_26 (by decide) (fun h3 => ?_) (fun h3 => ?_)
      · refine g_iconst (v := nI 0) E d_CY_work_33 (by decide) ?_
        exact gx_S E hne hlk (X_CY_refuseUnless l hf (V := V) (w := wC V ad r1 r2 r3 nY ix bu np st sr sx tk rn sh sn yw nw yo ce wo po ne cs sv mk sp rs bg dp)) cX.blind (cs_CY_55 E rfl rfl ⟨Nat.le_of_ble_eq_true rfl, Nat.le_of_ble_eq_true rfl⟩) (As := [.int (nI 0)]) (rest := []) rfl rfl (Nat.le_of_ble_eq_true rfl) d_CY_work_34 ⟨Nat.le_of_ble_eq_true rfl, Nat.le_of_ble_eq_true rfl⟩ (fun U hU hWU => ⟨rfl, by rw [hU]; exact hv.2.1, gK.warm hWU hv.2.2.1, XK.move hWU (fun _ _ => by rw [hU]) hv.2.2.2⟩)
      · refine g_iconst (v := nI 1) E d_CY_work_29 (by decide) ?_
        refine g_goto E 34 d_CY_work_30 (by decide) ?_
        exact absurd hb (by first | (simp [h1, h2, h3]; done) | simp_all)

set_option maxHeartbeats 4000000 in
set_option maxRecDepth 100000 in
theorem X_CY_work_2n (l : Launch) (hf : l.flags = flags0) {V : gV} {ad r1 r2 r3 : Nat → Nat} {nY : Nat} {ix bu : Nat → Nat} {np : Nat} {st sr : Nat → Nat} {sx tk : Nat → Nat → Nat} {rn sh sn : Nat → Nat} {yw nw : Nat} {yo ce wo : Nat → Nat} {po ne : Nat → Option Nat} {cs : Nat → Nat} {sv : Nat → Nat → Nat} {mk : Nat} {sp rs : Nat → Int} {bg dp : Nat} (y : Nat) (k v : Int32)  (hy : y < nY) (hY : nY ≤ 12) (hb : (inB k (nI 1) (nI 1000000) && inB v (nI 0) (nI 1000000)) = false) : mX l y_CY_work (w_CY_work :: gt) { frames := 7, cells := 1, slots := 6, locals := 120 } V (wC V ad r1 r2 r3 nY ix bu np st sr sx tk rn sh sn yw nw yo ce wo po ne cs sv mk sp rs bg dp) [.ref (ad 0), .int (nI y), .int k, .int v, .int (oN none)] nIAE := by
  refine gMetX (V := V) (As := [.ref (ad 0), .int (nI y), .int k, .int v, .int (oN none)]) (cc := c_CY_work) (maxL := 5) (ret := (some .int)) (by decide) rfl (Nat.le_of_ble_eq_true rfl) (fun a U h => ⟨h.1, h.2.2.1⟩) ?_
  intro p e s m below meth c E hadm hne hlk hv
  have hO := gO_r (locs1 := []) (ws := wC V ad r1 r2 r3 nY ix bu np st sr sx tk rn sh sn yw nw yo ce wo po ne cs sv mk sp rs bg dp) hv.2.1
  refine g_aload_n E d_CY_work_0 rfl 0 rfl ?_
  refine gf_CY_21 E hO 0 rfl rfl d_CY_work_1 ?_
  refine g_iload_n E d_CY_work_4 rfl 1 rfl ?_
  refine gpVi (As := [.int (nI y)]) (rest := []) E hO 1 rfl rfl (C_Ye_has l (nI y)) (cs_CY_47 E rfl rfl ⟨Nat.le_of_ble_eq_true rfl, Nat.le_of_ble_eq_true rfl⟩) rfl rfl (Nat.le_of_ble_eq_true rfl) ⟨Nat.zero_le _, Nat.zero_le _⟩ d_CY_work_5 ?_
  refine g_topi (show bI _ = nI 1 from by rw [inR_y (by omega) (by omega)]; rfl) ?_
  refine g_nif_eq E 33 d_CY_work_8 (by decide) (by decide) (fun h1 => absurd h1 (by decide)) (fun _ => ?_)
  refine g_iload E d_CY_work_11 4 rfl ?_
  refine g_iconst (v := oN none) E d_CY_work_13 (by decide) ?_
  refine g_icmp_eq E 29 d_CY_work_14 (by decide) (fun h2 => ?_) (fun h2 => ?_)
  · refine g_iconst (v := nI 1) E d_CY_work_29 (by decide) ?_
    refine g_goto E 34 d_CY_work_30 (by decide) ?_
    refine gpSv (As := [.int (nI 1)]) (rest := []) E hO (C_CY_refuseUnless l) (cs_CY_55 E rfl rfl ⟨Nat.le_of_ble_eq_true rfl, Nat.le_of_ble_eq_true rfl⟩) rfl rfl (Nat.le_of_ble_eq_true rfl) ⟨Nat.zero_le _, Nat.zero_le _⟩ d_CY_work_34 ?_
    refine g_iload_n E d_CY_work_37 rfl 2 rfl ?_
    refine g_iconst (v := nI 1) E d_CY_work_38 (by decide) ?_
    refine g_ldc E kk_CY_111 d_CY_work_39 ?_
    refine g_topi (show ((1000000) : Int32) = nI 1000000 from by decide) ?_
    refine gpSi (As := [.int k, .int (nI 1), .int (nI 1000000)]) (rest := []) E hO (C_CY_isWithin l k (nI 1) (nI 1000000)) (cs_CY_51 E rfl rfl ⟨Nat.le_of_ble_eq_true rfl, Nat.le_of_ble_eq_true rfl⟩) rfl rfl (Nat.le_of_ble_eq_true rfl) ⟨Nat.zero_le _, Nat.zero_le _⟩ d_CY_work_41 ?_
    refine g_bif_eq E 61 d_CY_work_44 (by decide) (fun h3 => ?_) (fun h3 => ?_)
    · refine g_iconst (v := nI 0) E d_CY_work_61 (by decide) ?_
      exact gx_S E hne hlk (X_CY_refuseUnless l hf (V := V) (w := wC V ad r1 r2 r3 nY ix bu np st sr sx tk rn sh sn yw nw yo ce wo po ne cs sv mk sp rs bg dp)) cX.blind (cs_CY_55 E rfl rfl ⟨Nat.le_of_ble_eq_true rfl, Nat.le_of_ble_eq_true rfl⟩) (As := [.int (nI 0)]) (rest := []) rfl rfl (Nat.le_of_ble_eq_true rfl) d_CY_work_62 ⟨Nat.le_of_ble_eq_true rfl, Nat.le_of_ble_eq_true rfl⟩ (fun U hU hWU => ⟨rfl, by rw [hU]; exact hv.2.1, gK.warm hWU hv.2.2.1, XK.move hWU (fun _ _ => by rw [hU]) hv.2.2.2⟩)
    · refine g_iload_n E d_CY_work_47 rfl 3 rfl ?_
      refine g_iconst (v := nI 0) E d_CY_work_48 (by decide) ?_
      refine g_ldc E kk_CY_111 d_CY_work_49 ?_
      refine g_topi (show ((1000000) : Int32) = nI 1000000 from by decide) ?_
      refine gpSi (As := [.int v, .int (nI 0), .int (nI 1000000)]) (rest := []) E hO (C_CY_isWithin l v (nI 0) (nI 1000000)) (cs_CY_51 E rfl rfl ⟨Nat.le_of_ble_eq_true rfl, Nat.le_of_ble_eq_true rfl⟩) rfl rfl (Nat.le_of_ble_eq_true rfl) ⟨Nat.zero_le _, Nat.zero_le _⟩ d_CY_work_51 ?_
      refine g_bif_eq E 61 d_CY_work_54 (by decide) (fun h4 => ?_) (fun h4 => ?_)
      · refine g_iconst (v := nI 0) E d_CY_work_61 (by decide) ?_
        exact gx_S E hne hlk (X_CY_refuseUnless l hf (V := V) (w := wC V ad r1 r2 r3 nY ix bu np st sr sx tk rn sh sn yw nw yo ce wo po ne cs sv mk sp rs bg dp)) cX.blind (cs_CY_55 E rfl rfl ⟨Nat.le_of_ble_eq_true rfl, Nat.le_of_ble_eq_true rfl⟩) (As := [.int (nI 0)]) (rest := []) rfl rfl (Nat.le_of_ble_eq_true rfl) d_CY_work_62 ⟨Nat.le_of_ble_eq_true rfl, Nat.le_of_ble_eq_true rfl⟩ (fun U hU hWU => ⟨rfl, by rw [hU]; exact hv.2.1, gK.warm hWU hv.2.2.1, XK.move hWU (fun _ _ => by rw [hU]) hv.2.2.2⟩)
      · refine g_iconst (v := nI 1) E d_CY_work_57 (by decide) ?_
        refine g_goto E 62 d_CY_work_58 (by decide) ?_
        exact absurd hb (by first | (simp [h2, h3, h4]; done) | simp_all)
  · exact absurd rfl h2

set_option maxHeartbeats 4000000 in
set_option maxRecDepth 100000 in
theorem X_CY_work_3n (l : Launch) (hf : l.flags = flags0) {V : gV} {ad r1 r2 r3 : Nat → Nat} {nY : Nat} {ix bu : Nat → Nat} {np : Nat} {st sr : Nat → Nat} {sx tk : Nat → Nat → Nat} {rn sh sn : Nat → Nat} {yw nw : Nat} {yo ce wo : Nat → Nat} {po ne : Nat → Option Nat} {cs : Nat → Nat} {sv : Nat → Nat → Nat} {mk : Nat} {sp rs : Nat → Int} {bg dp : Nat} (y k v : Nat)  (hy : y < nY) (hY : nY ≤ 12) (h1 : 1 ≤ k) (h2 : k ≤ 1000000) (h3 : v ≤ 1000000) (hnw : nw = 10) : mX l y_CY_work (w_CY_work :: gt) { frames := 7, cells := 1, slots := 6, locals := 120 } V (wC V ad r1 r2 r3 nY ix bu np st sr sx tk rn sh sn yw nw yo ce wo po ne cs sv mk sp rs bg dp) [.ref (ad 0), .int (nI y), .int (nI k), .int (nI v), .int (oN none)] nISE := by
  refine gMetX (V := V) (As := [.ref (ad 0), .int (nI y), .int (nI k), .int (nI v), .int (oN none)]) (cc := c_CY_work) (maxL := 5) (ret := (some .int)) (by decide) rfl (Nat.le_of_ble_eq_true rfl) (fun a U h => ⟨h.1, h.2.2.1⟩) ?_
  intro p e s m below meth c E hadm hne hlk hv
  have hO := gO_r (locs1 := []) (ws := wC V ad r1 r2 r3 nY ix bu np st sr sx tk rn sh sn yw nw yo ce wo po ne cs sv mk sp rs bg dp) hv.2.1
  refine g_aload_n E d_CY_work_0 rfl 0 rfl ?_
  refine gf_CY_21 E hO 0 rfl rfl d_CY_work_1 ?_
  refine g_iload_n E d_CY_work_4 rfl 1 rfl ?_
  refine gpVi (As := [.int (nI y)]) (rest := []) E hO 1 rfl rfl (C_Ye_has l (nI y)) (cs_CY_47 E rfl rfl ⟨Nat.le_of_ble_eq_true rfl, Nat.le_of_ble_eq_true rfl⟩) rfl rfl (Nat.le_of_ble_eq_true rfl) ⟨Nat.zero_le _, Nat.zero_le _⟩ d_CY_work_5 ?_
  refine g_topi (show bI _ = nI 1 from by rw [inR_y (by omega) (by omega)]; rfl) ?_
  refine g_nif_eq E 33 d_CY_work_8 (by decide) (by decide) (fun h1 => absurd h1 (by decide)) (fun _ => ?_)
  refine g_iload E d_CY_work_11 4 rfl ?_
  refine g_iconst (v := oN none) E d_CY_work_13 (by decide) ?_
  refine g_icmp_eq E 29 d_CY_work_14 (by decide) (fun h2 => ?_) (fun h2 => ?_)
  · refine g_iconst (v := nI 1) E d_CY_work_29 (by decide) ?_
    refine g_goto E 34 d_CY_work_30 (by decide) ?_
    refine gpSv (As := [.int (nI 1)]) (rest := []) E hO (C_CY_refuseUnless l) (cs_CY_55 E rfl rfl ⟨Nat.le_of_ble_eq_true rfl, Nat.le_of_ble_eq_true rfl⟩) rfl rfl (Nat.le_of_ble_eq_true rfl) ⟨Nat.zero_le _, Nat.zero_le _⟩ d_CY_work_34 ?_
    refine g_iload_n E d_CY_work_37 rfl 2 rfl ?_
    refine g_iconst (v := nI 1) E d_CY_work_38 (by decide) ?_
    refine g_ldc E kk_CY_111 d_CY_work_39 ?_
    refine g_topi (show ((1000000) : Int32) = nI 1000000 from by decide) ?_
    refine gpSi (As := [.int (nI k), .int (nI 1), .int (nI 1000000)]) (rest := []) E hO (C_CY_isWithin l (nI k) (nI 1) (nI 1000000)) (cs_CY_51 E rfl rfl ⟨Nat.le_of_ble_eq_true rfl, Nat.le_of_ble_eq_true rfl⟩) rfl rfl (Nat.le_of_ble_eq_true rfl) ⟨Nat.zero_le _, Nat.zero_le _⟩ d_CY_work_41 ?_
    refine g_topi (show bI _ = nI 1 from by rw [inB_y (by omega) (by omega) (by omega)]; rfl) ?_
    refine g_nif_eq E 61 d_CY_work_44 (by decide) (by decide) (fun h3 => absurd h3 (by decide)) (fun _ => ?_)
    refine g_iload_n E d_CY_work_47 rfl 3 rfl ?_
    refine g_iconst (v := nI 0) E d_CY_work_48 (by decide) ?_
    refine g_ldc E kk_CY_111 d_CY_work_49 ?_
    refine g_topi (show ((1000000) : Int32) = nI 1000000 from by decide) ?_
    refine gpSi (As := [.int (nI v), .int (nI 0), .int (nI 1000000)]) (rest := []) E hO (C_CY_isWithin l (nI v) (nI 0) (nI 1000000)) (cs_CY_51 E rfl rfl ⟨Nat.le_of_ble_eq_true rfl, Nat.le_of_ble_eq_true rfl⟩) rfl rfl (Nat.le_of_ble_eq_true rfl) ⟨Nat.zero_le _, Nat.zero_le _⟩ d_CY_work_51 ?_
    refine g_topi (show bI _ = nI 1 from by rw [inB_y (by omega) (by omega) (by omega)]; rfl) ?_
    refine g_nif_eq E 61 d_CY_work_54 (by decide) (by decide) (fun h4 => absurd h4 (by decide)) (fun _ => ?_)
    refine g_iconst (v := nI 1) E d_CY_work_57 (by decide) ?_
    refine g_goto E 62 d_CY_work_58 (by decide) ?_
    refine gpSv (As := [.int (nI 1)]) (rest := []) E hO (C_CY_refuseUnless l) (cs_CY_55 E rfl rfl ⟨Nat.le_of_ble_eq_true rfl, Nat.le_of_ble_eq_true rfl⟩) rfl rfl (Nat.le_of_ble_eq_true rfl) ⟨Nat.zero_le _, Nat.zero_le _⟩ d_CY_work_62 ?_
    refine g_aload_n E d_CY_work_65 rfl 0 rfl ?_
    refine gf_CY_39 E hO 0 rfl rfl d_CY_work_66 ?_
    refine gf_CY_112 E hO 12 rfl rfl d_CY_work_69 ?_
    refine g_bipush (v := nI 10) E d_CY_work_72 (by decide) ?_
    refine g_ncmp_lt E 81 d_CY_work_74 (by decide) (by omega) (by omega) (fun h5 => ?_) (fun h5 => ?_)
    · exact absurd h5 (by omega)
    · refine g_iconst (v := nI 1) E d_CY_work_77 (by decide) ?_
      refine g_goto E 82 d_CY_work_78 (by decide) ?_
      exact gx_S E hne hlk (X_CY_refuseIfFull l hf (V := V) (w := wC V ad r1 r2 r3 nY ix bu np st sr sx tk rn sh sn yw nw yo ce wo po ne cs sv mk sp rs bg dp)) cX.blind (cs_CY_71 E rfl rfl ⟨Nat.le_of_ble_eq_true rfl, Nat.le_of_ble_eq_true rfl⟩) (As := [.int (nI 1)]) (rest := []) rfl rfl (Nat.le_of_ble_eq_true rfl) d_CY_work_82 ⟨Nat.le_of_ble_eq_true rfl, Nat.le_of_ble_eq_true rfl⟩ (fun U hU hWU => ⟨rfl, by rw [hU]; exact hv.2.1, gK.warm hWU hv.2.2.1, XK.move hWU (fun _ _ => by rw [hU]) hv.2.2.2⟩)
  · exact absurd rfl h2

set_option maxHeartbeats 4000000 in
set_option maxRecDepth 100000 in
theorem X_CY_work_2s (l : Launch) (hf : l.flags = flags0) {V : gV} {ad r1 r2 r3 : Nat → Nat} {nY : Nat} {ix bu : Nat → Nat} {np : Nat} {st sr : Nat → Nat} {sx tk : Nat → Nat → Nat} {rn sh sn : Nat → Nat} {yw nw : Nat} {yo ce wo : Nat → Nat} {po ne : Nat → Option Nat} {cs : Nat → Nat} {sv : Nat → Nat → Nat} {mk : Nat} {sp rs : Nat → Int} {bg dp : Nat} (y : Nat) (k v : Int32) (q : Nat) (hq : q < np) (hnp : np ≤ 12) (hy : y < nY) (hY : nY ≤ 12) (hb : (inB k (nI 1) (nI 1000000) && inB v (nI 0) (nI 1000000)) = false) : mX l y_CY_work (w_CY_work :: gt) { frames := 7, cells := 1, slots := 6, locals := 120 } V (wC V ad r1 r2 r3 nY ix bu np st sr sx tk rn sh sn yw nw yo ce wo po ne cs sv mk sp rs bg dp) [.ref (ad 0), .int (nI y), .int k, .int v, .int (nI q)] nIAE := by
  refine gMetX (V := V) (As := [.ref (ad 0), .int (nI y), .int k, .int v, .int (nI q)]) (cc := c_CY_work) (maxL := 5) (ret := (some .int)) (by decide) rfl (Nat.le_of_ble_eq_true rfl) (fun a U h => ⟨h.1, h.2.2.1⟩) ?_
  intro p e s m below meth c E hadm hne hlk hv
  have hO := gO_r (locs1 := []) (ws := wC V ad r1 r2 r3 nY ix bu np st sr sx tk rn sh sn yw nw yo ce wo po ne cs sv mk sp rs bg dp) hv.2.1
  refine g_aload_n E d_CY_work_0 rfl 0 rfl ?_
  refine gf_CY_21 E hO 0 rfl rfl d_CY_work_1 ?_
  refine g_iload_n E d_CY_work_4 rfl 1 rfl ?_
  refine gpVi (As := [.int (nI y)]) (rest := []) E hO 1 rfl rfl (C_Ye_has l (nI y)) (cs_CY_47 E rfl rfl ⟨Nat.le_of_ble_eq_true rfl, Nat.le_of_ble_eq_true rfl⟩) rfl rfl (Nat.le_of_ble_eq_true rfl) ⟨Nat.zero_le _, Nat.zero_le _⟩ d_CY_work_5 ?_
  refine g_topi (show bI _ = nI 1 from by rw [inR_y (by omega) (by omega)]; rfl) ?_
  refine g_nif_eq E 33 d_CY_work_8 (by decide) (by decide) (fun h1 => absurd h1 (by decide)) (fun _ => ?_)
  refine g_iload E d_CY_work_11 4 rfl ?_
  refine g_iconst (v := oN none) E d_CY_work_13 (by decide) ?_
  refine g_icmp_eq E 29 d_CY_work_14 (by decide) (fun h2 => ?_) (fun h2 => ?_)
  · exact absurd h2 (by intro z; have := congrArg Int32.toInt z; rw [nI_toInt (by omega)] at this; have h2 : (oN none).toInt = -1 := (by decide); omega)
  · refine g_aload_n E d_CY_work_17 rfl 0 rfl ?_
    refine gf_CY_30 E hO 0 rfl rfl d_CY_work_18 ?_
    refine g_iload E d_CY_work_21 4 rfl ?_
    refine gpVi (As := [.int (nI q)]) (rest := []) E hO 4 rfl rfl (C_Pa_has l (nI q)) (cs_CY_100 E rfl rfl ⟨Nat.le_of_ble_eq_true rfl, Nat.le_of_ble_eq_true rfl⟩) rfl rfl (Nat.le_of_ble_eq_true rfl) ⟨Nat.zero_le _, Nat.zero_le _⟩ d_CY_work_23 ?_
    refine g_topi (show bI _ = nI 1 from by rw [inR_y (by omega) (by omega)]; rfl) ?_
    refine g_nif_eq E 33 d_CY_work_26 (by decide) (by decide) (fun h3 => absurd h3 (by decide)) (fun _ => ?_)
    refine g_iconst (v := nI 1) E d_CY_work_29 (by decide) ?_
    refine g_goto E 34 d_CY_work_30 (by decide) ?_
    refine gpSv (As := [.int (nI 1)]) (rest := []) E hO (C_CY_refuseUnless l) (cs_CY_55 E rfl rfl ⟨Nat.le_of_ble_eq_true rfl, Nat.le_of_ble_eq_true rfl⟩) rfl rfl (Nat.le_of_ble_eq_true rfl) ⟨Nat.zero_le _, Nat.zero_le _⟩ d_CY_work_34 ?_
    refine g_iload_n E d_CY_work_37 rfl 2 rfl ?_
    refine g_iconst (v := nI 1) E d_CY_work_38 (by decide) ?_
    refine g_ldc E kk_CY_111 d_CY_work_39 ?_
    refine g_topi (show ((1000000) : Int32) = nI 1000000 from by decide) ?_
    refine gpSi (As := [.int k, .int (nI 1), .int (nI 1000000)]) (rest := []) E hO (C_CY_isWithin l k (nI 1) (nI 1000000)) (cs_CY_51 E rfl rfl ⟨Nat.le_of_ble_eq_true rfl, Nat.le_of_ble_eq_true rfl⟩) rfl rfl (Nat.le_of_ble_eq_true rfl) ⟨Nat.zero_le _, Nat.zero_le _⟩ d_CY_work_41 ?_
    refine g_bif_eq E 61 d_CY_work_44 (by decide) (fun h4 => ?_) (fun h4 => ?_)
    · refine g_iconst (v := nI 0) E d_CY_work_61 (by decide) ?_
      exact gx_S E hne hlk (X_CY_refuseUnless l hf (V := V) (w := wC V ad r1 r2 r3 nY ix bu np st sr sx tk rn sh sn yw nw yo ce wo po ne cs sv mk sp rs bg dp)) cX.blind (cs_CY_55 E rfl rfl ⟨Nat.le_of_ble_eq_true rfl, Nat.le_of_ble_eq_true rfl⟩) (As := [.int (nI 0)]) (rest := []) rfl rfl (Nat.le_of_ble_eq_true rfl) d_CY_work_62 ⟨Nat.le_of_ble_eq_true rfl, Nat.le_of_ble_eq_true rfl⟩ (fun U hU hWU => ⟨rfl, by rw [hU]; exact hv.2.1, gK.warm hWU hv.2.2.1, XK.move hWU (fun _ _ => by rw [hU]) hv.2.2.2⟩)
    · refine g_iload_n E d_CY_work_47 rfl 3 rfl ?_
      refine g_iconst (v := nI 0) E d_CY_work_48 (by decide) ?_
      refine g_ldc E kk_CY_111 d_CY_work_49 ?_
      refine g_topi (show ((1000000) : Int32) = nI 1000000 from by decide) ?_
      refine gpSi (As := [.int v, .int (nI 0), .int (nI 1000000)]) (rest := []) E hO (C_CY_isWithin l v (nI 0) (nI 1000000)) (cs_CY_51 E rfl rfl ⟨Nat.le_of_ble_eq_true rfl, Nat.le_of_ble_eq_true rfl⟩) rfl rfl (Nat.le_of_ble_eq_true rfl) ⟨Nat.zero_le _, Nat.zero_le _⟩ d_CY_work_51 ?_
      refine g_bif_eq E 61 d_CY_work_54 (by decide) (fun h5 => ?_) (fun h5 => ?_)
      · refine g_iconst (v := nI 0) E d_CY_work_61 (by decide) ?_
        exact gx_S E hne hlk (X_CY_refuseUnless l hf (V := V) (w := wC V ad r1 r2 r3 nY ix bu np st sr sx tk rn sh sn yw nw yo ce wo po ne cs sv mk sp rs bg dp)) cX.blind (cs_CY_55 E rfl rfl ⟨Nat.le_of_ble_eq_true rfl, Nat.le_of_ble_eq_true rfl⟩) (As := [.int (nI 0)]) (rest := []) rfl rfl (Nat.le_of_ble_eq_true rfl) d_CY_work_62 ⟨Nat.le_of_ble_eq_true rfl, Nat.le_of_ble_eq_true rfl⟩ (fun U hU hWU => ⟨rfl, by rw [hU]; exact hv.2.1, gK.warm hWU hv.2.2.1, XK.move hWU (fun _ _ => by rw [hU]) hv.2.2.2⟩)
      · refine g_iconst (v := nI 1) E d_CY_work_57 (by decide) ?_
        refine g_goto E 62 d_CY_work_58 (by decide) ?_
        exact absurd hb (by first | (simp [h2, h4, h5]; done) | simp_all)

set_option maxHeartbeats 4000000 in
set_option maxRecDepth 100000 in
theorem X_CY_work_3s (l : Launch) (hf : l.flags = flags0) {V : gV} {ad r1 r2 r3 : Nat → Nat} {nY : Nat} {ix bu : Nat → Nat} {np : Nat} {st sr : Nat → Nat} {sx tk : Nat → Nat → Nat} {rn sh sn : Nat → Nat} {yw nw : Nat} {yo ce wo : Nat → Nat} {po ne : Nat → Option Nat} {cs : Nat → Nat} {sv : Nat → Nat → Nat} {mk : Nat} {sp rs : Nat → Int} {bg dp : Nat} (y k v : Nat) (q : Nat) (hq : q < np) (hnp : np ≤ 12) (hy : y < nY) (hY : nY ≤ 12) (h1 : 1 ≤ k) (h2 : k ≤ 1000000) (h3 : v ≤ 1000000) (hnw : nw = 10) : mX l y_CY_work (w_CY_work :: gt) { frames := 7, cells := 1, slots := 6, locals := 120 } V (wC V ad r1 r2 r3 nY ix bu np st sr sx tk rn sh sn yw nw yo ce wo po ne cs sv mk sp rs bg dp) [.ref (ad 0), .int (nI y), .int (nI k), .int (nI v), .int (nI q)] nISE := by
  refine gMetX (V := V) (As := [.ref (ad 0), .int (nI y), .int (nI k), .int (nI v), .int (nI q)]) (cc := c_CY_work) (maxL := 5) (ret := (some .int)) (by decide) rfl (Nat.le_of_ble_eq_true rfl) (fun a U h => ⟨h.1, h.2.2.1⟩) ?_
  intro p e s m below meth c E hadm hne hlk hv
  have hO := gO_r (locs1 := []) (ws := wC V ad r1 r2 r3 nY ix bu np st sr sx tk rn sh sn yw nw yo ce wo po ne cs sv mk sp rs bg dp) hv.2.1
  refine g_aload_n E d_CY_work_0 rfl 0 rfl ?_
  refine gf_CY_21 E hO 0 rfl rfl d_CY_work_1 ?_
  refine g_iload_n E d_CY_work_4 rfl 1 rfl ?_
  refine gpVi (As := [.int (nI y)]) (rest := []) E hO 1 rfl rfl (C_Ye_has l (nI y)) (cs_CY_47 E rfl rfl ⟨Nat.le_of_ble_eq_true rfl, Nat.le_of_ble_eq_true rfl⟩) rfl rfl (Nat.le_of_ble_eq_true rfl) ⟨Nat.zero_le _, Nat.zero_le _⟩ d_CY_work_5 ?_
  refine g_topi (show bI _ = nI 1 from by rw [inR_y (by omega) (by omega)]; rfl) ?_
  refine g_nif_eq E 33 d_CY_work_8 (by decide) (by decide) (fun h1 => absurd h1 (by decide)) (fun _ => ?_)
  refine g_iload E d_CY_work_11 4 rfl ?_
  refine g_iconst (v := oN none) E d_CY_work_13 (by decide) ?_
  refine g_icmp_eq E 29 d_CY_work_14 (by decide) (fun h2 => ?_) (fun h2 => ?_)
  · exact absurd h2 (by intro z; have := congrArg Int32.toInt z; rw [nI_toInt (by omega)] at this; have h2 : (oN none).toInt = -1 := (by decide); omega)
  · refine g_aload_n E d_CY_work_17 rfl 0 rfl ?_
    refine gf_CY_30 E hO 0 rfl rfl d_CY_work_18 ?_
    refine g_iload E d_CY_work_21 4 rfl ?_
    refine gpVi (As := [.int (nI q)]) (rest := []) E hO 4 rfl rfl (C_Pa_has l (nI q)) (cs_CY_100 E rfl rfl ⟨Nat.le_of_ble_eq_true rfl, Nat.le_of_ble_eq_true rfl⟩) rfl rfl (Nat.le_of_ble_eq_true rfl) ⟨Nat.zero_le _, Nat.zero_le _⟩ d_CY_work_23 ?_
    refine g_topi (show bI _ = nI 1 from by rw [inR_y (by omega) (by omega)]; rfl) ?_
    refine g_nif_eq E 33 d_CY_work_26 (by decide) (by decide) (fun h3 => absurd h3 (by decide)) (fun _ => ?_)
    refine g_iconst (v := nI 1) E d_CY_work_29 (by decide) ?_
    refine g_goto E 34 d_CY_work_30 (by decide) ?_
    refine gpSv (As := [.int (nI 1)]) (rest := []) E hO (C_CY_refuseUnless l) (cs_CY_55 E rfl rfl ⟨Nat.le_of_ble_eq_true rfl, Nat.le_of_ble_eq_true rfl⟩) rfl rfl (Nat.le_of_ble_eq_true rfl) ⟨Nat.zero_le _, Nat.zero_le _⟩ d_CY_work_34 ?_
    refine g_iload_n E d_CY_work_37 rfl 2 rfl ?_
    refine g_iconst (v := nI 1) E d_CY_work_38 (by decide) ?_
    refine g_ldc E kk_CY_111 d_CY_work_39 ?_
    refine g_topi (show ((1000000) : Int32) = nI 1000000 from by decide) ?_
    refine gpSi (As := [.int (nI k), .int (nI 1), .int (nI 1000000)]) (rest := []) E hO (C_CY_isWithin l (nI k) (nI 1) (nI 1000000)) (cs_CY_51 E rfl rfl ⟨Nat.le_of_ble_eq_true rfl, Nat.le_of_ble_eq_true rfl⟩) rfl rfl (Nat.le_of_ble_eq_true rfl) ⟨Nat.zero_le _, Nat.zero_le _⟩ d_CY_work_41 ?_
    refine g_topi (show bI _ = nI 1 from by rw [inB_y (by omega) (by omega) (by omega)]; rfl) ?_
    refine g_nif_eq E 61 d_CY_work_44 (by decide) (by decide) (fun h4 => absurd h4 (by decide)) (fun _ => ?_)
    refine g_iload_n E d_CY_work_47 rfl 3 rfl ?_
    refine g_iconst (v := nI 0) E d_CY_work_48 (by decide) ?_
    refine g_ldc E kk_CY_111 d_CY_work_49 ?_
    refine g_topi (show ((1000000) : Int32) = nI 1000000 from by decide) ?_
    refine gpSi (As := [.int (nI v), .int (nI 0), .int (nI 1000000)]) (rest := []) E hO (C_CY_isWithin l (nI v) (nI 0) (nI 1000000)) (cs_CY_51 E rfl rfl ⟨Nat.le_of_ble_eq_true rfl, Nat.le_of_ble_eq_true rfl⟩) rfl rfl (Nat.le_of_ble_eq_true rfl) ⟨Nat.zero_le _, Nat.zero_le _⟩ d_CY_work_51 ?_
    refine g_topi (show bI _ = nI 1 from by rw [inB_y (by omega) (by omega) (by omega)]; rfl) ?_
    refine g_nif_eq E 61 d_CY_work_54 (by decide) (by decide) (fun h5 => absurd h5 (by decide)) (fun _ => ?_)
    refine g_iconst (v := nI 1) E d_CY_work_57 (by decide) ?_
    refine g_goto E 62 d_CY_work_58 (by decide) ?_
    refine gpSv (As := [.int (nI 1)]) (rest := []) E hO (C_CY_refuseUnless l) (cs_CY_55 E rfl rfl ⟨Nat.le_of_ble_eq_true rfl, Nat.le_of_ble_eq_true rfl⟩) rfl rfl (Nat.le_of_ble_eq_true rfl) ⟨Nat.zero_le _, Nat.zero_le _⟩ d_CY_work_62 ?_
    refine g_aload_n E d_CY_work_65 rfl 0 rfl ?_
    refine gf_CY_39 E hO 0 rfl rfl d_CY_work_66 ?_
    refine gf_CY_112 E hO 12 rfl rfl d_CY_work_69 ?_
    refine g_bipush (v := nI 10) E d_CY_work_72 (by decide) ?_
    refine g_ncmp_lt E 81 d_CY_work_74 (by decide) (by omega) (by omega) (fun h6 => ?_) (fun h6 => ?_)
    · exact absurd h6 (by omega)
    · refine g_iconst (v := nI 1) E d_CY_work_77 (by decide) ?_
      refine g_goto E 82 d_CY_work_78 (by decide) ?_
      exact gx_S E hne hlk (X_CY_refuseIfFull l hf (V := V) (w := wC V ad r1 r2 r3 nY ix bu np st sr sx tk rn sh sn yw nw yo ce wo po ne cs sv mk sp rs bg dp)) cX.blind (cs_CY_71 E rfl rfl ⟨Nat.le_of_ble_eq_true rfl, Nat.le_of_ble_eq_true rfl⟩) (As := [.int (nI 1)]) (rest := []) rfl rfl (Nat.le_of_ble_eq_true rfl) d_CY_work_82 ⟨Nat.le_of_ble_eq_true rfl, Nat.le_of_ble_eq_true rfl⟩ (fun U hU hWU => ⟨rfl, by rw [hU]; exact hv.2.1, gK.warm hWU hv.2.2.1, XK.move hWU (fun _ _ => by rw [hU]) hv.2.2.2⟩)

set_option maxHeartbeats 4000000 in
set_option maxRecDepth 100000 in
theorem X_CY_join_1 (l : Launch) (hf : l.flags = flags0) {V : gV} {ad r1 r2 r3 : Nat → Nat} {nY : Nat} {ix bu : Nat → Nat} {np : Nat} {st sr : Nat → Nat} {sx tk : Nat → Nat → Nat} {rn sh sn : Nat → Nat} {yw nw : Nat} {yo ce wo : Nat → Nat} {po ne : Nat → Option Nat} {cs : Nat → Nat} {sv : Nat → Nat → Nat} {mk : Nat} {sp rs : Nat → Int} {bg dp : Nat} (a b v : Int32) (hb : (inR a (nI nw) && inR b (nI nw) && !decide (a = b)) = false) : mX l y_CY_join (w_CY_join :: gt) { frames := 7, cells := 1, slots := 6, locals := 120 } V (wC V ad r1 r2 r3 nY ix bu np st sr sx tk rn sh sn yw nw yo ce wo po ne cs sv mk sp rs bg dp) [.ref (ad 0), .int a, .int b, .int v] nIAE := by
  refine gMetX (V := V) (As := [.ref (ad 0), .int a, .int b, .int v]) (cc := c_CY_join) (maxL := 5) (ret := (some .int)) (by decide) rfl (Nat.le_of_ble_eq_true rfl) (fun a U h => ⟨h.1, h.2.2.1⟩) ?_
  intro p e s m below meth c E hadm hne hlk hv
  have hO := gO_r (locs1 := []) (ws := wC V ad r1 r2 r3 nY ix bu np st sr sx tk rn sh sn yw nw yo ce wo po ne cs sv mk sp rs bg dp) hv.2.1
  refine g_aload_n E d_CY_join_0 rfl 0 rfl ?_
  refine gf_CY_39 E hO 0 rfl rfl d_CY_join_1 ?_
  refine g_iload_n E d_CY_join_4 rfl 1 rfl ?_
  refine gpVi (As := [.int a]) (rest := []) E hO 12 rfl rfl (C_Wo_has l a) (cs_CY_116 E rfl rfl ⟨Nat.le_of_ble_eq_true rfl, Nat.le_of_ble_eq_true rfl⟩) rfl rfl (Nat.le_of_ble_eq_true rfl) ⟨Nat.zero_le _, Nat.zero_le _⟩ d_CY_join_5 ?_
  refine g_bif_eq E 31 d_CY_join_8 (by decide) (fun h1 => ?_) (fun h1 => ?_)
  · refine g_iconst (v := nI 0) E d_CY_join_31 (by decide) ?_
    exact gx_S E hne hlk (X_CY_refuseUnless l hf (V := V) (w := wC V ad r1 r2 r3 nY ix bu np st sr sx tk rn sh sn yw nw yo ce wo po ne cs sv mk sp rs bg dp)) cX.blind (cs_CY_55 E rfl rfl ⟨Nat.le_of_ble_eq_true rfl, Nat.le_of_ble_eq_true rfl⟩) (As := [.int (nI 0)]) (rest := []) rfl rfl (Nat.le_of_ble_eq_true rfl) d_CY_join_32 ⟨Nat.le_of_ble_eq_true rfl, Nat.le_of_ble_eq_true rfl⟩ (fun U hU hWU => ⟨rfl, by rw [hU]; exact hv.2.1, gK.warm hWU hv.2.2.1, XK.move hWU (fun _ _ => by rw [hU]) hv.2.2.2⟩)
  · refine g_aload_n E d_CY_join_11 rfl 0 rfl ?_
    refine gf_CY_39 E hO 0 rfl rfl d_CY_join_12 ?_
    refine g_iload_n E d_CY_join_15 rfl 2 rfl ?_
    refine gpVi (As := [.int b]) (rest := []) E hO 12 rfl rfl (C_Wo_has l b) (cs_CY_116 E rfl rfl ⟨Nat.le_of_ble_eq_true rfl, Nat.le_of_ble_eq_true rfl⟩) rfl rfl (Nat.le_of_ble_eq_true rfl) ⟨Nat.zero_le _, Nat.zero_le _⟩ d_CY_join_16 ?_
    refine g_bif_eq E 31 d_CY_join_19 (by decide) (fun h2 => ?_) (fun h2 => ?_)
    · refine g_iconst (v := nI 0) E d_CY_join_31 (by decide) ?_
      exact gx_S E hne hlk (X_CY_refuseUnless l hf (V := V) (w := wC V ad r1 r2 r3 nY ix bu np st sr sx tk rn sh sn yw nw yo ce wo po ne cs sv mk sp rs bg dp)) cX.blind (cs_CY_55 E rfl rfl ⟨Nat.le_of_ble_eq_true rfl, Nat.le_of_ble_eq_true rfl⟩) (As := [.int (nI 0)]) (rest := []) rfl rfl (Nat.le_of_ble_eq_true rfl) d_CY_join_32 ⟨Nat.le_of_ble_eq_true rfl, Nat.le_of_ble_eq_true rfl⟩ (fun U hU hWU => ⟨rfl, by rw [hU]; exact hv.2.1, gK.warm hWU hv.2.2.1, XK.move hWU (fun _ _ => by rw [hU]) hv.2.2.2⟩)
    · refine g_iload_n E d_CY_join_22 rfl 1 rfl ?_
      refine g_iload_n E d_CY_join_23 rfl 2 rfl ?_
      refine g_icmp_eq E 31 d_CY_join_24 (by decide) (fun h3 => ?_) (fun h3 => ?_)
      · refine g_iconst (v := nI 0) E d_CY_join_31 (by decide) ?_
        exact gx_S E hne hlk (X_CY_refuseUnless l hf (V := V) (w := wC V ad r1 r2 r3 nY ix bu np st sr sx tk rn sh sn yw nw yo ce wo po ne cs sv mk sp rs bg dp)) cX.blind (cs_CY_55 E rfl rfl ⟨Nat.le_of_ble_eq_true rfl, Nat.le_of_ble_eq_true rfl⟩) (As := [.int (nI 0)]) (rest := []) rfl rfl (Nat.le_of_ble_eq_true rfl) d_CY_join_32 ⟨Nat.le_of_ble_eq_true rfl, Nat.le_of_ble_eq_true rfl⟩ (fun U hU hWU => ⟨rfl, by rw [hU]; exact hv.2.1, gK.warm hWU hv.2.2.1, XK.move hWU (fun _ _ => by rw [hU]) hv.2.2.2⟩)
      · refine g_iconst (v := nI 1) E d_CY_join_27 (by decide) ?_
        refine g_goto E 32 d_CY_join_28 (by decide) ?_
        exact absurd hb (by first | (simp [h1, h2, h3]; done) | simp_all)

set_option maxHeartbeats 4000000 in
set_option maxRecDepth 100000 in
theorem X_CY_join_2 (l : Launch) (hf : l.flags = flags0) {V : gV} {ad r1 r2 r3 : Nat → Nat} {nY : Nat} {ix bu : Nat → Nat} {np : Nat} {st sr : Nat → Nat} {sx tk : Nat → Nat → Nat} {rn sh sn : Nat → Nat} {yw nw : Nat} {yo ce wo : Nat → Nat} {po ne : Nat → Option Nat} {cs : Nat → Nat} {sv : Nat → Nat → Nat} {mk : Nat} {sp rs : Nat → Int} {bg dp : Nat} (a b : Nat) (v : Int32) (ha : a < nw) (hbw : b < nw) (hab : a ≠ b) (hnw : nw ≤ 10) (hb : inB v (nI 0) (nI 1000000) = false) : mX l y_CY_join (w_CY_join :: gt) { frames := 7, cells := 1, slots := 6, locals := 120 } V (wC V ad r1 r2 r3 nY ix bu np st sr sx tk rn sh sn yw nw yo ce wo po ne cs sv mk sp rs bg dp) [.ref (ad 0), .int (nI a), .int (nI b), .int v] nIAE := by
  refine gMetX (V := V) (As := [.ref (ad 0), .int (nI a), .int (nI b), .int v]) (cc := c_CY_join) (maxL := 5) (ret := (some .int)) (by decide) rfl (Nat.le_of_ble_eq_true rfl) (fun a U h => ⟨h.1, h.2.2.1⟩) ?_
  intro p e s m below meth c E hadm hne hlk hv
  have hO := gO_r (locs1 := []) (ws := wC V ad r1 r2 r3 nY ix bu np st sr sx tk rn sh sn yw nw yo ce wo po ne cs sv mk sp rs bg dp) hv.2.1
  refine g_aload_n E d_CY_join_0 rfl 0 rfl ?_
  refine gf_CY_39 E hO 0 rfl rfl d_CY_join_1 ?_
  refine g_iload_n E d_CY_join_4 rfl 1 rfl ?_
  refine gpVi (As := [.int (nI a)]) (rest := []) E hO 12 rfl rfl (C_Wo_has l (nI a)) (cs_CY_116 E rfl rfl ⟨Nat.le_of_ble_eq_true rfl, Nat.le_of_ble_eq_true rfl⟩) rfl rfl (Nat.le_of_ble_eq_true rfl) ⟨Nat.zero_le _, Nat.zero_le _⟩ d_CY_join_5 ?_
  refine g_topi (show bI _ = nI 1 from by rw [inR_y (by omega) (by omega)]; rfl) ?_
  refine g_nif_eq E 31 d_CY_join_8 (by decide) (by decide) (fun h1 => absurd h1 (by decide)) (fun _ => ?_)
  refine g_aload_n E d_CY_join_11 rfl 0 rfl ?_
  refine gf_CY_39 E hO 0 rfl rfl d_CY_join_12 ?_
  refine g_iload_n E d_CY_join_15 rfl 2 rfl ?_
  refine gpVi (As := [.int (nI b)]) (rest := []) E hO 12 rfl rfl (C_Wo_has l (nI b)) (cs_CY_116 E rfl rfl ⟨Nat.le_of_ble_eq_true rfl, Nat.le_of_ble_eq_true rfl⟩) rfl rfl (Nat.le_of_ble_eq_true rfl) ⟨Nat.zero_le _, Nat.zero_le _⟩ d_CY_join_16 ?_
  refine g_topi (show bI _ = nI 1 from by rw [inR_y (by omega) (by omega)]; rfl) ?_
  refine g_nif_eq E 31 d_CY_join_19 (by decide) (by decide) (fun h2 => absurd h2 (by decide)) (fun _ => ?_)
  refine g_iload_n E d_CY_join_22 rfl 1 rfl ?_
  refine g_iload_n E d_CY_join_23 rfl 2 rfl ?_
  refine g_ncmp_eq E 31 d_CY_join_24 (by decide) (by omega) (by omega) (fun h3 => ?_) (fun h3 => ?_)
  · exact absurd h3 (by omega)
  · refine g_iconst (v := nI 1) E d_CY_join_27 (by decide) ?_
    refine g_goto E 32 d_CY_join_28 (by decide) ?_
    refine gpSv (As := [.int (nI 1)]) (rest := []) E hO (C_CY_refuseUnless l) (cs_CY_55 E rfl rfl ⟨Nat.le_of_ble_eq_true rfl, Nat.le_of_ble_eq_true rfl⟩) rfl rfl (Nat.le_of_ble_eq_true rfl) ⟨Nat.zero_le _, Nat.zero_le _⟩ d_CY_join_32 ?_
    refine g_iload_n E d_CY_join_35 rfl 3 rfl ?_
    refine g_iconst (v := nI 0) E d_CY_join_36 (by decide) ?_
    refine g_ldc E kk_CY_111 d_CY_join_37 ?_
    refine g_topi (show ((1000000) : Int32) = nI 1000000 from by decide) ?_
    refine gpSi (As := [.int v, .int (nI 0), .int (nI 1000000)]) (rest := []) E hO (C_CY_isWithin l v (nI 0) (nI 1000000)) (cs_CY_51 E rfl rfl ⟨Nat.le_of_ble_eq_true rfl, Nat.le_of_ble_eq_true rfl⟩) rfl rfl (Nat.le_of_ble_eq_true rfl) ⟨Nat.zero_le _, Nat.zero_le _⟩ d_CY_join_39 ?_
    refine g_topi (show bI _ = nI 0 from by rw [hb]; rfl) ?_
    exact gx_S E hne hlk (X_CY_refuseUnless l hf (V := V) (w := wC V ad r1 r2 r3 nY ix bu np st sr sx tk rn sh sn yw nw yo ce wo po ne cs sv mk sp rs bg dp)) cX.blind (cs_CY_55 E rfl rfl ⟨Nat.le_of_ble_eq_true rfl, Nat.le_of_ble_eq_true rfl⟩) (As := [.int (nI 0)]) (rest := []) rfl rfl (Nat.le_of_ble_eq_true rfl) d_CY_join_42 ⟨Nat.le_of_ble_eq_true rfl, Nat.le_of_ble_eq_true rfl⟩ (fun U hU hWU => ⟨rfl, by rw [hU]; exact hv.2.1, gK.warm hWU hv.2.2.1, XK.move hWU (fun _ _ => by rw [hU]) hv.2.2.2⟩)

set_option maxHeartbeats 4000000 in
set_option maxRecDepth 100000 in
theorem X_CY_clash (l : Launch) (hf : l.flags = flags0) {V : gV} {ad r1 r2 r3 : Nat → Nat} {nY : Nat} {ix bu : Nat → Nat} {np : Nat} {st sr : Nat → Nat} {sx tk : Nat → Nat → Nat} {rn sh sn : Nat → Nat} {yw nw : Nat} {yo ce wo : Nat → Nat} {po ne : Nat → Option Nat} {cs : Nat → Nat} {sv : Nat → Nat → Nat} {mk : Nat} {sp rs : Nat → Int} {bg dp : Nat} (a b : Int32) (q : Bool) (hb : (inR a (nI nw) && inR b (nI nw) && !decide (a = b)) = false) : mX l y_CY_clash (w_CY_clash :: gt) { frames := 7, cells := 1, slots := 6, locals := 120 } V (wC V ad r1 r2 r3 nY ix bu np st sr sx tk rn sh sn yw nw yo ce wo po ne cs sv mk sp rs bg dp) [.ref (ad 0), .int a, .int b, .int (bI q)] nIAE := by
  refine gMetX (V := V) (As := [.ref (ad 0), .int a, .int b, .int (bI q)]) (cc := c_CY_clash) (maxL := 5) (ret := (some .boolean)) (by decide) rfl (Nat.le_of_ble_eq_true rfl) (fun a U h => ⟨h.1, h.2.2.1⟩) ?_
  intro p e s m below meth c E hadm hne hlk hv
  have hO := gO_r (locs1 := []) (ws := wC V ad r1 r2 r3 nY ix bu np st sr sx tk rn sh sn yw nw yo ce wo po ne cs sv mk sp rs bg dp) hv.2.1
  refine g_aload_n E d_CY_clash_0 rfl 0 rfl ?_
  refine gf_CY_39 E hO 0 rfl rfl d_CY_clash_1 ?_
  refine g_iload_n E d_CY_clash_4 rfl 1 rfl ?_
  refine gpVi (As := [.int a]) (rest := []) E hO 12 rfl rfl (C_Wo_has l a) (cs_CY_116 E rfl rfl ⟨Nat.le_of_ble_eq_true rfl, Nat.le_of_ble_eq_true rfl⟩) rfl rfl (Nat.le_of_ble_eq_true rfl) ⟨Nat.zero_le _, Nat.zero_le _⟩ d_CY_clash_5 ?_
  refine g_bif_eq E 31 d_CY_clash_8 (by decide) (fun h1 => ?_) (fun h1 => ?_)
  · refine g_iconst (v := nI 0) E d_CY_clash_31 (by decide) ?_
    exact gx_S E hne hlk (X_CY_refuseUnless l hf (V := V) (w := wC V ad r1 r2 r3 nY ix bu np st sr sx tk rn sh sn yw nw yo ce wo po ne cs sv mk sp rs bg dp)) cX.blind (cs_CY_55 E rfl rfl ⟨Nat.le_of_ble_eq_true rfl, Nat.le_of_ble_eq_true rfl⟩) (As := [.int (nI 0)]) (rest := []) rfl rfl (Nat.le_of_ble_eq_true rfl) d_CY_clash_32 ⟨Nat.le_of_ble_eq_true rfl, Nat.le_of_ble_eq_true rfl⟩ (fun U hU hWU => ⟨rfl, by rw [hU]; exact hv.2.1, gK.warm hWU hv.2.2.1, XK.move hWU (fun _ _ => by rw [hU]) hv.2.2.2⟩)
  · refine g_aload_n E d_CY_clash_11 rfl 0 rfl ?_
    refine gf_CY_39 E hO 0 rfl rfl d_CY_clash_12 ?_
    refine g_iload_n E d_CY_clash_15 rfl 2 rfl ?_
    refine gpVi (As := [.int b]) (rest := []) E hO 12 rfl rfl (C_Wo_has l b) (cs_CY_116 E rfl rfl ⟨Nat.le_of_ble_eq_true rfl, Nat.le_of_ble_eq_true rfl⟩) rfl rfl (Nat.le_of_ble_eq_true rfl) ⟨Nat.zero_le _, Nat.zero_le _⟩ d_CY_clash_16 ?_
    refine g_bif_eq E 31 d_CY_clash_19 (by decide) (fun h2 => ?_) (fun h2 => ?_)
    · refine g_iconst (v := nI 0) E d_CY_clash_31 (by decide) ?_
      exact gx_S E hne hlk (X_CY_refuseUnless l hf (V := V) (w := wC V ad r1 r2 r3 nY ix bu np st sr sx tk rn sh sn yw nw yo ce wo po ne cs sv mk sp rs bg dp)) cX.blind (cs_CY_55 E rfl rfl ⟨Nat.le_of_ble_eq_true rfl, Nat.le_of_ble_eq_true rfl⟩) (As := [.int (nI 0)]) (rest := []) rfl rfl (Nat.le_of_ble_eq_true rfl) d_CY_clash_32 ⟨Nat.le_of_ble_eq_true rfl, Nat.le_of_ble_eq_true rfl⟩ (fun U hU hWU => ⟨rfl, by rw [hU]; exact hv.2.1, gK.warm hWU hv.2.2.1, XK.move hWU (fun _ _ => by rw [hU]) hv.2.2.2⟩)
    · refine g_iload_n E d_CY_clash_22 rfl 1 rfl ?_
      refine g_iload_n E d_CY_clash_23 rfl 2 rfl ?_
      refine g_icmp_eq E 31 d_CY_clash_24 (by decide) (fun h3 => ?_) (fun h3 => ?_)
      · refine g_iconst (v := nI 0) E d_CY_clash_31 (by decide) ?_
        exact gx_S E hne hlk (X_CY_refuseUnless l hf (V := V) (w := wC V ad r1 r2 r3 nY ix bu np st sr sx tk rn sh sn yw nw yo ce wo po ne cs sv mk sp rs bg dp)) cX.blind (cs_CY_55 E rfl rfl ⟨Nat.le_of_ble_eq_true rfl, Nat.le_of_ble_eq_true rfl⟩) (As := [.int (nI 0)]) (rest := []) rfl rfl (Nat.le_of_ble_eq_true rfl) d_CY_clash_32 ⟨Nat.le_of_ble_eq_true rfl, Nat.le_of_ble_eq_true rfl⟩ (fun U hU hWU => ⟨rfl, by rw [hU]; exact hv.2.1, gK.warm hWU hv.2.2.1, XK.move hWU (fun _ _ => by rw [hU]) hv.2.2.2⟩)
      · refine g_iconst (v := nI 1) E d_CY_clash_27 (by decide) ?_
        refine g_goto E 32 d_CY_clash_28 (by decide) ?_
        exact absurd hb (by first | (simp [h1, h2, h3]; done) | simp_all)

set_option maxHeartbeats 4000000 in
set_option maxRecDepth 100000 in
theorem X_CY_needs (l : Launch) (hf : l.flags = flags0) {V : gV} {ad r1 r2 r3 : Nat → Nat} {nY : Nat} {ix bu : Nat → Nat} {np : Nat} {st sr : Nat → Nat} {sx tk : Nat → Nat → Nat} {rn sh sn : Nat → Nat} {yw nw : Nat} {yo ce wo : Nat → Nat} {po ne : Nat → Option Nat} {cs : Nat → Nat} {sv : Nat → Nat → Nat} {mk : Nat} {sp rs : Nat → Int} {bg dp : Nat} (a q : Int32) (hb : (inR a (nI nw) && (decide (q = oN none) || inR q (nI nw)) && !decide (a = q)) = false) : mX l y_CY_needs (w_CY_needs :: gt) { frames := 7, cells := 1, slots := 6, locals := 120 } V (wC V ad r1 r2 r3 nY ix bu np st sr sx tk rn sh sn yw nw yo ce wo po ne cs sv mk sp rs bg dp) [.ref (ad 0), .int a, .int q] nIAE := by
  refine gMetX (V := V) (As := [.ref (ad 0), .int a, .int q]) (cc := c_CY_needs) (maxL := 4) (ret := (some .int)) (by decide) rfl (Nat.le_of_ble_eq_true rfl) (fun a U h => ⟨h.1, h.2.2.1⟩) ?_
  intro p e s m below meth c E hadm hne hlk hv
  have hO := gO_r (locs1 := []) (ws := wC V ad r1 r2 r3 nY ix bu np st sr sx tk rn sh sn yw nw yo ce wo po ne cs sv mk sp rs bg dp) hv.2.1
  refine g_aload_n E d_CY_needs_0 rfl 0 rfl ?_
  refine gf_CY_39 E hO 0 rfl rfl d_CY_needs_1 ?_
  refine g_iload_n E d_CY_needs_4 rfl 1 rfl ?_
  refine gpVi (As := [.int a]) (rest := []) E hO 12 rfl rfl (C_Wo_has l a) (cs_CY_116 E rfl rfl ⟨Nat.le_of_ble_eq_true rfl, Nat.le_of_ble_eq_true rfl⟩) rfl rfl (Nat.le_of_ble_eq_true rfl) ⟨Nat.zero_le _, Nat.zero_le _⟩ d_CY_needs_5 ?_
  refine g_bif_eq E 36 d_CY_needs_8 (by decide) (fun h1 => ?_) (fun h1 => ?_)
  · refine g_iconst (v := nI 0) E d_CY_needs_36 (by decide) ?_
    exact gx_S E hne hlk (X_CY_refuseUnless l hf (V := V) (w := wC V ad r1 r2 r3 nY ix bu np st sr sx tk rn sh sn yw nw yo ce wo po ne cs sv mk sp rs bg dp)) cX.blind (cs_CY_55 E rfl rfl ⟨Nat.le_of_ble_eq_true rfl, Nat.le_of_ble_eq_true rfl⟩) (As := [.int (nI 0)]) (rest := []) rfl rfl (Nat.le_of_ble_eq_true rfl) d_CY_needs_37 ⟨Nat.le_of_ble_eq_true rfl, Nat.le_of_ble_eq_true rfl⟩ (fun U hU hWU => ⟨rfl, by rw [hU]; exact hv.2.1, gK.warm hWU hv.2.2.1, XK.move hWU (fun _ _ => by rw [hU]) hv.2.2.2⟩)
  · refine g_iload_n E d_CY_needs_11 rfl 2 rfl ?_
    refine g_iconst (v := oN none) E d_CY_needs_12 (by decide) ?_
    refine g_icmp_eq E 27 d_CY_needs_13 (by decide) (fun h2 => ?_) (fun h2 => ?_)
    · refine g_iload_n E d_CY_needs_27 rfl 1 rfl ?_
      refine g_iload_n E d_CY_needs_28 rfl 2 rfl ?_
      refine g_icmp_eq E 36 d_CY_needs_29 (by decide) (fun h3 => ?_) (fun h3 => ?_)
      · refine g_iconst (v := nI 0) E d_CY_needs_36 (by decide) ?_
        exact gx_S E hne hlk (X_CY_refuseUnless l hf (V := V) (w := wC V ad r1 r2 r3 nY ix bu np st sr sx tk rn sh sn yw nw yo ce wo po ne cs sv mk sp rs bg dp)) cX.blind (cs_CY_55 E rfl rfl ⟨Nat.le_of_ble_eq_true rfl, Nat.le_of_ble_eq_true rfl⟩) (As := [.int (nI 0)]) (rest := []) rfl rfl (Nat.le_of_ble_eq_true rfl) d_CY_needs_37 ⟨Nat.le_of_ble_eq_true rfl, Nat.le_of_ble_eq_true rfl⟩ (fun U hU hWU => ⟨rfl, by rw [hU]; exact hv.2.1, gK.warm hWU hv.2.2.1, XK.move hWU (fun _ _ => by rw [hU]) hv.2.2.2⟩)
      · refine g_iconst (v := nI 1) E d_CY_needs_32 (by decide) ?_
        refine g_goto E 37 d_CY_needs_33 (by decide) ?_
        exact absurd hb (by first | (simp [h1, h2, h3]; done) | simp_all)
    · refine g_aload_n E d_CY_needs_16 rfl 0 rfl ?_
      refine gf_CY_39 E hO 0 rfl rfl d_CY_needs_17 ?_
      refine g_iload_n E d_CY_needs_20 rfl 2 rfl ?_
      refine gpVi (As := [.int q]) (rest := []) E hO 12 rfl rfl (C_Wo_has l q) (cs_CY_116 E rfl rfl ⟨Nat.le_of_ble_eq_true rfl, Nat.le_of_ble_eq_true rfl⟩) rfl rfl (Nat.le_of_ble_eq_true rfl) ⟨Nat.zero_le _, Nat.zero_le _⟩ d_CY_needs_21 ?_
      refine g_bif_eq E 36 d_CY_needs_24 (by decide) (fun h4 => ?_) (fun h4 => ?_)
      · refine g_iconst (v := nI 0) E d_CY_needs_36 (by decide) ?_
        exact gx_S E hne hlk (X_CY_refuseUnless l hf (V := V) (w := wC V ad r1 r2 r3 nY ix bu np st sr sx tk rn sh sn yw nw yo ce wo po ne cs sv mk sp rs bg dp)) cX.blind (cs_CY_55 E rfl rfl ⟨Nat.le_of_ble_eq_true rfl, Nat.le_of_ble_eq_true rfl⟩) (As := [.int (nI 0)]) (rest := []) rfl rfl (Nat.le_of_ble_eq_true rfl) d_CY_needs_37 ⟨Nat.le_of_ble_eq_true rfl, Nat.le_of_ble_eq_true rfl⟩ (fun U hU hWU => ⟨rfl, by rw [hU]; exact hv.2.1, gK.warm hWU hv.2.2.1, XK.move hWU (fun _ _ => by rw [hU]) hv.2.2.2⟩)
      · refine g_iload_n E d_CY_needs_27 rfl 1 rfl ?_
        refine g_iload_n E d_CY_needs_28 rfl 2 rfl ?_
        refine g_icmp_eq E 36 d_CY_needs_29 (by decide) (fun h5 => ?_) (fun h5 => ?_)
        · refine g_iconst (v := nI 0) E d_CY_needs_36 (by decide) ?_
          exact gx_S E hne hlk (X_CY_refuseUnless l hf (V := V) (w := wC V ad r1 r2 r3 nY ix bu np st sr sx tk rn sh sn yw nw yo ce wo po ne cs sv mk sp rs bg dp)) cX.blind (cs_CY_55 E rfl rfl ⟨Nat.le_of_ble_eq_true rfl, Nat.le_of_ble_eq_true rfl⟩) (As := [.int (nI 0)]) (rest := []) rfl rfl (Nat.le_of_ble_eq_true rfl) d_CY_needs_37 ⟨Nat.le_of_ble_eq_true rfl, Nat.le_of_ble_eq_true rfl⟩ (fun U hU hWU => ⟨rfl, by rw [hU]; exact hv.2.1, gK.warm hWU hv.2.2.1, XK.move hWU (fun _ _ => by rw [hU]) hv.2.2.2⟩)
        · refine g_iconst (v := nI 1) E d_CY_needs_32 (by decide) ?_
          refine g_goto E 37 d_CY_needs_33 (by decide) ?_
          exact absurd hb (by first | (simp [h1, h2, h4, h5]; done) | simp_all)

set_option maxHeartbeats 4000000 in
set_option maxRecDepth 100000 in
theorem X_CY_chosen (l : Launch) (hf : l.flags = flags0) {V : gV} {ad r1 r2 r3 : Nat → Nat} {nY : Nat} {ix bu : Nat → Nat} {np : Nat} {st sr : Nat → Nat} {sx tk : Nat → Nat → Nat} {rn sh sn : Nat → Nat} {yw nw : Nat} {yo ce wo : Nat → Nat} {po ne : Nat → Option Nat} {cs : Nat → Nat} {sv : Nat → Nat → Nat} {mk : Nat} {sp rs : Nat → Int} {bg dp : Nat} (a : Int32) (hb : inR a (nI nw) = false) : mX l y_CY_chosen (w_CY_chosen :: gt) { frames := 7, cells := 1, slots := 6, locals := 120 } V (wC V ad r1 r2 r3 nY ix bu np st sr sx tk rn sh sn yw nw yo ce wo po ne cs sv mk sp rs bg dp) [.ref (ad 0), .int a] nIAE := by
  refine gMetX (V := V) (As := [.ref (ad 0), .int a]) (cc := c_CY_chosen) (maxL := 2) (ret := (some .boolean)) (by decide) rfl (Nat.le_of_ble_eq_true rfl) (fun a U h => ⟨h.1, h.2.2.1⟩) ?_
  intro p e s m below meth c E hadm hne hlk hv
  have hO := gO_r (locs1 := []) (ws := wC V ad r1 r2 r3 nY ix bu np st sr sx tk rn sh sn yw nw yo ce wo po ne cs sv mk sp rs bg dp) hv.2.1
  refine g_aload_n E d_CY_chosen_0 rfl 0 rfl ?_
  refine gf_CY_39 E hO 0 rfl rfl d_CY_chosen_1 ?_
  refine g_iload_n E d_CY_chosen_4 rfl 1 rfl ?_
  refine gpVi (As := [.int a]) (rest := []) E hO 12 rfl rfl (C_Wo_has l a) (cs_CY_116 E rfl rfl ⟨Nat.le_of_ble_eq_true rfl, Nat.le_of_ble_eq_true rfl⟩) rfl rfl (Nat.le_of_ble_eq_true rfl) ⟨Nat.zero_le _, Nat.zero_le _⟩ d_CY_chosen_5 ?_
  refine g_topi (show bI _ = nI 0 from by rw [hb]; rfl) ?_
  exact gx_S E hne hlk (X_CY_refuseUnless l hf (V := V) (w := wC V ad r1 r2 r3 nY ix bu np st sr sx tk rn sh sn yw nw yo ce wo po ne cs sv mk sp rs bg dp)) cX.blind (cs_CY_55 E rfl rfl ⟨Nat.le_of_ble_eq_true rfl, Nat.le_of_ble_eq_true rfl⟩) (As := [.int (nI 0)]) (rest := []) rfl rfl (Nat.le_of_ble_eq_true rfl) d_CY_chosen_8 ⟨Nat.le_of_ble_eq_true rfl, Nat.le_of_ble_eq_true rfl⟩ (fun U hU hWU => ⟨rfl, by rw [hU]; exact hv.2.1, gK.warm hWU hv.2.2.1, XK.move hWU (fun _ _ => by rw [hU]) hv.2.2.2⟩)

set_option maxHeartbeats 4000000 in
set_option maxRecDepth 100000 in
theorem X_CY_costs (l : Launch) (hf : l.flags = flags0) {V : gV} {ad r1 r2 r3 : Nat → Nat} {nY : Nat} {ix bu : Nat → Nat} {np : Nat} {st sr : Nat → Nat} {sx tk : Nat → Nat → Nat} {rn sh sn : Nat → Nat} {yw nw : Nat} {yo ce wo : Nat → Nat} {po ne : Nat → Option Nat} {cs : Nat → Nat} {sv : Nat → Nat → Nat} {mk : Nat} {sp rs : Nat → Int} {bg dp : Nat} (y : Int32) (hb : inR y (nI nY) = false) : mX l y_CY_costs (w_CY_costs :: gt) { frames := 7, cells := 1, slots := 6, locals := 120 } V (wC V ad r1 r2 r3 nY ix bu np st sr sx tk rn sh sn yw nw yo ce wo po ne cs sv mk sp rs bg dp) [.ref (ad 0), .int y] nIAE := by
  refine gMetX (V := V) (As := [.ref (ad 0), .int y]) (cc := c_CY_costs) (maxL := 2) (ret := (some .int)) (by decide) rfl (Nat.le_of_ble_eq_true rfl) (fun a U h => ⟨h.1, h.2.2.1⟩) ?_
  intro p e s m below meth c E hadm hne hlk hv
  have hO := gO_r (locs1 := []) (ws := wC V ad r1 r2 r3 nY ix bu np st sr sx tk rn sh sn yw nw yo ce wo po ne cs sv mk sp rs bg dp) hv.2.1
  refine g_aload_n E d_CY_costs_0 rfl 0 rfl ?_
  refine gf_CY_21 E hO 0 rfl rfl d_CY_costs_1 ?_
  refine g_iload_n E d_CY_costs_4 rfl 1 rfl ?_
  refine gpVi (As := [.int y]) (rest := []) E hO 1 rfl rfl (C_Ye_has l y) (cs_CY_47 E rfl rfl ⟨Nat.le_of_ble_eq_true rfl, Nat.le_of_ble_eq_true rfl⟩) rfl rfl (Nat.le_of_ble_eq_true rfl) ⟨Nat.zero_le _, Nat.zero_le _⟩ d_CY_costs_5 ?_
  refine g_topi (show bI _ = nI 0 from by rw [hb]; rfl) ?_
  exact gx_S E hne hlk (X_CY_refuseUnless l hf (V := V) (w := wC V ad r1 r2 r3 nY ix bu np st sr sx tk rn sh sn yw nw yo ce wo po ne cs sv mk sp rs bg dp)) cX.blind (cs_CY_55 E rfl rfl ⟨Nat.le_of_ble_eq_true rfl, Nat.le_of_ble_eq_true rfl⟩) (As := [.int (nI 0)]) (rest := []) rfl rfl (Nat.le_of_ble_eq_true rfl) d_CY_costs_8 ⟨Nat.le_of_ble_eq_true rfl, Nat.le_of_ble_eq_true rfl⟩ (fun U hU hWU => ⟨rfl, by rw [hU]; exact hv.2.1, gK.warm hWU hv.2.2.1, XK.move hWU (fun _ _ => by rw [hU]) hv.2.2.2⟩)

set_option maxHeartbeats 4000000 in
set_option maxRecDepth 100000 in
theorem X_CY_money (l : Launch) (hf : l.flags = flags0) {V : gV} {ad r1 r2 r3 : Nat → Nat} {nY : Nat} {ix bu : Nat → Nat} {np : Nat} {st sr : Nat → Nat} {sx tk : Nat → Nat → Nat} {rn sh sn : Nat → Nat} {yw nw : Nat} {yo ce wo : Nat → Nat} {po ne : Nat → Option Nat} {cs : Nat → Nat} {sv : Nat → Nat → Nat} {mk : Nat} {sp rs : Nat → Int} {bg dp : Nat} (k v : Int32) (hb : (inB k (nI 0) (nI 1000000000) && inB v (nI 0) (nI 1000000000)) = false) : mX l y_CY_money (w_CY_money :: gt) { frames := 7, cells := 1, slots := 6, locals := 120 } V (wC V ad r1 r2 r3 nY ix bu np st sr sx tk rn sh sn yw nw yo ce wo po ne cs sv mk sp rs bg dp) [.ref (ad 0), .int k, .int v] nIAE := by
  refine gMetX (V := V) (As := [.ref (ad 0), .int k, .int v]) (cc := c_CY_money) (maxL := 3) (ret := none) (by decide) rfl (Nat.le_of_ble_eq_true rfl) (fun a U h => ⟨h.1, h.2.2.1⟩) ?_
  intro p e s m below meth c E hadm hne hlk hv
  have hO := gO_r (locs1 := []) (ws := wC V ad r1 r2 r3 nY ix bu np st sr sx tk rn sh sn yw nw yo ce wo po ne cs sv mk sp rs bg dp) hv.2.1
  refine g_iload_n E d_CY_money_0 rfl 1 rfl ?_
  refine g_iconst (v := nI 0) E d_CY_money_1 (by decide) ?_
  refine g_ldc E kk_CY_63 d_CY_money_2 ?_
  refine g_topi (show ((1000000000) : Int32) = nI 1000000000 from by decide) ?_
  refine gpSi (As := [.int k, .int (nI 0), .int (nI 1000000000)]) (rest := []) E hO (C_CY_isWithin l k (nI 0) (nI 1000000000)) (cs_CY_51 E rfl rfl ⟨Nat.le_of_ble_eq_true rfl, Nat.le_of_ble_eq_true rfl⟩) rfl rfl (Nat.le_of_ble_eq_true rfl) ⟨Nat.zero_le _, Nat.zero_le _⟩ d_CY_money_4 ?_
  refine g_bif_eq E 24 d_CY_money_7 (by decide) (fun h1 => ?_) (fun h1 => ?_)
  · refine g_iconst (v := nI 0) E d_CY_money_24 (by decide) ?_
    exact gx_S E hne hlk (X_CY_refuseUnless l hf (V := V) (w := wC V ad r1 r2 r3 nY ix bu np st sr sx tk rn sh sn yw nw yo ce wo po ne cs sv mk sp rs bg dp)) cX.blind (cs_CY_55 E rfl rfl ⟨Nat.le_of_ble_eq_true rfl, Nat.le_of_ble_eq_true rfl⟩) (As := [.int (nI 0)]) (rest := []) rfl rfl (Nat.le_of_ble_eq_true rfl) d_CY_money_25 ⟨Nat.le_of_ble_eq_true rfl, Nat.le_of_ble_eq_true rfl⟩ (fun U hU hWU => ⟨rfl, by rw [hU]; exact hv.2.1, gK.warm hWU hv.2.2.1, XK.move hWU (fun _ _ => by rw [hU]) hv.2.2.2⟩)
  · refine g_iload_n E d_CY_money_10 rfl 2 rfl ?_
    refine g_iconst (v := nI 0) E d_CY_money_11 (by decide) ?_
    refine g_ldc E kk_CY_63 d_CY_money_12 ?_
    refine g_topi (show ((1000000000) : Int32) = nI 1000000000 from by decide) ?_
    refine gpSi (As := [.int v, .int (nI 0), .int (nI 1000000000)]) (rest := []) E hO (C_CY_isWithin l v (nI 0) (nI 1000000000)) (cs_CY_51 E rfl rfl ⟨Nat.le_of_ble_eq_true rfl, Nat.le_of_ble_eq_true rfl⟩) rfl rfl (Nat.le_of_ble_eq_true rfl) ⟨Nat.zero_le _, Nat.zero_le _⟩ d_CY_money_14 ?_
    refine g_bif_eq E 24 d_CY_money_17 (by decide) (fun h2 => ?_) (fun h2 => ?_)
    · refine g_iconst (v := nI 0) E d_CY_money_24 (by decide) ?_
      exact gx_S E hne hlk (X_CY_refuseUnless l hf (V := V) (w := wC V ad r1 r2 r3 nY ix bu np st sr sx tk rn sh sn yw nw yo ce wo po ne cs sv mk sp rs bg dp)) cX.blind (cs_CY_55 E rfl rfl ⟨Nat.le_of_ble_eq_true rfl, Nat.le_of_ble_eq_true rfl⟩) (As := [.int (nI 0)]) (rest := []) rfl rfl (Nat.le_of_ble_eq_true rfl) d_CY_money_25 ⟨Nat.le_of_ble_eq_true rfl, Nat.le_of_ble_eq_true rfl⟩ (fun U hU hWU => ⟨rfl, by rw [hU]; exact hv.2.1, gK.warm hWU hv.2.2.1, XK.move hWU (fun _ _ => by rw [hU]) hv.2.2.2⟩)
    · refine g_iconst (v := nI 1) E d_CY_money_20 (by decide) ?_
      refine g_goto E 25 d_CY_money_21 (by decide) ?_
      exact absurd hb (by first | (simp [h1, h2]; done) | simp_all)

set_option maxHeartbeats 4000000 in
set_option maxRecDepth 100000 in
theorem X_CY_reserve (l : Launch) (hf : l.flags = flags0) {V : gV} {ad r1 r2 r3 : Nat → Nat} {nY : Nat} {ix bu : Nat → Nat} {np : Nat} {st sr : Nat → Nat} {sx tk : Nat → Nat → Nat} {rn sh sn : Nat → Nat} {yw nw : Nat} {yo ce wo : Nat → Nat} {po ne : Nat → Option Nat} {cs : Nat → Nat} {sv : Nat → Nat → Nat} {mk : Nat} {sp rs : Nat → Int} {bg dp : Nat} (y : Int32) (hb : inR y (nI nY) = false) : mX l y_CY_reserve (w_CY_reserve :: gt) { frames := 7, cells := 1, slots := 6, locals := 120 } V (wC V ad r1 r2 r3 nY ix bu np st sr sx tk rn sh sn yw nw yo ce wo po ne cs sv mk sp rs bg dp) [.ref (ad 0), .int y] nIAE := by
  refine gMetX (V := V) (As := [.ref (ad 0), .int y]) (cc := c_CY_reserve) (maxL := 2) (ret := (some .long)) (by decide) rfl (Nat.le_of_ble_eq_true rfl) (fun a U h => ⟨h.1, h.2.2.1⟩) ?_
  intro p e s m below meth c E hadm hne hlk hv
  have hO := gO_r (locs1 := []) (ws := wC V ad r1 r2 r3 nY ix bu np st sr sx tk rn sh sn yw nw yo ce wo po ne cs sv mk sp rs bg dp) hv.2.1
  refine g_aload_n E d_CY_reserve_0 rfl 0 rfl ?_
  refine gf_CY_21 E hO 0 rfl rfl d_CY_reserve_1 ?_
  refine g_iload_n E d_CY_reserve_4 rfl 1 rfl ?_
  refine gpVi (As := [.int y]) (rest := []) E hO 1 rfl rfl (C_Ye_has l y) (cs_CY_47 E rfl rfl ⟨Nat.le_of_ble_eq_true rfl, Nat.le_of_ble_eq_true rfl⟩) rfl rfl (Nat.le_of_ble_eq_true rfl) ⟨Nat.zero_le _, Nat.zero_le _⟩ d_CY_reserve_5 ?_
  refine g_topi (show bI _ = nI 0 from by rw [hb]; rfl) ?_
  exact gx_S E hne hlk (X_CY_refuseUnless l hf (V := V) (w := wC V ad r1 r2 r3 nY ix bu np st sr sx tk rn sh sn yw nw yo ce wo po ne cs sv mk sp rs bg dp)) cX.blind (cs_CY_55 E rfl rfl ⟨Nat.le_of_ble_eq_true rfl, Nat.le_of_ble_eq_true rfl⟩) (As := [.int (nI 0)]) (rest := []) rfl rfl (Nat.le_of_ble_eq_true rfl) d_CY_reserve_8 ⟨Nat.le_of_ble_eq_true rfl, Nat.le_of_ble_eq_true rfl⟩ (fun U hU hWU => ⟨rfl, by rw [hU]; exact hv.2.1, gK.warm hWU hv.2.2.1, XK.move hWU (fun _ _ => by rw [hU]) hv.2.2.2⟩)

set_option maxHeartbeats 4000000 in
set_option maxRecDepth 100000 in
theorem X_CY_payment (l : Launch) (hf : l.flags = flags0) {V : gV} {ad r1 r2 r3 : Nat → Nat} {nY : Nat} {ix bu : Nat → Nat} {np : Nat} {st sr : Nat → Nat} {sx tk : Nat → Nat → Nat} {rn sh sn : Nat → Nat} {yw nw : Nat} {yo ce wo : Nat → Nat} {po ne : Nat → Option Nat} {cs : Nat → Nat} {sv : Nat → Nat → Nat} {mk : Nat} {sp rs : Nat → Int} {bg dp : Nat} (x y z : Int32) (hb : isL x y z = false) : mX l y_CY_payment (w_CY_payment :: gt) { frames := 7, cells := 1, slots := 6, locals := 120 } V (wC V ad r1 r2 r3 nY ix bu np st sr sx tk rn sh sn yw nw yo ce wo po ne cs sv mk sp rs bg dp) [.ref (ad 0), .int x, .int y, .int z] nIAE := by
  refine gMetX (V := V) (As := [.ref (ad 0), .int x, .int y, .int z]) (cc := c_CY_payment) (maxL := 4) (ret := (some .int)) (by decide) rfl (Nat.le_of_ble_eq_true rfl) (fun a U h => ⟨h.1, h.2.2.1⟩) ?_
  intro p e s m below meth c E hadm hne hlk hv
  have hO := gO_r (locs1 := []) (ws := wC V ad r1 r2 r3 nY ix bu np st sr sx tk rn sh sn yw nw yo ce wo po ne cs sv mk sp rs bg dp) hv.2.1
  refine g_iload_n E d_CY_payment_0 rfl 1 rfl ?_
  refine g_iload_n E d_CY_payment_1 rfl 2 rfl ?_
  refine g_iload_n E d_CY_payment_2 rfl 3 rfl ?_
  refine gpSi (As := [.int x, .int y, .int z]) (rest := []) E hO (C_Lo_isOne l x y z) (cs_CY_171 E rfl rfl ⟨Nat.le_of_ble_eq_true rfl, Nat.le_of_ble_eq_true rfl⟩) rfl rfl (Nat.le_of_ble_eq_true rfl) ⟨Nat.zero_le _, Nat.zero_le _⟩ d_CY_payment_3 ?_
  refine g_topi (show bI _ = nI 0 from by rw [hb]; rfl) ?_
  exact gx_S E hne hlk (X_CY_refuseUnless l hf (V := V) (w := wC V ad r1 r2 r3 nY ix bu np st sr sx tk rn sh sn yw nw yo ce wo po ne cs sv mk sp rs bg dp)) cX.blind (cs_CY_55 E rfl rfl ⟨Nat.le_of_ble_eq_true rfl, Nat.le_of_ble_eq_true rfl⟩) (As := [.int (nI 0)]) (rest := []) rfl rfl (Nat.le_of_ble_eq_true rfl) d_CY_payment_6 ⟨Nat.le_of_ble_eq_true rfl, Nat.le_of_ble_eq_true rfl⟩ (fun U hU hWU => ⟨rfl, by rw [hU]; exact hv.2.1, gK.warm hWU hv.2.2.1, XK.move hWU (fun _ _ => by rw [hU]) hv.2.2.2⟩)

set_option maxHeartbeats 4000000 in
set_option maxRecDepth 100000 in
theorem X_CY_rest (l : Launch) (hf : l.flags = flags0) {V : gV} {ad r1 r2 r3 : Nat → Nat} {nY : Nat} {ix bu : Nat → Nat} {np : Nat} {st sr : Nat → Nat} {sx tk : Nat → Nat → Nat} {rn sh sn : Nat → Nat} {yw nw : Nat} {yo ce wo : Nat → Nat} {po ne : Nat → Option Nat} {cs : Nat → Nat} {sv : Nat → Nat → Nat} {mk : Nat} {sp rs : Nat → Int} {bg dp : Nat} (x y z t : Int32) (hb : (isL x y z && inB t (nI 0) z) = false) : mX l y_CY_rest (w_CY_rest :: gt) { frames := 7, cells := 1, slots := 6, locals := 120 } V (wC V ad r1 r2 r3 nY ix bu np st sr sx tk rn sh sn yw nw yo ce wo po ne cs sv mk sp rs bg dp) [.ref (ad 0), .int x, .int y, .int z, .int t] nIAE := by
  refine gMetX (V := V) (As := [.ref (ad 0), .int x, .int y, .int z, .int t]) (cc := c_CY_rest) (maxL := 5) (ret := (some .int)) (by decide) rfl (Nat.le_of_ble_eq_true rfl) (fun a U h => ⟨h.1, h.2.2.1⟩) ?_
  intro p e s m below meth c E hadm hne hlk hv
  have hO := gO_r (locs1 := []) (ws := wC V ad r1 r2 r3 nY ix bu np st sr sx tk rn sh sn yw nw yo ce wo po ne cs sv mk sp rs bg dp) hv.2.1
  refine g_iload_n E d_CY_rest_0 rfl 1 rfl ?_
  refine g_iload_n E d_CY_rest_1 rfl 2 rfl ?_
  refine g_iload_n E d_CY_rest_2 rfl 3 rfl ?_
  refine gpSi (As := [.int x, .int y, .int z]) (rest := []) E hO (C_Lo_isOne l x y z) (cs_CY_171 E rfl rfl ⟨Nat.le_of_ble_eq_true rfl, Nat.le_of_ble_eq_true rfl⟩) rfl rfl (Nat.le_of_ble_eq_true rfl) ⟨Nat.zero_le _, Nat.zero_le _⟩ d_CY_rest_3 ?_
  refine g_bif_eq E 23 d_CY_rest_6 (by decide) (fun h1 => ?_) (fun h1 => ?_)
  · refine g_iconst (v := nI 0) E d_CY_rest_23 (by decide) ?_
    exact gx_S E hne hlk (X_CY_refuseUnless l hf (V := V) (w := wC V ad r1 r2 r3 nY ix bu np st sr sx tk rn sh sn yw nw yo ce wo po ne cs sv mk sp rs bg dp)) cX.blind (cs_CY_55 E rfl rfl ⟨Nat.le_of_ble_eq_true rfl, Nat.le_of_ble_eq_true rfl⟩) (As := [.int (nI 0)]) (rest := []) rfl rfl (Nat.le_of_ble_eq_true rfl) d_CY_rest_24 ⟨Nat.le_of_ble_eq_true rfl, Nat.le_of_ble_eq_true rfl⟩ (fun U hU hWU => ⟨rfl, by rw [hU]; exact hv.2.1, gK.warm hWU hv.2.2.1, XK.move hWU (fun _ _ => by rw [hU]) hv.2.2.2⟩)
  · refine g_iload E d_CY_rest_9 4 rfl ?_
    refine g_iconst (v := nI 0) E d_CY_rest_11 (by decide) ?_
    refine g_iload_n E d_CY_rest_12 rfl 3 rfl ?_
    refine gpSi (As := [.int t, .int (nI 0), .int z]) (rest := []) E hO (C_CY_isWithin l t (nI 0) z) (cs_CY_51 E rfl rfl ⟨Nat.le_of_ble_eq_true rfl, Nat.le_of_ble_eq_true rfl⟩) rfl rfl (Nat.le_of_ble_eq_true rfl) ⟨Nat.zero_le _, Nat.zero_le _⟩ d_CY_rest_13 ?_
    refine g_bif_eq E 23 d_CY_rest_16 (by decide) (fun h2 => ?_) (fun h2 => ?_)
    · refine g_iconst (v := nI 0) E d_CY_rest_23 (by decide) ?_
      exact gx_S E hne hlk (X_CY_refuseUnless l hf (V := V) (w := wC V ad r1 r2 r3 nY ix bu np st sr sx tk rn sh sn yw nw yo ce wo po ne cs sv mk sp rs bg dp)) cX.blind (cs_CY_55 E rfl rfl ⟨Nat.le_of_ble_eq_true rfl, Nat.le_of_ble_eq_true rfl⟩) (As := [.int (nI 0)]) (rest := []) rfl rfl (Nat.le_of_ble_eq_true rfl) d_CY_rest_24 ⟨Nat.le_of_ble_eq_true rfl, Nat.le_of_ble_eq_true rfl⟩ (fun U hU hWU => ⟨rfl, by rw [hU]; exact hv.2.1, gK.warm hWU hv.2.2.1, XK.move hWU (fun _ _ => by rw [hU]) hv.2.2.2⟩)
    · refine g_iconst (v := nI 1) E d_CY_rest_19 (by decide) ?_
      refine g_goto E 24 d_CY_rest_20 (by decide) ?_
      exact absurd hb (by first | (simp [h1, h2]; done) | simp_all)
