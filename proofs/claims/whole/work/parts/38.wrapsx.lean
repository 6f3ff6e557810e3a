set_option maxHeartbeats 4000000 in
set_option maxRecDepth 100000 in
theorem B_CY_index (l : Launch) (hf : l.flags = flags0) {V : gV} {oa : Nat} {ad r1 r2 r3 : Nat → Nat} {ou : Int64} {nY : Nat} {ix bu : Nat → Nat} {np : Nat} {st sr : Nat → Nat} {sx tk : Nat → Nat → Nat} {rn sh sn : Nat → Nat} {yw nw : Nat} {yo ce wo : Nat → Nat} {po ne : Nat → Option Nat} {cs : Nat → Nat} {sv : Nat → Nat → Nat} {mk : Nat} {sp rs : Nat → Int} {bg dp : Nat} (x v : Int32) (hb : (inR x (nI nY) && inB v (nI 500) (nI 2000)) = false) : mB l y_La_index (w_La_index :: gt) { frames := 8, cells := 1, slots := 6, locals := 160 } V (wW V oa ad r1 r2 r3 ou nY ix bu np st sr sx tk rn sh sn yw nw yo ce wo po ne cs sv mk sp rs bg dp) [.ref (ad 0), .int x, .int v, .ref oa] (nI 1) := by
  intro sz
  refine gMetW (V := V) (As := [.ref (ad 0), .int x, .int v, .ref oa]) (cc := c_La_index) (maxL := 5) (ret := (some .int)) (hh := [(0, 10, 13, 13)]) (by decide) rfl (Nat.le_of_ble_eq_true rfl) (fun a U h => ⟨h.1, h.2.2.2.1⟩) ?_
  intro p e s m below meth c E htab hr_ hlk_ hv_
  have hPc : va_P V.1 clz (wC V ad r1 r2 r3 nY ix bu np st sr sx tk rn sh sn yw nw yo ce wo po ne cs sv mk sp rs bg dp) s.heap := (fP (pre := [(oa, aX V ou)]) hv_.2.2.1).1
  refine g_aload_n E d_La_index_0 rfl 3 rfl ?_
  refine g_iconst (v := nI 0) E d_La_index_1 (by decide) ?_
  refine g_aload_n E d_La_index_2 rfl 0 rfl ?_
  refine g_iload_n E d_La_index_3 rfl 1 rfl ?_
  refine g_iload_n E d_La_index_4 rfl 2 rfl ?_
  refine g_catch1 E (x1 := ⟨0, 10, 13, 13⟩) htab (by decide) (by decide) kt_La_13 (X_CY_index l hf x v hb) (cs_La_7 E rfl rfl ⟨Nat.le_of_ble_eq_true rfl, Nat.le_of_ble_eq_true rfl⟩) (As := [.int x, .int v]) (rest := [.int (nI 0), .ref oa]) rfl rfl (Nat.le_of_ble_eq_true rfl) d_La_index_5 ⟨Nat.le_of_ble_eq_true rfl, Nat.le_of_ble_eq_true rfl⟩ ⟨cX.blind, va_recv E.2.2.2.2.2.1 hPc (ci := 0) rfl (q0 := 0) rfl, fun U hU hWU => ⟨rfl, by rw [hU]; exact hPc, gK.warm hWU hv_.2.2.2.1, XK.move hWU (fun _ _ => by rw [hU]) hv_.2.2.2.2.2.1⟩⟩ (fun xa => ?_)
  refine g_astore (lv' := [(4, .ref xa), (0, .ref (ad 0)), (1, .int x), (2, .int v), (3, .ref oa)]) E d_La_index_13 (by decide) rfl ?_
  refine g_iconst (v := nI 1) E d_La_index_15 (by decide) ?_
  exact g_iret E hr_ hlk_ d_La_index_16 (gq_n hv_.2.1 hv_.2.2.1 hv_.2.2.2.2.1)

set_option maxHeartbeats 4000000 in
set_option maxRecDepth 100000 in
theorem B_CY_budget (l : Launch) (hf : l.flags = flags0) {V : gV} {oa : Nat} {ad r1 r2 r3 : Nat → Nat} {ou : Int64} {nY : Nat} {ix bu : Nat → Nat} {np : Nat} {st sr : Nat → Nat} {sx tk : Nat → Nat → Nat} {rn sh sn : Nat → Nat} {yw nw : Nat} {yo ce wo : Nat → Nat} {po ne : Nat → Option Nat} {cs : Nat → Nat} {sv : Nat → Nat → Nat} {mk : Nat} {sp rs : Nat → Int} {bg dp : Nat} (x v : Int32) (hb : (inR x (nI nY) && inB v (nI 0) (nI 1000000000)) = false) : mB l y_La_budget (w_La_budget :: gt) { frames := 8, cells := 1, slots := 6, locals := 160 } V (wW V oa ad r1 r2 r3 ou nY ix bu np st sr sx tk rn sh sn yw nw yo ce wo po ne cs sv mk sp rs bg dp) [.ref (ad 0), .int x, .int v, .ref oa] (nI 1) := by
  intro sz
  refine gMetW (V := V) (As := [.ref (ad 0), .int x, .int v, .ref oa]) (cc := c_La_budget) (maxL := 5) (ret := (some .int)) (hh := [(0, 10, 13, 13)]) (by decide) rfl (Nat.le_of_ble_eq_true rfl) (fun a U h => ⟨h.1, h.2.2.2.1⟩) ?_
  intro p e s m below meth c E htab hr_ hlk_ hv_
  have hPc : va_P V.1 clz (wC V ad r1 r2 r3 nY ix bu np st sr sx tk rn sh sn yw nw yo ce wo po ne cs sv mk sp rs bg dp) s.heap := (fP (pre := [(oa, aX V ou)]) hv_.2.2.1).1
  refine g_aload_n E d_La_budget_0 rfl 3 rfl ?_
  refine g_iconst (v := nI 0) E d_La_budget_1 (by decide) ?_
  refine g_aload_n E d_La_budget_2 rfl 0 rfl ?_
  refine g_iload_n E d_La_budget_3 rfl 1 rfl ?_
  refine g_iload_n E d_La_budget_4 rfl 2 rfl ?_
  refine g_catch1 E (x1 := ⟨0, 10, 13, 13⟩) htab (by decide) (by decide) kt_La_13 (X_CY_budget l hf x v hb) (cs_La_15 E rfl rfl ⟨Nat.le_of_ble_eq_true rfl, Nat.le_of_ble_eq_true rfl⟩) (As := [.int x, .int v]) (rest := [.int (nI 0), .ref oa]) rfl rfl (Nat.le_of_ble_eq_true rfl) d_La_budget_5 ⟨Nat.le_of_ble_eq_true rfl, Nat.le_of_ble_eq_true rfl⟩ ⟨cX.blind, va_recv E.2.2.2.2.2.1 hPc (ci := 0) rfl (q0 := 0) rfl, fun U hU hWU => ⟨rfl, by rw [hU]; exact hPc, gK.warm hWU hv_.2.2.2.1, XK.move hWU (fun _ _ => by rw [hU]) hv_.2.2.2.2.2.1⟩⟩ (fun xa => ?_)
  refine g_astore (lv' := [(4, .ref xa), (0, .ref (ad 0)), (1, .int x), (2, .int v), (3, .ref oa)]) E d_La_budget_13 (by decide) rfl ?_
  refine g_iconst (v := nI 1) E d_La_budget_15 (by decide) ?_
  exact g_iret E hr_ hlk_ d_La_budget_16 (gq_n hv_.2.1 hv_.2.2.1 hv_.2.2.2.2.1)

set_option maxHeartbeats 4000000 in
set_option maxRecDepth 100000 in
theorem B_CY_part_1 (l : Launch) (hf : l.flags = flags0) {V : gV} {oa : Nat} {ad r1 r2 r3 : Nat → Nat} {ou : Int64} {nY : Nat} {ix bu : Nat → Nat} {np : Nat} {st sr : Nat → Nat} {sx tk : Nat → Nat → Nat} {rn sh sn : Nat → Nat} {yw nw : Nat} {yo ce wo : Nat → Nat} {po ne : Nat → Option Nat} {cs : Nat → Nat} {sv : Nat → Nat → Nat} {mk : Nat} {sp rs : Nat → Int} {bg dp : Nat} (k r : Int32) (hb : inB k (nI 2) (nI 4) = false) : mB l y_La_part (w_La_part :: gt) { frames := 8, cells := 1, slots := 6, locals := 160 } V (wW V oa ad r1 r2 r3 ou nY ix bu np st sr sx tk rn sh sn yw nw yo ce wo po ne cs sv mk sp rs bg dp) [.ref (ad 0), .int k, .int r, .ref oa] (nI 1) := by
  intro sz
  refine gMetW (V := V) (As := [.ref (ad 0), .int k, .int r, .ref oa]) (cc := c_La_part) (maxL := 5) (ret := (some .int)) (hh := [(0, 10, 13, 13), (0, 10, 17, 21)]) (by decide) rfl (Nat.le_of_ble_eq_true rfl) (fun a U h => ⟨h.1, h.2.2.2.1⟩) ?_
  intro p e s m below meth c E htab hr_ hlk_ hv_
  have hPc : va_P V.1 clz (wC V ad r1 r2 r3 nY ix bu np st sr sx tk rn sh sn yw nw yo ce wo po ne cs sv mk sp rs bg dp) s.heap := (fP (pre := [(oa, aX V ou)]) hv_.2.2.1).1
  refine g_aload_n E d_La_part_0 rfl 3 rfl ?_
  refine g_iconst (v := nI 0) E d_La_part_1 (by decide) ?_
  refine g_aload_n E d_La_part_2 rfl 0 rfl ?_
  refine g_iload_n E d_La_part_3 rfl 1 rfl ?_
  refine g_iload_n E d_La_part_4 rfl 2 rfl ?_
  refine g_catch1 E (x1 := ⟨0, 10, 13, 13⟩) htab (by decide) (by decide) kt_La_13 (X_CY_part_1 l hf k r hb) (cs_La_18 E rfl rfl ⟨Nat.le_of_ble_eq_true rfl, Nat.le_of_ble_eq_true rfl⟩) (As := [.int k, .int r]) (rest := [.int (nI 0), .ref oa]) rfl rfl (Nat.le_of_ble_eq_true rfl) d_La_part_5 ⟨Nat.le_of_ble_eq_true rfl, Nat.le_of_ble_eq_true rfl⟩ ⟨cX.blind, va_recv E.2.2.2.2.2.1 hPc (ci := 0) rfl (q0 := 0) rfl, fun U hU hWU => ⟨rfl, by rw [hU]; exact hPc, gK.warm hWU hv_.2.2.2.1, XK.move hWU (fun _ _ => by rw [hU]) hv_.2.2.2.2.2.1⟩⟩ (fun xa => ?_)
  refine g_astore (lv' := [(4, .ref xa), (0, .ref (ad 0)), (1, .int k), (2, .int r), (3, .ref oa)]) E d_La_part_13 (by decide) rfl ?_
  refine g_iconst (v := nI 1) E d_La_part_15 (by decide) ?_
  exact g_iret E hr_ hlk_ d_La_part_16 (gq_n hv_.2.1 hv_.2.2.1 hv_.2.2.2.2.1)

set_option maxHeartbeats 4000000 in
set_option maxRecDepth 100000 in
theorem B_CY_part_2 (l : Launch) (hf : l.flags = flags0) {V : gV} {oa : Nat} {ad r1 r2 r3 : Nat → Nat} {ou : Int64} {nY : Nat} {ix bu : Nat → Nat} {np : Nat} {st sr : Nat → Nat} {sx tk : Nat → Nat → Nat} {rn sh sn : Nat → Nat} {yw nw : Nat} {yo ce wo : Nat → Nat} {po ne : Nat → Option Nat} {cs : Nat → Nat} {sv : Nat → Nat → Nat} {mk : Nat} {sp rs : Nat → Int} {bg dp : Nat} (k : Nat) (r : Int32) (h1 : 2 ≤ k) (h2 : k ≤ 4) (hb : inB r (nI 0) (nI (k - 1)) = false) : mB l y_La_part (w_La_part :: gt) { frames := 8, cells := 1, slots := 6, locals := 160 } V (wW V oa ad r1 r2 r3 ou nY ix bu np st sr sx tk rn sh sn yw nw yo ce wo po ne cs sv mk sp rs bg dp) [.ref (ad 0), .int (nI k), .int r, .ref oa] (nI 1) := by
  intro sz
  refine gMetW (V := V) (As := [.ref (ad 0), .int (nI k), .int r, .ref oa]) (cc := c_La_part) (maxL := 5) (ret := (some .int)) (hh := [(0, 10, 13, 13), (0, 10, 17, 21)]) (by decide) rfl (Nat.le_of_ble_eq_true rfl) (fun a U h => ⟨h.1, h.2.2.2.1⟩) ?_
  intro p e s m below meth c E htab hr_ hlk_ hv_
  have hPc : va_P V.1 clz (wC V ad r1 r2 r3 nY ix bu np st sr sx tk rn sh sn yw nw yo ce wo po ne cs sv mk sp rs bg dp) s.heap := (fP (pre := [(oa, aX V ou)]) hv_.2.2.1).1
  refine g_aload_n E d_La_part_0 rfl 3 rfl ?_
  refine g_iconst (v := nI 0) E d_La_part_1 (by decide) ?_
  refine g_aload_n E d_La_part_2 rfl 0 rfl ?_
  refine g_iload_n E d_La_part_3 rfl 1 rfl ?_
  refine g_iload_n E d_La_part_4 rfl 2 rfl ?_
  refine g_catch1 E (x1 := ⟨0, 10, 13, 13⟩) htab (by decide) (by decide) kt_La_13 (X_CY_part_2 l hf k r h1 h2 hb) (cs_La_18 E rfl rfl ⟨Nat.le_of_ble_eq_true rfl, Nat.le_of_ble_eq_true rfl⟩) (As := [.int (nI k), .int r]) (rest := [.int (nI 0), .ref oa]) rfl rfl (Nat.le_of_ble_eq_true rfl) d_La_part_5 ⟨Nat.le_of_ble_eq_true rfl, Nat.le_of_ble_eq_true rfl⟩ ⟨cX.blind, va_recv E.2.2.2.2.2.1 hPc (ci := 0) rfl (q0 := 0) rfl, fun U hU hWU => ⟨rfl, by rw [hU]; exact hPc, gK.warm hWU hv_.2.2.2.1, XK.move hWU (fun _ _ => by rw [hU]) hv_.2.2.2.2.2.1⟩⟩ (fun xa => ?_)
  refine g_astore (lv' := [(4, .ref xa), (0, .ref (ad 0)), (1, .int (nI k)), (2, .int r), (3, .ref oa)]) E d_La_part_13 (by decide) rfl ?_
  refine g_iconst (v := nI 1) E d_La_part_15 (by decide) ?_
  exact g_iret E hr_ hlk_ d_La_part_16 (gq_n hv_.2.1 hv_.2.2.1 hv_.2.2.2.2.1)

set_option maxHeartbeats 4000000 in
set_option maxRecDepth 100000 in
theorem B_CY_part_3 (l : Launch) (hf : l.flags = flags0) {V : gV} {oa : Nat} {ad r1 r2 r3 : Nat → Nat} {ou : Int64} {nY : Nat} {ix bu : Nat → Nat} {np : Nat} {st sr : Nat → Nat} {sx tk : Nat → Nat → Nat} {rn sh sn : Nat → Nat} {yw nw : Nat} {yo ce wo : Nat → Nat} {po ne : Nat → Option Nat} {cs : Nat → Nat} {sv : Nat → Nat → Nat} {mk : Nat} {sp rs : Nat → Int} {bg dp : Nat} (k r : Nat) (h1 : 2 ≤ k) (h2 : k ≤ 4) (h3 : r < k) (hnp : np = 12) : mB l y_La_part (w_La_part :: gt) { frames := 8, cells := 1, slots := 6, locals := 160 } V (wW V oa ad r1 r2 r3 ou nY ix bu np st sr sx tk rn sh sn yw nw yo ce wo po ne cs sv mk sp rs bg dp) [.ref (ad 0), .int (nI k), .int (nI r), .ref oa] (nI 2) := by
  intro sz
  refine gMetW (V := V) (As := [.ref (ad 0), .int (nI k), .int (nI r), .ref oa]) (cc := c_La_part) (maxL := 5) (ret := (some .int)) (hh := [(0, 10, 13, 13), (0, 10, 17, 21)]) (by decide) rfl (Nat.le_of_ble_eq_true rfl) (fun a U h => ⟨h.1, h.2.2.2.1⟩) ?_
  intro p e s m below meth c E htab hr_ hlk_ hv_
  have hPc : va_P V.1 clz (wC V ad r1 r2 r3 nY ix bu np st sr sx tk rn sh sn yw nw yo ce wo po ne cs sv mk sp rs bg dp) s.heap := (fP (pre := [(oa, aX V ou)]) hv_.2.2.1).1
  refine g_aload_n E d_La_part_0 rfl 3 rfl ?_
  refine g_iconst (v := nI 0) E d_La_part_1 (by decide) ?_
  refine g_aload_n E d_La_part_2 rfl 0 rfl ?_
  refine g_iload_n E d_La_part_3 rfl 1 rfl ?_
  refine g_iload_n E d_La_part_4 rfl 2 rfl ?_
  refine g_catch2 E (x0 := ⟨0, 10, 13, 13⟩) (x1 := ⟨0, 10, 17, 21⟩) htab (by decide) (by decide) (by decide) (by decide) kt_La_13 kt_La_21 hv_.2.2.2.2.2.2 (X_CY_part_3 l hf k r h1 h2 h3 hnp) (cs_La_18 E rfl rfl ⟨Nat.le_of_ble_eq_true rfl, Nat.le_of_ble_eq_true rfl⟩) (As := [.int (nI k), .int (nI r)]) (rest := [.int (nI 0), .ref oa]) rfl rfl (Nat.le_of_ble_eq_true rfl) d_La_part_5 ⟨Nat.le_of_ble_eq_true rfl, Nat.le_of_ble_eq_true rfl⟩ ⟨cX.blind, va_recv E.2.2.2.2.2.1 hPc (ci := 0) rfl (q0 := 0) rfl, fun U hU hWU => ⟨rfl, by rw [hU]; exact hPc, gK.warm hWU hv_.2.2.2.1, XK.move hWU (fun _ _ => by rw [hU]) hv_.2.2.2.2.2.1⟩⟩ (fun xa => ?_)
  refine g_astore (lv' := [(4, .ref xa), (0, .ref (ad 0)), (1, .int (nI k)), (2, .int (nI r)), (3, .ref oa)]) E d_La_part_17 (by decide) rfl ?_
  refine g_iconst (v := nI 2) E d_La_part_19 (by decide) ?_
  exact g_iret E hr_ hlk_ d_La_part_20 (gq_n hv_.2.1 hv_.2.2.1 hv_.2.2.2.2.1)

set_option maxHeartbeats 4000000 in
set_option maxRecDepth 100000 in
theorem B_CY_moves_1 (l : Launch) (hf : l.flags = flags0) {V : gV} {oa : Nat} {ad r1 r2 r3 : Nat → Nat} {ou : Int64} {nY : Nat} {ix bu : Nat → Nat} {np : Nat} {st sr : Nat → Nat} {sx tk : Nat → Nat → Nat} {rn sh sn : Nat → Nat} {yw nw : Nat} {yo ce wo : Nat → Nat} {po ne : Nat → Option Nat} {cs : Nat → Nat} {sv : Nat → Nat → Nat} {mk : Nat} {sp rs : Nat → Int} {bg dp : Nat} (x a b v : Int32) (hnp : np ≤ 12) (hb : (hasSt np st x a && hasSt np st x b && !decide (a = b)) = false) : mB l y_La_moves (w_La_moves :: gt) { frames := 8, cells := 1, slots := 6, locals := 160 } V (wW V oa ad r1 r2 r3 ou nY ix bu np st sr sx tk rn sh sn yw nw yo ce wo po ne cs sv mk sp rs bg dp) [.ref (ad 0), .int x, .int a, .int b, .int v, .ref oa] (nI 1) := by
  intro sz
  refine gMetW (V := V) (As := [.ref (ad 0), .int x, .int a, .int b, .int v, .ref oa]) (cc := c_La_moves) (maxL := 7) (ret := (some .int)) (hh := [(0, 14, 17, 13)]) (by decide) rfl (Nat.le_of_ble_eq_true rfl) (fun a U h => ⟨h.1, h.2.2.2.1⟩) ?_
  intro p e s m below meth c E htab hr_ hlk_ hv_
  have hPc : va_P V.1 clz (wC V ad r1 r2 r3 nY ix bu np st sr sx tk rn sh sn yw nw yo ce wo po ne cs sv mk sp rs bg dp) s.heap := (fP (pre := [(oa, aX V ou)]) hv_.2.2.1).1
  refine g_aload E d_La_moves_0 5 rfl ?_
  refine g_iconst (v := nI 0) E d_La_moves_2 (by decide) ?_
  refine g_aload_n E d_La_moves_3 rfl 0 rfl ?_
  refine g_iload_n E d_La_moves_4 rfl 1 rfl ?_
  refine g_iload_n E d_La_moves_5 rfl 2 rfl ?_
  refine g_iload_n E d_La_moves_6 rfl 3 rfl ?_
  refine g_iload E d_La_moves_7 4 rfl ?_
  refine g_catch1 E (x1 := ⟨0, 14, 17, 13⟩) htab (by decide) (by decide) kt_La_13 (X_CY_moves_1 l hf x a b v hnp hb) (cs_La_23 E rfl rfl ⟨Nat.le_of_ble_eq_true rfl, Nat.le_of_ble_eq_true rfl⟩) (As := [.int x, .int a, .int b, .int v]) (rest := [.int (nI 0), .ref oa]) rfl rfl (Nat.le_of_ble_eq_true rfl) d_La_moves_9 ⟨Nat.le_of_ble_eq_true rfl, Nat.le_of_ble_eq_true rfl⟩ ⟨cX.blind, va_recv E.2.2.2.2.2.1 hPc (ci := 0) rfl (q0 := 0) rfl, fun U hU hWU => ⟨rfl, by rw [hU]; exact hPc, gK.warm hWU hv_.2.2.2.1, XK.move hWU (fun _ _ => by rw [hU]) hv_.2.2.2.2.2.1⟩⟩ (fun xa => ?_)
  refine g_astore (lv' := [(6, .ref xa), (0, .ref (ad 0)), (1, .int x), (2, .int a), (3, .int b), (4, .int v), (5, .ref oa)]) E d_La_moves_17 (by decide) rfl ?_
  refine g_iconst (v := nI 1) E d_La_moves_19 (by decide) ?_
  exact g_iret E hr_ hlk_ d_La_moves_20 (gq_n hv_.2.1 hv_.2.2.1 hv_.2.2.2.2.1)

set_option maxHeartbeats 4000000 in
set_option maxRecDepth 100000 in
theorem B_CY_moves_2 (l : Launch) (hf : l.flags = flags0) {V : gV} {oa : Nat} {ad r1 r2 r3 : Nat → Nat} {ou : Int64} {nY : Nat} {ix bu : Nat → Nat} {np : Nat} {st sr : Nat → Nat} {sx tk : Nat → Nat → Nat} {rn sh sn : Nat → Nat} {yw nw : Nat} {yo ce wo : Nat → Nat} {po ne : Nat → Option Nat} {cs : Nat → Nat} {sv : Nat → Nat → Nat} {mk : Nat} {sp rs : Nat → Int} {bg dp : Nat} (i a b : Nat) (v : Int32) (hi : i < np) (hnp : np ≤ 12) (hs : st i ≤ 4) (ha : a < st i) (hbs : b < st i) (hab : a ≠ b) (hb : inB v (nI 0) (nI 16) = false) : mB l y_La_moves (w_La_moves :: gt) { frames := 8, cells := 1, slots := 6, locals := 160 } V (wW V oa ad r1 r2 r3 ou nY ix bu np st sr sx tk rn sh sn yw nw yo ce wo po ne cs sv mk sp rs bg dp) [.ref (ad 0), .int (nI i), .int (nI a), .int (nI b), .int v, .ref oa] (nI 1) := by
  intro sz
  refine gMetW (V := V) (As := [.ref (ad 0), .int (nI i), .int (nI a), .int (nI b), .int v, .ref oa]) (cc := c_La_moves) (maxL := 7) (ret := (some .int)) (hh := [(0, 14, 17, 13)]) (by decide) rfl (Nat.le_of_ble_eq_true rfl) (fun a U h => ⟨h.1, h.2.2.2.1⟩) ?_
  intro p e s m below meth c E htab hr_ hlk_ hv_
  have hPc : va_P V.1 clz (wC V ad r1 r2 r3 nY ix bu np st sr sx tk rn sh sn yw nw yo ce wo po ne cs sv mk sp rs bg dp) s.heap := (fP (pre := [(oa, aX V ou)]) hv_.2.2.1).1
  refine g_aload E d_La_moves_0 5 rfl ?_
  refine g_iconst (v := nI 0) E d_La_moves_2 (by decide) ?_
  refine g_aload_n E d_La_moves_3 rfl 0 rfl ?_
  refine g_iload_n E d_La_moves_4 rfl 1 rfl ?_
  refine g_iload_n E d_La_moves_5 rfl 2 rfl ?_
  refine g_iload_n E d_La_moves_6 rfl 3 rfl ?_
  refine g_iload E d_La_moves_7 4 rfl ?_
  refine g_catch1 E (x1 := ⟨0, 14, 17, 13⟩) htab (by decide) (by decide) kt_La_13 (X_CY_moves_2 l hf i a b v hi hnp hs ha hbs hab hb) (cs_La_23 E rfl rfl ⟨Nat.le_of_ble_eq_true rfl, Nat.le_of_ble_eq_true rfl⟩) (As := [.int (nI i), .int (nI a), .int (nI b), .int v]) (rest := [.int (nI 0), .ref oa]) rfl rfl (Nat.le_of_ble_eq_true rfl) d_La_moves_9 ⟨Nat.le_of_ble_eq_true rfl, Nat.le_of_ble_eq_true rfl⟩ ⟨cX.blind, va_recv E.2.2.2.2.2.1 hPc (ci := 0) rfl (q0 := 0) rfl, fun U hU hWU => ⟨rfl, by rw [hU]; exact hPc, gK.warm hWU hv_.2.2.2.1, XK.move hWU (fun _ _ => by rw [hU]) hv_.2.2.2.2.2.1⟩⟩ (fun xa => ?_)
  refine g_astore (lv' := [(6, .ref xa), (0, .ref (ad 0)), (1, .int (nI i)), (2, .int (nI a)), (3, .int (nI b)), (4, .int v), (5, .ref oa)]) E d_La_moves_17 (by decide) rfl ?_
  refine g_iconst (v := nI 1) E d_La_moves_19 (by decide) ?_
  exact g_iret E hr_ hlk_ d_La_moves_20 (gq_n hv_.2.1 hv_.2.2.1 hv_.2.2.2.2.1)

set_option maxHeartbeats 4000000 in
set_option maxRecDepth 100000 in
theorem B_CY_moves_3 (l : Launch) (hf : l.flags = flags0) {V : gV} {oa : Nat} {ad r1 r2 r3 : Nat → Nat} {ou : Int64} {nY : Nat} {ix bu : Nat → Nat} {np : Nat} {st sr : Nat → Nat} {sx tk : Nat → Nat → Nat} {rn sh sn : Nat → Nat} {yw nw : Nat} {yo ce wo : Nat → Nat} {po ne : Nat → Option Nat} {cs : Nat → Nat} {sv : Nat → Nat → Nat} {mk : Nat} {sp rs : Nat → Int} {bg dp : Nat} (i a b v : Nat) (hi : i < np) (hnp : np ≤ 12) (hs : st i ≤ 4) (ha : a < st i) (hbs : b < st i) (hab : a ≠ b) (hv16 : v ≤ 16) (hsx : sx i (a * 4 + a) + sx i (a * 4 + b) < v) : mB l y_La_moves (w_La_moves :: gt) { frames := 8, cells := 1, slots := 6, locals := 160 } V (wW V oa ad r1 r2 r3 ou nY ix bu np st sr sx tk rn sh sn yw nw yo ce wo po ne cs sv mk sp rs bg dp) [.ref (ad 0), .int (nI i), .int (nI a), .int (nI b), .int (nI v), .ref oa] (nI 1) := by
  intro sz
  refine gMetW (V := V) (As := [.ref (ad 0), .int (nI i), .int (nI a), .int (nI b), .int (nI v), .ref oa]) (cc := c_La_moves) (maxL := 7) (ret := (some .int)) (hh := [(0, 14, 17, 13)]) (by decide) rfl (Nat.le_of_ble_eq_true rfl) (fun a U h => ⟨h.1, h.2.2.2.1⟩) ?_
  intro p e s m below meth c E htab hr_ hlk_ hv_
  have hPc : va_P V.1 clz (wC V ad r1 r2 r3 nY ix bu np st sr sx tk rn sh sn yw nw yo ce wo po ne cs sv mk sp rs bg dp) s.heap := (fP (pre := [(oa, aX V ou)]) hv_.2.2.1).1
  refine g_aload E d_La_moves_0 5 rfl ?_
  refine g_iconst (v := nI 0) E d_La_moves_2 (by decide) ?_
  refine g_aload_n E d_La_moves_3 rfl 0 rfl ?_
  refine g_iload_n E d_La_moves_4 rfl 1 rfl ?_
  refine g_iload_n E d_La_moves_5 rfl 2 rfl ?_
  refine g_iload_n E d_La_moves_6 rfl 3 rfl ?_
  refine g_iload E d_La_moves_7 4 rfl ?_
  refine g_catch1 E (x1 := ⟨0, 14, 17, 13⟩) htab (by decide) (by decide) kt_La_13 (X_CY_moves_3 l hf i a b v hi hnp hs ha hbs hab hv16 hsx) (cs_La_23 E rfl rfl ⟨Nat.le_of_ble_eq_true rfl, Nat.le_of_ble_eq_true rfl⟩) (As := [.int (nI i), .int (nI a), .int (nI b), .int (nI v)]) (rest := [.int (nI 0), .ref oa]) rfl rfl (Nat.le_of_ble_eq_true rfl) d_La_moves_9 ⟨Nat.le_of_ble_eq_true rfl, Nat.le_of_ble_eq_true rfl⟩ ⟨cX.blind, va_recv E.2.2.2.2.2.1 hPc (ci := 0) rfl (q0 := 0) rfl, fun U hU hWU => ⟨rfl, by rw [hU]; exact hPc, gK.warm hWU hv_.2.2.2.1, XK.move hWU (fun _ _ => by rw [hU]) hv_.2.2.2.2.2.1⟩⟩ (fun xa => ?_)
  refine g_astore (lv' := [(6, .ref xa), (0, .ref (ad 0)), (1, .int (nI i)), (2, .int (nI a)), (3, .int (nI b)), (4, .int (nI v)), (5, .ref oa)]) E d_La_moves_17 (by decide) rfl ?_
  refine g_iconst (v := nI 1) E d_La_moves_19 (by decide) ?_
  exact g_iret E hr_ hlk_ d_La_moves_20 (gq_n hv_.2.1 hv_.2.2.1 hv_.2.2.2.2.1)

set_option maxHeartbeats 4000000 in
set_option maxRecDepth 100000 in
theorem B_CY_care (l : Launch) (hf : l.flags = flags0) {V : gV} {oa : Nat} {ad r1 r2 r3 : Nat → Nat} {ou : Int64} {nY : Nat} {ix bu : Nat → Nat} {np : Nat} {st sr : Nat → Nat} {sx tk : Nat → Nat → Nat} {rn sh sn : Nat → Nat} {yw nw : Nat} {yo ce wo : Nat → Nat} {po ne : Nat → Option Nat} {cs : Nat → Nat} {sv : Nat → Nat → Nat} {mk : Nat} {sp rs : Nat → Int} {bg dp : Nat} (x a v : Int32) (hnp : np ≤ 12) (hb : (hasSt np st x a && inB v (nI 0) (nI 1000)) = false) : mB l y_La_care (w_La_care :: gt) { frames := 8, cells := 1, slots := 6, locals := 160 } V (wW V oa ad r1 r2 r3 ou nY ix bu np st sr sx tk rn sh sn yw nw yo ce wo po ne cs sv mk sp rs bg dp) [.ref (ad 0), .int x, .int a, .int v, .ref oa] (nI 1) := by
  intro sz
  refine gMetW (V := V) (As := [.ref (ad 0), .int x, .int a, .int v, .ref oa]) (cc := c_La_care) (maxL := 6) (ret := (some .int)) (hh := [(0, 12, 15, 13)]) (by decide) rfl (Nat.le_of_ble_eq_true rfl) (fun a U h => ⟨h.1, h.2.2.2.1⟩) ?_
  intro p e s m below meth c E htab hr_ hlk_ hv_
  have hPc : va_P V.1 clz (wC V ad r1 r2 r3 nY ix bu np st sr sx tk rn sh sn yw nw yo ce wo po ne cs sv mk sp rs bg dp) s.heap := (fP (pre := [(oa, aX V ou)]) hv_.2.2.1).1
  refine g_aload E d_La_care_0 4 rfl ?_
  refine g_iconst (v := nI 0) E d_La_care_2 (by decide) ?_
  refine g_aload_n E d_La_care_3 rfl 0 rfl ?_
  refine g_iload_n E d_La_care_4 rfl 1 rfl ?_
  refine g_iload_n E d_La_care_5 rfl 2 rfl ?_
  refine g_iload_n E d_La_care_6 rfl 3 rfl ?_
  refine g_catch1 E (x1 := ⟨0, 12, 15, 13⟩) htab (by decide) (by decide) kt_La_13 (X_CY_care l hf x a v hnp hb) (cs_La_27 E rfl rfl ⟨Nat.le_of_ble_eq_true rfl, Nat.le_of_ble_eq_true rfl⟩) (As := [.int x, .int a, .int v]) (rest := [.int (nI 0), .ref oa]) rfl rfl (Nat.le_of_ble_eq_true rfl) d_La_care_7 ⟨Nat.le_of_ble_eq_true rfl, Nat.le_of_ble_eq_true rfl⟩ ⟨cX.blind, va_recv E.2.2.2.2.2.1 hPc (ci := 0) rfl (q0 := 0) rfl, fun U hU hWU => ⟨rfl, by rw [hU]; exact hPc, gK.warm hWU hv_.2.2.2.1, XK.move hWU (fun _ _ => by rw [hU]) hv_.2.2.2.2.2.1⟩⟩ (fun xa => ?_)
  refine g_astore (lv' := [(5, .ref xa), (0, .ref (ad 0)), (1, .int x), (2, .int a), (3, .int v), (4, .ref oa)]) E d_La_care_15 (by decide) rfl ?_
  refine g_iconst (v := nI 1) E d_La_care_17 (by decide) ?_
  exact g_iret E hr_ hlk_ d_La_care_18 (gq_n hv_.2.1 hv_.2.2.1 hv_.2.2.2.2.1)

set_option maxHeartbeats 4000000 in
set_option maxRecDepth 100000 in
theorem B_CY_share (l : Launch) (hf : l.flags = flags0) {V : gV} {oa : Nat} {ad r1 r2 r3 : Nat → Nat} {ou : Int64} {nY : Nat} {ix bu : Nat → Nat} {np : Nat} {st sr : Nat → Nat} {sx tk : Nat → Nat → Nat} {rn sh sn : Nat → Nat} {yw nw : Nat} {yo ce wo : Nat → Nat} {po ne : Nat → Option Nat} {cs : Nat → Nat} {sv : Nat → Nat → Nat} {mk : Nat} {sp rs : Nat → Int} {bg dp : Nat} (x a y : Int32) (hnp : np ≤ 12) (hb : (hasSt np st x a && inR y (nI nY)) = false) : mB l y_La_share (w_La_share :: gt) { frames := 8, cells := 1, slots := 6, locals := 160 } V (wW V oa ad r1 r2 r3 ou nY ix bu np st sr sx tk rn sh sn yw nw yo ce wo po ne cs sv mk sp rs bg dp) [.ref (ad 0), .int x, .int a, .int y, .ref oa] (nI 1) := by
  intro sz
  refine gMetW (V := V) (As := [.ref (ad 0), .int x, .int a, .int y, .ref oa]) (cc := c_La_share) (maxL := 6) (ret := (some .int)) (hh := [(0, 11, 14, 13)]) (by decide) rfl (Nat.le_of_ble_eq_true rfl) (fun a U h => ⟨h.1, h.2.2.2.1⟩) ?_
  intro p e s m below meth c E htab hr_ hlk_ hv_
  have hPc : va_P V.1 clz (wC V ad r1 r2 r3 nY ix bu np st sr sx tk rn sh sn yw nw yo ce wo po ne cs sv mk sp rs bg dp) s.heap := (fP (pre := [(oa, aX V ou)]) hv_.2.2.1).1
  refine g_aload E d_La_share_0 4 rfl ?_
  refine g_iconst (v := nI 0) E d_La_share_2 (by decide) ?_
  refine g_aload_n E d_La_share_3 rfl 0 rfl ?_
  refine g_iload_n E d_La_share_4 rfl 1 rfl ?_
  refine g_iload_n E d_La_share_5 rfl 2 rfl ?_
  refine g_iload_n E d_La_share_6 rfl 3 rfl ?_
  refine g_catch1 E (x1 := ⟨0, 11, 14, 13⟩) htab (by decide) (by decide) kt_La_13 (X_CY_share l hf x a y hnp hb) (cs_La_31 E rfl rfl ⟨Nat.le_of_ble_eq_true rfl, Nat.le_of_ble_eq_true rfl⟩) (As := [.int x, .int a, .int y]) (rest := [.int (nI 0), .ref oa]) rfl rfl (Nat.le_of_ble_eq_true rfl) d_La_share_7 ⟨Nat.le_of_ble_eq_true rfl, Nat.le_of_ble_eq_true rfl⟩ ⟨cX.blind, va_recv E.2.2.2.2.2.1 hPc (ci := 0) rfl (q0 := 0) rfl, fun U hU hWU => ⟨rfl, by rw [hU]; exact hPc, gK.warm hWU hv_.2.2.2.1, XK.move hWU (fun _ _ => by rw [hU]) hv_.2.2.2.2.2.1⟩⟩ (fun xa => ?_)
  refine g_astore (lv' := [(5, .ref xa), (0, .ref (ad 0)), (1, .int x), (2, .int a), (3, .int y), (4, .ref oa)]) E d_La_share_14 (by decide) rfl ?_
  refine g_iconst (v := nI 1) E d_La_share_16 (by decide) ?_
  exact g_iret E hr_ hlk_ d_La_share_17 (gq_n hv_.2.1 hv_.2.2.1 hv_.2.2.2.2.1)

set_option maxHeartbeats 4000000 in
set_option maxRecDepth 100000 in
theorem B_CY_cares (l : Launch) (hf : l.flags = flags0) {V : gV} {oa : Nat} {ad r1 r2 r3 : Nat → Nat} {ou : Int64} {nY : Nat} {ix bu : Nat → Nat} {np : Nat} {st sr : Nat → Nat} {sx tk : Nat → Nat → Nat} {rn sh sn : Nat → Nat} {yw nw : Nat} {yo ce wo : Nat → Nat} {po ne : Nat → Option Nat} {cs : Nat → Nat} {sv : Nat → Nat → Nat} {mk : Nat} {sp rs : Nat → Int} {bg dp : Nat} (x y : Int32) (hb : (inR x (nI np) && inR y (nI nY)) = false) : mB l y_La_cares (w_La_cares :: gt) { frames := 8, cells := 1, slots := 6, locals := 160 } V (wW V oa ad r1 r2 r3 ou nY ix bu np st sr sx tk rn sh sn yw nw yo ce wo po ne cs sv mk sp rs bg dp) [.ref (ad 0), .int x, .int y, .ref oa] (nI 1) := by
  intro sz
  refine gMetW (V := V) (As := [.ref (ad 0), .int x, .int y, .ref oa]) (cc := c_La_cares) (maxL := 5) (ret := (some .int)) (hh := [(0, 10, 13, 13)]) (by decide) rfl (Nat.le_of_ble_eq_true rfl) (fun a U h => ⟨h.1, h.2.2.2.1⟩) ?_
  intro p e s m below meth c E htab hr_ hlk_ hv_
  have hPc : va_P V.1 clz (wC V ad r1 r2 r3 nY ix bu np st sr sx tk rn sh sn yw nw yo ce wo po ne cs sv mk sp rs bg dp) s.heap := (fP (pre := [(oa, aX V ou)]) hv_.2.2.1).1
  refine g_aload_n E d_La_cares_0 rfl 3 rfl ?_
  refine g_iconst (v := nI 0) E d_La_cares_1 (by decide) ?_
  refine g_aload_n E d_La_cares_2 rfl 0 rfl ?_
  refine g_iload_n E d_La_cares_3 rfl 1 rfl ?_
  refine g_iload_n E d_La_cares_4 rfl 2 rfl ?_
  refine g_catch1 E (x1 := ⟨0, 10, 13, 13⟩) htab (by decide) (by decide) kt_La_13 (X_CY_cares l hf x y hb) (cs_La_35 E rfl rfl ⟨Nat.le_of_ble_eq_true rfl, Nat.le_of_ble_eq_true rfl⟩) (As := [.int x, .int y]) (rest := [.int (nI 0), .ref oa]) rfl rfl (Nat.le_of_ble_eq_true rfl) d_La_cares_5 ⟨Nat.le_of_ble_eq_true rfl, Nat.le_of_ble_eq_true rfl⟩ ⟨cX.blind, va_recv E.2.2.2.2.2.1 hPc (ci := 0) rfl (q0 := 0) rfl, fun U hU hWU => ⟨rfl, by rw [hU]; exact hPc, gK.warm hWU hv_.2.2.2.1, XK.move hWU (fun _ _ => by rw [hU]) hv_.2.2.2.2.2.1⟩⟩ (fun xa => ?_)
  refine g_astore (lv' := [(4, .ref xa), (0, .ref (ad 0)), (1, .int x), (2, .int y), (3, .ref oa)]) E d_La_cares_13 (by decide) rfl ?_
  refine g_iconst (v := nI 1) E d_La_cares_15 (by decide) ?_
  exact g_iret E hr_ hlk_ d_La_cares_16 (gq_n hv_.2.1 hv_.2.2.1 hv_.2.2.2.2.1)

set_option maxHeartbeats 4000000 in
set_option maxRecDepth 100000 in
theorem B_CY_most (l : Launch) (hf : l.flags = flags0) {V : gV} {oa : Nat} {ad r1 r2 r3 : Nat → Nat} {ou : Int64} {nY : Nat} {ix bu : Nat → Nat} {np : Nat} {st sr : Nat → Nat} {sx tk : Nat → Nat → Nat} {rn sh sn : Nat → Nat} {yw nw : Nat} {yo ce wo : Nat → Nat} {po ne : Nat → Option Nat} {cs : Nat → Nat} {sv : Nat → Nat → Nat} {mk : Nat} {sp rs : Nat → Int} {bg dp : Nat} (x y : Int32) (hb : (inR x (nI np) && inR y (nI nY)) = false) : mB l y_La_most (w_La_most :: gt) { frames := 8, cells := 1, slots := 6, locals := 160 } V (wW V oa ad r1 r2 r3 ou nY ix bu np st sr sx tk rn sh sn yw nw yo ce wo po ne cs sv mk sp rs bg dp) [.ref (ad 0), .int x, .int y, .ref oa] (nI 1) := by
  intro sz
  refine gMetW (V := V) (As := [.ref (ad 0), .int x, .int y, .ref oa]) (cc := c_La_most) (maxL := 5) (ret := (some .int)) (hh := [(0, 10, 13, 13)]) (by decide) rfl (Nat.le_of_ble_eq_true rfl) (fun a U h => ⟨h.1, h.2.2.2.1⟩) ?_
  intro p e s m below meth c E htab hr_ hlk_ hv_
  have hPc : va_P V.1 clz (wC V ad r1 r2 r3 nY ix bu np st sr sx tk rn sh sn yw nw yo ce wo po ne cs sv mk sp rs bg dp) s.heap := (fP (pre := [(oa, aX V ou)]) hv_.2.2.1).1
  refine g_aload_n E d_La_most_0 rfl 3 rfl ?_
  refine g_iconst (v := nI 0) E d_La_most_1 (by decide) ?_
  refine g_aload_n E d_La_most_2 rfl 0 rfl ?_
  refine g_iload_n E d_La_most_3 rfl 1 rfl ?_
  refine g_iload_n E d_La_most_4 rfl 2 rfl ?_
  refine g_catch1 E (x1 := ⟨0, 10, 13, 13⟩) htab (by decide) (by decide) kt_La_13 (X_CY_most l hf x y hb) (cs_La_38 E rfl rfl ⟨Nat.le_of_ble_eq_true rfl, Nat.le_of_ble_eq_true rfl⟩) (As := [.int x, .int y]) (rest := [.int (nI 0), .ref oa]) rfl rfl (Nat.le_of_ble_eq_true rfl) d_La_most_5 ⟨Nat.le_of_ble_eq_true rfl, Nat.le_of_ble_eq_true rfl⟩ ⟨cX.blind, va_recv E.2.2.2.2.2.1 hPc (ci := 0) rfl (q0 := 0) rfl, fun U hU hWU => ⟨rfl, by rw [hU]; exact hPc, gK.warm hWU hv_.2.2.2.1, XK.move hWU (fun _ _ => by rw [hU]) hv_.2.2.2.2.2.1⟩⟩ (fun xa => ?_)
  refine g_astore (lv' := [(4, .ref xa), (0, .ref (ad 0)), (1, .int x), (2, .int y), (3, .ref oa)]) E d_La_most_13 (by decide) rfl ?_
  refine g_iconst (v := nI 1) E d_La_most_15 (by decide) ?_
  exact g_iret E hr_ hlk_ d_La_most_16 (gq_n hv_.2.1 hv_.2.2.1 hv_.2.2.2.2.1)

set_option maxHeartbeats 4000000 in
set_option maxRecDepth 100000 in
theorem B_CY_work_1 (l : Launch) (hf : l.flags = flags0) {V : gV} {oa : Nat} {ad r1 r2 r3 : Nat → Nat} {ou : Int64} {nY : Nat} {ix bu : Nat → Nat} {np : Nat} {st sr : Nat → Nat} {sx tk : Nat → Nat → Nat} {rn sh sn : Nat → Nat} {yw nw : Nat} {yo ce wo : Nat → Nat} {po ne : Nat → Option Nat} {cs : Nat → Nat} {sv : Nat → Nat → Nat} {mk : Nat} {sp rs : Nat → Int} {bg dp : Nat} (y k v q : Int32) (hb : (inR y (nI nY) && (decide (q = oN none) || inR q (nI np))) = false) : mB l y_La_work (w_La_work :: gt) { frames := 8, cells := 1, slots := 6, locals := 160 } V (wW V oa ad r1 r2 r3 ou nY ix bu np st sr sx tk rn sh sn yw nw yo ce wo po ne cs sv mk sp rs bg dp) [.ref (ad 0), .int y, .int k, .int v, .int q, .ref oa] (nI 1) := by
  intro sz
  refine gMetW (V := V) (As := [.ref (ad 0), .int y, .int k, .int v, .int q, .ref oa]) (cc := c_La_work) (maxL := 7) (ret := (some .int)) (hh := [(0, 14, 17, 13), (0, 14, 21, 21)]) (by decide) rfl (Nat.le_of_ble_eq_true rfl) (fun a U h => ⟨h.1, h.2.2.2.1⟩) ?_
  intro p e s m below meth c E htab hr_ hlk_ hv_
  have hPc : va_P V.1 clz (wC V ad r1 r2 r3 nY ix bu np st sr sx tk rn sh sn yw nw yo ce wo po ne cs sv mk sp rs bg dp) s.heap := (fP (pre := [(oa, aX V ou)]) hv_.2.2.1).1
  refine g_aload E d_La_work_0 5 rfl ?_
  refine g_iconst (v := nI 0) E d_La_work_2 (by decide) ?_
  refine g_aload_n E d_La_work_3 rfl 0 rfl ?_
  refine g_iload_n E d_La_work_4 rfl 1 rfl ?_
  refine g_iload_n E d_La_work_5 rfl 2 rfl ?_
  refine g_iload_n E d_La_work_6 rfl 3 rfl ?_
  refine g_iload E d_La_work_7 4 rfl ?_
  refine g_catch1 E (x1 := ⟨0, 14, 17, 13⟩) htab (by decide) (by decide) kt_La_13 (X_CY_work_1 l hf y k v q hb) (cs_La_41 E rfl rfl ⟨Nat.le_of_ble_eq_true rfl, Nat.le_of_ble_eq_true rfl⟩) (As := [.int y, .int k, .int v, .int q]) (rest := [.int (nI 0), .ref oa]) rfl rfl (Nat.le_of_ble_eq_true rfl) d_La_work_9 ⟨Nat.le_of_ble_eq_true rfl, Nat.le_of_ble_eq_true rfl⟩ ⟨cX.blind, va_recv E.2.2.2.2.2.1 hPc (ci := 0) rfl (q0 := 0) rfl, fun U hU hWU => ⟨rfl, by rw [hU]; exact hPc, gK.warm hWU hv_.2.2.2.1, XK.move hWU (fun _ _ => by rw [hU]) hv_.2.2.2.2.2.1⟩⟩ (fun xa => ?_)
  refine g_astore (lv' := [(6, .ref xa), (0, .ref (ad 0)), (1, .int y), (2, .int k), (3, .int v), (4, .int q), (5, .ref oa)]) E d_La_work_17 (by decide) rfl ?_
  refine g_iconst (v := nI 1) E d_La_work_19 (by decide) ?_
  exact g_iret E hr_ hlk_ d_La_work_20 (gq_n hv_.2.1 hv_.2.2.1 hv_.2.2.2.2.1)

set_option maxHeartbeats 4000000 in
set_option maxRecDepth 100000 in
theorem B_CY_work_2n (l : Launch) (hf : l.flags = flags0) {V : gV} {oa : Nat} {ad r1 r2 r3 : Nat → Nat} {ou : Int64} {nY : Nat} {ix bu : Nat → Nat} {np : Nat} {st sr : Nat → Nat} {sx tk : Nat → Nat → Nat} {rn sh sn : Nat → Nat} {yw nw : Nat} {yo ce wo : Nat → Nat} {po ne : Nat → Option Nat} {cs : Nat → Nat} {sv : Nat → Nat → Nat} {mk : Nat} {sp rs : Nat → Int} {bg dp : Nat} (y : Nat) (k v : Int32)  (hy : y < nY) (hY : nY ≤ 12) (hb : (inB k (nI 1) (nI 1000000) && inB v (nI 0) (nI 1000000)) = false) : mB l y_La_work (w_La_work :: gt) { frames := 8, cells := 1, slots := 6, locals := 160 } V (wW V oa ad r1 r2 r3 ou nY ix bu np st sr sx tk rn sh sn yw nw yo ce wo po ne cs sv mk sp rs bg dp) [.ref (ad 0), .int (nI y), .int k, .int v, .int (oN none), .ref oa] (nI 1) := by
  intro sz
  refine gMetW (V := V) (As := [.ref (ad 0), .int (nI y), .int k, .int v, .int (oN none), .ref oa]) (cc := c_La_work) (maxL := 7) (ret := (some .int)) (hh := [(0, 14, 17, 13), (0, 14, 21, 21)]) (by decide) rfl (Nat.le_of_ble_eq_true rfl) (fun a U h => ⟨h.1, h.2.2.2.1⟩) ?_
  intro p e s m below meth c E htab hr_ hlk_ hv_
  have hPc : va_P V.1 clz (wC V ad r1 r2 r3 nY ix bu np st sr sx tk rn sh sn yw nw yo ce wo po ne cs sv mk sp rs bg dp) s.heap := (fP (pre := [(oa, aX V ou)]) hv_.2.2.1).1
  refine g_aload E d_La_work_0 5 rfl ?_
  refine g_iconst (v := nI 0) E d_La_work_2 (by decide) ?_
  refine g_aload_n E d_La_work_3 rfl 0 rfl ?_
  refine g_iload_n E d_La_work_4 rfl 1 rfl ?_
  refine g_iload_n E d_La_work_5 rfl 2 rfl ?_
  refine g_iload_n E d_La_work_6 rfl 3 rfl ?_
  refine g_iload E d_La_work_7 4 rfl ?_
  refine g_catch1 E (x1 := ⟨0, 14, 17, 13⟩) htab (by decide) (by decide) kt_La_13 (X_CY_work_2n l hf y k v hy hY hb) (cs_La_41 E rfl rfl ⟨Nat.le_of_ble_eq_true rfl, Nat.le_of_ble_eq_true rfl⟩) (As := [.int (nI y), .int k, .int v, .int (oN none)]) (rest := [.int (nI 0), .ref oa]) rfl rfl (Nat.le_of_ble_eq_true rfl) d_La_work_9 ⟨Nat.le_of_ble_eq_true rfl, Nat.le_of_ble_eq_true rfl⟩ ⟨cX.blind, va_recv E.2.2.2.2.2.1 hPc (ci := 0) rfl (q0 := 0) rfl, fun U hU hWU => ⟨rfl, by rw [hU]; exact hPc, gK.warm hWU hv_.2.2.2.1, XK.move hWU (fun _ _ => by rw [hU]) hv_.2.2.2.2.2.1⟩⟩ (fun xa => ?_)
  refine g_astore (lv' := [(6, .ref xa), (0, .ref (ad 0)), (1, .int (nI y)), (2, .int k), (3, .int v), (4, .int (oN none)), (5, .ref oa)]) E d_La_work_17 (by decide) rfl ?_
  refine g_iconst (v := nI 1) E d_La_work_19 (by decide) ?_
  exact g_iret E hr_ hlk_ d_La_work_20 (gq_n hv_.2.1 hv_.2.2.1 hv_.2.2.2.2.1)

set_option maxHeartbeats 4000000 in
set_option maxRecDepth 100000 in
theorem B_CY_work_3n (l : Launch) (hf : l.flags = flags0) {V : gV} {oa : Nat} {ad r1 r2 r3 : Nat → Nat} {ou : Int64} {nY : Nat} {ix bu : Nat → Nat} {np : Nat} {st sr : Nat → Nat} {sx tk : Nat → Nat → Nat} {rn sh sn : Nat → Nat} {yw nw : Nat} {yo ce wo : Nat → Nat} {po ne : Nat → Option Nat} {cs : Nat → Nat} {sv : Nat → Nat → Nat} {mk : Nat} {sp rs : Nat → Int} {bg dp : Nat} (y k v : Nat)  (hy : y < nY) (hY : nY ≤ 12) (h1 : 1 ≤ k) (h2 : k ≤ 1000000) (h3 : v ≤ 1000000) (hnw : nw = 10) : mB l y_La_work (w_La_work :: gt) { frames := 8, cells := 1, slots := 6, locals := 160 } V (wW V oa ad r1 r2 r3 ou nY ix bu np st sr sx tk rn sh sn yw nw yo ce wo po ne cs sv mk sp rs bg dp) [.ref (ad 0), .int (nI y), .int (nI k), .int (nI v), .int (oN none), .ref oa] (nI 2) := by
  intro sz
  refine gMetW (V := V) (As := [.ref (ad 0), .int (nI y), .int (nI k), .int (nI v), .int (oN none), .ref oa]) (cc := c_La_work) (maxL := 7) (ret := (some .int)) (hh := [(0, 14, 17, 13), (0, 14, 21, 21)]) (by decide) rfl (Nat.le_of_ble_eq_true rfl) (fun a U h => ⟨h.1, h.2.2.2.1⟩) ?_
  intro p e s m below meth c E htab hr_ hlk_ hv_
  have hPc : va_P V.1 clz (wC V ad r1 r2 r3 nY ix bu np st sr sx tk rn sh sn yw nw yo ce wo po ne cs sv mk sp rs bg dp) s.heap := (fP (pre := [(oa, aX V ou)]) hv_.2.2.1).1
  refine g_aload E d_La_work_0 5 rfl ?_
  refine g_iconst (v := nI 0) E d_La_work_2 (by decide) ?_
  refine g_aload_n E d_La_work_3 rfl 0 rfl ?_
  refine g_iload_n E d_La_work_4 rfl 1 rfl ?_
  refine g_iload_n E d_La_work_5 rfl 2 rfl ?_
  refine g_iload_n E d_La_work_6 rfl 3 rfl ?_
  refine g_iload E d_La_work_7 4 rfl ?_
  refine g_catch2 E (x0 := ⟨0, 14, 17, 13⟩) (x1 := ⟨0, 14, 21, 21⟩) htab (by decide) (by decide) (by decide) (by decide) kt_La_13 kt_La_21 hv_.2.2.2.2.2.2 (X_CY_work_3n l hf y k v hy hY h1 h2 h3 hnw) (cs_La_41 E rfl rfl ⟨Nat.le_of_ble_eq_true rfl, Nat.le_of_ble_eq_true rfl⟩) (As := [.int (nI y), .int (nI k), .int (nI v), .int (oN none)]) (rest := [.int (nI 0), .ref oa]) rfl rfl (Nat.le_of_ble_eq_true rfl) d_La_work_9 ⟨Nat.le_of_ble_eq_true rfl, Nat.le_of_ble_eq_true rfl⟩ ⟨cX.blind, va_recv E.2.2.2.2.2.1 hPc (ci := 0) rfl (q0 := 0) rfl, fun U hU hWU => ⟨rfl, by rw [hU]; exact hPc, gK.warm hWU hv_.2.2.2.1, XK.move hWU (fun _ _ => by rw [hU]) hv_.2.2.2.2.2.1⟩⟩ (fun xa => ?_)
  refine g_astore (lv' := [(6, .ref xa), (0, .ref (ad 0)), (1, .int (nI y)), (2, .int (nI k)), (3, .int (nI v)), (4, .int (oN none)), (5, .ref oa)]) E d_La_work_21 (by decide) rfl ?_
  refine g_iconst (v := nI 2) E d_La_work_23 (by decide) ?_
  exact g_iret E hr_ hlk_ d_La_work_24 (gq_n hv_.2.1 hv_.2.2.1 hv_.2.2.2.2.1)

set_option maxHeartbeats 4000000 in
set_option maxRecDepth 100000 in
theorem B_CY_work_2s (l : Launch) (hf : l.flags = flags0) {V : gV} {oa : Nat} {ad r1 r2 r3 : Nat → Nat} {ou : Int64} {nY : Nat} {ix bu : Nat → Nat} {np : Nat} {st sr : Nat → Nat} {sx tk : Nat → Nat → Nat} {rn sh sn : Nat → Nat} {yw nw : Nat} {yo ce wo : Nat → Nat} {po ne : Nat → Option Nat} {cs : Nat → Nat} {sv : Nat → Nat → Nat} {mk : Nat} {sp rs : Nat → Int} {bg dp : Nat} (y : Nat) (k v : Int32) (q : Nat) (hq : q < np) (hnp : np ≤ 12) (hy : y < nY) (hY : nY ≤ 12) (hb : (inB k (nI 1) (nI 1000000) && inB v (nI 0) (nI 1000000)) = false) : mB l y_La_work (w_La_work :: gt) { frames := 8, cells := 1, slots := 6, locals := 160 } V (wW V oa ad r1 r2 r3 ou nY ix bu np st sr sx tk rn sh sn yw nw yo ce wo po ne cs sv mk sp rs bg dp) [.ref (ad 0), .int (nI y), .int k, .int v, .int (nI q), .ref oa] (nI 1) := by
  intro sz
  refine gMetW (V := V) (As := [.ref (ad 0), .int (nI y), .int k, .int v, .int (nI q), .ref oa]) (cc := c_La_work) (maxL := 7) (ret := (some .int)) (hh := [(0, 14, 17, 13), (0, 14, 21, 21)]) (by decide) rfl (Nat.le_of_ble_eq_true rfl) (fun a U h => ⟨h.1, h.2.2.2.1⟩) ?_
  intro p e s m below meth c E htab hr_ hlk_ hv_
  have hPc : va_P V.1 clz (wC V ad r1 r2 r3 nY ix bu np st sr sx tk rn sh sn yw nw yo ce wo po ne cs sv mk sp rs bg dp) s.heap := (fP (pre := [(oa, aX V ou)]) hv_.2.2.1).1
  refine g_aload E d_La_work_0 5 rfl ?_
  refine g_iconst (v := nI 0) E d_La_work_2 (by decide) ?_
  refine g_aload_n E d_La_work_3 rfl 0 rfl ?_
  refine g_iload_n E d_La_work_4 rfl 1 rfl ?_
  refine g_iload_n E d_La_work_5 rfl 2 rfl ?_
  refine g_iload_n E d_La_work_6 rfl 3 rfl ?_
  refine g_iload E d_La_work_7 4 rfl ?_
  refine g_catch1 E (x1 := ⟨0, 14, 17, 13⟩) htab (by decide) (by decide) kt_La_13 (X_CY_work_2s l hf y k v q hq hnp hy hY hb) (cs_La_41 E rfl rfl ⟨Nat.le_of_ble_eq_true rfl, Nat.le_of_ble_eq_true rfl⟩) (As := [.int (nI y), .int k, .int v, .int (nI q)]) (rest := [.int (nI 0), .ref oa]) rfl rfl (Nat.le_of_ble_eq_true rfl) d_La_work_9 ⟨Nat.le_of_ble_eq_true rfl, Nat.le_of_ble_eq_true rfl⟩ ⟨cX.blind, va_recv E.2.2.2.2.2.1 hPc (ci := 0) rfl (q0 := 0) rfl, fun U hU hWU => ⟨rfl, by rw [hU]; exact hPc, gK.warm hWU hv_.2.2.2.1, XK.move hWU (fun _ _ => by rw [hU]) hv_.2.2.2.2.2.1⟩⟩ (fun xa => ?_)
  refine g_astore (lv' := [(6, .ref xa), (0, .ref (ad 0)), (1, .int (nI y)), (2, .int k), (3, .int v), (4, .int (nI q)), (5, .ref oa)]) E d_La_work_17 (by decide) rfl ?_
  refine g_iconst (v := nI 1) E d_La_work_19 (by decide) ?_
  exact g_iret E hr_ hlk_ d_La_work_20 (gq_n hv_.2.1 hv_.2.2.1 hv_.2.2.2.2.1)

set_option maxHeartbeats 4000000 in
set_option maxRecDepth 100000 in
theorem B_CY_work_3s (l : Launch) (hf : l.flags = flags0) {V : gV} {oa : Nat} {ad r1 r2 r3 : Nat → Nat} {ou : Int64} {nY : Nat} {ix bu : Nat → Nat} {np : Nat} {st sr : Nat → Nat} {sx tk : Nat → Nat → Nat} {rn sh sn : Nat → Nat} {yw nw : Nat} {yo ce wo : Nat → Nat} {po ne : Nat → Option Nat} {cs : Nat → Nat} {sv : Nat → Nat → Nat} {mk : Nat} {sp rs : Nat → Int} {bg dp : Nat} (y k v : Nat) (q : Nat) (hq : q < np) (hnp : np ≤ 12) (hy : y < nY) (hY : nY ≤ 12) (h1 : 1 ≤ k) (h2 : k ≤ 1000000) (h3 : v ≤ 1000000) (hnw : nw = 10) : mB l y_La_work (w_La_work :: gt) { frames := 8, cells := 1, slots := 6, locals := 160 } V (wW V oa ad r1 r2 r3 ou nY ix bu np st sr sx tk rn sh sn yw nw yo ce wo po ne cs sv mk sp rs bg dp) [.ref (ad 0), .int (nI y), .int (nI k), .int (nI v), .int (nI q), .ref oa] (nI 2) := by
  intro sz
  refine gMetW (V := V) (As := [.ref (ad 0), .int (nI y), .int (nI k), .int (nI v), .int (nI q), .ref oa]) (cc := c_La_work) (maxL := 7) (ret := (some .int)) (hh := [(0, 14, 17, 13), (0, 14, 21, 21)]) (by decide) rfl (Nat.le_of_ble_eq_true rfl) (fun a U h => ⟨h.1, h.2.2.2.1⟩) ?_
  intro p e s m below meth c E htab hr_ hlk_ hv_
  have hPc : va_P V.1 clz (wC V ad r1 r2 r3 nY ix bu np st sr sx tk rn sh sn yw nw yo ce wo po ne cs sv mk sp rs bg dp) s.heap := (fP (pre := [(oa, aX V ou)]) hv_.2.2.1).1
  refine g_aload E d_La_work_0 5 rfl ?_
  refine g_iconst (v := nI 0) E d_La_work_2 (by decide) ?_
  refine g_aload_n E d_La_work_3 rfl 0 rfl ?_
  refine g_iload_n E d_La_work_4 rfl 1 rfl ?_
  refine g_iload_n E d_La_work_5 rfl 2 rfl ?_
  refine g_iload_n E d_La_work_6 rfl 3 rfl ?_
  refine g_iload E d_La_work_7 4 rfl ?_
  refine g_catch2 E (x0 := ⟨0, 14, 17, 13⟩) (x1 := ⟨0, 14, 21, 21⟩) htab (by decide) (by decide) (by decide) (by decide) kt_La_13 kt_La_21 hv_.2.2.2.2.2.2 (X_CY_work_3s l hf y k v q hq hnp hy hY h1 h2 h3 hnw) (cs_La_41 E rfl rfl ⟨Nat.le_of_ble_eq_true rfl, Nat.le_of_ble_eq_true rfl⟩) (As := [.int (nI y), .int (nI k), .int (nI v), .int (nI q)]) (rest := [.int (nI 0), .ref oa]) rfl rfl (Nat.le_of_ble_eq_true rfl) d_La_work_9 ⟨Nat.le_of_ble_eq_true rfl, Nat.le_of_ble_eq_true rfl⟩ ⟨cX.blind, va_recv E.2.2.2.2.2.1 hPc (ci := 0) rfl (q0 := 0) rfl, fun U hU hWU => ⟨rfl, by rw [hU]; exact hPc, gK.warm hWU hv_.2.2.2.1, XK.move hWU (fun _ _ => by rw [hU]) hv_.2.2.2.2.2.1⟩⟩ (fun xa => ?_)
  refine g_astore (lv' := [(6, .ref xa), (0, .ref (ad 0)), (1, .int (nI y)), (2, .int (nI k)), (3, .int (nI v)), (4, .int (nI q)), (5, .ref oa)]) E d_La_work_21 (by decide) rfl ?_
  refine g_iconst (v := nI 2) E d_La_work_23 (by decide) ?_
  exact g_iret E hr_ hlk_ d_La_work_24 (gq_n hv_.2.1 hv_.2.2.1 hv_.2.2.2.2.1)

set_option maxHeartbeats 4000000 in
set_option maxRecDepth 100000 in
theorem B_CY_join_1 (l : Launch) (hf : l.flags = flags0) {V : gV} {oa : Nat} {ad r1 r2 r3 : Nat → Nat} {ou : Int64} {nY : Nat} {ix bu : Nat → Nat} {np : Nat} {st sr : Nat → Nat} {sx tk : Nat → Nat → Nat} {rn sh sn : Nat → Nat} {yw nw : Nat} {yo ce wo : Nat → Nat} {po ne : Nat → Option Nat} {cs : Nat → Nat} {sv : Nat → Nat → Nat} {mk : Nat} {sp rs : Nat → Int} {bg dp : Nat} (a b v : Int32) (hb : (inR a (nI nw) && inR b (nI nw) && !decide (a = b)) = false) : mB l y_La_join (w_La_join :: gt) { frames := 8, cells := 1, slots := 6, locals := 160 } V (wW V oa ad r1 r2 r3 ou nY ix bu np st sr sx tk rn sh sn yw nw yo ce wo po ne cs sv mk sp rs bg dp) [.ref (ad 0), .int a, .int b, .int v, .ref oa] (nI 1) := by
  intro sz
  refine gMetW (V := V) (As := [.ref (ad 0), .int a, .int b, .int v, .ref oa]) (cc := c_La_join) (maxL := 6) (ret := (some .int)) (hh := [(0, 12, 15, 13)]) (by decide) rfl (Nat.le_of_ble_eq_true rfl) (fun a U h => ⟨h.1, h.2.2.2.1⟩) ?_
  intro p e s m below meth c E htab hr_ hlk_ hv_
  have hPc : va_P V.1 clz (wC V ad r1 r2 r3 nY ix bu np st sr sx tk rn sh sn yw nw yo ce wo po ne cs sv mk sp rs bg dp) s.heap := (fP (pre := [(oa, aX V ou)]) hv_.2.2.1).1
  refine g_aload E d_La_join_0 4 rfl ?_
  refine g_iconst (v := nI 0) E d_La_join_2 (by decide) ?_
  refine g_aload_n E d_La_join_3 rfl 0 rfl ?_
  refine g_iload_n E d_La_join_4 rfl 1 rfl ?_
  refine g_iload_n E d_La_join_5 rfl 2 rfl ?_
  refine g_iload_n E d_La_join_6 rfl 3 rfl ?_
  refine g_catch1 E (x1 := ⟨0, 12, 15, 13⟩) htab (by decide) (by decide) kt_La_13 (X_CY_join_1 l hf a b v hb) (cs_La_44 E rfl rfl ⟨Nat.le_of_ble_eq_true rfl, Nat.le_of_ble_eq_true rfl⟩) (As := [.int a, .int b, .int v]) (rest := [.int (nI 0), .ref oa]) rfl rfl (Nat.le_of_ble_eq_true rfl) d_La_join_7 ⟨Nat.le_of_ble_eq_true rfl, Nat.le_of_ble_eq_true rfl⟩ ⟨cX.blind, va_recv E.2.2.2.2.2.1 hPc (ci := 0) rfl (q0 := 0) rfl, fun U hU hWU => ⟨rfl, by rw [hU]; exact hPc, gK.warm hWU hv_.2.2.2.1, XK.move hWU (fun _ _ => by rw [hU]) hv_.2.2.2.2.2.1⟩⟩ (fun xa => ?_)
  refine g_astore (lv' := [(5, .ref xa), (0, .ref (ad 0)), (1, .int a), (2, .int b), (3, .int v), (4, .ref oa)]) E d_La_join_15 (by decide) rfl ?_
  refine g_iconst (v := nI 1) E d_La_join_17 (by decide) ?_
  exact g_iret E hr_ hlk_ d_La_join_18 (gq_n hv_.2.1 hv_.2.2.1 hv_.2.2.2.2.1)

set_option maxHeartbeats 4000000 in
set_option maxRecDepth 100000 in
theorem B_CY_join_2 (l : Launch) (hf : l.flags = flags0) {V : gV} {oa : Nat} {ad r1 r2 r3 : Nat → Nat} {ou : Int64} {nY : Nat} {ix bu : Nat → Nat} {np : Nat} {st sr : Nat → Nat} {sx tk : Nat → Nat → Nat} {rn sh sn : Nat → Nat} {yw nw : Nat} {yo ce wo : Nat → Nat} {po ne : Nat → Option Nat} {cs : Nat → Nat} {sv : Nat → Nat → Nat} {mk : Nat} {sp rs : Nat → Int} {bg dp : Nat} (a b : Nat) (v : Int32) (ha : a < nw) (hbw : b < nw) (hab : a ≠ b) (hnw : nw ≤ 10) (hb : inB v (nI 0) (nI 1000000) = false) : mB l y_La_join (w_La_join :: gt) { frames := 8, cells := 1, slots := 6, locals := 160 } V (wW V oa ad r1 r2 r3 ou nY ix bu np st sr sx tk rn sh sn yw nw yo ce wo po ne cs sv mk sp rs bg dp) [.ref (ad 0), .int (nI a), .int (nI b), .int v, .ref oa] (nI 1) := by
  intro sz
  refine gMetW (V := V) (As := [.ref (ad 0), .int (nI a), .int (nI b), .int v, .ref oa]) (cc := c_La_join) (maxL := 6) (ret := (some .int)) (hh := [(0, 12, 15, 13)]) (by decide) rfl (Nat.le_of_ble_eq_true rfl) (fun a U h => ⟨h.1, h.2.2.2.1⟩) ?_
  intro p e s m below meth c E htab hr_ hlk_ hv_
  have hPc : va_P V.1 clz (wC V ad r1 r2 r3 nY ix bu np st sr sx tk rn sh sn yw nw yo ce wo po ne cs sv mk sp rs bg dp) s.heap := (fP (pre := [(oa, aX V ou)]) hv_.2.2.1).1
  refine g_aload E d_La_join_0 4 rfl ?_
  refine g_iconst (v := nI 0) E d_La_join_2 (by decide) ?_
  refine g_aload_n E d_La_join_3 rfl 0 rfl ?_
  refine g_iload_n E d_La_join_4 rfl 1 rfl ?_
  refine g_iload_n E d_La_join_5 rfl 2 rfl ?_
  refine g_iload_n E d_La_join_6 rfl 3 rfl ?_
  refine g_catch1 E (x1 := ⟨0, 12, 15, 13⟩) htab (by decide) (by decide) kt_La_13 (X_CY_join_2 l hf a b v ha hbw hab hnw hb) (cs_La_44 E rfl rfl ⟨Nat.le_of_ble_eq_true rfl, Nat.le_of_ble_eq_true rfl⟩) (As := [.int (nI a), .int (nI b), .int v]) (rest := [.int (nI 0), .ref oa]) rfl rfl (Nat.le_of_ble_eq_true rfl) d_La_join_7 ⟨Nat.le_of_ble_eq_true rfl, Nat.le_of_ble_eq_true rfl⟩ ⟨cX.blind, va_recv E.2.2.2.2.2.1 hPc (ci := 0) rfl (q0 := 0) rfl, fun U hU hWU => ⟨rfl, by rw [hU]; exact hPc, gK.warm hWU hv_.2.2.2.1, XK.move hWU (fun _ _ => by rw [hU]) hv_.2.2.2.2.2.1⟩⟩ (fun xa => ?_)
  refine g_astore (lv' := [(5, .ref xa), (0, .ref (ad 0)), (1, .int (nI a)), (2, .int (nI b)), (3, .int v), (4, .ref oa)]) E d_La_join_15 (by decide) rfl ?_
  refine g_iconst (v := nI 1) E d_La_join_17 (by decide) ?_
  exact g_iret E hr_ hlk_ d_La_join_18 (gq_n hv_.2.1 hv_.2.2.1 hv_.2.2.2.2.1)

set_option maxHeartbeats 4000000 in
set_option maxRecDepth 100000 in
theorem B_CY_clash (l : Launch) (hf : l.flags = flags0) {V : gV} {oa : Nat} {ad r1 r2 r3 : Nat → Nat} {ou : Int64} {nY : Nat} {ix bu : Nat → Nat} {np : Nat} {st sr : Nat → Nat} {sx tk : Nat → Nat → Nat} {rn sh sn : Nat → Nat} {yw nw : Nat} {yo ce wo : Nat → Nat} {po ne : Nat → Option Nat} {cs : Nat → Nat} {sv : Nat → Nat → Nat} {mk : Nat} {sp rs : Nat → Int} {bg dp : Nat} (a b : Int32) (q : Bool) (hb : (inR a (nI nw) && inR b (nI nw) && !decide (a = b)) = false) : mB l y_La_clash (w_La_clash :: gt) { frames := 8, cells := 1, slots := 6, locals := 160 } V (wW V oa ad r1 r2 r3 ou nY ix bu np st sr sx tk rn sh sn yw nw yo ce wo po ne cs sv mk sp rs bg dp) [.ref (ad 0), .int a, .int b, .int (bI q), .ref oa] (nI 1) := by
  intro sz
  refine gMetW (V := V) (As := [.ref (ad 0), .int a, .int b, .int (bI q), .ref oa]) (cc := c_La_clash) (maxL := 6) (ret := (some .int)) (hh := [(0, 19, 22, 13)]) (by decide) rfl (Nat.le_of_ble_eq_true rfl) (fun a U h => ⟨h.1, h.2.2.2.1⟩) ?_
  intro p e s m below meth c E htab hr_ hlk_ hv_
  have hPc : va_P V.1 clz (wC V ad r1 r2 r3 nY ix bu np st sr sx tk rn sh sn yw nw yo ce wo po ne cs sv mk sp rs bg dp) s.heap := (fP (pre := [(oa, aX V ou)]) hv_.2.2.1).1
  refine g_aload E d_La_clash_0 4 rfl ?_
  refine g_iconst (v := nI 0) E d_La_clash_2 (by decide) ?_
  refine g_aload_n E d_La_clash_3 rfl 0 rfl ?_
  refine g_iload_n E d_La_clash_4 rfl 1 rfl ?_
  refine g_iload_n E d_La_clash_5 rfl 2 rfl ?_
  refine g_iload_n E d_La_clash_6 rfl 3 rfl ?_
  refine g_catch1 E (x1 := ⟨0, 19, 22, 13⟩) htab (by decide) (by decide) kt_La_13 (X_CY_clash l hf a b q hb) (cs_La_47 E rfl rfl ⟨Nat.le_of_ble_eq_true rfl, Nat.le_of_ble_eq_true rfl⟩) (As := [.int a, .int b, .int (bI q)]) (rest := [.int (nI 0), .ref oa]) rfl rfl (Nat.le_of_ble_eq_true rfl) d_La_clash_7 ⟨Nat.le_of_ble_eq_true rfl, Nat.le_of_ble_eq_true rfl⟩ ⟨cX.blind, va_recv E.2.2.2.2.2.1 hPc (ci := 0) rfl (q0 := 0) rfl, fun U hU hWU => ⟨rfl, by rw [hU]; exact hPc, gK.warm hWU hv_.2.2.2.1, XK.move hWU (fun _ _ => by rw [hU]) hv_.2.2.2.2.2.1⟩⟩ (fun xa => ?_)
  refine g_astore (lv' := [(5, .ref xa), (0, .ref (ad 0)), (1, .int a), (2, .int b), (3, .int (bI q)), (4, .ref oa)]) E d_La_clash_22 (by decide) rfl ?_
  refine g_iconst (v := nI 1) E d_La_clash_24 (by decide) ?_
  exact g_iret E hr_ hlk_ d_La_clash_25 (gq_n hv_.2.1 hv_.2.2.1 hv_.2.2.2.2.1)

set_option maxHeartbeats 4000000 in
set_option maxRecDepth 100000 in
theorem B_CY_needs (l : Launch) (hf : l.flags = flags0) {V : gV} {oa : Nat} {ad r1 r2 r3 : Nat → Nat} {ou : Int64} {nY : Nat} {ix bu : Nat → Nat} {np : Nat} {st sr : Nat → Nat} {sx tk : Nat → Nat → Nat} {rn sh sn : Nat → Nat} {yw nw : Nat} {yo ce wo : Nat → Nat} {po ne : Nat → Option Nat} {cs : Nat → Nat} {sv : Nat → Nat → Nat} {mk : Nat} {sp rs : Nat → Int} {bg dp : Nat} (a q : Int32) (hb : (inR a (nI nw) && (decide (q = oN none) || inR q (nI nw)) && !decide (a = q)) = false) : mB l y_La_needs (w_La_needs :: gt) { frames := 8, cells := 1, slots := 6, locals := 160 } V (wW V oa ad r1 r2 r3 ou nY ix bu np st sr sx tk rn sh sn yw nw yo ce wo po ne cs sv mk sp rs bg dp) [.ref (ad 0), .int a, .int q, .ref oa] (nI 1) := by
  intro sz
  refine gMetW (V := V) (As := [.ref (ad 0), .int a, .int q, .ref oa]) (cc := c_La_needs) (maxL := 5) (ret := (some .int)) (hh := [(0, 10, 13, 13)]) (by decide) rfl (Nat.le_of_ble_eq_true rfl) (fun a U h => ⟨h.1, h.2.2.2.1⟩) ?_
  intro p e s m below meth c E htab hr_ hlk_ hv_
  have hPc : va_P V.1 clz (wC V ad r1 r2 r3 nY ix bu np st sr sx tk rn sh sn yw nw yo ce wo po ne cs sv mk sp rs bg dp) s.heap := (fP (pre := [(oa, aX V ou)]) hv_.2.2.1).1
  refine g_aload_n E d_La_needs_0 rfl 3 rfl ?_
  refine g_iconst (v := nI 0) E d_La_needs_1 (by decide) ?_
  refine g_aload_n E d_La_needs_2 rfl 0 rfl ?_
  refine g_iload_n E d_La_needs_3 rfl 1 rfl ?_
  refine g_iload_n E d_La_needs_4 rfl 2 rfl ?_
  refine g_catch1 E (x1 := ⟨0, 10, 13, 13⟩) htab (by decide) (by decide) kt_La_13 (X_CY_needs l hf a q hb) (cs_La_51 E rfl rfl ⟨Nat.le_of_ble_eq_true rfl, Nat.le_of_ble_eq_true rfl⟩) (As := [.int a, .int q]) (rest := [.int (nI 0), .ref oa]) rfl rfl (Nat.le_of_ble_eq_true rfl) d_La_needs_5 ⟨Nat.le_of_ble_eq_true rfl, Nat.le_of_ble_eq_true rfl⟩ ⟨cX.blind, va_recv E.2.2.2.2.2.1 hPc (ci := 0) rfl (q0 := 0) rfl, fun U hU hWU => ⟨rfl, by rw [hU]; exact hPc, gK.warm hWU hv_.2.2.2.1, XK.move hWU (fun _ _ => by rw [hU]) hv_.2.2.2.2.2.1⟩⟩ (fun xa => ?_)
  refine g_astore (lv' := [(4, .ref xa), (0, .ref (ad 0)), (1, .int a), (2, .int q), (3, .ref oa)]) E d_La_needs_13 (by decide) rfl ?_
  refine g_iconst (v := nI 1) E d_La_needs_15 (by decide) ?_
  exact g_iret E hr_ hlk_ d_La_needs_16 (gq_n hv_.2.1 hv_.2.2.1 hv_.2.2.2.2.1)

set_option maxHeartbeats 4000000 in
set_option maxRecDepth 100000 in
theorem B_CY_chosen (l : Launch) (hf : l.flags = flags0) {V : gV} {oa : Nat} {ad r1 r2 r3 : Nat → Nat} {ou : Int64} {nY : Nat} {ix bu : Nat → Nat} {np : Nat} {st sr : Nat → Nat} {sx tk : Nat → Nat → Nat} {rn sh sn : Nat → Nat} {yw nw : Nat} {yo ce wo : Nat → Nat} {po ne : Nat → Option Nat} {cs : Nat → Nat} {sv : Nat → Nat → Nat} {mk : Nat} {sp rs : Nat → Int} {bg dp : Nat} (a : Int32) (hb : inR a (nI nw) = false) : mB l y_La_chosen (w_La_chosen :: gt) { frames := 8, cells := 1, slots := 6, locals := 160 } V (wW V oa ad r1 r2 r3 ou nY ix bu np st sr sx tk rn sh sn yw nw yo ce wo po ne cs sv mk sp rs bg dp) [.ref (ad 0), .int a, .ref oa] (nI 1) := by
  intro sz
  refine gMetW (V := V) (As := [.ref (ad 0), .int a, .ref oa]) (cc := c_La_chosen) (maxL := 4) (ret := (some .int)) (hh := [(0, 16, 19, 13)]) (by decide) rfl (Nat.le_of_ble_eq_true rfl) (fun a U h => ⟨h.1, h.2.2.2.1⟩) ?_
  intro p e s m below meth c E htab hr_ hlk_ hv_
  have hPc : va_P V.1 clz (wC V ad r1 r2 r3 nY ix bu np st sr sx tk rn sh sn yw nw yo ce wo po ne cs sv mk sp rs bg dp) s.heap := (fP (pre := [(oa, aX V ou)]) hv_.2.2.1).1
  refine g_aload_n E d_La_chosen_0 rfl 2 rfl ?_
  refine g_iconst (v := nI 0) E d_La_chosen_1 (by decide) ?_
  refine g_aload_n E d_La_chosen_2 rfl 0 rfl ?_
  refine g_iload_n E d_La_chosen_3 rfl 1 rfl ?_
  refine g_catch1 E (x1 := ⟨0, 16, 19, 13⟩) htab (by decide) (by decide) kt_La_13 (X_CY_chosen l hf a hb) (cs_La_54 E rfl rfl ⟨Nat.le_of_ble_eq_true rfl, Nat.le_of_ble_eq_true rfl⟩) (As := [.int a]) (rest := [.int (nI 0), .ref oa]) rfl rfl (Nat.le_of_ble_eq_true rfl) d_La_chosen_4 ⟨Nat.le_of_ble_eq_true rfl, Nat.le_of_ble_eq_true rfl⟩ ⟨cX.blind, va_recv E.2.2.2.2.2.1 hPc (ci := 0) rfl (q0 := 0) rfl, fun U hU hWU => ⟨rfl, by rw [hU]; exact hPc, gK.warm hWU hv_.2.2.2.1, XK.move hWU (fun _ _ => by rw [hU]) hv_.2.2.2.2.2.1⟩⟩ (fun xa => ?_)
  refine g_astore_n (lv' := [(3, .ref xa), (0, .ref (ad 0)), (1, .int a), (2, .ref oa)]) E d_La_chosen_19 rfl (by decide) rfl ?_
  refine g_iconst (v := nI 1) E d_La_chosen_20 (by decide) ?_
  exact g_iret E hr_ hlk_ d_La_chosen_21 (gq_n hv_.2.1 hv_.2.2.1 hv_.2.2.2.2.1)

set_option maxHeartbeats 4000000 in
set_option maxRecDepth 100000 in
theorem B_CY_costs (l : Launch) (hf : l.flags = flags0) {V : gV} {oa : Nat} {ad r1 r2 r3 : Nat → Nat} {ou : Int64} {nY : Nat} {ix bu : Nat → Nat} {np : Nat} {st sr : Nat → Nat} {sx tk : Nat → Nat → Nat} {rn sh sn : Nat → Nat} {yw nw : Nat} {yo ce wo : Nat → Nat} {po ne : Nat → Option Nat} {cs : Nat → Nat} {sv : Nat → Nat → Nat} {mk : Nat} {sp rs : Nat → Int} {bg dp : Nat} (y : Int32) (hb : inR y (nI nY) = false) : mB l y_La_costs (w_La_costs :: gt) { frames := 8, cells := 1, slots := 6, locals := 160 } V (wW V oa ad r1 r2 r3 ou nY ix bu np st sr sx tk rn sh sn yw nw yo ce wo po ne cs sv mk sp rs bg dp) [.ref (ad 0), .int y, .ref oa] (nI 1) := by
  intro sz
  refine gMetW (V := V) (As := [.ref (ad 0), .int y, .ref oa]) (cc := c_La_costs) (maxL := 4) (ret := (some .int)) (hh := [(0, 9, 12, 13)]) (by decide) rfl (Nat.le_of_ble_eq_true rfl) (fun a U h => ⟨h.1, h.2.2.2.1⟩) ?_
  intro p e s m below meth c E htab hr_ hlk_ hv_
  have hPc : va_P V.1 clz (wC V ad r1 r2 r3 nY ix bu np st sr sx tk rn sh sn yw nw yo ce wo po ne cs sv mk sp rs bg dp) s.heap := (fP (pre := [(oa, aX V ou)]) hv_.2.2.1).1
  refine g_aload_n E d_La_costs_0 rfl 2 rfl ?_
  refine g_iconst (v := nI 0) E d_La_costs_1 (by decide) ?_
  refine g_aload_n E d_La_costs_2 rfl 0 rfl ?_
  refine g_iload_n E d_La_costs_3 rfl 1 rfl ?_
  refine g_catch1 E (x1 := ⟨0, 9, 12, 13⟩) htab (by decide) (by decide) kt_La_13 (X_CY_costs l hf y hb) (cs_La_58 E rfl rfl ⟨Nat.le_of_ble_eq_true rfl, Nat.le_of_ble_eq_true rfl⟩) (As := [.int y]) (rest := [.int (nI 0), .ref oa]) rfl rfl (Nat.le_of_ble_eq_true rfl) d_La_costs_4 ⟨Nat.le_of_ble_eq_true rfl, Nat.le_of_ble_eq_true rfl⟩ ⟨cX.blind, va_recv E.2.2.2.2.2.1 hPc (ci := 0) rfl (q0 := 0) rfl, fun U hU hWU => ⟨rfl, by rw [hU]; exact hPc, gK.warm hWU hv_.2.2.2.1, XK.move hWU (fun _ _ => by rw [hU]) hv_.2.2.2.2.2.1⟩⟩ (fun xa => ?_)
  refine g_astore_n (lv' := [(3, .ref xa), (0, .ref (ad 0)), (1, .int y), (2, .ref oa)]) E d_La_costs_12 rfl (by decide) rfl ?_
  refine g_iconst (v := nI 1) E d_La_costs_13 (by decide) ?_
  exact g_iret E hr_ hlk_ d_La_costs_14 (gq_n hv_.2.1 hv_.2.2.1 hv_.2.2.2.2.1)

set_option maxHeartbeats 4000000 in
set_option maxRecDepth 100000 in
theorem B_CY_money (l : Launch) (hf : l.flags = flags0) {V : gV} {oa : Nat} {ad r1 r2 r3 : Nat → Nat} {ou : Int64} {nY : Nat} {ix bu : Nat → Nat} {np : Nat} {st sr : Nat → Nat} {sx tk : Nat → Nat → Nat} {rn sh sn : Nat → Nat} {yw nw : Nat} {yo ce wo : Nat → Nat} {po ne : Nat → Option Nat} {cs : Nat → Nat} {sv : Nat → Nat → Nat} {mk : Nat} {sp rs : Nat → Int} {bg dp : Nat} (k v : Int32) (hb : (inB k (nI 0) (nI 1000000000) && inB v (nI 0) (nI 1000000000)) = false) : mB l y_La_money (w_La_money :: gt) { frames := 8, cells := 1, slots := 6, locals := 160 } V (wW V oa ad r1 r2 r3 ou nY ix bu np st sr sx tk rn sh sn yw nw yo ce wo po ne cs sv mk sp rs bg dp) [.ref (ad 0), .int k, .int v] (nI 1) := by
  intro sz
  refine gMetW (V := V) (As := [.ref (ad 0), .int k, .int v]) (cc := c_La_money) (maxL := 4) (ret := (some .int)) (hh := [(0, 6, 9, 13)]) (by decide) rfl (Nat.le_of_ble_eq_true rfl) (fun a U h => ⟨h.1, h.2.2.2.1⟩) ?_
  intro p e s m below meth c E htab hr_ hlk_ hv_
  have hPc : va_P V.1 clz (wC V ad r1 r2 r3 nY ix bu np st sr sx tk rn sh sn yw nw yo ce wo po ne cs sv mk sp rs bg dp) s.heap := (fP (pre := [(oa, aX V ou)]) hv_.2.2.1).1
  refine g_aload_n E d_La_money_0 rfl 0 rfl ?_
  refine g_iload_n E d_La_money_1 rfl 1 rfl ?_
  refine g_iload_n E d_La_money_2 rfl 2 rfl ?_
  refine g_catch1 E (x1 := ⟨0, 6, 9, 13⟩) htab (by decide) (by decide) kt_La_13 (X_CY_money l hf k v hb) (cs_La_62 E rfl rfl ⟨Nat.le_of_ble_eq_true rfl, Nat.le_of_ble_eq_true rfl⟩) (As := [.int k, .int v]) (rest := []) rfl rfl (Nat.le_of_ble_eq_true rfl) d_La_money_3 ⟨Nat.le_of_ble_eq_true rfl, Nat.le_of_ble_eq_true rfl⟩ ⟨cX.blind, va_recv E.2.2.2.2.2.1 hPc (ci := 0) rfl (q0 := 0) rfl, fun U hU hWU => ⟨rfl, by rw [hU]; exact hPc, gK.warm hWU hv_.2.2.2.1, XK.move hWU (fun _ _ => by rw [hU]) hv_.2.2.2.2.2.1⟩⟩ (fun xa => ?_)
  refine g_astore_n (lv' := [(3, .ref xa), (0, .ref (ad 0)), (1, .int k), (2, .int v)]) E d_La_money_9 rfl (by decide) rfl ?_
  refine g_iconst (v := nI 1) E d_La_money_10 (by decide) ?_
  exact g_iret E hr_ hlk_ d_La_money_11 (gq_n hv_.2.1 hv_.2.2.1 hv_.2.2.2.2.1)

set_option maxHeartbeats 4000000 in
set_option maxRecDepth 100000 in
theorem B_CY_reserve (l : Launch) (hf : l.flags = flags0) {V : gV} {oa : Nat} {ad r1 r2 r3 : Nat → Nat} {ou : Int64} {nY : Nat} {ix bu : Nat → Nat} {np : Nat} {st sr : Nat → Nat} {sx tk : Nat → Nat → Nat} {rn sh sn : Nat → Nat} {yw nw : Nat} {yo ce wo : Nat → Nat} {po ne : Nat → Option Nat} {cs : Nat → Nat} {sv : Nat → Nat → Nat} {mk : Nat} {sp rs : Nat → Int} {bg dp : Nat} (y : Int32) (hb : inR y (nI nY) = false) : mB l y_La_reserve (w_La_reserve :: gt) { frames := 8, cells := 1, slots := 6, locals := 160 } V (wW V oa ad r1 r2 r3 ou nY ix bu np st sr sx tk rn sh sn yw nw yo ce wo po ne cs sv mk sp rs bg dp) [.ref (ad 0), .int y, .ref oa] (nI 1) := by
  intro sz
  refine gMetW (V := V) (As := [.ref (ad 0), .int y, .ref oa]) (cc := c_La_reserve) (maxL := 4) (ret := (some .int)) (hh := [(0, 8, 11, 13)]) (by decide) rfl (Nat.le_of_ble_eq_true rfl) (fun a U h => ⟨h.1, h.2.2.2.1⟩) ?_
  intro p e s m below meth c E htab hr_ hlk_ hv_
  have hPc : va_P V.1 clz (wC V ad r1 r2 r3 nY ix bu np st sr sx tk rn sh sn yw nw yo ce wo po ne cs sv mk sp rs bg dp) s.heap := (fP (pre := [(oa, aX V ou)]) hv_.2.2.1).1
  refine g_aload_n E d_La_reserve_0 rfl 2 rfl ?_
  refine g_iconst (v := nI 0) E d_La_reserve_1 (by decide) ?_
  refine g_aload_n E d_La_reserve_2 rfl 0 rfl ?_
  refine g_iload_n E d_La_reserve_3 rfl 1 rfl ?_
  refine g_catch1 E (x1 := ⟨0, 8, 11, 13⟩) htab (by decide) (by decide) kt_La_13 (X_CY_reserve l hf y hb) (cs_La_66 E rfl rfl ⟨Nat.le_of_ble_eq_true rfl, Nat.le_of_ble_eq_true rfl⟩) (As := [.int y]) (rest := [.int (nI 0), .ref oa]) rfl rfl (Nat.le_of_ble_eq_true rfl) d_La_reserve_4 ⟨Nat.le_of_ble_eq_true rfl, Nat.le_of_ble_eq_true rfl⟩ ⟨cX.blind, va_recv E.2.2.2.2.2.1 hPc (ci := 0) rfl (q0 := 0) rfl, fun U hU hWU => ⟨rfl, by rw [hU]; exact hPc, gK.warm hWU hv_.2.2.2.1, XK.move hWU (fun _ _ => by rw [hU]) hv_.2.2.2.2.2.1⟩⟩ (fun xa => ?_)
  refine g_astore_n (lv' := [(3, .ref xa), (0, .ref (ad 0)), (1, .int y), (2, .ref oa)]) E d_La_reserve_11 rfl (by decide) rfl ?_
  refine g_iconst (v := nI 1) E d_La_reserve_12 (by decide) ?_
  exact g_iret E hr_ hlk_ d_La_reserve_13 (gq_n hv_.2.1 hv_.2.2.1 hv_.2.2.2.2.1)

set_option maxHeartbeats 4000000 in
set_option maxRecDepth 100000 in
theorem B_CY_payment (l : Launch) (hf : l.flags = flags0) {V : gV} {oa : Nat} {ad r1 r2 r3 : Nat → Nat} {ou : Int64} {nY : Nat} {ix bu : Nat → Nat} {np : Nat} {st sr : Nat → Nat} {sx tk : Nat → Nat → Nat} {rn sh sn : Nat → Nat} {yw nw : Nat} {yo ce wo : Nat → Nat} {po ne : Nat → Option Nat} {cs : Nat → Nat} {sv : Nat → Nat → Nat} {mk : Nat} {sp rs : Nat → Int} {bg dp : Nat} (x y z : Int32) (hb : isL x y z = false) : mB l y_La_payment (w_La_payment :: gt) { frames := 8, cells := 1, slots := 6, locals := 160 } V (wW V oa ad r1 r2 r3 ou nY ix bu np st sr sx tk rn sh sn yw nw yo ce wo po ne cs sv mk sp rs bg dp) [.ref (ad 0), .int x, .int y, .int z, .ref oa] (nI 1) := by
  intro sz
  refine gMetW (V := V) (As := [.ref (ad 0), .int x, .int y, .int z, .ref oa]) (cc := c_La_payment) (maxL := 6) (ret := (some .int)) (hh := [(0, 12, 15, 13)]) (by decide) rfl (Nat.le_of_ble_eq_true rfl) (fun a U h => ⟨h.1, h.2.2.2.1⟩) ?_
  intro p e s m below meth c E htab hr_ hlk_ hv_
  have hPc : va_P V.1 clz (wC V ad r1 r2 r3 nY ix bu np st sr sx tk rn sh sn yw nw yo ce wo po ne cs sv mk sp rs bg dp) s.heap := (fP (pre := [(oa, aX V ou)]) hv_.2.2.1).1
  refine g_aload E d_La_payment_0 4 rfl ?_
  refine g_iconst (v := nI 0) E d_La_payment_2 (by decide) ?_
  refine g_aload_n E d_La_payment_3 rfl 0 rfl ?_
  refine g_iload_n E d_La_payment_4 rfl 1 rfl ?_
  refine g_iload_n E d_La_payment_5 rfl 2 rfl ?_
  refine g_iload_n E d_La_payment_6 rfl 3 rfl ?_
  refine g_catch1 E (x1 := ⟨0, 12, 15, 13⟩) htab (by decide) (by decide) kt_La_13 (X_CY_payment l hf x y z hb) (cs_La_70 E rfl rfl ⟨Nat.le_of_ble_eq_true rfl, Nat.le_of_ble_eq_true rfl⟩) (As := [.int x, .int y, .int z]) (rest := [.int (nI 0), .ref oa]) rfl rfl (Nat.le_of_ble_eq_true rfl) d_La_payment_7 ⟨Nat.le_of_ble_eq_true rfl, Nat.le_of_ble_eq_true rfl⟩ ⟨cX.blind, va_recv E.2.2.2.2.2.1 hPc (ci := 0) rfl (q0 := 0) rfl, fun U hU hWU => ⟨rfl, by rw [hU]; exact hPc, gK.warm hWU hv_.2.2.2.1, XK.move hWU (fun _ _ => by rw [hU]) hv_.2.2.2.2.2.1⟩⟩ (fun xa => ?_)
  refine g_astore (lv' := [(5, .ref xa), (0, .ref (ad 0)), (1, .int x), (2, .int y), (3, .int z), (4, .ref oa)]) E d_La_payment_15 (by decide) rfl ?_
  refine g_iconst (v := nI 1) E d_La_payment_17 (by decide) ?_
  exact g_iret E hr_ hlk_ d_La_payment_18 (gq_n hv_.2.1 hv_.2.2.1 hv_.2.2.2.2.1)

set_option maxHeartbeats 4000000 in
set_option maxRecDepth 100000 in
theorem B_CY_rest (l : Launch) (hf : l.flags = flags0) {V : gV} {oa : Nat} {ad r1 r2 r3 : Nat → Nat} {ou : Int64} {nY : Nat} {ix bu : Nat → Nat} {np : Nat} {st sr : Nat → Nat} {sx tk : Nat → Nat → Nat} {rn sh sn : Nat → Nat} {yw nw : Nat} {yo ce wo : Nat → Nat} {po ne : Nat → Option Nat} {cs : Nat → Nat} {sv : Nat → Nat → Nat} {mk : Nat} {sp rs : Nat → Int} {bg dp : Nat} (x y z t : Int32) (hb : (isL x y z && inB t (nI 0) z) = false) : mB l y_La_rest (w_La_rest :: gt) { frames := 8, cells := 1, slots := 6, locals := 160 } V (wW V oa ad r1 r2 r3 ou nY ix bu np st sr sx tk rn sh sn yw nw yo ce wo po ne cs sv mk sp rs bg dp) [.ref (ad 0), .int x, .int y, .int z, .int t, .ref oa] (nI 1) := by
  intro sz
  refine gMetW (V := V) (As := [.ref (ad 0), .int x, .int y, .int z, .int t, .ref oa]) (cc := c_La_rest) (maxL := 7) (ret := (some .int)) (hh := [(0, 14, 17, 13)]) (by decide) rfl (Nat.le_of_ble_eq_true rfl) (fun a U h => ⟨h.1, h.2.2.2.1⟩) ?_
  intro p e s m below meth c E htab hr_ hlk_ hv_
  have hPc : va_P V.1 clz (wC V ad r1 r2 r3 nY ix bu np st sr sx tk rn sh sn yw nw yo ce wo po ne cs sv mk sp rs bg dp) s.heap := (fP (pre := [(oa, aX V ou)]) hv_.2.2.1).1
  refine g_aload E d_La_rest_0 5 rfl ?_
  refine g_iconst (v := nI 0) E d_La_rest_2 (by decide) ?_
  refine g_aload_n E d_La_rest_3 rfl 0 rfl ?_
  refine g_iload_n E d_La_rest_4 rfl 1 rfl ?_
  refine g_iload_n E d_La_rest_5 rfl 2 rfl ?_
  refine g_iload_n E d_La_rest_6 rfl 3 rfl ?_
  refine g_iload E d_La_rest_7 4 rfl ?_
  refine g_catch1 E (x1 := ⟨0, 14, 17, 13⟩) htab (by decide) (by decide) kt_La_13 (X_CY_rest l hf x y z t hb) (cs_La_73 E rfl rfl ⟨Nat.le_of_ble_eq_true rfl, Nat.le_of_ble_eq_true rfl⟩) (As := [.int x, .int y, .int z, .int t]) (rest := [.int (nI 0), .ref oa]) rfl rfl (Nat.le_of_ble_eq_true rfl) d_La_rest_9 ⟨Nat.le_of_ble_eq_true rfl, Nat.le_of_ble_eq_true rfl⟩ ⟨cX.blind, va_recv E.2.2.2.2.2.1 hPc (ci := 0) rfl (q0 := 0) rfl, fun U hU hWU => ⟨rfl, by rw [hU]; exact hPc, gK.warm hWU hv_.2.2.2.1, XK.move hWU (fun _ _ => by rw [hU]) hv_.2.2.2.2.2.1⟩⟩ (fun xa => ?_)
  refine g_astore (lv' := [(6, .ref xa), (0, .ref (ad 0)), (1, .int x), (2, .int y), (3, .int z), (4, .int t), (5, .ref oa)]) E d_La_rest_17 (by decide) rfl ?_
  refine g_iconst (v := nI 1) E d_La_rest_19 (by decide) ?_
  exact g_iret E hr_ hlk_ d_La_rest_20 (gq_n hv_.2.1 hv_.2.2.1 hv_.2.2.2.2.1)
