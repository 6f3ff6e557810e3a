theorem va_id {α : Type} (f : Nat → α) (k : Nat) : va_up f k (f k) = f := by
  funext j; by_cases h : j = k
  · subst h; rw [va_up_self]
  · rw [va_up_ne _ _ h]

set_option maxHeartbeats 4000000 in
set_option maxRecDepth 100000 in
theorem C_Pa_begin (l : Launch) {V : gV} {ad r1 r2 r3 : Nat → Nat} {nY : Nat} {ix bu : Nat → Nat} {np : Nat} {st sr : Nat → Nat} {sx tk : Nat → Nat → Nat} {rn sh sn : Nat → Nat} {yw nw : Nat} {yo ce wo : Nat → Nat} {po ne : Nat → Option Nat} {cs : Nat → Nat} {sv : Nat → Nat → Nat} {mk : Nat} {sp rs : Nat → Int} {bg dp : Nat} (i : Nat) (hi : i < 12) (hr : sr i < 4) : mWv l y_Pa_begin (w_Pa_begin :: gt) rm_Pa_begin V (wC V ad r1 r2 r3 nY ix bu np st sr sx tk rn sh sn yw nw yo ce wo po ne cs sv mk sp rs bg dp) [.ref (ad 4), .int (nI i)] (wC V ad r1 r2 r3 nY ix bu np st sr sx tk rn (beg (sr i)) sn 0 nw yo ce wo po ne cs sv mk sp rs bg dp) 0 0 := by
  intro sz
  refine gMet (V := V) (As := [.ref (ad 4), .int (nI i)]) (cc := c_Pa_begin) (maxL := 2) (ret := none) (by decide) rfl (Nat.le_of_ble_eq_true rfl) (fun a U h => ⟨h.1, h.2.2.2.1⟩) ?_
  intro p e s m below meth c E hr hlk hnm hv
  refine g_toW (sz := sz) (w := wC V ad r1 r2 r3 nY ix bu np st sr sx tk rn sh sn yw nw yo ce wo po ne cs sv mk sp rs bg dp) hv.2.2.1 hv.2.2.2.2 ?_
  have hA0 : ∀ q : Nat, s.heap.size ≤ q → va_A (wC V ad r1 r2 r3 nY ix bu np st sr sx tk rn sh sn yw nw yo ce wo po ne cs sv mk sp rs bg dp) sz q := fun q h => Or.inr (by rw [← hv.2.1]; exact h)
  refine g_aload_n E d_Pa_begin_0 rfl 0 rfl ?_
  refine gf_Pa_27 E gO_w 4 rfl rfl d_Pa_begin_1 ?_
  refine g_lconst (v := lN 0) E d_Pa_begin_4 (by decide) ?_
  refine gwSv (As := [.ref (ad 10), .long (lN 0)]) (rest := []) (w' := wC V ad r1 r2 r3 nY ix bu np st sr sx tk rn (fun _ => 0) sn yw nw yo ce wo po ne cs sv mk sp rs bg dp) (mc := 0) (ms := 0) E hA0 (C_fill_sh l) (cs_Pa_63 E rfl rfl ⟨Nat.le_of_ble_eq_true rfl, Nat.le_of_ble_eq_true rfl⟩) rfl rfl (Nat.le_of_ble_eq_true rfl) ⟨Nat.zero_le _, Nat.zero_le _⟩ d_Pa_begin_5 ?_
  refine g_aload_n E d_Pa_begin_8 rfl 0 rfl ?_
  refine gf_Pa_27 E gO_w 4 rfl rfl d_Pa_begin_9 ?_
  refine g_aload_n E d_Pa_begin_12 rfl 0 rfl ?_
  refine gf_Pa_13 E gO_w 4 rfl rfl d_Pa_begin_13 ?_
  refine g_iload_n E d_Pa_begin_16 rfl 1 rfl ?_
  refine g_ldN E gO_w 6 rfl (by omega) (by decide) d_Pa_begin_17 ?_
  refine g_lconst (v := lN 1) E d_Pa_begin_18 (by decide) ?_
  refine g_stL (ws' := wC V ad r1 r2 r3 nY ix bu np st sr sx tk rn (va_up (fun _ => 0) (sr i) 1) sn yw nw yo ce wo po ne cs sv mk sp rs bg dp) E 10 rfl (by omega) (by decide) rfl d_Pa_begin_19 ?_
  refine g_aload_n E d_Pa_begin_20 rfl 0 rfl ?_
  refine g_iconst (v := nI 0) E d_Pa_begin_21 (by decide) ?_
  refine pf_Pa_69 (ws' := wC V ad r1 r2 r3 nY ix bu np st sr sx tk rn (va_up (fun _ => 0) (sr i) 1) sn 0 nw yo ce wo po ne cs sv mk sp rs bg dp) E 4 rfl rfl rfl (Nat.le_of_ble_eq_true rfl) rfl d_Pa_begin_22 ?_
  refine g_ws (ws' := wC V ad r1 r2 r3 nY ix bu np st sr sx tk rn (beg (sr i)) sn 0 nw yo ce wo po ne cs sv mk sp rs bg dp) (rfl) ?_
  exact g_vret E hr hlk d_Pa_begin_25 (gq_wv (w1 := fun _ => wC V ad r1 r2 r3 nY ix bu np st sr sx tk rn (beg (sr i)) sn 0 nw yo ce wo po ne cs sv mk sp rs bg dp) () trivial)

set_option maxHeartbeats 4000000 in
set_option maxRecDepth 100000 in
theorem C_Pa_wear (l : Launch) {V : gV} {ad r1 r2 r3 : Nat → Nat} {nY : Nat} {ix bu : Nat → Nat} {np : Nat} {st sr : Nat → Nat} {sx tk : Nat → Nat → Nat} {rn sh sn : Nat → Nat} {yw nw : Nat} {yo ce wo : Nat → Nat} {po ne : Nat → Option Nat} {cs : Nat → Nat} {sv : Nat → Nat → Nat} {mk : Nat} {sp rs : Nat → Int} {bg dp : Nat} (i : Nat) (hi : i < 12) (hs : st i ≤ 4) (hx : ∀ i j, sx i j ≤ 16) : mWv l y_Pa_wear (w_Pa_wear :: gt) rm_Pa_wear V (wC V ad r1 r2 r3 nY ix bu np st sr sx tk rn sh sn yw nw yo ce wo po ne cs sv mk sp rs bg dp) [.ref (ad 4), .int (nI i)] (wC V ad r1 r2 r3 nY ix bu np st sr sx tk rn (wrV sh (sx i) (st i) sh) (wrV sh (sx i) (st i) sn) (yw + 1) nw yo ce wo po ne cs sv mk sp rs bg dp) 0 0 := by
  intro sz
  refine gMet (V := V) (As := [.ref (ad 4), .int (nI i)]) (cc := c_Pa_wear) (maxL := 6) (ret := none) (by decide) rfl (Nat.le_of_ble_eq_true rfl) (fun a U h => ⟨h.1, h.2.2.2.1⟩) ?_
  intro p e s m below meth c E hr hlk hnm hv
  refine g_toW (sz := sz) (w := wC V ad r1 r2 r3 nY ix bu np st sr sx tk rn sh sn yw nw yo ce wo po ne cs sv mk sp rs bg dp) hv.2.2.1 hv.2.2.2.2 ?_
  have hA0 : ∀ q : Nat, s.heap.size ≤ q → va_A (wC V ad r1 r2 r3 nY ix bu np st sr sx tk rn sh sn yw nw yo ce wo po ne cs sv mk sp rs bg dp) sz q := fun q h => Or.inr (by rw [← hv.2.1]; exact h)
  have hM : ∀ a t, sx i (a * 4 + t) < 2 ^ 31 := fun a t => Nat.lt_of_le_of_lt (hx i _) (by decide)
  refine g_iconst (v := nI 0) E d_Pa_wear_0 (by decide) ?_
  refine g_istore_n (lv' := [(2, .int (nI 0)), (0, .ref (ad 4)), (1, .int (nI i))]) E d_Pa_wear_1 rfl (by decide) rfl ?_
  refine g_lv [0, 1, 2] rfl ?_
  refine gloop (α := Nat × (Nat → Nat)) (fun a_ => gW V _ _ (wC V ad r1 r2 r3 nY ix bu np st sr sx tk rn sh a_.2 yw nw yo ce wo po ne cs sv mk sp rs bg dp)) (fun a_ => [(2, .int (nI a_.1)), (0, .ref (ad 4)), (1, .int (nI i))]) (fun a_ => a_.1 ≤ st i ∧ a_.2 = fun j => if j < a_.1 then wrJ sh (sx i) (st i) j else sn j) (fun a_ => st i - a_.1) (0, sn) (⟨Nat.zero_le _, by funext j; simp⟩) ?_
  rintro ⟨t, g⟩ hI_2 ih_2
  try dsimp only at hI_2 ih_2 ⊢
  refine g_iload_n E d_Pa_wear_2 rfl 0 rfl ?_
  refine g_aload_n E d_Pa_wear_3 rfl 1 rfl ?_
  refine gf_Pa_9 E gO_w 4 rfl rfl d_Pa_wear_4 ?_
  refine g_iload_n E d_Pa_wear_7 rfl 2 rfl ?_
  refine g_ldN E gO_w 5 rfl (by omega) (by decide) d_Pa_wear_8 ?_
  refine g_ncmp_ge E 67 d_Pa_wear_9 (by decide) (by omega) (by omega) (fun h1 => ?_) (fun h1 => ?_)
  · refine g_aload_n E d_Pa_wear_67 rfl 1 rfl ?_
    refine gf_Pa_31 E gO_w 4 rfl rfl d_Pa_wear_68 ?_
    refine g_iconst (v := nI 0) E d_Pa_wear_71 (by decide) ?_
    refine g_aload_n E d_Pa_wear_72 rfl 1 rfl ?_
    refine gf_Pa_27 E gO_w 4 rfl rfl d_Pa_wear_73 ?_
    refine g_iconst (v := nI 0) E d_Pa_wear_76 (by decide) ?_
    refine g_aload_n E d_Pa_wear_77 rfl 1 rfl ?_
    refine gf_Pa_9 E gO_w 4 rfl rfl d_Pa_wear_78 ?_
    refine g_iload_n E d_Pa_wear_81 rfl 2 rfl ?_
    refine g_ldN E gO_w 5 rfl (by omega) (by decide) d_Pa_wear_82 ?_
    refine g_copyL (ws' := wC V ad r1 r2 r3 nY ix bu np st sr sx tk rn (fun j => if j < (st i) then g j else sh j) g yw nw yo ce wo po ne cs sv mk sp rs bg dp) E kl_Pa_76 11 10 rfl rfl (by omega) (by omega) (by omega) (Nat.le_of_ble_eq_true rfl) (Nat.le_of_ble_eq_true rfl) rfl d_Pa_wear_83 ?_
    refine g_aload_n E d_Pa_wear_86 rfl 1 rfl ?_
    refine g_dup E d_Pa_wear_87 rfl ?_
    refine gf_Pa_69 E gO_w 4 rfl rfl d_Pa_wear_88 ?_
    refine g_iconst (v := nI 1) E d_Pa_wear_91 (by decide) ?_
    refine g_iadd E d_Pa_wear_92 ?_
    refine g_topi (nI_add _ _) ?_
    refine pf_Pa_69 (ws' := wC V ad r1 r2 r3 nY ix bu np st sr sx tk rn (fun j => if j < (st i) then g j else sh j) g (yw + 1) nw yo ce wo po ne cs sv mk sp rs bg dp) E 4 rfl rfl rfl (Nat.le_of_ble_eq_true rfl) rfl d_Pa_wear_93 ?_
    refine g_ws (ws' := wC V ad r1 r2 r3 nY ix bu np st sr sx tk rn (wrV sh (sx i) (st i) sh) (wrV sh (sx i) (st i) sn) (yw + 1) nw yo ce wo po ne cs sv mk sp rs bg dp) (by rw [hI_2.2, show t = st i by omega]; congr 1; funext j; by_cases hj : j < st i <;> simp [wrV, hj]) ?_
    exact g_vret E hr hlk d_Pa_wear_96 (gq_wv (w1 := fun _ => wC V ad r1 r2 r3 nY ix bu np st sr sx tk rn (wrV sh (sx i) (st i) sh) (wrV sh (sx i) (st i) sn) (yw + 1) nw yo ce wo po ne cs sv mk sp rs bg dp) () trivial)
  · refine g_lconst (v := lN 0) E d_Pa_wear_12 (by decide) ?_
    refine g_lstore_n (lv' := [(3, .long (lN 0)), (2, .int (nI t)), (0, .ref (ad 4)), (1, .int (nI i))]) E d_Pa_wear_13 rfl (by decide) rfl ?_
    refine g_iconst (v := nI 0) E d_Pa_wear_14 (by decide) ?_
    refine g_istore (lv' := [(5, .int (nI 0)), (3, .long (lN 0)), (2, .int (nI t)), (0, .ref (ad 4)), (1, .int (nI i))]) E d_Pa_wear_15 (by decide) rfl ?_
    refine g_lv [0, 1, 2, 3, 4] rfl ?_
    refine gloop (α := Nat × Nat) (fun a_ => gW V _ _ (wC V ad r1 r2 r3 nY ix bu np st sr sx tk rn sh g yw nw yo ce wo po ne cs sv mk sp rs bg dp)) (fun a_ => [(5, .int (nI a_.1)), (3, .long (lN a_.2)), (2, .int (nI t)), (0, .ref (ad 4)), (1, .int (nI i))]) (fun a_ => a_.1 ≤ st i ∧ a_.2 = sumN (fun a => sh a * sx i (a * 4 + t)) a_.1) (fun a_ => st i - a_.1) (0, 0) (⟨Nat.zero_le _, rfl⟩) ?_
    rintro ⟨q, acc⟩ hI_17 ih_17
    try dsimp only at hI_17 ih_17 ⊢
    refine g_iload E d_Pa_wear_17 0 rfl ?_
    refine g_aload_n E d_Pa_wear_19 rfl 3 rfl ?_
    refine gf_Pa_9 E gO_w 4 rfl rfl d_Pa_wear_20 ?_
    refine g_iload_n E d_Pa_wear_23 rfl 4 rfl ?_
    refine g_ldN E gO_w 5 rfl (by omega) (by decide) d_Pa_wear_24 ?_
    refine g_ncmp_ge E 54 d_Pa_wear_25 (by decide) (by omega) (by omega) (fun h2 => ?_) (fun h2 => ?_)
    · refine g_aload_n E d_Pa_wear_54 rfl 3 rfl ?_
      refine gf_Pa_31 E gO_w 4 rfl rfl d_Pa_wear_55 ?_
      refine g_iload_n E d_Pa_wear_58 rfl 2 rfl ?_
      refine g_lload_n E d_Pa_wear_59 rfl 1 rfl ?_
      refine g_stL (ws' := wC V ad r1 r2 r3 nY ix bu np st sr sx tk rn sh (va_up g t acc) yw nw yo ce wo po ne cs sv mk sp rs bg dp) E 11 rfl (by omega) (by decide) rfl d_Pa_wear_60 ?_
      refine g_iinc (lv' := [(2, .int (nI (t + 1))), (5, .int (nI q)), (3, .long (lN acc)), (0, .ref (ad 4)), (1, .int (nI i))]) E d_Pa_wear_61 2 rfl (nI_inc _) (by decide) rfl ?_
      refine g_goto E 2 d_Pa_wear_64 (by decide) ?_
      refine g_lv [0, 3, 4] rfl ?_
      exact ih_2 (t + 1, va_up g t acc) (⟨by (try dsimp only); omega, by (try dsimp only); rw [hI_17.2, show q = st i by omega, hI_2.2]; exact ifu (F := wrJ sh (sx i) (st i))⟩) (by (try dsimp only); omega)
    · refine g_lload_n E d_Pa_wear_28 rfl 1 rfl ?_
      refine g_aload_n E d_Pa_wear_29 rfl 3 rfl ?_
      refine gf_Pa_27 E gO_w 4 rfl rfl d_Pa_wear_30 ?_
      refine g_iload E d_Pa_wear_33 0 rfl ?_
      refine g_ldL E gO_w 10 rfl (by omega) (by decide) d_Pa_wear_35 ?_
      refine g_aload_n E d_Pa_wear_36 rfl 3 rfl ?_
      refine g_iload_n E d_Pa_wear_37 rfl 4 rfl ?_
      refine g_iload E d_Pa_wear_38 0 rfl ?_
      refine g_iload_n E d_Pa_wear_40 rfl 2 rfl ?_
      refine gpVi (As := [.int (nI i), .int (nI q), .int (nI t)]) (rest := [.long (lN (sh q)), .long (lN acc)]) E gO_w 4 rfl rfl (C_Pa_going l i q t (by omega) (by omega) (by omega)) (cs_Pa_72 E rfl rfl ⟨Nat.le_of_ble_eq_true rfl, Nat.le_of_ble_eq_true rfl⟩) rfl rfl (Nat.le_of_ble_eq_true rfl) ⟨Nat.zero_le _, Nat.zero_le _⟩ d_Pa_wear_41 ?_
      refine g_i2l E d_Pa_wear_44 ?_
      refine g_topl (nI_l (hM _ _)) ?_
      refine g_lmul E d_Pa_wear_45 ?_
      refine g_topl (lN_mul _ _) ?_
      refine g_ladd E d_Pa_wear_46 ?_
      refine g_topl (lN_add _ _) ?_
      refine g_lstore_n (lv' := [(3, .long (lN (acc + ((sh q) * (sx i (q * 4 + t)))))), (5, .int (nI q)), (2, .int (nI t)), (0, .ref (ad 4)), (1, .int (nI i))]) E d_Pa_wear_47 rfl (by decide) rfl ?_
      refine g_iinc (lv' := [(5, .int (nI (q + 1))), (3, .long (lN (acc + ((sh q) * (sx i (q * 4 + t)))))), (2, .int (nI t)), (0, .ref (ad 4)), (1, .int (nI i))]) E d_Pa_wear_48 1 rfl (nI_inc _) (by decide) rfl ?_
      refine g_goto E 17 d_Pa_wear_51 (by decide) ?_
      refine g_lv [0, 1, 2, 3, 4] rfl ?_
      exact ih_17 (q + 1, acc + ((sh q) * (sx i (q * 4 + t)))) (⟨by (try dsimp only); omega, by (try dsimp only); rw [hI_17.2]; rfl⟩) (by (try dsimp only); omega)

set_option maxHeartbeats 4000000 in
set_option maxRecDepth 100000 in
theorem C_Pa_enter (l : Launch) {V : gV} {ad r1 r2 r3 : Nat → Nat} {nY : Nat} {ix bu : Nat → Nat} {np : Nat} {st sr : Nat → Nat} {sx tk : Nat → Nat → Nat} {rn sh sn : Nat → Nat} {yw nw : Nat} {yo ce wo : Nat → Nat} {po ne : Nat → Option Nat} {cs : Nat → Nat} {sv : Nat → Nat → Nat} {mk : Nat} {sp rs : Nat → Int} {bg dp : Nat} (i y : Nat) (hi : i < 12) (hy : y < 12) (hs : st i ≤ 4) (hr : sr i < 4) (hn : rn i < 4096) (hx : ∀ i j, sx i j ≤ 16) : mWv l y_Pa_enter (w_Pa_enter :: gt) rm_Pa_enter V (wC V ad r1 r2 r3 nY ix bu np st sr sx tk rn sh sn yw nw yo ce wo po ne cs sv mk sp rs bg dp) [.ref (ad 4), .int (nI i), .int (nI y)] (wC V ad r1 r2 r3 nY ix bu np st sr sx tk rn (if enB (rn i) y then beg (sr i) else wrV sh (sx i) (st i) sh) (if enB (rn i) y then sn else wrV sh (sx i) (st i) sn) (if enB (rn i) y then 0 else yw + 1) nw yo ce wo po ne cs sv mk sp rs bg dp) 0 0 := by
  intro sz
  refine gMet (V := V) (As := [.ref (ad 4), .int (nI i), .int (nI y)]) (cc := c_Pa_enter) (maxL := 3) (ret := none) (by decide) rfl (Nat.le_of_ble_eq_true rfl) (fun a U h => ⟨h.1, h.2.2.2.1⟩) ?_
  intro p e s m below meth c E hr hlk hnm hv
  refine g_toW (sz := sz) (w := wC V ad r1 r2 r3 nY ix bu np st sr sx tk rn sh sn yw nw yo ce wo po ne cs sv mk sp rs bg dp) hv.2.2.1 hv.2.2.2.2 ?_
  have hA0 : ∀ q : Nat, s.heap.size ≤ q → va_A (wC V ad r1 r2 r3 nY ix bu np st sr sx tk rn sh sn yw nw yo ce wo po ne cs sv mk sp rs bg dp) sz q := fun q h => Or.inr (by rw [← hv.2.1]; exact h)
  refine g_iload_n E d_Pa_enter_0 rfl 2 rfl ?_
  refine g_nif_eq E 17 d_Pa_enter_1 (by decide) (by omega) (fun h1 => ?_) (fun h1 => ?_)
  · refine g_aload_n E d_Pa_enter_17 rfl 0 rfl ?_
    refine g_iload_n E d_Pa_enter_18 rfl 1 rfl ?_
    refine gwVv (As := [.int (nI i)]) (rest := []) (w' := wC V ad r1 r2 r3 nY ix bu np st sr sx tk rn (beg (sr i)) sn 0 nw yo ce wo po ne cs sv mk sp rs bg dp) (mc := 0) (ms := 0) E hA0 4 rfl rfl (C_Pa_begin l i (by omega) (by omega)) (cs_Pa_56 E rfl rfl ⟨Nat.le_of_ble_eq_true rfl, Nat.le_of_ble_eq_true rfl⟩) rfl rfl (Nat.le_of_ble_eq_true rfl) ⟨Nat.zero_le _, Nat.zero_le _⟩ d_Pa_enter_19 ?_
    refine g_goto E 30 d_Pa_enter_22 (by decide) ?_
    refine g_ws (ws' := wC V ad r1 r2 r3 nY ix bu np st sr sx tk rn (if enB (rn i) y then beg (sr i) else wrV sh (sx i) (st i) sh) (if enB (rn i) y then sn else wrV sh (sx i) (st i) sn) (if enB (rn i) y then 0 else yw + 1) nw yo ce wo po ne cs sv mk sp rs bg dp) (by simp [enB, h1]) ?_
    exact g_vret E hr hlk d_Pa_enter_30 (gq_wv (w1 := fun _ => wC V ad r1 r2 r3 nY ix bu np st sr sx tk rn (if enB (rn i) y then beg (sr i) else wrV sh (sx i) (st i) sh) (if enB (rn i) y then sn else wrV sh (sx i) (st i) sn) (if enB (rn i) y then 0 else yw + 1) nw yo ce wo po ne cs sv mk sp rs bg dp) () trivial)
  · refine g_aload_n E d_Pa_enter_4 rfl 0 rfl ?_
    refine gf_Pa_24 E gO_w 4 rfl rfl d_Pa_enter_5 ?_
    refine g_iload_n E d_Pa_enter_8 rfl 1 rfl ?_
    refine g_ldN E gO_w 9 rfl (by omega) (by decide) d_Pa_enter_9 ?_
    refine g_iload_n E d_Pa_enter_10 rfl 2 rfl ?_
    refine gpNi (As := [.int (nI (rn i)), .int (nI y)]) (rest := []) E gO_w (C_CY_holds l (rn i) y (by omega) (by omega)) (cs_Pa_50 E rfl rfl ⟨Nat.le_of_ble_eq_true rfl, Nat.le_of_ble_eq_true rfl⟩) rfl rfl (Nat.le_of_ble_eq_true rfl) ⟨Nat.zero_le _, Nat.zero_le _⟩ d_Pa_enter_11 ?_
    refine g_bif_eq E 25 d_Pa_enter_14 (by decide) (fun h2 => ?_) (fun h2 => ?_)
    · refine g_aload_n E d_Pa_enter_25 rfl 0 rfl ?_
      refine g_iload_n E d_Pa_enter_26 rfl 1 rfl ?_
      refine gwVv (As := [.int (nI i)]) (rest := []) (w' := wC V ad r1 r2 r3 nY ix bu np st sr sx tk rn (wrV sh (sx i) (st i) sh) (wrV sh (sx i) (st i) sn) (yw + 1) nw yo ce wo po ne cs sv mk sp rs bg dp) (mc := 0) (ms := 0) E hA0 4 rfl rfl (C_Pa_wear l i (by omega) (by omega) hx) (cs_Pa_60 E rfl rfl ⟨Nat.le_of_ble_eq_true rfl, Nat.le_of_ble_eq_true rfl⟩) rfl rfl (Nat.le_of_ble_eq_true rfl) ⟨Nat.zero_le _, Nat.zero_le _⟩ d_Pa_enter_27 ?_
      refine g_ws (ws' := wC V ad r1 r2 r3 nY ix bu np st sr sx tk rn (if enB (rn i) y then beg (sr i) else wrV sh (sx i) (st i) sh) (if enB (rn i) y then sn else wrV sh (sx i) (st i) sn) (if enB (rn i) y then 0 else yw + 1) nw yo ce wo po ne cs sv mk sp rs bg dp) (by simp [enB, h1, h2]) ?_
      exact g_vret E hr hlk d_Pa_enter_30 (gq_wv (w1 := fun _ => wC V ad r1 r2 r3 nY ix bu np st sr sx tk rn (if enB (rn i) y then beg (sr i) else wrV sh (sx i) (st i) sh) (if enB (rn i) y then sn else wrV sh (sx i) (st i) sn) (if enB (rn i) y then 0 else yw + 1) nw yo ce wo po ne cs sv mk sp rs bg dp) () trivial)
    · refine g_aload_n E d_Pa_enter_17 rfl 0 rfl ?_
      refine g_iload_n E d_Pa_enter_18 rfl 1 rfl ?_
      refine gwVv (As := [.int (nI i)]) (rest := []) (w' := wC V ad r1 r2 r3 nY ix bu np st sr sx tk rn (beg (sr i)) sn 0 nw yo ce wo po ne cs sv mk sp rs bg dp) (mc := 0) (ms := 0) E hA0 4 rfl rfl (C_Pa_begin l i (by omega) (by omega)) (cs_Pa_56 E rfl rfl ⟨Nat.le_of_ble_eq_true rfl, Nat.le_of_ble_eq_true rfl⟩) rfl rfl (Nat.le_of_ble_eq_true rfl) ⟨Nat.zero_le _, Nat.zero_le _⟩ d_Pa_enter_19 ?_
      refine g_goto E 30 d_Pa_enter_22 (by decide) ?_
      refine g_ws (ws' := wC V ad r1 r2 r3 nY ix bu np st sr sx tk rn (if enB (rn i) y then beg (sr i) else wrV sh (sx i) (st i) sh) (if enB (rn i) y then sn else wrV sh (sx i) (st i) sn) (if enB (rn i) y then 0 else yw + 1) nw yo ce wo po ne cs sv mk sp rs bg dp) (by simp [enB, h1, h2]) ?_
      exact g_vret E hr hlk d_Pa_enter_30 (gq_wv (w1 := fun _ => wC V ad r1 r2 r3 nY ix bu np st sr sx tk rn (if enB (rn i) y then beg (sr i) else wrV sh (sx i) (st i) sh) (if enB (rn i) y then sn else wrV sh (sx i) (st i) sn) (if enB (rn i) y then 0 else yw + 1) nw yo ce wo po ne cs sv mk sp rs bg dp) () trivial)

set_option maxHeartbeats 4000000 in
set_option maxRecDepth 100000 in
theorem C_Pa_goTo (l : Launch) {V : gV} {ad r1 r2 r3 : Nat → Nat} {nY : Nat} {ix bu : Nat → Nat} {np : Nat} {st sr : Nat → Nat} {sx tk : Nat → Nat → Nat} {rn sh sn : Nat → Nat} {yw nw : Nat} {yo ce wo : Nat → Nat} {po ne : Nat → Option Nat} {cs : Nat → Nat} {sv : Nat → Nat → Nat} {mk : Nat} {sp rs : Nat → Int} {bg dp : Nat} (i y : Nat) (hi : i < 12) (hy : y < 12) (hs : st i ≤ 4) (hr : sr i < 4) (hn : rn i < 4096) (hx : ∀ i j, sx i j ≤ 16) : mWv l y_Pa_goTo (w_Pa_goTo :: gt) rm_Pa_goTo V (wC V ad r1 r2 r3 nY ix bu np st sr sx tk rn sh sn yw nw yo ce wo po ne cs sv mk sp rs bg dp) [.ref (ad 4), .int (nI i), .int (nI y)] (wC V ad r1 r2 r3 nY ix bu np st sr sx tk rn ((eY (sr i) (sx i) (st i) (rn i) sh sn yw (y + 1)).1) ((eY (sr i) (sx i) (st i) (rn i) sh sn yw (y + 1)).2.2) ((eY (sr i) (sx i) (st i) (rn i) sh sn yw (y + 1)).2.1) nw yo ce wo po ne cs sv mk sp rs bg dp) 0 0 := by
  intro sz
  refine gMet (V := V) (As := [.ref (ad 4), .int (nI i), .int (nI y)]) (cc := c_Pa_goTo) (maxL := 4) (ret := none) (by decide) rfl (Nat.le_of_ble_eq_true rfl) (fun a U h => ⟨h.1, h.2.2.2.1⟩) ?_
  intro p e s m below meth c E hr hlk hnm hv
  refine g_toW (sz := sz) (w := wC V ad r1 r2 r3 nY ix bu np st sr sx tk rn sh sn yw nw yo ce wo po ne cs sv mk sp rs bg dp) hv.2.2.1 hv.2.2.2.2 ?_
  have hA0 : ∀ q : Nat, s.heap.size ≤ q → va_A (wC V ad r1 r2 r3 nY ix bu np st sr sx tk rn sh sn yw nw yo ce wo po ne cs sv mk sp rs bg dp) sz q := fun q h => Or.inr (by rw [← hv.2.1]; exact h)
  refine g_iconst (v := nI 0) E d_Pa_goTo_0 (by decide) ?_
  refine g_istore_n (lv' := [(3, .int (nI 0)), (0, .ref (ad 4)), (1, .int (nI i)), (2, .int (nI y))]) E d_Pa_goTo_1 rfl (by decide) rfl ?_
  refine g_lv [0, 1, 2, 3] rfl ?_
  refine gloop (α := Nat) (fun a_ => gW V _ _ (wC V ad r1 r2 r3 nY ix bu np st sr sx tk rn ((eY (sr i) (sx i) (st i) (rn i) sh sn yw a_).1) ((eY (sr i) (sx i) (st i) (rn i) sh sn yw a_).2.2) ((eY (sr i) (sx i) (st i) (rn i) sh sn yw a_).2.1) nw yo ce wo po ne cs sv mk sp rs bg dp)) (fun a_ => [(3, .int (nI a_)), (0, .ref (ad 4)), (1, .int (nI i)), (2, .int (nI y))]) (fun a_ => a_ ≤ y + 1) (fun a_ => y + 1 - a_) (0) (Nat.zero_le _) ?_
  rintro k hI_2 ih_2
  try dsimp only at hI_2 ih_2 ⊢
  refine g_iload_n E d_Pa_goTo_2 rfl 0 rfl ?_
  refine g_iload_n E d_Pa_goTo_3 rfl 3 rfl ?_
  refine g_ncmp_gt E 19 d_Pa_goTo_4 (by decide) (by omega) (by omega) (fun h1 => ?_) (fun h1 => ?_)
  · refine g_ws (ws' := wC V ad r1 r2 r3 nY ix bu np st sr sx tk rn ((eY (sr i) (sx i) (st i) (rn i) sh sn yw (y + 1)).1) ((eY (sr i) (sx i) (st i) (rn i) sh sn yw (y + 1)).2.2) ((eY (sr i) (sx i) (st i) (rn i) sh sn yw (y + 1)).2.1) nw yo ce wo po ne cs sv mk sp rs bg dp) (by rw [show k = y + 1 by omega]) ?_
    exact g_vret E hr hlk d_Pa_goTo_19 (gq_wv (w1 := fun _ => wC V ad r1 r2 r3 nY ix bu np st sr sx tk rn ((eY (sr i) (sx i) (st i) (rn i) sh sn yw (y + 1)).1) ((eY (sr i) (sx i) (st i) (rn i) sh sn yw (y + 1)).2.2) ((eY (sr i) (sx i) (st i) (rn i) sh sn yw (y + 1)).2.1) nw yo ce wo po ne cs sv mk sp rs bg dp) () trivial)
  · refine g_aload_n E d_Pa_goTo_7 rfl 1 rfl ?_
    refine g_iload_n E d_Pa_goTo_8 rfl 2 rfl ?_
    refine g_iload_n E d_Pa_goTo_9 rfl 0 rfl ?_
    refine gwVv (As := [.int (nI i), .int (nI k)]) (rest := []) (w' := wC V ad r1 r2 r3 nY ix bu np st sr sx tk rn (if enB (rn i) k then beg (sr i) else wrV ((eY (sr i) (sx i) (st i) (rn i) sh sn yw k).1) (sx i) (st i) ((eY (sr i) (sx i) (st i) (rn i) sh sn yw k).1)) (if enB (rn i) k then (eY (sr i) (sx i) (st i) (rn i) sh sn yw k).2.2 else wrV ((eY (sr i) (sx i) (st i) (rn i) sh sn yw k).1) (sx i) (st i) ((eY (sr i) (sx i) (st i) (rn i) sh sn yw k).2.2)) (if enB (rn i) k then 0 else ((eY (sr i) (sx i) (st i) (rn i) sh sn yw k).2.1) + 1) nw yo ce wo po ne cs sv mk sp rs bg dp) (mc := 0) (ms := 0) E hA0 4 rfl rfl (C_Pa_enter l i k (by omega) (by omega) (by omega) (by omega) (by omega) hx) (cs_Pa_46 E rfl rfl ⟨Nat.le_of_ble_eq_true rfl, Nat.le_of_ble_eq_true rfl⟩) rfl rfl (Nat.le_of_ble_eq_true rfl) ⟨Nat.zero_le _, Nat.zero_le _⟩ d_Pa_goTo_10 ?_
    refine g_iinc (lv' := [(3, .int (nI (k + 1))), (0, .ref (ad 4)), (1, .int (nI i)), (2, .int (nI y))]) E d_Pa_goTo_13 0 rfl (nI_inc _) (by decide) rfl ?_
    refine g_goto E 2 d_Pa_goTo_16 (by decide) ?_
    refine g_lv [0, 1, 2, 3] rfl ?_
    exact ih_2 (k + 1) (by (try dsimp only); omega) (by (try dsimp only); omega)

set_option maxHeartbeats 4000000 in
set_option maxRecDepth 100000 in
theorem C_Pa_careTaken (l : Launch) {V : gV} {ad r1 r2 r3 : Nat → Nat} {nY : Nat} {ix bu : Nat → Nat} {np : Nat} {st sr : Nat → Nat} {sx tk : Nat → Nat → Nat} {rn sh sn : Nat → Nat} {yw nw : Nat} {yo ce wo : Nat → Nat} {po ne : Nat → Option Nat} {cs : Nat → Nat} {sv : Nat → Nat → Nat} {mk : Nat} {sp rs : Nat → Int} {bg dp : Nat} (i : Nat) (hi : i < 12) (hs : st i ≤ 4) (ht : ∀ i j, tk i j ≤ 1000) (hb : sumN (fun a => sh a * tk i a) (st i) < 2 ^ 62) (hw : yw ≤ 11) : mPi l y_Pa_careTaken (w_Pa_careTaken :: gt) rm_Pa_careTaken V (wC V ad r1 r2 r3 nY ix bu np st sr sx tk rn sh sn yw nw yo ce wo po ne cs sv mk sp rs bg dp) [.ref (ad 4), .int (nI i)] (nI (sumN (fun a => sh a * tk i a) (st i) / 2 ^ (yw * 4))) := by
  refine gMet (V := V) (As := [.ref (ad 4), .int (nI i)]) (cc := c_Pa_careTaken) (maxL := 5) (ret := (some .int)) (by decide) rfl (Nat.le_of_ble_eq_true rfl) (fun a U h => ⟨h.1, h.2.2⟩) ?_
  intro p e s m below meth c E hr hlk hnm hv
  have hO := gO_r (locs1 := []) (ws := wC V ad r1 r2 r3 nY ix bu np st sr sx tk rn sh sn yw nw yo ce wo po ne cs sv mk sp rs bg dp) hv.2.1
  refine g_lconst (v := lN 0) E d_Pa_careTaken_0 (by decide) ?_
  refine g_lstore_n (lv' := [(2, .long (lN 0)), (0, .ref (ad 4)), (1, .int (nI i))]) E d_Pa_careTaken_1 rfl (by decide) rfl ?_
  refine g_iconst (v := nI 0) E d_Pa_careTaken_2 (by decide) ?_
  refine g_istore (lv' := [(4, .int (nI 0)), (2, .long (lN 0)), (0, .ref (ad 4)), (1, .int (nI i))]) E d_Pa_careTaken_3 (by decide) rfl ?_
  refine g_lv [0, 1, 2, 3] rfl ?_
  refine gloop (α := Nat × Nat) (fun a_ => gR s.heap []) (fun a_ => [(4, .int (nI a_.1)), (2, .long (lN a_.2)), (0, .ref (ad 4)), (1, .int (nI i))]) (fun a_ => a_.1 ≤ st i ∧ a_.2 = sumN (fun a => sh a * tk i a) a_.1) (fun a_ => st i - a_.1) (0, 0) (⟨Nat.zero_le _, rfl⟩) ?_
  rintro ⟨q, acc⟩ hI_5 ih_5
  try dsimp only at hI_5 ih_5 ⊢
  refine g_iload E d_Pa_careTaken_5 0 rfl ?_
  refine g_aload_n E d_Pa_careTaken_7 rfl 2 rfl ?_
  refine gf_Pa_9 E hO 4 rfl rfl d_Pa_careTaken_8 ?_
  refine g_iload_n E d_Pa_careTaken_11 rfl 3 rfl ?_
  refine g_ldN E hO 5 rfl (by omega) (by decide) d_Pa_careTaken_12 ?_
  refine g_ncmp_ge E 43 d_Pa_careTaken_13 (by decide) (by omega) (by omega) (fun h1 => ?_) (fun h1 => ?_)
  · refine g_lload_n E d_Pa_careTaken_43 rfl 1 rfl ?_
    refine g_aload_n E d_Pa_careTaken_44 rfl 2 rfl ?_
    refine gf_Pa_69 E hO 4 rfl rfl d_Pa_careTaken_45 ?_
    refine g_iconst (v := nI 4) E d_Pa_careTaken_48 (by decide) ?_
    refine g_imul E d_Pa_careTaken_49 ?_
    refine g_topi (pk_mul _ _) ?_
    refine g_lshr E d_Pa_careTaken_50 ?_
    refine g_topl (lN_shr (by rw [hI_5.2, show q = st i by omega]; exact hb) (by omega)) ?_
    refine g_l2i E d_Pa_careTaken_51 ?_
    refine g_topi (lN_i _) ?_
    exact g_iret E hr hlk d_Pa_careTaken_52 (gq_i (by rw [hI_5.2, show q = st i by omega]))
  · refine g_lload_n E d_Pa_careTaken_16 rfl 1 rfl ?_
    refine g_aload_n E d_Pa_careTaken_17 rfl 2 rfl ?_
    refine gf_Pa_27 E hO 4 rfl rfl d_Pa_careTaken_18 ?_
    refine g_iload E d_Pa_careTaken_21 0 rfl ?_
    refine g_ldL E hO 10 rfl (by omega) (by decide) d_Pa_careTaken_23 ?_
    refine g_aload_n E d_Pa_careTaken_24 rfl 2 rfl ?_
    refine gf_Pa_21 E hO 4 rfl rfl d_Pa_careTaken_25 ?_
    refine g_iload_n E d_Pa_careTaken_28 rfl 3 rfl ?_
    refine g_aaload E hO 8 rfl (by omega) (by decide) d_Pa_careTaken_29 ?_
    refine g_iload E d_Pa_careTaken_30 0 rfl ?_
    refine g_ldN E hO (34 + i) (wC_g2 (by omega)) (by omega) (by decide) d_Pa_careTaken_32 ?_
    refine g_i2l E d_Pa_careTaken_33 ?_
    refine g_topl (nI_l (Nat.lt_of_le_of_lt (ht _ _) (by decide))) ?_
    refine g_lmul E d_Pa_careTaken_34 ?_
    refine g_topl (lN_mul _ _) ?_
    refine g_ladd E d_Pa_careTaken_35 ?_
    refine g_topl (lN_add _ _) ?_
    refine g_lstore_n (lv' := [(2, .long (lN (acc + ((sh q) * (tk i q))))), (4, .int (nI q)), (0, .ref (ad 4)), (1, .int (nI i))]) E d_Pa_careTaken_36 rfl (by decide) rfl ?_
    refine g_iinc (lv' := [(4, .int (nI (q + 1))), (2, .long (lN (acc + ((sh q) * (tk i q))))), (0, .ref (ad 4)), (1, .int (nI i))]) E d_Pa_careTaken_37 1 rfl (nI_inc _) (by decide) rfl ?_
    refine g_goto E 5 d_Pa_careTaken_40 (by decide) ?_
    refine g_lv [0, 1, 2, 3] rfl ?_
    exact ih_5 (q + 1, acc + ((sh q) * (tk i q))) (⟨by (try dsimp only); omega, by (try dsimp only); rw [hI_5.2]; rfl⟩) (by (try dsimp only); omega)

/-- the state with the greatest share, of alike ones the greatest -/
def grS (sh : Nat → Nat) : Nat → Nat
  | 0 => 0
  | k + 1 => if sh (grS sh k) ≤ sh (k + 1) then k + 1 else grS sh k
theorem grS_le (sh : Nat → Nat) : ∀ k, grS sh k ≤ k
  | 0 => Nat.le_refl _
  | k + 1 => by
    have := grS_le sh k
    unfold grS
    split <;> omega

set_option maxHeartbeats 4000000 in
set_option maxRecDepth 100000 in
theorem C_Pa_greatestState (l : Launch) {V : gV} {ad r1 r2 r3 : Nat → Nat} {nY : Nat} {ix bu : Nat → Nat} {np : Nat} {st sr : Nat → Nat} {sx tk : Nat → Nat → Nat} {rn sh sn : Nat → Nat} {yw nw : Nat} {yo ce wo : Nat → Nat} {po ne : Nat → Option Nat} {cs : Nat → Nat} {sv : Nat → Nat → Nat} {mk : Nat} {sp rs : Nat → Int} {bg dp : Nat} (i : Nat) (hi : i < 12) (hs1 : 2 ≤ st i) (hs : st i ≤ 4) (hb : ∀ a, a < 4 → sh a < 2 ^ 62) : mPi l y_Pa_greatestState (w_Pa_greatestState :: gt) rm_Pa_greatestState V (wC V ad r1 r2 r3 nY ix bu np st sr sx tk rn sh sn yw nw yo ce wo po ne cs sv mk sp rs bg dp) [.ref (ad 4), .int (nI i)] (nI (grS sh (st i - 1))) := by
  refine gMet (V := V) (As := [.ref (ad 4), .int (nI i)]) (cc := c_Pa_greatestState) (maxL := 4) (ret := (some .int)) (by decide) rfl (Nat.le_of_ble_eq_true rfl) (fun a U h => ⟨h.1, h.2.2⟩) ?_
  intro p e s m below meth c E hr hlk hnm hv
  have hO := gO_r (locs1 := []) (ws := wC V ad r1 r2 r3 nY ix bu np st sr sx tk rn sh sn yw nw yo ce wo po ne cs sv mk sp rs bg dp) hv.2.1
  refine g_iconst (v := nI 0) E d_Pa_greatestState_0 (by decide) ?_
  refine g_istore_n (lv' := [(2, .int (nI 0)), (0, .ref (ad 4)), (1, .int (nI i))]) E d_Pa_greatestState_1 rfl (by decide) rfl ?_
  refine g_iconst (v := nI 1) E d_Pa_greatestState_2 (by decide) ?_
  refine g_istore_n (lv' := [(3, .int (nI 1)), (2, .int (nI 0)), (0, .ref (ad 4)), (1, .int (nI i))]) E d_Pa_greatestState_3 rfl (by decide) rfl ?_
  refine g_lv [0, 1, 2, 3] rfl ?_
  refine gloop (α := Nat × Nat) (fun a_ => gR s.heap []) (fun a_ => [(3, .int (nI (a_.1 + 1))), (2, .int (nI a_.2)), (0, .ref (ad 4)), (1, .int (nI i))]) (fun a_ => a_.1 + 1 ≤ st i ∧ a_.2 = grS sh a_.1) (fun a_ => st i - a_.1) (0, 0) (⟨by (try dsimp only); omega, rfl⟩) ?_
  rintro ⟨k, b⟩ hI_4 ih_4
  try dsimp only at hI_4 ih_4 ⊢
  refine g_iload_n E d_Pa_greatestState_4 rfl 0 rfl ?_
  refine g_aload_n E d_Pa_greatestState_5 rfl 2 rfl ?_
  refine gf_Pa_9 E hO 4 rfl rfl d_Pa_greatestState_6 ?_
  refine g_iload_n E d_Pa_greatestState_9 rfl 3 rfl ?_
  refine g_ldN E hO 5 rfl (by omega) (by decide) d_Pa_greatestState_10 ?_
  refine g_ncmp_ge E 38 d_Pa_greatestState_11 (by decide) (by omega) (by omega) (fun h1 => ?_) (fun h1 => ?_)
  · refine g_iload_n E d_Pa_greatestState_38 rfl 1 rfl ?_
    exact g_iret E hr hlk d_Pa_greatestState_39 (gq_i (by rw [hI_4.2, show k = st i - 1 by omega]))
  · have g1 := grS_le sh k
    rw [← hI_4.2] at g1
    have g2 := hb (k + 1) (by omega)
    have g3 := hb b (by omega)
    refine g_aload_n E d_Pa_greatestState_14 rfl 2 rfl ?_
    refine gf_Pa_27 E hO 4 rfl rfl d_Pa_greatestState_15 ?_
    refine g_iload_n E d_Pa_greatestState_18 rfl 0 rfl ?_
    refine g_ldL E hO 10 rfl (by omega) (by decide) d_Pa_greatestState_19 ?_
    refine g_aload_n E d_Pa_greatestState_20 rfl 2 rfl ?_
    refine gf_Pa_27 E hO 4 rfl rfl d_Pa_greatestState_21 ?_
    refine g_iload_n E d_Pa_greatestState_24 rfl 1 rfl ?_
    refine g_ldL E hO 10 rfl (by omega) (by decide) d_Pa_greatestState_25 ?_
    refine g_lcmp E d_Pa_greatestState_26 ?_
    refine g_if_lt E 32 d_Pa_greatestState_27 (by decide) (fun h2 => ?_) (fun h2 => ?_)
    · rw [lg_lt, pk_lLT (by omega) (by omega)] at h2
      have h2 := Nat.not_le.mpr h2
      refine g_iinc (lv' := [(3, .int (nI ((k + 1) + 1))), (2, .int (nI b)), (0, .ref (ad 4)), (1, .int (nI i))]) E d_Pa_greatestState_32 0 rfl (nI_inc _) (by decide) rfl ?_
      refine g_goto E 4 d_Pa_greatestState_35 (by decide) ?_
      refine g_lv [0, 1, 2, 3] rfl ?_
      exact ih_4 (k + 1, b) (⟨by (try dsimp only); omega, by (try dsimp only); rw [grS, ← hI_4.2]; simp [h2]⟩) (by (try dsimp only); omega)
    · rw [lg_lt, pk_lLT (by omega) (by omega)] at h2
      have h2 := Nat.not_lt.mp h2
      refine g_iload_n E d_Pa_greatestState_30 rfl 0 rfl ?_
      refine g_istore_n (lv' := [(2, .int (nI (k + 1))), (3, .int (nI (k + 1))), (0, .ref (ad 4)), (1, .int (nI i))]) E d_Pa_greatestState_31 rfl (by decide) rfl ?_
      refine g_iinc (lv' := [(3, .int (nI ((k + 1) + 1))), (2, .int (nI (k + 1))), (0, .ref (ad 4)), (1, .int (nI i))]) E d_Pa_greatestState_32 1 rfl (nI_inc _) (by decide) rfl ?_
      refine g_goto E 4 d_Pa_greatestState_35 (by decide) ?_
      refine g_lv [0, 1, 2, 3] rfl ?_
      exact ih_4 (k + 1, k + 1) (⟨by (try dsimp only); omega, by (try dsimp only); rw [grS, ← hI_4.2]; simp [h2]⟩) (by (try dsimp only); omega)

/-- the rows of a new part: what stays is 16 -/
def dgN (M : Nat → Nat) : Nat → Nat → Nat
  | 0 => M
  | k + 1 => va_up (dgN M k) (k * 4 + k) 16

set_option maxHeartbeats 4000000 in
set_option maxRecDepth 100000 in
theorem C_Pa_add (l : Launch) {V : gV} {ad r1 r2 r3 : Nat → Nat} {nY : Nat} {ix bu : Nat → Nat} {np : Nat} {st sr : Nat → Nat} {sx tk : Nat → Nat → Nat} {rn sh sn : Nat → Nat} {yw nw : Nat} {yo ce wo : Nat → Nat} {po ne : Nat → Option Nat} {cs : Nat → Nat} {sv : Nat → Nat → Nat} {mk : Nat} {sp rs : Nat → Int} {bg dp : Nat} (k r : Nat) (hnp : np < 12) (hk : k ≤ 4) : mWi l y_Pa_add (w_Pa_add :: gt) rm_Pa_add V (wC V ad r1 r2 r3 nY ix bu np st sr sx tk rn sh sn yw nw yo ce wo po ne cs sv mk sp rs bg dp) [.ref (ad 4), .int (nI k), .int (nI r)] (nI np) (wC V ad r1 r2 r3 nY ix bu (np + 1) (va_up st np k) (va_up sr np r) (va_up sx np (dgN (sx np) k)) tk rn sh sn yw nw yo ce wo po ne cs sv mk sp rs bg dp) 0 0 := by
  intro sz
  refine gMet (V := V) (As := [.ref (ad 4), .int (nI k), .int (nI r)]) (cc := c_Pa_add) (maxL := 5) (ret := (some .int)) (by decide) rfl (Nat.le_of_ble_eq_true rfl) (fun a U h => ⟨h.1, h.2.2.2.1⟩) ?_
  intro p e s m below meth c E hr hlk hnm hv
  refine g_toW (sz := sz) (w := wC V ad r1 r2 r3 nY ix bu np st sr sx tk rn sh sn yw nw yo ce wo po ne cs sv mk sp rs bg dp) hv.2.2.1 hv.2.2.2.2 ?_
  have hA0 : ∀ q : Nat, s.heap.size ≤ q → va_A (wC V ad r1 r2 r3 nY ix bu np st sr sx tk rn sh sn yw nw yo ce wo po ne cs sv mk sp rs bg dp) sz q := fun q h => Or.inr (by rw [← hv.2.1]; exact h)
  refine g_aload_n E d_Pa_add_0 rfl 0 rfl ?_
  refine gf_Pa_34 E gO_w 4 rfl rfl d_Pa_add_1 ?_
  refine g_istore_n (lv' := [(3, .int (nI np)), (0, .ref (ad 4)), (1, .int (nI k)), (2, .int (nI r))]) E d_Pa_add_4 rfl (by decide) rfl ?_
  refine g_aload_n E d_Pa_add_5 rfl 1 rfl ?_
  refine g_dup E d_Pa_add_6 rfl ?_
  refine gf_Pa_34 E gO_w 4 rfl rfl d_Pa_add_7 ?_
  refine g_iconst (v := nI 1) E d_Pa_add_10 (by decide) ?_
  refine g_iadd E d_Pa_add_11 ?_
  refine g_topi (nI_add _ _) ?_
  refine pf_Pa_34 (ws' := wC V ad r1 r2 r3 nY ix bu (np + 1) st sr sx tk rn sh sn yw nw yo ce wo po ne cs sv mk sp rs bg dp) E 4 rfl rfl rfl (Nat.le_of_ble_eq_true rfl) rfl d_Pa_add_12 ?_
  refine g_aload_n E d_Pa_add_15 rfl 1 rfl ?_
  refine gf_Pa_9 E gO_w 4 rfl rfl d_Pa_add_16 ?_
  refine g_iload_n E d_Pa_add_19 rfl 0 rfl ?_
  refine g_iload_n E d_Pa_add_20 rfl 2 rfl ?_
  refine g_stN (ws' := wC V ad r1 r2 r3 nY ix bu (np + 1) (va_up st np k) sr sx tk rn sh sn yw nw yo ce wo po ne cs sv mk sp rs bg dp) E 5 rfl (by omega) (by decide) rfl d_Pa_add_21 ?_
  refine g_aload_n E d_Pa_add_22 rfl 1 rfl ?_
  refine gf_Pa_13 E gO_w 4 rfl rfl d_Pa_add_23 ?_
  refine g_iload_n E d_Pa_add_26 rfl 0 rfl ?_
  refine g_iload_n E d_Pa_add_27 rfl 3 rfl ?_
  refine g_stN (ws' := wC V ad r1 r2 r3 nY ix bu (np + 1) (va_up st np k) (va_up sr np r) sx tk rn sh sn yw nw yo ce wo po ne cs sv mk sp rs bg dp) E 6 rfl (by omega) (by decide) rfl d_Pa_add_28 ?_
  refine g_iconst (v := nI 0) E d_Pa_add_29 (by decide) ?_
  refine g_istore (lv' := [(4, .int (nI 0)), (3, .int (nI np)), (0, .ref (ad 4)), (1, .int (nI k)), (2, .int (nI r))]) E d_Pa_add_30 (by decide) rfl ?_
  refine g_lv [0, 2, 3, 4, 1] rfl ?_
  refine g_ws (ws' := wC V ad r1 r2 r3 nY ix bu (np + 1) (va_up st np k) (va_up sr np r) (va_up sx np (dgN (sx np) 0)) tk rn sh sn yw nw yo ce wo po ne cs sv mk sp rs bg dp) (by rw [dgN, va_id]) ?_
  refine gloop (α := Nat) (fun a_ => gW V _ _ (wC V ad r1 r2 r3 nY ix bu (np + 1) (va_up st np k) (va_up sr np r) (va_up sx np (dgN (sx np) a_)) tk rn sh sn yw nw yo ce wo po ne cs sv mk sp rs bg dp)) (fun a_ => [(4, .int (nI a_)), (0, .ref (ad 4)), (1, .int (nI k)), (2, .int (nI r)), (3, .int (nI np))]) (fun a_ => a_ ≤ k) (fun a_ => k - a_) (0) (Nat.zero_le _) ?_
  rintro j hI_32 ih_32
  try dsimp only at hI_32 ih_32 ⊢
  refine g_iload E d_Pa_add_32 0 rfl ?_
  refine g_iload_n E d_Pa_add_34 rfl 2 rfl ?_
  refine g_ncmp_ge E 55 d_Pa_add_35 (by decide) (by omega) (by omega) (fun h1 => ?_) (fun h1 => ?_)
  · refine g_iload_n E d_Pa_add_55 rfl 4 rfl ?_
    refine g_ws (ws' := wC V ad r1 r2 r3 nY ix bu (np + 1) (va_up st np k) (va_up sr np r) (va_up sx np (dgN (sx np) k)) tk rn sh sn yw nw yo ce wo po ne cs sv mk sp rs bg dp) (by rw [show j = k by omega]) ?_
    exact g_iret E hr hlk d_Pa_add_56 (gq_wi (w1 := fun _ => wC V ad r1 r2 r3 nY ix bu (np + 1) (va_up st np k) (va_up sr np r) (va_up sx np (dgN (sx np) k)) tk rn sh sn yw nw yo ce wo po ne cs sv mk sp rs bg dp) () (rfl))
  · refine g_aload_n E d_Pa_add_38 rfl 1 rfl ?_
    refine g_iload_n E d_Pa_add_39 rfl 4 rfl ?_
    refine g_iload E d_Pa_add_40 0 rfl ?_
    refine g_iload E d_Pa_add_42 0 rfl ?_
    refine g_bipush (v := nI 16) E d_Pa_add_44 (by decide) ?_
    refine gwVv (As := [.int (nI np), .int (nI j), .int (nI j), .int (nI 16)]) (rest := []) (w' := wC V ad r1 r2 r3 nY ix bu (np + 1) (va_up st np k) (va_up sr np r) (mUp (va_up sx np (dgN (sx np) j)) np (j * 4 + j) 16) tk rn sh sn yw nw yo ce wo po ne cs sv mk sp rs bg dp) (mc := 0) (ms := 0) E hA0 4 rfl rfl (C_Pa_setGoing l np j j 16 (by omega) (by omega) (by omega)) (cs_Pa_42 E rfl rfl ⟨Nat.le_of_ble_eq_true rfl, Nat.le_of_ble_eq_true rfl⟩) rfl rfl (Nat.le_of_ble_eq_true rfl) ⟨Nat.zero_le _, Nat.zero_le _⟩ d_Pa_add_46 ?_
    refine g_iinc (lv' := [(4, .int (nI (j + 1))), (0, .ref (ad 4)), (1, .int (nI k)), (2, .int (nI r)), (3, .int (nI np))]) E d_Pa_add_49 0 rfl (nI_inc _) (by decide) rfl ?_
    refine g_goto E 32 d_Pa_add_52 (by decide) ?_
    refine g_lv [0, 1, 2, 3, 4] rfl ?_
    refine g_ws (ws' := wC V ad r1 r2 r3 nY ix bu (np + 1) (va_up st np k) (va_up sr np r) (va_up sx np (dgN (sx np) (j + 1))) tk rn sh sn yw nw yo ce wo po ne cs sv mk sp rs bg dp) (by rw [dgN, mUp, va_up_self, bx_uu]) ?_
    exact ih_32 (j + 1) (by (try dsimp only); omega) (by (try dsimp only); omega)
